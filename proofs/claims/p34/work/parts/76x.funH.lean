section
set_option maxHeartbeats 4000000 in
set_option maxRecDepth 100000 in
theorem c_F_M_wanted (l : Launch) (D : va_G) (cI cJ cZ cP cS : ClassId) (po : zPool) (m0 mrf mki mpa mta mla msl mco mhe mso msi msh mce mca mwo mnu mte mwa mke mma mth mtr : Nat) (npu nte nat_ nde nto nse nhu nga nsd nfa nba npl nen nnu nwr nra nik : Int32) (ghe : Nat → Int32) (s_ : Int32) (hy0 : 0 ≤ npu.toInt) (hy1 : npu.toInt ≤ 8) (hy2 : 4 ≤ nte.toInt) (hy3 : nte.toInt ≤ 40) (hy4 : 0 ≤ nat_.toInt) (hy5 : nat_.toInt ≤ 40) (hy6 : 0 ≤ nde.toInt) (hy7 : nde.toInt ≤ 24) (hy8 : 0 ≤ nhu.toInt) (hy9 : nhu.toInt ≤ 9) (hy10 : 0 ≤ nra.toInt) (hy11 : nra.toInt ≤ 2000) (hy12 : 0 ≤ nik.toInt) (hy13 : nik.toInt ≤ 1) (hp_ghe : zRg ghe (0) 2) : Met l yX8_wanted wsX8_wanted ({ frames := 1, cells := 0, slots := 0, locals := 21 }) (va_Pc [.ref m0, .int s_] (zR D (zKT cI cJ cZ cP cS) po [(zMO m0 npu nte nat_ nde nto nse nhu nga nsd nfa mrf mki mpa mta mla msl mco mhe mso msi msh mce mca mwo mnu mte nba npl nen nnu nwr mwa mke mma mth mtr nra nik), (mhe, .inl (cI, 8, .inl ghe))])) (vp_Si (fun r => -3 ≤ r.toInt ∧ r.toInt ≤ 0 ∧ ((((s_.toInt < 0 ∨ 7 < s_.toInt) ∧ r.toInt = -1) ∨ ((0 ≤ s_.toInt ∧ s_.toInt ≤ 7) ∧ (((ghe s_.toNatClampNeg).toInt = 2 ∧ r.toInt = -2) ∨ ((ghe s_.toNatClampNeg).toInt = 0 ∧ r.toInt = -3) ∨ ((ghe s_.toNatClampNeg).toInt = 1 ∧ r.toInt = 0))))))) 0 0 (fun _ => False) := by
  refine Met.ofW (cc := cX8_wanted) (maxL := 2) (ret := (some .int)) (by decide) rfl ?_
  intro p e s m args below meth c s₁ B hml hv
  obtain ⟨rfl, hP, hK, hN, hZ⟩ := hv
  have hx := B.exec
  have hb := B.bytes
  have hr := B.returns
  have hts := atoms_spec (ws := wsX8_wanted) B.pre
  have hown : s.vm.findClass RX8 = some m.cls := findClass_of_methodNamed B.named
  have hlocks := B.notSynchronized
  have hl := lv_entry ([.ref m0, .int s_]) (n := 2) (Nat.le_of_ble_eq_true rfl)
  rw [lg_entry_eq]
  generalize (lg_sl ([.ref m0, .int s_]) ++ List.replicate (2 - (lg_sl ([.ref m0, .int s_])).length) Slot.unset).toArray = ls at hl ⊢
  replace hl : lv_has ls 2 [(0, .ref m0), (1, .int s_)] := hl
  refine lv_aload_n hx hb dX8_wanted_0 rfl (lv_at hl 0 rfl) ?_
  refine lv_iload_n hx hb dX8_wanted_1 rfl (lv_at hl 1 rfl) ?_
  refine zc_V (As := [.int s_]) (rest := []) ⟨hx, hb, hml, hown, hts⟩ (c_M_isShelf l D cI cJ cZ cP cS po m0 mrf mki mpa mta mla msl mco mhe mso msi msh mce mca mwo mnu mte mwa mke mma mth mtr (npu) (nte) (nat_) (nde) (nto) (nse) (nhu) (nga) (nsd) (nfa) (nba) (npl) (nen) (nnu) (nwr) (nra) (nik) (s_) hy0 hy1 hy2 hy3 hy4 hy5 hy6 hy7 hy8 hy9 hy10 hy11 hy12 hy13) (cwV 1 hts gX8_wanted_X8_isShelf rfl rfl rfl ⟨rfl, dh_X8_isShelf⟩ ⟨Nat.le_of_ble_eq_true rfl, Nat.le_of_ble_eq_true rfl⟩) hK hN hZ hP (hP.sub [0] rfl) (va_recv (q := (RX8, TX8, 38)) hK hP (ci := 8) (q0 := 0) rfl rfl) rfl hl.1 rfl (Nat.le_of_ble_eq_true rfl) dX8_wanted_2 ⟨Nat.le_of_ble_eq_true rfl, Nat.le_of_ble_eq_true rfl⟩ (fun r_1 hr_1 => ?_)
  rcases hr_1 with ⟨rfl, g_2⟩ | ⟨rfl, g_3, g_4⟩ | ⟨rfl, g_5, g_6⟩
  · refine lv_if_ne (tgt := 12) hx hb dX8_wanted_5 (by decide) (fun c_7 => ?_) (fun c_7 => ?_)
    · exact absurd c_7 (by decide)
    · refine lv_iconst (v := (-1)) hx hb dX8_wanted_8 (by decide) ?_
      refine lv_goto (tgt := 42) hx hb dX8_wanted_9 (by decide) ?_
      exact W.iret (v := (-1)) hx hb hr (fun t ht hW => ⟨(-1), rfl, ⟨by decide, by decide, (show (((s_.toInt < 0 ∨ 7 < s_.toInt) ∧ ((-1) : Int32).toInt = -1) ∨ ((0 ≤ s_.toInt ∧ s_.toInt ≤ 7) ∧ (((ghe s_.toNatClampNeg).toInt = 2 ∧ ((-1) : Int32).toInt = -2) ∨ ((ghe s_.toNatClampNeg).toInt = 0 ∧ ((-1) : Int32).toInt = -3) ∨ ((ghe s_.toNatClampNeg).toInt = 1 ∧ ((-1) : Int32).toInt = 0)))) from by (have k9 : ((-1) : Int32).toInt = -1 := (by decide); omega))⟩, ht⟩) (fun q hq => by cases hq) dX8_wanted_42
  · refine lv_if_ne (tgt := 12) hx hb dX8_wanted_5 (by decide) (fun c_8 => ?_) (fun c_8 => ?_)
    · exact absurd c_8 (by decide)
    · refine lv_iconst (v := (-1)) hx hb dX8_wanted_8 (by decide) ?_
      refine lv_goto (tgt := 42) hx hb dX8_wanted_9 (by decide) ?_
      exact W.iret (v := (-1)) hx hb hr (fun t ht hW => ⟨(-1), rfl, ⟨by decide, by decide, (show (((s_.toInt < 0 ∨ 7 < s_.toInt) ∧ ((-1) : Int32).toInt = -1) ∨ ((0 ≤ s_.toInt ∧ s_.toInt ≤ 7) ∧ (((ghe s_.toNatClampNeg).toInt = 2 ∧ ((-1) : Int32).toInt = -2) ∨ ((ghe s_.toNatClampNeg).toInt = 0 ∧ ((-1) : Int32).toInt = -3) ∨ ((ghe s_.toNatClampNeg).toInt = 1 ∧ ((-1) : Int32).toInt = 0)))) from by (have k9 : ((-1) : Int32).toInt = -1 := (by decide); omega))⟩, ht⟩) (fun q hq => by cases hq) dX8_wanted_42
  · refine lv_if_ne (tgt := 12) hx hb dX8_wanted_5 (by decide) (fun c_9 => ?_) (fun c_9 => ?_)
    · refine lv_aload_n hx hb dX8_wanted_12 rfl (lv_at hl 0 rfl) ?_
      refine va_get (D := D) (ci := 8) (v := .ref mhe) (C := RX8) (T := TX8) (N := 38) hx hb hts hi_X8_wanted_8 hown hK hP 0 rfl rfl 17 (by decide) (hts (.fieldLink RX8 47 "TheLiningsInItModel" "held" "[I") (List.mem_of_getElem? (i := 1) rfl)) (fun _ h9 => h9) rfl dX8_wanted_13 ?_
      refine lv_iload_n hx hb dX8_wanted_16 rfl (lv_at hl 1 rfl) ?_
      refine va_iald hx hb hK hP 1 0 rfl rfl (zf_in (by omega) (by omega)) dX8_wanted_17 ?_
      refine lv_topi (fun x_10 ex_10 => ?_)
      have bx_10 : 0 ≤ x_10.toInt ∧ x_10.toInt ≤ 2 := by rw [ex_10]; exact hp_ghe _
      refine lv_iconst (v := 2) hx hb dX8_wanted_18 (by decide) ?_
      refine lv_icmp_ne (tgt := 27) hx hb dX8_wanted_19 (by decide) (fun c_11 => ?_) (fun c_11 => ?_)
      · have fc_11 : x_10.toInt ≠ 2 := zf_ne c_11 rfl (by decide)
        refine lv_aload_n hx hb dX8_wanted_27 rfl (lv_at hl 0 rfl) ?_
        refine va_get (D := D) (ci := 8) (v := .ref mhe) (C := RX8) (T := TX8) (N := 38) hx hb hts hi_X8_wanted_8 hown hK hP 0 rfl rfl 17 (by decide) (hts (.fieldLink RX8 47 "TheLiningsInItModel" "held" "[I") (List.mem_of_getElem? (i := 1) rfl)) (fun _ h9 => h9) rfl dX8_wanted_28 ?_
        refine lv_iload_n hx hb dX8_wanted_31 rfl (lv_at hl 1 rfl) ?_
        refine va_iald hx hb hK hP 1 0 rfl rfl (zf_in (by omega) (by omega)) dX8_wanted_32 ?_
        refine lv_topi (fun y_12 ey_12 => ?_)
        obtain rfl : x_10 = y_12 := ex_10.trans ey_12.symm
        refine lv_if_ne (tgt := 41) hx hb dX8_wanted_33 (by decide) (fun c_13 => ?_) (fun c_13 => ?_)
        · have fc_13 : x_10.toInt ≠ 0 := zf_ne c_13 rfl (by decide)
          refine lv_iconst (v := 0) hx hb dX8_wanted_41 (by decide) ?_
          exact W.iret (v := 0) hx hb hr (fun t ht hW => ⟨0, rfl, ⟨by decide, by decide, (show (((s_.toInt < 0 ∨ 7 < s_.toInt) ∧ (0 : Int32).toInt = -1) ∨ ((0 ≤ s_.toInt ∧ s_.toInt ≤ 7) ∧ (((ghe s_.toNatClampNeg).toInt = 2 ∧ (0 : Int32).toInt = -2) ∨ ((ghe s_.toNatClampNeg).toInt = 0 ∧ (0 : Int32).toInt = -3) ∨ ((ghe s_.toNatClampNeg).toInt = 1 ∧ (0 : Int32).toInt = 0)))) from by (have k9 : (0 : Int32).toInt = 0 := (by decide); rw [← ex_10]; omega))⟩, ht⟩) (fun q hq => by cases hq) dX8_wanted_42
        · have fc_13 : x_10.toInt = 0 := zf_eq c_13 rfl (by decide)
          refine lv_bipush (v := (-3)) hx hb dX8_wanted_36 (by decide) ?_
          refine lv_goto (tgt := 42) hx hb dX8_wanted_38 (by decide) ?_
          exact W.iret (v := (-3)) hx hb hr (fun t ht hW => ⟨(-3), rfl, ⟨by decide, by decide, (show (((s_.toInt < 0 ∨ 7 < s_.toInt) ∧ ((-3) : Int32).toInt = -1) ∨ ((0 ≤ s_.toInt ∧ s_.toInt ≤ 7) ∧ (((ghe s_.toNatClampNeg).toInt = 2 ∧ ((-3) : Int32).toInt = -2) ∨ ((ghe s_.toNatClampNeg).toInt = 0 ∧ ((-3) : Int32).toInt = -3) ∨ ((ghe s_.toNatClampNeg).toInt = 1 ∧ ((-3) : Int32).toInt = 0)))) from by (have k9 : ((-3) : Int32).toInt = -3 := (by decide); rw [← ex_10]; omega))⟩, ht⟩) (fun q hq => by cases hq) dX8_wanted_42
      · have fc_11 : x_10.toInt = 2 := zf_eq c_11 rfl (by decide)
        refine lv_bipush (v := (-2)) hx hb dX8_wanted_22 (by decide) ?_
        refine lv_goto (tgt := 42) hx hb dX8_wanted_24 (by decide) ?_
        exact W.iret (v := (-2)) hx hb hr (fun t ht hW => ⟨(-2), rfl, ⟨by decide, by decide, (show (((s_.toInt < 0 ∨ 7 < s_.toInt) ∧ ((-2) : Int32).toInt = -1) ∨ ((0 ≤ s_.toInt ∧ s_.toInt ≤ 7) ∧ (((ghe s_.toNatClampNeg).toInt = 2 ∧ ((-2) : Int32).toInt = -2) ∨ ((ghe s_.toNatClampNeg).toInt = 0 ∧ ((-2) : Int32).toInt = -3) ∨ ((ghe s_.toNatClampNeg).toInt = 1 ∧ ((-2) : Int32).toInt = 0)))) from by (have k9 : ((-2) : Int32).toInt = -2 := (by decide); rw [← ex_10]; omega))⟩, ht⟩) (fun q hq => by cases hq) dX8_wanted_42
    · exact absurd c_9 (by decide)
set_option maxHeartbeats 4000000 in
set_option maxRecDepth 100000 in
theorem c_F_M_jacket (l : Launch) (D : va_G) (cI cJ cZ cP cS : ClassId) (po : zPool) (m0 mrf mki mpa mta mla msl mco mhe mso msi msh mce mca mwo mnu mte mwa mke mma mth mtr : Nat) (npu nte nat_ nde nto nse nhu nga nsd nfa nba npl nen nnu nwr nra nik : Int32) (grf ghe gsi gwa gwo gnu gki gpa gta gla gsl gco gte : Nat → Int32) (gce : Nat → Int64) (s_ : Int32) (hy0 : 0 ≤ npu.toInt) (hy1 : npu.toInt ≤ 8) (hy2 : 4 ≤ nte.toInt) (hy3 : nte.toInt ≤ 40) (hy4 : 0 ≤ nat_.toInt) (hy5 : nat_.toInt ≤ 40) (hy6 : 0 ≤ nde.toInt) (hy7 : nde.toInt ≤ 24) (hy8 : 0 ≤ nhu.toInt) (hy9 : nhu.toInt ≤ 9) (hy10 : 0 ≤ nra.toInt) (hy11 : nra.toInt ≤ 2000) (hy12 : 0 ≤ nik.toInt) (hy13 : nik.toInt ≤ 1) (hwo : zHWo gwo) (hnu : zHNu gnu) (hp_ghe : zRg ghe (0) 2) (hp_gsi : zRg gsi (0) 160) (hp_gki : zRg gki (0) 6) (hp_gpa : zRg gpa (0) 9) (hp_gta : zRg gta (0) 60) (hp_gla : zRg gla (0) 1) (hp_gsl : zRg gsl (0) 9) (hp_gco : zRg gco (0) 99) (hpz : Nat) : Met l yX8_jacket wsX8_jacket ({ frames := 4, cells := 0, slots := 0, locals := 88 }) (va_Pc [.ref m0, .int s_] (zW D (zKT cI cJ cZ cP cS) po [(zMO m0 npu nte nat_ nde nto nse nhu nga nsd nfa mrf mki mpa mta mla msl mco mhe mso msi msh mce mca mwo mnu mte nba npl nen nnu nwr mwa mke mma mth mtr nra nik), (mrf, .inl (cI, 8, .inl grf)), (mhe, .inl (cI, 8, .inl ghe)), (msi, .inl (cI, 8, .inl gsi)), (mwa, .inl (cI, 130, .inl gwa)), (mwo, .inl (cI, 64, .inl gwo)), (mnu, .inl (cI, 10, .inl gnu)), (mce, .inl (cJ, 1280, .inr (.inl gce))), (mki, .inl (cI, 8, .inl gki)), (mpa, .inl (cI, 8, .inl gpa)), (mta, .inl (cI, 8, .inl gta)), (mla, .inl (cI, 40, .inl gla)), (msl, .inl (cI, 40, .inl gsl)), (mco, .inl (cI, 3, .inl gco)), (mte, .inl (cI, 3, .inl gte))] hpz)) (va_Qi (fun (r : Int32) (u : (Int32) × (Int32) × (Int32) × (Int32) × (Int32) × (Int32) × (Int32) × (Int32) × (Int32) × (Nat → Int32) × (Nat → Int32) × (Nat → Int32) × (Nat → Int32) × (Nat → Int32) × (Nat → Int32) × (Nat → Int32) × (Nat → Int32) × (Nat → Int32) × (Int32) × (Int32) × (Int32) × (Int32) × (Int32) × (Int32)) => (0 ≤ u.1.toInt ∧ u.1.toInt ≤ 8) ∧ (4 ≤ u.2.1.toInt ∧ u.2.1.toInt ≤ 40) ∧ (0 ≤ u.2.2.1.toInt ∧ u.2.2.1.toInt ≤ 40) ∧ (0 ≤ u.2.2.2.1.toInt ∧ u.2.2.2.1.toInt ≤ 24) ∧ (0 ≤ u.2.2.2.2.2.2.1.toInt ∧ u.2.2.2.2.2.2.1.toInt ≤ 9) ∧ zRg u.2.2.2.2.2.2.2.2.2.2.2.1 (0) 6 ∧ zRg u.2.2.2.2.2.2.2.2.2.2.2.2.1 (0) 9 ∧ zRg u.2.2.2.2.2.2.2.2.2.2.2.2.2.1 (0) 60 ∧ zRg u.2.2.2.2.2.2.2.2.2.2.2.2.2.2.1 (0) 1 ∧ zRg u.2.2.2.2.2.2.2.2.2.2.2.2.2.2.2.1 (0) 9 ∧ zRg u.2.2.2.2.2.2.2.2.2.2.2.2.2.2.2.2.1 (0) 99 ∧ (zJac (zMF gce (160 * s_.toInt)) (gsi s_.toNatClampNeg).toInt s_.toInt (zHc (ghe s_.toNatClampNeg).toInt) nfa.toInt npu.toInt nte.toInt r.toInt u.2.2.2.2.2.2.2.2.2.2.2.2.2.2.2.2.2.2.1.toInt u.1.toInt u.2.1.toInt) ∧ ((1 ≤ r.toInt → ∀ j : Nat, j < 40 → u.2.2.2.2.2.2.2.2.2.2.2.2.2.2.1 j = zRl (zDI (zMF gce (160 * s_.toInt)) (gsi s_.toNatClampNeg).toInt nte.toInt npu.toInt) gla r.toInt.toNat j)) ∧ ((1 ≤ r.toInt → ∀ j : Nat, j < 40 → u.2.2.2.2.2.2.2.2.2.2.2.2.2.2.2.1 j = zRs (zDI (zMF gce (160 * s_.toInt)) (gsi s_.toNatClampNeg).toInt nte.toInt npu.toInt) gsl r.toInt.toNat j)) ∧ ((1 ≤ r.toInt → u.2.2.2.2.2.2.2.2.2.2.2.1 = zRk (zDI (zMF gce (160 * s_.toInt)) (gsi s_.toNatClampNeg).toInt nte.toInt npu.toInt) npu.toInt gki r.toInt.toNat ∧ u.2.2.2.2.2.2.2.2.2.2.2.2.1 = zRa (zDI (zMF gce (160 * s_.toInt)) (gsi s_.toNatClampNeg).toInt nte.toInt npu.toInt) npu.toInt gpa r.toInt.toNat ∧ u.2.2.2.2.2.2.2.2.2.2.2.2.2.1 = zRt (zDI (zMF gce (160 * s_.toInt)) (gsi s_.toNatClampNeg).toInt nte.toInt npu.toInt) npu.toInt gta r.toInt.toNat)) ∧ ((1 ≤ r.toInt → u.2.2.2.2.2.2.2.2.2.2.2.2.2.2.2.2.1 = zRc (zDI (zMF gce (160 * s_.toInt)) (gsi s_.toNatClampNeg).toInt nte.toInt npu.toInt) gco r.toInt.toNat)) ∧ ((1 ≤ r.toInt → u.2.2.2.1.toInt = zRn 4 (zDI (zMF gce (160 * s_.toInt)) (gsi s_.toNatClampNeg).toInt nte.toInt npu.toInt) nde.toInt r.toInt.toNat ∧ u.2.2.2.2.2.1.toInt = zRn 5 (zDI (zMF gce (160 * s_.toInt)) (gsi s_.toNatClampNeg).toInt nte.toInt npu.toInt) nse.toInt r.toInt.toNat ∧ u.2.2.2.2.2.2.1.toInt = zRn 6 (zDI (zMF gce (160 * s_.toInt)) (gsi s_.toNatClampNeg).toInt nte.toInt npu.toInt) nhu.toInt r.toInt.toNat ∧ u.2.2.2.2.2.2.2.1.toInt = zRn 7 (zDI (zMF gce (160 * s_.toInt)) (gsi s_.toNatClampNeg).toInt nte.toInt npu.toInt) nga.toInt r.toInt.toNat ∧ u.2.2.1.toInt = zRat (zDI (zMF gce (160 * s_.toInt)) (gsi s_.toNatClampNeg).toInt nte.toInt npu.toInt) nat_.toInt r.toInt.toNat)) ∧ ((r.toInt < 1 → (∀ j : Nat, j < 40 → u.2.2.2.2.2.2.2.2.2.2.2.2.2.2.1 j = gla j) ∧ (∀ j : Nat, j < 40 → u.2.2.2.2.2.2.2.2.2.2.2.2.2.2.2.1 j = gsl j) ∧ (∀ j : Nat, j < 8 → u.2.2.2.2.2.2.2.2.2.2.2.1 j = gki j ∧ u.2.2.2.2.2.2.2.2.2.2.2.2.1 j = gpa j ∧ u.2.2.2.2.2.2.2.2.2.2.2.2.2.1 j = gta j) ∧ (∀ j : Nat, j < 3 → u.2.2.2.2.2.2.2.2.2.2.2.2.2.2.2.2.1 j = gco j) ∧ u.2.2.2.1 = nde ∧ u.2.2.2.2.2.1 = nse ∧ u.2.2.2.2.2.2.1 = nhu ∧ u.2.2.2.2.2.2.2.1 = nga ∧ u.2.2.1 = nat_)) ∧ ((u.2.2.2.2.1 = nto ∧ u.2.2.2.2.2.2.2.2.1 = nsd)) ∧ (True)) (zB D [(zMO m0 npu nte nat_ nde nto nse nhu nga nsd nfa mrf mki mpa mta mla msl mco mhe mso msi msh mce mca mwo mnu mte nba npl nen nnu nwr mwa mke mma mth mtr nra nik), (mrf, .inl (cI, 8, .inl grf)), (mhe, .inl (cI, 8, .inl ghe)), (msi, .inl (cI, 8, .inl gsi)), (mwa, .inl (cI, 130, .inl gwa)), (mwo, .inl (cI, 64, .inl gwo)), (mnu, .inl (cI, 10, .inl gnu)), (mce, .inl (cJ, 1280, .inr (.inl gce))), (mki, .inl (cI, 8, .inl gki)), (mpa, .inl (cI, 8, .inl gpa)), (mta, .inl (cI, 8, .inl gta)), (mla, .inl (cI, 40, .inl gla)), (msl, .inl (cI, 40, .inl gsl)), (mco, .inl (cI, 3, .inl gco)), (mte, .inl (cI, 3, .inl gte))] hpz (fun (u : (Int32) × (Int32) × (Int32) × (Int32) × (Int32) × (Int32) × (Int32) × (Int32) × (Int32) × (Nat → Int32) × (Nat → Int32) × (Nat → Int32) × (Nat → Int32) × (Nat → Int32) × (Nat → Int32) × (Nat → Int32) × (Nat → Int32) × (Nat → Int32) × (Int32) × (Int32) × (Int32) × (Int32) × (Int32) × (Int32)) => [(zMO m0 u.1 u.2.1 u.2.2.1 u.2.2.2.1 u.2.2.2.2.1 u.2.2.2.2.2.1 u.2.2.2.2.2.2.1 u.2.2.2.2.2.2.2.1 u.2.2.2.2.2.2.2.2.1 u.2.2.2.2.2.2.2.2.2.2.2.2.2.2.2.2.2.2.1 mrf mki mpa mta mla msl mco mhe mso msi msh mce mca mwo mnu mte u.2.2.2.2.2.2.2.2.2.2.2.2.2.2.2.2.2.2.2.1 u.2.2.2.2.2.2.2.2.2.2.2.2.2.2.2.2.2.2.2.2.1 u.2.2.2.2.2.2.2.2.2.2.2.2.2.2.2.2.2.2.2.2.2.1 u.2.2.2.2.2.2.2.2.2.2.2.2.2.2.2.2.2.2.2.2.2.2.1 u.2.2.2.2.2.2.2.2.2.2.2.2.2.2.2.2.2.2.2.2.2.2.2 mwa mke mma mth mtr nra nik), (mrf, .inl (cI, 8, .inl u.2.2.2.2.2.2.2.2.2.1)), (mhe, .inl (cI, 8, .inl ghe)), (msi, .inl (cI, 8, .inl gsi)), (mwa, .inl (cI, 130, .inl u.2.2.2.2.2.2.2.2.2.2.1)), (mwo, .inl (cI, 64, .inl gwo)), (mnu, .inl (cI, 10, .inl gnu)), (mce, .inl (cJ, 1280, .inr (.inl gce))), (mki, .inl (cI, 8, .inl u.2.2.2.2.2.2.2.2.2.2.2.1)), (mpa, .inl (cI, 8, .inl u.2.2.2.2.2.2.2.2.2.2.2.2.1)), (mta, .inl (cI, 8, .inl u.2.2.2.2.2.2.2.2.2.2.2.2.2.1)), (mla, .inl (cI, 40, .inl u.2.2.2.2.2.2.2.2.2.2.2.2.2.2.1)), (msl, .inl (cI, 40, .inl u.2.2.2.2.2.2.2.2.2.2.2.2.2.2.2.1)), (mco, .inl (cI, 3, .inl u.2.2.2.2.2.2.2.2.2.2.2.2.2.2.2.2.1)), (mte, .inl (cI, 3, .inl u.2.2.2.2.2.2.2.2.2.2.2.2.2.2.2.2.2.1))])) (va_A [(zMO m0 npu nte nat_ nde nto nse nhu nga nsd nfa mrf mki mpa mta mla msl mco mhe mso msi msh mce mca mwo mnu mte nba npl nen nnu nwr mwa mke mma mth mtr nra nik), (mrf, .inl (cI, 8, .inl grf)), (mhe, .inl (cI, 8, .inl ghe)), (msi, .inl (cI, 8, .inl gsi)), (mwa, .inl (cI, 130, .inl gwa)), (mwo, .inl (cI, 64, .inl gwo)), (mnu, .inl (cI, 10, .inl gnu)), (mce, .inl (cJ, 1280, .inr (.inl gce))), (mki, .inl (cI, 8, .inl gki)), (mpa, .inl (cI, 8, .inl gpa)), (mta, .inl (cI, 8, .inl gta)), (mla, .inl (cI, 40, .inl gla)), (msl, .inl (cI, 40, .inl gsl)), (mco, .inl (cI, 3, .inl gco)), (mte, .inl (cI, 3, .inl gte))] hpz)) 0 0 (va_A [(zMO m0 npu nte nat_ nde nto nse nhu nga nsd nfa mrf mki mpa mta mla msl mco mhe mso msi msh mce mca mwo mnu mte nba npl nen nnu nwr mwa mke mma mth mtr nra nik), (mrf, .inl (cI, 8, .inl grf)), (mhe, .inl (cI, 8, .inl ghe)), (msi, .inl (cI, 8, .inl gsi)), (mwa, .inl (cI, 130, .inl gwa)), (mwo, .inl (cI, 64, .inl gwo)), (mnu, .inl (cI, 10, .inl gnu)), (mce, .inl (cJ, 1280, .inr (.inl gce))), (mki, .inl (cI, 8, .inl gki)), (mpa, .inl (cI, 8, .inl gpa)), (mta, .inl (cI, 8, .inl gta)), (mla, .inl (cI, 40, .inl gla)), (msl, .inl (cI, 40, .inl gsl)), (mco, .inl (cI, 3, .inl gco)), (mte, .inl (cI, 3, .inl gte))] hpz) := by
  refine Met.ofW (cc := cX8_jacket) (maxL := 5) (ret := (some .int)) (by decide) rfl ?_
  intro p e s m args below meth c s₁ B hml hv
  obtain ⟨rfl, hsz, hP, hK, hD0, hN, hZ⟩ := hv
  have hx := B.exec
  have hb := B.bytes
  have hr := B.returns
  have hts := atoms_spec (ws := wsX8_jacket) B.pre
  have hown : s.vm.findClass RX8 = some m.cls := findClass_of_methodNamed B.named
  have hlocks := B.notSynchronized
  subst hsz
  have hD := hD0.self (sz := s.heap.size)
  have hA := zA_of hD
  have hl := lv_entry ([.ref m0, .int s_]) (n := 5) (Nat.le_of_ble_eq_true rfl)
  rw [lg_entry_eq]
  generalize (lg_sl ([.ref m0, .int s_]) ++ List.replicate (5 - (lg_sl ([.ref m0, .int s_])).length) Slot.unset).toArray = ls at hl ⊢
  replace hl : lv_has ls 5 [(0, .ref m0), (1, .int s_)] := hl
  refine zw_begin hP hD (fun H locs hP1 hS => ?_)
  clear hP
  have hP := hP1
  clear hP1
  refine lv_aload_n hx hb dX8_jacket_0 rfl (lv_at hl 0 rfl) ?_
  refine lv_iload_n hx hb dX8_jacket_1 rfl (lv_at hl 1 rfl) ?_
  refine zc_V (As := [.int s_]) (rest := []) ⟨hx, hb, hml, hown, hts⟩ (c_F_M_wanted l D cI cJ cZ cP cS po m0 mrf mki mpa mta mla msl mco mhe mso msi msh mce mca mwo mnu mte mwa mke mma mth mtr (npu) (nte) (nat_) (nde) (nto) (nse) (nhu) (nga) (nsd) (nfa) (nba) (npl) (nen) (nnu) (nwr) (nra) (nik) ghe (s_) hy0 hy1 hy2 hy3 hy4 hy5 hy6 hy7 hy8 hy9 hy10 hy11 hy12 hy13 hp_ghe) (cwV 1 hts gX8_jacket_X8_wanted rfl rfl rfl ⟨rfl, dh_X8_wanted⟩ ⟨Nat.le_of_ble_eq_true rfl, Nat.le_of_ble_eq_true rfl⟩) hK hN (hZ.kept hS) hP (hP.sub [0, 2] rfl) (va_recv (q := (RX8, TX8, 38)) hK hP (ci := 8) (q0 := 0) rfl rfl) rfl hl.1 rfl (Nat.le_of_ble_eq_true rfl) dX8_jacket_2 ⟨Nat.le_of_ble_eq_true rfl, Nat.le_of_ble_eq_true rfl⟩ (fun r_1 hr_1 => ?_)
  obtain ⟨g_2, g_3, hsr_1_0⟩ := hr_1
  refine lv_istore_n (lv' := [(2, .int r_1), (0, .ref m0), (1, .int s_)]) hx hb dX8_jacket_5 rfl hl (by decide) rfl (fun ls hl => ?_)
  refine lv_iload_n hx hb dX8_jacket_6 rfl (lv_at hl 0 rfl) ?_
  refine lv_if_eq (tgt := 16) hx hb dX8_jacket_7 (by decide) (fun c_4 => ?_) (fun c_4 => ?_)
  · have fc_4 : r_1.toInt = 0 := zf_eq c_4 rfl (by decide)
    have hs9 : 0 ≤ s_.toInt ∧ s_.toInt ≤ 7 := by (have z := hsr_1_0; omega)
    refine lv_aload_n hx hb dX8_jacket_16 rfl (lv_at hl 1 rfl) ?_
    refine lv_aload_n hx hb dX8_jacket_17 rfl (lv_at hl 1 rfl) ?_
    refine va_get (D := D) (ci := 8) (v := .ref mwa) (C := RX8) (T := TX8) (N := 38) hx hb hts hi_X8_jacket_8 hown hK hP 0 rfl rfl 31 (by decide) (hts (.fieldLink RX8 75 "TheLiningsInItModel" "was" "[I") (List.mem_of_getElem? (i := 1) rfl)) (fun _ h9 => h9) rfl dX8_jacket_18 ?_
    refine lv_iconst (v := 0) hx hb dX8_jacket_21 (by decide) ?_
    skip
    refine zw_Vv (As := [.ref mwa, .int 0]) (rest := []) (wr := [(mrf, .inl (cI, 8, .inl grf)), (mhe, .inl (cI, 8, .inl ghe)), (msi, .inl (cI, 8, .inl gsi)), (mwo, .inl (cI, 64, .inl gwo)), (mnu, .inl (cI, 10, .inl gnu)), (mce, .inl (cJ, 1280, .inr (.inl gce))), (mte, .inl (cI, 3, .inl gte))]) ⟨hx, hb, hml, hown, hts⟩ (c_M_all_f l D cI cJ cZ cP cS po m0 mrf mki mpa mta mla msl mco mhe mso msi msh mce mca mwo mnu mte mwa mke mma mth mtr (npu) (nte) (nat_) (nde) (nto) (nse) (nhu) (nga) (nsd) (nfa) (nba) (npl) (nen) (nnu) (nwr) (nra) (nik) gki gpa gta gla gsl gco mwa gwa hy0 hy1 hy2 hy3 hy4 hy5 hy6 hy7 hy8 hy9 hy10 hy11 hy12 hy13 hp_gki hp_gpa hp_gta hp_gla hp_gsl hp_gco H.size) (cwV 2 hts gX8_jacket_X8_all rfl rfl rfl ⟨rfl, dh_X8_all⟩ ⟨Nat.le_of_ble_eq_true rfl, Nat.le_of_ble_eq_true rfl⟩) hK hN (hZ.kept hS) hP hD hS hA [0, 8, 9, 10, 11, 12, 13, 4] [1, 2, 3, 5, 6, 7, 14] rfl rfl (by decide) (by decide) (by decide) (va_recv (q := (RX8, TX8, 38)) hK hP (ci := 8) (q0 := 0) rfl rfl) rfl hl.1 rfl (Nat.le_of_ble_eq_true rfl) dX8_jacket_22 ⟨Nat.le_of_ble_eq_true rfl, Nat.le_of_ble_eq_true rfl⟩ (fun u_6 H locs hr_5 hP hD hS => ?_)
    obtain ⟨q_7, rfl⟩ : ∃ z, z = u_6 := ⟨_, rfl⟩
    obtain ⟨hsr_5_0, hr_5⟩ := hr_5
    have h9R := zRe (ws' := [(mrf, .inl (cI, 8, .inl grf)), (mhe, .inl (cI, 8, .inl ghe)), (msi, .inl (cI, 8, .inl gsi)), (mwo, .inl (cI, 64, .inl gwo)), (mnu, .inl (cI, 10, .inl gnu)), (mce, .inl (cJ, 1280, .inr (.inl gce))), (mte, .inl (cI, 3, .inl gte)), (zMO m0 npu nte nat_ nde nto nse nhu nga nsd nfa mrf mki mpa mta mla msl mco mhe mso msi msh mce mca mwo mnu mte nba npl nen nnu nwr mwa mke mma mth mtr nra nik), (mki, .inl (cI, 8, .inl gki)), (mpa, .inl (cI, 8, .inl gpa)), (mta, .inl (cI, 8, .inl gta)), (mla, .inl (cI, 40, .inl gla)), (msl, .inl (cI, 40, .inl gsl)), (mco, .inl (cI, 3, .inl gco)), (mwa, .inl (cI, 130, .inl q_7))]) hP hD rfl
    clear hP hD
    obtain ⟨hP, hD⟩ := h9R
    refine lv_aload_n hx hb dX8_jacket_25 rfl (lv_at hl 1 rfl) ?_
    refine lv_sipush (v := 160) hx hb dX8_jacket_26 (by decide) ?_
    refine lv_iload_n hx hb dX8_jacket_29 rfl (lv_at hl 2 rfl) ?_
    refine lv_imul hx hb dX8_jacket_30 ?_
    refine lv_topi (fun x_8 ex_8 => ?_)
    have qx_8 : x_8.toInt = 160 * s_.toInt := by rw [ex_8]; exact zf_mul (by decide) rfl (by omega) (by omega)
    refine va_put (D := D) (ci := 8) (v := .int x_8) (ty := .int) (C := RX8) (T := TX8) (N := 38) hx hb hts hi_X8_jacket_8 tyX8 tyX8_ok nmX8 hown hK hP hD hS 7 rfl rfl 26 (by decide) (hts (.fieldLink RX8 158 "TheLiningsInItModel" "base" "I") (List.mem_of_getElem? (i := 2) rfl)) (fun _ h9 => h9) rfl (tyX8_ok 26 (Nat.le_of_ble_eq_true rfl)) rfl rfl (Nat.le_of_ble_eq_true rfl) dX8_jacket_31 (fun H locs hP hD hS => ?_)
    have h9R := zRe (ws' := [(mrf, .inl (cI, 8, .inl grf)), (mhe, .inl (cI, 8, .inl ghe)), (msi, .inl (cI, 8, .inl gsi)), (mwo, .inl (cI, 64, .inl gwo)), (mnu, .inl (cI, 10, .inl gnu)), (mce, .inl (cJ, 1280, .inr (.inl gce))), (mte, .inl (cI, 3, .inl gte)), (zMO m0 npu nte nat_ nde nto nse nhu nga nsd nfa mrf mki mpa mta mla msl mco mhe mso msi msh mce mca mwo mnu mte x_8 npl nen nnu nwr mwa mke mma mth mtr nra nik), (mki, .inl (cI, 8, .inl gki)), (mpa, .inl (cI, 8, .inl gpa)), (mta, .inl (cI, 8, .inl gta)), (mla, .inl (cI, 40, .inl gla)), (msl, .inl (cI, 40, .inl gsl)), (mco, .inl (cI, 3, .inl gco)), (mwa, .inl (cI, 130, .inl q_7))]) hP hD rfl
    clear hP hD
    obtain ⟨hP, hD⟩ := h9R
    refine lv_aload_n hx hb dX8_jacket_34 rfl (lv_at hl 1 rfl) ?_
    refine lv_iconst (v := 0) hx hb dX8_jacket_35 (by decide) ?_
    refine va_put (D := D) (ci := 8) (v := .int 0) (ty := .int) (C := RX8) (T := TX8) (N := 38) hx hb hts hi_X8_jacket_8 tyX8 tyX8_ok nmX8 hown hK hP hD hS 7 rfl rfl 27 (by decide) (hts (.fieldLink RX8 152 "TheLiningsInItModel" "place" "I") (List.mem_of_getElem? (i := 3) rfl)) (fun _ h9 => h9) rfl (tyX8_ok 27 (Nat.le_of_ble_eq_true rfl)) rfl rfl (Nat.le_of_ble_eq_true rfl) dX8_jacket_36 (fun H locs hP hD hS => ?_)
    have h9R := zRe (ws' := [(mrf, .inl (cI, 8, .inl grf)), (mhe, .inl (cI, 8, .inl ghe)), (msi, .inl (cI, 8, .inl gsi)), (mwo, .inl (cI, 64, .inl gwo)), (mnu, .inl (cI, 10, .inl gnu)), (mce, .inl (cJ, 1280, .inr (.inl gce))), (mte, .inl (cI, 3, .inl gte)), (zMO m0 npu nte nat_ nde nto nse nhu nga nsd nfa mrf mki mpa mta mla msl mco mhe mso msi msh mce mca mwo mnu mte x_8 0 nen nnu nwr mwa mke mma mth mtr nra nik), (mki, .inl (cI, 8, .inl gki)), (mpa, .inl (cI, 8, .inl gpa)), (mta, .inl (cI, 8, .inl gta)), (mla, .inl (cI, 40, .inl gla)), (msl, .inl (cI, 40, .inl gsl)), (mco, .inl (cI, 3, .inl gco)), (mwa, .inl (cI, 130, .inl q_7))]) hP hD rfl
    clear hP hD
    obtain ⟨hP, hD⟩ := h9R
    refine lv_aload_n hx hb dX8_jacket_39 rfl (lv_at hl 1 rfl) ?_
    refine lv_aload_n hx hb dX8_jacket_40 rfl (lv_at hl 1 rfl) ?_
    refine va_get (D := D) (ci := 8) (v := .ref msi) (C := RX8) (T := TX8) (N := 38) hx hb hts hi_X8_jacket_8 hown hK hP 7 rfl rfl 19 (by decide) (hts (.fieldLink RX8 53 "TheLiningsInItModel" "size" "[I") (List.mem_of_getElem? (i := 4) rfl)) (fun _ h9 => h9) rfl dX8_jacket_41 ?_
    refine lv_iload_n hx hb dX8_jacket_44 rfl (lv_at hl 2 rfl) ?_
    refine va_iald hx hb hK hP 2 0 rfl rfl (zf_in (by omega) (by omega)) dX8_jacket_45 ?_
    refine lv_topi (fun x_9 ex_9 => ?_)
    have bx_9 : 0 ≤ x_9.toInt ∧ x_9.toInt ≤ 160 := by rw [ex_9]; exact hp_gsi _
    refine va_put (D := D) (ci := 8) (v := .int x_9) (ty := .int) (C := RX8) (T := TX8) (N := 38) hx hb hts hi_X8_jacket_8 tyX8 tyX8_ok nmX8 hown hK hP hD hS 7 rfl rfl 28 (by decide) (hts (.fieldLink RX8 155 "TheLiningsInItModel" "end" "I") (List.mem_of_getElem? (i := 5) rfl)) (fun _ h9 => h9) rfl (tyX8_ok 28 (Nat.le_of_ble_eq_true rfl)) rfl rfl (Nat.le_of_ble_eq_true rfl) dX8_jacket_46 (fun H locs hP hD hS => ?_)
    have h9R := zRe (ws' := [(mrf, .inl (cI, 8, .inl grf)), (mhe, .inl (cI, 8, .inl ghe)), (msi, .inl (cI, 8, .inl gsi)), (mwo, .inl (cI, 64, .inl gwo)), (mnu, .inl (cI, 10, .inl gnu)), (mce, .inl (cJ, 1280, .inr (.inl gce))), (mte, .inl (cI, 3, .inl gte)), (zMO m0 npu nte nat_ nde nto nse nhu nga nsd nfa mrf mki mpa mta mla msl mco mhe mso msi msh mce mca mwo mnu mte x_8 0 x_9 nnu nwr mwa mke mma mth mtr nra nik), (mki, .inl (cI, 8, .inl gki)), (mpa, .inl (cI, 8, .inl gpa)), (mta, .inl (cI, 8, .inl gta)), (mla, .inl (cI, 40, .inl gla)), (msl, .inl (cI, 40, .inl gsl)), (mco, .inl (cI, 3, .inl gco)), (mwa, .inl (cI, 130, .inl q_7))]) hP hD rfl
    clear hP hD
    obtain ⟨hP, hD⟩ := h9R
    refine lv_aload_n hx hb dX8_jacket_49 rfl (lv_at hl 1 rfl) ?_
    refine lv_iconst (v := (-1)) hx hb dX8_jacket_50 (by decide) ?_
    refine va_put (D := D) (ci := 8) (v := .int (-1)) (ty := .int) (C := RX8) (T := TX8) (N := 38) hx hb hts hi_X8_jacket_8 tyX8 tyX8_ok nmX8 hown hK hP hD hS 7 rfl rfl 9 (by decide) (hts (.fieldLink RX8 22 "TheLiningsInItModel" "fault" "I") (List.mem_of_getElem? (i := 6) rfl)) (fun _ h9 => h9) rfl (tyX8_ok 9 (Nat.le_of_ble_eq_true rfl)) rfl rfl (Nat.le_of_ble_eq_true rfl) dX8_jacket_51 (fun H locs hP hD hS => ?_)
    have h9R := zRe (ws' := [(mrf, .inl (cI, 8, .inl grf)), (mhe, .inl (cI, 8, .inl ghe)), (msi, .inl (cI, 8, .inl gsi)), (mwo, .inl (cI, 64, .inl gwo)), (mnu, .inl (cI, 10, .inl gnu)), (mce, .inl (cJ, 1280, .inr (.inl gce))), (mte, .inl (cI, 3, .inl gte)), (zMO m0 npu nte nat_ nde nto nse nhu nga nsd (-1) mrf mki mpa mta mla msl mco mhe mso msi msh mce mca mwo mnu mte x_8 0 x_9 nnu nwr mwa mke mma mth mtr nra nik), (mki, .inl (cI, 8, .inl gki)), (mpa, .inl (cI, 8, .inl gpa)), (mta, .inl (cI, 8, .inl gta)), (mla, .inl (cI, 40, .inl gla)), (msl, .inl (cI, 40, .inl gsl)), (mco, .inl (cI, 3, .inl gco)), (mwa, .inl (cI, 130, .inl q_7))]) hP hD rfl
    clear hP hD
    obtain ⟨hP, hD⟩ := h9R
    refine lv_iconst (v := 1) hx hb dX8_jacket_54 (by decide) ?_
    refine lv_istore_n (lv' := [(3, .int 1), (2, .int r_1), (0, .ref m0), (1, .int s_)]) hx hb dX8_jacket_55 rfl hl (by decide) rfl (fun ls hl => ?_)
    refine lv_aload_n hx hb dX8_jacket_56 rfl (lv_at hl 2 rfl) ?_
    have kc0 : (0 : Int32).toInt = 0 := by decide
    skip
    refine zw_V (As := []) (rest := []) (wr := [(mrf, .inl (cI, 8, .inl grf)), (mhe, .inl (cI, 8, .inl ghe)), (msi, .inl (cI, 8, .inl gsi)), (mwa, .inl (cI, 130, .inl q_7))]) ⟨hx, hb, hml, hown, hts⟩ (c_F_M_item l D cI cJ cZ cP cS po m0 mrf mki mpa mta mla msl mco mhe mso msi msh mce mca mwo mnu mte mwa mke mma mth mtr (npu) (nte) (nat_) (nde) (nto) (nse) (nhu) (nga) (nsd) ((-1)) (x_8) (0) (x_9) (nnu) (nwr) (nra) (nik) gwo gnu gki gpa gta gla gsl gco gte gce hy0 hy1 hy2 hy3 hy4 hy5 hy6 hy7 hy8 hy9 hy10 hy11 hy12 hy13 (by omega) (by omega) (by omega) (by omega) (by omega) (by omega) (by omega) hwo hnu hp_gki hp_gpa hp_gta hp_gla hp_gsl hp_gco H.size) (cwV 0 hts gX8_jacket_X8_item rfl rfl rfl ⟨rfl, dh_X8_item⟩ ⟨Nat.le_of_ble_eq_true rfl, Nat.le_of_ble_eq_true rfl⟩) hK hN (hZ.kept hS) hP hD hS hA [7, 3, 4, 5, 8, 9, 10, 11, 12, 13, 6] [0, 1, 2, 14] rfl rfl (by decide) (by decide) (by decide) (va_recv (q := (RX8, TX8, 38)) hK hP (ci := 8) (q0 := 7) rfl rfl) rfl hl.1 rfl (Nat.le_of_ble_eq_true rfl) dX8_jacket_57 ⟨Nat.le_of_ble_eq_true rfl, Nat.le_of_ble_eq_true rfl⟩ (fun r_10 u_11 H locs hr_10 hP hD hS => ?_)
    obtain ⟨q_12, q_13, q_14, q_15, q_16, q_17, q_18, q_19, q_20, q_21, q_22, q_23, q_24, q_25, q_26, q_27, q_28⟩ := u_11
    try dsimp only at hr_10
    obtain ⟨hbq_12, hbq_13, hbq_14, hbq_15, hbq_17, hpq_19, hpq_20, hpq_21, hpq_22, hpq_23, hpq_24, hbq_26, hsr_10_0, hsr_10_1, hsr_10_2, hsr_10_3, hsr_10_4, hsr_10_5, hsr_10_6, hsr_10_7, hr_10⟩ := hr_10
    have h9R := zRe (ws' := [(mrf, .inl (cI, 8, .inl grf)), (mhe, .inl (cI, 8, .inl ghe)), (msi, .inl (cI, 8, .inl gsi)), (mwa, .inl (cI, 130, .inl q_7)), (zMO m0 q_12 q_13 q_14 q_15 nto q_16 q_17 q_18 nsd (-1) mrf mki mpa mta mla msl mco mhe mso msi msh mce mca mwo mnu mte x_8 q_26 x_9 q_27 q_28 mwa mke mma mth mtr nra nik), (mwo, .inl (cI, 64, .inl gwo)), (mnu, .inl (cI, 10, .inl gnu)), (mce, .inl (cJ, 1280, .inr (.inl gce))), (mki, .inl (cI, 8, .inl q_19)), (mpa, .inl (cI, 8, .inl q_20)), (mta, .inl (cI, 8, .inl q_21)), (mla, .inl (cI, 40, .inl q_22)), (msl, .inl (cI, 40, .inl q_23)), (mco, .inl (cI, 3, .inl q_24)), (mte, .inl (cI, 3, .inl q_25))]) hP hD rfl
    clear hP hD
    obtain ⟨hP, hD⟩ := h9R
    obtain ⟨g_29, g_30⟩ := hr_10
    refine lv_istore (lv' := [(4, .int r_10), (3, .int 1), (2, .int r_1), (0, .ref m0), (1, .int s_)]) hx hb dX8_jacket_60 hl (by decide) rfl (fun ls hl => ?_)
    obtain ⟨i_62, hi_62⟩ : ∃ i : Int32, i = q_26 := ⟨_, rfl⟩
    replace hl : lv_has ls 5 [(4, .int r_10), (3, .int 1), (0, .ref m0), (1, .int s_)] := lv_sub hl [0, 1, 3, 4] rfl
    replace hP : va_P D vwCl [(mrf, .inl (cI, 8, .inl grf)), (mhe, .inl (cI, 8, .inl ghe)), (msi, .inl (cI, 8, .inl gsi)), (mwa, .inl (cI, 130, .inl q_7)), (zMO m0 q_12 q_13 q_14 q_15 nto q_16 q_17 q_18 nsd (-1) mrf mki mpa mta mla msl mco mhe mso msi msh mce mca mwo mnu mte x_8 i_62 x_9 q_27 q_28 mwa mke mma mth mtr nra nik), (mwo, .inl (cI, 64, .inl gwo)), (mnu, .inl (cI, 10, .inl gnu)), (mce, .inl (cJ, 1280, .inr (.inl gce))), (mki, .inl (cI, 8, .inl q_19)), (mpa, .inl (cI, 8, .inl q_20)), (mta, .inl (cI, 8, .inl q_21)), (mla, .inl (cI, 40, .inl q_22)), (msl, .inl (cI, 40, .inl q_23)), (mco, .inl (cI, 3, .inl q_24)), (mte, .inl (cI, 3, .inl q_25))] H := by rw [hi_62]; exact hP
    replace hD : va_D (va_A [(zMO m0 npu nte nat_ nde nto nse nhu nga nsd nfa mrf mki mpa mta mla msl mco mhe mso msi msh mce mca mwo mnu mte nba npl nen nnu nwr mwa mke mma mth mtr nra nik), (mrf, .inl (cI, 8, .inl grf)), (mhe, .inl (cI, 8, .inl ghe)), (msi, .inl (cI, 8, .inl gsi)), (mwa, .inl (cI, 130, .inl gwa)), (mwo, .inl (cI, 64, .inl gwo)), (mnu, .inl (cI, 10, .inl gnu)), (mce, .inl (cJ, 1280, .inr (.inl gce))), (mki, .inl (cI, 8, .inl gki)), (mpa, .inl (cI, 8, .inl gpa)), (mta, .inl (cI, 8, .inl gta)), (mla, .inl (cI, 40, .inl gla)), (msl, .inl (cI, 40, .inl gsl)), (mco, .inl (cI, 3, .inl gco)), (mte, .inl (cI, 3, .inl gte))] s.heap.size) [(mrf, .inl (cI, 8, .inl grf)), (mhe, .inl (cI, 8, .inl ghe)), (msi, .inl (cI, 8, .inl gsi)), (mwa, .inl (cI, 130, .inl q_7)), (zMO m0 q_12 q_13 q_14 q_15 nto q_16 q_17 q_18 nsd (-1) mrf mki mpa mta mla msl mco mhe mso msi msh mce mca mwo mnu mte x_8 i_62 x_9 q_27 q_28 mwa mke mma mth mtr nra nik), (mwo, .inl (cI, 64, .inl gwo)), (mnu, .inl (cI, 10, .inl gnu)), (mce, .inl (cJ, 1280, .inr (.inl gce))), (mki, .inl (cI, 8, .inl q_19)), (mpa, .inl (cI, 8, .inl q_20)), (mta, .inl (cI, 8, .inl q_21)), (mla, .inl (cI, 40, .inl q_22)), (msl, .inl (cI, 40, .inl q_23)), (mco, .inl (cI, 3, .inl q_24)), (mte, .inl (cI, 3, .inl q_25))] := by rw [hi_62]; exact hD
    have h1i_62 : i_62.toInt = q_26.toInt := by rw [hi_62]
    obtain ⟨nfu, hni_62⟩ : ∃ nq9 : Nat, x_9.toInt ≤ i_62.toInt + (nq9 : Int) := ⟨((x_9.toInt : Int) - q_26.toInt).toNat, by omega⟩
    have hloi_62 : 0 ≤ i_62.toInt := by omega
    obtain ⟨g_31, hg_31⟩ : ∃ g : Nat → Int32, g = q_19 := ⟨_, rfl⟩
    have hpg_31 : zRg g_31 (0) 6 := by rw [hg_31]; exact hpq_19
    obtain ⟨g_32, hg_32⟩ : ∃ g : Nat → Int32, g = q_20 := ⟨_, rfl⟩
    have hpg_32 : zRg g_32 (0) 9 := by rw [hg_32]; exact hpq_20
    obtain ⟨g_33, hg_33⟩ : ∃ g : Nat → Int32, g = q_21 := ⟨_, rfl⟩
    have hpg_33 : zRg g_33 (0) 60 := by rw [hg_33]; exact hpq_21
    obtain ⟨g_34, hg_34⟩ : ∃ g : Nat → Int32, g = q_22 := ⟨_, rfl⟩
    have hpg_34 : zRg g_34 (0) 1 := by rw [hg_34]; exact hpq_22
    obtain ⟨g_35, hg_35⟩ : ∃ g : Nat → Int32, g = q_23 := ⟨_, rfl⟩
    have hpg_35 : zRg g_35 (0) 9 := by rw [hg_35]; exact hpq_23
    obtain ⟨g_36, hg_36⟩ : ∃ g : Nat → Int32, g = q_24 := ⟨_, rfl⟩
    have hpg_36 : zRg g_36 (0) 99 := by rw [hg_36]; exact hpq_24
    obtain ⟨g_37, hg_37⟩ : ∃ g : Nat → Int32, g = q_25 := ⟨_, rfl⟩
    obtain ⟨v_38, hv_38⟩ : ∃ g : Int32, g = q_12 := ⟨_, rfl⟩
    have hbv_38 : 0 ≤ v_38.toInt ∧ v_38.toInt ≤ 8 := by rw [hv_38]; exact ⟨by omega, by omega⟩
    obtain ⟨v_39, hv_39⟩ : ∃ g : Int32, g = q_13 := ⟨_, rfl⟩
    have hbv_39 : 4 ≤ v_39.toInt ∧ v_39.toInt ≤ 40 := by rw [hv_39]; exact ⟨by omega, by omega⟩
    obtain ⟨v_40, hv_40⟩ : ∃ g : Int32, g = q_14 := ⟨_, rfl⟩
    have hbv_40 : 0 ≤ v_40.toInt ∧ v_40.toInt ≤ 40 := by rw [hv_40]; exact ⟨by omega, by omega⟩
    obtain ⟨v_41, hv_41⟩ : ∃ g : Int32, g = q_15 := ⟨_, rfl⟩
    have hbv_41 : 0 ≤ v_41.toInt ∧ v_41.toInt ≤ 24 := by rw [hv_41]; exact ⟨by omega, by omega⟩
    obtain ⟨v_42, hv_42⟩ : ∃ g : Int32, g = q_16 := ⟨_, rfl⟩
    obtain ⟨v_43, hv_43⟩ : ∃ g : Int32, g = q_17 := ⟨_, rfl⟩
    have hbv_43 : 0 ≤ v_43.toInt ∧ v_43.toInt ≤ 9 := by rw [hv_43]; exact ⟨by omega, by omega⟩
    obtain ⟨v_44, hv_44⟩ : ∃ g : Int32, g = q_18 := ⟨_, rfl⟩
    obtain ⟨v_45, hv_45⟩ : ∃ g : Int32, g = q_27 := ⟨_, rfl⟩
    obtain ⟨v_46, hv_46⟩ : ∃ g : Int32, g = q_28 := ⟨_, rfl⟩
    replace hP : va_P D vwCl [(mrf, .inl (cI, 8, .inl grf)), (mhe, .inl (cI, 8, .inl ghe)), (msi, .inl (cI, 8, .inl gsi)), (mwa, .inl (cI, 130, .inl q_7)), (zMO m0 v_38 v_39 v_40 v_41 nto v_42 v_43 v_44 nsd (-1) mrf mki mpa mta mla msl mco mhe mso msi msh mce mca mwo mnu mte x_8 i_62 x_9 v_45 v_46 mwa mke mma mth mtr nra nik), (mwo, .inl (cI, 64, .inl gwo)), (mnu, .inl (cI, 10, .inl gnu)), (mce, .inl (cJ, 1280, .inr (.inl gce))), (mki, .inl (cI, 8, .inl g_31)), (mpa, .inl (cI, 8, .inl g_32)), (mta, .inl (cI, 8, .inl g_33)), (mla, .inl (cI, 40, .inl g_34)), (msl, .inl (cI, 40, .inl g_35)), (mco, .inl (cI, 3, .inl g_36)), (mte, .inl (cI, 3, .inl g_37))] H := by rw [hg_31, hg_32, hg_33, hg_34, hg_35, hg_36, hg_37, hv_38, hv_39, hv_40, hv_41, hv_42, hv_43, hv_44, hv_45, hv_46]; exact hP
    replace hD : va_D (va_A [(zMO m0 npu nte nat_ nde nto nse nhu nga nsd nfa mrf mki mpa mta mla msl mco mhe mso msi msh mce mca mwo mnu mte nba npl nen nnu nwr mwa mke mma mth mtr nra nik), (mrf, .inl (cI, 8, .inl grf)), (mhe, .inl (cI, 8, .inl ghe)), (msi, .inl (cI, 8, .inl gsi)), (mwa, .inl (cI, 130, .inl gwa)), (mwo, .inl (cI, 64, .inl gwo)), (mnu, .inl (cI, 10, .inl gnu)), (mce, .inl (cJ, 1280, .inr (.inl gce))), (mki, .inl (cI, 8, .inl gki)), (mpa, .inl (cI, 8, .inl gpa)), (mta, .inl (cI, 8, .inl gta)), (mla, .inl (cI, 40, .inl gla)), (msl, .inl (cI, 40, .inl gsl)), (mco, .inl (cI, 3, .inl gco)), (mte, .inl (cI, 3, .inl gte))] s.heap.size) [(mrf, .inl (cI, 8, .inl grf)), (mhe, .inl (cI, 8, .inl ghe)), (msi, .inl (cI, 8, .inl gsi)), (mwa, .inl (cI, 130, .inl q_7)), (zMO m0 v_38 v_39 v_40 v_41 nto v_42 v_43 v_44 nsd (-1) mrf mki mpa mta mla msl mco mhe mso msi msh mce mca mwo mnu mte x_8 i_62 x_9 v_45 v_46 mwa mke mma mth mtr nra nik), (mwo, .inl (cI, 64, .inl gwo)), (mnu, .inl (cI, 10, .inl gnu)), (mce, .inl (cJ, 1280, .inr (.inl gce))), (mki, .inl (cI, 8, .inl g_31)), (mpa, .inl (cI, 8, .inl g_32)), (mta, .inl (cI, 8, .inl g_33)), (mla, .inl (cI, 40, .inl g_34)), (msl, .inl (cI, 40, .inl g_35)), (mco, .inl (cI, 3, .inl g_36)), (mte, .inl (cI, 3, .inl g_37))] := by rw [hg_31, hg_32, hg_33, hg_34, hg_35, hg_36, hg_37, hv_38, hv_39, hv_40, hv_41, hv_42, hv_43, hv_44, hv_45, hv_46]; exact hD
    obtain ⟨v_47, hv_47⟩ : ∃ g : Int32, g = 1 := ⟨_, rfl⟩
    obtain ⟨v_48, hv_48⟩ : ∃ g : Int32, g = r_10 := ⟨_, rfl⟩
    replace hl : lv_has ls 5 [(4, .int v_48), (3, .int v_47), (0, .ref m0), (1, .int s_)] := by rw [hv_47, hv_48]; exact hl
    have hbv_47 : 1 ≤ v_47.toInt ∧ v_47.toInt ≤ 33 := by rw [hv_47]; exact ⟨by decide, by decide⟩
    have hbv_48 : 0 ≤ v_48.toInt ∧ v_48.toInt ≤ 1 := by rw [hv_48]; exact ⟨by omega, by omega⟩
    have hvi_62_0 : i_62.toInt ≤ (x_9 : Int32).toInt := by
      (try rw [hi_62]); (try rw [hg_31]); (try rw [hg_32]); (try rw [hg_33]); (try rw [hg_34]); (try rw [hg_35]); (try rw [hg_36]); (try rw [hg_37]); (try rw [hv_38]); (try rw [hv_39]); (try rw [hv_40]); (try rw [hv_41]); (try rw [hv_42]); (try rw [hv_43]); (try rw [hv_44]); (try rw [hv_45]); (try rw [hv_46]); (try rw [hv_47]); (try rw [hv_48]); omega
    have hvi_62_1 : ((v_48 : Int32).toInt = 1 → ∃ p t u : Int, zRgo (zMF gce (x_8 : Int32).toInt) (x_9 : Int32).toInt nte.toInt npu.toInt ((v_47 : Int32).toInt - 1).toNat = some (p, t, u) ∧ (zItem (zMF gce (x_8 : Int32).toInt) (x_9 : Int32).toInt p t u).1 = -1 ∧ i_62.toInt = (zItem (zMF gce (x_8 : Int32).toInt) (x_9 : Int32).toInt p t u).2.1 ∧ (v_39 : Int32).toInt = (zItem (zMF gce (x_8 : Int32).toInt) (x_9 : Int32).toInt p t u).2.2.1 ∧ (v_38 : Int32).toInt = (zItem (zMF gce (x_8 : Int32).toInt) (x_9 : Int32).toInt p t u).2.2.2) := by
      (try rw [hi_62]); (try rw [hg_31]); (try rw [hg_32]); (try rw [hg_33]); (try rw [hg_34]); (try rw [hg_35]); (try rw [hg_36]); (try rw [hg_37]); (try rw [hv_38]); (try rw [hv_39]); (try rw [hv_40]); (try rw [hv_41]); (try rw [hv_42]); (try rw [hv_43]); (try rw [hv_44]); (try rw [hv_45]); (try rw [hv_46]); (try rw [hv_47]); (try rw [hv_48]); (intro h; have k0 : (0 : Int32).toInt = 0 := (by decide); obtain ⟨z1, z2, z3, z4⟩ := hsr_10_1.1 h; rw [k0] at z1 z2 z3 z4; rw [show ((1 : Int32).toInt - 1).toNat = 0 from by decide]; exact ⟨0, nte.toInt, npu.toInt, rfl, z1, z2, z3, z4⟩)
    have hvi_62_2 : ((v_48 : Int32).toInt = 0 → 0 ≤ (v_46 : Int32).toInt ∧ zEnd (zMF gce (x_8 : Int32).toInt) (x_9 : Int32).toInt nte.toInt npu.toInt ((v_47 : Int32).toInt - 1).toNat (v_46 : Int32).toInt 0 0) := by
      (try rw [hi_62]); (try rw [hg_31]); (try rw [hg_32]); (try rw [hg_33]); (try rw [hg_34]); (try rw [hg_35]); (try rw [hg_36]); (try rw [hg_37]); (try rw [hv_38]); (try rw [hv_39]); (try rw [hv_40]); (try rw [hv_41]); (try rw [hv_42]); (try rw [hv_43]); (try rw [hv_44]); (try rw [hv_45]); (try rw [hv_46]); (try rw [hv_47]); (try rw [hv_48]); (intro h; have k0 : (0 : Int32).toInt = 0 := (by decide); obtain ⟨z1, z2⟩ := hsr_10_1.2 h; rw [k0] at z1; rw [show ((1 : Int32).toInt - 1).toNat = 0 from by decide]; exact ⟨z2, zEnd_a (k := 0) (p := 0) (t := nte.toInt) (u := npu.toInt) rfl (by omega) z1.symm rfl⟩)
    have hvi_62_3 : ((v_48 : Int32).toInt = 1 → ∀ j : Nat, j < 40 → g_34 j = zRl (zDI (zMF gce (x_8 : Int32).toInt) (x_9 : Int32).toInt nte.toInt npu.toInt) gla (v_47 : Int32).toInt.toNat j) := by
      (try rw [hi_62]); (try rw [hg_31]); (try rw [hg_32]); (try rw [hg_33]); (try rw [hg_34]); (try rw [hg_35]); (try rw [hg_36]); (try rw [hg_37]); (try rw [hv_38]); (try rw [hv_39]); (try rw [hv_40]); (try rw [hv_41]); (try rw [hv_42]); (try rw [hv_43]); (try rw [hv_44]); (try rw [hv_45]); (try rw [hv_46]); (try rw [hv_47]); (try rw [hv_48]); (intro h j hj; have k0 : (0 : Int32).toInt = 0 := (by decide); rw [show ((1 : Int32).toInt.toNat) = 1 from by decide]; have z := hsr_10_2 h j hj; rw [k0] at z; exact z)
    have hvi_62_4 : ((v_48 : Int32).toInt = 1 → ∀ j : Nat, j < 40 → g_35 j = zRs (zDI (zMF gce (x_8 : Int32).toInt) (x_9 : Int32).toInt nte.toInt npu.toInt) gsl (v_47 : Int32).toInt.toNat j) := by
      (try rw [hi_62]); (try rw [hg_31]); (try rw [hg_32]); (try rw [hg_33]); (try rw [hg_34]); (try rw [hg_35]); (try rw [hg_36]); (try rw [hg_37]); (try rw [hv_38]); (try rw [hv_39]); (try rw [hv_40]); (try rw [hv_41]); (try rw [hv_42]); (try rw [hv_43]); (try rw [hv_44]); (try rw [hv_45]); (try rw [hv_46]); (try rw [hv_47]); (try rw [hv_48]); (intro h j hj; have k0 : (0 : Int32).toInt = 0 := (by decide); rw [show ((1 : Int32).toInt.toNat) = 1 from by decide]; have z := hsr_10_3 h j hj; rw [k0] at z; exact z)
    have hvi_62_5 : ((v_48 : Int32).toInt = 1 → g_31 = zRk (zDI (zMF gce (x_8 : Int32).toInt) (x_9 : Int32).toInt nte.toInt npu.toInt) npu.toInt gki (v_47 : Int32).toInt.toNat ∧ g_32 = zRa (zDI (zMF gce (x_8 : Int32).toInt) (x_9 : Int32).toInt nte.toInt npu.toInt) npu.toInt gpa (v_47 : Int32).toInt.toNat ∧ g_33 = zRt (zDI (zMF gce (x_8 : Int32).toInt) (x_9 : Int32).toInt nte.toInt npu.toInt) npu.toInt gta (v_47 : Int32).toInt.toNat) := by
      (try rw [hi_62]); (try rw [hg_31]); (try rw [hg_32]); (try rw [hg_33]); (try rw [hg_34]); (try rw [hg_35]); (try rw [hg_36]); (try rw [hg_37]); (try rw [hv_38]); (try rw [hv_39]); (try rw [hv_40]); (try rw [hv_41]); (try rw [hv_42]); (try rw [hv_43]); (try rw [hv_44]); (try rw [hv_45]); (try rw [hv_46]); (try rw [hv_47]); (try rw [hv_48]); (intro h; have k0 : (0 : Int32).toInt = 0 := (by decide); rw [show ((1 : Int32).toInt.toNat) = 1 from by decide]; have z := hsr_10_4 h; rw [k0] at z; exact z)
    have hvi_62_6 : ((v_48 : Int32).toInt = 1 → g_36 = zRc (zDI (zMF gce (x_8 : Int32).toInt) (x_9 : Int32).toInt nte.toInt npu.toInt) gco (v_47 : Int32).toInt.toNat) := by
      (try rw [hi_62]); (try rw [hg_31]); (try rw [hg_32]); (try rw [hg_33]); (try rw [hg_34]); (try rw [hg_35]); (try rw [hg_36]); (try rw [hg_37]); (try rw [hv_38]); (try rw [hv_39]); (try rw [hv_40]); (try rw [hv_41]); (try rw [hv_42]); (try rw [hv_43]); (try rw [hv_44]); (try rw [hv_45]); (try rw [hv_46]); (try rw [hv_47]); (try rw [hv_48]); (intro h; have k0 : (0 : Int32).toInt = 0 := (by decide); rw [show ((1 : Int32).toInt.toNat) = 1 from by decide]; have z := hsr_10_5 h; rw [k0] at z; exact z)
    have hvi_62_7 : ((v_48 : Int32).toInt = 1 → (v_41 : Int32).toInt = zRn 4 (zDI (zMF gce (x_8 : Int32).toInt) (x_9 : Int32).toInt nte.toInt npu.toInt) nde.toInt (v_47 : Int32).toInt.toNat ∧ (v_42 : Int32).toInt = zRn 5 (zDI (zMF gce (x_8 : Int32).toInt) (x_9 : Int32).toInt nte.toInt npu.toInt) nse.toInt (v_47 : Int32).toInt.toNat ∧ (v_43 : Int32).toInt = zRn 6 (zDI (zMF gce (x_8 : Int32).toInt) (x_9 : Int32).toInt nte.toInt npu.toInt) nhu.toInt (v_47 : Int32).toInt.toNat ∧ (v_44 : Int32).toInt = zRn 7 (zDI (zMF gce (x_8 : Int32).toInt) (x_9 : Int32).toInt nte.toInt npu.toInt) nga.toInt (v_47 : Int32).toInt.toNat ∧ (v_40 : Int32).toInt = zRat (zDI (zMF gce (x_8 : Int32).toInt) (x_9 : Int32).toInt nte.toInt npu.toInt) nat_.toInt (v_47 : Int32).toInt.toNat) := by
      (try rw [hi_62]); (try rw [hg_31]); (try rw [hg_32]); (try rw [hg_33]); (try rw [hg_34]); (try rw [hg_35]); (try rw [hg_36]); (try rw [hg_37]); (try rw [hv_38]); (try rw [hv_39]); (try rw [hv_40]); (try rw [hv_41]); (try rw [hv_42]); (try rw [hv_43]); (try rw [hv_44]); (try rw [hv_45]); (try rw [hv_46]); (try rw [hv_47]); (try rw [hv_48]); (intro h; have k0 : (0 : Int32).toInt = 0 := (by decide); rw [show ((1 : Int32).toInt.toNat) = 1 from by decide]; have z := hsr_10_6 h; rw [k0] at z; exact z)
    have hvi_62_8 : ((v_48 : Int32).toInt = 1 → (v_38 : Int32).toInt = zNp (zDI (zMF gce (x_8 : Int32).toInt) (x_9 : Int32).toInt nte.toInt npu.toInt) npu.toInt (v_47 : Int32).toInt.toNat) := by
      (try rw [hi_62]); (try rw [hg_31]); (try rw [hg_32]); (try rw [hg_33]); (try rw [hg_34]); (try rw [hg_35]); (try rw [hg_36]); (try rw [hg_37]); (try rw [hv_38]); (try rw [hv_39]); (try rw [hv_40]); (try rw [hv_41]); (try rw [hv_42]); (try rw [hv_43]); (try rw [hv_44]); (try rw [hv_45]); (try rw [hv_46]); (try rw [hv_47]); (try rw [hv_48]); (intro h; have k0 : (0 : Int32).toInt = 0 := (by decide); rw [show ((1 : Int32).toInt.toNat) = 1 from by decide]; have z := hsr_10_7 h; rw [k0] at z; exact z)
    clear h1i_62 hi_62 hg_31 hg_32 hg_33 hg_34 hg_35 hg_36 hg_37 hv_38 hv_39 hv_40 hv_41 hv_42 hv_43 hv_44 hv_45 hv_46 hv_47 hv_48
    skip
    revert hni_62
    revert hloi_62
    revert hvi_62_8
    revert hvi_62_7
    revert hvi_62_6
    revert hvi_62_5
    revert hvi_62_4
    revert hvi_62_3
    revert hvi_62_2
    revert hvi_62_1
    revert hvi_62_0
    revert hbv_48
    revert hbv_47
    revert hbv_43
    revert hbv_41
    revert hbv_40
    revert hbv_39
    revert hbv_38
    revert hpg_36
    revert hpg_35
    revert hpg_34
    revert hpg_33
    revert hpg_32
    revert hpg_31
    revert hl
    revert hS
    revert hD
    revert hP
    revert ls
    revert locs
    revert H
    revert g_31
    revert g_32
    revert g_33
    revert g_34
    revert g_35
    revert g_36
    revert g_37
    revert v_38
    revert v_39
    revert v_40
    revert v_41
    revert v_42
    revert v_43
    revert v_44
    revert v_45
    revert v_46
    revert v_48
    revert v_47
    revert i_62
    induction nfu with
    | zero =>
      intro i_62 v_47 v_48 v_46 v_45 v_44 v_43 v_42 v_41 v_40 v_39 v_38 g_37 g_36 g_35 g_34 g_33 g_32 g_31 H locs ls hP hD hS hl hpg_31 hpg_32 hpg_33 hpg_34 hpg_35 hpg_36 hbv_38 hbv_39 hbv_40 hbv_41 hbv_43 hbv_47 hbv_48 hvi_62_0 hvi_62_1 hvi_62_2 hvi_62_3 hvi_62_4 hvi_62_5 hvi_62_6 hvi_62_7 hvi_62_8 hloi_62 hni_62
      have hzi_62 : x_9.toInt ≤ i_62.toInt := by omega
      refine lv_iload hx hb dX8_jacket_62 (lv_at hl 0 rfl) ?_
      refine lv_if_eq (tgt := 133) hx hb dX8_jacket_64 (by decide) (fun c_49 => ?_) (fun c_49 => ?_)
      · have fc_49 : v_48.toInt = 0 := zf_eq c_49 rfl (by decide)
        refine lv_iload hx hb dX8_jacket_133 (lv_at hl 0 rfl) ?_
        refine lv_if_eq (tgt := 140) hx hb dX8_jacket_135 (by decide) (fun c_50 => ?_) (fun c_50 => ?_)
        · have fc_50 : v_48.toInt = 0 := zf_eq c_50 rfl (by decide)
          refine lv_aload_n hx hb dX8_jacket_140 rfl (lv_at hl 2 rfl) ?_
          refine lv_aload_n hx hb dX8_jacket_141 rfl (lv_at hl 2 rfl) ?_
          refine va_get (D := D) (ci := 8) (v := .ref mwa) (C := RX8) (T := TX8) (N := 38) hx hb hts hi_X8_jacket_8 hown hK hP 4 rfl rfl 31 (by decide) (hts (.fieldLink RX8 75 "TheLiningsInItModel" "was" "[I") (List.mem_of_getElem? (i := 1) rfl)) (fun _ h9 => h9) rfl dX8_jacket_142 ?_
          refine lv_iconst (v := 1) hx hb dX8_jacket_145 (by decide) ?_
          skip
          refine zw_Vv (As := [.ref mwa, .int 1]) (rest := []) (wr := [(mrf, .inl (cI, 8, .inl grf)), (mhe, .inl (cI, 8, .inl ghe)), (msi, .inl (cI, 8, .inl gsi)), (mwo, .inl (cI, 64, .inl gwo)), (mnu, .inl (cI, 10, .inl gnu)), (mce, .inl (cJ, 1280, .inr (.inl gce))), (mte, .inl (cI, 3, .inl g_37))]) ⟨hx, hb, hml, hown, hts⟩ (c_M_all_b l D cI cJ cZ cP cS po m0 mrf mki mpa mta mla msl mco mhe mso msi msh mce mca mwo mnu mte mwa mke mma mth mtr (v_38) (v_39) (v_40) (v_41) (nto) (v_42) (v_43) (v_44) (nsd) ((-1)) (x_8) (i_62) (x_9) (v_45) (v_46) (nra) (nik) g_31 g_32 g_33 g_34 g_35 g_36 mwa q_7 hbv_38.1 hbv_38.2 hbv_39.1 hbv_39.2 hbv_40.1 hbv_40.2 hbv_41.1 hbv_41.2 hbv_43.1 hbv_43.2 hy10 hy11 hy12 hy13 (zAll_kp hsr_5_0 hp_gki hp_gpa hp_gta hp_gla hp_gsl hp_gco ⟨by omega, by omega⟩ ⟨by omega, by omega⟩ ⟨by omega, by omega⟩ ⟨by omega, by omega⟩ ⟨by omega, by omega⟩) hpg_31 hpg_32 hpg_33 hpg_34 hpg_35 hpg_36 H.size) (cwV 2 hts gX8_jacket_X8_all rfl rfl rfl ⟨rfl, dh_X8_all⟩ ⟨Nat.le_of_ble_eq_true rfl, Nat.le_of_ble_eq_true rfl⟩) hK hN (hZ.kept hS) hP hD hS hA [4, 8, 9, 10, 11, 12, 13, 3] [0, 1, 2, 5, 6, 7, 14] rfl rfl (by decide) (by decide) (by decide) (va_recv (q := (RX8, TX8, 38)) hK hP (ci := 8) (q0 := 4) rfl rfl) rfl hl.1 rfl (Nat.le_of_ble_eq_true rfl) dX8_jacket_146 ⟨Nat.le_of_ble_eq_true rfl, Nat.le_of_ble_eq_true rfl⟩ (fun u_52 H locs hr_51 hP hD hS => ?_)
          obtain ⟨q_53, q_54, q_55, q_56, q_57, q_58, q_59, q_60, q_61, q_62, q_63, q_64, q_65, q_66, q_67⟩ := u_52
          try dsimp only at hr_51
          obtain ⟨hbq_53, hbq_54, hbq_55, hbq_56, hbq_59, hpq_62, hpq_63, hpq_64, hpq_65, hpq_66, hpq_67, hsr_51_0, hsr_51_1, hsr_51_2, hsr_51_3, hsr_51_4, hsr_51_5, hsr_51_6, hr_51⟩ := hr_51
          have h9R := zRe (ws' := [(mrf, .inl (cI, 8, .inl grf)), (mhe, .inl (cI, 8, .inl ghe)), (msi, .inl (cI, 8, .inl gsi)), (mwo, .inl (cI, 64, .inl gwo)), (mnu, .inl (cI, 10, .inl gnu)), (mce, .inl (cJ, 1280, .inr (.inl gce))), (mte, .inl (cI, 3, .inl g_37)), (zMO m0 q_53 q_54 q_55 q_56 q_57 q_58 q_59 q_60 q_61 (-1) mrf mki mpa mta mla msl mco mhe mso msi msh mce mca mwo mnu mte x_8 i_62 x_9 v_45 v_46 mwa mke mma mth mtr nra nik), (mki, .inl (cI, 8, .inl q_62)), (mpa, .inl (cI, 8, .inl q_63)), (mta, .inl (cI, 8, .inl q_64)), (mla, .inl (cI, 40, .inl q_65)), (msl, .inl (cI, 40, .inl q_66)), (mco, .inl (cI, 3, .inl q_67)), (mwa, .inl (cI, 130, .inl q_7))]) hP hD rfl
          clear hP hD
          obtain ⟨hP, hD⟩ := h9R
          refine lv_aload_n hx hb dX8_jacket_149 rfl (lv_at hl 2 rfl) ?_
          refine lv_aload_n hx hb dX8_jacket_150 rfl (lv_at hl 2 rfl) ?_
          refine va_get (D := D) (ci := 8) (v := .int v_46) (C := RX8) (T := TX8) (N := 38) hx hb hts hi_X8_jacket_8 hown hK hP 7 rfl rfl 30 (by decide) (hts (.fieldLink RX8 149 "TheLiningsInItModel" "wrongAt" "I") (List.mem_of_getElem? (i := 8) rfl)) (fun _ h9 => h9) rfl dX8_jacket_151 ?_
          refine va_put (D := D) (ci := 8) (v := .int v_46) (ty := .int) (C := RX8) (T := TX8) (N := 38) hx hb hts hi_X8_jacket_8 tyX8 tyX8_ok nmX8 hown hK hP hD hS 7 rfl rfl 9 (by decide) (hts (.fieldLink RX8 22 "TheLiningsInItModel" "fault" "I") (List.mem_of_getElem? (i := 6) rfl)) (fun _ h9 => h9) rfl (tyX8_ok 9 (Nat.le_of_ble_eq_true rfl)) rfl rfl (Nat.le_of_ble_eq_true rfl) dX8_jacket_154 (fun H locs hP hD hS => ?_)
          have h9R := zRe (ws' := [(mrf, .inl (cI, 8, .inl grf)), (mhe, .inl (cI, 8, .inl ghe)), (msi, .inl (cI, 8, .inl gsi)), (mwo, .inl (cI, 64, .inl gwo)), (mnu, .inl (cI, 10, .inl gnu)), (mce, .inl (cJ, 1280, .inr (.inl gce))), (mte, .inl (cI, 3, .inl g_37)), (zMO m0 q_53 q_54 q_55 q_56 q_57 q_58 q_59 q_60 q_61 v_46 mrf mki mpa mta mla msl mco mhe mso msi msh mce mca mwo mnu mte x_8 i_62 x_9 v_45 v_46 mwa mke mma mth mtr nra nik), (mki, .inl (cI, 8, .inl q_62)), (mpa, .inl (cI, 8, .inl q_63)), (mta, .inl (cI, 8, .inl q_64)), (mla, .inl (cI, 40, .inl q_65)), (msl, .inl (cI, 40, .inl q_66)), (mco, .inl (cI, 3, .inl q_67)), (mwa, .inl (cI, 130, .inl q_7))]) hP hD rfl
          clear hP hD
          obtain ⟨hP, hD⟩ := h9R
          refine lv_aload_n hx hb dX8_jacket_157 rfl (lv_at hl 2 rfl) ?_
          refine lv_bipush (v := (-6)) hx hb dX8_jacket_158 (by decide) ?_
          skip
          refine zw_V (As := [.int (-6)]) (rest := []) (wr := [(mhe, .inl (cI, 8, .inl ghe)), (msi, .inl (cI, 8, .inl gsi)), (mwo, .inl (cI, 64, .inl gwo)), (mnu, .inl (cI, 10, .inl gnu)), (mce, .inl (cJ, 1280, .inr (.inl gce))), (mte, .inl (cI, 3, .inl g_37)), (mki, .inl (cI, 8, .inl q_62)), (mpa, .inl (cI, 8, .inl q_63)), (mta, .inl (cI, 8, .inl q_64)), (mla, .inl (cI, 40, .inl q_65)), (msl, .inl (cI, 40, .inl q_66)), (mco, .inl (cI, 3, .inl q_67)), (mwa, .inl (cI, 130, .inl q_7))]) ⟨hx, hb, hml, hown, hts⟩ (c_M_no_6 l D cI cJ cZ cP cS po m0 mrf mki mpa mta mla msl mco mhe mso msi msh mce mca mwo mnu mte mwa mke mma mth mtr (q_53) (q_54) (q_55) (q_56) (q_57) (q_58) (q_59) (q_60) (q_61) (v_46) (x_8) (i_62) (x_9) (v_45) (v_46) (nra) (nik) grf hbq_53.1 hbq_53.2 hbq_54.1 hbq_54.2 hbq_55.1 hbq_55.2 hbq_56.1 hbq_56.2 hbq_59.1 hbq_59.2 hy10 hy11 hy12 hy13 H.size) (cwV 1 hts gX8_jacket_X8_no rfl rfl rfl ⟨rfl, dh_X8_no⟩ ⟨Nat.le_of_ble_eq_true rfl, Nat.le_of_ble_eq_true rfl⟩) hK hN (hZ.kept hS) hP hD hS hA [7, 0] [1, 2, 3, 4, 5, 6, 8, 9, 10, 11, 12, 13, 14] rfl rfl (by decide) (by decide) (by decide) (va_recv (q := (RX8, TX8, 38)) hK hP (ci := 8) (q0 := 7) rfl rfl) rfl hl.1 rfl (Nat.le_of_ble_eq_true rfl) dX8_jacket_160 ⟨Nat.le_of_ble_eq_true rfl, Nat.le_of_ble_eq_true rfl⟩ (fun r_68 u_69 H locs hr_68 hP hD hS => ?_)
          obtain ⟨q_70, rfl⟩ : ∃ z, z = u_69 := ⟨_, rfl⟩
          have h9R := zRe (ws' := [(mhe, .inl (cI, 8, .inl ghe)), (msi, .inl (cI, 8, .inl gsi)), (mwo, .inl (cI, 64, .inl gwo)), (mnu, .inl (cI, 10, .inl gnu)), (mce, .inl (cJ, 1280, .inr (.inl gce))), (mte, .inl (cI, 3, .inl g_37)), (mki, .inl (cI, 8, .inl q_62)), (mpa, .inl (cI, 8, .inl q_63)), (mta, .inl (cI, 8, .inl q_64)), (mla, .inl (cI, 40, .inl q_65)), (msl, .inl (cI, 40, .inl q_66)), (mco, .inl (cI, 3, .inl q_67)), (mwa, .inl (cI, 130, .inl q_7)), (zMO m0 q_53 q_54 q_55 q_56 q_57 q_58 q_59 q_60 q_61 v_46 mrf mki mpa mta mla msl mco mhe mso msi msh mce mca mwo mnu mte x_8 i_62 x_9 v_45 v_46 mwa mke mma mth mtr nra nik), (mrf, .inl (cI, 8, .inl q_70))]) hP hD rfl
          clear hP hD
          obtain ⟨hP, hD⟩ := h9R
          obtain rfl := hr_68
          exact W.iret (v := (-6)) hx hb hr (fun t ht hW => ⟨⟨(-6), (q_53, q_54, q_55, q_56, q_57, q_58, q_59, q_60, q_61, q_70, q_7, q_62, q_63, q_64, q_65, q_66, q_67, g_37, v_46, x_8, i_62, x_9, v_45, v_46), rfl, ⟨(show 0 ≤ q_53.toInt ∧ q_53.toInt ≤ 8 from hbq_53), (show 4 ≤ q_54.toInt ∧ q_54.toInt ≤ 40 from hbq_54), (show 0 ≤ q_55.toInt ∧ q_55.toInt ≤ 40 from hbq_55), (show 0 ≤ q_56.toInt ∧ q_56.toInt ≤ 24 from hbq_56), (show 0 ≤ q_59.toInt ∧ q_59.toInt ≤ 9 from hbq_59), hpq_62, hpq_63, hpq_64, hpq_65, hpq_66, hpq_67, (show zJac (zMF gce (160 * s_.toInt)) (gsi s_.toNatClampNeg).toInt s_.toInt (zHc (ghe s_.toNatClampNeg).toInt) nfa.toInt npu.toInt nte.toInt ((-6) : Int32).toInt v_46.toInt q_53.toInt q_54.toInt from by (have k9 : ((-6) : Int32).toInt = -6 := (by decide); have zw := hsr_1_0; obtain ⟨zW, zE⟩ := hvi_62_2 (by omega); rw [show (x_8 : Int32).toInt = 160 * s_.toInt from by omega, show (x_9 : Int32).toInt = (gsi s_.toNatClampNeg).toInt from by (rw [ex_9])] at zE; unfold zJac zHc; rw [if_pos (show (ghe s_.toNatClampNeg).toInt = 1 from by omega)]; refine Or.inr (Or.inr (Or.inr ⟨by omega, by omega, _, _, _, _, zE, ?_⟩)); exact Or.inl ⟨by omega, by omega, by first | rfl | omega, by rw [hsr_51_6.1, hsr_5_0 107 (by decide)]; rfl, by rw [hsr_51_6.2.1, hsr_5_0 108 (by decide)]; rfl⟩)), (show (1 ≤ ((-6) : Int32).toInt → ∀ j : Nat, j < 40 → q_65 j = zRl (zDI (zMF gce (160 * s_.toInt)) (gsi s_.toNatClampNeg).toInt nte.toInt npu.toInt) gla ((-6) : Int32).toInt.toNat j) from by (have k9 : ((-6) : Int32).toInt = -6 := (by decide); intro h; exfalso; omega)), (show (1 ≤ ((-6) : Int32).toInt → ∀ j : Nat, j < 40 → q_66 j = zRs (zDI (zMF gce (160 * s_.toInt)) (gsi s_.toNatClampNeg).toInt nte.toInt npu.toInt) gsl ((-6) : Int32).toInt.toNat j) from by (have k9 : ((-6) : Int32).toInt = -6 := (by decide); intro h; exfalso; omega)), (show (1 ≤ ((-6) : Int32).toInt → q_62 = zRk (zDI (zMF gce (160 * s_.toInt)) (gsi s_.toNatClampNeg).toInt nte.toInt npu.toInt) npu.toInt gki ((-6) : Int32).toInt.toNat ∧ q_63 = zRa (zDI (zMF gce (160 * s_.toInt)) (gsi s_.toNatClampNeg).toInt nte.toInt npu.toInt) npu.toInt gpa ((-6) : Int32).toInt.toNat ∧ q_64 = zRt (zDI (zMF gce (160 * s_.toInt)) (gsi s_.toNatClampNeg).toInt nte.toInt npu.toInt) npu.toInt gta ((-6) : Int32).toInt.toNat) from by (have k9 : ((-6) : Int32).toInt = -6 := (by decide); intro h; exfalso; omega)), (show (1 ≤ ((-6) : Int32).toInt → q_67 = zRc (zDI (zMF gce (160 * s_.toInt)) (gsi s_.toNatClampNeg).toInt nte.toInt npu.toInt) gco ((-6) : Int32).toInt.toNat) from by (have k9 : ((-6) : Int32).toInt = -6 := (by decide); intro h; exfalso; omega)), (show (1 ≤ ((-6) : Int32).toInt → q_56.toInt = zRn 4 (zDI (zMF gce (160 * s_.toInt)) (gsi s_.toNatClampNeg).toInt nte.toInt npu.toInt) nde.toInt ((-6) : Int32).toInt.toNat ∧ q_58.toInt = zRn 5 (zDI (zMF gce (160 * s_.toInt)) (gsi s_.toNatClampNeg).toInt nte.toInt npu.toInt) nse.toInt ((-6) : Int32).toInt.toNat ∧ q_59.toInt = zRn 6 (zDI (zMF gce (160 * s_.toInt)) (gsi s_.toNatClampNeg).toInt nte.toInt npu.toInt) nhu.toInt ((-6) : Int32).toInt.toNat ∧ q_60.toInt = zRn 7 (zDI (zMF gce (160 * s_.toInt)) (gsi s_.toNatClampNeg).toInt nte.toInt npu.toInt) nga.toInt ((-6) : Int32).toInt.toNat ∧ q_55.toInt = zRat (zDI (zMF gce (160 * s_.toInt)) (gsi s_.toNatClampNeg).toInt nte.toInt npu.toInt) nat_.toInt ((-6) : Int32).toInt.toNat) from by (have k9 : ((-6) : Int32).toInt = -6 := (by decide); intro h; exfalso; omega)), (show (((-6) : Int32).toInt < 1 → (∀ j : Nat, j < 40 → q_65 j = gla j) ∧ (∀ j : Nat, j < 40 → q_66 j = gsl j) ∧ (∀ j : Nat, j < 8 → q_62 j = gki j ∧ q_63 j = gpa j ∧ q_64 j = gta j) ∧ (∀ j : Nat, j < 3 → q_67 j = gco j) ∧ q_56 = nde ∧ q_58 = nse ∧ q_59 = nhu ∧ q_60 = nga ∧ q_55 = nat_) from by (intro _; obtain ⟨y0, y1, y2, y3, y4, y5, y6, y7, y8⟩ := hsr_51_6; exact ⟨fun j hj => (by rw [hsr_51_3 j hj, hsr_5_0 (24 + j) (by omega)]; unfold zAll; (repeat (first | rw [if_pos (by omega)] | rw [if_neg (by omega)])); first | done | rfl | (congr 1; omega)), fun j hj => (by rw [hsr_51_4 j hj, hsr_5_0 (64 + j) (by omega)]; unfold zAll; (repeat (first | rw [if_pos (by omega)] | rw [if_neg (by omega)])); first | done | rfl | (congr 1; omega)), fun j hj => ⟨(by rw [hsr_51_0 j hj, hsr_5_0 (0 + j) (by omega)]; unfold zAll; (repeat (first | rw [if_pos (by omega)] | rw [if_neg (by omega)])); first | done | rfl | (congr 1; omega)), (by rw [hsr_51_1 j hj, hsr_5_0 (8 + j) (by omega)]; unfold zAll; (repeat (first | rw [if_pos (by omega)] | rw [if_neg (by omega)])); first | done | rfl | (congr 1; omega)), (by rw [hsr_51_2 j hj, hsr_5_0 (16 + j) (by omega)]; unfold zAll; (repeat (first | rw [if_pos (by omega)] | rw [if_neg (by omega)])); first | done | rfl | (congr 1; omega))⟩, fun j hj => (by rw [hsr_51_5 j hj, hsr_5_0 (104 + j) (by omega)]; unfold zAll; (repeat (first | rw [if_pos (by omega)] | rw [if_neg (by omega)])); first | done | rfl | (congr 1; omega)), by (rw [y3, hsr_5_0 110 (by decide)]; rfl), by (rw [y5, hsr_5_0 112 (by decide)]; rfl), by (rw [y6, hsr_5_0 113 (by decide)]; rfl), by (rw [y7, hsr_5_0 114 (by decide)]; rfl), by (rw [y2, hsr_5_0 109 (by decide)]; rfl)⟩)), (show (q_57 = nto ∧ q_61 = nsd) from by (obtain ⟨y0, y1, y2, y3, y4, y5, y6, y7, y8⟩ := hsr_51_6; exact ⟨by (rw [y4, hsr_5_0 111 (by decide)]; rfl), by (rw [y8, hsr_5_0 115 (by decide)]; rfl)⟩)), trivial⟩, zRet ht hP hD [13, 14, 0, 1, 12, 2, 3, 4, 6, 7, 8, 9, 10, 11, 5] (by decide) rfl⟩, hS.F ht⟩) hS.2.2 dX8_jacket_163
        · exfalso; have fc_50 : v_48.toInt ≠ 0 := zf_ne c_50 rfl (by decide); omega
      · have fc_49 : v_48.toInt ≠ 0 := zf_ne c_49 rfl (by decide)
        refine lv_aload_n hx hb dX8_jacket_67 rfl (lv_at hl 2 rfl) ?_
        refine va_get (D := D) (ci := 8) (v := .int i_62) (C := RX8) (T := TX8) (N := 38) hx hb hts hi_X8_jacket_8 hown hK hP 4 rfl rfl 27 (by decide) (hts (.fieldLink RX8 152 "TheLiningsInItModel" "place" "I") (List.mem_of_getElem? (i := 3) rfl)) (fun _ h9 => h9) rfl dX8_jacket_68 ?_
        refine lv_aload_n hx hb dX8_jacket_71 rfl (lv_at hl 2 rfl) ?_
        refine va_get (D := D) (ci := 8) (v := .int x_9) (C := RX8) (T := TX8) (N := 38) hx hb hts hi_X8_jacket_8 hown hK hP 4 rfl rfl 28 (by decide) (hts (.fieldLink RX8 155 "TheLiningsInItModel" "end" "I") (List.mem_of_getElem? (i := 5) rfl)) (fun _ h9 => h9) rfl dX8_jacket_72 ?_
        refine lv_icmp_ge (tgt := 133) hx hb dX8_jacket_75 (by decide) (fun c_71 => ?_) (fun c_71 => ?_)
        · have fc_71 : x_9.toInt ≤ i_62.toInt := zf_le c_71 rfl rfl
          refine lv_iload hx hb dX8_jacket_133 (lv_at hl 0 rfl) ?_
          refine lv_if_eq (tgt := 140) hx hb dX8_jacket_135 (by decide) (fun c_72 => ?_) (fun c_72 => ?_)
          · exfalso; have fc_72 : v_48.toInt = 0 := zf_eq c_72 rfl (by decide); omega
          · have fc_72 : v_48.toInt ≠ 0 := zf_ne c_72 rfl (by decide)
            refine lv_iload_n hx hb dX8_jacket_138 rfl (lv_at hl 1 rfl) ?_
            exact W.iret (v := v_47) hx hb hr (fun t ht hW => ⟨⟨v_47, (v_38, v_39, v_40, v_41, nto, v_42, v_43, v_44, nsd, grf, q_7, g_31, g_32, g_33, g_34, g_35, g_36, g_37, (-1), x_8, i_62, x_9, v_45, v_46), rfl, ⟨(show 0 ≤ v_38.toInt ∧ v_38.toInt ≤ 8 from hbv_38), (show 4 ≤ v_39.toInt ∧ v_39.toInt ≤ 40 from hbv_39), (show 0 ≤ v_40.toInt ∧ v_40.toInt ≤ 40 from hbv_40), (show 0 ≤ v_41.toInt ∧ v_41.toInt ≤ 24 from hbv_41), (show 0 ≤ v_43.toInt ∧ v_43.toInt ≤ 9 from hbv_43), hpg_31, hpg_32, hpg_33, hpg_34, hpg_35, hpg_36, (show zJac (zMF gce (160 * s_.toInt)) (gsi s_.toNatClampNeg).toInt s_.toInt (zHc (ghe s_.toNatClampNeg).toInt) nfa.toInt npu.toInt nte.toInt (v_47 : Int32).toInt ((-1) : Int32).toInt v_38.toInt v_39.toInt from by (have zw := hsr_1_0; obtain ⟨p, t, u, z1, z2, z3, z4, z5⟩ := hvi_62_1 (by omega); have zE := zEnd_b (k2 := (v_47.toInt - 1).toNat) z1 z2 (by omega) rfl rfl rfl rfl; rw [show (x_8 : Int32).toInt = 160 * s_.toInt from by omega, show (x_9 : Int32).toInt = (gsi s_.toNatClampNeg).toInt from by (rw [ex_9])] at zE z4 z5; unfold zJac zHc; rw [if_pos (show (ghe s_.toNatClampNeg).toInt = 1 from by omega)]; refine Or.inr (Or.inr (Or.inr ⟨by omega, by omega, _, _, _, _, zE, ?_⟩)); exact Or.inr ⟨rfl, by omega, by first | decide | omega, z5, z4⟩)), (show (1 ≤ (v_47 : Int32).toInt → ∀ j : Nat, j < 40 → g_34 j = zRl (zDI (zMF gce (160 * s_.toInt)) (gsi s_.toNatClampNeg).toInt nte.toInt npu.toInt) gla (v_47 : Int32).toInt.toNat j) from by (intro _; have z := hvi_62_3 (by omega); rw [show (x_8 : Int32).toInt = 160 * s_.toInt from by omega, show (x_9 : Int32).toInt = (gsi s_.toNatClampNeg).toInt from by (rw [ex_9])] at z; exact z)), (show (1 ≤ (v_47 : Int32).toInt → ∀ j : Nat, j < 40 → g_35 j = zRs (zDI (zMF gce (160 * s_.toInt)) (gsi s_.toNatClampNeg).toInt nte.toInt npu.toInt) gsl (v_47 : Int32).toInt.toNat j) from by (intro _; have z := hvi_62_4 (by omega); rw [show (x_8 : Int32).toInt = 160 * s_.toInt from by omega, show (x_9 : Int32).toInt = (gsi s_.toNatClampNeg).toInt from by (rw [ex_9])] at z; exact z)), (show (1 ≤ (v_47 : Int32).toInt → g_31 = zRk (zDI (zMF gce (160 * s_.toInt)) (gsi s_.toNatClampNeg).toInt nte.toInt npu.toInt) npu.toInt gki (v_47 : Int32).toInt.toNat ∧ g_32 = zRa (zDI (zMF gce (160 * s_.toInt)) (gsi s_.toNatClampNeg).toInt nte.toInt npu.toInt) npu.toInt gpa (v_47 : Int32).toInt.toNat ∧ g_33 = zRt (zDI (zMF gce (160 * s_.toInt)) (gsi s_.toNatClampNeg).toInt nte.toInt npu.toInt) npu.toInt gta (v_47 : Int32).toInt.toNat) from by (intro _; have z := hvi_62_5 (by omega); rw [show (x_8 : Int32).toInt = 160 * s_.toInt from by omega, show (x_9 : Int32).toInt = (gsi s_.toNatClampNeg).toInt from by (rw [ex_9])] at z; exact z)), (show (1 ≤ (v_47 : Int32).toInt → g_36 = zRc (zDI (zMF gce (160 * s_.toInt)) (gsi s_.toNatClampNeg).toInt nte.toInt npu.toInt) gco (v_47 : Int32).toInt.toNat) from by (intro _; have z := hvi_62_6 (by omega); rw [show (x_8 : Int32).toInt = 160 * s_.toInt from by omega, show (x_9 : Int32).toInt = (gsi s_.toNatClampNeg).toInt from by (rw [ex_9])] at z; exact z)), (show (1 ≤ (v_47 : Int32).toInt → v_41.toInt = zRn 4 (zDI (zMF gce (160 * s_.toInt)) (gsi s_.toNatClampNeg).toInt nte.toInt npu.toInt) nde.toInt (v_47 : Int32).toInt.toNat ∧ v_42.toInt = zRn 5 (zDI (zMF gce (160 * s_.toInt)) (gsi s_.toNatClampNeg).toInt nte.toInt npu.toInt) nse.toInt (v_47 : Int32).toInt.toNat ∧ v_43.toInt = zRn 6 (zDI (zMF gce (160 * s_.toInt)) (gsi s_.toNatClampNeg).toInt nte.toInt npu.toInt) nhu.toInt (v_47 : Int32).toInt.toNat ∧ v_44.toInt = zRn 7 (zDI (zMF gce (160 * s_.toInt)) (gsi s_.toNatClampNeg).toInt nte.toInt npu.toInt) nga.toInt (v_47 : Int32).toInt.toNat ∧ v_40.toInt = zRat (zDI (zMF gce (160 * s_.toInt)) (gsi s_.toNatClampNeg).toInt nte.toInt npu.toInt) nat_.toInt (v_47 : Int32).toInt.toNat) from by (intro _; have z := hvi_62_7 (by omega); rw [show (x_8 : Int32).toInt = 160 * s_.toInt from by omega, show (x_9 : Int32).toInt = (gsi s_.toNatClampNeg).toInt from by (rw [ex_9])] at z; exact z)), (show ((v_47 : Int32).toInt < 1 → (∀ j : Nat, j < 40 → g_34 j = gla j) ∧ (∀ j : Nat, j < 40 → g_35 j = gsl j) ∧ (∀ j : Nat, j < 8 → g_31 j = gki j ∧ g_32 j = gpa j ∧ g_33 j = gta j) ∧ (∀ j : Nat, j < 3 → g_36 j = gco j) ∧ v_41 = nde ∧ v_42 = nse ∧ v_43 = nhu ∧ v_44 = nga ∧ v_40 = nat_) from by (intro h; exfalso; omega)), (show (nto = nto ∧ nsd = nsd) from by (exact ⟨rfl, rfl⟩)), trivial⟩, zRet ht hP hD [4, 0, 1, 2, 3, 5, 6, 7, 8, 9, 10, 11, 12, 13, 14] (by decide) rfl⟩, hS.F ht⟩) hS.2.2 dX8_jacket_139
        · exfalso; have fc_71 : i_62.toInt < x_9.toInt := zf_nle c_71 rfl rfl; omega
    | succ nfu ih =>
      intro i_62 v_47 v_48 v_46 v_45 v_44 v_43 v_42 v_41 v_40 v_39 v_38 g_37 g_36 g_35 g_34 g_33 g_32 g_31 H locs ls hP hD hS hl hpg_31 hpg_32 hpg_33 hpg_34 hpg_35 hpg_36 hbv_38 hbv_39 hbv_40 hbv_41 hbv_43 hbv_47 hbv_48 hvi_62_0 hvi_62_1 hvi_62_2 hvi_62_3 hvi_62_4 hvi_62_5 hvi_62_6 hvi_62_7 hvi_62_8 hloi_62 hni_62
      refine lv_iload hx hb dX8_jacket_62 (lv_at hl 0 rfl) ?_
      refine lv_if_eq (tgt := 133) hx hb dX8_jacket_64 (by decide) (fun c_73 => ?_) (fun c_73 => ?_)
      · have fc_73 : v_48.toInt = 0 := zf_eq c_73 rfl (by decide)
        refine lv_iload hx hb dX8_jacket_133 (lv_at hl 0 rfl) ?_
        refine lv_if_eq (tgt := 140) hx hb dX8_jacket_135 (by decide) (fun c_74 => ?_) (fun c_74 => ?_)
        · have fc_74 : v_48.toInt = 0 := zf_eq c_74 rfl (by decide)
          refine lv_aload_n hx hb dX8_jacket_140 rfl (lv_at hl 2 rfl) ?_
          refine lv_aload_n hx hb dX8_jacket_141 rfl (lv_at hl 2 rfl) ?_
          refine va_get (D := D) (ci := 8) (v := .ref mwa) (C := RX8) (T := TX8) (N := 38) hx hb hts hi_X8_jacket_8 hown hK hP 4 rfl rfl 31 (by decide) (hts (.fieldLink RX8 75 "TheLiningsInItModel" "was" "[I") (List.mem_of_getElem? (i := 1) rfl)) (fun _ h9 => h9) rfl dX8_jacket_142 ?_
          refine lv_iconst (v := 1) hx hb dX8_jacket_145 (by decide) ?_
          skip
          refine zw_Vv (As := [.ref mwa, .int 1]) (rest := []) (wr := [(mrf, .inl (cI, 8, .inl grf)), (mhe, .inl (cI, 8, .inl ghe)), (msi, .inl (cI, 8, .inl gsi)), (mwo, .inl (cI, 64, .inl gwo)), (mnu, .inl (cI, 10, .inl gnu)), (mce, .inl (cJ, 1280, .inr (.inl gce))), (mte, .inl (cI, 3, .inl g_37))]) ⟨hx, hb, hml, hown, hts⟩ (c_M_all_b l D cI cJ cZ cP cS po m0 mrf mki mpa mta mla msl mco mhe mso msi msh mce mca mwo mnu mte mwa mke mma mth mtr (v_38) (v_39) (v_40) (v_41) (nto) (v_42) (v_43) (v_44) (nsd) ((-1)) (x_8) (i_62) (x_9) (v_45) (v_46) (nra) (nik) g_31 g_32 g_33 g_34 g_35 g_36 mwa q_7 hbv_38.1 hbv_38.2 hbv_39.1 hbv_39.2 hbv_40.1 hbv_40.2 hbv_41.1 hbv_41.2 hbv_43.1 hbv_43.2 hy10 hy11 hy12 hy13 (zAll_kp hsr_5_0 hp_gki hp_gpa hp_gta hp_gla hp_gsl hp_gco ⟨by omega, by omega⟩ ⟨by omega, by omega⟩ ⟨by omega, by omega⟩ ⟨by omega, by omega⟩ ⟨by omega, by omega⟩) hpg_31 hpg_32 hpg_33 hpg_34 hpg_35 hpg_36 H.size) (cwV 2 hts gX8_jacket_X8_all rfl rfl rfl ⟨rfl, dh_X8_all⟩ ⟨Nat.le_of_ble_eq_true rfl, Nat.le_of_ble_eq_true rfl⟩) hK hN (hZ.kept hS) hP hD hS hA [4, 8, 9, 10, 11, 12, 13, 3] [0, 1, 2, 5, 6, 7, 14] rfl rfl (by decide) (by decide) (by decide) (va_recv (q := (RX8, TX8, 38)) hK hP (ci := 8) (q0 := 4) rfl rfl) rfl hl.1 rfl (Nat.le_of_ble_eq_true rfl) dX8_jacket_146 ⟨Nat.le_of_ble_eq_true rfl, Nat.le_of_ble_eq_true rfl⟩ (fun u_76 H locs hr_75 hP hD hS => ?_)
          obtain ⟨q_77, q_78, q_79, q_80, q_81, q_82, q_83, q_84, q_85, q_86, q_87, q_88, q_89, q_90, q_91⟩ := u_76
          try dsimp only at hr_75
          obtain ⟨hbq_77, hbq_78, hbq_79, hbq_80, hbq_83, hpq_86, hpq_87, hpq_88, hpq_89, hpq_90, hpq_91, hsr_75_0, hsr_75_1, hsr_75_2, hsr_75_3, hsr_75_4, hsr_75_5, hsr_75_6, hr_75⟩ := hr_75
          have h9R := zRe (ws' := [(mrf, .inl (cI, 8, .inl grf)), (mhe, .inl (cI, 8, .inl ghe)), (msi, .inl (cI, 8, .inl gsi)), (mwo, .inl (cI, 64, .inl gwo)), (mnu, .inl (cI, 10, .inl gnu)), (mce, .inl (cJ, 1280, .inr (.inl gce))), (mte, .inl (cI, 3, .inl g_37)), (zMO m0 q_77 q_78 q_79 q_80 q_81 q_82 q_83 q_84 q_85 (-1) mrf mki mpa mta mla msl mco mhe mso msi msh mce mca mwo mnu mte x_8 i_62 x_9 v_45 v_46 mwa mke mma mth mtr nra nik), (mki, .inl (cI, 8, .inl q_86)), (mpa, .inl (cI, 8, .inl q_87)), (mta, .inl (cI, 8, .inl q_88)), (mla, .inl (cI, 40, .inl q_89)), (msl, .inl (cI, 40, .inl q_90)), (mco, .inl (cI, 3, .inl q_91)), (mwa, .inl (cI, 130, .inl q_7))]) hP hD rfl
          clear hP hD
          obtain ⟨hP, hD⟩ := h9R
          refine lv_aload_n hx hb dX8_jacket_149 rfl (lv_at hl 2 rfl) ?_
          refine lv_aload_n hx hb dX8_jacket_150 rfl (lv_at hl 2 rfl) ?_
          refine va_get (D := D) (ci := 8) (v := .int v_46) (C := RX8) (T := TX8) (N := 38) hx hb hts hi_X8_jacket_8 hown hK hP 7 rfl rfl 30 (by decide) (hts (.fieldLink RX8 149 "TheLiningsInItModel" "wrongAt" "I") (List.mem_of_getElem? (i := 8) rfl)) (fun _ h9 => h9) rfl dX8_jacket_151 ?_
          refine va_put (D := D) (ci := 8) (v := .int v_46) (ty := .int) (C := RX8) (T := TX8) (N := 38) hx hb hts hi_X8_jacket_8 tyX8 tyX8_ok nmX8 hown hK hP hD hS 7 rfl rfl 9 (by decide) (hts (.fieldLink RX8 22 "TheLiningsInItModel" "fault" "I") (List.mem_of_getElem? (i := 6) rfl)) (fun _ h9 => h9) rfl (tyX8_ok 9 (Nat.le_of_ble_eq_true rfl)) rfl rfl (Nat.le_of_ble_eq_true rfl) dX8_jacket_154 (fun H locs hP hD hS => ?_)
          have h9R := zRe (ws' := [(mrf, .inl (cI, 8, .inl grf)), (mhe, .inl (cI, 8, .inl ghe)), (msi, .inl (cI, 8, .inl gsi)), (mwo, .inl (cI, 64, .inl gwo)), (mnu, .inl (cI, 10, .inl gnu)), (mce, .inl (cJ, 1280, .inr (.inl gce))), (mte, .inl (cI, 3, .inl g_37)), (zMO m0 q_77 q_78 q_79 q_80 q_81 q_82 q_83 q_84 q_85 v_46 mrf mki mpa mta mla msl mco mhe mso msi msh mce mca mwo mnu mte x_8 i_62 x_9 v_45 v_46 mwa mke mma mth mtr nra nik), (mki, .inl (cI, 8, .inl q_86)), (mpa, .inl (cI, 8, .inl q_87)), (mta, .inl (cI, 8, .inl q_88)), (mla, .inl (cI, 40, .inl q_89)), (msl, .inl (cI, 40, .inl q_90)), (mco, .inl (cI, 3, .inl q_91)), (mwa, .inl (cI, 130, .inl q_7))]) hP hD rfl
          clear hP hD
          obtain ⟨hP, hD⟩ := h9R
          refine lv_aload_n hx hb dX8_jacket_157 rfl (lv_at hl 2 rfl) ?_
          refine lv_bipush (v := (-6)) hx hb dX8_jacket_158 (by decide) ?_
          skip
          refine zw_V (As := [.int (-6)]) (rest := []) (wr := [(mhe, .inl (cI, 8, .inl ghe)), (msi, .inl (cI, 8, .inl gsi)), (mwo, .inl (cI, 64, .inl gwo)), (mnu, .inl (cI, 10, .inl gnu)), (mce, .inl (cJ, 1280, .inr (.inl gce))), (mte, .inl (cI, 3, .inl g_37)), (mki, .inl (cI, 8, .inl q_86)), (mpa, .inl (cI, 8, .inl q_87)), (mta, .inl (cI, 8, .inl q_88)), (mla, .inl (cI, 40, .inl q_89)), (msl, .inl (cI, 40, .inl q_90)), (mco, .inl (cI, 3, .inl q_91)), (mwa, .inl (cI, 130, .inl q_7))]) ⟨hx, hb, hml, hown, hts⟩ (c_M_no_6 l D cI cJ cZ cP cS po m0 mrf mki mpa mta mla msl mco mhe mso msi msh mce mca mwo mnu mte mwa mke mma mth mtr (q_77) (q_78) (q_79) (q_80) (q_81) (q_82) (q_83) (q_84) (q_85) (v_46) (x_8) (i_62) (x_9) (v_45) (v_46) (nra) (nik) grf hbq_77.1 hbq_77.2 hbq_78.1 hbq_78.2 hbq_79.1 hbq_79.2 hbq_80.1 hbq_80.2 hbq_83.1 hbq_83.2 hy10 hy11 hy12 hy13 H.size) (cwV 1 hts gX8_jacket_X8_no rfl rfl rfl ⟨rfl, dh_X8_no⟩ ⟨Nat.le_of_ble_eq_true rfl, Nat.le_of_ble_eq_true rfl⟩) hK hN (hZ.kept hS) hP hD hS hA [7, 0] [1, 2, 3, 4, 5, 6, 8, 9, 10, 11, 12, 13, 14] rfl rfl (by decide) (by decide) (by decide) (va_recv (q := (RX8, TX8, 38)) hK hP (ci := 8) (q0 := 7) rfl rfl) rfl hl.1 rfl (Nat.le_of_ble_eq_true rfl) dX8_jacket_160 ⟨Nat.le_of_ble_eq_true rfl, Nat.le_of_ble_eq_true rfl⟩ (fun r_92 u_93 H locs hr_92 hP hD hS => ?_)
          obtain ⟨q_94, rfl⟩ : ∃ z, z = u_93 := ⟨_, rfl⟩
          have h9R := zRe (ws' := [(mhe, .inl (cI, 8, .inl ghe)), (msi, .inl (cI, 8, .inl gsi)), (mwo, .inl (cI, 64, .inl gwo)), (mnu, .inl (cI, 10, .inl gnu)), (mce, .inl (cJ, 1280, .inr (.inl gce))), (mte, .inl (cI, 3, .inl g_37)), (mki, .inl (cI, 8, .inl q_86)), (mpa, .inl (cI, 8, .inl q_87)), (mta, .inl (cI, 8, .inl q_88)), (mla, .inl (cI, 40, .inl q_89)), (msl, .inl (cI, 40, .inl q_90)), (mco, .inl (cI, 3, .inl q_91)), (mwa, .inl (cI, 130, .inl q_7)), (zMO m0 q_77 q_78 q_79 q_80 q_81 q_82 q_83 q_84 q_85 v_46 mrf mki mpa mta mla msl mco mhe mso msi msh mce mca mwo mnu mte x_8 i_62 x_9 v_45 v_46 mwa mke mma mth mtr nra nik), (mrf, .inl (cI, 8, .inl q_94))]) hP hD rfl
          clear hP hD
          obtain ⟨hP, hD⟩ := h9R
          obtain rfl := hr_92
          exact W.iret (v := (-6)) hx hb hr (fun t ht hW => ⟨⟨(-6), (q_77, q_78, q_79, q_80, q_81, q_82, q_83, q_84, q_85, q_94, q_7, q_86, q_87, q_88, q_89, q_90, q_91, g_37, v_46, x_8, i_62, x_9, v_45, v_46), rfl, ⟨(show 0 ≤ q_77.toInt ∧ q_77.toInt ≤ 8 from hbq_77), (show 4 ≤ q_78.toInt ∧ q_78.toInt ≤ 40 from hbq_78), (show 0 ≤ q_79.toInt ∧ q_79.toInt ≤ 40 from hbq_79), (show 0 ≤ q_80.toInt ∧ q_80.toInt ≤ 24 from hbq_80), (show 0 ≤ q_83.toInt ∧ q_83.toInt ≤ 9 from hbq_83), hpq_86, hpq_87, hpq_88, hpq_89, hpq_90, hpq_91, (show zJac (zMF gce (160 * s_.toInt)) (gsi s_.toNatClampNeg).toInt s_.toInt (zHc (ghe s_.toNatClampNeg).toInt) nfa.toInt npu.toInt nte.toInt ((-6) : Int32).toInt v_46.toInt q_77.toInt q_78.toInt from by (have k9 : ((-6) : Int32).toInt = -6 := (by decide); have zw := hsr_1_0; obtain ⟨zW, zE⟩ := hvi_62_2 (by omega); rw [show (x_8 : Int32).toInt = 160 * s_.toInt from by omega, show (x_9 : Int32).toInt = (gsi s_.toNatClampNeg).toInt from by (rw [ex_9])] at zE; unfold zJac zHc; rw [if_pos (show (ghe s_.toNatClampNeg).toInt = 1 from by omega)]; refine Or.inr (Or.inr (Or.inr ⟨by omega, by omega, _, _, _, _, zE, ?_⟩)); exact Or.inl ⟨by omega, by omega, by first | rfl | omega, by rw [hsr_75_6.1, hsr_5_0 107 (by decide)]; rfl, by rw [hsr_75_6.2.1, hsr_5_0 108 (by decide)]; rfl⟩)), (show (1 ≤ ((-6) : Int32).toInt → ∀ j : Nat, j < 40 → q_89 j = zRl (zDI (zMF gce (160 * s_.toInt)) (gsi s_.toNatClampNeg).toInt nte.toInt npu.toInt) gla ((-6) : Int32).toInt.toNat j) from by (have k9 : ((-6) : Int32).toInt = -6 := (by decide); intro h; exfalso; omega)), (show (1 ≤ ((-6) : Int32).toInt → ∀ j : Nat, j < 40 → q_90 j = zRs (zDI (zMF gce (160 * s_.toInt)) (gsi s_.toNatClampNeg).toInt nte.toInt npu.toInt) gsl ((-6) : Int32).toInt.toNat j) from by (have k9 : ((-6) : Int32).toInt = -6 := (by decide); intro h; exfalso; omega)), (show (1 ≤ ((-6) : Int32).toInt → q_86 = zRk (zDI (zMF gce (160 * s_.toInt)) (gsi s_.toNatClampNeg).toInt nte.toInt npu.toInt) npu.toInt gki ((-6) : Int32).toInt.toNat ∧ q_87 = zRa (zDI (zMF gce (160 * s_.toInt)) (gsi s_.toNatClampNeg).toInt nte.toInt npu.toInt) npu.toInt gpa ((-6) : Int32).toInt.toNat ∧ q_88 = zRt (zDI (zMF gce (160 * s_.toInt)) (gsi s_.toNatClampNeg).toInt nte.toInt npu.toInt) npu.toInt gta ((-6) : Int32).toInt.toNat) from by (have k9 : ((-6) : Int32).toInt = -6 := (by decide); intro h; exfalso; omega)), (show (1 ≤ ((-6) : Int32).toInt → q_91 = zRc (zDI (zMF gce (160 * s_.toInt)) (gsi s_.toNatClampNeg).toInt nte.toInt npu.toInt) gco ((-6) : Int32).toInt.toNat) from by (have k9 : ((-6) : Int32).toInt = -6 := (by decide); intro h; exfalso; omega)), (show (1 ≤ ((-6) : Int32).toInt → q_80.toInt = zRn 4 (zDI (zMF gce (160 * s_.toInt)) (gsi s_.toNatClampNeg).toInt nte.toInt npu.toInt) nde.toInt ((-6) : Int32).toInt.toNat ∧ q_82.toInt = zRn 5 (zDI (zMF gce (160 * s_.toInt)) (gsi s_.toNatClampNeg).toInt nte.toInt npu.toInt) nse.toInt ((-6) : Int32).toInt.toNat ∧ q_83.toInt = zRn 6 (zDI (zMF gce (160 * s_.toInt)) (gsi s_.toNatClampNeg).toInt nte.toInt npu.toInt) nhu.toInt ((-6) : Int32).toInt.toNat ∧ q_84.toInt = zRn 7 (zDI (zMF gce (160 * s_.toInt)) (gsi s_.toNatClampNeg).toInt nte.toInt npu.toInt) nga.toInt ((-6) : Int32).toInt.toNat ∧ q_79.toInt = zRat (zDI (zMF gce (160 * s_.toInt)) (gsi s_.toNatClampNeg).toInt nte.toInt npu.toInt) nat_.toInt ((-6) : Int32).toInt.toNat) from by (have k9 : ((-6) : Int32).toInt = -6 := (by decide); intro h; exfalso; omega)), (show (((-6) : Int32).toInt < 1 → (∀ j : Nat, j < 40 → q_89 j = gla j) ∧ (∀ j : Nat, j < 40 → q_90 j = gsl j) ∧ (∀ j : Nat, j < 8 → q_86 j = gki j ∧ q_87 j = gpa j ∧ q_88 j = gta j) ∧ (∀ j : Nat, j < 3 → q_91 j = gco j) ∧ q_80 = nde ∧ q_82 = nse ∧ q_83 = nhu ∧ q_84 = nga ∧ q_79 = nat_) from by (intro _; obtain ⟨y0, y1, y2, y3, y4, y5, y6, y7, y8⟩ := hsr_75_6; exact ⟨fun j hj => (by rw [hsr_75_3 j hj, hsr_5_0 (24 + j) (by omega)]; unfold zAll; (repeat (first | rw [if_pos (by omega)] | rw [if_neg (by omega)])); first | done | rfl | (congr 1; omega)), fun j hj => (by rw [hsr_75_4 j hj, hsr_5_0 (64 + j) (by omega)]; unfold zAll; (repeat (first | rw [if_pos (by omega)] | rw [if_neg (by omega)])); first | done | rfl | (congr 1; omega)), fun j hj => ⟨(by rw [hsr_75_0 j hj, hsr_5_0 (0 + j) (by omega)]; unfold zAll; (repeat (first | rw [if_pos (by omega)] | rw [if_neg (by omega)])); first | done | rfl | (congr 1; omega)), (by rw [hsr_75_1 j hj, hsr_5_0 (8 + j) (by omega)]; unfold zAll; (repeat (first | rw [if_pos (by omega)] | rw [if_neg (by omega)])); first | done | rfl | (congr 1; omega)), (by rw [hsr_75_2 j hj, hsr_5_0 (16 + j) (by omega)]; unfold zAll; (repeat (first | rw [if_pos (by omega)] | rw [if_neg (by omega)])); first | done | rfl | (congr 1; omega))⟩, fun j hj => (by rw [hsr_75_5 j hj, hsr_5_0 (104 + j) (by omega)]; unfold zAll; (repeat (first | rw [if_pos (by omega)] | rw [if_neg (by omega)])); first | done | rfl | (congr 1; omega)), by (rw [y3, hsr_5_0 110 (by decide)]; rfl), by (rw [y5, hsr_5_0 112 (by decide)]; rfl), by (rw [y6, hsr_5_0 113 (by decide)]; rfl), by (rw [y7, hsr_5_0 114 (by decide)]; rfl), by (rw [y2, hsr_5_0 109 (by decide)]; rfl)⟩)), (show (q_81 = nto ∧ q_85 = nsd) from by (obtain ⟨y0, y1, y2, y3, y4, y5, y6, y7, y8⟩ := hsr_75_6; exact ⟨by (rw [y4, hsr_5_0 111 (by decide)]; rfl), by (rw [y8, hsr_5_0 115 (by decide)]; rfl)⟩)), trivial⟩, zRet ht hP hD [13, 14, 0, 1, 12, 2, 3, 4, 6, 7, 8, 9, 10, 11, 5] (by decide) rfl⟩, hS.F ht⟩) hS.2.2 dX8_jacket_163
        · exfalso; have fc_74 : v_48.toInt ≠ 0 := zf_ne c_74 rfl (by decide); omega
      · have fc_73 : v_48.toInt ≠ 0 := zf_ne c_73 rfl (by decide)
        refine lv_aload_n hx hb dX8_jacket_67 rfl (lv_at hl 2 rfl) ?_
        refine va_get (D := D) (ci := 8) (v := .int i_62) (C := RX8) (T := TX8) (N := 38) hx hb hts hi_X8_jacket_8 hown hK hP 4 rfl rfl 27 (by decide) (hts (.fieldLink RX8 152 "TheLiningsInItModel" "place" "I") (List.mem_of_getElem? (i := 3) rfl)) (fun _ h9 => h9) rfl dX8_jacket_68 ?_
        refine lv_aload_n hx hb dX8_jacket_71 rfl (lv_at hl 2 rfl) ?_
        refine va_get (D := D) (ci := 8) (v := .int x_9) (C := RX8) (T := TX8) (N := 38) hx hb hts hi_X8_jacket_8 hown hK hP 4 rfl rfl 28 (by decide) (hts (.fieldLink RX8 155 "TheLiningsInItModel" "end" "I") (List.mem_of_getElem? (i := 5) rfl)) (fun _ h9 => h9) rfl dX8_jacket_72 ?_
        refine lv_icmp_ge (tgt := 133) hx hb dX8_jacket_75 (by decide) (fun c_95 => ?_) (fun c_95 => ?_)
        · have fc_95 : x_9.toInt ≤ i_62.toInt := zf_le c_95 rfl rfl
          refine lv_iload hx hb dX8_jacket_133 (lv_at hl 0 rfl) ?_
          refine lv_if_eq (tgt := 140) hx hb dX8_jacket_135 (by decide) (fun c_96 => ?_) (fun c_96 => ?_)
          · exfalso; have fc_96 : v_48.toInt = 0 := zf_eq c_96 rfl (by decide); omega
          · have fc_96 : v_48.toInt ≠ 0 := zf_ne c_96 rfl (by decide)
            refine lv_iload_n hx hb dX8_jacket_138 rfl (lv_at hl 1 rfl) ?_
            exact W.iret (v := v_47) hx hb hr (fun t ht hW => ⟨⟨v_47, (v_38, v_39, v_40, v_41, nto, v_42, v_43, v_44, nsd, grf, q_7, g_31, g_32, g_33, g_34, g_35, g_36, g_37, (-1), x_8, i_62, x_9, v_45, v_46), rfl, ⟨(show 0 ≤ v_38.toInt ∧ v_38.toInt ≤ 8 from hbv_38), (show 4 ≤ v_39.toInt ∧ v_39.toInt ≤ 40 from hbv_39), (show 0 ≤ v_40.toInt ∧ v_40.toInt ≤ 40 from hbv_40), (show 0 ≤ v_41.toInt ∧ v_41.toInt ≤ 24 from hbv_41), (show 0 ≤ v_43.toInt ∧ v_43.toInt ≤ 9 from hbv_43), hpg_31, hpg_32, hpg_33, hpg_34, hpg_35, hpg_36, (show zJac (zMF gce (160 * s_.toInt)) (gsi s_.toNatClampNeg).toInt s_.toInt (zHc (ghe s_.toNatClampNeg).toInt) nfa.toInt npu.toInt nte.toInt (v_47 : Int32).toInt ((-1) : Int32).toInt v_38.toInt v_39.toInt from by (have zw := hsr_1_0; obtain ⟨p, t, u, z1, z2, z3, z4, z5⟩ := hvi_62_1 (by omega); have zE := zEnd_b (k2 := (v_47.toInt - 1).toNat) z1 z2 (by omega) rfl rfl rfl rfl; rw [show (x_8 : Int32).toInt = 160 * s_.toInt from by omega, show (x_9 : Int32).toInt = (gsi s_.toNatClampNeg).toInt from by (rw [ex_9])] at zE z4 z5; unfold zJac zHc; rw [if_pos (show (ghe s_.toNatClampNeg).toInt = 1 from by omega)]; refine Or.inr (Or.inr (Or.inr ⟨by omega, by omega, _, _, _, _, zE, ?_⟩)); exact Or.inr ⟨rfl, by omega, by first | decide | omega, z5, z4⟩)), (show (1 ≤ (v_47 : Int32).toInt → ∀ j : Nat, j < 40 → g_34 j = zRl (zDI (zMF gce (160 * s_.toInt)) (gsi s_.toNatClampNeg).toInt nte.toInt npu.toInt) gla (v_47 : Int32).toInt.toNat j) from by (intro _; have z := hvi_62_3 (by omega); rw [show (x_8 : Int32).toInt = 160 * s_.toInt from by omega, show (x_9 : Int32).toInt = (gsi s_.toNatClampNeg).toInt from by (rw [ex_9])] at z; exact z)), (show (1 ≤ (v_47 : Int32).toInt → ∀ j : Nat, j < 40 → g_35 j = zRs (zDI (zMF gce (160 * s_.toInt)) (gsi s_.toNatClampNeg).toInt nte.toInt npu.toInt) gsl (v_47 : Int32).toInt.toNat j) from by (intro _; have z := hvi_62_4 (by omega); rw [show (x_8 : Int32).toInt = 160 * s_.toInt from by omega, show (x_9 : Int32).toInt = (gsi s_.toNatClampNeg).toInt from by (rw [ex_9])] at z; exact z)), (show (1 ≤ (v_47 : Int32).toInt → g_31 = zRk (zDI (zMF gce (160 * s_.toInt)) (gsi s_.toNatClampNeg).toInt nte.toInt npu.toInt) npu.toInt gki (v_47 : Int32).toInt.toNat ∧ g_32 = zRa (zDI (zMF gce (160 * s_.toInt)) (gsi s_.toNatClampNeg).toInt nte.toInt npu.toInt) npu.toInt gpa (v_47 : Int32).toInt.toNat ∧ g_33 = zRt (zDI (zMF gce (160 * s_.toInt)) (gsi s_.toNatClampNeg).toInt nte.toInt npu.toInt) npu.toInt gta (v_47 : Int32).toInt.toNat) from by (intro _; have z := hvi_62_5 (by omega); rw [show (x_8 : Int32).toInt = 160 * s_.toInt from by omega, show (x_9 : Int32).toInt = (gsi s_.toNatClampNeg).toInt from by (rw [ex_9])] at z; exact z)), (show (1 ≤ (v_47 : Int32).toInt → g_36 = zRc (zDI (zMF gce (160 * s_.toInt)) (gsi s_.toNatClampNeg).toInt nte.toInt npu.toInt) gco (v_47 : Int32).toInt.toNat) from by (intro _; have z := hvi_62_6 (by omega); rw [show (x_8 : Int32).toInt = 160 * s_.toInt from by omega, show (x_9 : Int32).toInt = (gsi s_.toNatClampNeg).toInt from by (rw [ex_9])] at z; exact z)), (show (1 ≤ (v_47 : Int32).toInt → v_41.toInt = zRn 4 (zDI (zMF gce (160 * s_.toInt)) (gsi s_.toNatClampNeg).toInt nte.toInt npu.toInt) nde.toInt (v_47 : Int32).toInt.toNat ∧ v_42.toInt = zRn 5 (zDI (zMF gce (160 * s_.toInt)) (gsi s_.toNatClampNeg).toInt nte.toInt npu.toInt) nse.toInt (v_47 : Int32).toInt.toNat ∧ v_43.toInt = zRn 6 (zDI (zMF gce (160 * s_.toInt)) (gsi s_.toNatClampNeg).toInt nte.toInt npu.toInt) nhu.toInt (v_47 : Int32).toInt.toNat ∧ v_44.toInt = zRn 7 (zDI (zMF gce (160 * s_.toInt)) (gsi s_.toNatClampNeg).toInt nte.toInt npu.toInt) nga.toInt (v_47 : Int32).toInt.toNat ∧ v_40.toInt = zRat (zDI (zMF gce (160 * s_.toInt)) (gsi s_.toNatClampNeg).toInt nte.toInt npu.toInt) nat_.toInt (v_47 : Int32).toInt.toNat) from by (intro _; have z := hvi_62_7 (by omega); rw [show (x_8 : Int32).toInt = 160 * s_.toInt from by omega, show (x_9 : Int32).toInt = (gsi s_.toNatClampNeg).toInt from by (rw [ex_9])] at z; exact z)), (show ((v_47 : Int32).toInt < 1 → (∀ j : Nat, j < 40 → g_34 j = gla j) ∧ (∀ j : Nat, j < 40 → g_35 j = gsl j) ∧ (∀ j : Nat, j < 8 → g_31 j = gki j ∧ g_32 j = gpa j ∧ g_33 j = gta j) ∧ (∀ j : Nat, j < 3 → g_36 j = gco j) ∧ v_41 = nde ∧ v_42 = nse ∧ v_43 = nhu ∧ v_44 = nga ∧ v_40 = nat_) from by (intro h; exfalso; omega)), (show (nto = nto ∧ nsd = nsd) from by (exact ⟨rfl, rfl⟩)), trivial⟩, zRet ht hP hD [4, 0, 1, 2, 3, 5, 6, 7, 8, 9, 10, 11, 12, 13, 14] (by decide) rfl⟩, hS.F ht⟩) hS.2.2 dX8_jacket_139
        · have fc_95 : i_62.toInt < x_9.toInt := zf_nle c_95 rfl rfl
          refine lv_aload_n hx hb dX8_jacket_78 rfl (lv_at hl 2 rfl) ?_
          refine va_get (D := D) (ci := 8) (v := .ref mce) (C := RX8) (T := TX8) (N := 38) hx hb hts hi_X8_jacket_8 hown hK hP 4 rfl rfl 21 (by decide) (hts (.fieldLink RX8 59 "TheLiningsInItModel" "cells" "[J") (List.mem_of_getElem? (i := 7) rfl)) (fun _ h9 => h9) rfl dX8_jacket_79 ?_
          refine lv_aload_n hx hb dX8_jacket_82 rfl (lv_at hl 2 rfl) ?_
          refine va_get (D := D) (ci := 8) (v := .int x_8) (C := RX8) (T := TX8) (N := 38) hx hb hts hi_X8_jacket_8 hown hK hP 4 rfl rfl 26 (by decide) (hts (.fieldLink RX8 158 "TheLiningsInItModel" "base" "I") (List.mem_of_getElem? (i := 2) rfl)) (fun _ h9 => h9) rfl dX8_jacket_83 ?_
          refine lv_aload_n hx hb dX8_jacket_86 rfl (lv_at hl 2 rfl) ?_
          refine va_get (D := D) (ci := 8) (v := .int i_62) (C := RX8) (T := TX8) (N := 38) hx hb hts hi_X8_jacket_8 hown hK hP 4 rfl rfl 27 (by decide) (hts (.fieldLink RX8 152 "TheLiningsInItModel" "place" "I") (List.mem_of_getElem? (i := 3) rfl)) (fun _ h9 => h9) rfl dX8_jacket_87 ?_
          refine lv_iadd hx hb dX8_jacket_90 ?_
          refine lv_topi (fun x_97 ex_97 => ?_)
          have qx_97 : x_97.toInt = x_8.toInt + i_62.toInt := by rw [ex_97]; exact zf_add rfl rfl (by omega) (by omega)
          refine va_lald hx hb hK hP 7 1 rfl rfl (zf_in (by omega) (by omega)) dX8_jacket_91 ?_
          refine lv_topl (fun x_98 ex_98 => ?_)
          refine lv_l2i hx hb dX8_jacket_92 rfl ?_
          refine lv_topi (fun x_99 ex_99 => ?_)
          have hcx_99 : x_99 = zChX gce (x_8.toInt + i_62.toInt).toNat := by rw [ex_99, ex_98]; unfold zChX; congr 2; (show x_97.toInt.toNat = _; omega)
          have hdx_99 : x_99.toInt = (zChX gce (x_8.toInt + i_62.toInt).toNat).toInt := by rw [hcx_99]
          refine lv_bipush (v := 59) hx hb dX8_jacket_93 (by decide) ?_
          refine lv_icmp_eq (tgt := 111) hx hb dX8_jacket_95 (by decide) (fun c_100 => ?_) (fun c_100 => ?_)
          · have fc_100 : x_99.toInt = 59 := zf_eq c_100 rfl (by decide)
            refine lv_aload_n hx hb dX8_jacket_111 rfl (lv_at hl 2 rfl) ?_
            refine lv_dup hx hb dX8_jacket_112 rfl ?_
            refine va_get (D := D) (ci := 8) (v := .int i_62) (C := RX8) (T := TX8) (N := 38) hx hb hts hi_X8_jacket_8 hown hK hP 4 rfl rfl 27 (by decide) (hts (.fieldLink RX8 152 "TheLiningsInItModel" "place" "I") (List.mem_of_getElem? (i := 3) rfl)) (fun _ h9 => h9) rfl dX8_jacket_113 ?_
            refine lv_iconst (v := 1) hx hb dX8_jacket_116 (by decide) ?_
            refine lv_iadd hx hb dX8_jacket_117 ?_
            refine lv_topi (fun x_101 ex_101 => ?_)
            have qx_101 : x_101.toInt = i_62.toInt + 1 := dw_inc ex_101 fc_95
            refine va_put (D := D) (ci := 8) (v := .int x_101) (ty := .int) (C := RX8) (T := TX8) (N := 38) hx hb hts hi_X8_jacket_8 tyX8 tyX8_ok nmX8 hown hK hP hD hS 4 rfl rfl 27 (by decide) (hts (.fieldLink RX8 152 "TheLiningsInItModel" "place" "I") (List.mem_of_getElem? (i := 3) rfl)) (fun _ h9 => h9) rfl (tyX8_ok 27 (Nat.le_of_ble_eq_true rfl)) rfl rfl (Nat.le_of_ble_eq_true rfl) dX8_jacket_118 (fun H locs hP hD hS => ?_)
            have h9R := zRe (ws' := [(mrf, .inl (cI, 8, .inl grf)), (mhe, .inl (cI, 8, .inl ghe)), (msi, .inl (cI, 8, .inl gsi)), (mwa, .inl (cI, 130, .inl q_7)), (zMO m0 v_38 v_39 v_40 v_41 nto v_42 v_43 v_44 nsd (-1) mrf mki mpa mta mla msl mco mhe mso msi msh mce mca mwo mnu mte x_8 x_101 x_9 v_45 v_46 mwa mke mma mth mtr nra nik), (mwo, .inl (cI, 64, .inl gwo)), (mnu, .inl (cI, 10, .inl gnu)), (mce, .inl (cJ, 1280, .inr (.inl gce))), (mki, .inl (cI, 8, .inl g_31)), (mpa, .inl (cI, 8, .inl g_32)), (mta, .inl (cI, 8, .inl g_33)), (mla, .inl (cI, 40, .inl g_34)), (msl, .inl (cI, 40, .inl g_35)), (mco, .inl (cI, 3, .inl g_36)), (mte, .inl (cI, 3, .inl g_37))]) hP hD rfl
            clear hP hD
            obtain ⟨hP, hD⟩ := h9R
            obtain ⟨x_102, ex_102⟩ : ∃ y : Int32, y = v_47 + 1 := ⟨_, rfl⟩
            have qx_102 : x_102.toInt = v_47.toInt + 1 := by rw [ex_102]; exact zf_add rfl (by decide) (by omega) (by omega)
            refine lv_iinc (v := x_102) (lv' := [(3, .int x_102), (4, .int v_48), (0, .ref m0), (1, .int s_)]) hx hb dX8_jacket_121 hl (k := 1) rfl ex_102.symm (by decide) rfl (fun ls hl => ?_)
            have hn5 : (x_102 : Int32).toInt ≤ 33 := by (obtain ⟨p, t, u, z1, z2, z3, z4, z5⟩ := hvi_62_1 (by omega); have zr := zRgo_S (p2 := (x_101 : Int32).toInt) (k2 := ((x_102 : Int32).toInt - 1).toNat) z1 z2 (by omega) (by rw [← z3, zMF_at (by omega), ← hdx_99]; omega) (by omega) z4 z5 (by omega); have z := zRgo_rg (by omega) ⟨by omega, by omega⟩ ⟨by omega, by omega⟩ _ _ _ _ zr; omega)
            refine lv_aload_n hx hb dX8_jacket_124 rfl (lv_at hl 2 rfl) ?_
            skip
            refine zw_V (As := []) (rest := []) (wr := [(mrf, .inl (cI, 8, .inl grf)), (mhe, .inl (cI, 8, .inl ghe)), (msi, .inl (cI, 8, .inl gsi)), (mwa, .inl (cI, 130, .inl q_7))]) ⟨hx, hb, hml, hown, hts⟩ (c_F_M_item l D cI cJ cZ cP cS po m0 mrf mki mpa mta mla msl mco mhe mso msi msh mce mca mwo mnu mte mwa mke mma mth mtr (v_38) (v_39) (v_40) (v_41) (nto) (v_42) (v_43) (v_44) (nsd) ((-1)) (x_8) (x_101) (x_9) (v_45) (v_46) (nra) (nik) gwo gnu g_31 g_32 g_33 g_34 g_35 g_36 g_37 gce hbv_38.1 hbv_38.2 hbv_39.1 hbv_39.2 hbv_40.1 hbv_40.2 hbv_41.1 hbv_41.2 hbv_43.1 hbv_43.2 hy10 hy11 hy12 hy13 (by omega) (by omega) (by omega) (by omega) (by omega) (by omega) (by omega) hwo hnu hpg_31 hpg_32 hpg_33 hpg_34 hpg_35 hpg_36 H.size) (cwV 0 hts gX8_jacket_X8_item rfl rfl rfl ⟨rfl, dh_X8_item⟩ ⟨Nat.le_of_ble_eq_true rfl, Nat.le_of_ble_eq_true rfl⟩) hK hN (hZ.kept hS) hP hD hS hA [4, 5, 6, 7, 8, 9, 10, 11, 12, 13, 14] [0, 1, 2, 3] rfl rfl (by decide) (by decide) (by decide) (va_recv (q := (RX8, TX8, 38)) hK hP (ci := 8) (q0 := 4) rfl rfl) rfl hl.1 rfl (Nat.le_of_ble_eq_true rfl) dX8_jacket_125 ⟨Nat.le_of_ble_eq_true rfl, Nat.le_of_ble_eq_true rfl⟩ (fun r_103 u_104 H locs hr_103 hP hD hS => ?_)
            obtain ⟨q_105, q_106, q_107, q_108, q_109, q_110, q_111, q_112, q_113, q_114, q_115, q_116, q_117, q_118, q_119, q_120, q_121⟩ := u_104
            try dsimp only at hr_103
            obtain ⟨hbq_105, hbq_106, hbq_107, hbq_108, hbq_110, hpq_112, hpq_113, hpq_114, hpq_115, hpq_116, hpq_117, hbq_119, hsr_103_0, hsr_103_1, hsr_103_2, hsr_103_3, hsr_103_4, hsr_103_5, hsr_103_6, hsr_103_7, hr_103⟩ := hr_103
            have h9R := zRe (ws' := [(mrf, .inl (cI, 8, .inl grf)), (mhe, .inl (cI, 8, .inl ghe)), (msi, .inl (cI, 8, .inl gsi)), (mwa, .inl (cI, 130, .inl q_7)), (zMO m0 q_105 q_106 q_107 q_108 nto q_109 q_110 q_111 nsd (-1) mrf mki mpa mta mla msl mco mhe mso msi msh mce mca mwo mnu mte x_8 q_119 x_9 q_120 q_121 mwa mke mma mth mtr nra nik), (mwo, .inl (cI, 64, .inl gwo)), (mnu, .inl (cI, 10, .inl gnu)), (mce, .inl (cJ, 1280, .inr (.inl gce))), (mki, .inl (cI, 8, .inl q_112)), (mpa, .inl (cI, 8, .inl q_113)), (mta, .inl (cI, 8, .inl q_114)), (mla, .inl (cI, 40, .inl q_115)), (msl, .inl (cI, 40, .inl q_116)), (mco, .inl (cI, 3, .inl q_117)), (mte, .inl (cI, 3, .inl q_118))]) hP hD rfl
            clear hP hD
            obtain ⟨hP, hD⟩ := h9R
            obtain ⟨g_122, g_123⟩ := hr_103
            refine lv_istore (lv' := [(4, .int r_103), (3, .int x_102), (0, .ref m0), (1, .int s_)]) hx hb dX8_jacket_128 hl (by decide) rfl (fun ls hl => ?_)
            refine lv_goto (tgt := 62) hx hb dX8_jacket_130 (by decide) ?_
            exact ih q_119 x_102 r_103 (q_121) (q_120) (q_111) (q_110) (q_109) (q_108) (q_107) (q_106) (q_105) (q_118) (q_117) (q_116) (q_115) (q_114) (q_113) (q_112) _ _ _ (hP.sub [0, 1, 2, 3, 4, 5, 6, 7, 8, 9, 10, 11, 12, 13, 14] rfl) (hD.sub [0, 1, 2, 3, 4, 5, 6, 7, 8, 9, 10, 11, 12, 13, 14] (by decide) rfl) hS (lv_sub hl [0, 1, 2, 3] rfl) hpq_112 hpq_113 hpq_114 hpq_115 hpq_116 hpq_117 hbq_105 hbq_106 hbq_107 hbq_108 hbq_110 ⟨by omega, by omega⟩ ⟨by omega, by omega⟩ (show q_119.toInt ≤ (x_9 : Int32).toInt from by omega) (show ((r_103 : Int32).toInt = 1 → ∃ p t u : Int, zRgo (zMF gce (x_8 : Int32).toInt) (x_9 : Int32).toInt nte.toInt npu.toInt ((x_102 : Int32).toInt - 1).toNat = some (p, t, u) ∧ (zItem (zMF gce (x_8 : Int32).toInt) (x_9 : Int32).toInt p t u).1 = -1 ∧ q_119.toInt = (zItem (zMF gce (x_8 : Int32).toInt) (x_9 : Int32).toInt p t u).2.1 ∧ (q_106 : Int32).toInt = (zItem (zMF gce (x_8 : Int32).toInt) (x_9 : Int32).toInt p t u).2.2.1 ∧ (q_105 : Int32).toInt = (zItem (zMF gce (x_8 : Int32).toInt) (x_9 : Int32).toInt p t u).2.2.2) from by (intro _; obtain ⟨p, t, u, z1, z2, z3, z4, z5⟩ := hvi_62_1 (by omega); obtain ⟨y1, y2, y3, y4⟩ := hsr_103_1.1 (by omega); have zr := zRgo_S (p2 := (x_101 : Int32).toInt) (k2 := ((x_102 : Int32).toInt - 1).toNat) z1 z2 (by omega) (by rw [← z3, zMF_at (by omega), ← hdx_99]; omega) (by omega) z4 z5 (by omega); exact ⟨_, _, _, zr, y1, y2, y3, y4⟩)) (show ((r_103 : Int32).toInt = 0 → 0 ≤ (q_121 : Int32).toInt ∧ zEnd (zMF gce (x_8 : Int32).toInt) (x_9 : Int32).toInt nte.toInt npu.toInt ((x_102 : Int32).toInt - 1).toNat (q_121 : Int32).toInt 0 0) from by (intro _; obtain ⟨p, t, u, z1, z2, z3, z4, z5⟩ := hvi_62_1 (by omega); obtain ⟨y1, y2⟩ := hsr_103_1.2 (by omega); have zr := zRgo_S (p2 := (x_101 : Int32).toInt) (k2 := ((x_102 : Int32).toInt - 1).toNat) z1 z2 (by omega) (by rw [← z3, zMF_at (by omega), ← hdx_99]; omega) (by omega) z4 z5 (by omega); exact ⟨y2, zEnd_a zr (by omega) y1.symm (by omega)⟩)) (show ((r_103 : Int32).toInt = 1 → ∀ j : Nat, j < 40 → q_115 j = zRl (zDI (zMF gce (x_8 : Int32).toInt) (x_9 : Int32).toInt nte.toInt npu.toInt) gla (x_102 : Int32).toInt.toNat j) from by (intro h; obtain ⟨p, t, u, z1, z2, z3, z4, z5⟩ := hvi_62_1 (by omega); have zr := zRgo_S (p2 := (x_101 : Int32).toInt) (k2 := v_47.toInt.toNat) z1 z2 (by omega) (by rw [← z3, zMF_at (by omega), ← hdx_99]; omega) (by omega) z4 z5 (by omega); have hn9 : (x_102 : Int32).toInt.toNat = v_47.toInt.toNat + 1 := (by omega); rw [hn9]; have zd := zDI_at zr; intro j hj; rw [hsr_103_2 (by omega) j hj, ← zd]; exact zEl_sm zSm.rfl (hvi_62_3 (by omega)) j hj)) (show ((r_103 : Int32).toInt = 1 → ∀ j : Nat, j < 40 → q_116 j = zRs (zDI (zMF gce (x_8 : Int32).toInt) (x_9 : Int32).toInt nte.toInt npu.toInt) gsl (x_102 : Int32).toInt.toNat j) from by (intro h; obtain ⟨p, t, u, z1, z2, z3, z4, z5⟩ := hvi_62_1 (by omega); have zr := zRgo_S (p2 := (x_101 : Int32).toInt) (k2 := v_47.toInt.toNat) z1 z2 (by omega) (by rw [← z3, zMF_at (by omega), ← hdx_99]; omega) (by omega) z4 z5 (by omega); have hn9 : (x_102 : Int32).toInt.toNat = v_47.toInt.toNat + 1 := (by omega); rw [hn9]; have zd := zDI_at zr; intro j hj; rw [hsr_103_3 (by omega) j hj, ← zd]; exact zEs_sm zSm.rfl (hvi_62_4 (by omega)) j hj)) (show ((r_103 : Int32).toInt = 1 → q_112 = zRk (zDI (zMF gce (x_8 : Int32).toInt) (x_9 : Int32).toInt nte.toInt npu.toInt) npu.toInt gki (x_102 : Int32).toInt.toNat ∧ q_113 = zRa (zDI (zMF gce (x_8 : Int32).toInt) (x_9 : Int32).toInt nte.toInt npu.toInt) npu.toInt gpa (x_102 : Int32).toInt.toNat ∧ q_114 = zRt (zDI (zMF gce (x_8 : Int32).toInt) (x_9 : Int32).toInt nte.toInt npu.toInt) npu.toInt gta (x_102 : Int32).toInt.toNat) from by (intro h; obtain ⟨p, t, u, z1, z2, z3, z4, z5⟩ := hvi_62_1 (by omega); have zr := zRgo_S (p2 := (x_101 : Int32).toInt) (k2 := v_47.toInt.toNat) z1 z2 (by omega) (by rw [← z3, zMF_at (by omega), ← hdx_99]; omega) (by omega) z4 z5 (by omega); have hn9 : (x_102 : Int32).toInt.toNat = v_47.toInt.toNat + 1 := (by omega); rw [hn9]; have zd := zDI_at zr; have z := hsr_103_4 (by omega); rw [← zd] at z; obtain ⟨y1, y2, y3⟩ := hvi_62_5 (by omega); have y8 := hvi_62_8 (by omega); obtain ⟨x1, x2, x3⟩ := z; refine ⟨?_, ?_, ?_⟩; (rw [x1, y1, y8]; rfl); (rw [x2, y2, y8]; rfl); (rw [x3, y3, y8]; rfl))) (show ((r_103 : Int32).toInt = 1 → q_117 = zRc (zDI (zMF gce (x_8 : Int32).toInt) (x_9 : Int32).toInt nte.toInt npu.toInt) gco (x_102 : Int32).toInt.toNat) from by (intro h; obtain ⟨p, t, u, z1, z2, z3, z4, z5⟩ := hvi_62_1 (by omega); have zr := zRgo_S (p2 := (x_101 : Int32).toInt) (k2 := v_47.toInt.toNat) z1 z2 (by omega) (by rw [← z3, zMF_at (by omega), ← hdx_99]; omega) (by omega) z4 z5 (by omega); have hn9 : (x_102 : Int32).toInt.toNat = v_47.toInt.toNat + 1 := (by omega); rw [hn9]; have zd := zDI_at zr; rw [hsr_103_5 (by omega), ← zd, hvi_62_6 (by omega)]; rfl)) (show ((r_103 : Int32).toInt = 1 → (q_108 : Int32).toInt = zRn 4 (zDI (zMF gce (x_8 : Int32).toInt) (x_9 : Int32).toInt nte.toInt npu.toInt) nde.toInt (x_102 : Int32).toInt.toNat ∧ (q_109 : Int32).toInt = zRn 5 (zDI (zMF gce (x_8 : Int32).toInt) (x_9 : Int32).toInt nte.toInt npu.toInt) nse.toInt (x_102 : Int32).toInt.toNat ∧ (q_110 : Int32).toInt = zRn 6 (zDI (zMF gce (x_8 : Int32).toInt) (x_9 : Int32).toInt nte.toInt npu.toInt) nhu.toInt (x_102 : Int32).toInt.toNat ∧ (q_111 : Int32).toInt = zRn 7 (zDI (zMF gce (x_8 : Int32).toInt) (x_9 : Int32).toInt nte.toInt npu.toInt) nga.toInt (x_102 : Int32).toInt.toNat ∧ (q_107 : Int32).toInt = zRat (zDI (zMF gce (x_8 : Int32).toInt) (x_9 : Int32).toInt nte.toInt npu.toInt) nat_.toInt (x_102 : Int32).toInt.toNat) from by (intro h; obtain ⟨p, t, u, z1, z2, z3, z4, z5⟩ := hvi_62_1 (by omega); have zr := zRgo_S (p2 := (x_101 : Int32).toInt) (k2 := v_47.toInt.toNat) z1 z2 (by omega) (by rw [← z3, zMF_at (by omega), ← hdx_99]; omega) (by omega) z4 z5 (by omega); have hn9 : (x_102 : Int32).toInt.toNat = v_47.toInt.toNat + 1 := (by omega); rw [hn9]; have zd := zDI_at zr; have z := hsr_103_6 (by omega); rw [← zd] at z; obtain ⟨x1, x2, x3, x4, x5⟩ := z; obtain ⟨y1, y2, y3, y4, y5⟩ := hvi_62_7 (by omega); refine ⟨?_, ?_, ?_, ?_, ?_⟩; (rw [x1, y1]; rfl); (rw [x2, y2]; rfl); (rw [x3, y3]; rfl); (rw [x4, y4]; rfl); (rw [x5, y5]; rfl))) (show ((r_103 : Int32).toInt = 1 → (q_105 : Int32).toInt = zNp (zDI (zMF gce (x_8 : Int32).toInt) (x_9 : Int32).toInt nte.toInt npu.toInt) npu.toInt (x_102 : Int32).toInt.toNat) from by (intro h; obtain ⟨p, t, u, z1, z2, z3, z4, z5⟩ := hvi_62_1 (by omega); have zr := zRgo_S (p2 := (x_101 : Int32).toInt) (k2 := v_47.toInt.toNat) z1 z2 (by omega) (by rw [← z3, zMF_at (by omega), ← hdx_99]; omega) (by omega) z4 z5 (by omega); have hn9 : (x_102 : Int32).toInt.toNat = v_47.toInt.toNat + 1 := (by omega); rw [hn9]; have zd := zDI_at zr; rw [hsr_103_7 (by omega), ← zd, hvi_62_8 (by omega)]; rfl)) (by omega) (by omega)
          · have fc_100 : x_99.toInt ≠ 59 := zf_ne c_100 rfl (by decide)
            refine lv_aload_n hx hb dX8_jacket_98 rfl (lv_at hl 2 rfl) ?_
            refine lv_aload_n hx hb dX8_jacket_99 rfl (lv_at hl 2 rfl) ?_
            refine va_get (D := D) (ci := 8) (v := .int i_62) (C := RX8) (T := TX8) (N := 38) hx hb hts hi_X8_jacket_8 hown hK hP 4 rfl rfl 27 (by decide) (hts (.fieldLink RX8 152 "TheLiningsInItModel" "place" "I") (List.mem_of_getElem? (i := 3) rfl)) (fun _ h9 => h9) rfl dX8_jacket_100 ?_
            skip
            refine zw_V (As := [.int i_62]) (rest := []) (wr := [(mrf, .inl (cI, 8, .inl grf)), (mhe, .inl (cI, 8, .inl ghe)), (msi, .inl (cI, 8, .inl gsi)), (mwa, .inl (cI, 130, .inl q_7)), (mwo, .inl (cI, 64, .inl gwo)), (mnu, .inl (cI, 10, .inl gnu)), (mce, .inl (cJ, 1280, .inr (.inl gce))), (mki, .inl (cI, 8, .inl g_31)), (mpa, .inl (cI, 8, .inl g_32)), (mta, .inl (cI, 8, .inl g_33)), (mla, .inl (cI, 40, .inl g_34)), (msl, .inl (cI, 40, .inl g_35)), (mco, .inl (cI, 3, .inl g_36)), (mte, .inl (cI, 3, .inl g_37))]) ⟨hx, hb, hml, hown, hts⟩ (c_F_M_wrong l D cI cJ cZ cP cS po m0 mrf mki mpa mta mla msl mco mhe mso msi msh mce mca mwo mnu mte mwa mke mma mth mtr (v_38) (v_39) (v_40) (v_41) (nto) (v_42) (v_43) (v_44) (nsd) ((-1)) (x_8) (i_62) (x_9) (v_45) (v_46) (nra) (nik) (i_62) hbv_38.1 hbv_38.2 hbv_39.1 hbv_39.2 hbv_40.1 hbv_40.2 hbv_41.1 hbv_41.2 hbv_43.1 hbv_43.2 hy10 hy11 hy12 hy13 H.size) (cwV 1 hts gX8_jacket_X8_wrong rfl rfl rfl ⟨rfl, dh_X8_wrong⟩ ⟨Nat.le_of_ble_eq_true rfl, Nat.le_of_ble_eq_true rfl⟩) hK hN (hZ.kept hS) hP hD hS hA [4] [0, 1, 2, 3, 5, 6, 7, 8, 9, 10, 11, 12, 13, 14] rfl rfl (by decide) (by decide) (by decide) (va_recv (q := (RX8, TX8, 38)) hK hP (ci := 8) (q0 := 4) rfl rfl) rfl hl.1 rfl (Nat.le_of_ble_eq_true rfl) dX8_jacket_103 ⟨Nat.le_of_ble_eq_true rfl, Nat.le_of_ble_eq_true rfl⟩ (fun r_124 u_125 H locs hr_124 hP hD hS => ?_)
            obtain ⟨q_126, rfl⟩ : ∃ z, z = u_125 := ⟨_, rfl⟩
            obtain ⟨hsr_124_0, hr_124⟩ := hr_124
            have h9R := zRe (ws' := [(mrf, .inl (cI, 8, .inl grf)), (mhe, .inl (cI, 8, .inl ghe)), (msi, .inl (cI, 8, .inl gsi)), (mwa, .inl (cI, 130, .inl q_7)), (mwo, .inl (cI, 64, .inl gwo)), (mnu, .inl (cI, 10, .inl gnu)), (mce, .inl (cJ, 1280, .inr (.inl gce))), (mki, .inl (cI, 8, .inl g_31)), (mpa, .inl (cI, 8, .inl g_32)), (mta, .inl (cI, 8, .inl g_33)), (mla, .inl (cI, 40, .inl g_34)), (msl, .inl (cI, 40, .inl g_35)), (mco, .inl (cI, 3, .inl g_36)), (mte, .inl (cI, 3, .inl g_37)), (zMO m0 v_38 v_39 v_40 v_41 nto v_42 v_43 v_44 nsd (-1) mrf mki mpa mta mla msl mco mhe mso msi msh mce mca mwo mnu mte x_8 i_62 x_9 v_45 q_126 mwa mke mma mth mtr nra nik)]) hP hD rfl
            clear hP hD
            obtain ⟨hP, hD⟩ := h9R
            obtain rfl := hr_124
            refine lv_istore (lv' := [(4, .int 0), (3, .int v_47), (0, .ref m0), (1, .int s_)]) hx hb dX8_jacket_106 hl (by decide) rfl (fun ls hl => ?_)
            refine lv_goto (tgt := 62) hx hb dX8_jacket_108 (by decide) ?_
            refine lv_iload hx hb dX8_jacket_62 (lv_at hl 0 rfl) ?_
            refine lv_if_eq (tgt := 133) hx hb dX8_jacket_64 (by decide) (fun c_127 => ?_) (fun c_127 => ?_)
            · refine lv_iload hx hb dX8_jacket_133 (lv_at hl 0 rfl) ?_
              refine lv_if_eq (tgt := 140) hx hb dX8_jacket_135 (by decide) (fun c_128 => ?_) (fun c_128 => ?_)
              · refine lv_aload_n hx hb dX8_jacket_140 rfl (lv_at hl 2 rfl) ?_
                refine lv_aload_n hx hb dX8_jacket_141 rfl (lv_at hl 2 rfl) ?_
                refine va_get (D := D) (ci := 8) (v := .ref mwa) (C := RX8) (T := TX8) (N := 38) hx hb hts hi_X8_jacket_8 hown hK hP 14 rfl rfl 31 (by decide) (hts (.fieldLink RX8 75 "TheLiningsInItModel" "was" "[I") (List.mem_of_getElem? (i := 1) rfl)) (fun _ h9 => h9) rfl dX8_jacket_142 ?_
                refine lv_iconst (v := 1) hx hb dX8_jacket_145 (by decide) ?_
                skip
                refine zw_Vv (As := [.ref mwa, .int 1]) (rest := []) (wr := [(mrf, .inl (cI, 8, .inl grf)), (mhe, .inl (cI, 8, .inl ghe)), (msi, .inl (cI, 8, .inl gsi)), (mwo, .inl (cI, 64, .inl gwo)), (mnu, .inl (cI, 10, .inl gnu)), (mce, .inl (cJ, 1280, .inr (.inl gce))), (mte, .inl (cI, 3, .inl g_37))]) ⟨hx, hb, hml, hown, hts⟩ (c_M_all_b l D cI cJ cZ cP cS po m0 mrf mki mpa mta mla msl mco mhe mso msi msh mce mca mwo mnu mte mwa mke mma mth mtr (v_38) (v_39) (v_40) (v_41) (nto) (v_42) (v_43) (v_44) (nsd) ((-1)) (x_8) (i_62) (x_9) (v_45) (q_126) (nra) (nik) g_31 g_32 g_33 g_34 g_35 g_36 mwa q_7 hbv_38.1 hbv_38.2 hbv_39.1 hbv_39.2 hbv_40.1 hbv_40.2 hbv_41.1 hbv_41.2 hbv_43.1 hbv_43.2 hy10 hy11 hy12 hy13 (zAll_kp hsr_5_0 hp_gki hp_gpa hp_gta hp_gla hp_gsl hp_gco ⟨by omega, by omega⟩ ⟨by omega, by omega⟩ ⟨by omega, by omega⟩ ⟨by omega, by omega⟩ ⟨by omega, by omega⟩) hpg_31 hpg_32 hpg_33 hpg_34 hpg_35 hpg_36 H.size) (cwV 2 hts gX8_jacket_X8_all rfl rfl rfl ⟨rfl, dh_X8_all⟩ ⟨Nat.le_of_ble_eq_true rfl, Nat.le_of_ble_eq_true rfl⟩) hK hN (hZ.kept hS) hP hD hS hA [14, 7, 8, 9, 10, 11, 12, 3] [0, 1, 2, 4, 5, 6, 13] rfl rfl (by decide) (by decide) (by decide) (va_recv (q := (RX8, TX8, 38)) hK hP (ci := 8) (q0 := 14) rfl rfl) rfl hl.1 rfl (Nat.le_of_ble_eq_true rfl) dX8_jacket_146 ⟨Nat.le_of_ble_eq_true rfl, Nat.le_of_ble_eq_true rfl⟩ (fun u_130 H locs hr_129 hP hD hS => ?_)
                obtain ⟨q_131, q_132, q_133, q_134, q_135, q_136, q_137, q_138, q_139, q_140, q_141, q_142, q_143, q_144, q_145⟩ := u_130
                try dsimp only at hr_129
                obtain ⟨hbq_131, hbq_132, hbq_133, hbq_134, hbq_137, hpq_140, hpq_141, hpq_142, hpq_143, hpq_144, hpq_145, hsr_129_0, hsr_129_1, hsr_129_2, hsr_129_3, hsr_129_4, hsr_129_5, hsr_129_6, hr_129⟩ := hr_129
                have h9R := zRe (ws' := [(mrf, .inl (cI, 8, .inl grf)), (mhe, .inl (cI, 8, .inl ghe)), (msi, .inl (cI, 8, .inl gsi)), (mwo, .inl (cI, 64, .inl gwo)), (mnu, .inl (cI, 10, .inl gnu)), (mce, .inl (cJ, 1280, .inr (.inl gce))), (mte, .inl (cI, 3, .inl g_37)), (zMO m0 q_131 q_132 q_133 q_134 q_135 q_136 q_137 q_138 q_139 (-1) mrf mki mpa mta mla msl mco mhe mso msi msh mce mca mwo mnu mte x_8 i_62 x_9 v_45 q_126 mwa mke mma mth mtr nra nik), (mki, .inl (cI, 8, .inl q_140)), (mpa, .inl (cI, 8, .inl q_141)), (mta, .inl (cI, 8, .inl q_142)), (mla, .inl (cI, 40, .inl q_143)), (msl, .inl (cI, 40, .inl q_144)), (mco, .inl (cI, 3, .inl q_145)), (mwa, .inl (cI, 130, .inl q_7))]) hP hD rfl
                clear hP hD
                obtain ⟨hP, hD⟩ := h9R
                refine lv_aload_n hx hb dX8_jacket_149 rfl (lv_at hl 2 rfl) ?_
                refine lv_aload_n hx hb dX8_jacket_150 rfl (lv_at hl 2 rfl) ?_
                refine va_get (D := D) (ci := 8) (v := .int q_126) (C := RX8) (T := TX8) (N := 38) hx hb hts hi_X8_jacket_8 hown hK hP 7 rfl rfl 30 (by decide) (hts (.fieldLink RX8 149 "TheLiningsInItModel" "wrongAt" "I") (List.mem_of_getElem? (i := 8) rfl)) (fun _ h9 => h9) rfl dX8_jacket_151 ?_
                refine va_put (D := D) (ci := 8) (v := .int q_126) (ty := .int) (C := RX8) (T := TX8) (N := 38) hx hb hts hi_X8_jacket_8 tyX8 tyX8_ok nmX8 hown hK hP hD hS 7 rfl rfl 9 (by decide) (hts (.fieldLink RX8 22 "TheLiningsInItModel" "fault" "I") (List.mem_of_getElem? (i := 6) rfl)) (fun _ h9 => h9) rfl (tyX8_ok 9 (Nat.le_of_ble_eq_true rfl)) rfl rfl (Nat.le_of_ble_eq_true rfl) dX8_jacket_154 (fun H locs hP hD hS => ?_)
                have h9R := zRe (ws' := [(mrf, .inl (cI, 8, .inl grf)), (mhe, .inl (cI, 8, .inl ghe)), (msi, .inl (cI, 8, .inl gsi)), (mwo, .inl (cI, 64, .inl gwo)), (mnu, .inl (cI, 10, .inl gnu)), (mce, .inl (cJ, 1280, .inr (.inl gce))), (mte, .inl (cI, 3, .inl g_37)), (zMO m0 q_131 q_132 q_133 q_134 q_135 q_136 q_137 q_138 q_139 q_126 mrf mki mpa mta mla msl mco mhe mso msi msh mce mca mwo mnu mte x_8 i_62 x_9 v_45 q_126 mwa mke mma mth mtr nra nik), (mki, .inl (cI, 8, .inl q_140)), (mpa, .inl (cI, 8, .inl q_141)), (mta, .inl (cI, 8, .inl q_142)), (mla, .inl (cI, 40, .inl q_143)), (msl, .inl (cI, 40, .inl q_144)), (mco, .inl (cI, 3, .inl q_145)), (mwa, .inl (cI, 130, .inl q_7))]) hP hD rfl
                clear hP hD
                obtain ⟨hP, hD⟩ := h9R
                refine lv_aload_n hx hb dX8_jacket_157 rfl (lv_at hl 2 rfl) ?_
                refine lv_bipush (v := (-6)) hx hb dX8_jacket_158 (by decide) ?_
                skip
                refine zw_V (As := [.int (-6)]) (rest := []) (wr := [(mhe, .inl (cI, 8, .inl ghe)), (msi, .inl (cI, 8, .inl gsi)), (mwo, .inl (cI, 64, .inl gwo)), (mnu, .inl (cI, 10, .inl gnu)), (mce, .inl (cJ, 1280, .inr (.inl gce))), (mte, .inl (cI, 3, .inl g_37)), (mki, .inl (cI, 8, .inl q_140)), (mpa, .inl (cI, 8, .inl q_141)), (mta, .inl (cI, 8, .inl q_142)), (mla, .inl (cI, 40, .inl q_143)), (msl, .inl (cI, 40, .inl q_144)), (mco, .inl (cI, 3, .inl q_145)), (mwa, .inl (cI, 130, .inl q_7))]) ⟨hx, hb, hml, hown, hts⟩ (c_M_no_6 l D cI cJ cZ cP cS po m0 mrf mki mpa mta mla msl mco mhe mso msi msh mce mca mwo mnu mte mwa mke mma mth mtr (q_131) (q_132) (q_133) (q_134) (q_135) (q_136) (q_137) (q_138) (q_139) (q_126) (x_8) (i_62) (x_9) (v_45) (q_126) (nra) (nik) grf hbq_131.1 hbq_131.2 hbq_132.1 hbq_132.2 hbq_133.1 hbq_133.2 hbq_134.1 hbq_134.2 hbq_137.1 hbq_137.2 hy10 hy11 hy12 hy13 H.size) (cwV 1 hts gX8_jacket_X8_no rfl rfl rfl ⟨rfl, dh_X8_no⟩ ⟨Nat.le_of_ble_eq_true rfl, Nat.le_of_ble_eq_true rfl⟩) hK hN (hZ.kept hS) hP hD hS hA [7, 0] [1, 2, 3, 4, 5, 6, 8, 9, 10, 11, 12, 13, 14] rfl rfl (by decide) (by decide) (by decide) (va_recv (q := (RX8, TX8, 38)) hK hP (ci := 8) (q0 := 7) rfl rfl) rfl hl.1 rfl (Nat.le_of_ble_eq_true rfl) dX8_jacket_160 ⟨Nat.le_of_ble_eq_true rfl, Nat.le_of_ble_eq_true rfl⟩ (fun r_146 u_147 H locs hr_146 hP hD hS => ?_)
                obtain ⟨q_148, rfl⟩ : ∃ z, z = u_147 := ⟨_, rfl⟩
                have h9R := zRe (ws' := [(mhe, .inl (cI, 8, .inl ghe)), (msi, .inl (cI, 8, .inl gsi)), (mwo, .inl (cI, 64, .inl gwo)), (mnu, .inl (cI, 10, .inl gnu)), (mce, .inl (cJ, 1280, .inr (.inl gce))), (mte, .inl (cI, 3, .inl g_37)), (mki, .inl (cI, 8, .inl q_140)), (mpa, .inl (cI, 8, .inl q_141)), (mta, .inl (cI, 8, .inl q_142)), (mla, .inl (cI, 40, .inl q_143)), (msl, .inl (cI, 40, .inl q_144)), (mco, .inl (cI, 3, .inl q_145)), (mwa, .inl (cI, 130, .inl q_7)), (zMO m0 q_131 q_132 q_133 q_134 q_135 q_136 q_137 q_138 q_139 q_126 mrf mki mpa mta mla msl mco mhe mso msi msh mce mca mwo mnu mte x_8 i_62 x_9 v_45 q_126 mwa mke mma mth mtr nra nik), (mrf, .inl (cI, 8, .inl q_148))]) hP hD rfl
                clear hP hD
                obtain ⟨hP, hD⟩ := h9R
                obtain rfl := hr_146
                exact W.iret (v := (-6)) hx hb hr (fun t ht hW => ⟨⟨(-6), (q_131, q_132, q_133, q_134, q_135, q_136, q_137, q_138, q_139, q_148, q_7, q_140, q_141, q_142, q_143, q_144, q_145, g_37, q_126, x_8, i_62, x_9, v_45, q_126), rfl, ⟨(show 0 ≤ q_131.toInt ∧ q_131.toInt ≤ 8 from hbq_131), (show 4 ≤ q_132.toInt ∧ q_132.toInt ≤ 40 from hbq_132), (show 0 ≤ q_133.toInt ∧ q_133.toInt ≤ 40 from hbq_133), (show 0 ≤ q_134.toInt ∧ q_134.toInt ≤ 24 from hbq_134), (show 0 ≤ q_137.toInt ∧ q_137.toInt ≤ 9 from hbq_137), hpq_140, hpq_141, hpq_142, hpq_143, hpq_144, hpq_145, (show zJac (zMF gce (160 * s_.toInt)) (gsi s_.toNatClampNeg).toInt s_.toInt (zHc (ghe s_.toNatClampNeg).toInt) nfa.toInt npu.toInt nte.toInt ((-6) : Int32).toInt q_126.toInt q_131.toInt q_132.toInt from by (have k9 : ((-6) : Int32).toInt = -6 := (by decide); have zw := hsr_1_0; obtain ⟨p, t, u, z1, z2, z3, z4, z5⟩ := hvi_62_1 (by omega); have zE : zEnd (zMF gce (x_8 : Int32).toInt) (x_9 : Int32).toInt nte.toInt npu.toInt ((v_47 : Int32).toInt - 1).toNat (q_126 : Int32).toInt 0 0 := zEnd_c z1 z2 (by omega) (by rw [← z3, zMF_at (by omega), ← hdx_99]; omega) (by omega) (by omega); rw [show (x_8 : Int32).toInt = 160 * s_.toInt from by omega, show (x_9 : Int32).toInt = (gsi s_.toNatClampNeg).toInt from by (rw [ex_9])] at zE; unfold zJac zHc; rw [if_pos (show (ghe s_.toNatClampNeg).toInt = 1 from by omega)]; refine Or.inr (Or.inr (Or.inr ⟨by omega, by omega, _, _, _, _, zE, ?_⟩)); exact Or.inl ⟨by omega, by omega, by first | rfl | omega, by rw [hsr_129_6.1, hsr_5_0 107 (by decide)]; rfl, by rw [hsr_129_6.2.1, hsr_5_0 108 (by decide)]; rfl⟩)), (show (1 ≤ ((-6) : Int32).toInt → ∀ j : Nat, j < 40 → q_143 j = zRl (zDI (zMF gce (160 * s_.toInt)) (gsi s_.toNatClampNeg).toInt nte.toInt npu.toInt) gla ((-6) : Int32).toInt.toNat j) from by (have k9 : ((-6) : Int32).toInt = -6 := (by decide); intro h; exfalso; omega)), (show (1 ≤ ((-6) : Int32).toInt → ∀ j : Nat, j < 40 → q_144 j = zRs (zDI (zMF gce (160 * s_.toInt)) (gsi s_.toNatClampNeg).toInt nte.toInt npu.toInt) gsl ((-6) : Int32).toInt.toNat j) from by (have k9 : ((-6) : Int32).toInt = -6 := (by decide); intro h; exfalso; omega)), (show (1 ≤ ((-6) : Int32).toInt → q_140 = zRk (zDI (zMF gce (160 * s_.toInt)) (gsi s_.toNatClampNeg).toInt nte.toInt npu.toInt) npu.toInt gki ((-6) : Int32).toInt.toNat ∧ q_141 = zRa (zDI (zMF gce (160 * s_.toInt)) (gsi s_.toNatClampNeg).toInt nte.toInt npu.toInt) npu.toInt gpa ((-6) : Int32).toInt.toNat ∧ q_142 = zRt (zDI (zMF gce (160 * s_.toInt)) (gsi s_.toNatClampNeg).toInt nte.toInt npu.toInt) npu.toInt gta ((-6) : Int32).toInt.toNat) from by (have k9 : ((-6) : Int32).toInt = -6 := (by decide); intro h; exfalso; omega)), (show (1 ≤ ((-6) : Int32).toInt → q_145 = zRc (zDI (zMF gce (160 * s_.toInt)) (gsi s_.toNatClampNeg).toInt nte.toInt npu.toInt) gco ((-6) : Int32).toInt.toNat) from by (have k9 : ((-6) : Int32).toInt = -6 := (by decide); intro h; exfalso; omega)), (show (1 ≤ ((-6) : Int32).toInt → q_134.toInt = zRn 4 (zDI (zMF gce (160 * s_.toInt)) (gsi s_.toNatClampNeg).toInt nte.toInt npu.toInt) nde.toInt ((-6) : Int32).toInt.toNat ∧ q_136.toInt = zRn 5 (zDI (zMF gce (160 * s_.toInt)) (gsi s_.toNatClampNeg).toInt nte.toInt npu.toInt) nse.toInt ((-6) : Int32).toInt.toNat ∧ q_137.toInt = zRn 6 (zDI (zMF gce (160 * s_.toInt)) (gsi s_.toNatClampNeg).toInt nte.toInt npu.toInt) nhu.toInt ((-6) : Int32).toInt.toNat ∧ q_138.toInt = zRn 7 (zDI (zMF gce (160 * s_.toInt)) (gsi s_.toNatClampNeg).toInt nte.toInt npu.toInt) nga.toInt ((-6) : Int32).toInt.toNat ∧ q_133.toInt = zRat (zDI (zMF gce (160 * s_.toInt)) (gsi s_.toNatClampNeg).toInt nte.toInt npu.toInt) nat_.toInt ((-6) : Int32).toInt.toNat) from by (have k9 : ((-6) : Int32).toInt = -6 := (by decide); intro h; exfalso; omega)), (show (((-6) : Int32).toInt < 1 → (∀ j : Nat, j < 40 → q_143 j = gla j) ∧ (∀ j : Nat, j < 40 → q_144 j = gsl j) ∧ (∀ j : Nat, j < 8 → q_140 j = gki j ∧ q_141 j = gpa j ∧ q_142 j = gta j) ∧ (∀ j : Nat, j < 3 → q_145 j = gco j) ∧ q_134 = nde ∧ q_136 = nse ∧ q_137 = nhu ∧ q_138 = nga ∧ q_133 = nat_) from by (intro _; obtain ⟨y0, y1, y2, y3, y4, y5, y6, y7, y8⟩ := hsr_129_6; exact ⟨fun j hj => (by rw [hsr_129_3 j hj, hsr_5_0 (24 + j) (by omega)]; unfold zAll; (repeat (first | rw [if_pos (by omega)] | rw [if_neg (by omega)])); first | done | rfl | (congr 1; omega)), fun j hj => (by rw [hsr_129_4 j hj, hsr_5_0 (64 + j) (by omega)]; unfold zAll; (repeat (first | rw [if_pos (by omega)] | rw [if_neg (by omega)])); first | done | rfl | (congr 1; omega)), fun j hj => ⟨(by rw [hsr_129_0 j hj, hsr_5_0 (0 + j) (by omega)]; unfold zAll; (repeat (first | rw [if_pos (by omega)] | rw [if_neg (by omega)])); first | done | rfl | (congr 1; omega)), (by rw [hsr_129_1 j hj, hsr_5_0 (8 + j) (by omega)]; unfold zAll; (repeat (first | rw [if_pos (by omega)] | rw [if_neg (by omega)])); first | done | rfl | (congr 1; omega)), (by rw [hsr_129_2 j hj, hsr_5_0 (16 + j) (by omega)]; unfold zAll; (repeat (first | rw [if_pos (by omega)] | rw [if_neg (by omega)])); first | done | rfl | (congr 1; omega))⟩, fun j hj => (by rw [hsr_129_5 j hj, hsr_5_0 (104 + j) (by omega)]; unfold zAll; (repeat (first | rw [if_pos (by omega)] | rw [if_neg (by omega)])); first | done | rfl | (congr 1; omega)), by (rw [y3, hsr_5_0 110 (by decide)]; rfl), by (rw [y5, hsr_5_0 112 (by decide)]; rfl), by (rw [y6, hsr_5_0 113 (by decide)]; rfl), by (rw [y7, hsr_5_0 114 (by decide)]; rfl), by (rw [y2, hsr_5_0 109 (by decide)]; rfl)⟩)), (show (q_135 = nto ∧ q_139 = nsd) from by (obtain ⟨y0, y1, y2, y3, y4, y5, y6, y7, y8⟩ := hsr_129_6; exact ⟨by (rw [y4, hsr_5_0 111 (by decide)]; rfl), by (rw [y8, hsr_5_0 115 (by decide)]; rfl)⟩)), trivial⟩, zRet ht hP hD [13, 14, 0, 1, 12, 2, 3, 4, 6, 7, 8, 9, 10, 11, 5] (by decide) rfl⟩, hS.F ht⟩) hS.2.2 dX8_jacket_163
              · exact absurd c_128 (by decide)
            · exact absurd c_127 (by decide)
  · have fc_4 : r_1.toInt ≠ 0 := zf_ne c_4 rfl (by decide)
    refine lv_aload_n hx hb dX8_jacket_10 rfl (lv_at hl 1 rfl) ?_
    refine lv_iload_n hx hb dX8_jacket_11 rfl (lv_at hl 0 rfl) ?_
    skip
    refine zw_V (As := [.int r_1]) (rest := []) (wr := [(mhe, .inl (cI, 8, .inl ghe)), (msi, .inl (cI, 8, .inl gsi)), (mwa, .inl (cI, 130, .inl gwa)), (mwo, .inl (cI, 64, .inl gwo)), (mnu, .inl (cI, 10, .inl gnu)), (mce, .inl (cJ, 1280, .inr (.inl gce))), (mki, .inl (cI, 8, .inl gki)), (mpa, .inl (cI, 8, .inl gpa)), (mta, .inl (cI, 8, .inl gta)), (mla, .inl (cI, 40, .inl gla)), (msl, .inl (cI, 40, .inl gsl)), (mco, .inl (cI, 3, .inl gco)), (mte, .inl (cI, 3, .inl gte))]) ⟨hx, hb, hml, hown, hts⟩ (c_M_no l D cI cJ cZ cP cS po m0 mrf mki mpa mta mla msl mco mhe mso msi msh mce mca mwo mnu mte mwa mke mma mth mtr (npu) (nte) (nat_) (nde) (nto) (nse) (nhu) (nga) (nsd) (nfa) (nba) (npl) (nen) (nnu) (nwr) (nra) (nik) grf (r_1) hy0 hy1 hy2 hy3 hy4 hy5 hy6 hy7 hy8 hy9 hy10 hy11 hy12 hy13 (by omega) (by omega) H.size) (cwV 1 hts gX8_jacket_X8_no rfl rfl rfl ⟨rfl, dh_X8_no⟩ ⟨Nat.le_of_ble_eq_true rfl, Nat.le_of_ble_eq_true rfl⟩) hK hN (hZ.kept hS) hP hD hS hA [0, 1] [2, 3, 4, 5, 6, 7, 8, 9, 10, 11, 12, 13, 14] rfl rfl (by decide) (by decide) (by decide) (va_recv (q := (RX8, TX8, 38)) hK hP (ci := 8) (q0 := 0) rfl rfl) rfl hl.1 rfl (Nat.le_of_ble_eq_true rfl) dX8_jacket_12 ⟨Nat.le_of_ble_eq_true rfl, Nat.le_of_ble_eq_true rfl⟩ (fun r_149 u_150 H locs hr_149 hP hD hS => ?_)
    obtain ⟨q_151, rfl⟩ : ∃ z, z = u_150 := ⟨_, rfl⟩
    have h9R := zRe (ws' := [(mhe, .inl (cI, 8, .inl ghe)), (msi, .inl (cI, 8, .inl gsi)), (mwa, .inl (cI, 130, .inl gwa)), (mwo, .inl (cI, 64, .inl gwo)), (mnu, .inl (cI, 10, .inl gnu)), (mce, .inl (cJ, 1280, .inr (.inl gce))), (mki, .inl (cI, 8, .inl gki)), (mpa, .inl (cI, 8, .inl gpa)), (mta, .inl (cI, 8, .inl gta)), (mla, .inl (cI, 40, .inl gla)), (msl, .inl (cI, 40, .inl gsl)), (mco, .inl (cI, 3, .inl gco)), (mte, .inl (cI, 3, .inl gte)), (zMO m0 npu nte nat_ nde nto nse nhu nga nsd nfa mrf mki mpa mta mla msl mco mhe mso msi msh mce mca mwo mnu mte nba npl nen nnu nwr mwa mke mma mth mtr nra nik), (mrf, .inl (cI, 8, .inl q_151))]) hP hD rfl
    clear hP hD
    obtain ⟨hP, hD⟩ := h9R
    have w_152 := hr_149
    obtain rfl : r_1 = r_149 := w_152.symm
    exact W.iret (v := r_1) hx hb hr (fun t ht hW => ⟨⟨r_1, (npu, nte, nat_, nde, nto, nse, nhu, nga, nsd, q_151, gwa, gki, gpa, gta, gla, gsl, gco, gte, nfa, nba, npl, nen, nnu, nwr), rfl, ⟨(show 0 ≤ npu.toInt ∧ npu.toInt ≤ 8 from ⟨hy0, hy1⟩), (show 4 ≤ nte.toInt ∧ nte.toInt ≤ 40 from ⟨hy2, hy3⟩), (show 0 ≤ nat_.toInt ∧ nat_.toInt ≤ 40 from ⟨hy4, hy5⟩), (show 0 ≤ nde.toInt ∧ nde.toInt ≤ 24 from ⟨hy6, hy7⟩), (show 0 ≤ nhu.toInt ∧ nhu.toInt ≤ 9 from ⟨hy8, hy9⟩), hp_gki, hp_gpa, hp_gta, hp_gla, hp_gsl, hp_gco, (show zJac (zMF gce (160 * s_.toInt)) (gsi s_.toNatClampNeg).toInt s_.toInt (zHc (ghe s_.toNatClampNeg).toInt) nfa.toInt npu.toInt nte.toInt (r_1 : Int32).toInt nfa.toInt npu.toInt nte.toInt from by (have zw := hsr_1_0; unfold zJac zHc; rcases zw with zw | ⟨zs, zw | zw | zw⟩; (left; omega); (right; right; left; rw [if_neg (by omega), if_neg (by omega)]; omega); (right; left; rw [if_neg (by omega), if_pos (by omega)]; omega); (exfalso; omega))), (show (1 ≤ (r_1 : Int32).toInt → ∀ j : Nat, j < 40 → gla j = zRl (zDI (zMF gce (160 * s_.toInt)) (gsi s_.toNatClampNeg).toInt nte.toInt npu.toInt) gla (r_1 : Int32).toInt.toNat j) from by (intro h; exfalso; omega)), (show (1 ≤ (r_1 : Int32).toInt → ∀ j : Nat, j < 40 → gsl j = zRs (zDI (zMF gce (160 * s_.toInt)) (gsi s_.toNatClampNeg).toInt nte.toInt npu.toInt) gsl (r_1 : Int32).toInt.toNat j) from by (intro h; exfalso; omega)), (show (1 ≤ (r_1 : Int32).toInt → gki = zRk (zDI (zMF gce (160 * s_.toInt)) (gsi s_.toNatClampNeg).toInt nte.toInt npu.toInt) npu.toInt gki (r_1 : Int32).toInt.toNat ∧ gpa = zRa (zDI (zMF gce (160 * s_.toInt)) (gsi s_.toNatClampNeg).toInt nte.toInt npu.toInt) npu.toInt gpa (r_1 : Int32).toInt.toNat ∧ gta = zRt (zDI (zMF gce (160 * s_.toInt)) (gsi s_.toNatClampNeg).toInt nte.toInt npu.toInt) npu.toInt gta (r_1 : Int32).toInt.toNat) from by (intro h; exfalso; omega)), (show (1 ≤ (r_1 : Int32).toInt → gco = zRc (zDI (zMF gce (160 * s_.toInt)) (gsi s_.toNatClampNeg).toInt nte.toInt npu.toInt) gco (r_1 : Int32).toInt.toNat) from by (intro h; exfalso; omega)), (show (1 ≤ (r_1 : Int32).toInt → nde.toInt = zRn 4 (zDI (zMF gce (160 * s_.toInt)) (gsi s_.toNatClampNeg).toInt nte.toInt npu.toInt) nde.toInt (r_1 : Int32).toInt.toNat ∧ nse.toInt = zRn 5 (zDI (zMF gce (160 * s_.toInt)) (gsi s_.toNatClampNeg).toInt nte.toInt npu.toInt) nse.toInt (r_1 : Int32).toInt.toNat ∧ nhu.toInt = zRn 6 (zDI (zMF gce (160 * s_.toInt)) (gsi s_.toNatClampNeg).toInt nte.toInt npu.toInt) nhu.toInt (r_1 : Int32).toInt.toNat ∧ nga.toInt = zRn 7 (zDI (zMF gce (160 * s_.toInt)) (gsi s_.toNatClampNeg).toInt nte.toInt npu.toInt) nga.toInt (r_1 : Int32).toInt.toNat ∧ nat_.toInt = zRat (zDI (zMF gce (160 * s_.toInt)) (gsi s_.toNatClampNeg).toInt nte.toInt npu.toInt) nat_.toInt (r_1 : Int32).toInt.toNat) from by (intro h; exfalso; omega)), (show ((r_1 : Int32).toInt < 1 → (∀ j : Nat, j < 40 → gla j = gla j) ∧ (∀ j : Nat, j < 40 → gsl j = gsl j) ∧ (∀ j : Nat, j < 8 → gki j = gki j ∧ gpa j = gpa j ∧ gta j = gta j) ∧ (∀ j : Nat, j < 3 → gco j = gco j) ∧ nde = nde ∧ nse = nse ∧ nhu = nhu ∧ nga = nga ∧ nat_ = nat_) from by (intro _; exact ⟨fun _ _ => rfl, fun _ _ => rfl, fun _ _ => ⟨rfl, rfl, rfl⟩, fun _ _ => rfl, rfl, rfl, rfl, rfl, rfl⟩)), (show (nto = nto ∧ nsd = nsd) from by (exact ⟨rfl, rfl⟩)), trivial⟩, zRet ht hP hD [13, 14, 0, 1, 2, 3, 4, 5, 6, 7, 8, 9, 10, 11, 12] (by decide) rfl⟩, hS.F ht⟩) hS.2.2 dX8_jacket_15
end
section
set_option maxHeartbeats 4000000 in
set_option maxRecDepth 100000 in
theorem c_F_fillJ (l : Launch) (D : va_G) (cI cJ cZ cP cS : ClassId) (po : zPool) (e0 : Nat) (v : Int64) (fe : Nat → Int64)  (hpz : Nat) : Met l yJ7_fill_d0a16 wsJ7_fill_d0a16 ({ frames := 0, cells := 0, slots := 0, locals := 0 }) (va_Pc [.ref e0, .long v] (zW D (zKT cI cJ cZ cP cS) po [(e0, .inl (cJ, 160, .inr (.inl fe)))] hpz)) (va_Qv (fun (fe2 : (Nat → Int64)) => ((∀ k : Nat, k < 160 → fe2 k = v)) ∧ (True)) (zB D [(e0, .inl (cJ, 160, .inr (.inl fe)))] hpz (fun (fe2 : Nat → Int64) => [(e0, .inl (cJ, 160, .inr (.inl fe2)))])) (va_A [(e0, .inl (cJ, 160, .inr (.inl fe)))] hpz)) 0 0 (va_A [(e0, .inl (cJ, 160, .inr (.inl fe)))] hpz) := by
  refine Met.ofW (cc := cJ7_fill_d0a16) (maxL := 5) (ret := none) (by decide) rfl ?_
  intro p e s m args below meth c s₁ B hml hv
  obtain ⟨rfl, hsz, hP, hK, hD0, hN, hZ⟩ := hv
  have hx := B.exec
  have hb := B.bytes
  have hr := B.returns
  have hts := atoms_spec (ws := wsJ7_fill_d0a16) B.pre
  have hown : s.vm.findClass RJ7 = some m.cls := findClass_of_methodNamed B.named
  have hlocks := B.notSynchronized
  subst hsz
  have hD := hD0.self (sz := s.heap.size)
  have hA := zA_of hD
  have hl := lv_entry ([.ref e0, .long v]) (n := 5) (Nat.le_of_ble_eq_true rfl)
  rw [lg_entry_eq]
  generalize (lg_sl ([.ref e0, .long v]) ++ List.replicate (5 - (lg_sl ([.ref e0, .long v])).length) Slot.unset).toArray = ls at hl ⊢
  replace hl : lv_has ls 5 [(0, .ref e0), (1, .long v)] := hl
  refine zw_begin hP hD (fun H locs hP1 hS => ?_)
  clear hP
  have hP := hP1
  clear hP1
  refine lv_iconst (v := 0) hx hb dJ7_fill_d0a16_0 (by decide) ?_
  refine lv_istore_n (lv' := [(3, .int 0), (0, .ref e0), (1, .long v)]) hx hb dJ7_fill_d0a16_1 rfl hl (by decide) rfl (fun ls hl => ?_)
  refine lv_aload_n hx hb dJ7_fill_d0a16_2 rfl (lv_at hl 1 rfl) ?_
  refine va_alen (v := 160) hx hb hK hP 0 1 rfl rfl rfl dJ7_fill_d0a16_3 ?_
  refine lv_istore (lv' := [(4, .int 160), (3, .int 0), (0, .ref e0), (1, .long v)]) hx hb dJ7_fill_d0a16_4 hl (by decide) rfl (fun ls hl => ?_)
  obtain ⟨i_6, hi_6⟩ : ∃ i : Int32, i = 0 := ⟨_, rfl⟩
  replace hl : lv_has ls 5 [(4, .int 160), (3, .int i_6), (0, .ref e0), (1, .long v)] := by rw [hi_6]; exact lv_sub hl [0, 1, 2, 3] rfl
  have h1i_6 : i_6.toInt = 0 := by rw [hi_6]; decide
  obtain ⟨nfu, hni_6⟩ : ∃ nq9 : Nat, 160 ≤ i_6.toInt + (nq9 : Int) := ⟨((160 : Int) - 0).toNat, by omega⟩
  have hloi_6 : 0 ≤ i_6.toInt := by omega
  obtain ⟨g_1, hg_1⟩ : ∃ g : Nat → Int64, g = fe := ⟨_, rfl⟩
  replace hP : va_P D vwCl [(e0, .inl (cJ, 160, .inr (.inl g_1)))] H := by rw [hg_1]; exact hP
  replace hD : va_D (va_A [(e0, .inl (cJ, 160, .inr (.inl fe)))] s.heap.size) [(e0, .inl (cJ, 160, .inr (.inl g_1)))] := by rw [hg_1]; exact hD
  have hvi_6_0 : (∀ k : Nat, (k : Int) < i_6.toInt → g_1 k = v) := by
    (try rw [hi_6]); (try rw [hg_1]); (intro k hk; exfalso; have k0 : (0 : Int32).toInt = 0 := (by decide); omega)
  clear h1i_6 hi_6 hg_1
  skip
  revert hni_6
  revert hloi_6
  revert hvi_6_0
  revert hl
  revert hS
  revert hD
  revert hP
  revert ls
  revert locs
  revert H
  revert g_1
  revert i_6
  induction nfu with
  | zero =>
    intro i_6 g_1 H locs ls hP hD hS hl hvi_6_0 hloi_6 hni_6
    have hzi_6 : 160 ≤ i_6.toInt := by omega
    refine lv_iload_n hx hb dJ7_fill_d0a16_6 rfl (lv_at hl 1 rfl) ?_
    refine lv_iload hx hb dJ7_fill_d0a16_7 (lv_at hl 0 rfl) ?_
    refine lv_icmp_ge (tgt := 22) hx hb dJ7_fill_d0a16_9 (by decide) (fun c_2 => ?_) (fun c_2 => ?_)
    · have fc_2 : 160 ≤ i_6.toInt := zf_le c_2 (by decide) rfl
      exact W.vret hx hb hr (fun t ht hW => ⟨⟨g_1, rfl, ⟨(show (∀ k : Nat, k < 160 → g_1 k = v) from by (intro k hk; exact hvi_6_0 k (by omega))), trivial⟩, zRet ht hP hD [0] (by decide) rfl⟩, hS.F ht⟩) hS.2.2 dJ7_fill_d0a16_22
    · exfalso; have fc_2 : i_6.toInt < 160 := zf_nle c_2 (by decide) rfl; omega
  | succ nfu ih =>
    intro i_6 g_1 H locs ls hP hD hS hl hvi_6_0 hloi_6 hni_6
    refine lv_iload_n hx hb dJ7_fill_d0a16_6 rfl (lv_at hl 1 rfl) ?_
    refine lv_iload hx hb dJ7_fill_d0a16_7 (lv_at hl 0 rfl) ?_
    refine lv_icmp_ge (tgt := 22) hx hb dJ7_fill_d0a16_9 (by decide) (fun c_3 => ?_) (fun c_3 => ?_)
    · have fc_3 : 160 ≤ i_6.toInt := zf_le c_3 (by decide) rfl
      exact W.vret hx hb hr (fun t ht hW => ⟨⟨g_1, rfl, ⟨(show (∀ k : Nat, k < 160 → g_1 k = v) from by (intro k hk; exact hvi_6_0 k (by omega))), trivial⟩, zRet ht hP hD [0] (by decide) rfl⟩, hS.F ht⟩) hS.2.2 dJ7_fill_d0a16_22
    · have fc_3 : i_6.toInt < 160 := zf_nle c_3 (by decide) rfl
      refine lv_aload_n hx hb dJ7_fill_d0a16_12 rfl (lv_at hl 2 rfl) ?_
      refine lv_iload_n hx hb dJ7_fill_d0a16_13 rfl (lv_at hl 1 rfl) ?_
      refine lv_lload_n hx hb dJ7_fill_d0a16_14 rfl (lv_at hl 3 rfl) ?_
      refine va_last hx hb hK hP hD hS 0 1 rfl rfl (zf_in (by omega) (by omega)) dJ7_fill_d0a16_15 (fun H locs hP hD hS => ?_)
      obtain ⟨g_4, hg_4⟩ : ∃ g : Nat → Int64, g = vp_updL g_1 i_6.toNatClampNeg v := ⟨_, rfl⟩
      rw [← hg_4] at hP hD
      have h9R := zRe (ws' := [(e0, .inl (cJ, 160, .inr (.inl g_4)))]) hP hD rfl
      clear hP hD
      obtain ⟨hP, hD⟩ := h9R
      obtain ⟨x_5, ex_5⟩ : ∃ y : Int32, y = i_6 + 1 := ⟨_, rfl⟩
      have qx_5 : x_5.toInt = i_6.toInt + 1 := dw_incK ex_5 fc_3 (by decide)
      refine lv_iinc (v := x_5) (lv' := [(3, .int x_5), (4, .int 160), (0, .ref e0), (1, .long v)]) hx hb dJ7_fill_d0a16_16 hl (k := 1) rfl ex_5.symm (by decide) rfl (fun ls hl => ?_)
      refine lv_goto (tgt := 6) hx hb dJ7_fill_d0a16_19 (by decide) ?_
      exact ih x_5 (g_4) _ _ _ (hP.sub [0] rfl) (hD.sub [0] (by decide) rfl) hS (lv_sub hl [1, 0, 2, 3] rfl) (show (∀ k : Nat, (k : Int) < x_5.toInt → g_4 k = v) from by (intro k hk; rw [hg_4]; simp only [vp_updL]; have h7 : i_6.toNatClampNeg = i_6.toInt.toNat := rfl; by_cases e9 : k = i_6.toNatClampNeg; (rw [if_pos e9]); (rw [if_neg e9]; exact hvi_6_0 k (by omega)))) (dw_lo hloi_6 qx_5) (dw_hn hni_6 qx_5)
set_option maxHeartbeats 4000000 in
set_option maxRecDepth 100000 in
theorem c_F_Sh_holdRow (l : Launch) (D : va_G) (cI cJ cZ cP cS : ClassId) (po : zPool) (h0 e0 : Nat) (he si : Int32) (fe : Nat → Int64) (o n : Int32) (hy0 : (-1) ≤ he.toInt) (hy1 : he.toInt ≤ 103) (hy2 : 0 ≤ si.toInt) (hy3 : si.toInt ≤ 160) (hy4 : 0 ≤ o.toInt) (hy5 : o.toInt ≤ 3) (hy6 : 0 ≤ n.toInt) (hy7 : n.toInt ≤ 160) (hpz : Nat) : Met l yX4_holdRow wsX4_holdRow ({ frames := 1, cells := 0, slots := 0, locals := 24 }) (va_Pc [.ref h0, .int o, .int n] (zW D (zKT cI cJ cZ cP cS) po [(h0, .inr (4, [.ref e0, .int he, .int si])), (e0, .inl (cJ, 160, .inr (.inl fe)))] hpz)) (va_Qv (fun (u : (Int32) × (Int32) × (Nat → Int64)) => ((-1) ≤ u.1.toInt ∧ u.1.toInt ≤ 103) ∧ (0 ≤ u.2.1.toInt ∧ u.2.1.toInt ≤ 160) ∧ (u.1.toInt = 100 + o.toInt) ∧ (u.2.1 = n) ∧ ((∀ k : Nat, k < 160 → u.2.2 k = 0)) ∧ (True)) (zB D [(h0, .inr (4, [.ref e0, .int he, .int si])), (e0, .inl (cJ, 160, .inr (.inl fe)))] hpz (fun (u : (Int32) × (Int32) × (Nat → Int64)) => [(h0, .inr (4, [.ref e0, .int u.1, .int u.2.1])), (e0, .inl (cJ, 160, .inr (.inl u.2.2)))])) (va_A [(h0, .inr (4, [.ref e0, .int he, .int si])), (e0, .inl (cJ, 160, .inr (.inl fe)))] hpz)) 0 0 (va_A [(h0, .inr (4, [.ref e0, .int he, .int si])), (e0, .inl (cJ, 160, .inr (.inl fe)))] hpz) := by
  refine Met.ofW (cc := cX4_holdRow) (maxL := 3) (ret := none) (by decide) rfl ?_
  intro p e s m args below meth c s₁ B hml hv
  obtain ⟨rfl, hsz, hP, hK, hD0, hN, hZ⟩ := hv
  have hx := B.exec
  have hb := B.bytes
  have hr := B.returns
  have hts := atoms_spec (ws := wsX4_holdRow) B.pre
  have hown : s.vm.findClass RX4 = some m.cls := findClass_of_methodNamed B.named
  have hlocks := B.notSynchronized
  subst hsz
  have hD := hD0.self (sz := s.heap.size)
  have hA := zA_of hD
  have hl := lv_entry ([.ref h0, .int o, .int n]) (n := 3) (Nat.le_of_ble_eq_true rfl)
  rw [lg_entry_eq]
  generalize (lg_sl ([.ref h0, .int o, .int n]) ++ List.replicate (3 - (lg_sl ([.ref h0, .int o, .int n])).length) Slot.unset).toArray = ls at hl ⊢
  replace hl : lv_has ls 3 [(0, .ref h0), (1, .int o), (2, .int n)] := hl
  refine zw_begin hP hD (fun H locs hP1 hS => ?_)
  clear hP
  have hP := hP1
  clear hP1
  refine lv_aload_n hx hb dX4_holdRow_0 rfl (lv_at hl 0 rfl) ?_
  refine lv_bipush (v := 100) hx hb dX4_holdRow_1 (by decide) ?_
  refine lv_iload_n hx hb dX4_holdRow_3 rfl (lv_at hl 1 rfl) ?_
  refine lv_iadd hx hb dX4_holdRow_4 ?_
  refine lv_topi (fun x_1 ex_1 => ?_)
  have qx_1 : x_1.toInt = 100 + o.toInt := by rw [ex_1]; exact zf_add (by decide) rfl (by omega) (by omega)
  refine va_put (D := D) (ci := 4) (v := .int x_1) (ty := .int) (C := RX4) (T := TX4) (N := 3) hx hb hts hi_X4_holdRow_4 tyX4 tyX4_ok nmX4 hown hK hP hD hS 0 rfl rfl 1 (by decide) (hts (.fieldLink RX4 15 "TheLiningsInIt$Shelf" "held" "I") (List.mem_of_getElem? (i := 1) rfl)) (fun _ h9 => h9) rfl (tyX4_ok 1 (Nat.le_of_ble_eq_true rfl)) rfl rfl (Nat.le_of_ble_eq_true rfl) dX4_holdRow_5 (fun H locs hP hD hS => ?_)
  have h9R := zRe (ws' := [(h0, .inr (4, [.ref e0, .int x_1, .int si])), (e0, .inl (cJ, 160, .inr (.inl fe)))]) hP hD rfl
  clear hP hD
  obtain ⟨hP, hD⟩ := h9R
  refine lv_aload_n hx hb dX4_holdRow_8 rfl (lv_at hl 0 rfl) ?_
  refine lv_iload_n hx hb dX4_holdRow_9 rfl (lv_at hl 2 rfl) ?_
  refine va_put (D := D) (ci := 4) (v := .int n) (ty := .int) (C := RX4) (T := TX4) (N := 3) hx hb hts hi_X4_holdRow_4 tyX4 tyX4_ok nmX4 hown hK hP hD hS 0 rfl rfl 2 (by decide) (hts (.fieldLink RX4 19 "TheLiningsInIt$Shelf" "size" "I") (List.mem_of_getElem? (i := 2) rfl)) (fun _ h9 => h9) rfl (tyX4_ok 2 (Nat.le_of_ble_eq_true rfl)) rfl rfl (Nat.le_of_ble_eq_true rfl) dX4_holdRow_10 (fun H locs hP hD hS => ?_)
  have h9R := zRe (ws' := [(h0, .inr (4, [.ref e0, .int x_1, .int n])), (e0, .inl (cJ, 160, .inr (.inl fe)))]) hP hD rfl
  clear hP hD
  obtain ⟨hP, hD⟩ := h9R
  refine lv_aload_n hx hb dX4_holdRow_13 rfl (lv_at hl 0 rfl) ?_
  refine va_get (D := D) (ci := 4) (v := .ref e0) (C := RX4) (T := TX4) (N := 3) hx hb hts hi_X4_holdRow_4 hown hK hP 0 rfl rfl 0 (by decide) (hts (.fieldLink RX4 9 "TheLiningsInIt$Shelf" "elements" "[J") (List.mem_of_getElem? (i := 3) rfl)) (fun _ h9 => h9) rfl dX4_holdRow_14 ?_
  refine lv_lconst (v := 0) hx hb dX4_holdRow_17 (by decide) ?_
  skip
  refine zw_Sv (As := [.ref e0, .long 0]) (rest := []) (wr := [(h0, .inr (4, [.ref e0, .int x_1, .int n]))]) ⟨hx, hb, hml, hown, hts⟩ (c_F_fillJ l D cI cJ cZ cP cS po e0 (0) fe  H.size) (va_cwS 2 hts gX4_holdRow_J7_fill_d0a16 rfl rfl rfl dh_J7_fill_d0a16 ⟨Nat.le_of_ble_eq_true rfl, Nat.le_of_ble_eq_true rfl⟩) hK hN (hZ.kept hS) hP hD hS hA [1] [0] rfl rfl (by decide) (by decide) (by decide) rfl hl.1 rfl (Nat.le_of_ble_eq_true rfl) dX4_holdRow_18 ⟨Nat.le_of_ble_eq_true rfl, Nat.le_of_ble_eq_true rfl⟩ (fun u_3 H locs hr_2 hP hD hS => ?_)
  obtain ⟨q_4, rfl⟩ : ∃ z, z = u_3 := ⟨_, rfl⟩
  obtain ⟨hsr_2_0, hr_2⟩ := hr_2
  have h9R := zRe (ws' := [(h0, .inr (4, [.ref e0, .int x_1, .int n])), (e0, .inl (cJ, 160, .inr (.inl q_4)))]) hP hD rfl
  clear hP hD
  obtain ⟨hP, hD⟩ := h9R
  exact W.vret hx hb hr (fun t ht hW => ⟨⟨(x_1, n, q_4), rfl, ⟨(show (-1) ≤ x_1.toInt ∧ x_1.toInt ≤ 103 from ⟨by omega, by omega⟩), (show 0 ≤ n.toInt ∧ n.toInt ≤ 160 from ⟨hy6, hy7⟩), (show x_1.toInt = 100 + o.toInt from by omega), (show n = n from by rfl), (show (∀ k : Nat, k < 160 → q_4 k = 0) from by exact hsr_2_0), trivial⟩, zRet ht hP hD [0, 1] (by decide) rfl⟩, hS.F ht⟩) hS.2.2 dX4_holdRow_21
set_option maxHeartbeats 4000000 in
set_option maxRecDepth 100000 in
theorem c_F_Sh_put (l : Launch) (D : va_G) (cI cJ cZ cP cS : ClassId) (po : zPool) (h0 e0 : Nat) (he si : Int32) (fe : Nat → Int64) (i : Int32) (v : Int64) (hy0 : (-1) ≤ he.toInt) (hy1 : he.toInt ≤ 103) (hy2 : 0 ≤ si.toInt) (hy3 : si.toInt ≤ 160) (hy4 : 0 ≤ i.toInt) (hy5 : i.toInt ≤ 159) (hy6 : 100 ≤ he.toInt) (hpz : Nat) : Met l yX4_put wsX4_put ({ frames := 0, cells := 0, slots := 0, locals := 0 }) (va_Pc [.ref h0, .int i, .long v] (zW D (zKT cI cJ cZ cP cS) po [(h0, .inr (4, [.ref e0, .int he, .int si])), (e0, .inl (cJ, 160, .inr (.inl fe)))] hpz)) (va_Qv (fun (fe2 : (Nat → Int64)) => (fe2 = vp_updL fe i.toNatClampNeg (zNar (he.toInt - 100) v)) ∧ (True)) (zB D [(h0, .inr (4, [.ref e0, .int he, .int si])), (e0, .inl (cJ, 160, .inr (.inl fe)))] hpz (fun (fe2 : Nat → Int64) => [(h0, .inr (4, [.ref e0, .int he, .int si])), (e0, .inl (cJ, 160, .inr (.inl fe2)))])) (va_A [(h0, .inr (4, [.ref e0, .int he, .int si])), (e0, .inl (cJ, 160, .inr (.inl fe)))] hpz)) 0 0 (va_A [(h0, .inr (4, [.ref e0, .int he, .int si])), (e0, .inl (cJ, 160, .inr (.inl fe)))] hpz) := by
  refine Met.ofW (cc := cX4_put) (maxL := 4) (ret := none) (by decide) rfl ?_
  intro p e s m args below meth c s₁ B hml hv
  obtain ⟨rfl, hsz, hP, hK, hD0, hN, hZ⟩ := hv
  have hx := B.exec
  have hb := B.bytes
  have hr := B.returns
  have hts := atoms_spec (ws := wsX4_put) B.pre
  have hown : s.vm.findClass RX4 = some m.cls := findClass_of_methodNamed B.named
  have hlocks := B.notSynchronized
  subst hsz
  have hD := hD0.self (sz := s.heap.size)
  have hA := zA_of hD
  have hl := lv_entry ([.ref h0, .int i, .long v]) (n := 4) (Nat.le_of_ble_eq_true rfl)
  rw [lg_entry_eq]
  generalize (lg_sl ([.ref h0, .int i, .long v]) ++ List.replicate (4 - (lg_sl ([.ref h0, .int i, .long v])).length) Slot.unset).toArray = ls at hl ⊢
  replace hl : lv_has ls 4 [(0, .ref h0), (1, .int i), (2, .long v)] := hl
  refine zw_begin hP hD (fun H locs hP1 hS => ?_)
  clear hP
  have hP := hP1
  clear hP1
  refine lv_aload_n hx hb dX4_put_0 rfl (lv_at hl 0 rfl) ?_
  refine va_get (D := D) (ci := 4) (v := .int he) (C := RX4) (T := TX4) (N := 3) hx hb hts hi_X4_put_4 hown hK hP 0 rfl rfl 1 (by decide) (hts (.fieldLink RX4 15 "TheLiningsInIt$Shelf" "held" "I") (List.mem_of_getElem? (i := 1) rfl)) (fun _ h9 => h9) rfl dX4_put_1 ?_
  refine lv_bipush (v := 100) hx hb dX4_put_4 (by decide) ?_
  refine lv_isub hx hb dX4_put_6 ?_
  refine lv_topi (fun x_1 ex_1 => ?_)
  have qx_1 : x_1.toInt = he.toInt - 100 := by rw [ex_1]; exact zf_sub rfl (by decide) (by omega) (by omega)
  have hsp : x_1 = 0 ∨ x_1 = 1 ∨ x_1 = 2 ∨ x_1 = 3 := by
    rcases (show x_1.toInt = 0 ∨ x_1.toInt = 1 ∨ x_1.toInt = 2 ∨ x_1.toInt = 3 by omega) with h9 | h9 | h9 | h9
    · refine Or.inl ?_; exact zf_val h9 (by decide)
    · refine Or.inr (Or.inl ?_); exact zf_val h9 (by decide)
    · refine Or.inr (Or.inr (Or.inl ?_)); exact zf_val h9 (by decide)
    · refine Or.inr (Or.inr (Or.inr (?_))); exact zf_val h9 (by decide)
  rcases hsp with rfl | rfl | rfl | rfl
  · have kc0 : (0 : Int32).toInt = 0 := by decide
    refine lv_tableIn (tgt := 32) hx hb dX4_put_7 (by decide) (by decide) rfl (by decide) ?_
    refine lv_aload_n hx hb dX4_put_32 rfl (lv_at hl 0 rfl) ?_
    refine va_get (D := D) (ci := 4) (v := .ref e0) (C := RX4) (T := TX4) (N := 3) hx hb hts hi_X4_put_4 hown hK hP 0 rfl rfl 0 (by decide) (hts (.fieldLink RX4 9 "TheLiningsInIt$Shelf" "elements" "[J") (List.mem_of_getElem? (i := 2) rfl)) (fun _ h9 => h9) rfl dX4_put_33 ?_
    refine lv_iload_n hx hb dX4_put_36 rfl (lv_at hl 1 rfl) ?_
    refine lv_lload_n hx hb dX4_put_37 rfl (lv_at hl 2 rfl) ?_
    refine lv_l2i hx hb dX4_put_38 rfl ?_
    refine lv_topi (fun x_2 ex_2 => ?_)
    refine lv_i2b hx hb dX4_put_39 rfl ?_
    refine lv_topi (fun x_3 ex_3 => ?_)
    refine lv_i2l hx hb dX4_put_40 rfl ?_
    refine lv_topl (fun y_4 ey_4 => ?_)
    refine va_last hx hb hK hP hD hS 1 1 rfl rfl (zf_in (by omega) (by omega)) dX4_put_41 (fun H locs hP hD hS => ?_)
    obtain ⟨g_5, hg_5⟩ : ∃ g : Nat → Int64, g = vp_updL fe i.toNatClampNeg y_4 := ⟨_, rfl⟩
    rw [← hg_5] at hP hD
    have h9R := zRe (ws' := [(h0, .inr (4, [.ref e0, .int he, .int si])), (e0, .inl (cJ, 160, .inr (.inl g_5)))]) hP hD rfl
    clear hP hD
    obtain ⟨hP, hD⟩ := h9R
    refine lv_goto (tgt := 77) hx hb dX4_put_42 (by decide) ?_
    exact W.vret hx hb hr (fun t ht hW => ⟨⟨g_5, rfl, ⟨(show g_5 = vp_updL fe i.toNatClampNeg (zNar (he.toInt - 100) v) from by (rw [hg_5]; congr 1; rw [ey_4, ex_3, ex_2]; (unfold zNar; repeat (first | rw [if_pos (by omega)] | rw [if_neg (by omega)])))), trivial⟩, zRet ht hP hD [0, 1] (by decide) rfl⟩, hS.F ht⟩) hS.2.2 dX4_put_77
  · have kc1 : (1 : Int32).toInt = 1 := by decide
    refine lv_tableIn (tgt := 45) hx hb dX4_put_7 (by decide) (by decide) rfl (by decide) ?_
    refine lv_aload_n hx hb dX4_put_45 rfl (lv_at hl 0 rfl) ?_
    refine va_get (D := D) (ci := 4) (v := .ref e0) (C := RX4) (T := TX4) (N := 3) hx hb hts hi_X4_put_4 hown hK hP 0 rfl rfl 0 (by decide) (hts (.fieldLink RX4 9 "TheLiningsInIt$Shelf" "elements" "[J") (List.mem_of_getElem? (i := 2) rfl)) (fun _ h9 => h9) rfl dX4_put_46 ?_
    refine lv_iload_n hx hb dX4_put_49 rfl (lv_at hl 1 rfl) ?_
    refine lv_lload_n hx hb dX4_put_50 rfl (lv_at hl 2 rfl) ?_
    refine lv_l2i hx hb dX4_put_51 rfl ?_
    refine lv_topi (fun x_6 ex_6 => ?_)
    refine lv_i2s hx hb dX4_put_52 rfl ?_
    refine lv_topi (fun x_7 ex_7 => ?_)
    refine lv_i2l hx hb dX4_put_53 rfl ?_
    refine lv_topl (fun y_8 ey_8 => ?_)
    refine va_last hx hb hK hP hD hS 1 1 rfl rfl (zf_in (by omega) (by omega)) dX4_put_54 (fun H locs hP hD hS => ?_)
    obtain ⟨g_9, hg_9⟩ : ∃ g : Nat → Int64, g = vp_updL fe i.toNatClampNeg y_8 := ⟨_, rfl⟩
    rw [← hg_9] at hP hD
    have h9R := zRe (ws' := [(h0, .inr (4, [.ref e0, .int he, .int si])), (e0, .inl (cJ, 160, .inr (.inl g_9)))]) hP hD rfl
    clear hP hD
    obtain ⟨hP, hD⟩ := h9R
    refine lv_goto (tgt := 77) hx hb dX4_put_55 (by decide) ?_
    exact W.vret hx hb hr (fun t ht hW => ⟨⟨g_9, rfl, ⟨(show g_9 = vp_updL fe i.toNatClampNeg (zNar (he.toInt - 100) v) from by (rw [hg_9]; congr 1; rw [ey_8, ex_7, ex_6]; (unfold zNar; repeat (first | rw [if_pos (by omega)] | rw [if_neg (by omega)])))), trivial⟩, zRet ht hP hD [0, 1] (by decide) rfl⟩, hS.F ht⟩) hS.2.2 dX4_put_77
  · have kc2 : (2 : Int32).toInt = 2 := by decide
    refine lv_tableIn (tgt := 58) hx hb dX4_put_7 (by decide) (by decide) rfl (by decide) ?_
    refine lv_aload_n hx hb dX4_put_58 rfl (lv_at hl 0 rfl) ?_
    refine va_get (D := D) (ci := 4) (v := .ref e0) (C := RX4) (T := TX4) (N := 3) hx hb hts hi_X4_put_4 hown hK hP 0 rfl rfl 0 (by decide) (hts (.fieldLink RX4 9 "TheLiningsInIt$Shelf" "elements" "[J") (List.mem_of_getElem? (i := 2) rfl)) (fun _ h9 => h9) rfl dX4_put_59 ?_
    refine lv_iload_n hx hb dX4_put_62 rfl (lv_at hl 1 rfl) ?_
    refine lv_lload_n hx hb dX4_put_63 rfl (lv_at hl 2 rfl) ?_
    refine lv_l2i hx hb dX4_put_64 rfl ?_
    refine lv_topi (fun x_10 ex_10 => ?_)
    refine lv_i2l hx hb dX4_put_65 rfl ?_
    refine lv_topl (fun y_11 ey_11 => ?_)
    refine va_last hx hb hK hP hD hS 1 1 rfl rfl (zf_in (by omega) (by omega)) dX4_put_66 (fun H locs hP hD hS => ?_)
    obtain ⟨g_12, hg_12⟩ : ∃ g : Nat → Int64, g = vp_updL fe i.toNatClampNeg y_11 := ⟨_, rfl⟩
    rw [← hg_12] at hP hD
    have h9R := zRe (ws' := [(h0, .inr (4, [.ref e0, .int he, .int si])), (e0, .inl (cJ, 160, .inr (.inl g_12)))]) hP hD rfl
    clear hP hD
    obtain ⟨hP, hD⟩ := h9R
    refine lv_goto (tgt := 77) hx hb dX4_put_67 (by decide) ?_
    exact W.vret hx hb hr (fun t ht hW => ⟨⟨g_12, rfl, ⟨(show g_12 = vp_updL fe i.toNatClampNeg (zNar (he.toInt - 100) v) from by (rw [hg_12]; congr 1; rw [ey_11, ex_10]; (unfold zNar; repeat (first | rw [if_pos (by omega)] | rw [if_neg (by omega)])))), trivial⟩, zRet ht hP hD [0, 1] (by decide) rfl⟩, hS.F ht⟩) hS.2.2 dX4_put_77
  · have kc3 : (3 : Int32).toInt = 3 := by decide
    refine lv_tableOut (tgt := 70) hx hb dX4_put_7 (by decide) (by decide) ?_
    refine lv_aload_n hx hb dX4_put_70 rfl (lv_at hl 0 rfl) ?_
    refine va_get (D := D) (ci := 4) (v := .ref e0) (C := RX4) (T := TX4) (N := 3) hx hb hts hi_X4_put_4 hown hK hP 0 rfl rfl 0 (by decide) (hts (.fieldLink RX4 9 "TheLiningsInIt$Shelf" "elements" "[J") (List.mem_of_getElem? (i := 2) rfl)) (fun _ h9 => h9) rfl dX4_put_71 ?_
    refine lv_iload_n hx hb dX4_put_74 rfl (lv_at hl 1 rfl) ?_
    refine lv_lload_n hx hb dX4_put_75 rfl (lv_at hl 2 rfl) ?_
    refine va_last hx hb hK hP hD hS 1 1 rfl rfl (zf_in (by omega) (by omega)) dX4_put_76 (fun H locs hP hD hS => ?_)
    obtain ⟨g_13, hg_13⟩ : ∃ g : Nat → Int64, g = vp_updL fe i.toNatClampNeg v := ⟨_, rfl⟩
    rw [← hg_13] at hP hD
    have h9R := zRe (ws' := [(h0, .inr (4, [.ref e0, .int he, .int si])), (e0, .inl (cJ, 160, .inr (.inl g_13)))]) hP hD rfl
    clear hP hD
    obtain ⟨hP, hD⟩ := h9R
    exact W.vret hx hb hr (fun t ht hW => ⟨⟨g_13, rfl, ⟨(show g_13 = vp_updL fe i.toNatClampNeg (zNar (he.toInt - 100) v) from by (rw [hg_13]; congr 1; (unfold zNar; repeat (first | rw [if_pos (by omega)] | rw [if_neg (by omega)])))), trivial⟩, zRet ht hP hD [0, 1] (by decide) rfl⟩, hS.F ht⟩) hS.2.2 dX4_put_77
set_option maxHeartbeats 4000000 in
set_option maxRecDepth 100000 in
theorem c_F_X_row (l : Launch) (D : va_G) (cI cJ cZ cP cS : ClassId) (po : zPool) (x0 xs j0 k0 w0 rd mv xr : Nat) (im lf : Int32) (fr : Nat → Int32) (fh : Nat → Option Nat) (s_ : Int32) (h0 e0 : Nat) (he si : Int32) (fe : Nat → Int64) (o n : Int32) (hy0 : 0 ≤ im.toInt) (hy1 : im.toInt ≤ 1) (hy2 : (-1) ≤ lf.toInt) (hy3 : lf.toInt ≤ 160) (hy4 : (-1) ≤ he.toInt) (hy5 : he.toInt ≤ 103) (hy6 : 0 ≤ si.toInt) (hy7 : si.toInt ≤ 160) (hfs : 0 ≤ s_.toInt → s_.toInt ≤ 7 → fh s_.toNatClampNeg = some h0) (hpz : Nat) : Met l yX7_row wsX7_row ({ frames := 2, cells := 0, slots := 0, locals := 46 }) (va_Pc [.ref x0, .int s_, .int o, .int n] (zW D (zKT cI cJ cZ cP cS) po [(x0, .inr (7, [.ref xs, .ref j0, .ref k0, .ref w0, .ref rd, .ref mv, .ref xr, .int im, .int lf])), (xr, .inl (cI, 8, .inl fr)), (xs, .inl (cS, 8, .inr (.inr (.inr (.inr fh))))), (h0, .inr (4, [.ref e0, .int he, .int si])), (e0, .inl (cJ, 160, .inr (.inl fe)))] hpz)) (va_Qi (fun (r : Int32) (u : (Int32) × (Int32) × (Nat → Int64) × (Nat → Int32)) => ((-1) ≤ u.1.toInt ∧ u.1.toInt ≤ 103) ∧ (0 ≤ u.2.1.toInt ∧ u.2.1.toInt ≤ 160) ∧ (r.toInt = zRow s_.toInt o.toInt n.toInt) ∧ ((r.toInt = 1 → u.1.toInt = 100 + o.toInt ∧ u.2.1.toInt = n.toInt ∧ ∀ k : Nat, k < 160 → u.2.2.1 k = 0)) ∧ ((r.toInt ≠ 1 → u.1 = he ∧ u.2.1 = si ∧ u.2.2.1 = fe)) ∧ (True)) (zB D [(x0, .inr (7, [.ref xs, .ref j0, .ref k0, .ref w0, .ref rd, .ref mv, .ref xr, .int im, .int lf])), (xr, .inl (cI, 8, .inl fr)), (xs, .inl (cS, 8, .inr (.inr (.inr (.inr fh))))), (h0, .inr (4, [.ref e0, .int he, .int si])), (e0, .inl (cJ, 160, .inr (.inl fe)))] hpz (fun (u : (Int32) × (Int32) × (Nat → Int64) × (Nat → Int32)) => [(x0, .inr (7, [.ref xs, .ref j0, .ref k0, .ref w0, .ref rd, .ref mv, .ref xr, .int im, .int lf])), (xr, .inl (cI, 8, .inl u.2.2.2)), (xs, .inl (cS, 8, .inr (.inr (.inr (.inr fh))))), (h0, .inr (4, [.ref e0, .int u.1, .int u.2.1])), (e0, .inl (cJ, 160, .inr (.inl u.2.2.1)))])) (va_A [(x0, .inr (7, [.ref xs, .ref j0, .ref k0, .ref w0, .ref rd, .ref mv, .ref xr, .int im, .int lf])), (xr, .inl (cI, 8, .inl fr)), (xs, .inl (cS, 8, .inr (.inr (.inr (.inr fh))))), (h0, .inr (4, [.ref e0, .int he, .int si])), (e0, .inl (cJ, 160, .inr (.inl fe)))] hpz)) 0 0 (va_A [(x0, .inr (7, [.ref xs, .ref j0, .ref k0, .ref w0, .ref rd, .ref mv, .ref xr, .int im, .int lf])), (xr, .inl (cI, 8, .inl fr)), (xs, .inl (cS, 8, .inr (.inr (.inr (.inr fh))))), (h0, .inr (4, [.ref e0, .int he, .int si])), (e0, .inl (cJ, 160, .inr (.inl fe)))] hpz) := by
  refine Met.ofW (cc := cX7_row) (maxL := 5) (ret := (some .int)) (by decide) rfl ?_
  intro p e s m args below meth c s₁ B hml hv
  obtain ⟨rfl, hsz, hP, hK, hD0, hN, hZ⟩ := hv
  have hx := B.exec
  have hb := B.bytes
  have hr := B.returns
  have hts := atoms_spec (ws := wsX7_row) B.pre
  have hown : s.vm.findClass RX7 = some m.cls := findClass_of_methodNamed B.named
  have hlocks := B.notSynchronized
  subst hsz
  have hD := hD0.self (sz := s.heap.size)
  have hA := zA_of hD
  have hl := lv_entry ([.ref x0, .int s_, .int o, .int n]) (n := 5) (Nat.le_of_ble_eq_true rfl)
  rw [lg_entry_eq]
  generalize (lg_sl ([.ref x0, .int s_, .int o, .int n]) ++ List.replicate (5 - (lg_sl ([.ref x0, .int s_, .int o, .int n])).length) Slot.unset).toArray = ls at hl ⊢
  replace hl : lv_has ls 5 [(0, .ref x0), (1, .int s_), (2, .int o), (3, .int n)] := hl
  refine zw_begin hP hD (fun H locs hP1 hS => ?_)
  clear hP
  have hP := hP1
  clear hP1
  refine lv_aload_n hx hb dX7_row_0 rfl (lv_at hl 0 rfl) ?_
  refine lv_iload_n hx hb dX7_row_1 rfl (lv_at hl 1 rfl) ?_
  refine zc_Vq (As := [.int s_]) (rest := []) ⟨hx, hb, hml, hown, hts⟩ (c_X_shelfAt l D cI cJ cZ cP cS po x0 xs j0 k0 w0 rd mv xr (im) (lf) ((fun _ => 0)) fh (s_) hy0 hy1 hy2 hy3) (cwV 1 hts gX7_row_X7_shelfAt rfl rfl rfl ⟨rfl, dh_X7_shelfAt⟩ ⟨Nat.le_of_ble_eq_true rfl, Nat.le_of_ble_eq_true rfl⟩) hK hN (hZ.kept hS) hP (hP.sub [0, 2] rfl) (va_recv (q := (RX7, TX7, 9)) hK hP (ci := 7) (q0 := 0) rfl rfl) rfl hl.1 rfl (Nat.le_of_ble_eq_true rfl) dX7_row_2 ⟨Nat.le_of_ble_eq_true rfl, Nat.le_of_ble_eq_true rfl⟩ (fun r_1 hr_1 => ?_)
  rcases hr_1 with ⟨rfl, g_2⟩ | ⟨rfl, g_3, g_4⟩ | ⟨rfl, g_5, g_6⟩
  · refine lv_astoreN (lv' := [(4, .null), (0, .ref x0), (1, .int s_), (2, .int o), (3, .int n)]) hx hb dX7_row_5 hl (by decide) rfl (fun ls hl => ?_)
    refine lv_aloadN hx hb dX7_row_7 (lv_at hl 0 rfl) ?_
    refine lv_ifnonnullN hx hb dX7_row_9 ?_
    refine lv_aload_n hx hb dX7_row_12 rfl (lv_at hl 1 rfl) ?_
    refine lv_iconst (v := 1) hx hb dX7_row_13 (by decide) ?_
    skip
    refine zw_V (As := [.int 1]) (rest := []) (wr := [(xs, .inl (cS, 8, .inr (.inr (.inr (.inr fh))))), (h0, .inr (4, [.ref e0, .int he, .int si])), (e0, .inl (cJ, 160, .inr (.inl fe)))]) ⟨hx, hb, hml, hown, hts⟩ (c_X_refuse_1 l D cI cJ cZ cP cS po x0 xs j0 k0 w0 rd mv xr (im) (lf) fr hy0 hy1 hy2 hy3 H.size) (cwV 1 hts gX7_row_X7_refuse rfl rfl rfl ⟨rfl, dh_X7_refuse⟩ ⟨Nat.le_of_ble_eq_true rfl, Nat.le_of_ble_eq_true rfl⟩) hK hN (hZ.kept hS) hP hD hS hA [0, 1] [2, 3, 4] rfl rfl (by decide) (by decide) (by decide) (va_recv (q := (RX7, TX7, 9)) hK hP (ci := 7) (q0 := 0) rfl rfl) rfl hl.1 rfl (Nat.le_of_ble_eq_true rfl) dX7_row_14 ⟨Nat.le_of_ble_eq_true rfl, Nat.le_of_ble_eq_true rfl⟩ (fun r_7 u_8 H locs hr_7 hP hD hS => ?_)
    obtain ⟨q_9, rfl⟩ : ∃ z, z = u_8 := ⟨_, rfl⟩
    have h9R := zRe (ws' := [(xs, .inl (cS, 8, .inr (.inr (.inr (.inr fh))))), (h0, .inr (4, [.ref e0, .int he, .int si])), (e0, .inl (cJ, 160, .inr (.inl fe))), (x0, .inr (7, [.ref xs, .ref j0, .ref k0, .ref w0, .ref rd, .ref mv, .ref xr, .int im, .int lf])), (xr, .inl (cI, 8, .inl q_9))]) hP hD rfl
    clear hP hD
    obtain ⟨hP, hD⟩ := h9R
    obtain rfl := hr_7
    exact W.iret (v := (-1)) hx hb hr (fun t ht hW => ⟨⟨(-1), (he, si, fe, q_9), rfl, ⟨(show (-1) ≤ he.toInt ∧ he.toInt ≤ 103 from ⟨hy4, hy5⟩), (show 0 ≤ si.toInt ∧ si.toInt ≤ 160 from ⟨hy6, hy7⟩), (show ((-1) : Int32).toInt = zRow s_.toInt o.toInt n.toInt from by (have k9 : ((-1) : Int32).toInt = -1 := (by decide); unfold zRow; (repeat (first | rw [if_pos (by omega)] | rw [if_neg (by omega)])) <;> omega)), (show (((-1) : Int32).toInt = 1 → he.toInt = 100 + o.toInt ∧ si.toInt = n.toInt ∧ ∀ k : Nat, k < 160 → fe k = 0) from by (have k9 : ((-1) : Int32).toInt = -1 := (by decide); intro h; exfalso; omega)), (show (((-1) : Int32).toInt ≠ 1 → he = he ∧ si = si ∧ fe = fe) from by (have k9 : ((-1) : Int32).toInt = -1 := (by decide); intro h; exact ⟨rfl, rfl, rfl⟩)), trivial⟩, zRet ht hP hD [3, 4, 0, 1, 2] (by decide) rfl⟩, hS.F ht⟩) hS.2.2 dX7_row_17
  · refine lv_astoreN (lv' := [(4, .null), (0, .ref x0), (1, .int s_), (2, .int o), (3, .int n)]) hx hb dX7_row_5 hl (by decide) rfl (fun ls hl => ?_)
    refine lv_aloadN hx hb dX7_row_7 (lv_at hl 0 rfl) ?_
    refine lv_ifnonnullN hx hb dX7_row_9 ?_
    refine lv_aload_n hx hb dX7_row_12 rfl (lv_at hl 1 rfl) ?_
    refine lv_iconst (v := 1) hx hb dX7_row_13 (by decide) ?_
    skip
    refine zw_V (As := [.int 1]) (rest := []) (wr := [(xs, .inl (cS, 8, .inr (.inr (.inr (.inr fh))))), (h0, .inr (4, [.ref e0, .int he, .int si])), (e0, .inl (cJ, 160, .inr (.inl fe)))]) ⟨hx, hb, hml, hown, hts⟩ (c_X_refuse_1 l D cI cJ cZ cP cS po x0 xs j0 k0 w0 rd mv xr (im) (lf) fr hy0 hy1 hy2 hy3 H.size) (cwV 1 hts gX7_row_X7_refuse rfl rfl rfl ⟨rfl, dh_X7_refuse⟩ ⟨Nat.le_of_ble_eq_true rfl, Nat.le_of_ble_eq_true rfl⟩) hK hN (hZ.kept hS) hP hD hS hA [0, 1] [2, 3, 4] rfl rfl (by decide) (by decide) (by decide) (va_recv (q := (RX7, TX7, 9)) hK hP (ci := 7) (q0 := 0) rfl rfl) rfl hl.1 rfl (Nat.le_of_ble_eq_true rfl) dX7_row_14 ⟨Nat.le_of_ble_eq_true rfl, Nat.le_of_ble_eq_true rfl⟩ (fun r_10 u_11 H locs hr_10 hP hD hS => ?_)
    obtain ⟨q_12, rfl⟩ : ∃ z, z = u_11 := ⟨_, rfl⟩
    have h9R := zRe (ws' := [(xs, .inl (cS, 8, .inr (.inr (.inr (.inr fh))))), (h0, .inr (4, [.ref e0, .int he, .int si])), (e0, .inl (cJ, 160, .inr (.inl fe))), (x0, .inr (7, [.ref xs, .ref j0, .ref k0, .ref w0, .ref rd, .ref mv, .ref xr, .int im, .int lf])), (xr, .inl (cI, 8, .inl q_12))]) hP hD rfl
    clear hP hD
    obtain ⟨hP, hD⟩ := h9R
    obtain rfl := hr_10
    exact W.iret (v := (-1)) hx hb hr (fun t ht hW => ⟨⟨(-1), (he, si, fe, q_12), rfl, ⟨(show (-1) ≤ he.toInt ∧ he.toInt ≤ 103 from ⟨hy4, hy5⟩), (show 0 ≤ si.toInt ∧ si.toInt ≤ 160 from ⟨hy6, hy7⟩), (show ((-1) : Int32).toInt = zRow s_.toInt o.toInt n.toInt from by (have k9 : ((-1) : Int32).toInt = -1 := (by decide); unfold zRow; (repeat (first | rw [if_pos (by omega)] | rw [if_neg (by omega)])) <;> omega)), (show (((-1) : Int32).toInt = 1 → he.toInt = 100 + o.toInt ∧ si.toInt = n.toInt ∧ ∀ k : Nat, k < 160 → fe k = 0) from by (have k9 : ((-1) : Int32).toInt = -1 := (by decide); intro h; exfalso; omega)), (show (((-1) : Int32).toInt ≠ 1 → he = he ∧ si = si ∧ fe = fe) from by (have k9 : ((-1) : Int32).toInt = -1 := (by decide); intro h; exact ⟨rfl, rfl, rfl⟩)), trivial⟩, zRet ht hP hD [3, 4, 0, 1, 2] (by decide) rfl⟩, hS.F ht⟩) hS.2.2 dX7_row_17
  · rw [hfs (by omega) (by omega)]
    refine W.eq (g2 := F0 m 5 ls (.ref h0 :: [])) rfl ?_
    refine lv_astore (lv' := [(4, .ref h0), (0, .ref x0), (1, .int s_), (2, .int o), (3, .int n)]) hx hb dX7_row_5 hl (by decide) rfl (fun ls hl => ?_)
    refine lv_aload hx hb dX7_row_7 (lv_at hl 0 rfl) ?_
    refine lv_ifnonnull (tgt := 18) hx hb dX7_row_9 (by decide) ?_
    refine lv_iload_n hx hb dX7_row_18 rfl (lv_at hl 4 rfl) ?_
    refine lv_if_ge (tgt := 28) hx hb dX7_row_19 (by decide) (fun c_13 => ?_) (fun c_13 => ?_)
    · have fc_13 : 0 ≤ n.toInt := zf_le c_13 (by decide) rfl
      refine lv_iload_n hx hb dX7_row_28 rfl (lv_at hl 3 rfl) ?_
      refine lv_iconst (v := 0) hx hb dX7_row_29 (by decide) ?_
      refine lv_iconst (v := 3) hx hb dX7_row_30 (by decide) ?_
      have kc0 : (0 : Int32).toInt = 0 := by decide
      have kc3 : (3 : Int32).toInt = 3 := by decide
      refine zc_S (As := [.int o, .int 0, .int 3]) (rest := []) ⟨hx, hb, hml, hown, hts⟩ (c_within l D cI cJ cZ cP cS po (o) (0) (3) ) (va_cwS 3 hts gX7_row_X7_within rfl rfl rfl dh_X7_within ⟨Nat.le_of_ble_eq_true rfl, Nat.le_of_ble_eq_true rfl⟩) hK hN (hZ.kept hS) rfl hl.1 rfl (Nat.le_of_ble_eq_true rfl) dX7_row_31 ⟨Nat.le_of_ble_eq_true rfl, Nat.le_of_ble_eq_true rfl⟩ (fun r_14 hr_14 => ?_)
      rcases hr_14 with ⟨rfl, g_15⟩ | ⟨rfl, g_16, g_17⟩ | ⟨rfl, g_18, g_19⟩
      · refine lv_if_ne (tgt := 44) hx hb dX7_row_34 (by decide) (fun c_20 => ?_) (fun c_20 => ?_)
        · exact absurd c_20 (by decide)
        · refine lv_aload_n hx hb dX7_row_37 rfl (lv_at hl 1 rfl) ?_
          refine lv_bipush (v := 6) hx hb dX7_row_38 (by decide) ?_
          skip
          refine zw_V (As := [.int 6]) (rest := []) (wr := [(xs, .inl (cS, 8, .inr (.inr (.inr (.inr fh))))), (h0, .inr (4, [.ref e0, .int he, .int si])), (e0, .inl (cJ, 160, .inr (.inl fe)))]) ⟨hx, hb, hml, hown, hts⟩ (c_X_refuse_6 l D cI cJ cZ cP cS po x0 xs j0 k0 w0 rd mv xr (im) (lf) fr hy0 hy1 hy2 hy3 H.size) (cwV 1 hts gX7_row_X7_refuse rfl rfl rfl ⟨rfl, dh_X7_refuse⟩ ⟨Nat.le_of_ble_eq_true rfl, Nat.le_of_ble_eq_true rfl⟩) hK hN (hZ.kept hS) hP hD hS hA [0, 1] [2, 3, 4] rfl rfl (by decide) (by decide) (by decide) (va_recv (q := (RX7, TX7, 9)) hK hP (ci := 7) (q0 := 0) rfl rfl) rfl hl.1 rfl (Nat.le_of_ble_eq_true rfl) dX7_row_40 ⟨Nat.le_of_ble_eq_true rfl, Nat.le_of_ble_eq_true rfl⟩ (fun r_21 u_22 H locs hr_21 hP hD hS => ?_)
          obtain ⟨q_23, rfl⟩ : ∃ z, z = u_22 := ⟨_, rfl⟩
          have h9R := zRe (ws' := [(xs, .inl (cS, 8, .inr (.inr (.inr (.inr fh))))), (h0, .inr (4, [.ref e0, .int he, .int si])), (e0, .inl (cJ, 160, .inr (.inl fe))), (x0, .inr (7, [.ref xs, .ref j0, .ref k0, .ref w0, .ref rd, .ref mv, .ref xr, .int im, .int lf])), (xr, .inl (cI, 8, .inl q_23))]) hP hD rfl
          clear hP hD
          obtain ⟨hP, hD⟩ := h9R
          obtain rfl := hr_21
          exact W.iret (v := (-6)) hx hb hr (fun t ht hW => ⟨⟨(-6), (he, si, fe, q_23), rfl, ⟨(show (-1) ≤ he.toInt ∧ he.toInt ≤ 103 from ⟨hy4, hy5⟩), (show 0 ≤ si.toInt ∧ si.toInt ≤ 160 from ⟨hy6, hy7⟩), (show ((-6) : Int32).toInt = zRow s_.toInt o.toInt n.toInt from by (have k9 : ((-6) : Int32).toInt = -6 := (by decide); unfold zRow; (repeat (first | rw [if_pos (by omega)] | rw [if_neg (by omega)])) <;> omega)), (show (((-6) : Int32).toInt = 1 → he.toInt = 100 + o.toInt ∧ si.toInt = n.toInt ∧ ∀ k : Nat, k < 160 → fe k = 0) from by (have k9 : ((-6) : Int32).toInt = -6 := (by decide); intro h; exfalso; omega)), (show (((-6) : Int32).toInt ≠ 1 → he = he ∧ si = si ∧ fe = fe) from by (have k9 : ((-6) : Int32).toInt = -6 := (by decide); intro h; exact ⟨rfl, rfl, rfl⟩)), trivial⟩, zRet ht hP hD [3, 4, 0, 1, 2] (by decide) rfl⟩, hS.F ht⟩) hS.2.2 dX7_row_43
      · refine lv_if_ne (tgt := 44) hx hb dX7_row_34 (by decide) (fun c_24 => ?_) (fun c_24 => ?_)
        · exact absurd c_24 (by decide)
        · refine lv_aload_n hx hb dX7_row_37 rfl (lv_at hl 1 rfl) ?_
          refine lv_bipush (v := 6) hx hb dX7_row_38 (by decide) ?_
          skip
          refine zw_V (As := [.int 6]) (rest := []) (wr := [(xs, .inl (cS, 8, .inr (.inr (.inr (.inr fh))))), (h0, .inr (4, [.ref e0, .int he, .int si])), (e0, .inl (cJ, 160, .inr (.inl fe)))]) ⟨hx, hb, hml, hown, hts⟩ (c_X_refuse_6 l D cI cJ cZ cP cS po x0 xs j0 k0 w0 rd mv xr (im) (lf) fr hy0 hy1 hy2 hy3 H.size) (cwV 1 hts gX7_row_X7_refuse rfl rfl rfl ⟨rfl, dh_X7_refuse⟩ ⟨Nat.le_of_ble_eq_true rfl, Nat.le_of_ble_eq_true rfl⟩) hK hN (hZ.kept hS) hP hD hS hA [0, 1] [2, 3, 4] rfl rfl (by decide) (by decide) (by decide) (va_recv (q := (RX7, TX7, 9)) hK hP (ci := 7) (q0 := 0) rfl rfl) rfl hl.1 rfl (Nat.le_of_ble_eq_true rfl) dX7_row_40 ⟨Nat.le_of_ble_eq_true rfl, Nat.le_of_ble_eq_true rfl⟩ (fun r_25 u_26 H locs hr_25 hP hD hS => ?_)
          obtain ⟨q_27, rfl⟩ : ∃ z, z = u_26 := ⟨_, rfl⟩
          have h9R := zRe (ws' := [(xs, .inl (cS, 8, .inr (.inr (.inr (.inr fh))))), (h0, .inr (4, [.ref e0, .int he, .int si])), (e0, .inl (cJ, 160, .inr (.inl fe))), (x0, .inr (7, [.ref xs, .ref j0, .ref k0, .ref w0, .ref rd, .ref mv, .ref xr, .int im, .int lf])), (xr, .inl (cI, 8, .inl q_27))]) hP hD rfl
          clear hP hD
          obtain ⟨hP, hD⟩ := h9R
          obtain rfl := hr_25
          exact W.iret (v := (-6)) hx hb hr (fun t ht hW => ⟨⟨(-6), (he, si, fe, q_27), rfl, ⟨(show (-1) ≤ he.toInt ∧ he.toInt ≤ 103 from ⟨hy4, hy5⟩), (show 0 ≤ si.toInt ∧ si.toInt ≤ 160 from ⟨hy6, hy7⟩), (show ((-6) : Int32).toInt = zRow s_.toInt o.toInt n.toInt from by (have k9 : ((-6) : Int32).toInt = -6 := (by decide); unfold zRow; (repeat (first | rw [if_pos (by omega)] | rw [if_neg (by omega)])) <;> omega)), (show (((-6) : Int32).toInt = 1 → he.toInt = 100 + o.toInt ∧ si.toInt = n.toInt ∧ ∀ k : Nat, k < 160 → fe k = 0) from by (have k9 : ((-6) : Int32).toInt = -6 := (by decide); intro h; exfalso; omega)), (show (((-6) : Int32).toInt ≠ 1 → he = he ∧ si = si ∧ fe = fe) from by (have k9 : ((-6) : Int32).toInt = -6 := (by decide); intro h; exact ⟨rfl, rfl, rfl⟩)), trivial⟩, zRet ht hP hD [3, 4, 0, 1, 2] (by decide) rfl⟩, hS.F ht⟩) hS.2.2 dX7_row_43
      · refine lv_if_ne (tgt := 44) hx hb dX7_row_34 (by decide) (fun c_28 => ?_) (fun c_28 => ?_)
        · refine lv_iload_n hx hb dX7_row_44 rfl (lv_at hl 4 rfl) ?_
          refine lv_sipush (v := 160) hx hb dX7_row_45 (by decide) ?_
          refine lv_icmp_le (tgt := 58) hx hb dX7_row_48 (by decide) (fun c_29 => ?_) (fun c_29 => ?_)
          · have fc_29 : n.toInt ≤ 160 := zf_le c_29 rfl (by decide)
            refine lv_aload hx hb dX7_row_58 (lv_at hl 0 rfl) ?_
            refine lv_iload_n hx hb dX7_row_60 rfl (lv_at hl 3 rfl) ?_
            refine lv_iload_n hx hb dX7_row_61 rfl (lv_at hl 4 rfl) ?_
            skip
            refine zw_Vv (As := [.int o, .int n]) (rest := []) (wr := [(x0, .inr (7, [.ref xs, .ref j0, .ref k0, .ref w0, .ref rd, .ref mv, .ref xr, .int im, .int lf])), (xr, .inl (cI, 8, .inl fr)), (xs, .inl (cS, 8, .inr (.inr (.inr (.inr fh)))))]) ⟨hx, hb, hml, hown, hts⟩ (c_F_Sh_holdRow l D cI cJ cZ cP cS po h0 e0 (he) (si) fe (o) (n) hy4 hy5 hy6 hy7 (by omega) (by omega) (by omega) (by omega) H.size) (cwV 2 hts gX7_row_X4_holdRow rfl rfl rfl ⟨rfl, dh_X4_holdRow⟩ ⟨Nat.le_of_ble_eq_true rfl, Nat.le_of_ble_eq_true rfl⟩) hK hN (hZ.kept hS) hP hD hS hA [3, 4] [0, 1, 2] rfl rfl (by decide) (by decide) (by decide) (va_recv (q := (RX4, TX4, 3)) hK hP (ci := 4) (q0 := 3) rfl rfl) rfl hl.1 rfl (Nat.le_of_ble_eq_true rfl) dX7_row_62 ⟨Nat.le_of_ble_eq_true rfl, Nat.le_of_ble_eq_true rfl⟩ (fun u_31 H locs hr_30 hP hD hS => ?_)
            obtain ⟨q_32, q_33, q_34⟩ := u_31
            try dsimp only at hr_30
            obtain ⟨hbq_32, hbq_33, hsr_30_0, hsr_30_1, hsr_30_2, hr_30⟩ := hr_30
            have h9R := zRe (ws' := [(x0, .inr (7, [.ref xs, .ref j0, .ref k0, .ref w0, .ref rd, .ref mv, .ref xr, .int im, .int lf])), (xr, .inl (cI, 8, .inl fr)), (xs, .inl (cS, 8, .inr (.inr (.inr (.inr fh))))), (h0, .inr (4, [.ref e0, .int q_32, .int q_33])), (e0, .inl (cJ, 160, .inr (.inl q_34)))]) hP hD rfl
            clear hP hD
            obtain ⟨hP, hD⟩ := h9R
            refine lv_iconst (v := 1) hx hb dX7_row_65 (by decide) ?_
            exact W.iret (v := 1) hx hb hr (fun t ht hW => ⟨⟨1, (q_32, q_33, q_34, fr), rfl, ⟨(show (-1) ≤ q_32.toInt ∧ q_32.toInt ≤ 103 from hbq_32), (show 0 ≤ q_33.toInt ∧ q_33.toInt ≤ 160 from hbq_33), (show (1 : Int32).toInt = zRow s_.toInt o.toInt n.toInt from by (have k9 : (1 : Int32).toInt = 1 := (by decide); unfold zRow; (repeat (first | rw [if_pos (by omega)] | rw [if_neg (by omega)])) <;> omega)), (show ((1 : Int32).toInt = 1 → q_32.toInt = 100 + o.toInt ∧ q_33.toInt = n.toInt ∧ ∀ k : Nat, k < 160 → q_34 k = 0) from by (have k9 : (1 : Int32).toInt = 1 := (by decide); intro h; exact ⟨hsr_30_0, congrArg Int32.toInt hsr_30_1, hsr_30_2⟩)), (show ((1 : Int32).toInt ≠ 1 → q_32 = he ∧ q_33 = si ∧ q_34 = fe) from by (have k9 : (1 : Int32).toInt = 1 := (by decide); intro h; exfalso; omega)), trivial⟩, zRet ht hP hD [0, 1, 2, 3, 4] (by decide) rfl⟩, hS.F ht⟩) hS.2.2 dX7_row_66
          · have fc_29 : 160 < n.toInt := zf_nle c_29 rfl (by decide)
            refine lv_aload_n hx hb dX7_row_51 rfl (lv_at hl 1 rfl) ?_
            refine lv_bipush (v := 7) hx hb dX7_row_52 (by decide) ?_
            skip
            refine zw_V (As := [.int 7]) (rest := []) (wr := [(xs, .inl (cS, 8, .inr (.inr (.inr (.inr fh))))), (h0, .inr (4, [.ref e0, .int he, .int si])), (e0, .inl (cJ, 160, .inr (.inl fe)))]) ⟨hx, hb, hml, hown, hts⟩ (c_X_refuse_7 l D cI cJ cZ cP cS po x0 xs j0 k0 w0 rd mv xr (im) (lf) fr hy0 hy1 hy2 hy3 H.size) (cwV 1 hts gX7_row_X7_refuse rfl rfl rfl ⟨rfl, dh_X7_refuse⟩ ⟨Nat.le_of_ble_eq_true rfl, Nat.le_of_ble_eq_true rfl⟩) hK hN (hZ.kept hS) hP hD hS hA [0, 1] [2, 3, 4] rfl rfl (by decide) (by decide) (by decide) (va_recv (q := (RX7, TX7, 9)) hK hP (ci := 7) (q0 := 0) rfl rfl) rfl hl.1 rfl (Nat.le_of_ble_eq_true rfl) dX7_row_54 ⟨Nat.le_of_ble_eq_true rfl, Nat.le_of_ble_eq_true rfl⟩ (fun r_35 u_36 H locs hr_35 hP hD hS => ?_)
            obtain ⟨q_37, rfl⟩ : ∃ z, z = u_36 := ⟨_, rfl⟩
            have h9R := zRe (ws' := [(xs, .inl (cS, 8, .inr (.inr (.inr (.inr fh))))), (h0, .inr (4, [.ref e0, .int he, .int si])), (e0, .inl (cJ, 160, .inr (.inl fe))), (x0, .inr (7, [.ref xs, .ref j0, .ref k0, .ref w0, .ref rd, .ref mv, .ref xr, .int im, .int lf])), (xr, .inl (cI, 8, .inl q_37))]) hP hD rfl
            clear hP hD
            obtain ⟨hP, hD⟩ := h9R
            obtain rfl := hr_35
            exact W.iret (v := (-7)) hx hb hr (fun t ht hW => ⟨⟨(-7), (he, si, fe, q_37), rfl, ⟨(show (-1) ≤ he.toInt ∧ he.toInt ≤ 103 from ⟨hy4, hy5⟩), (show 0 ≤ si.toInt ∧ si.toInt ≤ 160 from ⟨hy6, hy7⟩), (show ((-7) : Int32).toInt = zRow s_.toInt o.toInt n.toInt from by (have k9 : ((-7) : Int32).toInt = -7 := (by decide); unfold zRow; (repeat (first | rw [if_pos (by omega)] | rw [if_neg (by omega)])) <;> omega)), (show (((-7) : Int32).toInt = 1 → he.toInt = 100 + o.toInt ∧ si.toInt = n.toInt ∧ ∀ k : Nat, k < 160 → fe k = 0) from by (have k9 : ((-7) : Int32).toInt = -7 := (by decide); intro h; exfalso; omega)), (show (((-7) : Int32).toInt ≠ 1 → he = he ∧ si = si ∧ fe = fe) from by (have k9 : ((-7) : Int32).toInt = -7 := (by decide); intro h; exact ⟨rfl, rfl, rfl⟩)), trivial⟩, zRet ht hP hD [3, 4, 0, 1, 2] (by decide) rfl⟩, hS.F ht⟩) hS.2.2 dX7_row_57
        · exact absurd c_28 (by decide)
    · have fc_13 : n.toInt < 0 := zf_nle c_13 (by decide) rfl
      refine lv_aload_n hx hb dX7_row_22 rfl (lv_at hl 1 rfl) ?_
      refine lv_iconst (v := 4) hx hb dX7_row_23 (by decide) ?_
      skip
      refine zw_V (As := [.int 4]) (rest := []) (wr := [(xs, .inl (cS, 8, .inr (.inr (.inr (.inr fh))))), (h0, .inr (4, [.ref e0, .int he, .int si])), (e0, .inl (cJ, 160, .inr (.inl fe)))]) ⟨hx, hb, hml, hown, hts⟩ (c_X_refuse_4 l D cI cJ cZ cP cS po x0 xs j0 k0 w0 rd mv xr (im) (lf) fr hy0 hy1 hy2 hy3 H.size) (cwV 1 hts gX7_row_X7_refuse rfl rfl rfl ⟨rfl, dh_X7_refuse⟩ ⟨Nat.le_of_ble_eq_true rfl, Nat.le_of_ble_eq_true rfl⟩) hK hN (hZ.kept hS) hP hD hS hA [0, 1] [2, 3, 4] rfl rfl (by decide) (by decide) (by decide) (va_recv (q := (RX7, TX7, 9)) hK hP (ci := 7) (q0 := 0) rfl rfl) rfl hl.1 rfl (Nat.le_of_ble_eq_true rfl) dX7_row_24 ⟨Nat.le_of_ble_eq_true rfl, Nat.le_of_ble_eq_true rfl⟩ (fun r_38 u_39 H locs hr_38 hP hD hS => ?_)
      obtain ⟨q_40, rfl⟩ : ∃ z, z = u_39 := ⟨_, rfl⟩
      have h9R := zRe (ws' := [(xs, .inl (cS, 8, .inr (.inr (.inr (.inr fh))))), (h0, .inr (4, [.ref e0, .int he, .int si])), (e0, .inl (cJ, 160, .inr (.inl fe))), (x0, .inr (7, [.ref xs, .ref j0, .ref k0, .ref w0, .ref rd, .ref mv, .ref xr, .int im, .int lf])), (xr, .inl (cI, 8, .inl q_40))]) hP hD rfl
      clear hP hD
      obtain ⟨hP, hD⟩ := h9R
      obtain rfl := hr_38
      exact W.iret (v := (-4)) hx hb hr (fun t ht hW => ⟨⟨(-4), (he, si, fe, q_40), rfl, ⟨(show (-1) ≤ he.toInt ∧ he.toInt ≤ 103 from ⟨hy4, hy5⟩), (show 0 ≤ si.toInt ∧ si.toInt ≤ 160 from ⟨hy6, hy7⟩), (show ((-4) : Int32).toInt = zRow s_.toInt o.toInt n.toInt from by (have k9 : ((-4) : Int32).toInt = -4 := (by decide); unfold zRow; (repeat (first | rw [if_pos (by omega)] | rw [if_neg (by omega)])) <;> omega)), (show (((-4) : Int32).toInt = 1 → he.toInt = 100 + o.toInt ∧ si.toInt = n.toInt ∧ ∀ k : Nat, k < 160 → fe k = 0) from by (have k9 : ((-4) : Int32).toInt = -4 := (by decide); intro h; exfalso; omega)), (show (((-4) : Int32).toInt ≠ 1 → he = he ∧ si = si ∧ fe = fe) from by (have k9 : ((-4) : Int32).toInt = -4 := (by decide); intro h; exact ⟨rfl, rfl, rfl⟩)), trivial⟩, zRet ht hP hD [3, 4, 0, 1, 2] (by decide) rfl⟩, hS.F ht⟩) hS.2.2 dX7_row_27
set_option maxHeartbeats 4000000 in
set_option maxRecDepth 100000 in
theorem c_F_X_set (l : Launch) (D : va_G) (cI cJ cZ cP cS : ClassId) (po : zPool) (x0 xs j0 k0 w0 rd mv xr : Nat) (im lf : Int32) (fr : Nat → Int32) (fh : Nat → Option Nat) (s_ : Int32) (h0 e0 : Nat) (he si : Int32) (fe : Nat → Int64) (i : Int32) (v : Int64) (hy0 : 0 ≤ im.toInt) (hy1 : im.toInt ≤ 1) (hy2 : (-1) ≤ lf.toInt) (hy3 : lf.toInt ≤ 160) (hy4 : (-1) ≤ he.toInt) (hy5 : he.toInt ≤ 103) (hy6 : 0 ≤ si.toInt) (hy7 : si.toInt ≤ 160) (hfs : 0 ≤ s_.toInt → s_.toInt ≤ 7 → fh s_.toNatClampNeg = some h0) (hpz : Nat) : Met l yX7_set wsX7_set ({ frames := 2, cells := 0, slots := 0, locals := 43 }) (va_Pc [.ref x0, .int s_, .int i, .long v] (zW D (zKT cI cJ cZ cP cS) po [(x0, .inr (7, [.ref xs, .ref j0, .ref k0, .ref w0, .ref rd, .ref mv, .ref xr, .int im, .int lf])), (xr, .inl (cI, 8, .inl fr)), (xs, .inl (cS, 8, .inr (.inr (.inr (.inr fh))))), (h0, .inr (4, [.ref e0, .int he, .int si])), (e0, .inl (cJ, 160, .inr (.inl fe)))] hpz)) (va_Qi (fun (r : Int32) (u : (Nat → Int64) × (Nat → Int32)) => (r.toInt = zSetR s_.toInt he.toInt si.toInt i.toInt) ∧ ((r.toInt = 1 → u.1 = vp_updL fe i.toNatClampNeg (zNar (he.toInt - 100) v))) ∧ ((r.toInt ≠ 1 → u.1 = fe)) ∧ (True)) (zB D [(x0, .inr (7, [.ref xs, .ref j0, .ref k0, .ref w0, .ref rd, .ref mv, .ref xr, .int im, .int lf])), (xr, .inl (cI, 8, .inl fr)), (xs, .inl (cS, 8, .inr (.inr (.inr (.inr fh))))), (h0, .inr (4, [.ref e0, .int he, .int si])), (e0, .inl (cJ, 160, .inr (.inl fe)))] hpz (fun (u : (Nat → Int64) × (Nat → Int32)) => [(x0, .inr (7, [.ref xs, .ref j0, .ref k0, .ref w0, .ref rd, .ref mv, .ref xr, .int im, .int lf])), (xr, .inl (cI, 8, .inl u.2)), (xs, .inl (cS, 8, .inr (.inr (.inr (.inr fh))))), (h0, .inr (4, [.ref e0, .int he, .int si])), (e0, .inl (cJ, 160, .inr (.inl u.1)))])) (va_A [(x0, .inr (7, [.ref xs, .ref j0, .ref k0, .ref w0, .ref rd, .ref mv, .ref xr, .int im, .int lf])), (xr, .inl (cI, 8, .inl fr)), (xs, .inl (cS, 8, .inr (.inr (.inr (.inr fh))))), (h0, .inr (4, [.ref e0, .int he, .int si])), (e0, .inl (cJ, 160, .inr (.inl fe)))] hpz)) 0 0 (va_A [(x0, .inr (7, [.ref xs, .ref j0, .ref k0, .ref w0, .ref rd, .ref mv, .ref xr, .int im, .int lf])), (xr, .inl (cI, 8, .inl fr)), (xs, .inl (cS, 8, .inr (.inr (.inr (.inr fh))))), (h0, .inr (4, [.ref e0, .int he, .int si])), (e0, .inl (cJ, 160, .inr (.inl fe)))] hpz) := by
  refine Met.ofW (cc := cX7_set) (maxL := 7) (ret := (some .int)) (by decide) rfl ?_
  intro p e s m args below meth c s₁ B hml hv
  obtain ⟨rfl, hsz, hP, hK, hD0, hN, hZ⟩ := hv
  have hx := B.exec
  have hb := B.bytes
  have hr := B.returns
  have hts := atoms_spec (ws := wsX7_set) B.pre
  have hown : s.vm.findClass RX7 = some m.cls := findClass_of_methodNamed B.named
  have hlocks := B.notSynchronized
  subst hsz
  have hD := hD0.self (sz := s.heap.size)
  have hA := zA_of hD
  have hl := lv_entry ([.ref x0, .int s_, .int i, .long v]) (n := 7) (Nat.le_of_ble_eq_true rfl)
  rw [lg_entry_eq]
  generalize (lg_sl ([.ref x0, .int s_, .int i, .long v]) ++ List.replicate (7 - (lg_sl ([.ref x0, .int s_, .int i, .long v])).length) Slot.unset).toArray = ls at hl ⊢
  replace hl : lv_has ls 7 [(0, .ref x0), (1, .int s_), (2, .int i), (3, .long v)] := hl
  refine zw_begin hP hD (fun H locs hP1 hS => ?_)
  clear hP
  have hP := hP1
  clear hP1
  refine lv_aload_n hx hb dX7_set_0 rfl (lv_at hl 0 rfl) ?_
  refine lv_iload_n hx hb dX7_set_1 rfl (lv_at hl 1 rfl) ?_
  refine zc_Vq (As := [.int s_]) (rest := []) ⟨hx, hb, hml, hown, hts⟩ (c_X_shelfAt l D cI cJ cZ cP cS po x0 xs j0 k0 w0 rd mv xr (im) (lf) ((fun _ => 0)) fh (s_) hy0 hy1 hy2 hy3) (cwV 1 hts gX7_set_X7_shelfAt rfl rfl rfl ⟨rfl, dh_X7_shelfAt⟩ ⟨Nat.le_of_ble_eq_true rfl, Nat.le_of_ble_eq_true rfl⟩) hK hN (hZ.kept hS) hP (hP.sub [0, 2] rfl) (va_recv (q := (RX7, TX7, 9)) hK hP (ci := 7) (q0 := 0) rfl rfl) rfl hl.1 rfl (Nat.le_of_ble_eq_true rfl) dX7_set_2 ⟨Nat.le_of_ble_eq_true rfl, Nat.le_of_ble_eq_true rfl⟩ (fun r_1 hr_1 => ?_)
  rcases hr_1 with ⟨rfl, g_2⟩ | ⟨rfl, g_3, g_4⟩ | ⟨rfl, g_5, g_6⟩
  · refine lv_astoreN (lv' := [(5, .null), (0, .ref x0), (1, .int s_), (2, .int i), (3, .long v)]) hx hb dX7_set_5 hl (by decide) rfl (fun ls hl => ?_)
    refine lv_aloadN hx hb dX7_set_7 (lv_at hl 0 rfl) ?_
    refine lv_ifnonnullN hx hb dX7_set_9 ?_
    refine lv_aload_n hx hb dX7_set_12 rfl (lv_at hl 1 rfl) ?_
    refine lv_iconst (v := 1) hx hb dX7_set_13 (by decide) ?_
    skip
    refine zw_V (As := [.int 1]) (rest := []) (wr := [(xs, .inl (cS, 8, .inr (.inr (.inr (.inr fh))))), (h0, .inr (4, [.ref e0, .int he, .int si])), (e0, .inl (cJ, 160, .inr (.inl fe)))]) ⟨hx, hb, hml, hown, hts⟩ (c_X_refuse_1 l D cI cJ cZ cP cS po x0 xs j0 k0 w0 rd mv xr (im) (lf) fr hy0 hy1 hy2 hy3 H.size) (cwV 1 hts gX7_set_X7_refuse rfl rfl rfl ⟨rfl, dh_X7_refuse⟩ ⟨Nat.le_of_ble_eq_true rfl, Nat.le_of_ble_eq_true rfl⟩) hK hN (hZ.kept hS) hP hD hS hA [0, 1] [2, 3, 4] rfl rfl (by decide) (by decide) (by decide) (va_recv (q := (RX7, TX7, 9)) hK hP (ci := 7) (q0 := 0) rfl rfl) rfl hl.1 rfl (Nat.le_of_ble_eq_true rfl) dX7_set_14 ⟨Nat.le_of_ble_eq_true rfl, Nat.le_of_ble_eq_true rfl⟩ (fun r_7 u_8 H locs hr_7 hP hD hS => ?_)
    obtain ⟨q_9, rfl⟩ : ∃ z, z = u_8 := ⟨_, rfl⟩
    have h9R := zRe (ws' := [(xs, .inl (cS, 8, .inr (.inr (.inr (.inr fh))))), (h0, .inr (4, [.ref e0, .int he, .int si])), (e0, .inl (cJ, 160, .inr (.inl fe))), (x0, .inr (7, [.ref xs, .ref j0, .ref k0, .ref w0, .ref rd, .ref mv, .ref xr, .int im, .int lf])), (xr, .inl (cI, 8, .inl q_9))]) hP hD rfl
    clear hP hD
    obtain ⟨hP, hD⟩ := h9R
    obtain rfl := hr_7
    exact W.iret (v := (-1)) hx hb hr (fun t ht hW => ⟨⟨(-1), (fe, q_9), rfl, ⟨(show ((-1) : Int32).toInt = zSetR s_.toInt he.toInt si.toInt i.toInt from by (have k9 : ((-1) : Int32).toInt = -1 := (by decide); unfold zSetR; (repeat (first | rw [if_pos (by omega)] | rw [if_neg (by omega)])) <;> omega)), (show (((-1) : Int32).toInt = 1 → fe = vp_updL fe i.toNatClampNeg (zNar (he.toInt - 100) v)) from by (have k9 : ((-1) : Int32).toInt = -1 := (by decide); intro h; exfalso; omega)), (show (((-1) : Int32).toInt ≠ 1 → fe = fe) from by (have k9 : ((-1) : Int32).toInt = -1 := (by decide); intro h; exact rfl)), trivial⟩, zRet ht hP hD [3, 4, 0, 1, 2] (by decide) rfl⟩, hS.F ht⟩) hS.2.2 dX7_set_17
  · refine lv_astoreN (lv' := [(5, .null), (0, .ref x0), (1, .int s_), (2, .int i), (3, .long v)]) hx hb dX7_set_5 hl (by decide) rfl (fun ls hl => ?_)
    refine lv_aloadN hx hb dX7_set_7 (lv_at hl 0 rfl) ?_
    refine lv_ifnonnullN hx hb dX7_set_9 ?_
    refine lv_aload_n hx hb dX7_set_12 rfl (lv_at hl 1 rfl) ?_
    refine lv_iconst (v := 1) hx hb dX7_set_13 (by decide) ?_
    skip
    refine zw_V (As := [.int 1]) (rest := []) (wr := [(xs, .inl (cS, 8, .inr (.inr (.inr (.inr fh))))), (h0, .inr (4, [.ref e0, .int he, .int si])), (e0, .inl (cJ, 160, .inr (.inl fe)))]) ⟨hx, hb, hml, hown, hts⟩ (c_X_refuse_1 l D cI cJ cZ cP cS po x0 xs j0 k0 w0 rd mv xr (im) (lf) fr hy0 hy1 hy2 hy3 H.size) (cwV 1 hts gX7_set_X7_refuse rfl rfl rfl ⟨rfl, dh_X7_refuse⟩ ⟨Nat.le_of_ble_eq_true rfl, Nat.le_of_ble_eq_true rfl⟩) hK hN (hZ.kept hS) hP hD hS hA [0, 1] [2, 3, 4] rfl rfl (by decide) (by decide) (by decide) (va_recv (q := (RX7, TX7, 9)) hK hP (ci := 7) (q0 := 0) rfl rfl) rfl hl.1 rfl (Nat.le_of_ble_eq_true rfl) dX7_set_14 ⟨Nat.le_of_ble_eq_true rfl, Nat.le_of_ble_eq_true rfl⟩ (fun r_10 u_11 H locs hr_10 hP hD hS => ?_)
    obtain ⟨q_12, rfl⟩ : ∃ z, z = u_11 := ⟨_, rfl⟩
    have h9R := zRe (ws' := [(xs, .inl (cS, 8, .inr (.inr (.inr (.inr fh))))), (h0, .inr (4, [.ref e0, .int he, .int si])), (e0, .inl (cJ, 160, .inr (.inl fe))), (x0, .inr (7, [.ref xs, .ref j0, .ref k0, .ref w0, .ref rd, .ref mv, .ref xr, .int im, .int lf])), (xr, .inl (cI, 8, .inl q_12))]) hP hD rfl
    clear hP hD
    obtain ⟨hP, hD⟩ := h9R
    obtain rfl := hr_10
    exact W.iret (v := (-1)) hx hb hr (fun t ht hW => ⟨⟨(-1), (fe, q_12), rfl, ⟨(show ((-1) : Int32).toInt = zSetR s_.toInt he.toInt si.toInt i.toInt from by (have k9 : ((-1) : Int32).toInt = -1 := (by decide); unfold zSetR; (repeat (first | rw [if_pos (by omega)] | rw [if_neg (by omega)])) <;> omega)), (show (((-1) : Int32).toInt = 1 → fe = vp_updL fe i.toNatClampNeg (zNar (he.toInt - 100) v)) from by (have k9 : ((-1) : Int32).toInt = -1 := (by decide); intro h; exfalso; omega)), (show (((-1) : Int32).toInt ≠ 1 → fe = fe) from by (have k9 : ((-1) : Int32).toInt = -1 := (by decide); intro h; exact rfl)), trivial⟩, zRet ht hP hD [3, 4, 0, 1, 2] (by decide) rfl⟩, hS.F ht⟩) hS.2.2 dX7_set_17
  · rw [hfs (by omega) (by omega)]
    refine W.eq (g2 := F0 m 5 ls (.ref h0 :: [])) rfl ?_
    refine lv_astore (lv' := [(5, .ref h0), (0, .ref x0), (1, .int s_), (2, .int i), (3, .long v)]) hx hb dX7_set_5 hl (by decide) rfl (fun ls hl => ?_)
    refine lv_aload hx hb dX7_set_7 (lv_at hl 0 rfl) ?_
    refine lv_ifnonnull (tgt := 18) hx hb dX7_set_9 (by decide) ?_
    refine lv_aload hx hb dX7_set_18 (lv_at hl 0 rfl) ?_
    refine zc_V (As := []) (rest := []) ⟨hx, hb, hml, hown, hts⟩ (c_Sh_noRow l D cI cJ cZ cP cS po h0 e0 (he) (si) hy4 hy5 hy6 hy7) (cwV 0 hts gX7_set_X4_noRow rfl rfl rfl ⟨rfl, dh_X4_noRow⟩ ⟨Nat.le_of_ble_eq_true rfl, Nat.le_of_ble_eq_true rfl⟩) hK hN (hZ.kept hS) hP (hP.sub [3] rfl) (va_recv (q := (RX4, TX4, 3)) hK hP (ci := 4) (q0 := 3) rfl rfl) rfl hl.1 rfl (Nat.le_of_ble_eq_true rfl) dX7_set_20 ⟨Nat.le_of_ble_eq_true rfl, Nat.le_of_ble_eq_true rfl⟩ (fun r_13 hr_13 => ?_)
    rcases hr_13 with ⟨rfl, g_14, g_15⟩ | ⟨rfl, g_16, g_17⟩ | ⟨rfl, g_18⟩
    · refine lv_istore (lv' := [(6, .int 2), (5, .ref h0), (0, .ref x0), (1, .int s_), (2, .int i), (3, .long v)]) hx hb dX7_set_23 hl (by decide) rfl (fun ls hl => ?_)
      refine lv_iload hx hb dX7_set_25 (lv_at hl 0 rfl) ?_
      refine lv_if_eq (tgt := 37) hx hb dX7_set_27 (by decide) (fun c_19 => ?_) (fun c_19 => ?_)
      · exact absurd c_19 (by decide)
      · refine lv_aload_n hx hb dX7_set_30 rfl (lv_at hl 2 rfl) ?_
        refine lv_iload hx hb dX7_set_31 (lv_at hl 0 rfl) ?_
        skip
        refine zw_V (As := [.int 2]) (rest := []) (wr := [(xs, .inl (cS, 8, .inr (.inr (.inr (.inr fh))))), (h0, .inr (4, [.ref e0, .int he, .int si])), (e0, .inl (cJ, 160, .inr (.inl fe)))]) ⟨hx, hb, hml, hown, hts⟩ (c_X_refuse_2 l D cI cJ cZ cP cS po x0 xs j0 k0 w0 rd mv xr (im) (lf) fr hy0 hy1 hy2 hy3 H.size) (cwV 1 hts gX7_set_X7_refuse rfl rfl rfl ⟨rfl, dh_X7_refuse⟩ ⟨Nat.le_of_ble_eq_true rfl, Nat.le_of_ble_eq_true rfl⟩) hK hN (hZ.kept hS) hP hD hS hA [0, 1] [2, 3, 4] rfl rfl (by decide) (by decide) (by decide) (va_recv (q := (RX7, TX7, 9)) hK hP (ci := 7) (q0 := 0) rfl rfl) rfl hl.1 rfl (Nat.le_of_ble_eq_true rfl) dX7_set_33 ⟨Nat.le_of_ble_eq_true rfl, Nat.le_of_ble_eq_true rfl⟩ (fun r_20 u_21 H locs hr_20 hP hD hS => ?_)
        obtain ⟨q_22, rfl⟩ : ∃ z, z = u_21 := ⟨_, rfl⟩
        have h9R := zRe (ws' := [(xs, .inl (cS, 8, .inr (.inr (.inr (.inr fh))))), (h0, .inr (4, [.ref e0, .int he, .int si])), (e0, .inl (cJ, 160, .inr (.inl fe))), (x0, .inr (7, [.ref xs, .ref j0, .ref k0, .ref w0, .ref rd, .ref mv, .ref xr, .int im, .int lf])), (xr, .inl (cI, 8, .inl q_22))]) hP hD rfl
        clear hP hD
        obtain ⟨hP, hD⟩ := h9R
        obtain rfl := hr_20
        exact W.iret (v := (-2)) hx hb hr (fun t ht hW => ⟨⟨(-2), (fe, q_22), rfl, ⟨(show ((-2) : Int32).toInt = zSetR s_.toInt he.toInt si.toInt i.toInt from by (have k9 : ((-2) : Int32).toInt = -2 := (by decide); unfold zSetR; (repeat (first | rw [if_pos (by omega)] | rw [if_neg (by omega)])) <;> omega)), (show (((-2) : Int32).toInt = 1 → fe = vp_updL fe i.toNatClampNeg (zNar (he.toInt - 100) v)) from by (have k9 : ((-2) : Int32).toInt = -2 := (by decide); intro h; exfalso; omega)), (show (((-2) : Int32).toInt ≠ 1 → fe = fe) from by (have k9 : ((-2) : Int32).toInt = -2 := (by decide); intro h; exact rfl)), trivial⟩, zRet ht hP hD [3, 4, 0, 1, 2] (by decide) rfl⟩, hS.F ht⟩) hS.2.2 dX7_set_36
    · refine lv_istore (lv' := [(6, .int 3), (5, .ref h0), (0, .ref x0), (1, .int s_), (2, .int i), (3, .long v)]) hx hb dX7_set_23 hl (by decide) rfl (fun ls hl => ?_)
      refine lv_iload hx hb dX7_set_25 (lv_at hl 0 rfl) ?_
      refine lv_if_eq (tgt := 37) hx hb dX7_set_27 (by decide) (fun c_23 => ?_) (fun c_23 => ?_)
      · exact absurd c_23 (by decide)
      · refine lv_aload_n hx hb dX7_set_30 rfl (lv_at hl 2 rfl) ?_
        refine lv_iload hx hb dX7_set_31 (lv_at hl 0 rfl) ?_
        skip
        refine zw_V (As := [.int 3]) (rest := []) (wr := [(xs, .inl (cS, 8, .inr (.inr (.inr (.inr fh))))), (h0, .inr (4, [.ref e0, .int he, .int si])), (e0, .inl (cJ, 160, .inr (.inl fe)))]) ⟨hx, hb, hml, hown, hts⟩ (c_X_refuse_3 l D cI cJ cZ cP cS po x0 xs j0 k0 w0 rd mv xr (im) (lf) fr hy0 hy1 hy2 hy3 H.size) (cwV 1 hts gX7_set_X7_refuse rfl rfl rfl ⟨rfl, dh_X7_refuse⟩ ⟨Nat.le_of_ble_eq_true rfl, Nat.le_of_ble_eq_true rfl⟩) hK hN (hZ.kept hS) hP hD hS hA [0, 1] [2, 3, 4] rfl rfl (by decide) (by decide) (by decide) (va_recv (q := (RX7, TX7, 9)) hK hP (ci := 7) (q0 := 0) rfl rfl) rfl hl.1 rfl (Nat.le_of_ble_eq_true rfl) dX7_set_33 ⟨Nat.le_of_ble_eq_true rfl, Nat.le_of_ble_eq_true rfl⟩ (fun r_24 u_25 H locs hr_24 hP hD hS => ?_)
        obtain ⟨q_26, rfl⟩ : ∃ z, z = u_25 := ⟨_, rfl⟩
        have h9R := zRe (ws' := [(xs, .inl (cS, 8, .inr (.inr (.inr (.inr fh))))), (h0, .inr (4, [.ref e0, .int he, .int si])), (e0, .inl (cJ, 160, .inr (.inl fe))), (x0, .inr (7, [.ref xs, .ref j0, .ref k0, .ref w0, .ref rd, .ref mv, .ref xr, .int im, .int lf])), (xr, .inl (cI, 8, .inl q_26))]) hP hD rfl
        clear hP hD
        obtain ⟨hP, hD⟩ := h9R
        obtain rfl := hr_24
        exact W.iret (v := (-3)) hx hb hr (fun t ht hW => ⟨⟨(-3), (fe, q_26), rfl, ⟨(show ((-3) : Int32).toInt = zSetR s_.toInt he.toInt si.toInt i.toInt from by (have k9 : ((-3) : Int32).toInt = -3 := (by decide); unfold zSetR; (repeat (first | rw [if_pos (by omega)] | rw [if_neg (by omega)])) <;> omega)), (show (((-3) : Int32).toInt = 1 → fe = vp_updL fe i.toNatClampNeg (zNar (he.toInt - 100) v)) from by (have k9 : ((-3) : Int32).toInt = -3 := (by decide); intro h; exfalso; omega)), (show (((-3) : Int32).toInt ≠ 1 → fe = fe) from by (have k9 : ((-3) : Int32).toInt = -3 := (by decide); intro h; exact rfl)), trivial⟩, zRet ht hP hD [3, 4, 0, 1, 2] (by decide) rfl⟩, hS.F ht⟩) hS.2.2 dX7_set_36
    · refine lv_istore (lv' := [(6, .int 0), (5, .ref h0), (0, .ref x0), (1, .int s_), (2, .int i), (3, .long v)]) hx hb dX7_set_23 hl (by decide) rfl (fun ls hl => ?_)
      refine lv_iload hx hb dX7_set_25 (lv_at hl 0 rfl) ?_
      refine lv_if_eq (tgt := 37) hx hb dX7_set_27 (by decide) (fun c_27 => ?_) (fun c_27 => ?_)
      · refine lv_aload hx hb dX7_set_37 (lv_at hl 1 rfl) ?_
        refine lv_iload_n hx hb dX7_set_39 rfl (lv_at hl 4 rfl) ?_
        refine lv_iconst (v := 1) hx hb dX7_set_40 (by decide) ?_
        have kc1 : (1 : Int32).toInt = 1 := by decide
        refine zc_V (As := [.int i, .int 1]) (rest := []) ⟨hx, hb, hml, hown, hts⟩ (c_Sh_hasSpan l D cI cJ cZ cP cS po h0 e0 (he) (si) (i) (1) hy4 hy5 hy6 hy7) (cwV 2 hts gX7_set_X4_hasSpan rfl rfl rfl ⟨rfl, dh_X4_hasSpan⟩ ⟨Nat.le_of_ble_eq_true rfl, Nat.le_of_ble_eq_true rfl⟩) hK hN (hZ.kept hS) hP (hP.sub [3] rfl) (va_recv (q := (RX4, TX4, 3)) hK hP (ci := 4) (q0 := 3) rfl rfl) rfl hl.1 rfl (Nat.le_of_ble_eq_true rfl) dX7_set_41 ⟨Nat.le_of_ble_eq_true rfl, Nat.le_of_ble_eq_true rfl⟩ (fun r_28 hr_28 => ?_)
        rcases hr_28 with ⟨rfl, g_29⟩ | ⟨rfl, g_30, g_31⟩ | ⟨rfl, g_32, g_33, g_34⟩ | ⟨rfl, g_35, g_36, g_37, g_38⟩ | ⟨rfl, g_39, g_40, g_41, g_42⟩
        · refine lv_if_ne (tgt := 53) hx hb dX7_set_44 (by decide) (fun c_43 => ?_) (fun c_43 => ?_)
          · exact absurd c_43 (by decide)
          · refine lv_aload_n hx hb dX7_set_47 rfl (lv_at hl 2 rfl) ?_
            refine lv_iconst (v := 5) hx hb dX7_set_48 (by decide) ?_
            skip
            refine zw_V (As := [.int 5]) (rest := []) (wr := [(xs, .inl (cS, 8, .inr (.inr (.inr (.inr fh))))), (h0, .inr (4, [.ref e0, .int he, .int si])), (e0, .inl (cJ, 160, .inr (.inl fe)))]) ⟨hx, hb, hml, hown, hts⟩ (c_X_refuse_5 l D cI cJ cZ cP cS po x0 xs j0 k0 w0 rd mv xr (im) (lf) fr hy0 hy1 hy2 hy3 H.size) (cwV 1 hts gX7_set_X7_refuse rfl rfl rfl ⟨rfl, dh_X7_refuse⟩ ⟨Nat.le_of_ble_eq_true rfl, Nat.le_of_ble_eq_true rfl⟩) hK hN (hZ.kept hS) hP hD hS hA [0, 1] [2, 3, 4] rfl rfl (by decide) (by decide) (by decide) (va_recv (q := (RX7, TX7, 9)) hK hP (ci := 7) (q0 := 0) rfl rfl) rfl hl.1 rfl (Nat.le_of_ble_eq_true rfl) dX7_set_49 ⟨Nat.le_of_ble_eq_true rfl, Nat.le_of_ble_eq_true rfl⟩ (fun r_44 u_45 H locs hr_44 hP hD hS => ?_)
            obtain ⟨q_46, rfl⟩ : ∃ z, z = u_45 := ⟨_, rfl⟩
            have h9R := zRe (ws' := [(xs, .inl (cS, 8, .inr (.inr (.inr (.inr fh))))), (h0, .inr (4, [.ref e0, .int he, .int si])), (e0, .inl (cJ, 160, .inr (.inl fe))), (x0, .inr (7, [.ref xs, .ref j0, .ref k0, .ref w0, .ref rd, .ref mv, .ref xr, .int im, .int lf])), (xr, .inl (cI, 8, .inl q_46))]) hP hD rfl
            clear hP hD
            obtain ⟨hP, hD⟩ := h9R
            obtain rfl := hr_44
            exact W.iret (v := (-5)) hx hb hr (fun t ht hW => ⟨⟨(-5), (fe, q_46), rfl, ⟨(show ((-5) : Int32).toInt = zSetR s_.toInt he.toInt si.toInt i.toInt from by (have k9 : ((-5) : Int32).toInt = -5 := (by decide); unfold zSetR; (repeat (first | rw [if_pos (by omega)] | rw [if_neg (by omega)])) <;> omega)), (show (((-5) : Int32).toInt = 1 → fe = vp_updL fe i.toNatClampNeg (zNar (he.toInt - 100) v)) from by (have k9 : ((-5) : Int32).toInt = -5 := (by decide); intro h; exfalso; omega)), (show (((-5) : Int32).toInt ≠ 1 → fe = fe) from by (have k9 : ((-5) : Int32).toInt = -5 := (by decide); intro h; exact rfl)), trivial⟩, zRet ht hP hD [3, 4, 0, 1, 2] (by decide) rfl⟩, hS.F ht⟩) hS.2.2 dX7_set_52
        · exfalso; omega
        · refine lv_if_ne (tgt := 53) hx hb dX7_set_44 (by decide) (fun c_47 => ?_) (fun c_47 => ?_)
          · exact absurd c_47 (by decide)
          · refine lv_aload_n hx hb dX7_set_47 rfl (lv_at hl 2 rfl) ?_
            refine lv_iconst (v := 5) hx hb dX7_set_48 (by decide) ?_
            skip
            refine zw_V (As := [.int 5]) (rest := []) (wr := [(xs, .inl (cS, 8, .inr (.inr (.inr (.inr fh))))), (h0, .inr (4, [.ref e0, .int he, .int si])), (e0, .inl (cJ, 160, .inr (.inl fe)))]) ⟨hx, hb, hml, hown, hts⟩ (c_X_refuse_5 l D cI cJ cZ cP cS po x0 xs j0 k0 w0 rd mv xr (im) (lf) fr hy0 hy1 hy2 hy3 H.size) (cwV 1 hts gX7_set_X7_refuse rfl rfl rfl ⟨rfl, dh_X7_refuse⟩ ⟨Nat.le_of_ble_eq_true rfl, Nat.le_of_ble_eq_true rfl⟩) hK hN (hZ.kept hS) hP hD hS hA [0, 1] [2, 3, 4] rfl rfl (by decide) (by decide) (by decide) (va_recv (q := (RX7, TX7, 9)) hK hP (ci := 7) (q0 := 0) rfl rfl) rfl hl.1 rfl (Nat.le_of_ble_eq_true rfl) dX7_set_49 ⟨Nat.le_of_ble_eq_true rfl, Nat.le_of_ble_eq_true rfl⟩ (fun r_48 u_49 H locs hr_48 hP hD hS => ?_)
            obtain ⟨q_50, rfl⟩ : ∃ z, z = u_49 := ⟨_, rfl⟩
            have h9R := zRe (ws' := [(xs, .inl (cS, 8, .inr (.inr (.inr (.inr fh))))), (h0, .inr (4, [.ref e0, .int he, .int si])), (e0, .inl (cJ, 160, .inr (.inl fe))), (x0, .inr (7, [.ref xs, .ref j0, .ref k0, .ref w0, .ref rd, .ref mv, .ref xr, .int im, .int lf])), (xr, .inl (cI, 8, .inl q_50))]) hP hD rfl
            clear hP hD
            obtain ⟨hP, hD⟩ := h9R
            obtain rfl := hr_48
            exact W.iret (v := (-5)) hx hb hr (fun t ht hW => ⟨⟨(-5), (fe, q_50), rfl, ⟨(show ((-5) : Int32).toInt = zSetR s_.toInt he.toInt si.toInt i.toInt from by (have k9 : ((-5) : Int32).toInt = -5 := (by decide); unfold zSetR; (repeat (first | rw [if_pos (by omega)] | rw [if_neg (by omega)])) <;> omega)), (show (((-5) : Int32).toInt = 1 → fe = vp_updL fe i.toNatClampNeg (zNar (he.toInt - 100) v)) from by (have k9 : ((-5) : Int32).toInt = -5 := (by decide); intro h; exfalso; omega)), (show (((-5) : Int32).toInt ≠ 1 → fe = fe) from by (have k9 : ((-5) : Int32).toInt = -5 := (by decide); intro h; exact rfl)), trivial⟩, zRet ht hP hD [3, 4, 0, 1, 2] (by decide) rfl⟩, hS.F ht⟩) hS.2.2 dX7_set_52
        · refine lv_if_ne (tgt := 53) hx hb dX7_set_44 (by decide) (fun c_51 => ?_) (fun c_51 => ?_)
          · exact absurd c_51 (by decide)
          · refine lv_aload_n hx hb dX7_set_47 rfl (lv_at hl 2 rfl) ?_
            refine lv_iconst (v := 5) hx hb dX7_set_48 (by decide) ?_
            skip
            refine zw_V (As := [.int 5]) (rest := []) (wr := [(xs, .inl (cS, 8, .inr (.inr (.inr (.inr fh))))), (h0, .inr (4, [.ref e0, .int he, .int si])), (e0, .inl (cJ, 160, .inr (.inl fe)))]) ⟨hx, hb, hml, hown, hts⟩ (c_X_refuse_5 l D cI cJ cZ cP cS po x0 xs j0 k0 w0 rd mv xr (im) (lf) fr hy0 hy1 hy2 hy3 H.size) (cwV 1 hts gX7_set_X7_refuse rfl rfl rfl ⟨rfl, dh_X7_refuse⟩ ⟨Nat.le_of_ble_eq_true rfl, Nat.le_of_ble_eq_true rfl⟩) hK hN (hZ.kept hS) hP hD hS hA [0, 1] [2, 3, 4] rfl rfl (by decide) (by decide) (by decide) (va_recv (q := (RX7, TX7, 9)) hK hP (ci := 7) (q0 := 0) rfl rfl) rfl hl.1 rfl (Nat.le_of_ble_eq_true rfl) dX7_set_49 ⟨Nat.le_of_ble_eq_true rfl, Nat.le_of_ble_eq_true rfl⟩ (fun r_52 u_53 H locs hr_52 hP hD hS => ?_)
            obtain ⟨q_54, rfl⟩ : ∃ z, z = u_53 := ⟨_, rfl⟩
            have h9R := zRe (ws' := [(xs, .inl (cS, 8, .inr (.inr (.inr (.inr fh))))), (h0, .inr (4, [.ref e0, .int he, .int si])), (e0, .inl (cJ, 160, .inr (.inl fe))), (x0, .inr (7, [.ref xs, .ref j0, .ref k0, .ref w0, .ref rd, .ref mv, .ref xr, .int im, .int lf])), (xr, .inl (cI, 8, .inl q_54))]) hP hD rfl
            clear hP hD
            obtain ⟨hP, hD⟩ := h9R
            obtain rfl := hr_52
            exact W.iret (v := (-5)) hx hb hr (fun t ht hW => ⟨⟨(-5), (fe, q_54), rfl, ⟨(show ((-5) : Int32).toInt = zSetR s_.toInt he.toInt si.toInt i.toInt from by (have k9 : ((-5) : Int32).toInt = -5 := (by decide); unfold zSetR; (repeat (first | rw [if_pos (by omega)] | rw [if_neg (by omega)])) <;> omega)), (show (((-5) : Int32).toInt = 1 → fe = vp_updL fe i.toNatClampNeg (zNar (he.toInt - 100) v)) from by (have k9 : ((-5) : Int32).toInt = -5 := (by decide); intro h; exfalso; omega)), (show (((-5) : Int32).toInt ≠ 1 → fe = fe) from by (have k9 : ((-5) : Int32).toInt = -5 := (by decide); intro h; exact rfl)), trivial⟩, zRet ht hP hD [3, 4, 0, 1, 2] (by decide) rfl⟩, hS.F ht⟩) hS.2.2 dX7_set_52
        · refine lv_if_ne (tgt := 53) hx hb dX7_set_44 (by decide) (fun c_55 => ?_) (fun c_55 => ?_)
          · refine lv_aload hx hb dX7_set_53 (lv_at hl 1 rfl) ?_
            refine lv_iload_n hx hb dX7_set_55 rfl (lv_at hl 4 rfl) ?_
            refine lv_lload_n hx hb dX7_set_56 rfl (lv_at hl 5 rfl) ?_
            skip
            refine zw_Vv (As := [.int i, .long v]) (rest := []) (wr := [(x0, .inr (7, [.ref xs, .ref j0, .ref k0, .ref w0, .ref rd, .ref mv, .ref xr, .int im, .int lf])), (xr, .inl (cI, 8, .inl fr)), (xs, .inl (cS, 8, .inr (.inr (.inr (.inr fh)))))]) ⟨hx, hb, hml, hown, hts⟩ (c_F_Sh_put l D cI cJ cZ cP cS po h0 e0 (he) (si) fe (i) (v) hy4 hy5 hy6 hy7 (by omega) (by omega) (by omega) H.size) (cwV 2 hts gX7_set_X4_put rfl rfl rfl ⟨rfl, dh_X4_put⟩ ⟨Nat.le_of_ble_eq_true rfl, Nat.le_of_ble_eq_true rfl⟩) hK hN (hZ.kept hS) hP hD hS hA [3, 4] [0, 1, 2] rfl rfl (by decide) (by decide) (by decide) (va_recv (q := (RX4, TX4, 3)) hK hP (ci := 4) (q0 := 3) rfl rfl) rfl hl.1 rfl (Nat.le_of_ble_eq_true rfl) dX7_set_57 ⟨Nat.le_of_ble_eq_true rfl, Nat.le_of_ble_eq_true rfl⟩ (fun u_57 H locs hr_56 hP hD hS => ?_)
            obtain ⟨q_58, rfl⟩ : ∃ z, z = u_57 := ⟨_, rfl⟩
            obtain ⟨hsr_56_0, hr_56⟩ := hr_56
            have h9R := zRe (ws' := [(x0, .inr (7, [.ref xs, .ref j0, .ref k0, .ref w0, .ref rd, .ref mv, .ref xr, .int im, .int lf])), (xr, .inl (cI, 8, .inl fr)), (xs, .inl (cS, 8, .inr (.inr (.inr (.inr fh))))), (h0, .inr (4, [.ref e0, .int he, .int si])), (e0, .inl (cJ, 160, .inr (.inl q_58)))]) hP hD rfl
            clear hP hD
            obtain ⟨hP, hD⟩ := h9R
            refine lv_iconst (v := 1) hx hb dX7_set_60 (by decide) ?_
            exact W.iret (v := 1) hx hb hr (fun t ht hW => ⟨⟨1, (q_58, fr), rfl, ⟨(show (1 : Int32).toInt = zSetR s_.toInt he.toInt si.toInt i.toInt from by (have k9 : (1 : Int32).toInt = 1 := (by decide); unfold zSetR; (repeat (first | rw [if_pos (by omega)] | rw [if_neg (by omega)])) <;> omega)), (show ((1 : Int32).toInt = 1 → q_58 = vp_updL fe i.toNatClampNeg (zNar (he.toInt - 100) v)) from by (have k9 : (1 : Int32).toInt = 1 := (by decide); intro h; exact hsr_56_0)), (show ((1 : Int32).toInt ≠ 1 → q_58 = fe) from by (have k9 : (1 : Int32).toInt = 1 := (by decide); intro h; exfalso; omega)), trivial⟩, zRet ht hP hD [0, 1, 2, 3, 4] (by decide) rfl⟩, hS.F ht⟩) hS.2.2 dX7_set_61
          · exact absurd c_55 (by decide)
      · exact absurd c_27 (by decide)
set_option maxHeartbeats 4000000 in
set_option maxRecDepth 100000 in
theorem c_F_X_copy (l : Launch) (D : va_G) (cI cJ cZ cP cS : ClassId) (po : zPool) (x0 xs j0 k0 w0 rd mv xr : Nat) (im lf : Int32) (fr : Nat → Int32) (fh : Nat → Option Nat) (s_ : Int32) (h0 e0 : Nat) (he si : Int32) (fe : Nat → Int64) (q_ : Int32) (g0 e1 : Nat) (ge gs : Int32) (fe1 : Nat → Int64) (i j n : Int32) (hy0 : 0 ≤ im.toInt) (hy1 : im.toInt ≤ 1) (hy2 : (-1) ≤ lf.toInt) (hy3 : lf.toInt ≤ 160) (hy4 : (-1) ≤ he.toInt) (hy5 : he.toInt ≤ 103) (hy6 : 0 ≤ si.toInt) (hy7 : si.toInt ≤ 160) (hy8 : (-1) ≤ ge.toInt) (hy9 : ge.toInt ≤ 103) (hy10 : 0 ≤ gs.toInt) (hy11 : gs.toInt ≤ 160) (hfs : 0 ≤ s_.toInt → s_.toInt ≤ 7 → fh s_.toNatClampNeg = some h0) (hfq : 0 ≤ q_.toInt → q_.toInt ≤ 7 → fh q_.toNatClampNeg = some g0) (hpz : Nat) : Met l yX7_copy wsX7_copy ({ frames := 2, cells := 0, slots := 0, locals := 100 }) (va_Pc [.ref x0, .int s_, .int q_, .int i, .int j, .int n] (zW D (zKT cI cJ cZ cP cS) po [(x0, .inr (7, [.ref xs, .ref j0, .ref k0, .ref w0, .ref rd, .ref mv, .ref xr, .int im, .int lf])), (xr, .inl (cI, 8, .inl fr)), (xs, .inl (cS, 8, .inr (.inr (.inr (.inr fh))))), (h0, .inr (4, [.ref e0, .int he, .int si])), (e0, .inl (cJ, 160, .inr (.inl fe))), (g0, .inr (4, [.ref e1, .int ge, .int gs])), (e1, .inl (cJ, 160, .inr (.inl fe1)))] hpz)) (va_Qi (fun (r : Int32) (u : (Nat → Int64) × (Nat → Int32)) => (r.toInt = zCopR s_.toInt q_.toInt he.toInt ge.toInt si.toInt gs.toInt i.toInt j.toInt n.toInt) ∧ ((r.toInt = 1 → u.1 = va_cpy fe fe1 i.toNatClampNeg j.toNatClampNeg n.toNatClampNeg)) ∧ ((r.toInt ≠ 1 → u.1 = fe1)) ∧ (True)) (zB D [(x0, .inr (7, [.ref xs, .ref j0, .ref k0, .ref w0, .ref rd, .ref mv, .ref xr, .int im, .int lf])), (xr, .inl (cI, 8, .inl fr)), (xs, .inl (cS, 8, .inr (.inr (.inr (.inr fh))))), (h0, .inr (4, [.ref e0, .int he, .int si])), (e0, .inl (cJ, 160, .inr (.inl fe))), (g0, .inr (4, [.ref e1, .int ge, .int gs])), (e1, .inl (cJ, 160, .inr (.inl fe1)))] hpz (fun (u : (Nat → Int64) × (Nat → Int32)) => [(x0, .inr (7, [.ref xs, .ref j0, .ref k0, .ref w0, .ref rd, .ref mv, .ref xr, .int im, .int lf])), (xr, .inl (cI, 8, .inl u.2)), (xs, .inl (cS, 8, .inr (.inr (.inr (.inr fh))))), (h0, .inr (4, [.ref e0, .int he, .int si])), (e0, .inl (cJ, 160, .inr (.inl fe))), (g0, .inr (4, [.ref e1, .int ge, .int gs])), (e1, .inl (cJ, 160, .inr (.inl u.1)))])) (va_A [(x0, .inr (7, [.ref xs, .ref j0, .ref k0, .ref w0, .ref rd, .ref mv, .ref xr, .int im, .int lf])), (xr, .inl (cI, 8, .inl fr)), (xs, .inl (cS, 8, .inr (.inr (.inr (.inr fh))))), (h0, .inr (4, [.ref e0, .int he, .int si])), (e0, .inl (cJ, 160, .inr (.inl fe))), (g0, .inr (4, [.ref e1, .int ge, .int gs])), (e1, .inl (cJ, 160, .inr (.inl fe1)))] hpz)) 0 0 (va_A [(x0, .inr (7, [.ref xs, .ref j0, .ref k0, .ref w0, .ref rd, .ref mv, .ref xr, .int im, .int lf])), (xr, .inl (cI, 8, .inl fr)), (xs, .inl (cS, 8, .inr (.inr (.inr (.inr fh))))), (h0, .inr (4, [.ref e0, .int he, .int si])), (e0, .inl (cJ, 160, .inr (.inl fe))), (g0, .inr (4, [.ref e1, .int ge, .int gs])), (e1, .inl (cJ, 160, .inr (.inl fe1)))] hpz) := by
  refine Met.ofW (cc := cX7_copy) (maxL := 11) (ret := (some .int)) (by decide) rfl ?_
  intro p e s m args below meth c s₁ B hml hv
  obtain ⟨rfl, hsz, hP, hK, hD0, hN, hZ⟩ := hv
  have hx := B.exec
  have hb := B.bytes
  have hr := B.returns
  have hts := atoms_spec (ws := wsX7_copy) B.pre
  have hown : s.vm.findClass RX7 = some m.cls := findClass_of_methodNamed B.named
  have hlocks := B.notSynchronized
  subst hsz
  have hD := hD0.self (sz := s.heap.size)
  have hA := zA_of hD
  have hl := lv_entry ([.ref x0, .int s_, .int q_, .int i, .int j, .int n]) (n := 11) (Nat.le_of_ble_eq_true rfl)
  rw [lg_entry_eq]
  generalize (lg_sl ([.ref x0, .int s_, .int q_, .int i, .int j, .int n]) ++ List.replicate (11 - (lg_sl ([.ref x0, .int s_, .int q_, .int i, .int j, .int n])).length) Slot.unset).toArray = ls at hl ⊢
  replace hl : lv_has ls 11 [(0, .ref x0), (1, .int s_), (2, .int q_), (3, .int i), (4, .int j), (5, .int n)] := hl
  refine zw_begin hP hD (fun H locs hP1 hS => ?_)
  clear hP
  have hP := hP1
  clear hP1
  refine lv_aload_n hx hb dX7_copy_0 rfl (lv_at hl 0 rfl) ?_
  refine lv_iload_n hx hb dX7_copy_1 rfl (lv_at hl 1 rfl) ?_
  refine zc_Vq (As := [.int s_]) (rest := []) ⟨hx, hb, hml, hown, hts⟩ (c_X_shelfAt l D cI cJ cZ cP cS po x0 xs j0 k0 w0 rd mv xr (im) (lf) ((fun _ => 0)) fh (s_) hy0 hy1 hy2 hy3) (cwV 1 hts gX7_copy_X7_shelfAt rfl rfl rfl ⟨rfl, dh_X7_shelfAt⟩ ⟨Nat.le_of_ble_eq_true rfl, Nat.le_of_ble_eq_true rfl⟩) hK hN (hZ.kept hS) hP (hP.sub [0, 2] rfl) (va_recv (q := (RX7, TX7, 9)) hK hP (ci := 7) (q0 := 0) rfl rfl) rfl hl.1 rfl (Nat.le_of_ble_eq_true rfl) dX7_copy_2 ⟨Nat.le_of_ble_eq_true rfl, Nat.le_of_ble_eq_true rfl⟩ (fun r_1 hr_1 => ?_)
  rcases hr_1 with ⟨rfl, g_2⟩ | ⟨rfl, g_3, g_4⟩ | ⟨rfl, g_5, g_6⟩
  · refine lv_astoreN (lv' := [(6, .null), (0, .ref x0), (1, .int s_), (2, .int q_), (3, .int i), (4, .int j), (5, .int n)]) hx hb dX7_copy_5 hl (by decide) rfl (fun ls hl => ?_)
    refine lv_aload_n hx hb dX7_copy_7 rfl (lv_at hl 1 rfl) ?_
    refine lv_iload_n hx hb dX7_copy_8 rfl (lv_at hl 3 rfl) ?_
    refine zc_Vq (As := [.int q_]) (rest := []) ⟨hx, hb, hml, hown, hts⟩ (c_X_shelfAt l D cI cJ cZ cP cS po x0 xs j0 k0 w0 rd mv xr (im) (lf) ((fun _ => 0)) fh (q_) hy0 hy1 hy2 hy3) (cwV 1 hts gX7_copy_X7_shelfAt rfl rfl rfl ⟨rfl, dh_X7_shelfAt⟩ ⟨Nat.le_of_ble_eq_true rfl, Nat.le_of_ble_eq_true rfl⟩) hK hN (hZ.kept hS) hP (hP.sub [0, 2] rfl) (va_recv (q := (RX7, TX7, 9)) hK hP (ci := 7) (q0 := 0) rfl rfl) rfl hl.1 rfl (Nat.le_of_ble_eq_true rfl) dX7_copy_9 ⟨Nat.le_of_ble_eq_true rfl, Nat.le_of_ble_eq_true rfl⟩ (fun r_7 hr_7 => ?_)
    rcases hr_7 with ⟨rfl, g_8⟩ | ⟨rfl, g_9, g_10⟩ | ⟨rfl, g_11, g_12⟩
    · refine lv_astoreN (lv' := [(7, .null), (6, .null), (0, .ref x0), (1, .int s_), (2, .int q_), (3, .int i), (4, .int j), (5, .int n)]) hx hb dX7_copy_12 hl (by decide) rfl (fun ls hl => ?_)
      refine lv_aloadN hx hb dX7_copy_14 (lv_at hl 1 rfl) ?_
      refine lv_ifnullN (tgt := 24) hx hb dX7_copy_16 (by decide) ?_
      refine lv_aload_n hx hb dX7_copy_24 rfl (lv_at hl 2 rfl) ?_
      refine lv_iconst (v := 1) hx hb dX7_copy_25 (by decide) ?_
      skip
      refine zw_V (As := [.int 1]) (rest := []) (wr := [(xs, .inl (cS, 8, .inr (.inr (.inr (.inr fh))))), (h0, .inr (4, [.ref e0, .int he, .int si])), (e0, .inl (cJ, 160, .inr (.inl fe))), (g0, .inr (4, [.ref e1, .int ge, .int gs])), (e1, .inl (cJ, 160, .inr (.inl fe1)))]) ⟨hx, hb, hml, hown, hts⟩ (c_X_refuse_1 l D cI cJ cZ cP cS po x0 xs j0 k0 w0 rd mv xr (im) (lf) fr hy0 hy1 hy2 hy3 H.size) (cwV 1 hts gX7_copy_X7_refuse rfl rfl rfl ⟨rfl, dh_X7_refuse⟩ ⟨Nat.le_of_ble_eq_true rfl, Nat.le_of_ble_eq_true rfl⟩) hK hN (hZ.kept hS) hP hD hS hA [0, 1] [2, 3, 4, 5, 6] rfl rfl (by decide) (by decide) (by decide) (va_recv (q := (RX7, TX7, 9)) hK hP (ci := 7) (q0 := 0) rfl rfl) rfl hl.1 rfl (Nat.le_of_ble_eq_true rfl) dX7_copy_26 ⟨Nat.le_of_ble_eq_true rfl, Nat.le_of_ble_eq_true rfl⟩ (fun r_13 u_14 H locs hr_13 hP hD hS => ?_)
      obtain ⟨q_15, rfl⟩ : ∃ z, z = u_14 := ⟨_, rfl⟩
      have h9R := zRe (ws' := [(xs, .inl (cS, 8, .inr (.inr (.inr (.inr fh))))), (h0, .inr (4, [.ref e0, .int he, .int si])), (e0, .inl (cJ, 160, .inr (.inl fe))), (g0, .inr (4, [.ref e1, .int ge, .int gs])), (e1, .inl (cJ, 160, .inr (.inl fe1))), (x0, .inr (7, [.ref xs, .ref j0, .ref k0, .ref w0, .ref rd, .ref mv, .ref xr, .int im, .int lf])), (xr, .inl (cI, 8, .inl q_15))]) hP hD rfl
      clear hP hD
      obtain ⟨hP, hD⟩ := h9R
      obtain rfl := hr_13
      exact W.iret (v := (-1)) hx hb hr (fun t ht hW => ⟨⟨(-1), (fe1, q_15), rfl, ⟨(show ((-1) : Int32).toInt = zCopR s_.toInt q_.toInt he.toInt ge.toInt si.toInt gs.toInt i.toInt j.toInt n.toInt from by (have k9 : ((-1) : Int32).toInt = -1 := (by decide); unfold zCopR; (repeat (first | rw [if_pos (by omega)] | rw [if_neg (by omega)])) <;> omega)), (show (((-1) : Int32).toInt = 1 → fe1 = va_cpy fe fe1 i.toNatClampNeg j.toNatClampNeg n.toNatClampNeg) from by (have k9 : ((-1) : Int32).toInt = -1 := (by decide); intro h; exfalso; omega)), (show (((-1) : Int32).toInt ≠ 1 → fe1 = fe1) from by (have k9 : ((-1) : Int32).toInt = -1 := (by decide); intro h; exact rfl)), trivial⟩, zRet ht hP hD [5, 6, 0, 1, 2, 3, 4] (by decide) rfl⟩, hS.F ht⟩) hS.2.2 dX7_copy_29
    · refine lv_astoreN (lv' := [(7, .null), (6, .null), (0, .ref x0), (1, .int s_), (2, .int q_), (3, .int i), (4, .int j), (5, .int n)]) hx hb dX7_copy_12 hl (by decide) rfl (fun ls hl => ?_)
      refine lv_aloadN hx hb dX7_copy_14 (lv_at hl 1 rfl) ?_
      refine lv_ifnullN (tgt := 24) hx hb dX7_copy_16 (by decide) ?_
      refine lv_aload_n hx hb dX7_copy_24 rfl (lv_at hl 2 rfl) ?_
      refine lv_iconst (v := 1) hx hb dX7_copy_25 (by decide) ?_
      skip
      refine zw_V (As := [.int 1]) (rest := []) (wr := [(xs, .inl (cS, 8, .inr (.inr (.inr (.inr fh))))), (h0, .inr (4, [.ref e0, .int he, .int si])), (e0, .inl (cJ, 160, .inr (.inl fe))), (g0, .inr (4, [.ref e1, .int ge, .int gs])), (e1, .inl (cJ, 160, .inr (.inl fe1)))]) ⟨hx, hb, hml, hown, hts⟩ (c_X_refuse_1 l D cI cJ cZ cP cS po x0 xs j0 k0 w0 rd mv xr (im) (lf) fr hy0 hy1 hy2 hy3 H.size) (cwV 1 hts gX7_copy_X7_refuse rfl rfl rfl ⟨rfl, dh_X7_refuse⟩ ⟨Nat.le_of_ble_eq_true rfl, Nat.le_of_ble_eq_true rfl⟩) hK hN (hZ.kept hS) hP hD hS hA [0, 1] [2, 3, 4, 5, 6] rfl rfl (by decide) (by decide) (by decide) (va_recv (q := (RX7, TX7, 9)) hK hP (ci := 7) (q0 := 0) rfl rfl) rfl hl.1 rfl (Nat.le_of_ble_eq_true rfl) dX7_copy_26 ⟨Nat.le_of_ble_eq_true rfl, Nat.le_of_ble_eq_true rfl⟩ (fun r_16 u_17 H locs hr_16 hP hD hS => ?_)
      obtain ⟨q_18, rfl⟩ : ∃ z, z = u_17 := ⟨_, rfl⟩
      have h9R := zRe (ws' := [(xs, .inl (cS, 8, .inr (.inr (.inr (.inr fh))))), (h0, .inr (4, [.ref e0, .int he, .int si])), (e0, .inl (cJ, 160, .inr (.inl fe))), (g0, .inr (4, [.ref e1, .int ge, .int gs])), (e1, .inl (cJ, 160, .inr (.inl fe1))), (x0, .inr (7, [.ref xs, .ref j0, .ref k0, .ref w0, .ref rd, .ref mv, .ref xr, .int im, .int lf])), (xr, .inl (cI, 8, .inl q_18))]) hP hD rfl
      clear hP hD
      obtain ⟨hP, hD⟩ := h9R
      obtain rfl := hr_16
      exact W.iret (v := (-1)) hx hb hr (fun t ht hW => ⟨⟨(-1), (fe1, q_18), rfl, ⟨(show ((-1) : Int32).toInt = zCopR s_.toInt q_.toInt he.toInt ge.toInt si.toInt gs.toInt i.toInt j.toInt n.toInt from by (have k9 : ((-1) : Int32).toInt = -1 := (by decide); unfold zCopR; (repeat (first | rw [if_pos (by omega)] | rw [if_neg (by omega)])) <;> omega)), (show (((-1) : Int32).toInt = 1 → fe1 = va_cpy fe fe1 i.toNatClampNeg j.toNatClampNeg n.toNatClampNeg) from by (have k9 : ((-1) : Int32).toInt = -1 := (by decide); intro h; exfalso; omega)), (show (((-1) : Int32).toInt ≠ 1 → fe1 = fe1) from by (have k9 : ((-1) : Int32).toInt = -1 := (by decide); intro h; exact rfl)), trivial⟩, zRet ht hP hD [5, 6, 0, 1, 2, 3, 4] (by decide) rfl⟩, hS.F ht⟩) hS.2.2 dX7_copy_29
    · rw [hfq (by omega) (by omega)]
      refine W.eq (g2 := F0 m 12 ls (.ref g0 :: [])) rfl ?_
      refine lv_astore (lv' := [(7, .ref g0), (6, .null), (0, .ref x0), (1, .int s_), (2, .int q_), (3, .int i), (4, .int j), (5, .int n)]) hx hb dX7_copy_12 hl (by decide) rfl (fun ls hl => ?_)
      refine lv_aloadN hx hb dX7_copy_14 (lv_at hl 1 rfl) ?_
      refine lv_ifnullN (tgt := 24) hx hb dX7_copy_16 (by decide) ?_
      refine lv_aload_n hx hb dX7_copy_24 rfl (lv_at hl 2 rfl) ?_
      refine lv_iconst (v := 1) hx hb dX7_copy_25 (by decide) ?_
      skip
      refine zw_V (As := [.int 1]) (rest := []) (wr := [(xs, .inl (cS, 8, .inr (.inr (.inr (.inr fh))))), (h0, .inr (4, [.ref e0, .int he, .int si])), (e0, .inl (cJ, 160, .inr (.inl fe))), (g0, .inr (4, [.ref e1, .int ge, .int gs])), (e1, .inl (cJ, 160, .inr (.inl fe1)))]) ⟨hx, hb, hml, hown, hts⟩ (c_X_refuse_1 l D cI cJ cZ cP cS po x0 xs j0 k0 w0 rd mv xr (im) (lf) fr hy0 hy1 hy2 hy3 H.size) (cwV 1 hts gX7_copy_X7_refuse rfl rfl rfl ⟨rfl, dh_X7_refuse⟩ ⟨Nat.le_of_ble_eq_true rfl, Nat.le_of_ble_eq_true rfl⟩) hK hN (hZ.kept hS) hP hD hS hA [0, 1] [2, 3, 4, 5, 6] rfl rfl (by decide) (by decide) (by decide) (va_recv (q := (RX7, TX7, 9)) hK hP (ci := 7) (q0 := 0) rfl rfl) rfl hl.1 rfl (Nat.le_of_ble_eq_true rfl) dX7_copy_26 ⟨Nat.le_of_ble_eq_true rfl, Nat.le_of_ble_eq_true rfl⟩ (fun r_19 u_20 H locs hr_19 hP hD hS => ?_)
      obtain ⟨q_21, rfl⟩ : ∃ z, z = u_20 := ⟨_, rfl⟩
      have h9R := zRe (ws' := [(xs, .inl (cS, 8, .inr (.inr (.inr (.inr fh))))), (h0, .inr (4, [.ref e0, .int he, .int si])), (e0, .inl (cJ, 160, .inr (.inl fe))), (g0, .inr (4, [.ref e1, .int ge, .int gs])), (e1, .inl (cJ, 160, .inr (.inl fe1))), (x0, .inr (7, [.ref xs, .ref j0, .ref k0, .ref w0, .ref rd, .ref mv, .ref xr, .int im, .int lf])), (xr, .inl (cI, 8, .inl q_21))]) hP hD rfl
      clear hP hD
      obtain ⟨hP, hD⟩ := h9R
      obtain rfl := hr_19
      exact W.iret (v := (-1)) hx hb hr (fun t ht hW => ⟨⟨(-1), (fe1, q_21), rfl, ⟨(show ((-1) : Int32).toInt = zCopR s_.toInt q_.toInt he.toInt ge.toInt si.toInt gs.toInt i.toInt j.toInt n.toInt from by (have k9 : ((-1) : Int32).toInt = -1 := (by decide); unfold zCopR; (repeat (first | rw [if_pos (by omega)] | rw [if_neg (by omega)])) <;> omega)), (show (((-1) : Int32).toInt = 1 → fe1 = va_cpy fe fe1 i.toNatClampNeg j.toNatClampNeg n.toNatClampNeg) from by (have k9 : ((-1) : Int32).toInt = -1 := (by decide); intro h; exfalso; omega)), (show (((-1) : Int32).toInt ≠ 1 → fe1 = fe1) from by (have k9 : ((-1) : Int32).toInt = -1 := (by decide); intro h; exact rfl)), trivial⟩, zRet ht hP hD [5, 6, 0, 1, 2, 3, 4] (by decide) rfl⟩, hS.F ht⟩) hS.2.2 dX7_copy_29
  · refine lv_astoreN (lv' := [(6, .null), (0, .ref x0), (1, .int s_), (2, .int q_), (3, .int i), (4, .int j), (5, .int n)]) hx hb dX7_copy_5 hl (by decide) rfl (fun ls hl => ?_)
    refine lv_aload_n hx hb dX7_copy_7 rfl (lv_at hl 1 rfl) ?_
    refine lv_iload_n hx hb dX7_copy_8 rfl (lv_at hl 3 rfl) ?_
    refine zc_Vq (As := [.int q_]) (rest := []) ⟨hx, hb, hml, hown, hts⟩ (c_X_shelfAt l D cI cJ cZ cP cS po x0 xs j0 k0 w0 rd mv xr (im) (lf) ((fun _ => 0)) fh (q_) hy0 hy1 hy2 hy3) (cwV 1 hts gX7_copy_X7_shelfAt rfl rfl rfl ⟨rfl, dh_X7_shelfAt⟩ ⟨Nat.le_of_ble_eq_true rfl, Nat.le_of_ble_eq_true rfl⟩) hK hN (hZ.kept hS) hP (hP.sub [0, 2] rfl) (va_recv (q := (RX7, TX7, 9)) hK hP (ci := 7) (q0 := 0) rfl rfl) rfl hl.1 rfl (Nat.le_of_ble_eq_true rfl) dX7_copy_9 ⟨Nat.le_of_ble_eq_true rfl, Nat.le_of_ble_eq_true rfl⟩ (fun r_22 hr_22 => ?_)
    rcases hr_22 with ⟨rfl, g_23⟩ | ⟨rfl, g_24, g_25⟩ | ⟨rfl, g_26, g_27⟩
    · refine lv_astoreN (lv' := [(7, .null), (6, .null), (0, .ref x0), (1, .int s_), (2, .int q_), (3, .int i), (4, .int j), (5, .int n)]) hx hb dX7_copy_12 hl (by decide) rfl (fun ls hl => ?_)
      refine lv_aloadN hx hb dX7_copy_14 (lv_at hl 1 rfl) ?_
      refine lv_ifnullN (tgt := 24) hx hb dX7_copy_16 (by decide) ?_
      refine lv_aload_n hx hb dX7_copy_24 rfl (lv_at hl 2 rfl) ?_
      refine lv_iconst (v := 1) hx hb dX7_copy_25 (by decide) ?_
      skip
      refine zw_V (As := [.int 1]) (rest := []) (wr := [(xs, .inl (cS, 8, .inr (.inr (.inr (.inr fh))))), (h0, .inr (4, [.ref e0, .int he, .int si])), (e0, .inl (cJ, 160, .inr (.inl fe))), (g0, .inr (4, [.ref e1, .int ge, .int gs])), (e1, .inl (cJ, 160, .inr (.inl fe1)))]) ⟨hx, hb, hml, hown, hts⟩ (c_X_refuse_1 l D cI cJ cZ cP cS po x0 xs j0 k0 w0 rd mv xr (im) (lf) fr hy0 hy1 hy2 hy3 H.size) (cwV 1 hts gX7_copy_X7_refuse rfl rfl rfl ⟨rfl, dh_X7_refuse⟩ ⟨Nat.le_of_ble_eq_true rfl, Nat.le_of_ble_eq_true rfl⟩) hK hN (hZ.kept hS) hP hD hS hA [0, 1] [2, 3, 4, 5, 6] rfl rfl (by decide) (by decide) (by decide) (va_recv (q := (RX7, TX7, 9)) hK hP (ci := 7) (q0 := 0) rfl rfl) rfl hl.1 rfl (Nat.le_of_ble_eq_true rfl) dX7_copy_26 ⟨Nat.le_of_ble_eq_true rfl, Nat.le_of_ble_eq_true rfl⟩ (fun r_28 u_29 H locs hr_28 hP hD hS => ?_)
      obtain ⟨q_30, rfl⟩ : ∃ z, z = u_29 := ⟨_, rfl⟩
      have h9R := zRe (ws' := [(xs, .inl (cS, 8, .inr (.inr (.inr (.inr fh))))), (h0, .inr (4, [.ref e0, .int he, .int si])), (e0, .inl (cJ, 160, .inr (.inl fe))), (g0, .inr (4, [.ref e1, .int ge, .int gs])), (e1, .inl (cJ, 160, .inr (.inl fe1))), (x0, .inr (7, [.ref xs, .ref j0, .ref k0, .ref w0, .ref rd, .ref mv, .ref xr, .int im, .int lf])), (xr, .inl (cI, 8, .inl q_30))]) hP hD rfl
      clear hP hD
      obtain ⟨hP, hD⟩ := h9R
      obtain rfl := hr_28
      exact W.iret (v := (-1)) hx hb hr (fun t ht hW => ⟨⟨(-1), (fe1, q_30), rfl, ⟨(show ((-1) : Int32).toInt = zCopR s_.toInt q_.toInt he.toInt ge.toInt si.toInt gs.toInt i.toInt j.toInt n.toInt from by (have k9 : ((-1) : Int32).toInt = -1 := (by decide); unfold zCopR; (repeat (first | rw [if_pos (by omega)] | rw [if_neg (by omega)])) <;> omega)), (show (((-1) : Int32).toInt = 1 → fe1 = va_cpy fe fe1 i.toNatClampNeg j.toNatClampNeg n.toNatClampNeg) from by (have k9 : ((-1) : Int32).toInt = -1 := (by decide); intro h; exfalso; omega)), (show (((-1) : Int32).toInt ≠ 1 → fe1 = fe1) from by (have k9 : ((-1) : Int32).toInt = -1 := (by decide); intro h; exact rfl)), trivial⟩, zRet ht hP hD [5, 6, 0, 1, 2, 3, 4] (by decide) rfl⟩, hS.F ht⟩) hS.2.2 dX7_copy_29
    · refine lv_astoreN (lv' := [(7, .null), (6, .null), (0, .ref x0), (1, .int s_), (2, .int q_), (3, .int i), (4, .int j), (5, .int n)]) hx hb dX7_copy_12 hl (by decide) rfl (fun ls hl => ?_)
      refine lv_aloadN hx hb dX7_copy_14 (lv_at hl 1 rfl) ?_
      refine lv_ifnullN (tgt := 24) hx hb dX7_copy_16 (by decide) ?_
      refine lv_aload_n hx hb dX7_copy_24 rfl (lv_at hl 2 rfl) ?_
      refine lv_iconst (v := 1) hx hb dX7_copy_25 (by decide) ?_
      skip
      refine zw_V (As := [.int 1]) (rest := []) (wr := [(xs, .inl (cS, 8, .inr (.inr (.inr (.inr fh))))), (h0, .inr (4, [.ref e0, .int he, .int si])), (e0, .inl (cJ, 160, .inr (.inl fe))), (g0, .inr (4, [.ref e1, .int ge, .int gs])), (e1, .inl (cJ, 160, .inr (.inl fe1)))]) ⟨hx, hb, hml, hown, hts⟩ (c_X_refuse_1 l D cI cJ cZ cP cS po x0 xs j0 k0 w0 rd mv xr (im) (lf) fr hy0 hy1 hy2 hy3 H.size) (cwV 1 hts gX7_copy_X7_refuse rfl rfl rfl ⟨rfl, dh_X7_refuse⟩ ⟨Nat.le_of_ble_eq_true rfl, Nat.le_of_ble_eq_true rfl⟩) hK hN (hZ.kept hS) hP hD hS hA [0, 1] [2, 3, 4, 5, 6] rfl rfl (by decide) (by decide) (by decide) (va_recv (q := (RX7, TX7, 9)) hK hP (ci := 7) (q0 := 0) rfl rfl) rfl hl.1 rfl (Nat.le_of_ble_eq_true rfl) dX7_copy_26 ⟨Nat.le_of_ble_eq_true rfl, Nat.le_of_ble_eq_true rfl⟩ (fun r_31 u_32 H locs hr_31 hP hD hS => ?_)
      obtain ⟨q_33, rfl⟩ : ∃ z, z = u_32 := ⟨_, rfl⟩
      have h9R := zRe (ws' := [(xs, .inl (cS, 8, .inr (.inr (.inr (.inr fh))))), (h0, .inr (4, [.ref e0, .int he, .int si])), (e0, .inl (cJ, 160, .inr (.inl fe))), (g0, .inr (4, [.ref e1, .int ge, .int gs])), (e1, .inl (cJ, 160, .inr (.inl fe1))), (x0, .inr (7, [.ref xs, .ref j0, .ref k0, .ref w0, .ref rd, .ref mv, .ref xr, .int im, .int lf])), (xr, .inl (cI, 8, .inl q_33))]) hP hD rfl
      clear hP hD
      obtain ⟨hP, hD⟩ := h9R
      obtain rfl := hr_31
      exact W.iret (v := (-1)) hx hb hr (fun t ht hW => ⟨⟨(-1), (fe1, q_33), rfl, ⟨(show ((-1) : Int32).toInt = zCopR s_.toInt q_.toInt he.toInt ge.toInt si.toInt gs.toInt i.toInt j.toInt n.toInt from by (have k9 : ((-1) : Int32).toInt = -1 := (by decide); unfold zCopR; (repeat (first | rw [if_pos (by omega)] | rw [if_neg (by omega)])) <;> omega)), (show (((-1) : Int32).toInt = 1 → fe1 = va_cpy fe fe1 i.toNatClampNeg j.toNatClampNeg n.toNatClampNeg) from by (have k9 : ((-1) : Int32).toInt = -1 := (by decide); intro h; exfalso; omega)), (show (((-1) : Int32).toInt ≠ 1 → fe1 = fe1) from by (have k9 : ((-1) : Int32).toInt = -1 := (by decide); intro h; exact rfl)), trivial⟩, zRet ht hP hD [5, 6, 0, 1, 2, 3, 4] (by decide) rfl⟩, hS.F ht⟩) hS.2.2 dX7_copy_29
    · rw [hfq (by omega) (by omega)]
      refine W.eq (g2 := F0 m 12 ls (.ref g0 :: [])) rfl ?_
      refine lv_astore (lv' := [(7, .ref g0), (6, .null), (0, .ref x0), (1, .int s_), (2, .int q_), (3, .int i), (4, .int j), (5, .int n)]) hx hb dX7_copy_12 hl (by decide) rfl (fun ls hl => ?_)
      refine lv_aloadN hx hb dX7_copy_14 (lv_at hl 1 rfl) ?_
      refine lv_ifnullN (tgt := 24) hx hb dX7_copy_16 (by decide) ?_
      refine lv_aload_n hx hb dX7_copy_24 rfl (lv_at hl 2 rfl) ?_
      refine lv_iconst (v := 1) hx hb dX7_copy_25 (by decide) ?_
      skip
      refine zw_V (As := [.int 1]) (rest := []) (wr := [(xs, .inl (cS, 8, .inr (.inr (.inr (.inr fh))))), (h0, .inr (4, [.ref e0, .int he, .int si])), (e0, .inl (cJ, 160, .inr (.inl fe))), (g0, .inr (4, [.ref e1, .int ge, .int gs])), (e1, .inl (cJ, 160, .inr (.inl fe1)))]) ⟨hx, hb, hml, hown, hts⟩ (c_X_refuse_1 l D cI cJ cZ cP cS po x0 xs j0 k0 w0 rd mv xr (im) (lf) fr hy0 hy1 hy2 hy3 H.size) (cwV 1 hts gX7_copy_X7_refuse rfl rfl rfl ⟨rfl, dh_X7_refuse⟩ ⟨Nat.le_of_ble_eq_true rfl, Nat.le_of_ble_eq_true rfl⟩) hK hN (hZ.kept hS) hP hD hS hA [0, 1] [2, 3, 4, 5, 6] rfl rfl (by decide) (by decide) (by decide) (va_recv (q := (RX7, TX7, 9)) hK hP (ci := 7) (q0 := 0) rfl rfl) rfl hl.1 rfl (Nat.le_of_ble_eq_true rfl) dX7_copy_26 ⟨Nat.le_of_ble_eq_true rfl, Nat.le_of_ble_eq_true rfl⟩ (fun r_34 u_35 H locs hr_34 hP hD hS => ?_)
      obtain ⟨q_36, rfl⟩ : ∃ z, z = u_35 := ⟨_, rfl⟩
      have h9R := zRe (ws' := [(xs, .inl (cS, 8, .inr (.inr (.inr (.inr fh))))), (h0, .inr (4, [.ref e0, .int he, .int si])), (e0, .inl (cJ, 160, .inr (.inl fe))), (g0, .inr (4, [.ref e1, .int ge, .int gs])), (e1, .inl (cJ, 160, .inr (.inl fe1))), (x0, .inr (7, [.ref xs, .ref j0, .ref k0, .ref w0, .ref rd, .ref mv, .ref xr, .int im, .int lf])), (xr, .inl (cI, 8, .inl q_36))]) hP hD rfl
      clear hP hD
      obtain ⟨hP, hD⟩ := h9R
      obtain rfl := hr_34
      exact W.iret (v := (-1)) hx hb hr (fun t ht hW => ⟨⟨(-1), (fe1, q_36), rfl, ⟨(show ((-1) : Int32).toInt = zCopR s_.toInt q_.toInt he.toInt ge.toInt si.toInt gs.toInt i.toInt j.toInt n.toInt from by (have k9 : ((-1) : Int32).toInt = -1 := (by decide); unfold zCopR; (repeat (first | rw [if_pos (by omega)] | rw [if_neg (by omega)])) <;> omega)), (show (((-1) : Int32).toInt = 1 → fe1 = va_cpy fe fe1 i.toNatClampNeg j.toNatClampNeg n.toNatClampNeg) from by (have k9 : ((-1) : Int32).toInt = -1 := (by decide); intro h; exfalso; omega)), (show (((-1) : Int32).toInt ≠ 1 → fe1 = fe1) from by (have k9 : ((-1) : Int32).toInt = -1 := (by decide); intro h; exact rfl)), trivial⟩, zRet ht hP hD [5, 6, 0, 1, 2, 3, 4] (by decide) rfl⟩, hS.F ht⟩) hS.2.2 dX7_copy_29
  · rw [hfs (by omega) (by omega)]
    refine W.eq (g2 := F0 m 5 ls (.ref h0 :: [])) rfl ?_
    refine lv_astore (lv' := [(6, .ref h0), (0, .ref x0), (1, .int s_), (2, .int q_), (3, .int i), (4, .int j), (5, .int n)]) hx hb dX7_copy_5 hl (by decide) rfl (fun ls hl => ?_)
    refine lv_aload_n hx hb dX7_copy_7 rfl (lv_at hl 1 rfl) ?_
    refine lv_iload_n hx hb dX7_copy_8 rfl (lv_at hl 3 rfl) ?_
    refine zc_Vq (As := [.int q_]) (rest := []) ⟨hx, hb, hml, hown, hts⟩ (c_X_shelfAt l D cI cJ cZ cP cS po x0 xs j0 k0 w0 rd mv xr (im) (lf) ((fun _ => 0)) fh (q_) hy0 hy1 hy2 hy3) (cwV 1 hts gX7_copy_X7_shelfAt rfl rfl rfl ⟨rfl, dh_X7_shelfAt⟩ ⟨Nat.le_of_ble_eq_true rfl, Nat.le_of_ble_eq_true rfl⟩) hK hN (hZ.kept hS) hP (hP.sub [0, 2] rfl) (va_recv (q := (RX7, TX7, 9)) hK hP (ci := 7) (q0 := 0) rfl rfl) rfl hl.1 rfl (Nat.le_of_ble_eq_true rfl) dX7_copy_9 ⟨Nat.le_of_ble_eq_true rfl, Nat.le_of_ble_eq_true rfl⟩ (fun r_37 hr_37 => ?_)
    rcases hr_37 with ⟨rfl, g_38⟩ | ⟨rfl, g_39, g_40⟩ | ⟨rfl, g_41, g_42⟩
    · refine lv_astoreN (lv' := [(7, .null), (6, .ref h0), (0, .ref x0), (1, .int s_), (2, .int q_), (3, .int i), (4, .int j), (5, .int n)]) hx hb dX7_copy_12 hl (by decide) rfl (fun ls hl => ?_)
      refine lv_aload hx hb dX7_copy_14 (lv_at hl 1 rfl) ?_
      refine lv_ifnull hx hb dX7_copy_16 ?_
      refine lv_aloadN hx hb dX7_copy_19 (lv_at hl 0 rfl) ?_
      refine lv_ifnonnullN hx hb dX7_copy_21 ?_
      refine lv_aload_n hx hb dX7_copy_24 rfl (lv_at hl 2 rfl) ?_
      refine lv_iconst (v := 1) hx hb dX7_copy_25 (by decide) ?_
      skip
      refine zw_V (As := [.int 1]) (rest := []) (wr := [(xs, .inl (cS, 8, .inr (.inr (.inr (.inr fh))))), (h0, .inr (4, [.ref e0, .int he, .int si])), (e0, .inl (cJ, 160, .inr (.inl fe))), (g0, .inr (4, [.ref e1, .int ge, .int gs])), (e1, .inl (cJ, 160, .inr (.inl fe1)))]) ⟨hx, hb, hml, hown, hts⟩ (c_X_refuse_1 l D cI cJ cZ cP cS po x0 xs j0 k0 w0 rd mv xr (im) (lf) fr hy0 hy1 hy2 hy3 H.size) (cwV 1 hts gX7_copy_X7_refuse rfl rfl rfl ⟨rfl, dh_X7_refuse⟩ ⟨Nat.le_of_ble_eq_true rfl, Nat.le_of_ble_eq_true rfl⟩) hK hN (hZ.kept hS) hP hD hS hA [0, 1] [2, 3, 4, 5, 6] rfl rfl (by decide) (by decide) (by decide) (va_recv (q := (RX7, TX7, 9)) hK hP (ci := 7) (q0 := 0) rfl rfl) rfl hl.1 rfl (Nat.le_of_ble_eq_true rfl) dX7_copy_26 ⟨Nat.le_of_ble_eq_true rfl, Nat.le_of_ble_eq_true rfl⟩ (fun r_43 u_44 H locs hr_43 hP hD hS => ?_)
      obtain ⟨q_45, rfl⟩ : ∃ z, z = u_44 := ⟨_, rfl⟩
      have h9R := zRe (ws' := [(xs, .inl (cS, 8, .inr (.inr (.inr (.inr fh))))), (h0, .inr (4, [.ref e0, .int he, .int si])), (e0, .inl (cJ, 160, .inr (.inl fe))), (g0, .inr (4, [.ref e1, .int ge, .int gs])), (e1, .inl (cJ, 160, .inr (.inl fe1))), (x0, .inr (7, [.ref xs, .ref j0, .ref k0, .ref w0, .ref rd, .ref mv, .ref xr, .int im, .int lf])), (xr, .inl (cI, 8, .inl q_45))]) hP hD rfl
      clear hP hD
      obtain ⟨hP, hD⟩ := h9R
      obtain rfl := hr_43
      exact W.iret (v := (-1)) hx hb hr (fun t ht hW => ⟨⟨(-1), (fe1, q_45), rfl, ⟨(show ((-1) : Int32).toInt = zCopR s_.toInt q_.toInt he.toInt ge.toInt si.toInt gs.toInt i.toInt j.toInt n.toInt from by (have k9 : ((-1) : Int32).toInt = -1 := (by decide); unfold zCopR; (repeat (first | rw [if_pos (by omega)] | rw [if_neg (by omega)])) <;> omega)), (show (((-1) : Int32).toInt = 1 → fe1 = va_cpy fe fe1 i.toNatClampNeg j.toNatClampNeg n.toNatClampNeg) from by (have k9 : ((-1) : Int32).toInt = -1 := (by decide); intro h; exfalso; omega)), (show (((-1) : Int32).toInt ≠ 1 → fe1 = fe1) from by (have k9 : ((-1) : Int32).toInt = -1 := (by decide); intro h; exact rfl)), trivial⟩, zRet ht hP hD [5, 6, 0, 1, 2, 3, 4] (by decide) rfl⟩, hS.F ht⟩) hS.2.2 dX7_copy_29
    · refine lv_astoreN (lv' := [(7, .null), (6, .ref h0), (0, .ref x0), (1, .int s_), (2, .int q_), (3, .int i), (4, .int j), (5, .int n)]) hx hb dX7_copy_12 hl (by decide) rfl (fun ls hl => ?_)
      refine lv_aload hx hb dX7_copy_14 (lv_at hl 1 rfl) ?_
      refine lv_ifnull hx hb dX7_copy_16 ?_
      refine lv_aloadN hx hb dX7_copy_19 (lv_at hl 0 rfl) ?_
      refine lv_ifnonnullN hx hb dX7_copy_21 ?_
      refine lv_aload_n hx hb dX7_copy_24 rfl (lv_at hl 2 rfl) ?_
      refine lv_iconst (v := 1) hx hb dX7_copy_25 (by decide) ?_
      skip
      refine zw_V (As := [.int 1]) (rest := []) (wr := [(xs, .inl (cS, 8, .inr (.inr (.inr (.inr fh))))), (h0, .inr (4, [.ref e0, .int he, .int si])), (e0, .inl (cJ, 160, .inr (.inl fe))), (g0, .inr (4, [.ref e1, .int ge, .int gs])), (e1, .inl (cJ, 160, .inr (.inl fe1)))]) ⟨hx, hb, hml, hown, hts⟩ (c_X_refuse_1 l D cI cJ cZ cP cS po x0 xs j0 k0 w0 rd mv xr (im) (lf) fr hy0 hy1 hy2 hy3 H.size) (cwV 1 hts gX7_copy_X7_refuse rfl rfl rfl ⟨rfl, dh_X7_refuse⟩ ⟨Nat.le_of_ble_eq_true rfl, Nat.le_of_ble_eq_true rfl⟩) hK hN (hZ.kept hS) hP hD hS hA [0, 1] [2, 3, 4, 5, 6] rfl rfl (by decide) (by decide) (by decide) (va_recv (q := (RX7, TX7, 9)) hK hP (ci := 7) (q0 := 0) rfl rfl) rfl hl.1 rfl (Nat.le_of_ble_eq_true rfl) dX7_copy_26 ⟨Nat.le_of_ble_eq_true rfl, Nat.le_of_ble_eq_true rfl⟩ (fun r_46 u_47 H locs hr_46 hP hD hS => ?_)
      obtain ⟨q_48, rfl⟩ : ∃ z, z = u_47 := ⟨_, rfl⟩
      have h9R := zRe (ws' := [(xs, .inl (cS, 8, .inr (.inr (.inr (.inr fh))))), (h0, .inr (4, [.ref e0, .int he, .int si])), (e0, .inl (cJ, 160, .inr (.inl fe))), (g0, .inr (4, [.ref e1, .int ge, .int gs])), (e1, .inl (cJ, 160, .inr (.inl fe1))), (x0, .inr (7, [.ref xs, .ref j0, .ref k0, .ref w0, .ref rd, .ref mv, .ref xr, .int im, .int lf])), (xr, .inl (cI, 8, .inl q_48))]) hP hD rfl
      clear hP hD
      obtain ⟨hP, hD⟩ := h9R
      obtain rfl := hr_46
      exact W.iret (v := (-1)) hx hb hr (fun t ht hW => ⟨⟨(-1), (fe1, q_48), rfl, ⟨(show ((-1) : Int32).toInt = zCopR s_.toInt q_.toInt he.toInt ge.toInt si.toInt gs.toInt i.toInt j.toInt n.toInt from by (have k9 : ((-1) : Int32).toInt = -1 := (by decide); unfold zCopR; (repeat (first | rw [if_pos (by omega)] | rw [if_neg (by omega)])) <;> omega)), (show (((-1) : Int32).toInt = 1 → fe1 = va_cpy fe fe1 i.toNatClampNeg j.toNatClampNeg n.toNatClampNeg) from by (have k9 : ((-1) : Int32).toInt = -1 := (by decide); intro h; exfalso; omega)), (show (((-1) : Int32).toInt ≠ 1 → fe1 = fe1) from by (have k9 : ((-1) : Int32).toInt = -1 := (by decide); intro h; exact rfl)), trivial⟩, zRet ht hP hD [5, 6, 0, 1, 2, 3, 4] (by decide) rfl⟩, hS.F ht⟩) hS.2.2 dX7_copy_29
    · rw [hfq (by omega) (by omega)]
      refine W.eq (g2 := F0 m 12 ls (.ref g0 :: [])) rfl ?_
      refine lv_astore (lv' := [(7, .ref g0), (6, .ref h0), (0, .ref x0), (1, .int s_), (2, .int q_), (3, .int i), (4, .int j), (5, .int n)]) hx hb dX7_copy_12 hl (by decide) rfl (fun ls hl => ?_)
      refine lv_aload hx hb dX7_copy_14 (lv_at hl 1 rfl) ?_
      refine lv_ifnull hx hb dX7_copy_16 ?_
      refine lv_aload hx hb dX7_copy_19 (lv_at hl 0 rfl) ?_
      refine lv_ifnonnull (tgt := 30) hx hb dX7_copy_21 (by decide) ?_
      refine lv_aload hx hb dX7_copy_30 (lv_at hl 1 rfl) ?_
      refine zc_V (As := []) (rest := []) ⟨hx, hb, hml, hown, hts⟩ (c_Sh_noRow l D cI cJ cZ cP cS po h0 e0 (he) (si) hy4 hy5 hy6 hy7) (cwV 0 hts gX7_copy_X4_noRow rfl rfl rfl ⟨rfl, dh_X4_noRow⟩ ⟨Nat.le_of_ble_eq_true rfl, Nat.le_of_ble_eq_true rfl⟩) hK hN (hZ.kept hS) hP (hP.sub [3] rfl) (va_recv (q := (RX4, TX4, 3)) hK hP (ci := 4) (q0 := 3) rfl rfl) rfl hl.1 rfl (Nat.le_of_ble_eq_true rfl) dX7_copy_32 ⟨Nat.le_of_ble_eq_true rfl, Nat.le_of_ble_eq_true rfl⟩ (fun r_49 hr_49 => ?_)
      rcases hr_49 with ⟨rfl, g_50, g_51⟩ | ⟨rfl, g_52, g_53⟩ | ⟨rfl, g_54⟩
      · refine lv_istore (lv' := [(8, .int 2), (7, .ref g0), (6, .ref h0), (0, .ref x0), (1, .int s_), (2, .int q_), (3, .int i), (4, .int j), (5, .int n)]) hx hb dX7_copy_35 hl (by decide) rfl (fun ls hl => ?_)
        refine lv_aload hx hb dX7_copy_37 (lv_at hl 1 rfl) ?_
        refine zc_V (As := []) (rest := []) ⟨hx, hb, hml, hown, hts⟩ (c_Sh_noRow l D cI cJ cZ cP cS po g0 e1 (ge) (gs) hy8 hy9 hy10 hy11) (cwV 0 hts gX7_copy_X4_noRow rfl rfl rfl ⟨rfl, dh_X4_noRow⟩ ⟨Nat.le_of_ble_eq_true rfl, Nat.le_of_ble_eq_true rfl⟩) hK hN (hZ.kept hS) hP (hP.sub [5] rfl) (va_recv (q := (RX4, TX4, 3)) hK hP (ci := 4) (q0 := 5) rfl rfl) rfl hl.1 rfl (Nat.le_of_ble_eq_true rfl) dX7_copy_39 ⟨Nat.le_of_ble_eq_true rfl, Nat.le_of_ble_eq_true rfl⟩ (fun r_55 hr_55 => ?_)
        rcases hr_55 with ⟨rfl, g_56, g_57⟩ | ⟨rfl, g_58, g_59⟩ | ⟨rfl, g_60⟩
        · refine lv_istore (lv' := [(9, .int 2), (8, .int 2), (7, .ref g0), (6, .ref h0), (0, .ref x0), (1, .int s_), (2, .int q_), (3, .int i), (4, .int j), (5, .int n)]) hx hb dX7_copy_42 hl (by decide) rfl (fun ls hl => ?_)
          refine lv_iload hx hb dX7_copy_44 (lv_at hl 1 rfl) ?_
          refine lv_if_ne (tgt := 71) hx hb dX7_copy_46 (by decide) (fun c_61 => ?_) (fun c_61 => ?_)
          · refine lv_iconst (v := 0) hx hb dX7_copy_71 (by decide) ?_
            refine lv_istore (lv' := [(10, .int 0), (9, .int 2), (8, .int 2), (7, .ref g0), (6, .ref h0), (0, .ref x0), (1, .int s_), (2, .int q_), (3, .int i), (4, .int j), (5, .int n)]) hx hb dX7_copy_72 hl (by decide) rfl (fun ls hl => ?_)
            refine lv_iload hx hb dX7_copy_74 (lv_at hl 2 rfl) ?_
            refine lv_iconst (v := 2) hx hb dX7_copy_76 (by decide) ?_
            refine lv_icmp_eq (tgt := 91) hx hb dX7_copy_77 (by decide) (fun c_62 => ?_) (fun c_62 => ?_)
            · refine lv_aload_n hx hb dX7_copy_91 rfl (lv_at hl 5 rfl) ?_
              refine lv_iconst (v := 2) hx hb dX7_copy_92 (by decide) ?_
              skip
              refine zw_V (As := [.int 2]) (rest := []) (wr := [(xs, .inl (cS, 8, .inr (.inr (.inr (.inr fh))))), (h0, .inr (4, [.ref e0, .int he, .int si])), (e0, .inl (cJ, 160, .inr (.inl fe))), (g0, .inr (4, [.ref e1, .int ge, .int gs])), (e1, .inl (cJ, 160, .inr (.inl fe1)))]) ⟨hx, hb, hml, hown, hts⟩ (c_X_refuse_2 l D cI cJ cZ cP cS po x0 xs j0 k0 w0 rd mv xr (im) (lf) fr hy0 hy1 hy2 hy3 H.size) (cwV 1 hts gX7_copy_X7_refuse rfl rfl rfl ⟨rfl, dh_X7_refuse⟩ ⟨Nat.le_of_ble_eq_true rfl, Nat.le_of_ble_eq_true rfl⟩) hK hN (hZ.kept hS) hP hD hS hA [0, 1] [2, 3, 4, 5, 6] rfl rfl (by decide) (by decide) (by decide) (va_recv (q := (RX7, TX7, 9)) hK hP (ci := 7) (q0 := 0) rfl rfl) rfl hl.1 rfl (Nat.le_of_ble_eq_true rfl) dX7_copy_93 ⟨Nat.le_of_ble_eq_true rfl, Nat.le_of_ble_eq_true rfl⟩ (fun r_63 u_64 H locs hr_63 hP hD hS => ?_)
              obtain ⟨q_65, rfl⟩ : ∃ z, z = u_64 := ⟨_, rfl⟩
              have h9R := zRe (ws' := [(xs, .inl (cS, 8, .inr (.inr (.inr (.inr fh))))), (h0, .inr (4, [.ref e0, .int he, .int si])), (e0, .inl (cJ, 160, .inr (.inl fe))), (g0, .inr (4, [.ref e1, .int ge, .int gs])), (e1, .inl (cJ, 160, .inr (.inl fe1))), (x0, .inr (7, [.ref xs, .ref j0, .ref k0, .ref w0, .ref rd, .ref mv, .ref xr, .int im, .int lf])), (xr, .inl (cI, 8, .inl q_65))]) hP hD rfl
              clear hP hD
              obtain ⟨hP, hD⟩ := h9R
              obtain rfl := hr_63
              exact W.iret (v := (-2)) hx hb hr (fun t ht hW => ⟨⟨(-2), (fe1, q_65), rfl, ⟨(show ((-2) : Int32).toInt = zCopR s_.toInt q_.toInt he.toInt ge.toInt si.toInt gs.toInt i.toInt j.toInt n.toInt from by (have k9 : ((-2) : Int32).toInt = -2 := (by decide); unfold zCopR; (repeat (first | rw [if_pos (by omega)] | rw [if_neg (by omega)])) <;> omega)), (show (((-2) : Int32).toInt = 1 → fe1 = va_cpy fe fe1 i.toNatClampNeg j.toNatClampNeg n.toNatClampNeg) from by (have k9 : ((-2) : Int32).toInt = -2 := (by decide); intro h; exfalso; omega)), (show (((-2) : Int32).toInt ≠ 1 → fe1 = fe1) from by (have k9 : ((-2) : Int32).toInt = -2 := (by decide); intro h; exact rfl)), trivial⟩, zRet ht hP hD [5, 6, 0, 1, 2, 3, 4] (by decide) rfl⟩, hS.F ht⟩) hS.2.2 dX7_copy_96
            · exact absurd c_62 (by decide)
          · exact absurd c_61 (by decide)
        · refine lv_istore (lv' := [(9, .int 3), (8, .int 2), (7, .ref g0), (6, .ref h0), (0, .ref x0), (1, .int s_), (2, .int q_), (3, .int i), (4, .int j), (5, .int n)]) hx hb dX7_copy_42 hl (by decide) rfl (fun ls hl => ?_)
          refine lv_iload hx hb dX7_copy_44 (lv_at hl 1 rfl) ?_
          refine lv_if_ne (tgt := 71) hx hb dX7_copy_46 (by decide) (fun c_66 => ?_) (fun c_66 => ?_)
          · refine lv_iconst (v := 0) hx hb dX7_copy_71 (by decide) ?_
            refine lv_istore (lv' := [(10, .int 0), (9, .int 3), (8, .int 2), (7, .ref g0), (6, .ref h0), (0, .ref x0), (1, .int s_), (2, .int q_), (3, .int i), (4, .int j), (5, .int n)]) hx hb dX7_copy_72 hl (by decide) rfl (fun ls hl => ?_)
            refine lv_iload hx hb dX7_copy_74 (lv_at hl 2 rfl) ?_
            refine lv_iconst (v := 2) hx hb dX7_copy_76 (by decide) ?_
            refine lv_icmp_eq (tgt := 91) hx hb dX7_copy_77 (by decide) (fun c_67 => ?_) (fun c_67 => ?_)
            · refine lv_aload_n hx hb dX7_copy_91 rfl (lv_at hl 5 rfl) ?_
              refine lv_iconst (v := 2) hx hb dX7_copy_92 (by decide) ?_
              skip
              refine zw_V (As := [.int 2]) (rest := []) (wr := [(xs, .inl (cS, 8, .inr (.inr (.inr (.inr fh))))), (h0, .inr (4, [.ref e0, .int he, .int si])), (e0, .inl (cJ, 160, .inr (.inl fe))), (g0, .inr (4, [.ref e1, .int ge, .int gs])), (e1, .inl (cJ, 160, .inr (.inl fe1)))]) ⟨hx, hb, hml, hown, hts⟩ (c_X_refuse_2 l D cI cJ cZ cP cS po x0 xs j0 k0 w0 rd mv xr (im) (lf) fr hy0 hy1 hy2 hy3 H.size) (cwV 1 hts gX7_copy_X7_refuse rfl rfl rfl ⟨rfl, dh_X7_refuse⟩ ⟨Nat.le_of_ble_eq_true rfl, Nat.le_of_ble_eq_true rfl⟩) hK hN (hZ.kept hS) hP hD hS hA [0, 1] [2, 3, 4, 5, 6] rfl rfl (by decide) (by decide) (by decide) (va_recv (q := (RX7, TX7, 9)) hK hP (ci := 7) (q0 := 0) rfl rfl) rfl hl.1 rfl (Nat.le_of_ble_eq_true rfl) dX7_copy_93 ⟨Nat.le_of_ble_eq_true rfl, Nat.le_of_ble_eq_true rfl⟩ (fun r_68 u_69 H locs hr_68 hP hD hS => ?_)
              obtain ⟨q_70, rfl⟩ : ∃ z, z = u_69 := ⟨_, rfl⟩
              have h9R := zRe (ws' := [(xs, .inl (cS, 8, .inr (.inr (.inr (.inr fh))))), (h0, .inr (4, [.ref e0, .int he, .int si])), (e0, .inl (cJ, 160, .inr (.inl fe))), (g0, .inr (4, [.ref e1, .int ge, .int gs])), (e1, .inl (cJ, 160, .inr (.inl fe1))), (x0, .inr (7, [.ref xs, .ref j0, .ref k0, .ref w0, .ref rd, .ref mv, .ref xr, .int im, .int lf])), (xr, .inl (cI, 8, .inl q_70))]) hP hD rfl
              clear hP hD
              obtain ⟨hP, hD⟩ := h9R
              obtain rfl := hr_68
              exact W.iret (v := (-2)) hx hb hr (fun t ht hW => ⟨⟨(-2), (fe1, q_70), rfl, ⟨(show ((-2) : Int32).toInt = zCopR s_.toInt q_.toInt he.toInt ge.toInt si.toInt gs.toInt i.toInt j.toInt n.toInt from by (have k9 : ((-2) : Int32).toInt = -2 := (by decide); unfold zCopR; (repeat (first | rw [if_pos (by omega)] | rw [if_neg (by omega)])) <;> omega)), (show (((-2) : Int32).toInt = 1 → fe1 = va_cpy fe fe1 i.toNatClampNeg j.toNatClampNeg n.toNatClampNeg) from by (have k9 : ((-2) : Int32).toInt = -2 := (by decide); intro h; exfalso; omega)), (show (((-2) : Int32).toInt ≠ 1 → fe1 = fe1) from by (have k9 : ((-2) : Int32).toInt = -2 := (by decide); intro h; exact rfl)), trivial⟩, zRet ht hP hD [5, 6, 0, 1, 2, 3, 4] (by decide) rfl⟩, hS.F ht⟩) hS.2.2 dX7_copy_96
            · exact absurd c_67 (by decide)
          · exact absurd c_66 (by decide)
        · refine lv_istore (lv' := [(9, .int 0), (8, .int 2), (7, .ref g0), (6, .ref h0), (0, .ref x0), (1, .int s_), (2, .int q_), (3, .int i), (4, .int j), (5, .int n)]) hx hb dX7_copy_42 hl (by decide) rfl (fun ls hl => ?_)
          refine lv_iload hx hb dX7_copy_44 (lv_at hl 1 rfl) ?_
          refine lv_if_ne (tgt := 71) hx hb dX7_copy_46 (by decide) (fun c_71 => ?_) (fun c_71 => ?_)
          · refine lv_iconst (v := 0) hx hb dX7_copy_71 (by decide) ?_
            refine lv_istore (lv' := [(10, .int 0), (9, .int 0), (8, .int 2), (7, .ref g0), (6, .ref h0), (0, .ref x0), (1, .int s_), (2, .int q_), (3, .int i), (4, .int j), (5, .int n)]) hx hb dX7_copy_72 hl (by decide) rfl (fun ls hl => ?_)
            refine lv_iload hx hb dX7_copy_74 (lv_at hl 2 rfl) ?_
            refine lv_iconst (v := 2) hx hb dX7_copy_76 (by decide) ?_
            refine lv_icmp_eq (tgt := 91) hx hb dX7_copy_77 (by decide) (fun c_72 => ?_) (fun c_72 => ?_)
            · refine lv_aload_n hx hb dX7_copy_91 rfl (lv_at hl 5 rfl) ?_
              refine lv_iconst (v := 2) hx hb dX7_copy_92 (by decide) ?_
              skip
              refine zw_V (As := [.int 2]) (rest := []) (wr := [(xs, .inl (cS, 8, .inr (.inr (.inr (.inr fh))))), (h0, .inr (4, [.ref e0, .int he, .int si])), (e0, .inl (cJ, 160, .inr (.inl fe))), (g0, .inr (4, [.ref e1, .int ge, .int gs])), (e1, .inl (cJ, 160, .inr (.inl fe1)))]) ⟨hx, hb, hml, hown, hts⟩ (c_X_refuse_2 l D cI cJ cZ cP cS po x0 xs j0 k0 w0 rd mv xr (im) (lf) fr hy0 hy1 hy2 hy3 H.size) (cwV 1 hts gX7_copy_X7_refuse rfl rfl rfl ⟨rfl, dh_X7_refuse⟩ ⟨Nat.le_of_ble_eq_true rfl, Nat.le_of_ble_eq_true rfl⟩) hK hN (hZ.kept hS) hP hD hS hA [0, 1] [2, 3, 4, 5, 6] rfl rfl (by decide) (by decide) (by decide) (va_recv (q := (RX7, TX7, 9)) hK hP (ci := 7) (q0 := 0) rfl rfl) rfl hl.1 rfl (Nat.le_of_ble_eq_true rfl) dX7_copy_93 ⟨Nat.le_of_ble_eq_true rfl, Nat.le_of_ble_eq_true rfl⟩ (fun r_73 u_74 H locs hr_73 hP hD hS => ?_)
              obtain ⟨q_75, rfl⟩ : ∃ z, z = u_74 := ⟨_, rfl⟩
              have h9R := zRe (ws' := [(xs, .inl (cS, 8, .inr (.inr (.inr (.inr fh))))), (h0, .inr (4, [.ref e0, .int he, .int si])), (e0, .inl (cJ, 160, .inr (.inl fe))), (g0, .inr (4, [.ref e1, .int ge, .int gs])), (e1, .inl (cJ, 160, .inr (.inl fe1))), (x0, .inr (7, [.ref xs, .ref j0, .ref k0, .ref w0, .ref rd, .ref mv, .ref xr, .int im, .int lf])), (xr, .inl (cI, 8, .inl q_75))]) hP hD rfl
              clear hP hD
              obtain ⟨hP, hD⟩ := h9R
              obtain rfl := hr_73
              exact W.iret (v := (-2)) hx hb hr (fun t ht hW => ⟨⟨(-2), (fe1, q_75), rfl, ⟨(show ((-2) : Int32).toInt = zCopR s_.toInt q_.toInt he.toInt ge.toInt si.toInt gs.toInt i.toInt j.toInt n.toInt from by (have k9 : ((-2) : Int32).toInt = -2 := (by decide); unfold zCopR; (repeat (first | rw [if_pos (by omega)] | rw [if_neg (by omega)])) <;> omega)), (show (((-2) : Int32).toInt = 1 → fe1 = va_cpy fe fe1 i.toNatClampNeg j.toNatClampNeg n.toNatClampNeg) from by (have k9 : ((-2) : Int32).toInt = -2 := (by decide); intro h; exfalso; omega)), (show (((-2) : Int32).toInt ≠ 1 → fe1 = fe1) from by (have k9 : ((-2) : Int32).toInt = -2 := (by decide); intro h; exact rfl)), trivial⟩, zRet ht hP hD [5, 6, 0, 1, 2, 3, 4] (by decide) rfl⟩, hS.F ht⟩) hS.2.2 dX7_copy_96
            · exact absurd c_72 (by decide)
          · exact absurd c_71 (by decide)
      · refine lv_istore (lv' := [(8, .int 3), (7, .ref g0), (6, .ref h0), (0, .ref x0), (1, .int s_), (2, .int q_), (3, .int i), (4, .int j), (5, .int n)]) hx hb dX7_copy_35 hl (by decide) rfl (fun ls hl => ?_)
        refine lv_aload hx hb dX7_copy_37 (lv_at hl 1 rfl) ?_
        refine zc_V (As := []) (rest := []) ⟨hx, hb, hml, hown, hts⟩ (c_Sh_noRow l D cI cJ cZ cP cS po g0 e1 (ge) (gs) hy8 hy9 hy10 hy11) (cwV 0 hts gX7_copy_X4_noRow rfl rfl rfl ⟨rfl, dh_X4_noRow⟩ ⟨Nat.le_of_ble_eq_true rfl, Nat.le_of_ble_eq_true rfl⟩) hK hN (hZ.kept hS) hP (hP.sub [5] rfl) (va_recv (q := (RX4, TX4, 3)) hK hP (ci := 4) (q0 := 5) rfl rfl) rfl hl.1 rfl (Nat.le_of_ble_eq_true rfl) dX7_copy_39 ⟨Nat.le_of_ble_eq_true rfl, Nat.le_of_ble_eq_true rfl⟩ (fun r_76 hr_76 => ?_)
        rcases hr_76 with ⟨rfl, g_77, g_78⟩ | ⟨rfl, g_79, g_80⟩ | ⟨rfl, g_81⟩
        · refine lv_istore (lv' := [(9, .int 2), (8, .int 3), (7, .ref g0), (6, .ref h0), (0, .ref x0), (1, .int s_), (2, .int q_), (3, .int i), (4, .int j), (5, .int n)]) hx hb dX7_copy_42 hl (by decide) rfl (fun ls hl => ?_)
          refine lv_iload hx hb dX7_copy_44 (lv_at hl 1 rfl) ?_
          refine lv_if_ne (tgt := 71) hx hb dX7_copy_46 (by decide) (fun c_82 => ?_) (fun c_82 => ?_)
          · refine lv_iconst (v := 0) hx hb dX7_copy_71 (by decide) ?_
            refine lv_istore (lv' := [(10, .int 0), (9, .int 2), (8, .int 3), (7, .ref g0), (6, .ref h0), (0, .ref x0), (1, .int s_), (2, .int q_), (3, .int i), (4, .int j), (5, .int n)]) hx hb dX7_copy_72 hl (by decide) rfl (fun ls hl => ?_)
            refine lv_iload hx hb dX7_copy_74 (lv_at hl 2 rfl) ?_
            refine lv_iconst (v := 2) hx hb dX7_copy_76 (by decide) ?_
            refine lv_icmp_eq (tgt := 91) hx hb dX7_copy_77 (by decide) (fun c_83 => ?_) (fun c_83 => ?_)
            · exact absurd c_83 (by decide)
            · refine lv_iload hx hb dX7_copy_80 (lv_at hl 1 rfl) ?_
              refine lv_iconst (v := 2) hx hb dX7_copy_82 (by decide) ?_
              refine lv_icmp_eq (tgt := 91) hx hb dX7_copy_83 (by decide) (fun c_84 => ?_) (fun c_84 => ?_)
              · refine lv_aload_n hx hb dX7_copy_91 rfl (lv_at hl 5 rfl) ?_
                refine lv_iconst (v := 2) hx hb dX7_copy_92 (by decide) ?_
                skip
                refine zw_V (As := [.int 2]) (rest := []) (wr := [(xs, .inl (cS, 8, .inr (.inr (.inr (.inr fh))))), (h0, .inr (4, [.ref e0, .int he, .int si])), (e0, .inl (cJ, 160, .inr (.inl fe))), (g0, .inr (4, [.ref e1, .int ge, .int gs])), (e1, .inl (cJ, 160, .inr (.inl fe1)))]) ⟨hx, hb, hml, hown, hts⟩ (c_X_refuse_2 l D cI cJ cZ cP cS po x0 xs j0 k0 w0 rd mv xr (im) (lf) fr hy0 hy1 hy2 hy3 H.size) (cwV 1 hts gX7_copy_X7_refuse rfl rfl rfl ⟨rfl, dh_X7_refuse⟩ ⟨Nat.le_of_ble_eq_true rfl, Nat.le_of_ble_eq_true rfl⟩) hK hN (hZ.kept hS) hP hD hS hA [0, 1] [2, 3, 4, 5, 6] rfl rfl (by decide) (by decide) (by decide) (va_recv (q := (RX7, TX7, 9)) hK hP (ci := 7) (q0 := 0) rfl rfl) rfl hl.1 rfl (Nat.le_of_ble_eq_true rfl) dX7_copy_93 ⟨Nat.le_of_ble_eq_true rfl, Nat.le_of_ble_eq_true rfl⟩ (fun r_85 u_86 H locs hr_85 hP hD hS => ?_)
                obtain ⟨q_87, rfl⟩ : ∃ z, z = u_86 := ⟨_, rfl⟩
                have h9R := zRe (ws' := [(xs, .inl (cS, 8, .inr (.inr (.inr (.inr fh))))), (h0, .inr (4, [.ref e0, .int he, .int si])), (e0, .inl (cJ, 160, .inr (.inl fe))), (g0, .inr (4, [.ref e1, .int ge, .int gs])), (e1, .inl (cJ, 160, .inr (.inl fe1))), (x0, .inr (7, [.ref xs, .ref j0, .ref k0, .ref w0, .ref rd, .ref mv, .ref xr, .int im, .int lf])), (xr, .inl (cI, 8, .inl q_87))]) hP hD rfl
                clear hP hD
                obtain ⟨hP, hD⟩ := h9R
                obtain rfl := hr_85
                exact W.iret (v := (-2)) hx hb hr (fun t ht hW => ⟨⟨(-2), (fe1, q_87), rfl, ⟨(show ((-2) : Int32).toInt = zCopR s_.toInt q_.toInt he.toInt ge.toInt si.toInt gs.toInt i.toInt j.toInt n.toInt from by (have k9 : ((-2) : Int32).toInt = -2 := (by decide); unfold zCopR; (repeat (first | rw [if_pos (by omega)] | rw [if_neg (by omega)])) <;> omega)), (show (((-2) : Int32).toInt = 1 → fe1 = va_cpy fe fe1 i.toNatClampNeg j.toNatClampNeg n.toNatClampNeg) from by (have k9 : ((-2) : Int32).toInt = -2 := (by decide); intro h; exfalso; omega)), (show (((-2) : Int32).toInt ≠ 1 → fe1 = fe1) from by (have k9 : ((-2) : Int32).toInt = -2 := (by decide); intro h; exact rfl)), trivial⟩, zRet ht hP hD [5, 6, 0, 1, 2, 3, 4] (by decide) rfl⟩, hS.F ht⟩) hS.2.2 dX7_copy_96
              · exact absurd c_84 (by decide)
          · exact absurd c_82 (by decide)
        · refine lv_istore (lv' := [(9, .int 3), (8, .int 3), (7, .ref g0), (6, .ref h0), (0, .ref x0), (1, .int s_), (2, .int q_), (3, .int i), (4, .int j), (5, .int n)]) hx hb dX7_copy_42 hl (by decide) rfl (fun ls hl => ?_)
          refine lv_iload hx hb dX7_copy_44 (lv_at hl 1 rfl) ?_
          refine lv_if_ne (tgt := 71) hx hb dX7_copy_46 (by decide) (fun c_88 => ?_) (fun c_88 => ?_)
          · refine lv_iconst (v := 0) hx hb dX7_copy_71 (by decide) ?_
            refine lv_istore (lv' := [(10, .int 0), (9, .int 3), (8, .int 3), (7, .ref g0), (6, .ref h0), (0, .ref x0), (1, .int s_), (2, .int q_), (3, .int i), (4, .int j), (5, .int n)]) hx hb dX7_copy_72 hl (by decide) rfl (fun ls hl => ?_)
            refine lv_iload hx hb dX7_copy_74 (lv_at hl 2 rfl) ?_
            refine lv_iconst (v := 2) hx hb dX7_copy_76 (by decide) ?_
            refine lv_icmp_eq (tgt := 91) hx hb dX7_copy_77 (by decide) (fun c_89 => ?_) (fun c_89 => ?_)
            · exact absurd c_89 (by decide)
            · refine lv_iload hx hb dX7_copy_80 (lv_at hl 1 rfl) ?_
              refine lv_iconst (v := 2) hx hb dX7_copy_82 (by decide) ?_
              refine lv_icmp_eq (tgt := 91) hx hb dX7_copy_83 (by decide) (fun c_90 => ?_) (fun c_90 => ?_)
              · exact absurd c_90 (by decide)
              · refine lv_iload hx hb dX7_copy_86 (lv_at hl 0 rfl) ?_
                refine lv_if_eq (tgt := 97) hx hb dX7_copy_88 (by decide) (fun c_91 => ?_) (fun c_91 => ?_)
                · refine lv_iload hx hb dX7_copy_97 (lv_at hl 2 rfl) ?_
                  refine lv_iconst (v := 3) hx hb dX7_copy_99 (by decide) ?_
                  refine lv_icmp_eq (tgt := 109) hx hb dX7_copy_100 (by decide) (fun c_92 => ?_) (fun c_92 => ?_)
                  · refine lv_aload_n hx hb dX7_copy_109 rfl (lv_at hl 5 rfl) ?_
                    refine lv_iconst (v := 3) hx hb dX7_copy_110 (by decide) ?_
                    skip
                    refine zw_V (As := [.int 3]) (rest := []) (wr := [(xs, .inl (cS, 8, .inr (.inr (.inr (.inr fh))))), (h0, .inr (4, [.ref e0, .int he, .int si])), (e0, .inl (cJ, 160, .inr (.inl fe))), (g0, .inr (4, [.ref e1, .int ge, .int gs])), (e1, .inl (cJ, 160, .inr (.inl fe1)))]) ⟨hx, hb, hml, hown, hts⟩ (c_X_refuse_3 l D cI cJ cZ cP cS po x0 xs j0 k0 w0 rd mv xr (im) (lf) fr hy0 hy1 hy2 hy3 H.size) (cwV 1 hts gX7_copy_X7_refuse rfl rfl rfl ⟨rfl, dh_X7_refuse⟩ ⟨Nat.le_of_ble_eq_true rfl, Nat.le_of_ble_eq_true rfl⟩) hK hN (hZ.kept hS) hP hD hS hA [0, 1] [2, 3, 4, 5, 6] rfl rfl (by decide) (by decide) (by decide) (va_recv (q := (RX7, TX7, 9)) hK hP (ci := 7) (q0 := 0) rfl rfl) rfl hl.1 rfl (Nat.le_of_ble_eq_true rfl) dX7_copy_111 ⟨Nat.le_of_ble_eq_true rfl, Nat.le_of_ble_eq_true rfl⟩ (fun r_93 u_94 H locs hr_93 hP hD hS => ?_)
                    obtain ⟨q_95, rfl⟩ : ∃ z, z = u_94 := ⟨_, rfl⟩
                    have h9R := zRe (ws' := [(xs, .inl (cS, 8, .inr (.inr (.inr (.inr fh))))), (h0, .inr (4, [.ref e0, .int he, .int si])), (e0, .inl (cJ, 160, .inr (.inl fe))), (g0, .inr (4, [.ref e1, .int ge, .int gs])), (e1, .inl (cJ, 160, .inr (.inl fe1))), (x0, .inr (7, [.ref xs, .ref j0, .ref k0, .ref w0, .ref rd, .ref mv, .ref xr, .int im, .int lf])), (xr, .inl (cI, 8, .inl q_95))]) hP hD rfl
                    clear hP hD
                    obtain ⟨hP, hD⟩ := h9R
                    obtain rfl := hr_93
                    exact W.iret (v := (-3)) hx hb hr (fun t ht hW => ⟨⟨(-3), (fe1, q_95), rfl, ⟨(show ((-3) : Int32).toInt = zCopR s_.toInt q_.toInt he.toInt ge.toInt si.toInt gs.toInt i.toInt j.toInt n.toInt from by (have k9 : ((-3) : Int32).toInt = -3 := (by decide); unfold zCopR; (repeat (first | rw [if_pos (by omega)] | rw [if_neg (by omega)])) <;> omega)), (show (((-3) : Int32).toInt = 1 → fe1 = va_cpy fe fe1 i.toNatClampNeg j.toNatClampNeg n.toNatClampNeg) from by (have k9 : ((-3) : Int32).toInt = -3 := (by decide); intro h; exfalso; omega)), (show (((-3) : Int32).toInt ≠ 1 → fe1 = fe1) from by (have k9 : ((-3) : Int32).toInt = -3 := (by decide); intro h; exact rfl)), trivial⟩, zRet ht hP hD [5, 6, 0, 1, 2, 3, 4] (by decide) rfl⟩, hS.F ht⟩) hS.2.2 dX7_copy_114
                  · exact absurd c_92 (by decide)
                · exact absurd c_91 (by decide)
          · exact absurd c_88 (by decide)
        · refine lv_istore (lv' := [(9, .int 0), (8, .int 3), (7, .ref g0), (6, .ref h0), (0, .ref x0), (1, .int s_), (2, .int q_), (3, .int i), (4, .int j), (5, .int n)]) hx hb dX7_copy_42 hl (by decide) rfl (fun ls hl => ?_)
          refine lv_iload hx hb dX7_copy_44 (lv_at hl 1 rfl) ?_
          refine lv_if_ne (tgt := 71) hx hb dX7_copy_46 (by decide) (fun c_96 => ?_) (fun c_96 => ?_)
          · refine lv_iconst (v := 0) hx hb dX7_copy_71 (by decide) ?_
            refine lv_istore (lv' := [(10, .int 0), (9, .int 0), (8, .int 3), (7, .ref g0), (6, .ref h0), (0, .ref x0), (1, .int s_), (2, .int q_), (3, .int i), (4, .int j), (5, .int n)]) hx hb dX7_copy_72 hl (by decide) rfl (fun ls hl => ?_)
            refine lv_iload hx hb dX7_copy_74 (lv_at hl 2 rfl) ?_
            refine lv_iconst (v := 2) hx hb dX7_copy_76 (by decide) ?_
            refine lv_icmp_eq (tgt := 91) hx hb dX7_copy_77 (by decide) (fun c_97 => ?_) (fun c_97 => ?_)
            · exact absurd c_97 (by decide)
            · refine lv_iload hx hb dX7_copy_80 (lv_at hl 1 rfl) ?_
              refine lv_iconst (v := 2) hx hb dX7_copy_82 (by decide) ?_
              refine lv_icmp_eq (tgt := 91) hx hb dX7_copy_83 (by decide) (fun c_98 => ?_) (fun c_98 => ?_)
              · exact absurd c_98 (by decide)
              · refine lv_iload hx hb dX7_copy_86 (lv_at hl 0 rfl) ?_
                refine lv_if_eq (tgt := 97) hx hb dX7_copy_88 (by decide) (fun c_99 => ?_) (fun c_99 => ?_)
                · refine lv_iload hx hb dX7_copy_97 (lv_at hl 2 rfl) ?_
                  refine lv_iconst (v := 3) hx hb dX7_copy_99 (by decide) ?_
                  refine lv_icmp_eq (tgt := 109) hx hb dX7_copy_100 (by decide) (fun c_100 => ?_) (fun c_100 => ?_)
                  · refine lv_aload_n hx hb dX7_copy_109 rfl (lv_at hl 5 rfl) ?_
                    refine lv_iconst (v := 3) hx hb dX7_copy_110 (by decide) ?_
                    skip
                    refine zw_V (As := [.int 3]) (rest := []) (wr := [(xs, .inl (cS, 8, .inr (.inr (.inr (.inr fh))))), (h0, .inr (4, [.ref e0, .int he, .int si])), (e0, .inl (cJ, 160, .inr (.inl fe))), (g0, .inr (4, [.ref e1, .int ge, .int gs])), (e1, .inl (cJ, 160, .inr (.inl fe1)))]) ⟨hx, hb, hml, hown, hts⟩ (c_X_refuse_3 l D cI cJ cZ cP cS po x0 xs j0 k0 w0 rd mv xr (im) (lf) fr hy0 hy1 hy2 hy3 H.size) (cwV 1 hts gX7_copy_X7_refuse rfl rfl rfl ⟨rfl, dh_X7_refuse⟩ ⟨Nat.le_of_ble_eq_true rfl, Nat.le_of_ble_eq_true rfl⟩) hK hN (hZ.kept hS) hP hD hS hA [0, 1] [2, 3, 4, 5, 6] rfl rfl (by decide) (by decide) (by decide) (va_recv (q := (RX7, TX7, 9)) hK hP (ci := 7) (q0 := 0) rfl rfl) rfl hl.1 rfl (Nat.le_of_ble_eq_true rfl) dX7_copy_111 ⟨Nat.le_of_ble_eq_true rfl, Nat.le_of_ble_eq_true rfl⟩ (fun r_101 u_102 H locs hr_101 hP hD hS => ?_)
                    obtain ⟨q_103, rfl⟩ : ∃ z, z = u_102 := ⟨_, rfl⟩
                    have h9R := zRe (ws' := [(xs, .inl (cS, 8, .inr (.inr (.inr (.inr fh))))), (h0, .inr (4, [.ref e0, .int he, .int si])), (e0, .inl (cJ, 160, .inr (.inl fe))), (g0, .inr (4, [.ref e1, .int ge, .int gs])), (e1, .inl (cJ, 160, .inr (.inl fe1))), (x0, .inr (7, [.ref xs, .ref j0, .ref k0, .ref w0, .ref rd, .ref mv, .ref xr, .int im, .int lf])), (xr, .inl (cI, 8, .inl q_103))]) hP hD rfl
                    clear hP hD
                    obtain ⟨hP, hD⟩ := h9R
                    obtain rfl := hr_101
                    exact W.iret (v := (-3)) hx hb hr (fun t ht hW => ⟨⟨(-3), (fe1, q_103), rfl, ⟨(show ((-3) : Int32).toInt = zCopR s_.toInt q_.toInt he.toInt ge.toInt si.toInt gs.toInt i.toInt j.toInt n.toInt from by (have k9 : ((-3) : Int32).toInt = -3 := (by decide); unfold zCopR; (repeat (first | rw [if_pos (by omega)] | rw [if_neg (by omega)])) <;> omega)), (show (((-3) : Int32).toInt = 1 → fe1 = va_cpy fe fe1 i.toNatClampNeg j.toNatClampNeg n.toNatClampNeg) from by (have k9 : ((-3) : Int32).toInt = -3 := (by decide); intro h; exfalso; omega)), (show (((-3) : Int32).toInt ≠ 1 → fe1 = fe1) from by (have k9 : ((-3) : Int32).toInt = -3 := (by decide); intro h; exact rfl)), trivial⟩, zRet ht hP hD [5, 6, 0, 1, 2, 3, 4] (by decide) rfl⟩, hS.F ht⟩) hS.2.2 dX7_copy_114
                  · exact absurd c_100 (by decide)
                · exact absurd c_99 (by decide)
          · exact absurd c_96 (by decide)
      · refine lv_istore (lv' := [(8, .int 0), (7, .ref g0), (6, .ref h0), (0, .ref x0), (1, .int s_), (2, .int q_), (3, .int i), (4, .int j), (5, .int n)]) hx hb dX7_copy_35 hl (by decide) rfl (fun ls hl => ?_)
        refine lv_aload hx hb dX7_copy_37 (lv_at hl 1 rfl) ?_
        refine zc_V (As := []) (rest := []) ⟨hx, hb, hml, hown, hts⟩ (c_Sh_noRow l D cI cJ cZ cP cS po g0 e1 (ge) (gs) hy8 hy9 hy10 hy11) (cwV 0 hts gX7_copy_X4_noRow rfl rfl rfl ⟨rfl, dh_X4_noRow⟩ ⟨Nat.le_of_ble_eq_true rfl, Nat.le_of_ble_eq_true rfl⟩) hK hN (hZ.kept hS) hP (hP.sub [5] rfl) (va_recv (q := (RX4, TX4, 3)) hK hP (ci := 4) (q0 := 5) rfl rfl) rfl hl.1 rfl (Nat.le_of_ble_eq_true rfl) dX7_copy_39 ⟨Nat.le_of_ble_eq_true rfl, Nat.le_of_ble_eq_true rfl⟩ (fun r_104 hr_104 => ?_)
        rcases hr_104 with ⟨rfl, g_105, g_106⟩ | ⟨rfl, g_107, g_108⟩ | ⟨rfl, g_109⟩
        · refine lv_istore (lv' := [(9, .int 2), (8, .int 0), (7, .ref g0), (6, .ref h0), (0, .ref x0), (1, .int s_), (2, .int q_), (3, .int i), (4, .int j), (5, .int n)]) hx hb dX7_copy_42 hl (by decide) rfl (fun ls hl => ?_)
          refine lv_iload hx hb dX7_copy_44 (lv_at hl 1 rfl) ?_
          refine lv_if_ne (tgt := 71) hx hb dX7_copy_46 (by decide) (fun c_110 => ?_) (fun c_110 => ?_)
          · exact absurd c_110 (by decide)
          · refine lv_iload hx hb dX7_copy_49 (lv_at hl 0 rfl) ?_
            refine lv_if_ne (tgt := 71) hx hb dX7_copy_51 (by decide) (fun c_111 => ?_) (fun c_111 => ?_)
            · refine lv_iconst (v := 0) hx hb dX7_copy_71 (by decide) ?_
              refine lv_istore (lv' := [(10, .int 0), (9, .int 2), (8, .int 0), (7, .ref g0), (6, .ref h0), (0, .ref x0), (1, .int s_), (2, .int q_), (3, .int i), (4, .int j), (5, .int n)]) hx hb dX7_copy_72 hl (by decide) rfl (fun ls hl => ?_)
              refine lv_iload hx hb dX7_copy_74 (lv_at hl 2 rfl) ?_
              refine lv_iconst (v := 2) hx hb dX7_copy_76 (by decide) ?_
              refine lv_icmp_eq (tgt := 91) hx hb dX7_copy_77 (by decide) (fun c_112 => ?_) (fun c_112 => ?_)
              · exact absurd c_112 (by decide)
              · refine lv_iload hx hb dX7_copy_80 (lv_at hl 1 rfl) ?_
                refine lv_iconst (v := 2) hx hb dX7_copy_82 (by decide) ?_
                refine lv_icmp_eq (tgt := 91) hx hb dX7_copy_83 (by decide) (fun c_113 => ?_) (fun c_113 => ?_)
                · refine lv_aload_n hx hb dX7_copy_91 rfl (lv_at hl 5 rfl) ?_
                  refine lv_iconst (v := 2) hx hb dX7_copy_92 (by decide) ?_
                  skip
                  refine zw_V (As := [.int 2]) (rest := []) (wr := [(xs, .inl (cS, 8, .inr (.inr (.inr (.inr fh))))), (h0, .inr (4, [.ref e0, .int he, .int si])), (e0, .inl (cJ, 160, .inr (.inl fe))), (g0, .inr (4, [.ref e1, .int ge, .int gs])), (e1, .inl (cJ, 160, .inr (.inl fe1)))]) ⟨hx, hb, hml, hown, hts⟩ (c_X_refuse_2 l D cI cJ cZ cP cS po x0 xs j0 k0 w0 rd mv xr (im) (lf) fr hy0 hy1 hy2 hy3 H.size) (cwV 1 hts gX7_copy_X7_refuse rfl rfl rfl ⟨rfl, dh_X7_refuse⟩ ⟨Nat.le_of_ble_eq_true rfl, Nat.le_of_ble_eq_true rfl⟩) hK hN (hZ.kept hS) hP hD hS hA [0, 1] [2, 3, 4, 5, 6] rfl rfl (by decide) (by decide) (by decide) (va_recv (q := (RX7, TX7, 9)) hK hP (ci := 7) (q0 := 0) rfl rfl) rfl hl.1 rfl (Nat.le_of_ble_eq_true rfl) dX7_copy_93 ⟨Nat.le_of_ble_eq_true rfl, Nat.le_of_ble_eq_true rfl⟩ (fun r_114 u_115 H locs hr_114 hP hD hS => ?_)
                  obtain ⟨q_116, rfl⟩ : ∃ z, z = u_115 := ⟨_, rfl⟩
                  have h9R := zRe (ws' := [(xs, .inl (cS, 8, .inr (.inr (.inr (.inr fh))))), (h0, .inr (4, [.ref e0, .int he, .int si])), (e0, .inl (cJ, 160, .inr (.inl fe))), (g0, .inr (4, [.ref e1, .int ge, .int gs])), (e1, .inl (cJ, 160, .inr (.inl fe1))), (x0, .inr (7, [.ref xs, .ref j0, .ref k0, .ref w0, .ref rd, .ref mv, .ref xr, .int im, .int lf])), (xr, .inl (cI, 8, .inl q_116))]) hP hD rfl
                  clear hP hD
                  obtain ⟨hP, hD⟩ := h9R
                  obtain rfl := hr_114
                  exact W.iret (v := (-2)) hx hb hr (fun t ht hW => ⟨⟨(-2), (fe1, q_116), rfl, ⟨(show ((-2) : Int32).toInt = zCopR s_.toInt q_.toInt he.toInt ge.toInt si.toInt gs.toInt i.toInt j.toInt n.toInt from by (have k9 : ((-2) : Int32).toInt = -2 := (by decide); unfold zCopR; (repeat (first | rw [if_pos (by omega)] | rw [if_neg (by omega)])) <;> omega)), (show (((-2) : Int32).toInt = 1 → fe1 = va_cpy fe fe1 i.toNatClampNeg j.toNatClampNeg n.toNatClampNeg) from by (have k9 : ((-2) : Int32).toInt = -2 := (by decide); intro h; exfalso; omega)), (show (((-2) : Int32).toInt ≠ 1 → fe1 = fe1) from by (have k9 : ((-2) : Int32).toInt = -2 := (by decide); intro h; exact rfl)), trivial⟩, zRet ht hP hD [5, 6, 0, 1, 2, 3, 4] (by decide) rfl⟩, hS.F ht⟩) hS.2.2 dX7_copy_96
                · exact absurd c_113 (by decide)
            · exact absurd c_111 (by decide)
        · refine lv_istore (lv' := [(9, .int 3), (8, .int 0), (7, .ref g0), (6, .ref h0), (0, .ref x0), (1, .int s_), (2, .int q_), (3, .int i), (4, .int j), (5, .int n)]) hx hb dX7_copy_42 hl (by decide) rfl (fun ls hl => ?_)
          refine lv_iload hx hb dX7_copy_44 (lv_at hl 1 rfl) ?_
          refine lv_if_ne (tgt := 71) hx hb dX7_copy_46 (by decide) (fun c_117 => ?_) (fun c_117 => ?_)
          · exact absurd c_117 (by decide)
          · refine lv_iload hx hb dX7_copy_49 (lv_at hl 0 rfl) ?_
            refine lv_if_ne (tgt := 71) hx hb dX7_copy_51 (by decide) (fun c_118 => ?_) (fun c_118 => ?_)
            · refine lv_iconst (v := 0) hx hb dX7_copy_71 (by decide) ?_
              refine lv_istore (lv' := [(10, .int 0), (9, .int 3), (8, .int 0), (7, .ref g0), (6, .ref h0), (0, .ref x0), (1, .int s_), (2, .int q_), (3, .int i), (4, .int j), (5, .int n)]) hx hb dX7_copy_72 hl (by decide) rfl (fun ls hl => ?_)
              refine lv_iload hx hb dX7_copy_74 (lv_at hl 2 rfl) ?_
              refine lv_iconst (v := 2) hx hb dX7_copy_76 (by decide) ?_
              refine lv_icmp_eq (tgt := 91) hx hb dX7_copy_77 (by decide) (fun c_119 => ?_) (fun c_119 => ?_)
              · exact absurd c_119 (by decide)
              · refine lv_iload hx hb dX7_copy_80 (lv_at hl 1 rfl) ?_
                refine lv_iconst (v := 2) hx hb dX7_copy_82 (by decide) ?_
                refine lv_icmp_eq (tgt := 91) hx hb dX7_copy_83 (by decide) (fun c_120 => ?_) (fun c_120 => ?_)
                · exact absurd c_120 (by decide)
                · refine lv_iload hx hb dX7_copy_86 (lv_at hl 0 rfl) ?_
                  refine lv_if_eq (tgt := 97) hx hb dX7_copy_88 (by decide) (fun c_121 => ?_) (fun c_121 => ?_)
                  · refine lv_iload hx hb dX7_copy_97 (lv_at hl 2 rfl) ?_
                    refine lv_iconst (v := 3) hx hb dX7_copy_99 (by decide) ?_
                    refine lv_icmp_eq (tgt := 109) hx hb dX7_copy_100 (by decide) (fun c_122 => ?_) (fun c_122 => ?_)
                    · exact absurd c_122 (by decide)
                    · refine lv_iload hx hb dX7_copy_103 (lv_at hl 1 rfl) ?_
                      refine lv_iconst (v := 3) hx hb dX7_copy_105 (by decide) ?_
                      refine lv_icmp_ne (tgt := 115) hx hb dX7_copy_106 (by decide) (fun c_123 => ?_) (fun c_123 => ?_)
                      · exact absurd c_123 (by decide)
                      · refine lv_aload_n hx hb dX7_copy_109 rfl (lv_at hl 5 rfl) ?_
                        refine lv_iconst (v := 3) hx hb dX7_copy_110 (by decide) ?_
                        skip
                        refine zw_V (As := [.int 3]) (rest := []) (wr := [(xs, .inl (cS, 8, .inr (.inr (.inr (.inr fh))))), (h0, .inr (4, [.ref e0, .int he, .int si])), (e0, .inl (cJ, 160, .inr (.inl fe))), (g0, .inr (4, [.ref e1, .int ge, .int gs])), (e1, .inl (cJ, 160, .inr (.inl fe1)))]) ⟨hx, hb, hml, hown, hts⟩ (c_X_refuse_3 l D cI cJ cZ cP cS po x0 xs j0 k0 w0 rd mv xr (im) (lf) fr hy0 hy1 hy2 hy3 H.size) (cwV 1 hts gX7_copy_X7_refuse rfl rfl rfl ⟨rfl, dh_X7_refuse⟩ ⟨Nat.le_of_ble_eq_true rfl, Nat.le_of_ble_eq_true rfl⟩) hK hN (hZ.kept hS) hP hD hS hA [0, 1] [2, 3, 4, 5, 6] rfl rfl (by decide) (by decide) (by decide) (va_recv (q := (RX7, TX7, 9)) hK hP (ci := 7) (q0 := 0) rfl rfl) rfl hl.1 rfl (Nat.le_of_ble_eq_true rfl) dX7_copy_111 ⟨Nat.le_of_ble_eq_true rfl, Nat.le_of_ble_eq_true rfl⟩ (fun r_124 u_125 H locs hr_124 hP hD hS => ?_)
                        obtain ⟨q_126, rfl⟩ : ∃ z, z = u_125 := ⟨_, rfl⟩
                        have h9R := zRe (ws' := [(xs, .inl (cS, 8, .inr (.inr (.inr (.inr fh))))), (h0, .inr (4, [.ref e0, .int he, .int si])), (e0, .inl (cJ, 160, .inr (.inl fe))), (g0, .inr (4, [.ref e1, .int ge, .int gs])), (e1, .inl (cJ, 160, .inr (.inl fe1))), (x0, .inr (7, [.ref xs, .ref j0, .ref k0, .ref w0, .ref rd, .ref mv, .ref xr, .int im, .int lf])), (xr, .inl (cI, 8, .inl q_126))]) hP hD rfl
                        clear hP hD
                        obtain ⟨hP, hD⟩ := h9R
                        obtain rfl := hr_124
                        exact W.iret (v := (-3)) hx hb hr (fun t ht hW => ⟨⟨(-3), (fe1, q_126), rfl, ⟨(show ((-3) : Int32).toInt = zCopR s_.toInt q_.toInt he.toInt ge.toInt si.toInt gs.toInt i.toInt j.toInt n.toInt from by (have k9 : ((-3) : Int32).toInt = -3 := (by decide); unfold zCopR; (repeat (first | rw [if_pos (by omega)] | rw [if_neg (by omega)])) <;> omega)), (show (((-3) : Int32).toInt = 1 → fe1 = va_cpy fe fe1 i.toNatClampNeg j.toNatClampNeg n.toNatClampNeg) from by (have k9 : ((-3) : Int32).toInt = -3 := (by decide); intro h; exfalso; omega)), (show (((-3) : Int32).toInt ≠ 1 → fe1 = fe1) from by (have k9 : ((-3) : Int32).toInt = -3 := (by decide); intro h; exact rfl)), trivial⟩, zRet ht hP hD [5, 6, 0, 1, 2, 3, 4] (by decide) rfl⟩, hS.F ht⟩) hS.2.2 dX7_copy_114
                  · exact absurd c_121 (by decide)
            · exact absurd c_118 (by decide)
        · refine lv_istore (lv' := [(9, .int 0), (8, .int 0), (7, .ref g0), (6, .ref h0), (0, .ref x0), (1, .int s_), (2, .int q_), (3, .int i), (4, .int j), (5, .int n)]) hx hb dX7_copy_42 hl (by decide) rfl (fun ls hl => ?_)
          refine lv_iload hx hb dX7_copy_44 (lv_at hl 1 rfl) ?_
          refine lv_if_ne (tgt := 71) hx hb dX7_copy_46 (by decide) (fun c_127 => ?_) (fun c_127 => ?_)
          · exact absurd c_127 (by decide)
          · refine lv_iload hx hb dX7_copy_49 (lv_at hl 0 rfl) ?_
            refine lv_if_ne (tgt := 71) hx hb dX7_copy_51 (by decide) (fun c_128 => ?_) (fun c_128 => ?_)
            · exact absurd c_128 (by decide)
            · refine lv_aload hx hb dX7_copy_54 (lv_at hl 3 rfl) ?_
              refine va_get (D := D) (ci := 4) (v := .int he) (C := RX4) (T := TX4) (N := 3) hx hb hts hi_X7_copy_4 hown hK hP 3 rfl rfl 1 (by decide) (hts (.fieldLink RX7 87 "TheLiningsInIt$Shelf" "held" "I") (List.mem_of_getElem? (i := 1) rfl)) (fun _ h9 => h9) rfl dX7_copy_56 ?_
              refine lv_aload hx hb dX7_copy_59 (lv_at hl 2 rfl) ?_
              refine va_get (D := D) (ci := 4) (v := .int ge) (C := RX4) (T := TX4) (N := 3) hx hb hts hi_X7_copy_4 hown hK hP 5 rfl rfl 1 (by decide) (hts (.fieldLink RX7 87 "TheLiningsInIt$Shelf" "held" "I") (List.mem_of_getElem? (i := 1) rfl)) (fun _ h9 => h9) rfl dX7_copy_61 ?_
              refine lv_icmp_eq (tgt := 71) hx hb dX7_copy_64 (by decide) (fun c_129 => ?_) (fun c_129 => ?_)
              · have fc_129 : he.toInt = ge.toInt := zf_eq c_129 rfl rfl
                refine lv_iconst (v := 0) hx hb dX7_copy_71 (by decide) ?_
                refine lv_istore (lv' := [(10, .int 0), (9, .int 0), (8, .int 0), (7, .ref g0), (6, .ref h0), (0, .ref x0), (1, .int s_), (2, .int q_), (3, .int i), (4, .int j), (5, .int n)]) hx hb dX7_copy_72 hl (by decide) rfl (fun ls hl => ?_)
                refine lv_iload hx hb dX7_copy_74 (lv_at hl 2 rfl) ?_
                refine lv_iconst (v := 2) hx hb dX7_copy_76 (by decide) ?_
                refine lv_icmp_eq (tgt := 91) hx hb dX7_copy_77 (by decide) (fun c_130 => ?_) (fun c_130 => ?_)
                · exact absurd c_130 (by decide)
                · refine lv_iload hx hb dX7_copy_80 (lv_at hl 1 rfl) ?_
                  refine lv_iconst (v := 2) hx hb dX7_copy_82 (by decide) ?_
                  refine lv_icmp_eq (tgt := 91) hx hb dX7_copy_83 (by decide) (fun c_131 => ?_) (fun c_131 => ?_)
                  · exact absurd c_131 (by decide)
                  · refine lv_iload hx hb dX7_copy_86 (lv_at hl 0 rfl) ?_
                    refine lv_if_eq (tgt := 97) hx hb dX7_copy_88 (by decide) (fun c_132 => ?_) (fun c_132 => ?_)
                    · refine lv_iload hx hb dX7_copy_97 (lv_at hl 2 rfl) ?_
                      refine lv_iconst (v := 3) hx hb dX7_copy_99 (by decide) ?_
                      refine lv_icmp_eq (tgt := 109) hx hb dX7_copy_100 (by decide) (fun c_133 => ?_) (fun c_133 => ?_)
                      · exact absurd c_133 (by decide)
                      · refine lv_iload hx hb dX7_copy_103 (lv_at hl 1 rfl) ?_
                        refine lv_iconst (v := 3) hx hb dX7_copy_105 (by decide) ?_
                        refine lv_icmp_ne (tgt := 115) hx hb dX7_copy_106 (by decide) (fun c_134 => ?_) (fun c_134 => ?_)
                        · refine lv_iload hx hb dX7_copy_115 (lv_at hl 10 rfl) ?_
                          refine lv_if_ge (tgt := 126) hx hb dX7_copy_117 (by decide) (fun c_135 => ?_) (fun c_135 => ?_)
                          · have fc_135 : 0 ≤ n.toInt := zf_le c_135 (by decide) rfl
                            refine lv_aload hx hb dX7_copy_126 (lv_at hl 4 rfl) ?_
                            refine lv_iload_n hx hb dX7_copy_128 rfl (lv_at hl 8 rfl) ?_
                            refine lv_iload hx hb dX7_copy_129 (lv_at hl 10 rfl) ?_
                            refine zc_V (As := [.int i, .int n]) (rest := []) ⟨hx, hb, hml, hown, hts⟩ (c_Sh_hasSpan l D cI cJ cZ cP cS po h0 e0 (he) (si) (i) (n) hy4 hy5 hy6 hy7) (cwV 2 hts gX7_copy_X4_hasSpan rfl rfl rfl ⟨rfl, dh_X4_hasSpan⟩ ⟨Nat.le_of_ble_eq_true rfl, Nat.le_of_ble_eq_true rfl⟩) hK hN (hZ.kept hS) hP (hP.sub [3] rfl) (va_recv (q := (RX4, TX4, 3)) hK hP (ci := 4) (q0 := 3) rfl rfl) rfl hl.1 rfl (Nat.le_of_ble_eq_true rfl) dX7_copy_131 ⟨Nat.le_of_ble_eq_true rfl, Nat.le_of_ble_eq_true rfl⟩ (fun r_136 hr_136 => ?_)
                            rcases hr_136 with ⟨rfl, g_137⟩ | ⟨rfl, g_138, g_139⟩ | ⟨rfl, g_140, g_141, g_142⟩ | ⟨rfl, g_143, g_144, g_145, g_146⟩ | ⟨rfl, g_147, g_148, g_149, g_150⟩
                            · refine lv_if_eq (tgt := 149) hx hb dX7_copy_134 (by decide) (fun c_151 => ?_) (fun c_151 => ?_)
                              · refine lv_aload_n hx hb dX7_copy_149 rfl (lv_at hl 5 rfl) ?_
                                refine lv_iconst (v := 5) hx hb dX7_copy_150 (by decide) ?_
                                skip
                                refine zw_V (As := [.int 5]) (rest := []) (wr := [(xs, .inl (cS, 8, .inr (.inr (.inr (.inr fh))))), (h0, .inr (4, [.ref e0, .int he, .int si])), (e0, .inl (cJ, 160, .inr (.inl fe))), (g0, .inr (4, [.ref e1, .int ge, .int gs])), (e1, .inl (cJ, 160, .inr (.inl fe1)))]) ⟨hx, hb, hml, hown, hts⟩ (c_X_refuse_5 l D cI cJ cZ cP cS po x0 xs j0 k0 w0 rd mv xr (im) (lf) fr hy0 hy1 hy2 hy3 H.size) (cwV 1 hts gX7_copy_X7_refuse rfl rfl rfl ⟨rfl, dh_X7_refuse⟩ ⟨Nat.le_of_ble_eq_true rfl, Nat.le_of_ble_eq_true rfl⟩) hK hN (hZ.kept hS) hP hD hS hA [0, 1] [2, 3, 4, 5, 6] rfl rfl (by decide) (by decide) (by decide) (va_recv (q := (RX7, TX7, 9)) hK hP (ci := 7) (q0 := 0) rfl rfl) rfl hl.1 rfl (Nat.le_of_ble_eq_true rfl) dX7_copy_151 ⟨Nat.le_of_ble_eq_true rfl, Nat.le_of_ble_eq_true rfl⟩ (fun r_152 u_153 H locs hr_152 hP hD hS => ?_)
                                obtain ⟨q_154, rfl⟩ : ∃ z, z = u_153 := ⟨_, rfl⟩
                                have h9R := zRe (ws' := [(xs, .inl (cS, 8, .inr (.inr (.inr (.inr fh))))), (h0, .inr (4, [.ref e0, .int he, .int si])), (e0, .inl (cJ, 160, .inr (.inl fe))), (g0, .inr (4, [.ref e1, .int ge, .int gs])), (e1, .inl (cJ, 160, .inr (.inl fe1))), (x0, .inr (7, [.ref xs, .ref j0, .ref k0, .ref w0, .ref rd, .ref mv, .ref xr, .int im, .int lf])), (xr, .inl (cI, 8, .inl q_154))]) hP hD rfl
                                clear hP hD
                                obtain ⟨hP, hD⟩ := h9R
                                obtain rfl := hr_152
                                exact W.iret (v := (-5)) hx hb hr (fun t ht hW => ⟨⟨(-5), (fe1, q_154), rfl, ⟨(show ((-5) : Int32).toInt = zCopR s_.toInt q_.toInt he.toInt ge.toInt si.toInt gs.toInt i.toInt j.toInt n.toInt from by (have k9 : ((-5) : Int32).toInt = -5 := (by decide); unfold zCopR; (repeat (first | rw [if_pos (by omega)] | rw [if_neg (by omega)])) <;> omega)), (show (((-5) : Int32).toInt = 1 → fe1 = va_cpy fe fe1 i.toNatClampNeg j.toNatClampNeg n.toNatClampNeg) from by (have k9 : ((-5) : Int32).toInt = -5 := (by decide); intro h; exfalso; omega)), (show (((-5) : Int32).toInt ≠ 1 → fe1 = fe1) from by (have k9 : ((-5) : Int32).toInt = -5 := (by decide); intro h; exact rfl)), trivial⟩, zRet ht hP hD [5, 6, 0, 1, 2, 3, 4] (by decide) rfl⟩, hS.F ht⟩) hS.2.2 dX7_copy_154
                              · exact absurd c_151 (by decide)
                            · exfalso; omega
                            · refine lv_if_eq (tgt := 149) hx hb dX7_copy_134 (by decide) (fun c_155 => ?_) (fun c_155 => ?_)
                              · refine lv_aload_n hx hb dX7_copy_149 rfl (lv_at hl 5 rfl) ?_
                                refine lv_iconst (v := 5) hx hb dX7_copy_150 (by decide) ?_
                                skip
                                refine zw_V (As := [.int 5]) (rest := []) (wr := [(xs, .inl (cS, 8, .inr (.inr (.inr (.inr fh))))), (h0, .inr (4, [.ref e0, .int he, .int si])), (e0, .inl (cJ, 160, .inr (.inl fe))), (g0, .inr (4, [.ref e1, .int ge, .int gs])), (e1, .inl (cJ, 160, .inr (.inl fe1)))]) ⟨hx, hb, hml, hown, hts⟩ (c_X_refuse_5 l D cI cJ cZ cP cS po x0 xs j0 k0 w0 rd mv xr (im) (lf) fr hy0 hy1 hy2 hy3 H.size) (cwV 1 hts gX7_copy_X7_refuse rfl rfl rfl ⟨rfl, dh_X7_refuse⟩ ⟨Nat.le_of_ble_eq_true rfl, Nat.le_of_ble_eq_true rfl⟩) hK hN (hZ.kept hS) hP hD hS hA [0, 1] [2, 3, 4, 5, 6] rfl rfl (by decide) (by decide) (by decide) (va_recv (q := (RX7, TX7, 9)) hK hP (ci := 7) (q0 := 0) rfl rfl) rfl hl.1 rfl (Nat.le_of_ble_eq_true rfl) dX7_copy_151 ⟨Nat.le_of_ble_eq_true rfl, Nat.le_of_ble_eq_true rfl⟩ (fun r_156 u_157 H locs hr_156 hP hD hS => ?_)
                                obtain ⟨q_158, rfl⟩ : ∃ z, z = u_157 := ⟨_, rfl⟩
                                have h9R := zRe (ws' := [(xs, .inl (cS, 8, .inr (.inr (.inr (.inr fh))))), (h0, .inr (4, [.ref e0, .int he, .int si])), (e0, .inl (cJ, 160, .inr (.inl fe))), (g0, .inr (4, [.ref e1, .int ge, .int gs])), (e1, .inl (cJ, 160, .inr (.inl fe1))), (x0, .inr (7, [.ref xs, .ref j0, .ref k0, .ref w0, .ref rd, .ref mv, .ref xr, .int im, .int lf])), (xr, .inl (cI, 8, .inl q_158))]) hP hD rfl
                                clear hP hD
                                obtain ⟨hP, hD⟩ := h9R
                                obtain rfl := hr_156
                                exact W.iret (v := (-5)) hx hb hr (fun t ht hW => ⟨⟨(-5), (fe1, q_158), rfl, ⟨(show ((-5) : Int32).toInt = zCopR s_.toInt q_.toInt he.toInt ge.toInt si.toInt gs.toInt i.toInt j.toInt n.toInt from by (have k9 : ((-5) : Int32).toInt = -5 := (by decide); unfold zCopR; (repeat (first | rw [if_pos (by omega)] | rw [if_neg (by omega)])) <;> omega)), (show (((-5) : Int32).toInt = 1 → fe1 = va_cpy fe fe1 i.toNatClampNeg j.toNatClampNeg n.toNatClampNeg) from by (have k9 : ((-5) : Int32).toInt = -5 := (by decide); intro h; exfalso; omega)), (show (((-5) : Int32).toInt ≠ 1 → fe1 = fe1) from by (have k9 : ((-5) : Int32).toInt = -5 := (by decide); intro h; exact rfl)), trivial⟩, zRet ht hP hD [5, 6, 0, 1, 2, 3, 4] (by decide) rfl⟩, hS.F ht⟩) hS.2.2 dX7_copy_154
                              · exact absurd c_155 (by decide)
                            · refine lv_if_eq (tgt := 149) hx hb dX7_copy_134 (by decide) (fun c_159 => ?_) (fun c_159 => ?_)
                              · refine lv_aload_n hx hb dX7_copy_149 rfl (lv_at hl 5 rfl) ?_
                                refine lv_iconst (v := 5) hx hb dX7_copy_150 (by decide) ?_
                                skip
                                refine zw_V (As := [.int 5]) (rest := []) (wr := [(xs, .inl (cS, 8, .inr (.inr (.inr (.inr fh))))), (h0, .inr (4, [.ref e0, .int he, .int si])), (e0, .inl (cJ, 160, .inr (.inl fe))), (g0, .inr (4, [.ref e1, .int ge, .int gs])), (e1, .inl (cJ, 160, .inr (.inl fe1)))]) ⟨hx, hb, hml, hown, hts⟩ (c_X_refuse_5 l D cI cJ cZ cP cS po x0 xs j0 k0 w0 rd mv xr (im) (lf) fr hy0 hy1 hy2 hy3 H.size) (cwV 1 hts gX7_copy_X7_refuse rfl rfl rfl ⟨rfl, dh_X7_refuse⟩ ⟨Nat.le_of_ble_eq_true rfl, Nat.le_of_ble_eq_true rfl⟩) hK hN (hZ.kept hS) hP hD hS hA [0, 1] [2, 3, 4, 5, 6] rfl rfl (by decide) (by decide) (by decide) (va_recv (q := (RX7, TX7, 9)) hK hP (ci := 7) (q0 := 0) rfl rfl) rfl hl.1 rfl (Nat.le_of_ble_eq_true rfl) dX7_copy_151 ⟨Nat.le_of_ble_eq_true rfl, Nat.le_of_ble_eq_true rfl⟩ (fun r_160 u_161 H locs hr_160 hP hD hS => ?_)
                                obtain ⟨q_162, rfl⟩ : ∃ z, z = u_161 := ⟨_, rfl⟩
                                have h9R := zRe (ws' := [(xs, .inl (cS, 8, .inr (.inr (.inr (.inr fh))))), (h0, .inr (4, [.ref e0, .int he, .int si])), (e0, .inl (cJ, 160, .inr (.inl fe))), (g0, .inr (4, [.ref e1, .int ge, .int gs])), (e1, .inl (cJ, 160, .inr (.inl fe1))), (x0, .inr (7, [.ref xs, .ref j0, .ref k0, .ref w0, .ref rd, .ref mv, .ref xr, .int im, .int lf])), (xr, .inl (cI, 8, .inl q_162))]) hP hD rfl
                                clear hP hD
                                obtain ⟨hP, hD⟩ := h9R
                                obtain rfl := hr_160
                                exact W.iret (v := (-5)) hx hb hr (fun t ht hW => ⟨⟨(-5), (fe1, q_162), rfl, ⟨(show ((-5) : Int32).toInt = zCopR s_.toInt q_.toInt he.toInt ge.toInt si.toInt gs.toInt i.toInt j.toInt n.toInt from by (have k9 : ((-5) : Int32).toInt = -5 := (by decide); unfold zCopR; (repeat (first | rw [if_pos (by omega)] | rw [if_neg (by omega)])) <;> omega)), (show (((-5) : Int32).toInt = 1 → fe1 = va_cpy fe fe1 i.toNatClampNeg j.toNatClampNeg n.toNatClampNeg) from by (have k9 : ((-5) : Int32).toInt = -5 := (by decide); intro h; exfalso; omega)), (show (((-5) : Int32).toInt ≠ 1 → fe1 = fe1) from by (have k9 : ((-5) : Int32).toInt = -5 := (by decide); intro h; exact rfl)), trivial⟩, zRet ht hP hD [5, 6, 0, 1, 2, 3, 4] (by decide) rfl⟩, hS.F ht⟩) hS.2.2 dX7_copy_154
                              · exact absurd c_159 (by decide)
                            · refine lv_if_eq (tgt := 149) hx hb dX7_copy_134 (by decide) (fun c_163 => ?_) (fun c_163 => ?_)
                              · exact absurd c_163 (by decide)
                              · refine lv_aload hx hb dX7_copy_137 (lv_at hl 3 rfl) ?_
                                refine lv_iload hx hb dX7_copy_139 (lv_at hl 9 rfl) ?_
                                refine lv_iload hx hb dX7_copy_141 (lv_at hl 10 rfl) ?_
                                refine zc_V (As := [.int j, .int n]) (rest := []) ⟨hx, hb, hml, hown, hts⟩ (c_Sh_hasSpan l D cI cJ cZ cP cS po g0 e1 (ge) (gs) (j) (n) hy8 hy9 hy10 hy11) (cwV 2 hts gX7_copy_X4_hasSpan rfl rfl rfl ⟨rfl, dh_X4_hasSpan⟩ ⟨Nat.le_of_ble_eq_true rfl, Nat.le_of_ble_eq_true rfl⟩) hK hN (hZ.kept hS) hP (hP.sub [5] rfl) (va_recv (q := (RX4, TX4, 3)) hK hP (ci := 4) (q0 := 5) rfl rfl) rfl hl.1 rfl (Nat.le_of_ble_eq_true rfl) dX7_copy_143 ⟨Nat.le_of_ble_eq_true rfl, Nat.le_of_ble_eq_true rfl⟩ (fun r_164 hr_164 => ?_)
                                rcases hr_164 with ⟨rfl, g_165⟩ | ⟨rfl, g_166, g_167⟩ | ⟨rfl, g_168, g_169, g_170⟩ | ⟨rfl, g_171, g_172, g_173, g_174⟩ | ⟨rfl, g_175, g_176, g_177, g_178⟩
                                · refine lv_if_ne (tgt := 155) hx hb dX7_copy_146 (by decide) (fun c_179 => ?_) (fun c_179 => ?_)
                                  · exact absurd c_179 (by decide)
                                  · refine lv_aload_n hx hb dX7_copy_149 rfl (lv_at hl 5 rfl) ?_
                                    refine lv_iconst (v := 5) hx hb dX7_copy_150 (by decide) ?_
                                    skip
                                    refine zw_V (As := [.int 5]) (rest := []) (wr := [(xs, .inl (cS, 8, .inr (.inr (.inr (.inr fh))))), (h0, .inr (4, [.ref e0, .int he, .int si])), (e0, .inl (cJ, 160, .inr (.inl fe))), (g0, .inr (4, [.ref e1, .int ge, .int gs])), (e1, .inl (cJ, 160, .inr (.inl fe1)))]) ⟨hx, hb, hml, hown, hts⟩ (c_X_refuse_5 l D cI cJ cZ cP cS po x0 xs j0 k0 w0 rd mv xr (im) (lf) fr hy0 hy1 hy2 hy3 H.size) (cwV 1 hts gX7_copy_X7_refuse rfl rfl rfl ⟨rfl, dh_X7_refuse⟩ ⟨Nat.le_of_ble_eq_true rfl, Nat.le_of_ble_eq_true rfl⟩) hK hN (hZ.kept hS) hP hD hS hA [0, 1] [2, 3, 4, 5, 6] rfl rfl (by decide) (by decide) (by decide) (va_recv (q := (RX7, TX7, 9)) hK hP (ci := 7) (q0 := 0) rfl rfl) rfl hl.1 rfl (Nat.le_of_ble_eq_true rfl) dX7_copy_151 ⟨Nat.le_of_ble_eq_true rfl, Nat.le_of_ble_eq_true rfl⟩ (fun r_180 u_181 H locs hr_180 hP hD hS => ?_)
                                    obtain ⟨q_182, rfl⟩ : ∃ z, z = u_181 := ⟨_, rfl⟩
                                    have h9R := zRe (ws' := [(xs, .inl (cS, 8, .inr (.inr (.inr (.inr fh))))), (h0, .inr (4, [.ref e0, .int he, .int si])), (e0, .inl (cJ, 160, .inr (.inl fe))), (g0, .inr (4, [.ref e1, .int ge, .int gs])), (e1, .inl (cJ, 160, .inr (.inl fe1))), (x0, .inr (7, [.ref xs, .ref j0, .ref k0, .ref w0, .ref rd, .ref mv, .ref xr, .int im, .int lf])), (xr, .inl (cI, 8, .inl q_182))]) hP hD rfl
                                    clear hP hD
                                    obtain ⟨hP, hD⟩ := h9R
                                    obtain rfl := hr_180
                                    exact W.iret (v := (-5)) hx hb hr (fun t ht hW => ⟨⟨(-5), (fe1, q_182), rfl, ⟨(show ((-5) : Int32).toInt = zCopR s_.toInt q_.toInt he.toInt ge.toInt si.toInt gs.toInt i.toInt j.toInt n.toInt from by (have k9 : ((-5) : Int32).toInt = -5 := (by decide); unfold zCopR; (repeat (first | rw [if_pos (by omega)] | rw [if_neg (by omega)])) <;> omega)), (show (((-5) : Int32).toInt = 1 → fe1 = va_cpy fe fe1 i.toNatClampNeg j.toNatClampNeg n.toNatClampNeg) from by (have k9 : ((-5) : Int32).toInt = -5 := (by decide); intro h; exfalso; omega)), (show (((-5) : Int32).toInt ≠ 1 → fe1 = fe1) from by (have k9 : ((-5) : Int32).toInt = -5 := (by decide); intro h; exact rfl)), trivial⟩, zRet ht hP hD [5, 6, 0, 1, 2, 3, 4] (by decide) rfl⟩, hS.F ht⟩) hS.2.2 dX7_copy_154
                                · exfalso; omega
                                · refine lv_if_ne (tgt := 155) hx hb dX7_copy_146 (by decide) (fun c_183 => ?_) (fun c_183 => ?_)
                                  · exact absurd c_183 (by decide)
                                  · refine lv_aload_n hx hb dX7_copy_149 rfl (lv_at hl 5 rfl) ?_
                                    refine lv_iconst (v := 5) hx hb dX7_copy_150 (by decide) ?_
                                    skip
                                    refine zw_V (As := [.int 5]) (rest := []) (wr := [(xs, .inl (cS, 8, .inr (.inr (.inr (.inr fh))))), (h0, .inr (4, [.ref e0, .int he, .int si])), (e0, .inl (cJ, 160, .inr (.inl fe))), (g0, .inr (4, [.ref e1, .int ge, .int gs])), (e1, .inl (cJ, 160, .inr (.inl fe1)))]) ⟨hx, hb, hml, hown, hts⟩ (c_X_refuse_5 l D cI cJ cZ cP cS po x0 xs j0 k0 w0 rd mv xr (im) (lf) fr hy0 hy1 hy2 hy3 H.size) (cwV 1 hts gX7_copy_X7_refuse rfl rfl rfl ⟨rfl, dh_X7_refuse⟩ ⟨Nat.le_of_ble_eq_true rfl, Nat.le_of_ble_eq_true rfl⟩) hK hN (hZ.kept hS) hP hD hS hA [0, 1] [2, 3, 4, 5, 6] rfl rfl (by decide) (by decide) (by decide) (va_recv (q := (RX7, TX7, 9)) hK hP (ci := 7) (q0 := 0) rfl rfl) rfl hl.1 rfl (Nat.le_of_ble_eq_true rfl) dX7_copy_151 ⟨Nat.le_of_ble_eq_true rfl, Nat.le_of_ble_eq_true rfl⟩ (fun r_184 u_185 H locs hr_184 hP hD hS => ?_)
                                    obtain ⟨q_186, rfl⟩ : ∃ z, z = u_185 := ⟨_, rfl⟩
                                    have h9R := zRe (ws' := [(xs, .inl (cS, 8, .inr (.inr (.inr (.inr fh))))), (h0, .inr (4, [.ref e0, .int he, .int si])), (e0, .inl (cJ, 160, .inr (.inl fe))), (g0, .inr (4, [.ref e1, .int ge, .int gs])), (e1, .inl (cJ, 160, .inr (.inl fe1))), (x0, .inr (7, [.ref xs, .ref j0, .ref k0, .ref w0, .ref rd, .ref mv, .ref xr, .int im, .int lf])), (xr, .inl (cI, 8, .inl q_186))]) hP hD rfl
                                    clear hP hD
                                    obtain ⟨hP, hD⟩ := h9R
                                    obtain rfl := hr_184
                                    exact W.iret (v := (-5)) hx hb hr (fun t ht hW => ⟨⟨(-5), (fe1, q_186), rfl, ⟨(show ((-5) : Int32).toInt = zCopR s_.toInt q_.toInt he.toInt ge.toInt si.toInt gs.toInt i.toInt j.toInt n.toInt from by (have k9 : ((-5) : Int32).toInt = -5 := (by decide); unfold zCopR; (repeat (first | rw [if_pos (by omega)] | rw [if_neg (by omega)])) <;> omega)), (show (((-5) : Int32).toInt = 1 → fe1 = va_cpy fe fe1 i.toNatClampNeg j.toNatClampNeg n.toNatClampNeg) from by (have k9 : ((-5) : Int32).toInt = -5 := (by decide); intro h; exfalso; omega)), (show (((-5) : Int32).toInt ≠ 1 → fe1 = fe1) from by (have k9 : ((-5) : Int32).toInt = -5 := (by decide); intro h; exact rfl)), trivial⟩, zRet ht hP hD [5, 6, 0, 1, 2, 3, 4] (by decide) rfl⟩, hS.F ht⟩) hS.2.2 dX7_copy_154
                                · refine lv_if_ne (tgt := 155) hx hb dX7_copy_146 (by decide) (fun c_187 => ?_) (fun c_187 => ?_)
                                  · exact absurd c_187 (by decide)
                                  · refine lv_aload_n hx hb dX7_copy_149 rfl (lv_at hl 5 rfl) ?_
                                    refine lv_iconst (v := 5) hx hb dX7_copy_150 (by decide) ?_
                                    skip
                                    refine zw_V (As := [.int 5]) (rest := []) (wr := [(xs, .inl (cS, 8, .inr (.inr (.inr (.inr fh))))), (h0, .inr (4, [.ref e0, .int he, .int si])), (e0, .inl (cJ, 160, .inr (.inl fe))), (g0, .inr (4, [.ref e1, .int ge, .int gs])), (e1, .inl (cJ, 160, .inr (.inl fe1)))]) ⟨hx, hb, hml, hown, hts⟩ (c_X_refuse_5 l D cI cJ cZ cP cS po x0 xs j0 k0 w0 rd mv xr (im) (lf) fr hy0 hy1 hy2 hy3 H.size) (cwV 1 hts gX7_copy_X7_refuse rfl rfl rfl ⟨rfl, dh_X7_refuse⟩ ⟨Nat.le_of_ble_eq_true rfl, Nat.le_of_ble_eq_true rfl⟩) hK hN (hZ.kept hS) hP hD hS hA [0, 1] [2, 3, 4, 5, 6] rfl rfl (by decide) (by decide) (by decide) (va_recv (q := (RX7, TX7, 9)) hK hP (ci := 7) (q0 := 0) rfl rfl) rfl hl.1 rfl (Nat.le_of_ble_eq_true rfl) dX7_copy_151 ⟨Nat.le_of_ble_eq_true rfl, Nat.le_of_ble_eq_true rfl⟩ (fun r_188 u_189 H locs hr_188 hP hD hS => ?_)
                                    obtain ⟨q_190, rfl⟩ : ∃ z, z = u_189 := ⟨_, rfl⟩
                                    have h9R := zRe (ws' := [(xs, .inl (cS, 8, .inr (.inr (.inr (.inr fh))))), (h0, .inr (4, [.ref e0, .int he, .int si])), (e0, .inl (cJ, 160, .inr (.inl fe))), (g0, .inr (4, [.ref e1, .int ge, .int gs])), (e1, .inl (cJ, 160, .inr (.inl fe1))), (x0, .inr (7, [.ref xs, .ref j0, .ref k0, .ref w0, .ref rd, .ref mv, .ref xr, .int im, .int lf])), (xr, .inl (cI, 8, .inl q_190))]) hP hD rfl
                                    clear hP hD
                                    obtain ⟨hP, hD⟩ := h9R
                                    obtain rfl := hr_188
                                    exact W.iret (v := (-5)) hx hb hr (fun t ht hW => ⟨⟨(-5), (fe1, q_190), rfl, ⟨(show ((-5) : Int32).toInt = zCopR s_.toInt q_.toInt he.toInt ge.toInt si.toInt gs.toInt i.toInt j.toInt n.toInt from by (have k9 : ((-5) : Int32).toInt = -5 := (by decide); unfold zCopR; (repeat (first | rw [if_pos (by omega)] | rw [if_neg (by omega)])) <;> omega)), (show (((-5) : Int32).toInt = 1 → fe1 = va_cpy fe fe1 i.toNatClampNeg j.toNatClampNeg n.toNatClampNeg) from by (have k9 : ((-5) : Int32).toInt = -5 := (by decide); intro h; exfalso; omega)), (show (((-5) : Int32).toInt ≠ 1 → fe1 = fe1) from by (have k9 : ((-5) : Int32).toInt = -5 := (by decide); intro h; exact rfl)), trivial⟩, zRet ht hP hD [5, 6, 0, 1, 2, 3, 4] (by decide) rfl⟩, hS.F ht⟩) hS.2.2 dX7_copy_154
                                · refine lv_if_ne (tgt := 155) hx hb dX7_copy_146 (by decide) (fun c_191 => ?_) (fun c_191 => ?_)
                                  · refine lv_aload hx hb dX7_copy_155 (lv_at hl 4 rfl) ?_
                                    refine va_get (D := D) (ci := 4) (v := .ref e0) (C := RX4) (T := TX4) (N := 3) hx hb hts hi_X7_copy_4 hown hK hP 3 rfl rfl 0 (by decide) (hts (.fieldLink RX7 90 "TheLiningsInIt$Shelf" "elements" "[J") (List.mem_of_getElem? (i := 2) rfl)) (fun _ h9 => h9) rfl dX7_copy_157 ?_
                                    refine lv_iload_n hx hb dX7_copy_160 rfl (lv_at hl 8 rfl) ?_
                                    refine lv_aload hx hb dX7_copy_161 (lv_at hl 3 rfl) ?_
                                    refine va_get (D := D) (ci := 4) (v := .ref e1) (C := RX4) (T := TX4) (N := 3) hx hb hts hi_X7_copy_4 hown hK hP 5 rfl rfl 0 (by decide) (hts (.fieldLink RX7 90 "TheLiningsInIt$Shelf" "elements" "[J") (List.mem_of_getElem? (i := 2) rfl)) (fun _ h9 => h9) rfl dX7_copy_163 ?_
                                    refine lv_iload hx hb dX7_copy_166 (lv_at hl 9 rfl) ?_
                                    refine lv_iload hx hb dX7_copy_168 (lv_at hl 10 rfl) ?_
                                    refine va_copyl hx hb (hml.trans hl.1.symm) hown (hts (.methodLink RX7 94 arraycopyName) (List.mem_of_getElem? (i := 3) rfl)) (hts _ (List.mem_of_getElem? (i := 4) rfl)) (hts _ (List.mem_of_getElem? (i := 5) rfl)) (hts _ (List.mem_of_getElem? (i := 6) rfl)) hK hP hD hS 4 6 1 1 rfl rfl rfl rfl rfl (fun h => by have h9 := zf_lt h rfl (show (0 : Int32).toInt = 0 from by decide); omega) (fun h => by have h9 := zf_lt h rfl (show (0 : Int32).toInt = 0 from by decide); omega) (fun h => by have h9 := zf_lt h rfl (show (0 : Int32).toInt = 0 from by decide); omega) (by (show (i : Int32).toInt.toNat + (n : Int32).toInt.toNat ≤ 160; omega)) (by (show (j : Int32).toInt.toNat + (n : Int32).toInt.toNat ≤ 160; omega)) (fun _ _ => rfl) (Nat.le_of_ble_eq_true rfl) (by decide) dX7_copy_170 (fun H locs hP hD hS => ?_)
                                    obtain ⟨g_192, hg_192⟩ : ∃ g : Nat → Int64, g = va_cpy fe fe1 i.toNatClampNeg j.toNatClampNeg n.toNatClampNeg := ⟨_, rfl⟩
                                    rw [← hg_192] at hP hD
                                    have h9R := zRe (ws' := [(x0, .inr (7, [.ref xs, .ref j0, .ref k0, .ref w0, .ref rd, .ref mv, .ref xr, .int im, .int lf])), (xr, .inl (cI, 8, .inl fr)), (xs, .inl (cS, 8, .inr (.inr (.inr (.inr fh))))), (h0, .inr (4, [.ref e0, .int he, .int si])), (e0, .inl (cJ, 160, .inr (.inl fe))), (g0, .inr (4, [.ref e1, .int ge, .int gs])), (e1, .inl (cJ, 160, .inr (.inl g_192)))]) hP hD rfl
                                    clear hP hD
                                    obtain ⟨hP, hD⟩ := h9R
                                    refine lv_iconst (v := 1) hx hb dX7_copy_173 (by decide) ?_
                                    exact W.iret (v := 1) hx hb hr (fun t ht hW => ⟨⟨1, (g_192, fr), rfl, ⟨(show (1 : Int32).toInt = zCopR s_.toInt q_.toInt he.toInt ge.toInt si.toInt gs.toInt i.toInt j.toInt n.toInt from by (have k9 : (1 : Int32).toInt = 1 := (by decide); unfold zCopR; (repeat (first | rw [if_pos (by omega)] | rw [if_neg (by omega)])) <;> omega)), (show ((1 : Int32).toInt = 1 → g_192 = va_cpy fe fe1 i.toNatClampNeg j.toNatClampNeg n.toNatClampNeg) from by (have k9 : (1 : Int32).toInt = 1 := (by decide); intro h; exact (by rw [hg_192]))), (show ((1 : Int32).toInt ≠ 1 → g_192 = fe1) from by (have k9 : (1 : Int32).toInt = 1 := (by decide); intro h; exfalso; omega)), trivial⟩, zRet ht hP hD [0, 1, 2, 3, 4, 5, 6] (by decide) rfl⟩, hS.F ht⟩) hS.2.2 dX7_copy_174
                                  · exact absurd c_191 (by decide)
                          · have fc_135 : n.toInt < 0 := zf_nle c_135 (by decide) rfl
                            refine lv_aload_n hx hb dX7_copy_120 rfl (lv_at hl 5 rfl) ?_
                            refine lv_iconst (v := 4) hx hb dX7_copy_121 (by decide) ?_
                            skip
                            refine zw_V (As := [.int 4]) (rest := []) (wr := [(xs, .inl (cS, 8, .inr (.inr (.inr (.inr fh))))), (h0, .inr (4, [.ref e0, .int he, .int si])), (e0, .inl (cJ, 160, .inr (.inl fe))), (g0, .inr (4, [.ref e1, .int ge, .int gs])), (e1, .inl (cJ, 160, .inr (.inl fe1)))]) ⟨hx, hb, hml, hown, hts⟩ (c_X_refuse_4 l D cI cJ cZ cP cS po x0 xs j0 k0 w0 rd mv xr (im) (lf) fr hy0 hy1 hy2 hy3 H.size) (cwV 1 hts gX7_copy_X7_refuse rfl rfl rfl ⟨rfl, dh_X7_refuse⟩ ⟨Nat.le_of_ble_eq_true rfl, Nat.le_of_ble_eq_true rfl⟩) hK hN (hZ.kept hS) hP hD hS hA [0, 1] [2, 3, 4, 5, 6] rfl rfl (by decide) (by decide) (by decide) (va_recv (q := (RX7, TX7, 9)) hK hP (ci := 7) (q0 := 0) rfl rfl) rfl hl.1 rfl (Nat.le_of_ble_eq_true rfl) dX7_copy_122 ⟨Nat.le_of_ble_eq_true rfl, Nat.le_of_ble_eq_true rfl⟩ (fun r_193 u_194 H locs hr_193 hP hD hS => ?_)
                            obtain ⟨q_195, rfl⟩ : ∃ z, z = u_194 := ⟨_, rfl⟩
                            have h9R := zRe (ws' := [(xs, .inl (cS, 8, .inr (.inr (.inr (.inr fh))))), (h0, .inr (4, [.ref e0, .int he, .int si])), (e0, .inl (cJ, 160, .inr (.inl fe))), (g0, .inr (4, [.ref e1, .int ge, .int gs])), (e1, .inl (cJ, 160, .inr (.inl fe1))), (x0, .inr (7, [.ref xs, .ref j0, .ref k0, .ref w0, .ref rd, .ref mv, .ref xr, .int im, .int lf])), (xr, .inl (cI, 8, .inl q_195))]) hP hD rfl
                            clear hP hD
                            obtain ⟨hP, hD⟩ := h9R
                            obtain rfl := hr_193
                            exact W.iret (v := (-4)) hx hb hr (fun t ht hW => ⟨⟨(-4), (fe1, q_195), rfl, ⟨(show ((-4) : Int32).toInt = zCopR s_.toInt q_.toInt he.toInt ge.toInt si.toInt gs.toInt i.toInt j.toInt n.toInt from by (have k9 : ((-4) : Int32).toInt = -4 := (by decide); unfold zCopR; (repeat (first | rw [if_pos (by omega)] | rw [if_neg (by omega)])) <;> omega)), (show (((-4) : Int32).toInt = 1 → fe1 = va_cpy fe fe1 i.toNatClampNeg j.toNatClampNeg n.toNatClampNeg) from by (have k9 : ((-4) : Int32).toInt = -4 := (by decide); intro h; exfalso; omega)), (show (((-4) : Int32).toInt ≠ 1 → fe1 = fe1) from by (have k9 : ((-4) : Int32).toInt = -4 := (by decide); intro h; exact rfl)), trivial⟩, zRet ht hP hD [5, 6, 0, 1, 2, 3, 4] (by decide) rfl⟩, hS.F ht⟩) hS.2.2 dX7_copy_125
                        · exact absurd c_134 (by decide)
                    · exact absurd c_132 (by decide)
              · have fc_129 : he.toInt ≠ ge.toInt := zf_ne c_129 rfl rfl
                refine lv_iconst (v := 1) hx hb dX7_copy_67 (by decide) ?_
                refine lv_goto (tgt := 72) hx hb dX7_copy_68 (by decide) ?_
                refine lv_istore (lv' := [(10, .int 1), (9, .int 0), (8, .int 0), (7, .ref g0), (6, .ref h0), (0, .ref x0), (1, .int s_), (2, .int q_), (3, .int i), (4, .int j), (5, .int n)]) hx hb dX7_copy_72 hl (by decide) rfl (fun ls hl => ?_)
                refine lv_iload hx hb dX7_copy_74 (lv_at hl 2 rfl) ?_
                refine lv_iconst (v := 2) hx hb dX7_copy_76 (by decide) ?_
                refine lv_icmp_eq (tgt := 91) hx hb dX7_copy_77 (by decide) (fun c_196 => ?_) (fun c_196 => ?_)
                · exact absurd c_196 (by decide)
                · refine lv_iload hx hb dX7_copy_80 (lv_at hl 1 rfl) ?_
                  refine lv_iconst (v := 2) hx hb dX7_copy_82 (by decide) ?_
                  refine lv_icmp_eq (tgt := 91) hx hb dX7_copy_83 (by decide) (fun c_197 => ?_) (fun c_197 => ?_)
                  · exact absurd c_197 (by decide)
                  · refine lv_iload hx hb dX7_copy_86 (lv_at hl 0 rfl) ?_
                    refine lv_if_eq (tgt := 97) hx hb dX7_copy_88 (by decide) (fun c_198 => ?_) (fun c_198 => ?_)
                    · exact absurd c_198 (by decide)
                    · refine lv_aload_n hx hb dX7_copy_91 rfl (lv_at hl 5 rfl) ?_
                      refine lv_iconst (v := 2) hx hb dX7_copy_92 (by decide) ?_
                      skip
                      refine zw_V (As := [.int 2]) (rest := []) (wr := [(xs, .inl (cS, 8, .inr (.inr (.inr (.inr fh))))), (h0, .inr (4, [.ref e0, .int he, .int si])), (e0, .inl (cJ, 160, .inr (.inl fe))), (g0, .inr (4, [.ref e1, .int ge, .int gs])), (e1, .inl (cJ, 160, .inr (.inl fe1)))]) ⟨hx, hb, hml, hown, hts⟩ (c_X_refuse_2 l D cI cJ cZ cP cS po x0 xs j0 k0 w0 rd mv xr (im) (lf) fr hy0 hy1 hy2 hy3 H.size) (cwV 1 hts gX7_copy_X7_refuse rfl rfl rfl ⟨rfl, dh_X7_refuse⟩ ⟨Nat.le_of_ble_eq_true rfl, Nat.le_of_ble_eq_true rfl⟩) hK hN (hZ.kept hS) hP hD hS hA [0, 1] [2, 3, 4, 5, 6] rfl rfl (by decide) (by decide) (by decide) (va_recv (q := (RX7, TX7, 9)) hK hP (ci := 7) (q0 := 0) rfl rfl) rfl hl.1 rfl (Nat.le_of_ble_eq_true rfl) dX7_copy_93 ⟨Nat.le_of_ble_eq_true rfl, Nat.le_of_ble_eq_true rfl⟩ (fun r_199 u_200 H locs hr_199 hP hD hS => ?_)
                      obtain ⟨q_201, rfl⟩ : ∃ z, z = u_200 := ⟨_, rfl⟩
                      have h9R := zRe (ws' := [(xs, .inl (cS, 8, .inr (.inr (.inr (.inr fh))))), (h0, .inr (4, [.ref e0, .int he, .int si])), (e0, .inl (cJ, 160, .inr (.inl fe))), (g0, .inr (4, [.ref e1, .int ge, .int gs])), (e1, .inl (cJ, 160, .inr (.inl fe1))), (x0, .inr (7, [.ref xs, .ref j0, .ref k0, .ref w0, .ref rd, .ref mv, .ref xr, .int im, .int lf])), (xr, .inl (cI, 8, .inl q_201))]) hP hD rfl
                      clear hP hD
                      obtain ⟨hP, hD⟩ := h9R
                      obtain rfl := hr_199
                      exact W.iret (v := (-2)) hx hb hr (fun t ht hW => ⟨⟨(-2), (fe1, q_201), rfl, ⟨(show ((-2) : Int32).toInt = zCopR s_.toInt q_.toInt he.toInt ge.toInt si.toInt gs.toInt i.toInt j.toInt n.toInt from by (have k9 : ((-2) : Int32).toInt = -2 := (by decide); unfold zCopR; (repeat (first | rw [if_pos (by omega)] | rw [if_neg (by omega)])) <;> omega)), (show (((-2) : Int32).toInt = 1 → fe1 = va_cpy fe fe1 i.toNatClampNeg j.toNatClampNeg n.toNatClampNeg) from by (have k9 : ((-2) : Int32).toInt = -2 := (by decide); intro h; exfalso; omega)), (show (((-2) : Int32).toInt ≠ 1 → fe1 = fe1) from by (have k9 : ((-2) : Int32).toInt = -2 := (by decide); intro h; exact rfl)), trivial⟩, zRet ht hP hD [5, 6, 0, 1, 2, 3, 4] (by decide) rfl⟩, hS.F ht⟩) hS.2.2 dX7_copy_96
set_option maxHeartbeats 4000000 in
set_option maxRecDepth 100000 in
theorem c_F_X_copy_same (l : Launch) (D : va_G) (cI cJ cZ cP cS : ClassId) (po : zPool) (x0 xs j0 k0 w0 rd mv xr : Nat) (im lf : Int32) (fr : Nat → Int32) (fh : Nat → Option Nat) (s_ : Int32) (h0 e0 : Nat) (he si : Int32) (fe : Nat → Int64) (q_ : Int32) (i j n : Int32) (hy0 : 0 ≤ im.toInt) (hy1 : im.toInt ≤ 1) (hy2 : (-1) ≤ lf.toInt) (hy3 : lf.toInt ≤ 160) (hy4 : (-1) ≤ he.toInt) (hy5 : he.toInt ≤ 103) (hy6 : 0 ≤ si.toInt) (hy7 : si.toInt ≤ 160) (hfs : 0 ≤ s_.toInt → s_.toInt ≤ 7 → fh s_.toNatClampNeg = some h0) (hfq : 0 ≤ q_.toInt → q_.toInt ≤ 7 → fh q_.toNatClampNeg = some h0) (hpz : Nat) : Met l yX7_copy wsX7_copy ({ frames := 2, cells := 0, slots := 0, locals := 100 }) (va_Pc [.ref x0, .int s_, .int q_, .int i, .int j, .int n] (zW D (zKT cI cJ cZ cP cS) po [(x0, .inr (7, [.ref xs, .ref j0, .ref k0, .ref w0, .ref rd, .ref mv, .ref xr, .int im, .int lf])), (xr, .inl (cI, 8, .inl fr)), (xs, .inl (cS, 8, .inr (.inr (.inr (.inr fh))))), (h0, .inr (4, [.ref e0, .int he, .int si])), (e0, .inl (cJ, 160, .inr (.inl fe)))] hpz)) (va_Qi (fun (r : Int32) (u : (Nat → Int64) × (Nat → Int32)) => (r.toInt = zCopR s_.toInt q_.toInt he.toInt he.toInt si.toInt si.toInt i.toInt j.toInt n.toInt) ∧ ((r.toInt = 1 → u.1 = va_cpy fe fe i.toNatClampNeg j.toNatClampNeg n.toNatClampNeg)) ∧ ((r.toInt ≠ 1 → u.1 = fe)) ∧ (True)) (zB D [(x0, .inr (7, [.ref xs, .ref j0, .ref k0, .ref w0, .ref rd, .ref mv, .ref xr, .int im, .int lf])), (xr, .inl (cI, 8, .inl fr)), (xs, .inl (cS, 8, .inr (.inr (.inr (.inr fh))))), (h0, .inr (4, [.ref e0, .int he, .int si])), (e0, .inl (cJ, 160, .inr (.inl fe)))] hpz (fun (u : (Nat → Int64) × (Nat → Int32)) => [(x0, .inr (7, [.ref xs, .ref j0, .ref k0, .ref w0, .ref rd, .ref mv, .ref xr, .int im, .int lf])), (xr, .inl (cI, 8, .inl u.2)), (xs, .inl (cS, 8, .inr (.inr (.inr (.inr fh))))), (h0, .inr (4, [.ref e0, .int he, .int si])), (e0, .inl (cJ, 160, .inr (.inl u.1)))])) (va_A [(x0, .inr (7, [.ref xs, .ref j0, .ref k0, .ref w0, .ref rd, .ref mv, .ref xr, .int im, .int lf])), (xr, .inl (cI, 8, .inl fr)), (xs, .inl (cS, 8, .inr (.inr (.inr (.inr fh))))), (h0, .inr (4, [.ref e0, .int he, .int si])), (e0, .inl (cJ, 160, .inr (.inl fe)))] hpz)) 0 0 (va_A [(x0, .inr (7, [.ref xs, .ref j0, .ref k0, .ref w0, .ref rd, .ref mv, .ref xr, .int im, .int lf])), (xr, .inl (cI, 8, .inl fr)), (xs, .inl (cS, 8, .inr (.inr (.inr (.inr fh))))), (h0, .inr (4, [.ref e0, .int he, .int si])), (e0, .inl (cJ, 160, .inr (.inl fe)))] hpz) := by
  refine Met.ofW (cc := cX7_copy) (maxL := 11) (ret := (some .int)) (by decide) rfl ?_
  intro p e s m args below meth c s₁ B hml hv
  obtain ⟨rfl, hsz, hP, hK, hD0, hN, hZ⟩ := hv
  have hx := B.exec
  have hb := B.bytes
  have hr := B.returns
  have hts := atoms_spec (ws := wsX7_copy) B.pre
  have hown : s.vm.findClass RX7 = some m.cls := findClass_of_methodNamed B.named
  have hlocks := B.notSynchronized
  subst hsz
  have hD := hD0.self (sz := s.heap.size)
  have hA := zA_of hD
  have hl := lv_entry ([.ref x0, .int s_, .int q_, .int i, .int j, .int n]) (n := 11) (Nat.le_of_ble_eq_true rfl)
  rw [lg_entry_eq]
  generalize (lg_sl ([.ref x0, .int s_, .int q_, .int i, .int j, .int n]) ++ List.replicate (11 - (lg_sl ([.ref x0, .int s_, .int q_, .int i, .int j, .int n])).length) Slot.unset).toArray = ls at hl ⊢
  replace hl : lv_has ls 11 [(0, .ref x0), (1, .int s_), (2, .int q_), (3, .int i), (4, .int j), (5, .int n)] := hl
  refine zw_begin hP hD (fun H locs hP1 hS => ?_)
  clear hP
  have hP := hP1
  clear hP1
  refine lv_aload_n hx hb dX7_copy_0 rfl (lv_at hl 0 rfl) ?_
  refine lv_iload_n hx hb dX7_copy_1 rfl (lv_at hl 1 rfl) ?_
  refine zc_Vq (As := [.int s_]) (rest := []) ⟨hx, hb, hml, hown, hts⟩ (c_X_shelfAt l D cI cJ cZ cP cS po x0 xs j0 k0 w0 rd mv xr (im) (lf) ((fun _ => 0)) fh (s_) hy0 hy1 hy2 hy3) (cwV 1 hts gX7_copy_X7_shelfAt rfl rfl rfl ⟨rfl, dh_X7_shelfAt⟩ ⟨Nat.le_of_ble_eq_true rfl, Nat.le_of_ble_eq_true rfl⟩) hK hN (hZ.kept hS) hP (hP.sub [0, 2] rfl) (va_recv (q := (RX7, TX7, 9)) hK hP (ci := 7) (q0 := 0) rfl rfl) rfl hl.1 rfl (Nat.le_of_ble_eq_true rfl) dX7_copy_2 ⟨Nat.le_of_ble_eq_true rfl, Nat.le_of_ble_eq_true rfl⟩ (fun r_1 hr_1 => ?_)
  rcases hr_1 with ⟨rfl, g_2⟩ | ⟨rfl, g_3, g_4⟩ | ⟨rfl, g_5, g_6⟩
  · refine lv_astoreN (lv' := [(6, .null), (0, .ref x0), (1, .int s_), (2, .int q_), (3, .int i), (4, .int j), (5, .int n)]) hx hb dX7_copy_5 hl (by decide) rfl (fun ls hl => ?_)
    refine lv_aload_n hx hb dX7_copy_7 rfl (lv_at hl 1 rfl) ?_
    refine lv_iload_n hx hb dX7_copy_8 rfl (lv_at hl 3 rfl) ?_
    refine zc_Vq (As := [.int q_]) (rest := []) ⟨hx, hb, hml, hown, hts⟩ (c_X_shelfAt l D cI cJ cZ cP cS po x0 xs j0 k0 w0 rd mv xr (im) (lf) ((fun _ => 0)) fh (q_) hy0 hy1 hy2 hy3) (cwV 1 hts gX7_copy_X7_shelfAt rfl rfl rfl ⟨rfl, dh_X7_shelfAt⟩ ⟨Nat.le_of_ble_eq_true rfl, Nat.le_of_ble_eq_true rfl⟩) hK hN (hZ.kept hS) hP (hP.sub [0, 2] rfl) (va_recv (q := (RX7, TX7, 9)) hK hP (ci := 7) (q0 := 0) rfl rfl) rfl hl.1 rfl (Nat.le_of_ble_eq_true rfl) dX7_copy_9 ⟨Nat.le_of_ble_eq_true rfl, Nat.le_of_ble_eq_true rfl⟩ (fun r_7 hr_7 => ?_)
    rcases hr_7 with ⟨rfl, g_8⟩ | ⟨rfl, g_9, g_10⟩ | ⟨rfl, g_11, g_12⟩
    · refine lv_astoreN (lv' := [(7, .null), (6, .null), (0, .ref x0), (1, .int s_), (2, .int q_), (3, .int i), (4, .int j), (5, .int n)]) hx hb dX7_copy_12 hl (by decide) rfl (fun ls hl => ?_)
      refine lv_aloadN hx hb dX7_copy_14 (lv_at hl 1 rfl) ?_
      refine lv_ifnullN (tgt := 24) hx hb dX7_copy_16 (by decide) ?_
      refine lv_aload_n hx hb dX7_copy_24 rfl (lv_at hl 2 rfl) ?_
      refine lv_iconst (v := 1) hx hb dX7_copy_25 (by decide) ?_
      skip
      refine zw_V (As := [.int 1]) (rest := []) (wr := [(xs, .inl (cS, 8, .inr (.inr (.inr (.inr fh))))), (h0, .inr (4, [.ref e0, .int he, .int si])), (e0, .inl (cJ, 160, .inr (.inl fe)))]) ⟨hx, hb, hml, hown, hts⟩ (c_X_refuse_1 l D cI cJ cZ cP cS po x0 xs j0 k0 w0 rd mv xr (im) (lf) fr hy0 hy1 hy2 hy3 H.size) (cwV 1 hts gX7_copy_X7_refuse rfl rfl rfl ⟨rfl, dh_X7_refuse⟩ ⟨Nat.le_of_ble_eq_true rfl, Nat.le_of_ble_eq_true rfl⟩) hK hN (hZ.kept hS) hP hD hS hA [0, 1] [2, 3, 4] rfl rfl (by decide) (by decide) (by decide) (va_recv (q := (RX7, TX7, 9)) hK hP (ci := 7) (q0 := 0) rfl rfl) rfl hl.1 rfl (Nat.le_of_ble_eq_true rfl) dX7_copy_26 ⟨Nat.le_of_ble_eq_true rfl, Nat.le_of_ble_eq_true rfl⟩ (fun r_13 u_14 H locs hr_13 hP hD hS => ?_)
      obtain ⟨q_15, rfl⟩ : ∃ z, z = u_14 := ⟨_, rfl⟩
      have h9R := zRe (ws' := [(xs, .inl (cS, 8, .inr (.inr (.inr (.inr fh))))), (h0, .inr (4, [.ref e0, .int he, .int si])), (e0, .inl (cJ, 160, .inr (.inl fe))), (x0, .inr (7, [.ref xs, .ref j0, .ref k0, .ref w0, .ref rd, .ref mv, .ref xr, .int im, .int lf])), (xr, .inl (cI, 8, .inl q_15))]) hP hD rfl
      clear hP hD
      obtain ⟨hP, hD⟩ := h9R
      obtain rfl := hr_13
      exact W.iret (v := (-1)) hx hb hr (fun t ht hW => ⟨⟨(-1), (fe, q_15), rfl, ⟨(show ((-1) : Int32).toInt = zCopR s_.toInt q_.toInt he.toInt he.toInt si.toInt si.toInt i.toInt j.toInt n.toInt from by (have k9 : ((-1) : Int32).toInt = -1 := (by decide); unfold zCopR; (repeat (first | rw [if_pos (by omega)] | rw [if_neg (by omega)])) <;> omega)), (show (((-1) : Int32).toInt = 1 → fe = va_cpy fe fe i.toNatClampNeg j.toNatClampNeg n.toNatClampNeg) from by (have k9 : ((-1) : Int32).toInt = -1 := (by decide); intro h; exfalso; omega)), (show (((-1) : Int32).toInt ≠ 1 → fe = fe) from by (have k9 : ((-1) : Int32).toInt = -1 := (by decide); intro h; exact rfl)), trivial⟩, zRet ht hP hD [3, 4, 0, 1, 2] (by decide) rfl⟩, hS.F ht⟩) hS.2.2 dX7_copy_29
    · refine lv_astoreN (lv' := [(7, .null), (6, .null), (0, .ref x0), (1, .int s_), (2, .int q_), (3, .int i), (4, .int j), (5, .int n)]) hx hb dX7_copy_12 hl (by decide) rfl (fun ls hl => ?_)
      refine lv_aloadN hx hb dX7_copy_14 (lv_at hl 1 rfl) ?_
      refine lv_ifnullN (tgt := 24) hx hb dX7_copy_16 (by decide) ?_
      refine lv_aload_n hx hb dX7_copy_24 rfl (lv_at hl 2 rfl) ?_
      refine lv_iconst (v := 1) hx hb dX7_copy_25 (by decide) ?_
      skip
      refine zw_V (As := [.int 1]) (rest := []) (wr := [(xs, .inl (cS, 8, .inr (.inr (.inr (.inr fh))))), (h0, .inr (4, [.ref e0, .int he, .int si])), (e0, .inl (cJ, 160, .inr (.inl fe)))]) ⟨hx, hb, hml, hown, hts⟩ (c_X_refuse_1 l D cI cJ cZ cP cS po x0 xs j0 k0 w0 rd mv xr (im) (lf) fr hy0 hy1 hy2 hy3 H.size) (cwV 1 hts gX7_copy_X7_refuse rfl rfl rfl ⟨rfl, dh_X7_refuse⟩ ⟨Nat.le_of_ble_eq_true rfl, Nat.le_of_ble_eq_true rfl⟩) hK hN (hZ.kept hS) hP hD hS hA [0, 1] [2, 3, 4] rfl rfl (by decide) (by decide) (by decide) (va_recv (q := (RX7, TX7, 9)) hK hP (ci := 7) (q0 := 0) rfl rfl) rfl hl.1 rfl (Nat.le_of_ble_eq_true rfl) dX7_copy_26 ⟨Nat.le_of_ble_eq_true rfl, Nat.le_of_ble_eq_true rfl⟩ (fun r_16 u_17 H locs hr_16 hP hD hS => ?_)
      obtain ⟨q_18, rfl⟩ : ∃ z, z = u_17 := ⟨_, rfl⟩
      have h9R := zRe (ws' := [(xs, .inl (cS, 8, .inr (.inr (.inr (.inr fh))))), (h0, .inr (4, [.ref e0, .int he, .int si])), (e0, .inl (cJ, 160, .inr (.inl fe))), (x0, .inr (7, [.ref xs, .ref j0, .ref k0, .ref w0, .ref rd, .ref mv, .ref xr, .int im, .int lf])), (xr, .inl (cI, 8, .inl q_18))]) hP hD rfl
      clear hP hD
      obtain ⟨hP, hD⟩ := h9R
      obtain rfl := hr_16
      exact W.iret (v := (-1)) hx hb hr (fun t ht hW => ⟨⟨(-1), (fe, q_18), rfl, ⟨(show ((-1) : Int32).toInt = zCopR s_.toInt q_.toInt he.toInt he.toInt si.toInt si.toInt i.toInt j.toInt n.toInt from by (have k9 : ((-1) : Int32).toInt = -1 := (by decide); unfold zCopR; (repeat (first | rw [if_pos (by omega)] | rw [if_neg (by omega)])) <;> omega)), (show (((-1) : Int32).toInt = 1 → fe = va_cpy fe fe i.toNatClampNeg j.toNatClampNeg n.toNatClampNeg) from by (have k9 : ((-1) : Int32).toInt = -1 := (by decide); intro h; exfalso; omega)), (show (((-1) : Int32).toInt ≠ 1 → fe = fe) from by (have k9 : ((-1) : Int32).toInt = -1 := (by decide); intro h; exact rfl)), trivial⟩, zRet ht hP hD [3, 4, 0, 1, 2] (by decide) rfl⟩, hS.F ht⟩) hS.2.2 dX7_copy_29
    · rw [hfq (by omega) (by omega)]
      refine W.eq (g2 := F0 m 12 ls (.ref h0 :: [])) rfl ?_
      refine lv_astore (lv' := [(7, .ref h0), (6, .null), (0, .ref x0), (1, .int s_), (2, .int q_), (3, .int i), (4, .int j), (5, .int n)]) hx hb dX7_copy_12 hl (by decide) rfl (fun ls hl => ?_)
      refine lv_aloadN hx hb dX7_copy_14 (lv_at hl 1 rfl) ?_
      refine lv_ifnullN (tgt := 24) hx hb dX7_copy_16 (by decide) ?_
      refine lv_aload_n hx hb dX7_copy_24 rfl (lv_at hl 2 rfl) ?_
      refine lv_iconst (v := 1) hx hb dX7_copy_25 (by decide) ?_
      skip
      refine zw_V (As := [.int 1]) (rest := []) (wr := [(xs, .inl (cS, 8, .inr (.inr (.inr (.inr fh))))), (h0, .inr (4, [.ref e0, .int he, .int si])), (e0, .inl (cJ, 160, .inr (.inl fe)))]) ⟨hx, hb, hml, hown, hts⟩ (c_X_refuse_1 l D cI cJ cZ cP cS po x0 xs j0 k0 w0 rd mv xr (im) (lf) fr hy0 hy1 hy2 hy3 H.size) (cwV 1 hts gX7_copy_X7_refuse rfl rfl rfl ⟨rfl, dh_X7_refuse⟩ ⟨Nat.le_of_ble_eq_true rfl, Nat.le_of_ble_eq_true rfl⟩) hK hN (hZ.kept hS) hP hD hS hA [0, 1] [2, 3, 4] rfl rfl (by decide) (by decide) (by decide) (va_recv (q := (RX7, TX7, 9)) hK hP (ci := 7) (q0 := 0) rfl rfl) rfl hl.1 rfl (Nat.le_of_ble_eq_true rfl) dX7_copy_26 ⟨Nat.le_of_ble_eq_true rfl, Nat.le_of_ble_eq_true rfl⟩ (fun r_19 u_20 H locs hr_19 hP hD hS => ?_)
      obtain ⟨q_21, rfl⟩ : ∃ z, z = u_20 := ⟨_, rfl⟩
      have h9R := zRe (ws' := [(xs, .inl (cS, 8, .inr (.inr (.inr (.inr fh))))), (h0, .inr (4, [.ref e0, .int he, .int si])), (e0, .inl (cJ, 160, .inr (.inl fe))), (x0, .inr (7, [.ref xs, .ref j0, .ref k0, .ref w0, .ref rd, .ref mv, .ref xr, .int im, .int lf])), (xr, .inl (cI, 8, .inl q_21))]) hP hD rfl
      clear hP hD
      obtain ⟨hP, hD⟩ := h9R
      obtain rfl := hr_19
      exact W.iret (v := (-1)) hx hb hr (fun t ht hW => ⟨⟨(-1), (fe, q_21), rfl, ⟨(show ((-1) : Int32).toInt = zCopR s_.toInt q_.toInt he.toInt he.toInt si.toInt si.toInt i.toInt j.toInt n.toInt from by (have k9 : ((-1) : Int32).toInt = -1 := (by decide); unfold zCopR; (repeat (first | rw [if_pos (by omega)] | rw [if_neg (by omega)])) <;> omega)), (show (((-1) : Int32).toInt = 1 → fe = va_cpy fe fe i.toNatClampNeg j.toNatClampNeg n.toNatClampNeg) from by (have k9 : ((-1) : Int32).toInt = -1 := (by decide); intro h; exfalso; omega)), (show (((-1) : Int32).toInt ≠ 1 → fe = fe) from by (have k9 : ((-1) : Int32).toInt = -1 := (by decide); intro h; exact rfl)), trivial⟩, zRet ht hP hD [3, 4, 0, 1, 2] (by decide) rfl⟩, hS.F ht⟩) hS.2.2 dX7_copy_29
  · refine lv_astoreN (lv' := [(6, .null), (0, .ref x0), (1, .int s_), (2, .int q_), (3, .int i), (4, .int j), (5, .int n)]) hx hb dX7_copy_5 hl (by decide) rfl (fun ls hl => ?_)
    refine lv_aload_n hx hb dX7_copy_7 rfl (lv_at hl 1 rfl) ?_
    refine lv_iload_n hx hb dX7_copy_8 rfl (lv_at hl 3 rfl) ?_
    refine zc_Vq (As := [.int q_]) (rest := []) ⟨hx, hb, hml, hown, hts⟩ (c_X_shelfAt l D cI cJ cZ cP cS po x0 xs j0 k0 w0 rd mv xr (im) (lf) ((fun _ => 0)) fh (q_) hy0 hy1 hy2 hy3) (cwV 1 hts gX7_copy_X7_shelfAt rfl rfl rfl ⟨rfl, dh_X7_shelfAt⟩ ⟨Nat.le_of_ble_eq_true rfl, Nat.le_of_ble_eq_true rfl⟩) hK hN (hZ.kept hS) hP (hP.sub [0, 2] rfl) (va_recv (q := (RX7, TX7, 9)) hK hP (ci := 7) (q0 := 0) rfl rfl) rfl hl.1 rfl (Nat.le_of_ble_eq_true rfl) dX7_copy_9 ⟨Nat.le_of_ble_eq_true rfl, Nat.le_of_ble_eq_true rfl⟩ (fun r_22 hr_22 => ?_)
    rcases hr_22 with ⟨rfl, g_23⟩ | ⟨rfl, g_24, g_25⟩ | ⟨rfl, g_26, g_27⟩
    · refine lv_astoreN (lv' := [(7, .null), (6, .null), (0, .ref x0), (1, .int s_), (2, .int q_), (3, .int i), (4, .int j), (5, .int n)]) hx hb dX7_copy_12 hl (by decide) rfl (fun ls hl => ?_)
      refine lv_aloadN hx hb dX7_copy_14 (lv_at hl 1 rfl) ?_
      refine lv_ifnullN (tgt := 24) hx hb dX7_copy_16 (by decide) ?_
      refine lv_aload_n hx hb dX7_copy_24 rfl (lv_at hl 2 rfl) ?_
      refine lv_iconst (v := 1) hx hb dX7_copy_25 (by decide) ?_
      skip
      refine zw_V (As := [.int 1]) (rest := []) (wr := [(xs, .inl (cS, 8, .inr (.inr (.inr (.inr fh))))), (h0, .inr (4, [.ref e0, .int he, .int si])), (e0, .inl (cJ, 160, .inr (.inl fe)))]) ⟨hx, hb, hml, hown, hts⟩ (c_X_refuse_1 l D cI cJ cZ cP cS po x0 xs j0 k0 w0 rd mv xr (im) (lf) fr hy0 hy1 hy2 hy3 H.size) (cwV 1 hts gX7_copy_X7_refuse rfl rfl rfl ⟨rfl, dh_X7_refuse⟩ ⟨Nat.le_of_ble_eq_true rfl, Nat.le_of_ble_eq_true rfl⟩) hK hN (hZ.kept hS) hP hD hS hA [0, 1] [2, 3, 4] rfl rfl (by decide) (by decide) (by decide) (va_recv (q := (RX7, TX7, 9)) hK hP (ci := 7) (q0 := 0) rfl rfl) rfl hl.1 rfl (Nat.le_of_ble_eq_true rfl) dX7_copy_26 ⟨Nat.le_of_ble_eq_true rfl, Nat.le_of_ble_eq_true rfl⟩ (fun r_28 u_29 H locs hr_28 hP hD hS => ?_)
      obtain ⟨q_30, rfl⟩ : ∃ z, z = u_29 := ⟨_, rfl⟩
      have h9R := zRe (ws' := [(xs, .inl (cS, 8, .inr (.inr (.inr (.inr fh))))), (h0, .inr (4, [.ref e0, .int he, .int si])), (e0, .inl (cJ, 160, .inr (.inl fe))), (x0, .inr (7, [.ref xs, .ref j0, .ref k0, .ref w0, .ref rd, .ref mv, .ref xr, .int im, .int lf])), (xr, .inl (cI, 8, .inl q_30))]) hP hD rfl
      clear hP hD
      obtain ⟨hP, hD⟩ := h9R
      obtain rfl := hr_28
      exact W.iret (v := (-1)) hx hb hr (fun t ht hW => ⟨⟨(-1), (fe, q_30), rfl, ⟨(show ((-1) : Int32).toInt = zCopR s_.toInt q_.toInt he.toInt he.toInt si.toInt si.toInt i.toInt j.toInt n.toInt from by (have k9 : ((-1) : Int32).toInt = -1 := (by decide); unfold zCopR; (repeat (first | rw [if_pos (by omega)] | rw [if_neg (by omega)])) <;> omega)), (show (((-1) : Int32).toInt = 1 → fe = va_cpy fe fe i.toNatClampNeg j.toNatClampNeg n.toNatClampNeg) from by (have k9 : ((-1) : Int32).toInt = -1 := (by decide); intro h; exfalso; omega)), (show (((-1) : Int32).toInt ≠ 1 → fe = fe) from by (have k9 : ((-1) : Int32).toInt = -1 := (by decide); intro h; exact rfl)), trivial⟩, zRet ht hP hD [3, 4, 0, 1, 2] (by decide) rfl⟩, hS.F ht⟩) hS.2.2 dX7_copy_29
    · refine lv_astoreN (lv' := [(7, .null), (6, .null), (0, .ref x0), (1, .int s_), (2, .int q_), (3, .int i), (4, .int j), (5, .int n)]) hx hb dX7_copy_12 hl (by decide) rfl (fun ls hl => ?_)
      refine lv_aloadN hx hb dX7_copy_14 (lv_at hl 1 rfl) ?_
      refine lv_ifnullN (tgt := 24) hx hb dX7_copy_16 (by decide) ?_
      refine lv_aload_n hx hb dX7_copy_24 rfl (lv_at hl 2 rfl) ?_
      refine lv_iconst (v := 1) hx hb dX7_copy_25 (by decide) ?_
      skip
      refine zw_V (As := [.int 1]) (rest := []) (wr := [(xs, .inl (cS, 8, .inr (.inr (.inr (.inr fh))))), (h0, .inr (4, [.ref e0, .int he, .int si])), (e0, .inl (cJ, 160, .inr (.inl fe)))]) ⟨hx, hb, hml, hown, hts⟩ (c_X_refuse_1 l D cI cJ cZ cP cS po x0 xs j0 k0 w0 rd mv xr (im) (lf) fr hy0 hy1 hy2 hy3 H.size) (cwV 1 hts gX7_copy_X7_refuse rfl rfl rfl ⟨rfl, dh_X7_refuse⟩ ⟨Nat.le_of_ble_eq_true rfl, Nat.le_of_ble_eq_true rfl⟩) hK hN (hZ.kept hS) hP hD hS hA [0, 1] [2, 3, 4] rfl rfl (by decide) (by decide) (by decide) (va_recv (q := (RX7, TX7, 9)) hK hP (ci := 7) (q0 := 0) rfl rfl) rfl hl.1 rfl (Nat.le_of_ble_eq_true rfl) dX7_copy_26 ⟨Nat.le_of_ble_eq_true rfl, Nat.le_of_ble_eq_true rfl⟩ (fun r_31 u_32 H locs hr_31 hP hD hS => ?_)
      obtain ⟨q_33, rfl⟩ : ∃ z, z = u_32 := ⟨_, rfl⟩
      have h9R := zRe (ws' := [(xs, .inl (cS, 8, .inr (.inr (.inr (.inr fh))))), (h0, .inr (4, [.ref e0, .int he, .int si])), (e0, .inl (cJ, 160, .inr (.inl fe))), (x0, .inr (7, [.ref xs, .ref j0, .ref k0, .ref w0, .ref rd, .ref mv, .ref xr, .int im, .int lf])), (xr, .inl (cI, 8, .inl q_33))]) hP hD rfl
      clear hP hD
      obtain ⟨hP, hD⟩ := h9R
      obtain rfl := hr_31
      exact W.iret (v := (-1)) hx hb hr (fun t ht hW => ⟨⟨(-1), (fe, q_33), rfl, ⟨(show ((-1) : Int32).toInt = zCopR s_.toInt q_.toInt he.toInt he.toInt si.toInt si.toInt i.toInt j.toInt n.toInt from by (have k9 : ((-1) : Int32).toInt = -1 := (by decide); unfold zCopR; (repeat (first | rw [if_pos (by omega)] | rw [if_neg (by omega)])) <;> omega)), (show (((-1) : Int32).toInt = 1 → fe = va_cpy fe fe i.toNatClampNeg j.toNatClampNeg n.toNatClampNeg) from by (have k9 : ((-1) : Int32).toInt = -1 := (by decide); intro h; exfalso; omega)), (show (((-1) : Int32).toInt ≠ 1 → fe = fe) from by (have k9 : ((-1) : Int32).toInt = -1 := (by decide); intro h; exact rfl)), trivial⟩, zRet ht hP hD [3, 4, 0, 1, 2] (by decide) rfl⟩, hS.F ht⟩) hS.2.2 dX7_copy_29
    · rw [hfq (by omega) (by omega)]
      refine W.eq (g2 := F0 m 12 ls (.ref h0 :: [])) rfl ?_
      refine lv_astore (lv' := [(7, .ref h0), (6, .null), (0, .ref x0), (1, .int s_), (2, .int q_), (3, .int i), (4, .int j), (5, .int n)]) hx hb dX7_copy_12 hl (by decide) rfl (fun ls hl => ?_)
      refine lv_aloadN hx hb dX7_copy_14 (lv_at hl 1 rfl) ?_
      refine lv_ifnullN (tgt := 24) hx hb dX7_copy_16 (by decide) ?_
      refine lv_aload_n hx hb dX7_copy_24 rfl (lv_at hl 2 rfl) ?_
      refine lv_iconst (v := 1) hx hb dX7_copy_25 (by decide) ?_
      skip
      refine zw_V (As := [.int 1]) (rest := []) (wr := [(xs, .inl (cS, 8, .inr (.inr (.inr (.inr fh))))), (h0, .inr (4, [.ref e0, .int he, .int si])), (e0, .inl (cJ, 160, .inr (.inl fe)))]) ⟨hx, hb, hml, hown, hts⟩ (c_X_refuse_1 l D cI cJ cZ cP cS po x0 xs j0 k0 w0 rd mv xr (im) (lf) fr hy0 hy1 hy2 hy3 H.size) (cwV 1 hts gX7_copy_X7_refuse rfl rfl rfl ⟨rfl, dh_X7_refuse⟩ ⟨Nat.le_of_ble_eq_true rfl, Nat.le_of_ble_eq_true rfl⟩) hK hN (hZ.kept hS) hP hD hS hA [0, 1] [2, 3, 4] rfl rfl (by decide) (by decide) (by decide) (va_recv (q := (RX7, TX7, 9)) hK hP (ci := 7) (q0 := 0) rfl rfl) rfl hl.1 rfl (Nat.le_of_ble_eq_true rfl) dX7_copy_26 ⟨Nat.le_of_ble_eq_true rfl, Nat.le_of_ble_eq_true rfl⟩ (fun r_34 u_35 H locs hr_34 hP hD hS => ?_)
      obtain ⟨q_36, rfl⟩ : ∃ z, z = u_35 := ⟨_, rfl⟩
      have h9R := zRe (ws' := [(xs, .inl (cS, 8, .inr (.inr (.inr (.inr fh))))), (h0, .inr (4, [.ref e0, .int he, .int si])), (e0, .inl (cJ, 160, .inr (.inl fe))), (x0, .inr (7, [.ref xs, .ref j0, .ref k0, .ref w0, .ref rd, .ref mv, .ref xr, .int im, .int lf])), (xr, .inl (cI, 8, .inl q_36))]) hP hD rfl
      clear hP hD
      obtain ⟨hP, hD⟩ := h9R
      obtain rfl := hr_34
      exact W.iret (v := (-1)) hx hb hr (fun t ht hW => ⟨⟨(-1), (fe, q_36), rfl, ⟨(show ((-1) : Int32).toInt = zCopR s_.toInt q_.toInt he.toInt he.toInt si.toInt si.toInt i.toInt j.toInt n.toInt from by (have k9 : ((-1) : Int32).toInt = -1 := (by decide); unfold zCopR; (repeat (first | rw [if_pos (by omega)] | rw [if_neg (by omega)])) <;> omega)), (show (((-1) : Int32).toInt = 1 → fe = va_cpy fe fe i.toNatClampNeg j.toNatClampNeg n.toNatClampNeg) from by (have k9 : ((-1) : Int32).toInt = -1 := (by decide); intro h; exfalso; omega)), (show (((-1) : Int32).toInt ≠ 1 → fe = fe) from by (have k9 : ((-1) : Int32).toInt = -1 := (by decide); intro h; exact rfl)), trivial⟩, zRet ht hP hD [3, 4, 0, 1, 2] (by decide) rfl⟩, hS.F ht⟩) hS.2.2 dX7_copy_29
  · rw [hfs (by omega) (by omega)]
    refine W.eq (g2 := F0 m 5 ls (.ref h0 :: [])) rfl ?_
    refine lv_astore (lv' := [(6, .ref h0), (0, .ref x0), (1, .int s_), (2, .int q_), (3, .int i), (4, .int j), (5, .int n)]) hx hb dX7_copy_5 hl (by decide) rfl (fun ls hl => ?_)
    refine lv_aload_n hx hb dX7_copy_7 rfl (lv_at hl 1 rfl) ?_
    refine lv_iload_n hx hb dX7_copy_8 rfl (lv_at hl 3 rfl) ?_
    refine zc_Vq (As := [.int q_]) (rest := []) ⟨hx, hb, hml, hown, hts⟩ (c_X_shelfAt l D cI cJ cZ cP cS po x0 xs j0 k0 w0 rd mv xr (im) (lf) ((fun _ => 0)) fh (q_) hy0 hy1 hy2 hy3) (cwV 1 hts gX7_copy_X7_shelfAt rfl rfl rfl ⟨rfl, dh_X7_shelfAt⟩ ⟨Nat.le_of_ble_eq_true rfl, Nat.le_of_ble_eq_true rfl⟩) hK hN (hZ.kept hS) hP (hP.sub [0, 2] rfl) (va_recv (q := (RX7, TX7, 9)) hK hP (ci := 7) (q0 := 0) rfl rfl) rfl hl.1 rfl (Nat.le_of_ble_eq_true rfl) dX7_copy_9 ⟨Nat.le_of_ble_eq_true rfl, Nat.le_of_ble_eq_true rfl⟩ (fun r_37 hr_37 => ?_)
    rcases hr_37 with ⟨rfl, g_38⟩ | ⟨rfl, g_39, g_40⟩ | ⟨rfl, g_41, g_42⟩
    · refine lv_astoreN (lv' := [(7, .null), (6, .ref h0), (0, .ref x0), (1, .int s_), (2, .int q_), (3, .int i), (4, .int j), (5, .int n)]) hx hb dX7_copy_12 hl (by decide) rfl (fun ls hl => ?_)
      refine lv_aload hx hb dX7_copy_14 (lv_at hl 1 rfl) ?_
      refine lv_ifnull hx hb dX7_copy_16 ?_
      refine lv_aloadN hx hb dX7_copy_19 (lv_at hl 0 rfl) ?_
      refine lv_ifnonnullN hx hb dX7_copy_21 ?_
      refine lv_aload_n hx hb dX7_copy_24 rfl (lv_at hl 2 rfl) ?_
      refine lv_iconst (v := 1) hx hb dX7_copy_25 (by decide) ?_
      skip
      refine zw_V (As := [.int 1]) (rest := []) (wr := [(xs, .inl (cS, 8, .inr (.inr (.inr (.inr fh))))), (h0, .inr (4, [.ref e0, .int he, .int si])), (e0, .inl (cJ, 160, .inr (.inl fe)))]) ⟨hx, hb, hml, hown, hts⟩ (c_X_refuse_1 l D cI cJ cZ cP cS po x0 xs j0 k0 w0 rd mv xr (im) (lf) fr hy0 hy1 hy2 hy3 H.size) (cwV 1 hts gX7_copy_X7_refuse rfl rfl rfl ⟨rfl, dh_X7_refuse⟩ ⟨Nat.le_of_ble_eq_true rfl, Nat.le_of_ble_eq_true rfl⟩) hK hN (hZ.kept hS) hP hD hS hA [0, 1] [2, 3, 4] rfl rfl (by decide) (by decide) (by decide) (va_recv (q := (RX7, TX7, 9)) hK hP (ci := 7) (q0 := 0) rfl rfl) rfl hl.1 rfl (Nat.le_of_ble_eq_true rfl) dX7_copy_26 ⟨Nat.le_of_ble_eq_true rfl, Nat.le_of_ble_eq_true rfl⟩ (fun r_43 u_44 H locs hr_43 hP hD hS => ?_)
      obtain ⟨q_45, rfl⟩ : ∃ z, z = u_44 := ⟨_, rfl⟩
      have h9R := zRe (ws' := [(xs, .inl (cS, 8, .inr (.inr (.inr (.inr fh))))), (h0, .inr (4, [.ref e0, .int he, .int si])), (e0, .inl (cJ, 160, .inr (.inl fe))), (x0, .inr (7, [.ref xs, .ref j0, .ref k0, .ref w0, .ref rd, .ref mv, .ref xr, .int im, .int lf])), (xr, .inl (cI, 8, .inl q_45))]) hP hD rfl
      clear hP hD
      obtain ⟨hP, hD⟩ := h9R
      obtain rfl := hr_43
      exact W.iret (v := (-1)) hx hb hr (fun t ht hW => ⟨⟨(-1), (fe, q_45), rfl, ⟨(show ((-1) : Int32).toInt = zCopR s_.toInt q_.toInt he.toInt he.toInt si.toInt si.toInt i.toInt j.toInt n.toInt from by (have k9 : ((-1) : Int32).toInt = -1 := (by decide); unfold zCopR; (repeat (first | rw [if_pos (by omega)] | rw [if_neg (by omega)])) <;> omega)), (show (((-1) : Int32).toInt = 1 → fe = va_cpy fe fe i.toNatClampNeg j.toNatClampNeg n.toNatClampNeg) from by (have k9 : ((-1) : Int32).toInt = -1 := (by decide); intro h; exfalso; omega)), (show (((-1) : Int32).toInt ≠ 1 → fe = fe) from by (have k9 : ((-1) : Int32).toInt = -1 := (by decide); intro h; exact rfl)), trivial⟩, zRet ht hP hD [3, 4, 0, 1, 2] (by decide) rfl⟩, hS.F ht⟩) hS.2.2 dX7_copy_29
    · refine lv_astoreN (lv' := [(7, .null), (6, .ref h0), (0, .ref x0), (1, .int s_), (2, .int q_), (3, .int i), (4, .int j), (5, .int n)]) hx hb dX7_copy_12 hl (by decide) rfl (fun ls hl => ?_)
      refine lv_aload hx hb dX7_copy_14 (lv_at hl 1 rfl) ?_
      refine lv_ifnull hx hb dX7_copy_16 ?_
      refine lv_aloadN hx hb dX7_copy_19 (lv_at hl 0 rfl) ?_
      refine lv_ifnonnullN hx hb dX7_copy_21 ?_
      refine lv_aload_n hx hb dX7_copy_24 rfl (lv_at hl 2 rfl) ?_
      refine lv_iconst (v := 1) hx hb dX7_copy_25 (by decide) ?_
      skip
      refine zw_V (As := [.int 1]) (rest := []) (wr := [(xs, .inl (cS, 8, .inr (.inr (.inr (.inr fh))))), (h0, .inr (4, [.ref e0, .int he, .int si])), (e0, .inl (cJ, 160, .inr (.inl fe)))]) ⟨hx, hb, hml, hown, hts⟩ (c_X_refuse_1 l D cI cJ cZ cP cS po x0 xs j0 k0 w0 rd mv xr (im) (lf) fr hy0 hy1 hy2 hy3 H.size) (cwV 1 hts gX7_copy_X7_refuse rfl rfl rfl ⟨rfl, dh_X7_refuse⟩ ⟨Nat.le_of_ble_eq_true rfl, Nat.le_of_ble_eq_true rfl⟩) hK hN (hZ.kept hS) hP hD hS hA [0, 1] [2, 3, 4] rfl rfl (by decide) (by decide) (by decide) (va_recv (q := (RX7, TX7, 9)) hK hP (ci := 7) (q0 := 0) rfl rfl) rfl hl.1 rfl (Nat.le_of_ble_eq_true rfl) dX7_copy_26 ⟨Nat.le_of_ble_eq_true rfl, Nat.le_of_ble_eq_true rfl⟩ (fun r_46 u_47 H locs hr_46 hP hD hS => ?_)
      obtain ⟨q_48, rfl⟩ : ∃ z, z = u_47 := ⟨_, rfl⟩
      have h9R := zRe (ws' := [(xs, .inl (cS, 8, .inr (.inr (.inr (.inr fh))))), (h0, .inr (4, [.ref e0, .int he, .int si])), (e0, .inl (cJ, 160, .inr (.inl fe))), (x0, .inr (7, [.ref xs, .ref j0, .ref k0, .ref w0, .ref rd, .ref mv, .ref xr, .int im, .int lf])), (xr, .inl (cI, 8, .inl q_48))]) hP hD rfl
      clear hP hD
      obtain ⟨hP, hD⟩ := h9R
      obtain rfl := hr_46
      exact W.iret (v := (-1)) hx hb hr (fun t ht hW => ⟨⟨(-1), (fe, q_48), rfl, ⟨(show ((-1) : Int32).toInt = zCopR s_.toInt q_.toInt he.toInt he.toInt si.toInt si.toInt i.toInt j.toInt n.toInt from by (have k9 : ((-1) : Int32).toInt = -1 := (by decide); unfold zCopR; (repeat (first | rw [if_pos (by omega)] | rw [if_neg (by omega)])) <;> omega)), (show (((-1) : Int32).toInt = 1 → fe = va_cpy fe fe i.toNatClampNeg j.toNatClampNeg n.toNatClampNeg) from by (have k9 : ((-1) : Int32).toInt = -1 := (by decide); intro h; exfalso; omega)), (show (((-1) : Int32).toInt ≠ 1 → fe = fe) from by (have k9 : ((-1) : Int32).toInt = -1 := (by decide); intro h; exact rfl)), trivial⟩, zRet ht hP hD [3, 4, 0, 1, 2] (by decide) rfl⟩, hS.F ht⟩) hS.2.2 dX7_copy_29
    · rw [hfq (by omega) (by omega)]
      refine W.eq (g2 := F0 m 12 ls (.ref h0 :: [])) rfl ?_
      refine lv_astore (lv' := [(7, .ref h0), (6, .ref h0), (0, .ref x0), (1, .int s_), (2, .int q_), (3, .int i), (4, .int j), (5, .int n)]) hx hb dX7_copy_12 hl (by decide) rfl (fun ls hl => ?_)
      refine lv_aload hx hb dX7_copy_14 (lv_at hl 1 rfl) ?_
      refine lv_ifnull hx hb dX7_copy_16 ?_
      refine lv_aload hx hb dX7_copy_19 (lv_at hl 0 rfl) ?_
      refine lv_ifnonnull (tgt := 30) hx hb dX7_copy_21 (by decide) ?_
      refine lv_aload hx hb dX7_copy_30 (lv_at hl 1 rfl) ?_
      refine zc_V (As := []) (rest := []) ⟨hx, hb, hml, hown, hts⟩ (c_Sh_noRow l D cI cJ cZ cP cS po h0 e0 (he) (si) hy4 hy5 hy6 hy7) (cwV 0 hts gX7_copy_X4_noRow rfl rfl rfl ⟨rfl, dh_X4_noRow⟩ ⟨Nat.le_of_ble_eq_true rfl, Nat.le_of_ble_eq_true rfl⟩) hK hN (hZ.kept hS) hP (hP.sub [3] rfl) (va_recv (q := (RX4, TX4, 3)) hK hP (ci := 4) (q0 := 3) rfl rfl) rfl hl.1 rfl (Nat.le_of_ble_eq_true rfl) dX7_copy_32 ⟨Nat.le_of_ble_eq_true rfl, Nat.le_of_ble_eq_true rfl⟩ (fun r_49 hr_49 => ?_)
      rcases hr_49 with ⟨rfl, g_50, g_51⟩ | ⟨rfl, g_52, g_53⟩ | ⟨rfl, g_54⟩
      · refine lv_istore (lv' := [(8, .int 2), (7, .ref h0), (6, .ref h0), (0, .ref x0), (1, .int s_), (2, .int q_), (3, .int i), (4, .int j), (5, .int n)]) hx hb dX7_copy_35 hl (by decide) rfl (fun ls hl => ?_)
        refine lv_aload hx hb dX7_copy_37 (lv_at hl 1 rfl) ?_
        refine zc_V (As := []) (rest := []) ⟨hx, hb, hml, hown, hts⟩ (c_Sh_noRow l D cI cJ cZ cP cS po h0 e0 (he) (si) hy4 hy5 hy6 hy7) (cwV 0 hts gX7_copy_X4_noRow rfl rfl rfl ⟨rfl, dh_X4_noRow⟩ ⟨Nat.le_of_ble_eq_true rfl, Nat.le_of_ble_eq_true rfl⟩) hK hN (hZ.kept hS) hP (hP.sub [3] rfl) (va_recv (q := (RX4, TX4, 3)) hK hP (ci := 4) (q0 := 3) rfl rfl) rfl hl.1 rfl (Nat.le_of_ble_eq_true rfl) dX7_copy_39 ⟨Nat.le_of_ble_eq_true rfl, Nat.le_of_ble_eq_true rfl⟩ (fun r_55 hr_55 => ?_)
        rcases hr_55 with ⟨rfl, g_56, g_57⟩ | ⟨rfl, g_58, g_59⟩ | ⟨rfl, g_60⟩
        · refine lv_istore (lv' := [(9, .int 2), (8, .int 2), (7, .ref h0), (6, .ref h0), (0, .ref x0), (1, .int s_), (2, .int q_), (3, .int i), (4, .int j), (5, .int n)]) hx hb dX7_copy_42 hl (by decide) rfl (fun ls hl => ?_)
          refine lv_iload hx hb dX7_copy_44 (lv_at hl 1 rfl) ?_
          refine lv_if_ne (tgt := 71) hx hb dX7_copy_46 (by decide) (fun c_61 => ?_) (fun c_61 => ?_)
          · refine lv_iconst (v := 0) hx hb dX7_copy_71 (by decide) ?_
            refine lv_istore (lv' := [(10, .int 0), (9, .int 2), (8, .int 2), (7, .ref h0), (6, .ref h0), (0, .ref x0), (1, .int s_), (2, .int q_), (3, .int i), (4, .int j), (5, .int n)]) hx hb dX7_copy_72 hl (by decide) rfl (fun ls hl => ?_)
            refine lv_iload hx hb dX7_copy_74 (lv_at hl 2 rfl) ?_
            refine lv_iconst (v := 2) hx hb dX7_copy_76 (by decide) ?_
            refine lv_icmp_eq (tgt := 91) hx hb dX7_copy_77 (by decide) (fun c_62 => ?_) (fun c_62 => ?_)
            · refine lv_aload_n hx hb dX7_copy_91 rfl (lv_at hl 5 rfl) ?_
              refine lv_iconst (v := 2) hx hb dX7_copy_92 (by decide) ?_
              skip
              refine zw_V (As := [.int 2]) (rest := []) (wr := [(xs, .inl (cS, 8, .inr (.inr (.inr (.inr fh))))), (h0, .inr (4, [.ref e0, .int he, .int si])), (e0, .inl (cJ, 160, .inr (.inl fe)))]) ⟨hx, hb, hml, hown, hts⟩ (c_X_refuse_2 l D cI cJ cZ cP cS po x0 xs j0 k0 w0 rd mv xr (im) (lf) fr hy0 hy1 hy2 hy3 H.size) (cwV 1 hts gX7_copy_X7_refuse rfl rfl rfl ⟨rfl, dh_X7_refuse⟩ ⟨Nat.le_of_ble_eq_true rfl, Nat.le_of_ble_eq_true rfl⟩) hK hN (hZ.kept hS) hP hD hS hA [0, 1] [2, 3, 4] rfl rfl (by decide) (by decide) (by decide) (va_recv (q := (RX7, TX7, 9)) hK hP (ci := 7) (q0 := 0) rfl rfl) rfl hl.1 rfl (Nat.le_of_ble_eq_true rfl) dX7_copy_93 ⟨Nat.le_of_ble_eq_true rfl, Nat.le_of_ble_eq_true rfl⟩ (fun r_63 u_64 H locs hr_63 hP hD hS => ?_)
              obtain ⟨q_65, rfl⟩ : ∃ z, z = u_64 := ⟨_, rfl⟩
              have h9R := zRe (ws' := [(xs, .inl (cS, 8, .inr (.inr (.inr (.inr fh))))), (h0, .inr (4, [.ref e0, .int he, .int si])), (e0, .inl (cJ, 160, .inr (.inl fe))), (x0, .inr (7, [.ref xs, .ref j0, .ref k0, .ref w0, .ref rd, .ref mv, .ref xr, .int im, .int lf])), (xr, .inl (cI, 8, .inl q_65))]) hP hD rfl
              clear hP hD
              obtain ⟨hP, hD⟩ := h9R
              obtain rfl := hr_63
              exact W.iret (v := (-2)) hx hb hr (fun t ht hW => ⟨⟨(-2), (fe, q_65), rfl, ⟨(show ((-2) : Int32).toInt = zCopR s_.toInt q_.toInt he.toInt he.toInt si.toInt si.toInt i.toInt j.toInt n.toInt from by (have k9 : ((-2) : Int32).toInt = -2 := (by decide); unfold zCopR; (repeat (first | rw [if_pos (by omega)] | rw [if_neg (by omega)])) <;> omega)), (show (((-2) : Int32).toInt = 1 → fe = va_cpy fe fe i.toNatClampNeg j.toNatClampNeg n.toNatClampNeg) from by (have k9 : ((-2) : Int32).toInt = -2 := (by decide); intro h; exfalso; omega)), (show (((-2) : Int32).toInt ≠ 1 → fe = fe) from by (have k9 : ((-2) : Int32).toInt = -2 := (by decide); intro h; exact rfl)), trivial⟩, zRet ht hP hD [3, 4, 0, 1, 2] (by decide) rfl⟩, hS.F ht⟩) hS.2.2 dX7_copy_96
            · exact absurd c_62 (by decide)
          · exact absurd c_61 (by decide)
        · exfalso; omega
        · exfalso; omega
      · refine lv_istore (lv' := [(8, .int 3), (7, .ref h0), (6, .ref h0), (0, .ref x0), (1, .int s_), (2, .int q_), (3, .int i), (4, .int j), (5, .int n)]) hx hb dX7_copy_35 hl (by decide) rfl (fun ls hl => ?_)
        refine lv_aload hx hb dX7_copy_37 (lv_at hl 1 rfl) ?_
        refine zc_V (As := []) (rest := []) ⟨hx, hb, hml, hown, hts⟩ (c_Sh_noRow l D cI cJ cZ cP cS po h0 e0 (he) (si) hy4 hy5 hy6 hy7) (cwV 0 hts gX7_copy_X4_noRow rfl rfl rfl ⟨rfl, dh_X4_noRow⟩ ⟨Nat.le_of_ble_eq_true rfl, Nat.le_of_ble_eq_true rfl⟩) hK hN (hZ.kept hS) hP (hP.sub [3] rfl) (va_recv (q := (RX4, TX4, 3)) hK hP (ci := 4) (q0 := 3) rfl rfl) rfl hl.1 rfl (Nat.le_of_ble_eq_true rfl) dX7_copy_39 ⟨Nat.le_of_ble_eq_true rfl, Nat.le_of_ble_eq_true rfl⟩ (fun r_66 hr_66 => ?_)
        rcases hr_66 with ⟨rfl, g_67, g_68⟩ | ⟨rfl, g_69, g_70⟩ | ⟨rfl, g_71⟩
        · exfalso; omega
        · refine lv_istore (lv' := [(9, .int 3), (8, .int 3), (7, .ref h0), (6, .ref h0), (0, .ref x0), (1, .int s_), (2, .int q_), (3, .int i), (4, .int j), (5, .int n)]) hx hb dX7_copy_42 hl (by decide) rfl (fun ls hl => ?_)
          refine lv_iload hx hb dX7_copy_44 (lv_at hl 1 rfl) ?_
          refine lv_if_ne (tgt := 71) hx hb dX7_copy_46 (by decide) (fun c_72 => ?_) (fun c_72 => ?_)
          · refine lv_iconst (v := 0) hx hb dX7_copy_71 (by decide) ?_
            refine lv_istore (lv' := [(10, .int 0), (9, .int 3), (8, .int 3), (7, .ref h0), (6, .ref h0), (0, .ref x0), (1, .int s_), (2, .int q_), (3, .int i), (4, .int j), (5, .int n)]) hx hb dX7_copy_72 hl (by decide) rfl (fun ls hl => ?_)
            refine lv_iload hx hb dX7_copy_74 (lv_at hl 2 rfl) ?_
            refine lv_iconst (v := 2) hx hb dX7_copy_76 (by decide) ?_
            refine lv_icmp_eq (tgt := 91) hx hb dX7_copy_77 (by decide) (fun c_73 => ?_) (fun c_73 => ?_)
            · exact absurd c_73 (by decide)
            · refine lv_iload hx hb dX7_copy_80 (lv_at hl 1 rfl) ?_
              refine lv_iconst (v := 2) hx hb dX7_copy_82 (by decide) ?_
              refine lv_icmp_eq (tgt := 91) hx hb dX7_copy_83 (by decide) (fun c_74 => ?_) (fun c_74 => ?_)
              · exact absurd c_74 (by decide)
              · refine lv_iload hx hb dX7_copy_86 (lv_at hl 0 rfl) ?_
                refine lv_if_eq (tgt := 97) hx hb dX7_copy_88 (by decide) (fun c_75 => ?_) (fun c_75 => ?_)
                · refine lv_iload hx hb dX7_copy_97 (lv_at hl 2 rfl) ?_
                  refine lv_iconst (v := 3) hx hb dX7_copy_99 (by decide) ?_
                  refine lv_icmp_eq (tgt := 109) hx hb dX7_copy_100 (by decide) (fun c_76 => ?_) (fun c_76 => ?_)
                  · refine lv_aload_n hx hb dX7_copy_109 rfl (lv_at hl 5 rfl) ?_
                    refine lv_iconst (v := 3) hx hb dX7_copy_110 (by decide) ?_
                    skip
                    refine zw_V (As := [.int 3]) (rest := []) (wr := [(xs, .inl (cS, 8, .inr (.inr (.inr (.inr fh))))), (h0, .inr (4, [.ref e0, .int he, .int si])), (e0, .inl (cJ, 160, .inr (.inl fe)))]) ⟨hx, hb, hml, hown, hts⟩ (c_X_refuse_3 l D cI cJ cZ cP cS po x0 xs j0 k0 w0 rd mv xr (im) (lf) fr hy0 hy1 hy2 hy3 H.size) (cwV 1 hts gX7_copy_X7_refuse rfl rfl rfl ⟨rfl, dh_X7_refuse⟩ ⟨Nat.le_of_ble_eq_true rfl, Nat.le_of_ble_eq_true rfl⟩) hK hN (hZ.kept hS) hP hD hS hA [0, 1] [2, 3, 4] rfl rfl (by decide) (by decide) (by decide) (va_recv (q := (RX7, TX7, 9)) hK hP (ci := 7) (q0 := 0) rfl rfl) rfl hl.1 rfl (Nat.le_of_ble_eq_true rfl) dX7_copy_111 ⟨Nat.le_of_ble_eq_true rfl, Nat.le_of_ble_eq_true rfl⟩ (fun r_77 u_78 H locs hr_77 hP hD hS => ?_)
                    obtain ⟨q_79, rfl⟩ : ∃ z, z = u_78 := ⟨_, rfl⟩
                    have h9R := zRe (ws' := [(xs, .inl (cS, 8, .inr (.inr (.inr (.inr fh))))), (h0, .inr (4, [.ref e0, .int he, .int si])), (e0, .inl (cJ, 160, .inr (.inl fe))), (x0, .inr (7, [.ref xs, .ref j0, .ref k0, .ref w0, .ref rd, .ref mv, .ref xr, .int im, .int lf])), (xr, .inl (cI, 8, .inl q_79))]) hP hD rfl
                    clear hP hD
                    obtain ⟨hP, hD⟩ := h9R
                    obtain rfl := hr_77
                    exact W.iret (v := (-3)) hx hb hr (fun t ht hW => ⟨⟨(-3), (fe, q_79), rfl, ⟨(show ((-3) : Int32).toInt = zCopR s_.toInt q_.toInt he.toInt he.toInt si.toInt si.toInt i.toInt j.toInt n.toInt from by (have k9 : ((-3) : Int32).toInt = -3 := (by decide); unfold zCopR; (repeat (first | rw [if_pos (by omega)] | rw [if_neg (by omega)])) <;> omega)), (show (((-3) : Int32).toInt = 1 → fe = va_cpy fe fe i.toNatClampNeg j.toNatClampNeg n.toNatClampNeg) from by (have k9 : ((-3) : Int32).toInt = -3 := (by decide); intro h; exfalso; omega)), (show (((-3) : Int32).toInt ≠ 1 → fe = fe) from by (have k9 : ((-3) : Int32).toInt = -3 := (by decide); intro h; exact rfl)), trivial⟩, zRet ht hP hD [3, 4, 0, 1, 2] (by decide) rfl⟩, hS.F ht⟩) hS.2.2 dX7_copy_114
                  · exact absurd c_76 (by decide)
                · exact absurd c_75 (by decide)
          · exact absurd c_72 (by decide)
        · exfalso; omega
      · refine lv_istore (lv' := [(8, .int 0), (7, .ref h0), (6, .ref h0), (0, .ref x0), (1, .int s_), (2, .int q_), (3, .int i), (4, .int j), (5, .int n)]) hx hb dX7_copy_35 hl (by decide) rfl (fun ls hl => ?_)
        refine lv_aload hx hb dX7_copy_37 (lv_at hl 1 rfl) ?_
        refine zc_V (As := []) (rest := []) ⟨hx, hb, hml, hown, hts⟩ (c_Sh_noRow l D cI cJ cZ cP cS po h0 e0 (he) (si) hy4 hy5 hy6 hy7) (cwV 0 hts gX7_copy_X4_noRow rfl rfl rfl ⟨rfl, dh_X4_noRow⟩ ⟨Nat.le_of_ble_eq_true rfl, Nat.le_of_ble_eq_true rfl⟩) hK hN (hZ.kept hS) hP (hP.sub [3] rfl) (va_recv (q := (RX4, TX4, 3)) hK hP (ci := 4) (q0 := 3) rfl rfl) rfl hl.1 rfl (Nat.le_of_ble_eq_true rfl) dX7_copy_39 ⟨Nat.le_of_ble_eq_true rfl, Nat.le_of_ble_eq_true rfl⟩ (fun r_80 hr_80 => ?_)
        rcases hr_80 with ⟨rfl, g_81, g_82⟩ | ⟨rfl, g_83, g_84⟩ | ⟨rfl, g_85⟩
        · exfalso; omega
        · exfalso; omega
        · refine lv_istore (lv' := [(9, .int 0), (8, .int 0), (7, .ref h0), (6, .ref h0), (0, .ref x0), (1, .int s_), (2, .int q_), (3, .int i), (4, .int j), (5, .int n)]) hx hb dX7_copy_42 hl (by decide) rfl (fun ls hl => ?_)
          refine lv_iload hx hb dX7_copy_44 (lv_at hl 1 rfl) ?_
          refine lv_if_ne (tgt := 71) hx hb dX7_copy_46 (by decide) (fun c_86 => ?_) (fun c_86 => ?_)
          · exact absurd c_86 (by decide)
          · refine lv_iload hx hb dX7_copy_49 (lv_at hl 0 rfl) ?_
            refine lv_if_ne (tgt := 71) hx hb dX7_copy_51 (by decide) (fun c_87 => ?_) (fun c_87 => ?_)
            · exact absurd c_87 (by decide)
            · refine lv_aload hx hb dX7_copy_54 (lv_at hl 3 rfl) ?_
              refine va_get (D := D) (ci := 4) (v := .int he) (C := RX4) (T := TX4) (N := 3) hx hb hts hi_X7_copy_4 hown hK hP 3 rfl rfl 1 (by decide) (hts (.fieldLink RX7 87 "TheLiningsInIt$Shelf" "held" "I") (List.mem_of_getElem? (i := 1) rfl)) (fun _ h9 => h9) rfl dX7_copy_56 ?_
              refine lv_aload hx hb dX7_copy_59 (lv_at hl 2 rfl) ?_
              refine va_get (D := D) (ci := 4) (v := .int he) (C := RX4) (T := TX4) (N := 3) hx hb hts hi_X7_copy_4 hown hK hP 3 rfl rfl 1 (by decide) (hts (.fieldLink RX7 87 "TheLiningsInIt$Shelf" "held" "I") (List.mem_of_getElem? (i := 1) rfl)) (fun _ h9 => h9) rfl dX7_copy_61 ?_
              refine lv_icmp_eq (tgt := 71) hx hb dX7_copy_64 (by decide) (fun c_88 => ?_) (fun c_88 => ?_)
              · have fc_88 : he.toInt = he.toInt := zf_eq c_88 rfl rfl
                refine lv_iconst (v := 0) hx hb dX7_copy_71 (by decide) ?_
                refine lv_istore (lv' := [(10, .int 0), (9, .int 0), (8, .int 0), (7, .ref h0), (6, .ref h0), (0, .ref x0), (1, .int s_), (2, .int q_), (3, .int i), (4, .int j), (5, .int n)]) hx hb dX7_copy_72 hl (by decide) rfl (fun ls hl => ?_)
                refine lv_iload hx hb dX7_copy_74 (lv_at hl 2 rfl) ?_
                refine lv_iconst (v := 2) hx hb dX7_copy_76 (by decide) ?_
                refine lv_icmp_eq (tgt := 91) hx hb dX7_copy_77 (by decide) (fun c_89 => ?_) (fun c_89 => ?_)
                · exact absurd c_89 (by decide)
                · refine lv_iload hx hb dX7_copy_80 (lv_at hl 1 rfl) ?_
                  refine lv_iconst (v := 2) hx hb dX7_copy_82 (by decide) ?_
                  refine lv_icmp_eq (tgt := 91) hx hb dX7_copy_83 (by decide) (fun c_90 => ?_) (fun c_90 => ?_)
                  · exact absurd c_90 (by decide)
                  · refine lv_iload hx hb dX7_copy_86 (lv_at hl 0 rfl) ?_
                    refine lv_if_eq (tgt := 97) hx hb dX7_copy_88 (by decide) (fun c_91 => ?_) (fun c_91 => ?_)
                    · refine lv_iload hx hb dX7_copy_97 (lv_at hl 2 rfl) ?_
                      refine lv_iconst (v := 3) hx hb dX7_copy_99 (by decide) ?_
                      refine lv_icmp_eq (tgt := 109) hx hb dX7_copy_100 (by decide) (fun c_92 => ?_) (fun c_92 => ?_)
                      · exact absurd c_92 (by decide)
                      · refine lv_iload hx hb dX7_copy_103 (lv_at hl 1 rfl) ?_
                        refine lv_iconst (v := 3) hx hb dX7_copy_105 (by decide) ?_
                        refine lv_icmp_ne (tgt := 115) hx hb dX7_copy_106 (by decide) (fun c_93 => ?_) (fun c_93 => ?_)
                        · refine lv_iload hx hb dX7_copy_115 (lv_at hl 10 rfl) ?_
                          refine lv_if_ge (tgt := 126) hx hb dX7_copy_117 (by decide) (fun c_94 => ?_) (fun c_94 => ?_)
                          · have fc_94 : 0 ≤ n.toInt := zf_le c_94 (by decide) rfl
                            refine lv_aload hx hb dX7_copy_126 (lv_at hl 4 rfl) ?_
                            refine lv_iload_n hx hb dX7_copy_128 rfl (lv_at hl 8 rfl) ?_
                            refine lv_iload hx hb dX7_copy_129 (lv_at hl 10 rfl) ?_
                            refine zc_V (As := [.int i, .int n]) (rest := []) ⟨hx, hb, hml, hown, hts⟩ (c_Sh_hasSpan l D cI cJ cZ cP cS po h0 e0 (he) (si) (i) (n) hy4 hy5 hy6 hy7) (cwV 2 hts gX7_copy_X4_hasSpan rfl rfl rfl ⟨rfl, dh_X4_hasSpan⟩ ⟨Nat.le_of_ble_eq_true rfl, Nat.le_of_ble_eq_true rfl⟩) hK hN (hZ.kept hS) hP (hP.sub [3] rfl) (va_recv (q := (RX4, TX4, 3)) hK hP (ci := 4) (q0 := 3) rfl rfl) rfl hl.1 rfl (Nat.le_of_ble_eq_true rfl) dX7_copy_131 ⟨Nat.le_of_ble_eq_true rfl, Nat.le_of_ble_eq_true rfl⟩ (fun r_95 hr_95 => ?_)
                            rcases hr_95 with ⟨rfl, g_96⟩ | ⟨rfl, g_97, g_98⟩ | ⟨rfl, g_99, g_100, g_101⟩ | ⟨rfl, g_102, g_103, g_104, g_105⟩ | ⟨rfl, g_106, g_107, g_108, g_109⟩
                            · refine lv_if_eq (tgt := 149) hx hb dX7_copy_134 (by decide) (fun c_110 => ?_) (fun c_110 => ?_)
                              · refine lv_aload_n hx hb dX7_copy_149 rfl (lv_at hl 5 rfl) ?_
                                refine lv_iconst (v := 5) hx hb dX7_copy_150 (by decide) ?_
                                skip
                                refine zw_V (As := [.int 5]) (rest := []) (wr := [(xs, .inl (cS, 8, .inr (.inr (.inr (.inr fh))))), (h0, .inr (4, [.ref e0, .int he, .int si])), (e0, .inl (cJ, 160, .inr (.inl fe)))]) ⟨hx, hb, hml, hown, hts⟩ (c_X_refuse_5 l D cI cJ cZ cP cS po x0 xs j0 k0 w0 rd mv xr (im) (lf) fr hy0 hy1 hy2 hy3 H.size) (cwV 1 hts gX7_copy_X7_refuse rfl rfl rfl ⟨rfl, dh_X7_refuse⟩ ⟨Nat.le_of_ble_eq_true rfl, Nat.le_of_ble_eq_true rfl⟩) hK hN (hZ.kept hS) hP hD hS hA [0, 1] [2, 3, 4] rfl rfl (by decide) (by decide) (by decide) (va_recv (q := (RX7, TX7, 9)) hK hP (ci := 7) (q0 := 0) rfl rfl) rfl hl.1 rfl (Nat.le_of_ble_eq_true rfl) dX7_copy_151 ⟨Nat.le_of_ble_eq_true rfl, Nat.le_of_ble_eq_true rfl⟩ (fun r_111 u_112 H locs hr_111 hP hD hS => ?_)
                                obtain ⟨q_113, rfl⟩ : ∃ z, z = u_112 := ⟨_, rfl⟩
                                have h9R := zRe (ws' := [(xs, .inl (cS, 8, .inr (.inr (.inr (.inr fh))))), (h0, .inr (4, [.ref e0, .int he, .int si])), (e0, .inl (cJ, 160, .inr (.inl fe))), (x0, .inr (7, [.ref xs, .ref j0, .ref k0, .ref w0, .ref rd, .ref mv, .ref xr, .int im, .int lf])), (xr, .inl (cI, 8, .inl q_113))]) hP hD rfl
                                clear hP hD
                                obtain ⟨hP, hD⟩ := h9R
                                obtain rfl := hr_111
                                exact W.iret (v := (-5)) hx hb hr (fun t ht hW => ⟨⟨(-5), (fe, q_113), rfl, ⟨(show ((-5) : Int32).toInt = zCopR s_.toInt q_.toInt he.toInt he.toInt si.toInt si.toInt i.toInt j.toInt n.toInt from by (have k9 : ((-5) : Int32).toInt = -5 := (by decide); unfold zCopR; (repeat (first | rw [if_pos (by omega)] | rw [if_neg (by omega)])) <;> omega)), (show (((-5) : Int32).toInt = 1 → fe = va_cpy fe fe i.toNatClampNeg j.toNatClampNeg n.toNatClampNeg) from by (have k9 : ((-5) : Int32).toInt = -5 := (by decide); intro h; exfalso; omega)), (show (((-5) : Int32).toInt ≠ 1 → fe = fe) from by (have k9 : ((-5) : Int32).toInt = -5 := (by decide); intro h; exact rfl)), trivial⟩, zRet ht hP hD [3, 4, 0, 1, 2] (by decide) rfl⟩, hS.F ht⟩) hS.2.2 dX7_copy_154
                              · exact absurd c_110 (by decide)
                            · exfalso; omega
                            · refine lv_if_eq (tgt := 149) hx hb dX7_copy_134 (by decide) (fun c_114 => ?_) (fun c_114 => ?_)
                              · refine lv_aload_n hx hb dX7_copy_149 rfl (lv_at hl 5 rfl) ?_
                                refine lv_iconst (v := 5) hx hb dX7_copy_150 (by decide) ?_
                                skip
                                refine zw_V (As := [.int 5]) (rest := []) (wr := [(xs, .inl (cS, 8, .inr (.inr (.inr (.inr fh))))), (h0, .inr (4, [.ref e0, .int he, .int si])), (e0, .inl (cJ, 160, .inr (.inl fe)))]) ⟨hx, hb, hml, hown, hts⟩ (c_X_refuse_5 l D cI cJ cZ cP cS po x0 xs j0 k0 w0 rd mv xr (im) (lf) fr hy0 hy1 hy2 hy3 H.size) (cwV 1 hts gX7_copy_X7_refuse rfl rfl rfl ⟨rfl, dh_X7_refuse⟩ ⟨Nat.le_of_ble_eq_true rfl, Nat.le_of_ble_eq_true rfl⟩) hK hN (hZ.kept hS) hP hD hS hA [0, 1] [2, 3, 4] rfl rfl (by decide) (by decide) (by decide) (va_recv (q := (RX7, TX7, 9)) hK hP (ci := 7) (q0 := 0) rfl rfl) rfl hl.1 rfl (Nat.le_of_ble_eq_true rfl) dX7_copy_151 ⟨Nat.le_of_ble_eq_true rfl, Nat.le_of_ble_eq_true rfl⟩ (fun r_115 u_116 H locs hr_115 hP hD hS => ?_)
                                obtain ⟨q_117, rfl⟩ : ∃ z, z = u_116 := ⟨_, rfl⟩
                                have h9R := zRe (ws' := [(xs, .inl (cS, 8, .inr (.inr (.inr (.inr fh))))), (h0, .inr (4, [.ref e0, .int he, .int si])), (e0, .inl (cJ, 160, .inr (.inl fe))), (x0, .inr (7, [.ref xs, .ref j0, .ref k0, .ref w0, .ref rd, .ref mv, .ref xr, .int im, .int lf])), (xr, .inl (cI, 8, .inl q_117))]) hP hD rfl
                                clear hP hD
                                obtain ⟨hP, hD⟩ := h9R
                                obtain rfl := hr_115
                                exact W.iret (v := (-5)) hx hb hr (fun t ht hW => ⟨⟨(-5), (fe, q_117), rfl, ⟨(show ((-5) : Int32).toInt = zCopR s_.toInt q_.toInt he.toInt he.toInt si.toInt si.toInt i.toInt j.toInt n.toInt from by (have k9 : ((-5) : Int32).toInt = -5 := (by decide); unfold zCopR; (repeat (first | rw [if_pos (by omega)] | rw [if_neg (by omega)])) <;> omega)), (show (((-5) : Int32).toInt = 1 → fe = va_cpy fe fe i.toNatClampNeg j.toNatClampNeg n.toNatClampNeg) from by (have k9 : ((-5) : Int32).toInt = -5 := (by decide); intro h; exfalso; omega)), (show (((-5) : Int32).toInt ≠ 1 → fe = fe) from by (have k9 : ((-5) : Int32).toInt = -5 := (by decide); intro h; exact rfl)), trivial⟩, zRet ht hP hD [3, 4, 0, 1, 2] (by decide) rfl⟩, hS.F ht⟩) hS.2.2 dX7_copy_154
                              · exact absurd c_114 (by decide)
                            · refine lv_if_eq (tgt := 149) hx hb dX7_copy_134 (by decide) (fun c_118 => ?_) (fun c_118 => ?_)
                              · refine lv_aload_n hx hb dX7_copy_149 rfl (lv_at hl 5 rfl) ?_
                                refine lv_iconst (v := 5) hx hb dX7_copy_150 (by decide) ?_
                                skip
                                refine zw_V (As := [.int 5]) (rest := []) (wr := [(xs, .inl (cS, 8, .inr (.inr (.inr (.inr fh))))), (h0, .inr (4, [.ref e0, .int he, .int si])), (e0, .inl (cJ, 160, .inr (.inl fe)))]) ⟨hx, hb, hml, hown, hts⟩ (c_X_refuse_5 l D cI cJ cZ cP cS po x0 xs j0 k0 w0 rd mv xr (im) (lf) fr hy0 hy1 hy2 hy3 H.size) (cwV 1 hts gX7_copy_X7_refuse rfl rfl rfl ⟨rfl, dh_X7_refuse⟩ ⟨Nat.le_of_ble_eq_true rfl, Nat.le_of_ble_eq_true rfl⟩) hK hN (hZ.kept hS) hP hD hS hA [0, 1] [2, 3, 4] rfl rfl (by decide) (by decide) (by decide) (va_recv (q := (RX7, TX7, 9)) hK hP (ci := 7) (q0 := 0) rfl rfl) rfl hl.1 rfl (Nat.le_of_ble_eq_true rfl) dX7_copy_151 ⟨Nat.le_of_ble_eq_true rfl, Nat.le_of_ble_eq_true rfl⟩ (fun r_119 u_120 H locs hr_119 hP hD hS => ?_)
                                obtain ⟨q_121, rfl⟩ : ∃ z, z = u_120 := ⟨_, rfl⟩
                                have h9R := zRe (ws' := [(xs, .inl (cS, 8, .inr (.inr (.inr (.inr fh))))), (h0, .inr (4, [.ref e0, .int he, .int si])), (e0, .inl (cJ, 160, .inr (.inl fe))), (x0, .inr (7, [.ref xs, .ref j0, .ref k0, .ref w0, .ref rd, .ref mv, .ref xr, .int im, .int lf])), (xr, .inl (cI, 8, .inl q_121))]) hP hD rfl
                                clear hP hD
                                obtain ⟨hP, hD⟩ := h9R
                                obtain rfl := hr_119
                                exact W.iret (v := (-5)) hx hb hr (fun t ht hW => ⟨⟨(-5), (fe, q_121), rfl, ⟨(show ((-5) : Int32).toInt = zCopR s_.toInt q_.toInt he.toInt he.toInt si.toInt si.toInt i.toInt j.toInt n.toInt from by (have k9 : ((-5) : Int32).toInt = -5 := (by decide); unfold zCopR; (repeat (first | rw [if_pos (by omega)] | rw [if_neg (by omega)])) <;> omega)), (show (((-5) : Int32).toInt = 1 → fe = va_cpy fe fe i.toNatClampNeg j.toNatClampNeg n.toNatClampNeg) from by (have k9 : ((-5) : Int32).toInt = -5 := (by decide); intro h; exfalso; omega)), (show (((-5) : Int32).toInt ≠ 1 → fe = fe) from by (have k9 : ((-5) : Int32).toInt = -5 := (by decide); intro h; exact rfl)), trivial⟩, zRet ht hP hD [3, 4, 0, 1, 2] (by decide) rfl⟩, hS.F ht⟩) hS.2.2 dX7_copy_154
                              · exact absurd c_118 (by decide)
                            · refine lv_if_eq (tgt := 149) hx hb dX7_copy_134 (by decide) (fun c_122 => ?_) (fun c_122 => ?_)
                              · exact absurd c_122 (by decide)
                              · refine lv_aload hx hb dX7_copy_137 (lv_at hl 3 rfl) ?_
                                refine lv_iload hx hb dX7_copy_139 (lv_at hl 9 rfl) ?_
                                refine lv_iload hx hb dX7_copy_141 (lv_at hl 10 rfl) ?_
                                refine zc_V (As := [.int j, .int n]) (rest := []) ⟨hx, hb, hml, hown, hts⟩ (c_Sh_hasSpan l D cI cJ cZ cP cS po h0 e0 (he) (si) (j) (n) hy4 hy5 hy6 hy7) (cwV 2 hts gX7_copy_X4_hasSpan rfl rfl rfl ⟨rfl, dh_X4_hasSpan⟩ ⟨Nat.le_of_ble_eq_true rfl, Nat.le_of_ble_eq_true rfl⟩) hK hN (hZ.kept hS) hP (hP.sub [3] rfl) (va_recv (q := (RX4, TX4, 3)) hK hP (ci := 4) (q0 := 3) rfl rfl) rfl hl.1 rfl (Nat.le_of_ble_eq_true rfl) dX7_copy_143 ⟨Nat.le_of_ble_eq_true rfl, Nat.le_of_ble_eq_true rfl⟩ (fun r_123 hr_123 => ?_)
                                rcases hr_123 with ⟨rfl, g_124⟩ | ⟨rfl, g_125, g_126⟩ | ⟨rfl, g_127, g_128, g_129⟩ | ⟨rfl, g_130, g_131, g_132, g_133⟩ | ⟨rfl, g_134, g_135, g_136, g_137⟩
                                · refine lv_if_ne (tgt := 155) hx hb dX7_copy_146 (by decide) (fun c_138 => ?_) (fun c_138 => ?_)
                                  · exact absurd c_138 (by decide)
                                  · refine lv_aload_n hx hb dX7_copy_149 rfl (lv_at hl 5 rfl) ?_
                                    refine lv_iconst (v := 5) hx hb dX7_copy_150 (by decide) ?_
                                    skip
                                    refine zw_V (As := [.int 5]) (rest := []) (wr := [(xs, .inl (cS, 8, .inr (.inr (.inr (.inr fh))))), (h0, .inr (4, [.ref e0, .int he, .int si])), (e0, .inl (cJ, 160, .inr (.inl fe)))]) ⟨hx, hb, hml, hown, hts⟩ (c_X_refuse_5 l D cI cJ cZ cP cS po x0 xs j0 k0 w0 rd mv xr (im) (lf) fr hy0 hy1 hy2 hy3 H.size) (cwV 1 hts gX7_copy_X7_refuse rfl rfl rfl ⟨rfl, dh_X7_refuse⟩ ⟨Nat.le_of_ble_eq_true rfl, Nat.le_of_ble_eq_true rfl⟩) hK hN (hZ.kept hS) hP hD hS hA [0, 1] [2, 3, 4] rfl rfl (by decide) (by decide) (by decide) (va_recv (q := (RX7, TX7, 9)) hK hP (ci := 7) (q0 := 0) rfl rfl) rfl hl.1 rfl (Nat.le_of_ble_eq_true rfl) dX7_copy_151 ⟨Nat.le_of_ble_eq_true rfl, Nat.le_of_ble_eq_true rfl⟩ (fun r_139 u_140 H locs hr_139 hP hD hS => ?_)
                                    obtain ⟨q_141, rfl⟩ : ∃ z, z = u_140 := ⟨_, rfl⟩
                                    have h9R := zRe (ws' := [(xs, .inl (cS, 8, .inr (.inr (.inr (.inr fh))))), (h0, .inr (4, [.ref e0, .int he, .int si])), (e0, .inl (cJ, 160, .inr (.inl fe))), (x0, .inr (7, [.ref xs, .ref j0, .ref k0, .ref w0, .ref rd, .ref mv, .ref xr, .int im, .int lf])), (xr, .inl (cI, 8, .inl q_141))]) hP hD rfl
                                    clear hP hD
                                    obtain ⟨hP, hD⟩ := h9R
                                    obtain rfl := hr_139
                                    exact W.iret (v := (-5)) hx hb hr (fun t ht hW => ⟨⟨(-5), (fe, q_141), rfl, ⟨(show ((-5) : Int32).toInt = zCopR s_.toInt q_.toInt he.toInt he.toInt si.toInt si.toInt i.toInt j.toInt n.toInt from by (have k9 : ((-5) : Int32).toInt = -5 := (by decide); unfold zCopR; (repeat (first | rw [if_pos (by omega)] | rw [if_neg (by omega)])) <;> omega)), (show (((-5) : Int32).toInt = 1 → fe = va_cpy fe fe i.toNatClampNeg j.toNatClampNeg n.toNatClampNeg) from by (have k9 : ((-5) : Int32).toInt = -5 := (by decide); intro h; exfalso; omega)), (show (((-5) : Int32).toInt ≠ 1 → fe = fe) from by (have k9 : ((-5) : Int32).toInt = -5 := (by decide); intro h; exact rfl)), trivial⟩, zRet ht hP hD [3, 4, 0, 1, 2] (by decide) rfl⟩, hS.F ht⟩) hS.2.2 dX7_copy_154
                                · exfalso; omega
                                · exfalso; omega
                                · refine lv_if_ne (tgt := 155) hx hb dX7_copy_146 (by decide) (fun c_142 => ?_) (fun c_142 => ?_)
                                  · exact absurd c_142 (by decide)
                                  · refine lv_aload_n hx hb dX7_copy_149 rfl (lv_at hl 5 rfl) ?_
                                    refine lv_iconst (v := 5) hx hb dX7_copy_150 (by decide) ?_
                                    skip
                                    refine zw_V (As := [.int 5]) (rest := []) (wr := [(xs, .inl (cS, 8, .inr (.inr (.inr (.inr fh))))), (h0, .inr (4, [.ref e0, .int he, .int si])), (e0, .inl (cJ, 160, .inr (.inl fe)))]) ⟨hx, hb, hml, hown, hts⟩ (c_X_refuse_5 l D cI cJ cZ cP cS po x0 xs j0 k0 w0 rd mv xr (im) (lf) fr hy0 hy1 hy2 hy3 H.size) (cwV 1 hts gX7_copy_X7_refuse rfl rfl rfl ⟨rfl, dh_X7_refuse⟩ ⟨Nat.le_of_ble_eq_true rfl, Nat.le_of_ble_eq_true rfl⟩) hK hN (hZ.kept hS) hP hD hS hA [0, 1] [2, 3, 4] rfl rfl (by decide) (by decide) (by decide) (va_recv (q := (RX7, TX7, 9)) hK hP (ci := 7) (q0 := 0) rfl rfl) rfl hl.1 rfl (Nat.le_of_ble_eq_true rfl) dX7_copy_151 ⟨Nat.le_of_ble_eq_true rfl, Nat.le_of_ble_eq_true rfl⟩ (fun r_143 u_144 H locs hr_143 hP hD hS => ?_)
                                    obtain ⟨q_145, rfl⟩ : ∃ z, z = u_144 := ⟨_, rfl⟩
                                    have h9R := zRe (ws' := [(xs, .inl (cS, 8, .inr (.inr (.inr (.inr fh))))), (h0, .inr (4, [.ref e0, .int he, .int si])), (e0, .inl (cJ, 160, .inr (.inl fe))), (x0, .inr (7, [.ref xs, .ref j0, .ref k0, .ref w0, .ref rd, .ref mv, .ref xr, .int im, .int lf])), (xr, .inl (cI, 8, .inl q_145))]) hP hD rfl
                                    clear hP hD
                                    obtain ⟨hP, hD⟩ := h9R
                                    obtain rfl := hr_143
                                    exact W.iret (v := (-5)) hx hb hr (fun t ht hW => ⟨⟨(-5), (fe, q_145), rfl, ⟨(show ((-5) : Int32).toInt = zCopR s_.toInt q_.toInt he.toInt he.toInt si.toInt si.toInt i.toInt j.toInt n.toInt from by (have k9 : ((-5) : Int32).toInt = -5 := (by decide); unfold zCopR; (repeat (first | rw [if_pos (by omega)] | rw [if_neg (by omega)])) <;> omega)), (show (((-5) : Int32).toInt = 1 → fe = va_cpy fe fe i.toNatClampNeg j.toNatClampNeg n.toNatClampNeg) from by (have k9 : ((-5) : Int32).toInt = -5 := (by decide); intro h; exfalso; omega)), (show (((-5) : Int32).toInt ≠ 1 → fe = fe) from by (have k9 : ((-5) : Int32).toInt = -5 := (by decide); intro h; exact rfl)), trivial⟩, zRet ht hP hD [3, 4, 0, 1, 2] (by decide) rfl⟩, hS.F ht⟩) hS.2.2 dX7_copy_154
                                · refine lv_if_ne (tgt := 155) hx hb dX7_copy_146 (by decide) (fun c_146 => ?_) (fun c_146 => ?_)
                                  · refine lv_aload hx hb dX7_copy_155 (lv_at hl 4 rfl) ?_
                                    refine va_get (D := D) (ci := 4) (v := .ref e0) (C := RX4) (T := TX4) (N := 3) hx hb hts hi_X7_copy_4 hown hK hP 3 rfl rfl 0 (by decide) (hts (.fieldLink RX7 90 "TheLiningsInIt$Shelf" "elements" "[J") (List.mem_of_getElem? (i := 2) rfl)) (fun _ h9 => h9) rfl dX7_copy_157 ?_
                                    refine lv_iload_n hx hb dX7_copy_160 rfl (lv_at hl 8 rfl) ?_
                                    refine lv_aload hx hb dX7_copy_161 (lv_at hl 3 rfl) ?_
                                    refine va_get (D := D) (ci := 4) (v := .ref e0) (C := RX4) (T := TX4) (N := 3) hx hb hts hi_X7_copy_4 hown hK hP 3 rfl rfl 0 (by decide) (hts (.fieldLink RX7 90 "TheLiningsInIt$Shelf" "elements" "[J") (List.mem_of_getElem? (i := 2) rfl)) (fun _ h9 => h9) rfl dX7_copy_163 ?_
                                    refine lv_iload hx hb dX7_copy_166 (lv_at hl 9 rfl) ?_
                                    refine lv_iload hx hb dX7_copy_168 (lv_at hl 10 rfl) ?_
                                    refine va_copyl hx hb (hml.trans hl.1.symm) hown (hts (.methodLink RX7 94 arraycopyName) (List.mem_of_getElem? (i := 3) rfl)) (hts _ (List.mem_of_getElem? (i := 4) rfl)) (hts _ (List.mem_of_getElem? (i := 5) rfl)) (hts _ (List.mem_of_getElem? (i := 6) rfl)) hK hP hD hS 4 4 1 1 rfl rfl rfl rfl rfl (fun h => by have h9 := zf_lt h rfl (show (0 : Int32).toInt = 0 from by decide); omega) (fun h => by have h9 := zf_lt h rfl (show (0 : Int32).toInt = 0 from by decide); omega) (fun h => by have h9 := zf_lt h rfl (show (0 : Int32).toInt = 0 from by decide); omega) (by (show (i : Int32).toInt.toNat + (n : Int32).toInt.toNat ≤ 160; omega)) (by (show (j : Int32).toInt.toNat + (n : Int32).toInt.toNat ≤ 160; omega)) (fun _ _ => rfl) (Nat.le_of_ble_eq_true rfl) (by decide) dX7_copy_170 (fun H locs hP hD hS => ?_)
                                    obtain ⟨g_147, hg_147⟩ : ∃ g : Nat → Int64, g = va_cpy fe fe i.toNatClampNeg j.toNatClampNeg n.toNatClampNeg := ⟨_, rfl⟩
                                    rw [← hg_147] at hP hD
                                    have h9R := zRe (ws' := [(x0, .inr (7, [.ref xs, .ref j0, .ref k0, .ref w0, .ref rd, .ref mv, .ref xr, .int im, .int lf])), (xr, .inl (cI, 8, .inl fr)), (xs, .inl (cS, 8, .inr (.inr (.inr (.inr fh))))), (h0, .inr (4, [.ref e0, .int he, .int si])), (e0, .inl (cJ, 160, .inr (.inl g_147)))]) hP hD rfl
                                    clear hP hD
                                    obtain ⟨hP, hD⟩ := h9R
                                    refine lv_iconst (v := 1) hx hb dX7_copy_173 (by decide) ?_
                                    exact W.iret (v := 1) hx hb hr (fun t ht hW => ⟨⟨1, (g_147, fr), rfl, ⟨(show (1 : Int32).toInt = zCopR s_.toInt q_.toInt he.toInt he.toInt si.toInt si.toInt i.toInt j.toInt n.toInt from by (have k9 : (1 : Int32).toInt = 1 := (by decide); unfold zCopR; (repeat (first | rw [if_pos (by omega)] | rw [if_neg (by omega)])) <;> omega)), (show ((1 : Int32).toInt = 1 → g_147 = va_cpy fe fe i.toNatClampNeg j.toNatClampNeg n.toNatClampNeg) from by (have k9 : (1 : Int32).toInt = 1 := (by decide); intro h; exact (by rw [hg_147]))), (show ((1 : Int32).toInt ≠ 1 → g_147 = fe) from by (have k9 : (1 : Int32).toInt = 1 := (by decide); intro h; exfalso; omega)), trivial⟩, zRet ht hP hD [0, 1, 2, 3, 4] (by decide) rfl⟩, hS.F ht⟩) hS.2.2 dX7_copy_174
                                  · exact absurd c_146 (by decide)
                          · have fc_94 : n.toInt < 0 := zf_nle c_94 (by decide) rfl
                            refine lv_aload_n hx hb dX7_copy_120 rfl (lv_at hl 5 rfl) ?_
                            refine lv_iconst (v := 4) hx hb dX7_copy_121 (by decide) ?_
                            skip
                            refine zw_V (As := [.int 4]) (rest := []) (wr := [(xs, .inl (cS, 8, .inr (.inr (.inr (.inr fh))))), (h0, .inr (4, [.ref e0, .int he, .int si])), (e0, .inl (cJ, 160, .inr (.inl fe)))]) ⟨hx, hb, hml, hown, hts⟩ (c_X_refuse_4 l D cI cJ cZ cP cS po x0 xs j0 k0 w0 rd mv xr (im) (lf) fr hy0 hy1 hy2 hy3 H.size) (cwV 1 hts gX7_copy_X7_refuse rfl rfl rfl ⟨rfl, dh_X7_refuse⟩ ⟨Nat.le_of_ble_eq_true rfl, Nat.le_of_ble_eq_true rfl⟩) hK hN (hZ.kept hS) hP hD hS hA [0, 1] [2, 3, 4] rfl rfl (by decide) (by decide) (by decide) (va_recv (q := (RX7, TX7, 9)) hK hP (ci := 7) (q0 := 0) rfl rfl) rfl hl.1 rfl (Nat.le_of_ble_eq_true rfl) dX7_copy_122 ⟨Nat.le_of_ble_eq_true rfl, Nat.le_of_ble_eq_true rfl⟩ (fun r_148 u_149 H locs hr_148 hP hD hS => ?_)
                            obtain ⟨q_150, rfl⟩ : ∃ z, z = u_149 := ⟨_, rfl⟩
                            have h9R := zRe (ws' := [(xs, .inl (cS, 8, .inr (.inr (.inr (.inr fh))))), (h0, .inr (4, [.ref e0, .int he, .int si])), (e0, .inl (cJ, 160, .inr (.inl fe))), (x0, .inr (7, [.ref xs, .ref j0, .ref k0, .ref w0, .ref rd, .ref mv, .ref xr, .int im, .int lf])), (xr, .inl (cI, 8, .inl q_150))]) hP hD rfl
                            clear hP hD
                            obtain ⟨hP, hD⟩ := h9R
                            obtain rfl := hr_148
                            exact W.iret (v := (-4)) hx hb hr (fun t ht hW => ⟨⟨(-4), (fe, q_150), rfl, ⟨(show ((-4) : Int32).toInt = zCopR s_.toInt q_.toInt he.toInt he.toInt si.toInt si.toInt i.toInt j.toInt n.toInt from by (have k9 : ((-4) : Int32).toInt = -4 := (by decide); unfold zCopR; (repeat (first | rw [if_pos (by omega)] | rw [if_neg (by omega)])) <;> omega)), (show (((-4) : Int32).toInt = 1 → fe = va_cpy fe fe i.toNatClampNeg j.toNatClampNeg n.toNatClampNeg) from by (have k9 : ((-4) : Int32).toInt = -4 := (by decide); intro h; exfalso; omega)), (show (((-4) : Int32).toInt ≠ 1 → fe = fe) from by (have k9 : ((-4) : Int32).toInt = -4 := (by decide); intro h; exact rfl)), trivial⟩, zRet ht hP hD [3, 4, 0, 1, 2] (by decide) rfl⟩, hS.F ht⟩) hS.2.2 dX7_copy_125
                        · exact absurd c_93 (by decide)
                    · exact absurd c_91 (by decide)
              · exfalso; have fc_88 : he.toInt ≠ he.toInt := zf_ne c_88 rfl rfl; omega
end
section
set_option maxHeartbeats 4000000 in
set_option maxRecDepth 100000 in
theorem c_F_X_element (l : Launch) (D : va_G) (cI cJ cZ cP cS : ClassId) (po : zPool) (x0 xs j0 k0 w0 rd mv xr : Nat) (im lf : Int32) (fr : Nat → Int32) (fh : Nat → Option Nat) (s_ : Int32) (h0 e0 : Nat) (he si : Int32) (fe : Nat → Int64) (i : Int32) (hy0 : 0 ≤ im.toInt) (hy1 : im.toInt ≤ 1) (hy2 : (-1) ≤ lf.toInt) (hy3 : lf.toInt ≤ 160) (hy4 : (-1) ≤ he.toInt) (hy5 : he.toInt ≤ 103) (hy6 : 0 ≤ si.toInt) (hy7 : si.toInt ≤ 160) (hfs : 0 ≤ s_.toInt → s_.toInt ≤ 7 → fh s_.toNatClampNeg = some h0) (hpz : Nat) : Met l yX7_element wsX7_element ({ frames := 2, cells := 0, slots := 0, locals := 43 }) (va_Pc [.ref x0, .int s_, .int i] (zW D (zKT cI cJ cZ cP cS) po [(x0, .inr (7, [.ref xs, .ref j0, .ref k0, .ref w0, .ref rd, .ref mv, .ref xr, .int im, .int lf])), (xs, .inl (cS, 8, .inr (.inr (.inr (.inr fh))))), (h0, .inr (4, [.ref e0, .int he, .int si])), (e0, .inl (cJ, 160, .inr (.inl fe)))] hpz)) (va_Ql (fun (r : Int64) (_ : Unit) => (r = (if (0 ≤ s_.toInt ∧ s_.toInt ≤ 7) ∧ 100 ≤ he.toInt ∧ 0 ≤ i.toInt ∧ i.toInt < si.toInt then fe i.toNatClampNeg else 0)) ∧ (True)) (zB D [(x0, .inr (7, [.ref xs, .ref j0, .ref k0, .ref w0, .ref rd, .ref mv, .ref xr, .int im, .int lf])), (xs, .inl (cS, 8, .inr (.inr (.inr (.inr fh))))), (h0, .inr (4, [.ref e0, .int he, .int si])), (e0, .inl (cJ, 160, .inr (.inl fe)))] hpz (fun (_ : Unit) => [(x0, .inr (7, [.ref xs, .ref j0, .ref k0, .ref w0, .ref rd, .ref mv, .ref xr, .int im, .int lf])), (xs, .inl (cS, 8, .inr (.inr (.inr (.inr fh))))), (h0, .inr (4, [.ref e0, .int he, .int si])), (e0, .inl (cJ, 160, .inr (.inl fe)))])) (va_A [(x0, .inr (7, [.ref xs, .ref j0, .ref k0, .ref w0, .ref rd, .ref mv, .ref xr, .int im, .int lf])), (xs, .inl (cS, 8, .inr (.inr (.inr (.inr fh))))), (h0, .inr (4, [.ref e0, .int he, .int si])), (e0, .inl (cJ, 160, .inr (.inl fe)))] hpz)) 0 0 (va_A [(x0, .inr (7, [.ref xs, .ref j0, .ref k0, .ref w0, .ref rd, .ref mv, .ref xr, .int im, .int lf])), (xs, .inl (cS, 8, .inr (.inr (.inr (.inr fh))))), (h0, .inr (4, [.ref e0, .int he, .int si])), (e0, .inl (cJ, 160, .inr (.inl fe)))] hpz) := by
  refine Met.ofW (cc := cX7_element) (maxL := 4) (ret := (some .long)) (by decide) rfl ?_
  intro p e s m args below meth c s₁ B hml hv
  obtain ⟨rfl, hsz, hP, hK, hD0, hN, hZ⟩ := hv
  have hx := B.exec
  have hb := B.bytes
  have hr := B.returns
  have hts := atoms_spec (ws := wsX7_element) B.pre
  have hown : s.vm.findClass RX7 = some m.cls := findClass_of_methodNamed B.named
  have hlocks := B.notSynchronized
  subst hsz
  have hD := hD0.self (sz := s.heap.size)
  have hA := zA_of hD
  have hl := lv_entry ([.ref x0, .int s_, .int i]) (n := 4) (Nat.le_of_ble_eq_true rfl)
  rw [lg_entry_eq]
  generalize (lg_sl ([.ref x0, .int s_, .int i]) ++ List.replicate (4 - (lg_sl ([.ref x0, .int s_, .int i])).length) Slot.unset).toArray = ls at hl ⊢
  replace hl : lv_has ls 4 [(0, .ref x0), (1, .int s_), (2, .int i)] := hl
  refine zw_begin hP hD (fun H locs hP1 hS => ?_)
  clear hP
  have hP := hP1
  clear hP1
  refine lv_aload_n hx hb dX7_element_0 rfl (lv_at hl 0 rfl) ?_
  refine lv_iload_n hx hb dX7_element_1 rfl (lv_at hl 1 rfl) ?_
  refine zc_Vq (As := [.int s_]) (rest := []) ⟨hx, hb, hml, hown, hts⟩ (c_X_shelfAt l D cI cJ cZ cP cS po x0 xs j0 k0 w0 rd mv xr (im) (lf) ((fun _ => 0)) fh (s_) hy0 hy1 hy2 hy3) (cwV 1 hts gX7_element_X7_shelfAt rfl rfl rfl ⟨rfl, dh_X7_shelfAt⟩ ⟨Nat.le_of_ble_eq_true rfl, Nat.le_of_ble_eq_true rfl⟩) hK hN (hZ.kept hS) hP (hP.sub [0, 1] rfl) (va_recv (q := (RX7, TX7, 9)) hK hP (ci := 7) (q0 := 0) rfl rfl) rfl hl.1 rfl (Nat.le_of_ble_eq_true rfl) dX7_element_2 ⟨Nat.le_of_ble_eq_true rfl, Nat.le_of_ble_eq_true rfl⟩ (fun r_1 hr_1 => ?_)
  rcases hr_1 with ⟨rfl, g_2⟩ | ⟨rfl, g_3, g_4⟩ | ⟨rfl, g_5, g_6⟩
  · refine lv_astore_nN (lv' := [(3, .null), (0, .ref x0), (1, .int s_), (2, .int i)]) hx hb dX7_element_5 rfl hl (by decide) rfl (fun ls hl => ?_)
    refine lv_aload_nN hx hb dX7_element_6 rfl (lv_at hl 0 rfl) ?_
    refine lv_ifnullN (tgt := 26) hx hb dX7_element_7 (by decide) ?_
    refine lv_lconst (v := 0) hx hb dX7_element_26 (by decide) ?_
    exact W.lret (v := 0) hx hb hr (fun t ht hW => ⟨⟨0, (), rfl, ⟨(show (0 : Int64) = (if (0 ≤ s_.toInt ∧ s_.toInt ≤ 7) ∧ 100 ≤ he.toInt ∧ 0 ≤ i.toInt ∧ i.toInt < si.toInt then fe i.toNatClampNeg else 0) from by (rw [if_neg (by omega)])), trivial⟩, zRet ht hP hD [0, 1, 2, 3] (by decide) rfl⟩, hS.F ht⟩) hS.2.2 dX7_element_27
  · refine lv_astore_nN (lv' := [(3, .null), (0, .ref x0), (1, .int s_), (2, .int i)]) hx hb dX7_element_5 rfl hl (by decide) rfl (fun ls hl => ?_)
    refine lv_aload_nN hx hb dX7_element_6 rfl (lv_at hl 0 rfl) ?_
    refine lv_ifnullN (tgt := 26) hx hb dX7_element_7 (by decide) ?_
    refine lv_lconst (v := 0) hx hb dX7_element_26 (by decide) ?_
    exact W.lret (v := 0) hx hb hr (fun t ht hW => ⟨⟨0, (), rfl, ⟨(show (0 : Int64) = (if (0 ≤ s_.toInt ∧ s_.toInt ≤ 7) ∧ 100 ≤ he.toInt ∧ 0 ≤ i.toInt ∧ i.toInt < si.toInt then fe i.toNatClampNeg else 0) from by (rw [if_neg (by omega)])), trivial⟩, zRet ht hP hD [0, 1, 2, 3] (by decide) rfl⟩, hS.F ht⟩) hS.2.2 dX7_element_27
  · rw [hfs (by omega) (by omega)]
    refine W.eq (g2 := F0 m 5 ls (.ref h0 :: [])) rfl ?_
    refine lv_astore_n (lv' := [(3, .ref h0), (0, .ref x0), (1, .int s_), (2, .int i)]) hx hb dX7_element_5 rfl hl (by decide) rfl (fun ls hl => ?_)
    refine lv_aload_n hx hb dX7_element_6 rfl (lv_at hl 0 rfl) ?_
    refine lv_ifnull hx hb dX7_element_7 ?_
    refine lv_aload_n hx hb dX7_element_10 rfl (lv_at hl 0 rfl) ?_
    refine zc_V (As := []) (rest := []) ⟨hx, hb, hml, hown, hts⟩ (c_Sh_noRow l D cI cJ cZ cP cS po h0 e0 (he) (si) hy4 hy5 hy6 hy7) (cwV 0 hts gX7_element_X4_noRow rfl rfl rfl ⟨rfl, dh_X4_noRow⟩ ⟨Nat.le_of_ble_eq_true rfl, Nat.le_of_ble_eq_true rfl⟩) hK hN (hZ.kept hS) hP (hP.sub [2] rfl) (va_recv (q := (RX4, TX4, 3)) hK hP (ci := 4) (q0 := 2) rfl rfl) rfl hl.1 rfl (Nat.le_of_ble_eq_true rfl) dX7_element_11 ⟨Nat.le_of_ble_eq_true rfl, Nat.le_of_ble_eq_true rfl⟩ (fun r_7 hr_7 => ?_)
    rcases hr_7 with ⟨rfl, g_8, g_9⟩ | ⟨rfl, g_10, g_11⟩ | ⟨rfl, g_12⟩
    · refine lv_if_ne (tgt := 26) hx hb dX7_element_14 (by decide) (fun c_13 => ?_) (fun c_13 => ?_)
      · refine lv_lconst (v := 0) hx hb dX7_element_26 (by decide) ?_
        exact W.lret (v := 0) hx hb hr (fun t ht hW => ⟨⟨0, (), rfl, ⟨(show (0 : Int64) = (if (0 ≤ s_.toInt ∧ s_.toInt ≤ 7) ∧ 100 ≤ he.toInt ∧ 0 ≤ i.toInt ∧ i.toInt < si.toInt then fe i.toNatClampNeg else 0) from by (rw [if_neg (by omega)])), trivial⟩, zRet ht hP hD [0, 1, 2, 3] (by decide) rfl⟩, hS.F ht⟩) hS.2.2 dX7_element_27
      · exact absurd c_13 (by decide)
    · refine lv_if_ne (tgt := 26) hx hb dX7_element_14 (by decide) (fun c_14 => ?_) (fun c_14 => ?_)
      · refine lv_lconst (v := 0) hx hb dX7_element_26 (by decide) ?_
        exact W.lret (v := 0) hx hb hr (fun t ht hW => ⟨⟨0, (), rfl, ⟨(show (0 : Int64) = (if (0 ≤ s_.toInt ∧ s_.toInt ≤ 7) ∧ 100 ≤ he.toInt ∧ 0 ≤ i.toInt ∧ i.toInt < si.toInt then fe i.toNatClampNeg else 0) from by (rw [if_neg (by omega)])), trivial⟩, zRet ht hP hD [0, 1, 2, 3] (by decide) rfl⟩, hS.F ht⟩) hS.2.2 dX7_element_27
      · exact absurd c_14 (by decide)
    · refine lv_if_ne (tgt := 26) hx hb dX7_element_14 (by decide) (fun c_15 => ?_) (fun c_15 => ?_)
      · exact absurd c_15 (by decide)
      · refine lv_aload_n hx hb dX7_element_17 rfl (lv_at hl 0 rfl) ?_
        refine lv_iload_n hx hb dX7_element_18 rfl (lv_at hl 3 rfl) ?_
        refine lv_iconst (v := 1) hx hb dX7_element_19 (by decide) ?_
        have kc1 : (1 : Int32).toInt = 1 := by decide
        refine zc_V (As := [.int i, .int 1]) (rest := []) ⟨hx, hb, hml, hown, hts⟩ (c_Sh_hasSpan l D cI cJ cZ cP cS po h0 e0 (he) (si) (i) (1) hy4 hy5 hy6 hy7) (cwV 2 hts gX7_element_X4_hasSpan rfl rfl rfl ⟨rfl, dh_X4_hasSpan⟩ ⟨Nat.le_of_ble_eq_true rfl, Nat.le_of_ble_eq_true rfl⟩) hK hN (hZ.kept hS) hP (hP.sub [2] rfl) (va_recv (q := (RX4, TX4, 3)) hK hP (ci := 4) (q0 := 2) rfl rfl) rfl hl.1 rfl (Nat.le_of_ble_eq_true rfl) dX7_element_20 ⟨Nat.le_of_ble_eq_true rfl, Nat.le_of_ble_eq_true rfl⟩ (fun r_16 hr_16 => ?_)
        rcases hr_16 with ⟨rfl, g_17⟩ | ⟨rfl, g_18, g_19⟩ | ⟨rfl, g_20, g_21, g_22⟩ | ⟨rfl, g_23, g_24, g_25, g_26⟩ | ⟨rfl, g_27, g_28, g_29, g_30⟩
        · refine lv_if_ne (tgt := 28) hx hb dX7_element_23 (by decide) (fun c_31 => ?_) (fun c_31 => ?_)
          · exact absurd c_31 (by decide)
          · refine lv_lconst (v := 0) hx hb dX7_element_26 (by decide) ?_
            exact W.lret (v := 0) hx hb hr (fun t ht hW => ⟨⟨0, (), rfl, ⟨(show (0 : Int64) = (if (0 ≤ s_.toInt ∧ s_.toInt ≤ 7) ∧ 100 ≤ he.toInt ∧ 0 ≤ i.toInt ∧ i.toInt < si.toInt then fe i.toNatClampNeg else 0) from by (rw [if_neg (by omega)])), trivial⟩, zRet ht hP hD [0, 1, 2, 3] (by decide) rfl⟩, hS.F ht⟩) hS.2.2 dX7_element_27
        · exfalso; omega
        · refine lv_if_ne (tgt := 28) hx hb dX7_element_23 (by decide) (fun c_32 => ?_) (fun c_32 => ?_)
          · exact absurd c_32 (by decide)
          · refine lv_lconst (v := 0) hx hb dX7_element_26 (by decide) ?_
            exact W.lret (v := 0) hx hb hr (fun t ht hW => ⟨⟨0, (), rfl, ⟨(show (0 : Int64) = (if (0 ≤ s_.toInt ∧ s_.toInt ≤ 7) ∧ 100 ≤ he.toInt ∧ 0 ≤ i.toInt ∧ i.toInt < si.toInt then fe i.toNatClampNeg else 0) from by (rw [if_neg (by omega)])), trivial⟩, zRet ht hP hD [0, 1, 2, 3] (by decide) rfl⟩, hS.F ht⟩) hS.2.2 dX7_element_27
        · refine lv_if_ne (tgt := 28) hx hb dX7_element_23 (by decide) (fun c_33 => ?_) (fun c_33 => ?_)
          · exact absurd c_33 (by decide)
          · refine lv_lconst (v := 0) hx hb dX7_element_26 (by decide) ?_
            exact W.lret (v := 0) hx hb hr (fun t ht hW => ⟨⟨0, (), rfl, ⟨(show (0 : Int64) = (if (0 ≤ s_.toInt ∧ s_.toInt ≤ 7) ∧ 100 ≤ he.toInt ∧ 0 ≤ i.toInt ∧ i.toInt < si.toInt then fe i.toNatClampNeg else 0) from by (rw [if_neg (by omega)])), trivial⟩, zRet ht hP hD [0, 1, 2, 3] (by decide) rfl⟩, hS.F ht⟩) hS.2.2 dX7_element_27
        · refine lv_if_ne (tgt := 28) hx hb dX7_element_23 (by decide) (fun c_34 => ?_) (fun c_34 => ?_)
          · refine lv_aload_n hx hb dX7_element_28 rfl (lv_at hl 0 rfl) ?_
            refine va_get (D := D) (ci := 4) (v := .ref e0) (C := RX4) (T := TX4) (N := 3) hx hb hts hi_X7_element_4 hown hK hP 2 rfl rfl 0 (by decide) (hts (.fieldLink RX7 90 "TheLiningsInIt$Shelf" "elements" "[J") (List.mem_of_getElem? (i := 1) rfl)) (fun _ h9 => h9) rfl dX7_element_29 ?_
            refine lv_iload_n hx hb dX7_element_32 rfl (lv_at hl 3 rfl) ?_
            refine va_lald hx hb hK hP 3 1 rfl rfl (zf_in (by omega) (by omega)) dX7_element_33 ?_
            refine lv_topl (fun x_35 ex_35 => ?_)
            exact W.lret (v := x_35) hx hb hr (fun t ht hW => ⟨⟨x_35, (), rfl, ⟨(show (x_35 : Int64) = (if (0 ≤ s_.toInt ∧ s_.toInt ≤ 7) ∧ 100 ≤ he.toInt ∧ 0 ≤ i.toInt ∧ i.toInt < si.toInt then fe i.toNatClampNeg else 0) from by (rw [ex_35, if_pos (by omega)])), trivial⟩, zRet ht hP hD [0, 1, 2, 3] (by decide) rfl⟩, hS.F ht⟩) hS.2.2 dX7_element_34
          · exact absurd c_34 (by decide)
set_option maxHeartbeats 4000000 in
set_option maxRecDepth 100000 in
theorem c_F_J_pullAt (l : Launch) (D : va_G) (cI cJ cZ cP cS : ClassId) (po : zPool) (j0 jp jc z0 zl zs : Nat) (cn de tr se hu sd : Int32) (fp : Nat → Option Nat) (kf af tf : Nat → Int32) (p_ : Int32) (hy0 : 0 ≤ cn.toInt) (hy1 : cn.toInt ≤ 8) (hy2 : 0 ≤ de.toInt) (hy3 : de.toInt ≤ 24) (hy4 : 0 ≤ hu.toInt) (hy5 : hu.toInt ≤ 9) (hjp : zJP po fp cn kf af tf) : Met l yX0_pullAt wsX0_pullAt ({ frames := 1, cells := 0, slots := 0, locals := 22 }) (va_Pc [.ref j0, .int p_] (zR D (zKT cI cJ cZ cP cS) po [(j0, .inr (0, [.ref z0, .ref jp, .ref jc, .int cn, .int de, .int tr, .int se, .int hu, .int sd])), (jp, .inl (cP, 8, .inr (.inr (.inr (.inr fp)))))])) (va_Sq (fun r => (r = none ∧ p_.toInt < 0) ∨ (r = none ∧ 0 ≤ p_.toInt ∧ cn.toInt ≤ p_.toInt) ∨ ((∃ (u : Nat) (k a t : Int32), r = some u ∧ zPu po u k a t ∧ (k = kf p_.toNatClampNeg ∧ a = af p_.toNatClampNeg ∧ t = tf p_.toNatClampNeg) ∧ 0 ≤ p_.toInt ∧ p_.toInt < cn.toInt) ∧ 0 ≤ p_.toInt))) 0 0 (fun _ => False) := by
  refine Met.ofW (cc := cX0_pullAt) (maxL := 2) (ret := (some (.object "TheLiningsInIt$Pull"))) (by decide) rfl ?_
  intro p e s m args below meth c s₁ B hml hv
  obtain ⟨rfl, hP, hK, hN, hZ⟩ := hv
  have hx := B.exec
  have hb := B.bytes
  have hr := B.returns
  have hts := atoms_spec (ws := wsX0_pullAt) B.pre
  have hown : s.vm.findClass RX0 = some m.cls := findClass_of_methodNamed B.named
  have hlocks := B.notSynchronized
  have hl := lv_entry ([.ref j0, .int p_]) (n := 2) (Nat.le_of_ble_eq_true rfl)
  rw [lg_entry_eq]
  generalize (lg_sl ([.ref j0, .int p_]) ++ List.replicate (2 - (lg_sl ([.ref j0, .int p_])).length) Slot.unset).toArray = ls at hl ⊢
  replace hl : lv_has ls 2 [(0, .ref j0), (1, .int p_)] := hl
  refine lv_iload_n hx hb dX0_pullAt_0 rfl (lv_at hl 1 rfl) ?_
  refine lv_iconst (v := 0) hx hb dX0_pullAt_1 (by decide) ?_
  refine lv_aload_n hx hb dX0_pullAt_2 rfl (lv_at hl 0 rfl) ?_
  refine va_get (D := D) (ci := 0) (v := .int cn) (C := RX0) (T := TX0) (N := 9) hx hb hts hi_X0_pullAt_0 hown hK hP 0 rfl rfl 3 (by decide) (hts (.fieldLink RX0 28 "TheLiningsInIt$Jacket" "pullCount" "I") (List.mem_of_getElem? (i := 1) rfl)) (fun _ h9 => h9) rfl dX0_pullAt_3 ?_
  refine lv_iconst (v := 1) hx hb dX0_pullAt_6 (by decide) ?_
  refine lv_isub hx hb dX0_pullAt_7 ?_
  refine lv_topi (fun x_1 ex_1 => ?_)
  have qx_1 : x_1.toInt = cn.toInt - 1 := by rw [ex_1]; exact zf_sub rfl (by decide) (by omega) (by omega)
  have kc0 : (0 : Int32).toInt = 0 := by decide
  refine zc_SN (As := [.int p_, .int 0, .int x_1]) (rest := []) ⟨hx, hb, hml, hown, hts⟩ (c_within l D cI cJ cZ cP cS po (p_) (0) (x_1) ) ⟨(va_cnB 3 hts gX0_pullAt_X7_within_n66 rfl rfl rfl (hN.1 (RX0, 66, yX7_within) (List.mem_of_getElem? (i := 6) rfl)) (hts _ (List.mem_of_getElem? (i := 4) rfl)) dh_X7_within ⟨Nat.le_of_ble_eq_true rfl, Nat.le_of_ble_eq_true rfl⟩), (hts _ (List.mem_of_getElem? (i := 3) rfl)), trivial⟩ hK hN hZ rfl hl.1 rfl (Nat.le_of_ble_eq_true rfl) dX0_pullAt_8 ⟨Nat.le_of_ble_eq_true rfl, Nat.le_of_ble_eq_true rfl⟩ (fun r_2 hr_2 => ?_)
  rcases hr_2 with ⟨rfl, g_3⟩ | ⟨rfl, g_4, g_5⟩ | ⟨rfl, g_6, g_7⟩
  · refine lv_if_eq (tgt := 29) hx hb dX0_pullAt_11 (by decide) (fun c_8 => ?_) (fun c_8 => ?_)
    · refine lv_null hx hb dX0_pullAt_29 ?_
      exact W.aret (v := .null) hx hb hr (Or.inl ⟨_, rfl⟩) (Or.inl rfl) (fun t ht hW => ⟨none, rfl, Or.inl (⟨rfl, (by first | omega | decide)⟩), ht⟩) (fun q hq => by cases hq) dX0_pullAt_30
    · exact absurd c_8 (by decide)
  · refine lv_if_eq (tgt := 29) hx hb dX0_pullAt_11 (by decide) (fun c_9 => ?_) (fun c_9 => ?_)
    · refine lv_null hx hb dX0_pullAt_29 ?_
      exact W.aret (v := .null) hx hb hr (Or.inl ⟨_, rfl⟩) (Or.inl rfl) (fun t ht hW => ⟨none, rfl, Or.inr (Or.inl (⟨rfl, (by first | omega | decide), (by first | omega | decide)⟩)), ht⟩) (fun q hq => by cases hq) dX0_pullAt_30
    · exact absurd c_9 (by decide)
  · refine lv_if_eq (tgt := 29) hx hb dX0_pullAt_11 (by decide) (fun c_10 => ?_) (fun c_10 => ?_)
    · exact absurd c_10 (by decide)
    · refine lv_iload_n hx hb dX0_pullAt_14 rfl (lv_at hl 1 rfl) ?_
      refine lv_bipush (v := 8) hx hb dX0_pullAt_15 (by decide) ?_
      refine lv_icmp_ge (tgt := 29) hx hb dX0_pullAt_17 (by decide) (fun c_11 => ?_) (fun c_11 => ?_)
      · exfalso; have fc_11 : 8 ≤ p_.toInt := zf_le c_11 (by decide) rfl; omega
      · have fc_11 : p_.toInt < 8 := zf_nle c_11 (by decide) rfl
        refine lv_aload_n hx hb dX0_pullAt_20 rfl (lv_at hl 0 rfl) ?_
        refine va_get (D := D) (ci := 0) (v := .ref jp) (C := RX0) (T := TX0) (N := 9) hx hb hts hi_X0_pullAt_0 hown hK hP 0 rfl rfl 1 (by decide) (hts (.fieldLink RX0 20 "TheLiningsInIt$Jacket" "pulls" "[LTheLiningsInIt$Pull;") (List.mem_of_getElem? (i := 2) rfl)) (fun _ h9 => h9) rfl dX0_pullAt_21 ?_
        refine lv_iload_n hx hb dX0_pullAt_24 rfl (lv_at hl 1 rfl) ?_
        refine va_aldq hx hb hK hP 1 3 rfl rfl (zf_in (by omega) (by omega)) dX0_pullAt_25 ?_
        have hiu_12 : p_.toNatClampNeg = p_.toInt.toNat := rfl
        obtain ⟨u_12, hfu_12, hmu_12⟩ := hjp p_.toNatClampNeg (by omega)
        rw [hfu_12]
        refine W.eq (g2 := F0 m 26 ls (.ref u_12 :: [])) rfl ?_
        obtain ⟨kiu_12, au_12, tu_12, hkku_12, huu_12⟩ : ∃ k a t : Int32, (k = kf p_.toNatClampNeg ∧ a = af p_.toNatClampNeg ∧ t = tf p_.toNatClampNeg) ∧ zPu po u_12 k a t := ⟨_, _, _, ⟨rfl, rfl, rfl⟩, hmu_12⟩
        obtain ⟨hku_12, hau_12, htu_12⟩ := zPu_pr hZ huu_12
        refine lv_goto (tgt := 30) hx hb dX0_pullAt_26 (by decide) ?_
        exact W.aret (v := .ref u_12) hx hb hr (Or.inl ⟨_, rfl⟩) (Or.inr ⟨_, rfl⟩) (fun t ht hW => ⟨some u_12, rfl, Or.inr (Or.inr (⟨⟨u_12, kiu_12, au_12, tu_12, rfl, huu_12, ⟨hkku_12, by omega, by omega⟩⟩, (by first | omega | decide)⟩)), ht⟩) (fun q hq => by cases hq) dX0_pullAt_30
set_option maxHeartbeats 4000000 in
set_option maxRecDepth 100000 in
theorem c_F_X_show (l : Launch) (D : va_G) (cI cJ cZ cP cS : ClassId) (po : zPool) (x0 xs j0 k0 w0 rd mv xr : Nat) (im lf : Int32) (fr : Nat → Int32) (fh : Nat → Option Nat) (s_ : Int32) (h0 e0 : Nat) (he si : Int32) (j0 jp jc z0 zl zs : Nat) (cn de tr se hu sd : Int32) (fp : Nat → Option Nat) (kf af tf : Nat → Int32) (p_ : Int32) (hy0 : 0 ≤ im.toInt) (hy1 : im.toInt ≤ 1) (hy2 : (-1) ≤ lf.toInt) (hy3 : lf.toInt ≤ 160) (hy4 : (-1) ≤ he.toInt) (hy5 : he.toInt ≤ 103) (hy6 : 0 ≤ si.toInt) (hy7 : si.toInt ≤ 160) (hfs : 0 ≤ s_.toInt → s_.toInt ≤ 7 → fh s_.toNatClampNeg = some h0) (hy9 : 0 ≤ cn.toInt) (hy10 : cn.toInt ≤ 8) (hy11 : 0 ≤ de.toInt) (hy12 : de.toInt ≤ 24) (hy13 : 0 ≤ hu.toInt) (hy14 : hu.toInt ≤ 9) (hjp : zJP po fp cn kf af tf) (hpz : Nat) : Met l yX7_show wsX7_show ({ frames := 2, cells := 0, slots := 0, locals := 43 }) (va_Pc [.ref x0, .int s_, .int p_] (zW D (zKT cI cJ cZ cP cS) po [(x0, .inr (7, [.ref xs, .ref j0, .ref k0, .ref w0, .ref rd, .ref mv, .ref xr, .int im, .int lf])), (xr, .inl (cI, 8, .inl fr)), (xs, .inl (cS, 8, .inr (.inr (.inr (.inr fh))))), (h0, .inr (4, [.ref e0, .int he, .int si])), (j0, .inr (0, [.ref z0, .ref jp, .ref jc, .int cn, .int de, .int tr, .int se, .int hu, .int sd])), (jp, .inl (cP, 8, .inr (.inr (.inr (.inr fp)))))] hpz)) (va_Qi (fun (r : Int32) (u : (Int32) × (Nat → Int32)) => ((-1) ≤ u.1.toInt ∧ u.1.toInt ≤ 103) ∧ ((((s_.toInt < 0 ∨ 7 < s_.toInt) ∨ (p_.toInt ≠ -1 ∧ (p_.toInt < 0 ∨ cn.toInt ≤ p_.toInt))) ∧ r.toInt = -1 ∧ u.1.toInt = he.toInt) ∨ ((0 ≤ s_.toInt ∧ s_.toInt ≤ 7) ∧ p_.toInt = -1 ∧ r.toInt = 0 ∧ u.1.toInt = -1) ∨ ((0 ≤ s_.toInt ∧ s_.toInt ≤ 7) ∧ (0 ≤ p_.toInt ∧ p_.toInt < cn.toInt) ∧ r.toInt = 1 ∧ u.1.toInt = p_.toInt)) ∧ (True)) (zB D [(x0, .inr (7, [.ref xs, .ref j0, .ref k0, .ref w0, .ref rd, .ref mv, .ref xr, .int im, .int lf])), (xr, .inl (cI, 8, .inl fr)), (xs, .inl (cS, 8, .inr (.inr (.inr (.inr fh))))), (h0, .inr (4, [.ref e0, .int he, .int si])), (j0, .inr (0, [.ref z0, .ref jp, .ref jc, .int cn, .int de, .int tr, .int se, .int hu, .int sd])), (jp, .inl (cP, 8, .inr (.inr (.inr (.inr fp)))))] hpz (fun (u : (Int32) × (Nat → Int32)) => [(x0, .inr (7, [.ref xs, .ref j0, .ref k0, .ref w0, .ref rd, .ref mv, .ref xr, .int im, .int lf])), (xr, .inl (cI, 8, .inl u.2)), (xs, .inl (cS, 8, .inr (.inr (.inr (.inr fh))))), (h0, .inr (4, [.ref e0, .int u.1, .int si])), (j0, .inr (0, [.ref z0, .ref jp, .ref jc, .int cn, .int de, .int tr, .int se, .int hu, .int sd])), (jp, .inl (cP, 8, .inr (.inr (.inr (.inr fp)))))])) (va_A [(x0, .inr (7, [.ref xs, .ref j0, .ref k0, .ref w0, .ref rd, .ref mv, .ref xr, .int im, .int lf])), (xr, .inl (cI, 8, .inl fr)), (xs, .inl (cS, 8, .inr (.inr (.inr (.inr fh))))), (h0, .inr (4, [.ref e0, .int he, .int si])), (j0, .inr (0, [.ref z0, .ref jp, .ref jc, .int cn, .int de, .int tr, .int se, .int hu, .int sd])), (jp, .inl (cP, 8, .inr (.inr (.inr (.inr fp)))))] hpz)) 0 0 (va_A [(x0, .inr (7, [.ref xs, .ref j0, .ref k0, .ref w0, .ref rd, .ref mv, .ref xr, .int im, .int lf])), (xr, .inl (cI, 8, .inl fr)), (xs, .inl (cS, 8, .inr (.inr (.inr (.inr fh))))), (h0, .inr (4, [.ref e0, .int he, .int si])), (j0, .inr (0, [.ref z0, .ref jp, .ref jc, .int cn, .int de, .int tr, .int se, .int hu, .int sd])), (jp, .inl (cP, 8, .inr (.inr (.inr (.inr fp)))))] hpz) := by
  refine Met.ofW (cc := cX7_show) (maxL := 4) (ret := (some .int)) (by decide) rfl ?_
  intro p e s m args below meth c s₁ B hml hv
  obtain ⟨rfl, hsz, hP, hK, hD0, hN, hZ⟩ := hv
  have hx := B.exec
  have hb := B.bytes
  have hr := B.returns
  have hts := atoms_spec (ws := wsX7_show) B.pre
  have hown : s.vm.findClass RX7 = some m.cls := findClass_of_methodNamed B.named
  have hlocks := B.notSynchronized
  subst hsz
  have hD := hD0.self (sz := s.heap.size)
  have hA := zA_of hD
  have hl := lv_entry ([.ref x0, .int s_, .int p_]) (n := 4) (Nat.le_of_ble_eq_true rfl)
  rw [lg_entry_eq]
  generalize (lg_sl ([.ref x0, .int s_, .int p_]) ++ List.replicate (4 - (lg_sl ([.ref x0, .int s_, .int p_])).length) Slot.unset).toArray = ls at hl ⊢
  replace hl : lv_has ls 4 [(0, .ref x0), (1, .int s_), (2, .int p_)] := hl
  refine zw_begin hP hD (fun H locs hP1 hS => ?_)
  clear hP
  have hP := hP1
  clear hP1
  refine lv_aload_n hx hb dX7_show_0 rfl (lv_at hl 0 rfl) ?_
  refine lv_iload_n hx hb dX7_show_1 rfl (lv_at hl 1 rfl) ?_
  refine zc_Vq (As := [.int s_]) (rest := []) ⟨hx, hb, hml, hown, hts⟩ (c_X_shelfAt l D cI cJ cZ cP cS po x0 xs j0 k0 w0 rd mv xr (im) (lf) ((fun _ => 0)) fh (s_) hy0 hy1 hy2 hy3) (cwV 1 hts gX7_show_X7_shelfAt rfl rfl rfl ⟨rfl, dh_X7_shelfAt⟩ ⟨Nat.le_of_ble_eq_true rfl, Nat.le_of_ble_eq_true rfl⟩) hK hN (hZ.kept hS) hP (hP.sub [0, 2] rfl) (va_recv (q := (RX7, TX7, 9)) hK hP (ci := 7) (q0 := 0) rfl rfl) rfl hl.1 rfl (Nat.le_of_ble_eq_true rfl) dX7_show_2 ⟨Nat.le_of_ble_eq_true rfl, Nat.le_of_ble_eq_true rfl⟩ (fun r_1 hr_1 => ?_)
  rcases hr_1 with ⟨rfl, g_2⟩ | ⟨rfl, g_3, g_4⟩ | ⟨rfl, g_5, g_6⟩
  · refine lv_astore_nN (lv' := [(3, .null), (0, .ref x0), (1, .int s_), (2, .int p_)]) hx hb dX7_show_5 rfl hl (by decide) rfl (fun ls hl => ?_)
    refine lv_aload_nN hx hb dX7_show_6 rfl (lv_at hl 0 rfl) ?_
    refine lv_ifnullN (tgt := 26) hx hb dX7_show_7 (by decide) ?_
    refine lv_aload_n hx hb dX7_show_26 rfl (lv_at hl 1 rfl) ?_
    refine lv_iconst (v := 1) hx hb dX7_show_27 (by decide) ?_
    skip
    refine zw_V (As := [.int 1]) (rest := []) (wr := [(xs, .inl (cS, 8, .inr (.inr (.inr (.inr fh))))), (h0, .inr (4, [.ref e0, .int he, .int si])), (j0, .inr (0, [.ref z0, .ref jp, .ref jc, .int cn, .int de, .int tr, .int se, .int hu, .int sd])), (jp, .inl (cP, 8, .inr (.inr (.inr (.inr fp)))))]) ⟨hx, hb, hml, hown, hts⟩ (c_X_refuse_1 l D cI cJ cZ cP cS po x0 xs j0 k0 w0 rd mv xr (im) (lf) fr hy0 hy1 hy2 hy3 H.size) (cwV 1 hts gX7_show_X7_refuse rfl rfl rfl ⟨rfl, dh_X7_refuse⟩ ⟨Nat.le_of_ble_eq_true rfl, Nat.le_of_ble_eq_true rfl⟩) hK hN (hZ.kept hS) hP hD hS hA [0, 1] [2, 3, 4, 5] rfl rfl (by decide) (by decide) (by decide) (va_recv (q := (RX7, TX7, 9)) hK hP (ci := 7) (q0 := 0) rfl rfl) rfl hl.1 rfl (Nat.le_of_ble_eq_true rfl) dX7_show_28 ⟨Nat.le_of_ble_eq_true rfl, Nat.le_of_ble_eq_true rfl⟩ (fun r_7 u_8 H locs hr_7 hP hD hS => ?_)
    obtain ⟨q_9, rfl⟩ : ∃ z, z = u_8 := ⟨_, rfl⟩
    have h9R := zRe (ws' := [(xs, .inl (cS, 8, .inr (.inr (.inr (.inr fh))))), (h0, .inr (4, [.ref e0, .int he, .int si])), (j0, .inr (0, [.ref z0, .ref jp, .ref jc, .int cn, .int de, .int tr, .int se, .int hu, .int sd])), (jp, .inl (cP, 8, .inr (.inr (.inr (.inr fp))))), (x0, .inr (7, [.ref xs, .ref j0, .ref k0, .ref w0, .ref rd, .ref mv, .ref xr, .int im, .int lf])), (xr, .inl (cI, 8, .inl q_9))]) hP hD rfl
    clear hP hD
    obtain ⟨hP, hD⟩ := h9R
    obtain rfl := hr_7
    exact W.iret (v := (-1)) hx hb hr (fun t ht hW => ⟨⟨(-1), (he, q_9), rfl, ⟨(show (-1) ≤ he.toInt ∧ he.toInt ≤ 103 from ⟨hy4, hy5⟩), (show (((s_.toInt < 0 ∨ 7 < s_.toInt) ∨ (p_.toInt ≠ -1 ∧ (p_.toInt < 0 ∨ cn.toInt ≤ p_.toInt))) ∧ ((-1) : Int32).toInt = -1 ∧ he.toInt = he.toInt) ∨ ((0 ≤ s_.toInt ∧ s_.toInt ≤ 7) ∧ p_.toInt = -1 ∧ ((-1) : Int32).toInt = 0 ∧ he.toInt = -1) ∨ ((0 ≤ s_.toInt ∧ s_.toInt ≤ 7) ∧ (0 ≤ p_.toInt ∧ p_.toInt < cn.toInt) ∧ ((-1) : Int32).toInt = 1 ∧ he.toInt = p_.toInt) from by (have k9 : ((-1) : Int32).toInt = -1 := (by decide); have km : ((-1) : Int32).toInt = -1 := (by decide); omega)), trivial⟩, zRet ht hP hD [4, 5, 0, 1, 2, 3] (by decide) rfl⟩, hS.F ht⟩) hS.2.2 dX7_show_31
  · refine lv_astore_nN (lv' := [(3, .null), (0, .ref x0), (1, .int s_), (2, .int p_)]) hx hb dX7_show_5 rfl hl (by decide) rfl (fun ls hl => ?_)
    refine lv_aload_nN hx hb dX7_show_6 rfl (lv_at hl 0 rfl) ?_
    refine lv_ifnullN (tgt := 26) hx hb dX7_show_7 (by decide) ?_
    refine lv_aload_n hx hb dX7_show_26 rfl (lv_at hl 1 rfl) ?_
    refine lv_iconst (v := 1) hx hb dX7_show_27 (by decide) ?_
    skip
    refine zw_V (As := [.int 1]) (rest := []) (wr := [(xs, .inl (cS, 8, .inr (.inr (.inr (.inr fh))))), (h0, .inr (4, [.ref e0, .int he, .int si])), (j0, .inr (0, [.ref z0, .ref jp, .ref jc, .int cn, .int de, .int tr, .int se, .int hu, .int sd])), (jp, .inl (cP, 8, .inr (.inr (.inr (.inr fp)))))]) ⟨hx, hb, hml, hown, hts⟩ (c_X_refuse_1 l D cI cJ cZ cP cS po x0 xs j0 k0 w0 rd mv xr (im) (lf) fr hy0 hy1 hy2 hy3 H.size) (cwV 1 hts gX7_show_X7_refuse rfl rfl rfl ⟨rfl, dh_X7_refuse⟩ ⟨Nat.le_of_ble_eq_true rfl, Nat.le_of_ble_eq_true rfl⟩) hK hN (hZ.kept hS) hP hD hS hA [0, 1] [2, 3, 4, 5] rfl rfl (by decide) (by decide) (by decide) (va_recv (q := (RX7, TX7, 9)) hK hP (ci := 7) (q0 := 0) rfl rfl) rfl hl.1 rfl (Nat.le_of_ble_eq_true rfl) dX7_show_28 ⟨Nat.le_of_ble_eq_true rfl, Nat.le_of_ble_eq_true rfl⟩ (fun r_10 u_11 H locs hr_10 hP hD hS => ?_)
    obtain ⟨q_12, rfl⟩ : ∃ z, z = u_11 := ⟨_, rfl⟩
    have h9R := zRe (ws' := [(xs, .inl (cS, 8, .inr (.inr (.inr (.inr fh))))), (h0, .inr (4, [.ref e0, .int he, .int si])), (j0, .inr (0, [.ref z0, .ref jp, .ref jc, .int cn, .int de, .int tr, .int se, .int hu, .int sd])), (jp, .inl (cP, 8, .inr (.inr (.inr (.inr fp))))), (x0, .inr (7, [.ref xs, .ref j0, .ref k0, .ref w0, .ref rd, .ref mv, .ref xr, .int im, .int lf])), (xr, .inl (cI, 8, .inl q_12))]) hP hD rfl
    clear hP hD
    obtain ⟨hP, hD⟩ := h9R
    obtain rfl := hr_10
    exact W.iret (v := (-1)) hx hb hr (fun t ht hW => ⟨⟨(-1), (he, q_12), rfl, ⟨(show (-1) ≤ he.toInt ∧ he.toInt ≤ 103 from ⟨hy4, hy5⟩), (show (((s_.toInt < 0 ∨ 7 < s_.toInt) ∨ (p_.toInt ≠ -1 ∧ (p_.toInt < 0 ∨ cn.toInt ≤ p_.toInt))) ∧ ((-1) : Int32).toInt = -1 ∧ he.toInt = he.toInt) ∨ ((0 ≤ s_.toInt ∧ s_.toInt ≤ 7) ∧ p_.toInt = -1 ∧ ((-1) : Int32).toInt = 0 ∧ he.toInt = -1) ∨ ((0 ≤ s_.toInt ∧ s_.toInt ≤ 7) ∧ (0 ≤ p_.toInt ∧ p_.toInt < cn.toInt) ∧ ((-1) : Int32).toInt = 1 ∧ he.toInt = p_.toInt) from by (have k9 : ((-1) : Int32).toInt = -1 := (by decide); have km : ((-1) : Int32).toInt = -1 := (by decide); omega)), trivial⟩, zRet ht hP hD [4, 5, 0, 1, 2, 3] (by decide) rfl⟩, hS.F ht⟩) hS.2.2 dX7_show_31
  · rw [hfs (by omega) (by omega)]
    refine W.eq (g2 := F0 m 5 ls (.ref h0 :: [])) rfl ?_
    refine lv_astore_n (lv' := [(3, .ref h0), (0, .ref x0), (1, .int s_), (2, .int p_)]) hx hb dX7_show_5 rfl hl (by decide) rfl (fun ls hl => ?_)
    refine lv_aload_n hx hb dX7_show_6 rfl (lv_at hl 0 rfl) ?_
    refine lv_ifnull hx hb dX7_show_7 ?_
    refine lv_iload_n hx hb dX7_show_10 rfl (lv_at hl 3 rfl) ?_
    refine lv_iconst (v := (-1)) hx hb dX7_show_11 (by decide) ?_
    refine lv_icmp_eq (tgt := 32) hx hb dX7_show_12 (by decide) (fun c_13 => ?_) (fun c_13 => ?_)
    · have fc_13 : p_.toInt = (-1) := zf_eq c_13 rfl (by decide)
      refine lv_aload_n hx hb dX7_show_32 rfl (lv_at hl 0 rfl) ?_
      refine lv_iload_n hx hb dX7_show_33 rfl (lv_at hl 3 rfl) ?_
      refine va_put (D := D) (ci := 4) (v := .int p_) (ty := .int) (C := RX4) (T := TX4) (N := 3) hx hb hts hi_X7_show_4 tyX4 tyX4_ok nmX4 hown hK hP hD hS 3 rfl rfl 1 (by decide) (hts (.fieldLink RX7 87 "TheLiningsInIt$Shelf" "held" "I") (List.mem_of_getElem? (i := 2) rfl)) (fun _ h9 => h9) rfl (tyX4_ok 1 (Nat.le_of_ble_eq_true rfl)) rfl rfl (Nat.le_of_ble_eq_true rfl) dX7_show_34 (fun H locs hP hD hS => ?_)
      have h9R := zRe (ws' := [(x0, .inr (7, [.ref xs, .ref j0, .ref k0, .ref w0, .ref rd, .ref mv, .ref xr, .int im, .int lf])), (xr, .inl (cI, 8, .inl fr)), (xs, .inl (cS, 8, .inr (.inr (.inr (.inr fh))))), (h0, .inr (4, [.ref e0, .int p_, .int si])), (j0, .inr (0, [.ref z0, .ref jp, .ref jc, .int cn, .int de, .int tr, .int se, .int hu, .int sd])), (jp, .inl (cP, 8, .inr (.inr (.inr (.inr fp)))))]) hP hD rfl
      clear hP hD
      obtain ⟨hP, hD⟩ := h9R
      refine lv_iload_n hx hb dX7_show_37 rfl (lv_at hl 3 rfl) ?_
      refine lv_iconst (v := (-1)) hx hb dX7_show_38 (by decide) ?_
      refine lv_icmp_ne (tgt := 46) hx hb dX7_show_39 (by decide) (fun c_14 => ?_) (fun c_14 => ?_)
      · exfalso; have fc_14 : p_.toInt ≠ (-1) := zf_ne c_14 rfl (by decide); omega
      · have fc_14 : p_.toInt = (-1) := zf_eq c_14 rfl (by decide)
        refine lv_iconst (v := 0) hx hb dX7_show_42 (by decide) ?_
        refine lv_goto (tgt := 47) hx hb dX7_show_43 (by decide) ?_
        exact W.iret (v := 0) hx hb hr (fun t ht hW => ⟨⟨0, (p_, fr), rfl, ⟨(show (-1) ≤ p_.toInt ∧ p_.toInt ≤ 103 from ⟨by omega, by omega⟩), (show (((s_.toInt < 0 ∨ 7 < s_.toInt) ∨ (p_.toInt ≠ -1 ∧ (p_.toInt < 0 ∨ cn.toInt ≤ p_.toInt))) ∧ (0 : Int32).toInt = -1 ∧ p_.toInt = he.toInt) ∨ ((0 ≤ s_.toInt ∧ s_.toInt ≤ 7) ∧ p_.toInt = -1 ∧ (0 : Int32).toInt = 0 ∧ p_.toInt = -1) ∨ ((0 ≤ s_.toInt ∧ s_.toInt ≤ 7) ∧ (0 ≤ p_.toInt ∧ p_.toInt < cn.toInt) ∧ (0 : Int32).toInt = 1 ∧ p_.toInt = p_.toInt) from by (have k9 : (0 : Int32).toInt = 0 := (by decide); have km : ((-1) : Int32).toInt = -1 := (by decide); omega)), trivial⟩, zRet ht hP hD [0, 1, 2, 3, 4, 5] (by decide) rfl⟩, hS.F ht⟩) hS.2.2 dX7_show_47
    · have fc_13 : p_.toInt ≠ (-1) := zf_ne c_13 rfl (by decide)
      refine lv_aload_n hx hb dX7_show_15 rfl (lv_at hl 1 rfl) ?_
      refine va_get (D := D) (ci := 7) (v := .ref j0) (C := RX7) (T := TX7) (N := 9) hx hb hts hi_X7_show_7 hown hK hP 0 rfl rfl 1 (by decide) (hts (.fieldLink RX7 18 "TheLiningsInIt" "now" "LTheLiningsInIt$Jacket;") (List.mem_of_getElem? (i := 1) rfl)) (fun _ h9 => h9) rfl dX7_show_16 ?_
      refine lv_iload_n hx hb dX7_show_19 rfl (lv_at hl 3 rfl) ?_
      refine zc_Vq (As := [.int p_]) (rest := []) ⟨hx, hb, hml, hown, hts⟩ (c_F_J_pullAt l D cI cJ cZ cP cS po j0 jp jc z0 0 0 (cn) (de) (tr) (se) (hu) (sd) fp kf af tf (p_) hy9 hy10 hy11 hy12 hy13 hy14 hjp) (cwV 1 hts gX7_show_X0_pullAt rfl rfl rfl ⟨rfl, dh_X0_pullAt⟩ ⟨Nat.le_of_ble_eq_true rfl, Nat.le_of_ble_eq_true rfl⟩) hK hN (hZ.kept hS) hP (hP.sub [4, 5] rfl) (va_recv (q := (RX0, TX0, 9)) hK hP (ci := 0) (q0 := 4) rfl rfl) rfl hl.1 rfl (Nat.le_of_ble_eq_true rfl) dX7_show_20 ⟨Nat.le_of_ble_eq_true rfl, Nat.le_of_ble_eq_true rfl⟩ (fun r_15 hr_15 => ?_)
      rcases hr_15 with ⟨rfl, g_16⟩ | ⟨rfl, g_17, g_18⟩ | ⟨⟨u_20, kiu_20, au_20, tu_20, rfl, huu_20, hkku_20⟩, g_19⟩
      · refine lv_ifnonnullN hx hb dX7_show_23 ?_
        refine lv_aload_n hx hb dX7_show_26 rfl (lv_at hl 1 rfl) ?_
        refine lv_iconst (v := 1) hx hb dX7_show_27 (by decide) ?_
        skip
        refine zw_V (As := [.int 1]) (rest := []) (wr := [(xs, .inl (cS, 8, .inr (.inr (.inr (.inr fh))))), (h0, .inr (4, [.ref e0, .int he, .int si])), (j0, .inr (0, [.ref z0, .ref jp, .ref jc, .int cn, .int de, .int tr, .int se, .int hu, .int sd])), (jp, .inl (cP, 8, .inr (.inr (.inr (.inr fp)))))]) ⟨hx, hb, hml, hown, hts⟩ (c_X_refuse_1 l D cI cJ cZ cP cS po x0 xs j0 k0 w0 rd mv xr (im) (lf) fr hy0 hy1 hy2 hy3 H.size) (cwV 1 hts gX7_show_X7_refuse rfl rfl rfl ⟨rfl, dh_X7_refuse⟩ ⟨Nat.le_of_ble_eq_true rfl, Nat.le_of_ble_eq_true rfl⟩) hK hN (hZ.kept hS) hP hD hS hA [0, 1] [2, 3, 4, 5] rfl rfl (by decide) (by decide) (by decide) (va_recv (q := (RX7, TX7, 9)) hK hP (ci := 7) (q0 := 0) rfl rfl) rfl hl.1 rfl (Nat.le_of_ble_eq_true rfl) dX7_show_28 ⟨Nat.le_of_ble_eq_true rfl, Nat.le_of_ble_eq_true rfl⟩ (fun r_21 u_22 H locs hr_21 hP hD hS => ?_)
        obtain ⟨q_23, rfl⟩ : ∃ z, z = u_22 := ⟨_, rfl⟩
        have h9R := zRe (ws' := [(xs, .inl (cS, 8, .inr (.inr (.inr (.inr fh))))), (h0, .inr (4, [.ref e0, .int he, .int si])), (j0, .inr (0, [.ref z0, .ref jp, .ref jc, .int cn, .int de, .int tr, .int se, .int hu, .int sd])), (jp, .inl (cP, 8, .inr (.inr (.inr (.inr fp))))), (x0, .inr (7, [.ref xs, .ref j0, .ref k0, .ref w0, .ref rd, .ref mv, .ref xr, .int im, .int lf])), (xr, .inl (cI, 8, .inl q_23))]) hP hD rfl
        clear hP hD
        obtain ⟨hP, hD⟩ := h9R
        obtain rfl := hr_21
        exact W.iret (v := (-1)) hx hb hr (fun t ht hW => ⟨⟨(-1), (he, q_23), rfl, ⟨(show (-1) ≤ he.toInt ∧ he.toInt ≤ 103 from ⟨hy4, hy5⟩), (show (((s_.toInt < 0 ∨ 7 < s_.toInt) ∨ (p_.toInt ≠ -1 ∧ (p_.toInt < 0 ∨ cn.toInt ≤ p_.toInt))) ∧ ((-1) : Int32).toInt = -1 ∧ he.toInt = he.toInt) ∨ ((0 ≤ s_.toInt ∧ s_.toInt ≤ 7) ∧ p_.toInt = -1 ∧ ((-1) : Int32).toInt = 0 ∧ he.toInt = -1) ∨ ((0 ≤ s_.toInt ∧ s_.toInt ≤ 7) ∧ (0 ≤ p_.toInt ∧ p_.toInt < cn.toInt) ∧ ((-1) : Int32).toInt = 1 ∧ he.toInt = p_.toInt) from by (have k9 : ((-1) : Int32).toInt = -1 := (by decide); have km : ((-1) : Int32).toInt = -1 := (by decide); omega)), trivial⟩, zRet ht hP hD [4, 5, 0, 1, 2, 3] (by decide) rfl⟩, hS.F ht⟩) hS.2.2 dX7_show_31
      · refine lv_ifnonnullN hx hb dX7_show_23 ?_
        refine lv_aload_n hx hb dX7_show_26 rfl (lv_at hl 1 rfl) ?_
        refine lv_iconst (v := 1) hx hb dX7_show_27 (by decide) ?_
        skip
        refine zw_V (As := [.int 1]) (rest := []) (wr := [(xs, .inl (cS, 8, .inr (.inr (.inr (.inr fh))))), (h0, .inr (4, [.ref e0, .int he, .int si])), (j0, .inr (0, [.ref z0, .ref jp, .ref jc, .int cn, .int de, .int tr, .int se, .int hu, .int sd])), (jp, .inl (cP, 8, .inr (.inr (.inr (.inr fp)))))]) ⟨hx, hb, hml, hown, hts⟩ (c_X_refuse_1 l D cI cJ cZ cP cS po x0 xs j0 k0 w0 rd mv xr (im) (lf) fr hy0 hy1 hy2 hy3 H.size) (cwV 1 hts gX7_show_X7_refuse rfl rfl rfl ⟨rfl, dh_X7_refuse⟩ ⟨Nat.le_of_ble_eq_true rfl, Nat.le_of_ble_eq_true rfl⟩) hK hN (hZ.kept hS) hP hD hS hA [0, 1] [2, 3, 4, 5] rfl rfl (by decide) (by decide) (by decide) (va_recv (q := (RX7, TX7, 9)) hK hP (ci := 7) (q0 := 0) rfl rfl) rfl hl.1 rfl (Nat.le_of_ble_eq_true rfl) dX7_show_28 ⟨Nat.le_of_ble_eq_true rfl, Nat.le_of_ble_eq_true rfl⟩ (fun r_24 u_25 H locs hr_24 hP hD hS => ?_)
        obtain ⟨q_26, rfl⟩ : ∃ z, z = u_25 := ⟨_, rfl⟩
        have h9R := zRe (ws' := [(xs, .inl (cS, 8, .inr (.inr (.inr (.inr fh))))), (h0, .inr (4, [.ref e0, .int he, .int si])), (j0, .inr (0, [.ref z0, .ref jp, .ref jc, .int cn, .int de, .int tr, .int se, .int hu, .int sd])), (jp, .inl (cP, 8, .inr (.inr (.inr (.inr fp))))), (x0, .inr (7, [.ref xs, .ref j0, .ref k0, .ref w0, .ref rd, .ref mv, .ref xr, .int im, .int lf])), (xr, .inl (cI, 8, .inl q_26))]) hP hD rfl
        clear hP hD
        obtain ⟨hP, hD⟩ := h9R
        obtain rfl := hr_24
        exact W.iret (v := (-1)) hx hb hr (fun t ht hW => ⟨⟨(-1), (he, q_26), rfl, ⟨(show (-1) ≤ he.toInt ∧ he.toInt ≤ 103 from ⟨hy4, hy5⟩), (show (((s_.toInt < 0 ∨ 7 < s_.toInt) ∨ (p_.toInt ≠ -1 ∧ (p_.toInt < 0 ∨ cn.toInt ≤ p_.toInt))) ∧ ((-1) : Int32).toInt = -1 ∧ he.toInt = he.toInt) ∨ ((0 ≤ s_.toInt ∧ s_.toInt ≤ 7) ∧ p_.toInt = -1 ∧ ((-1) : Int32).toInt = 0 ∧ he.toInt = -1) ∨ ((0 ≤ s_.toInt ∧ s_.toInt ≤ 7) ∧ (0 ≤ p_.toInt ∧ p_.toInt < cn.toInt) ∧ ((-1) : Int32).toInt = 1 ∧ he.toInt = p_.toInt) from by (have k9 : ((-1) : Int32).toInt = -1 := (by decide); have km : ((-1) : Int32).toInt = -1 := (by decide); omega)), trivial⟩, zRet ht hP hD [4, 5, 0, 1, 2, 3] (by decide) rfl⟩, hS.F ht⟩) hS.2.2 dX7_show_31
      · refine W.eq (g2 := F0 m 23 ls (.ref u_20 :: [])) rfl ?_
        obtain ⟨hku_20, hau_20, htu_20⟩ := zPu_pr (hZ.kept hS) huu_20
        refine lv_ifnonnull (tgt := 32) hx hb dX7_show_23 (by decide) ?_
        refine lv_aload_n hx hb dX7_show_32 rfl (lv_at hl 0 rfl) ?_
        refine lv_iload_n hx hb dX7_show_33 rfl (lv_at hl 3 rfl) ?_
        refine va_put (D := D) (ci := 4) (v := .int p_) (ty := .int) (C := RX4) (T := TX4) (N := 3) hx hb hts hi_X7_show_4 tyX4 tyX4_ok nmX4 hown hK hP hD hS 3 rfl rfl 1 (by decide) (hts (.fieldLink RX7 87 "TheLiningsInIt$Shelf" "held" "I") (List.mem_of_getElem? (i := 2) rfl)) (fun _ h9 => h9) rfl (tyX4_ok 1 (Nat.le_of_ble_eq_true rfl)) rfl rfl (Nat.le_of_ble_eq_true rfl) dX7_show_34 (fun H locs hP hD hS => ?_)
        have h9R := zRe (ws' := [(x0, .inr (7, [.ref xs, .ref j0, .ref k0, .ref w0, .ref rd, .ref mv, .ref xr, .int im, .int lf])), (xr, .inl (cI, 8, .inl fr)), (xs, .inl (cS, 8, .inr (.inr (.inr (.inr fh))))), (h0, .inr (4, [.ref e0, .int p_, .int si])), (j0, .inr (0, [.ref z0, .ref jp, .ref jc, .int cn, .int de, .int tr, .int se, .int hu, .int sd])), (jp, .inl (cP, 8, .inr (.inr (.inr (.inr fp)))))]) hP hD rfl
        clear hP hD
        obtain ⟨hP, hD⟩ := h9R
        refine lv_iload_n hx hb dX7_show_37 rfl (lv_at hl 3 rfl) ?_
        refine lv_iconst (v := (-1)) hx hb dX7_show_38 (by decide) ?_
        refine lv_icmp_ne (tgt := 46) hx hb dX7_show_39 (by decide) (fun c_27 => ?_) (fun c_27 => ?_)
        · have fc_27 : p_.toInt ≠ (-1) := zf_ne c_27 rfl (by decide)
          refine lv_iconst (v := 1) hx hb dX7_show_46 (by decide) ?_
          exact W.iret (v := 1) hx hb hr (fun t ht hW => ⟨⟨1, (p_, fr), rfl, ⟨(show (-1) ≤ p_.toInt ∧ p_.toInt ≤ 103 from ⟨by omega, by omega⟩), (show (((s_.toInt < 0 ∨ 7 < s_.toInt) ∨ (p_.toInt ≠ -1 ∧ (p_.toInt < 0 ∨ cn.toInt ≤ p_.toInt))) ∧ (1 : Int32).toInt = -1 ∧ p_.toInt = he.toInt) ∨ ((0 ≤ s_.toInt ∧ s_.toInt ≤ 7) ∧ p_.toInt = -1 ∧ (1 : Int32).toInt = 0 ∧ p_.toInt = -1) ∨ ((0 ≤ s_.toInt ∧ s_.toInt ≤ 7) ∧ (0 ≤ p_.toInt ∧ p_.toInt < cn.toInt) ∧ (1 : Int32).toInt = 1 ∧ p_.toInt = p_.toInt) from by (have k9 : (1 : Int32).toInt = 1 := (by decide); have km : ((-1) : Int32).toInt = -1 := (by decide); omega)), trivial⟩, zRet ht hP hD [0, 1, 2, 3, 4, 5] (by decide) rfl⟩, hS.F ht⟩) hS.2.2 dX7_show_47
        · exfalso; have fc_27 : p_.toInt = (-1) := zf_eq c_27 rfl (by decide); omega
set_option maxHeartbeats 4000000 in
set_option maxRecDepth 100000 in
theorem c_F_X_holds (l : Launch) (D : va_G) (cI cJ cZ cP cS : ClassId) (po : zPool) (x0 xs j0 k0 w0 rd mv xr : Nat) (im lf : Int32) (fr : Nat → Int32) (fh : Nat → Option Nat) (s_ : Int32) (h0 e0 : Nat) (he si : Int32) (hy0 : 0 ≤ im.toInt) (hy1 : im.toInt ≤ 1) (hy2 : (-1) ≤ lf.toInt) (hy3 : lf.toInt ≤ 160) (hy4 : (-1) ≤ he.toInt) (hy5 : he.toInt ≤ 103) (hy6 : 0 ≤ si.toInt) (hy7 : si.toInt ≤ 160) (hfs : 0 ≤ s_.toInt → s_.toInt ≤ 7 → fh s_.toNatClampNeg = some h0) (hpz : Nat) : Met l yX7_holds wsX7_holds ({ frames := 2, cells := 0, slots := 0, locals := 43 }) (va_Pc [.ref x0, .int s_] (zW D (zKT cI cJ cZ cP cS) po [(x0, .inr (7, [.ref xs, .ref j0, .ref k0, .ref w0, .ref rd, .ref mv, .ref xr, .int im, .int lf])), (xs, .inl (cS, 8, .inr (.inr (.inr (.inr fh))))), (h0, .inr (4, [.ref e0, .int he, .int si]))] hpz)) (va_Qi (fun (r : Int32) (_ : Unit) => (((s_.toInt < 0 ∨ 7 < s_.toInt) ∧ r.toInt = -1) ∨ ((0 ≤ s_.toInt ∧ s_.toInt ≤ 7) ∧ r.toInt = he.toInt)) ∧ (True)) (zB D [(x0, .inr (7, [.ref xs, .ref j0, .ref k0, .ref w0, .ref rd, .ref mv, .ref xr, .int im, .int lf])), (xs, .inl (cS, 8, .inr (.inr (.inr (.inr fh))))), (h0, .inr (4, [.ref e0, .int he, .int si]))] hpz (fun (_ : Unit) => [(x0, .inr (7, [.ref xs, .ref j0, .ref k0, .ref w0, .ref rd, .ref mv, .ref xr, .int im, .int lf])), (xs, .inl (cS, 8, .inr (.inr (.inr (.inr fh))))), (h0, .inr (4, [.ref e0, .int he, .int si]))])) (va_A [(x0, .inr (7, [.ref xs, .ref j0, .ref k0, .ref w0, .ref rd, .ref mv, .ref xr, .int im, .int lf])), (xs, .inl (cS, 8, .inr (.inr (.inr (.inr fh))))), (h0, .inr (4, [.ref e0, .int he, .int si]))] hpz)) 0 0 (va_A [(x0, .inr (7, [.ref xs, .ref j0, .ref k0, .ref w0, .ref rd, .ref mv, .ref xr, .int im, .int lf])), (xs, .inl (cS, 8, .inr (.inr (.inr (.inr fh))))), (h0, .inr (4, [.ref e0, .int he, .int si]))] hpz) := by
  refine Met.ofW (cc := cX7_holds) (maxL := 3) (ret := (some .int)) (by decide) rfl ?_
  intro p e s m args below meth c s₁ B hml hv
  obtain ⟨rfl, hsz, hP, hK, hD0, hN, hZ⟩ := hv
  have hx := B.exec
  have hb := B.bytes
  have hr := B.returns
  have hts := atoms_spec (ws := wsX7_holds) B.pre
  have hown : s.vm.findClass RX7 = some m.cls := findClass_of_methodNamed B.named
  have hlocks := B.notSynchronized
  subst hsz
  have hD := hD0.self (sz := s.heap.size)
  have hA := zA_of hD
  have hl := lv_entry ([.ref x0, .int s_]) (n := 3) (Nat.le_of_ble_eq_true rfl)
  rw [lg_entry_eq]
  generalize (lg_sl ([.ref x0, .int s_]) ++ List.replicate (3 - (lg_sl ([.ref x0, .int s_])).length) Slot.unset).toArray = ls at hl ⊢
  replace hl : lv_has ls 3 [(0, .ref x0), (1, .int s_)] := hl
  refine zw_begin hP hD (fun H locs hP1 hS => ?_)
  clear hP
  have hP := hP1
  clear hP1
  refine lv_aload_n hx hb dX7_holds_0 rfl (lv_at hl 0 rfl) ?_
  refine lv_iload_n hx hb dX7_holds_1 rfl (lv_at hl 1 rfl) ?_
  refine zc_Vq (As := [.int s_]) (rest := []) ⟨hx, hb, hml, hown, hts⟩ (c_X_shelfAt l D cI cJ cZ cP cS po x0 xs j0 k0 w0 rd mv xr (im) (lf) ((fun _ => 0)) fh (s_) hy0 hy1 hy2 hy3) (cwV 1 hts gX7_holds_X7_shelfAt rfl rfl rfl ⟨rfl, dh_X7_shelfAt⟩ ⟨Nat.le_of_ble_eq_true rfl, Nat.le_of_ble_eq_true rfl⟩) hK hN (hZ.kept hS) hP (hP.sub [0, 1] rfl) (va_recv (q := (RX7, TX7, 9)) hK hP (ci := 7) (q0 := 0) rfl rfl) rfl hl.1 rfl (Nat.le_of_ble_eq_true rfl) dX7_holds_2 ⟨Nat.le_of_ble_eq_true rfl, Nat.le_of_ble_eq_true rfl⟩ (fun r_1 hr_1 => ?_)
  rcases hr_1 with ⟨rfl, g_2⟩ | ⟨rfl, g_3, g_4⟩ | ⟨rfl, g_5, g_6⟩
  · refine lv_astore_nN (lv' := [(2, .null), (0, .ref x0), (1, .int s_)]) hx hb dX7_holds_5 rfl hl (by decide) rfl (fun ls hl => ?_)
    refine lv_aload_nN hx hb dX7_holds_6 rfl (lv_at hl 0 rfl) ?_
    refine lv_ifnonnullN hx hb dX7_holds_7 ?_
    refine lv_iconst (v := (-1)) hx hb dX7_holds_10 (by decide) ?_
    refine lv_goto (tgt := 18) hx hb dX7_holds_11 (by decide) ?_
    exact W.iret (v := (-1)) hx hb hr (fun t ht hW => ⟨⟨(-1), (), rfl, ⟨(show ((s_.toInt < 0 ∨ 7 < s_.toInt) ∧ ((-1) : Int32).toInt = -1) ∨ ((0 ≤ s_.toInt ∧ s_.toInt ≤ 7) ∧ ((-1) : Int32).toInt = he.toInt) from by (have k9 : ((-1) : Int32).toInt = -1 := (by decide); have km : ((-1) : Int32).toInt = -1 := (by decide); omega)), trivial⟩, zRet ht hP hD [0, 1, 2] (by decide) rfl⟩, hS.F ht⟩) hS.2.2 dX7_holds_18
  · refine lv_astore_nN (lv' := [(2, .null), (0, .ref x0), (1, .int s_)]) hx hb dX7_holds_5 rfl hl (by decide) rfl (fun ls hl => ?_)
    refine lv_aload_nN hx hb dX7_holds_6 rfl (lv_at hl 0 rfl) ?_
    refine lv_ifnonnullN hx hb dX7_holds_7 ?_
    refine lv_iconst (v := (-1)) hx hb dX7_holds_10 (by decide) ?_
    refine lv_goto (tgt := 18) hx hb dX7_holds_11 (by decide) ?_
    exact W.iret (v := (-1)) hx hb hr (fun t ht hW => ⟨⟨(-1), (), rfl, ⟨(show ((s_.toInt < 0 ∨ 7 < s_.toInt) ∧ ((-1) : Int32).toInt = -1) ∨ ((0 ≤ s_.toInt ∧ s_.toInt ≤ 7) ∧ ((-1) : Int32).toInt = he.toInt) from by (have k9 : ((-1) : Int32).toInt = -1 := (by decide); have km : ((-1) : Int32).toInt = -1 := (by decide); omega)), trivial⟩, zRet ht hP hD [0, 1, 2] (by decide) rfl⟩, hS.F ht⟩) hS.2.2 dX7_holds_18
  · rw [hfs (by omega) (by omega)]
    refine W.eq (g2 := F0 m 5 ls (.ref h0 :: [])) rfl ?_
    refine lv_astore_n (lv' := [(2, .ref h0), (0, .ref x0), (1, .int s_)]) hx hb dX7_holds_5 rfl hl (by decide) rfl (fun ls hl => ?_)
    refine lv_aload_n hx hb dX7_holds_6 rfl (lv_at hl 0 rfl) ?_
    refine lv_ifnonnull (tgt := 14) hx hb dX7_holds_7 (by decide) ?_
    refine lv_aload_n hx hb dX7_holds_14 rfl (lv_at hl 0 rfl) ?_
    refine va_get (D := D) (ci := 4) (v := .int he) (C := RX4) (T := TX4) (N := 3) hx hb hts hi_X7_holds_4 hown hK hP 2 rfl rfl 1 (by decide) (hts (.fieldLink RX7 87 "TheLiningsInIt$Shelf" "held" "I") (List.mem_of_getElem? (i := 1) rfl)) (fun _ h9 => h9) rfl dX7_holds_15 ?_
    exact W.iret (v := he) hx hb hr (fun t ht hW => ⟨⟨he, (), rfl, ⟨(show ((s_.toInt < 0 ∨ 7 < s_.toInt) ∧ (he : Int32).toInt = -1) ∨ ((0 ≤ s_.toInt ∧ s_.toInt ≤ 7) ∧ (he : Int32).toInt = he.toInt) from by (have km : ((-1) : Int32).toInt = -1 := (by decide); omega)), trivial⟩, zRet ht hP hD [0, 1, 2] (by decide) rfl⟩, hS.F ht⟩) hS.2.2 dX7_holds_18
set_option maxHeartbeats 4000000 in
set_option maxRecDepth 100000 in
theorem c_F_X_pull (l : Launch) (D : va_G) (cI cJ cZ cP cS : ClassId) (po : zPool) (x0 xs j0 k0 w0 rd mv xr : Nat) (im lf : Int32) (fr : Nat → Int32) (j0 jp jc z0 zl zs : Nat) (cn de tr se hu sd : Int32) (fp : Nat → Option Nat) (kf af tf : Nat → Int32) (ki a_ ta : Int32) (hy0 : 0 ≤ im.toInt) (hy1 : im.toInt ≤ 1) (hy2 : (-1) ≤ lf.toInt) (hy3 : lf.toInt ≤ 160) (hy4 : 0 ≤ cn.toInt) (hy5 : cn.toInt ≤ 8) (hy6 : 0 ≤ de.toInt) (hy7 : de.toInt ≤ 24) (hy8 : 0 ≤ hu.toInt) (hy9 : hu.toInt ≤ 9) (hpz : Nat) : Met l yX7_pull wsX7_pull ({ frames := 3, cells := 1, slots := 3, locals := 58 }) (va_Pc [.ref x0, .int ki, .int a_, .int ta] (zW D (zKT cI cJ cZ cP cS) po [(x0, .inr (7, [.ref xs, .ref j0, .ref k0, .ref w0, .ref rd, .ref mv, .ref xr, .int im, .int lf])), (xr, .inl (cI, 8, .inl fr)), (j0, .inr (0, [.ref z0, .ref jp, .ref jc, .int cn, .int de, .int tr, .int se, .int hu, .int sd])), (jp, .inl (cP, 8, .inr (.inr (.inr (.inr fp)))))] hpz)) (va_Qi (fun (r : Int32) (u : (Int32) × (Nat → Option Nat) × (Nat → Int32) × (Nat → Int32) × (Nat → Int32) × (Nat → Int32) × (List (Nat × Int32 × Int32 × Int32))) => (0 ≤ u.1.toInt ∧ u.1.toInt ≤ 8) ∧ (∀ z ∈ u.2.2.2.2.2.2, zPr z.2.1 z.2.2.1 z.2.2.2) ∧ (zExt u.2.2.2.2.2.2 fp cn kf af tf u.2.1 u.1 u.2.2.2.1 u.2.2.2.2.1 u.2.2.2.2.2.1) ∧ (r.toInt = zPulR ki.toInt a_.toInt ta.toInt cn.toInt) ∧ ((0 ≤ r.toInt → u.1.toInt = cn.toInt + 1) ∧ (r.toInt < 0 → u.1.toInt = cn.toInt)) ∧ ((r.toInt < 0 ∧ u.2.2.2.1 = kf ∧ u.2.2.2.2.1 = af ∧ u.2.2.2.2.2.1 = tf) ∨ (0 ≤ r.toInt ∧ u.2.2.2.1 = upd kf cn.toNatClampNeg ki ∧ u.2.2.2.2.1 = upd af cn.toNatClampNeg a_ ∧ u.2.2.2.2.2.1 = upd tf cn.toNatClampNeg ta)) ∧ (True)) (zB D [(x0, .inr (7, [.ref xs, .ref j0, .ref k0, .ref w0, .ref rd, .ref mv, .ref xr, .int im, .int lf])), (xr, .inl (cI, 8, .inl fr)), (j0, .inr (0, [.ref z0, .ref jp, .ref jc, .int cn, .int de, .int tr, .int se, .int hu, .int sd])), (jp, .inl (cP, 8, .inr (.inr (.inr (.inr fp)))))] hpz (fun (u : (Int32) × (Nat → Option Nat) × (Nat → Int32) × (Nat → Int32) × (Nat → Int32) × (Nat → Int32) × (List (Nat × Int32 × Int32 × Int32))) => ([(x0, .inr (7, [.ref xs, .ref j0, .ref k0, .ref w0, .ref rd, .ref mv, .ref xr, .int im, .int lf])), (xr, .inl (cI, 8, .inl u.2.2.1)), (j0, .inr (0, [.ref z0, .ref jp, .ref jc, .int u.1, .int de, .int tr, .int se, .int hu, .int sd])), (jp, .inl (cP, 8, .inr (.inr (.inr (.inr u.2.1)))))] ++ u.2.2.2.2.2.2.map zPo))) (va_A [(x0, .inr (7, [.ref xs, .ref j0, .ref k0, .ref w0, .ref rd, .ref mv, .ref xr, .int im, .int lf])), (xr, .inl (cI, 8, .inl fr)), (j0, .inr (0, [.ref z0, .ref jp, .ref jc, .int cn, .int de, .int tr, .int se, .int hu, .int sd])), (jp, .inl (cP, 8, .inr (.inr (.inr (.inr fp)))))] hpz)) 1 3 (va_A [(x0, .inr (7, [.ref xs, .ref j0, .ref k0, .ref w0, .ref rd, .ref mv, .ref xr, .int im, .int lf])), (xr, .inl (cI, 8, .inl fr)), (j0, .inr (0, [.ref z0, .ref jp, .ref jc, .int cn, .int de, .int tr, .int se, .int hu, .int sd])), (jp, .inl (cP, 8, .inr (.inr (.inr (.inr fp)))))] hpz) := by
  refine Met.ofW (cc := cX7_pull) (maxL := 4) (ret := (some .int)) (by decide) rfl ?_
  intro p e s m args below meth c s₁ B hml hv
  obtain ⟨rfl, hsz, hP, hK, hD0, hN, hZ⟩ := hv
  have hx := B.exec
  have hb := B.bytes
  have hr := B.returns
  have hts := atoms_spec (ws := wsX7_pull) B.pre
  have hown : s.vm.findClass RX7 = some m.cls := findClass_of_methodNamed B.named
  have hlocks := B.notSynchronized
  subst hsz
  have hD := hD0.self (sz := s.heap.size)
  have hA := zA_of hD
  have hl := lv_entry ([.ref x0, .int ki, .int a_, .int ta]) (n := 4) (Nat.le_of_ble_eq_true rfl)
  rw [lg_entry_eq]
  generalize (lg_sl ([.ref x0, .int ki, .int a_, .int ta]) ++ List.replicate (4 - (lg_sl ([.ref x0, .int ki, .int a_, .int ta])).length) Slot.unset).toArray = ls at hl ⊢
  replace hl : lv_has ls 4 [(0, .ref x0), (1, .int ki), (2, .int a_), (3, .int ta)] := hl
  refine zw_begin hP hD (fun H locs hP1 hS => ?_)
  clear hP
  have hP := hP1
  clear hP1
  refine lv_iload_n hx hb dX7_pull_0 rfl (lv_at hl 1 rfl) ?_
  refine lv_iconst (v := 0) hx hb dX7_pull_1 (by decide) ?_
  refine lv_bipush (v := 6) hx hb dX7_pull_2 (by decide) ?_
  have kc0 : (0 : Int32).toInt = 0 := by decide
  have kc6 : (6 : Int32).toInt = 6 := by decide
  refine zc_S (As := [.int ki, .int 0, .int 6]) (rest := []) ⟨hx, hb, hml, hown, hts⟩ (c_within l D cI cJ cZ cP cS po (ki) (0) (6) ) (va_cwS 3 hts gX7_pull_X7_within rfl rfl rfl dh_X7_within ⟨Nat.le_of_ble_eq_true rfl, Nat.le_of_ble_eq_true rfl⟩) hK hN (hZ.kept hS) rfl hl.1 rfl (Nat.le_of_ble_eq_true rfl) dX7_pull_4 ⟨Nat.le_of_ble_eq_true rfl, Nat.le_of_ble_eq_true rfl⟩ (fun r_1 hr_1 => ?_)
  rcases hr_1 with ⟨rfl, g_2⟩ | ⟨rfl, g_3, g_4⟩ | ⟨rfl, g_5, g_6⟩
  · refine lv_if_ne (tgt := 16) hx hb dX7_pull_7 (by decide) (fun c_7 => ?_) (fun c_7 => ?_)
    · exact absurd c_7 (by decide)
    · refine lv_aload_n hx hb dX7_pull_10 rfl (lv_at hl 0 rfl) ?_
      refine lv_iconst (v := 1) hx hb dX7_pull_11 (by decide) ?_
      skip
      refine zw_V (As := [.int 1]) (rest := []) (wr := [(j0, .inr (0, [.ref z0, .ref jp, .ref jc, .int cn, .int de, .int tr, .int se, .int hu, .int sd])), (jp, .inl (cP, 8, .inr (.inr (.inr (.inr fp)))))]) ⟨hx, hb, hml, hown, hts⟩ (c_X_refuse_1 l D cI cJ cZ cP cS po x0 xs j0 k0 w0 rd mv xr (im) (lf) fr hy0 hy1 hy2 hy3 H.size) (cwV 1 hts gX7_pull_X7_refuse rfl rfl rfl ⟨rfl, dh_X7_refuse⟩ ⟨Nat.le_of_ble_eq_true rfl, Nat.le_of_ble_eq_true rfl⟩) hK hN (hZ.kept hS) hP hD hS hA [0, 1] [2, 3] rfl rfl (by decide) (by decide) (by decide) (va_recv (q := (RX7, TX7, 9)) hK hP (ci := 7) (q0 := 0) rfl rfl) rfl hl.1 rfl (Nat.le_of_ble_eq_true rfl) dX7_pull_12 ⟨Nat.le_of_ble_eq_true rfl, Nat.le_of_ble_eq_true rfl⟩ (fun r_8 u_9 H locs hr_8 hP hD hS => ?_)
      obtain ⟨q_10, rfl⟩ : ∃ z, z = u_9 := ⟨_, rfl⟩
      have h9R := zRe (ws' := [(j0, .inr (0, [.ref z0, .ref jp, .ref jc, .int cn, .int de, .int tr, .int se, .int hu, .int sd])), (jp, .inl (cP, 8, .inr (.inr (.inr (.inr fp))))), (x0, .inr (7, [.ref xs, .ref j0, .ref k0, .ref w0, .ref rd, .ref mv, .ref xr, .int im, .int lf])), (xr, .inl (cI, 8, .inl q_10))]) hP hD rfl
      clear hP hD
      obtain ⟨hP, hD⟩ := h9R
      obtain rfl := hr_8
      refine W.widen (k := 1) (n := 3) (Nat.le_of_ble_eq_true rfl) (Nat.le_of_ble_eq_true rfl) ?_
      exact W.iret (v := (-1)) hx hb hr (fun t ht hW => ⟨⟨(-1), (cn, fp, q_10, kf, af, tf, []), rfl, ⟨(show 0 ≤ cn.toInt ∧ cn.toInt ≤ 8 from ⟨hy4, hy5⟩), (by intro z hz; simp at hz), (show zExt [] fp cn kf af tf fp cn kf af tf from by first | exact zExt.refl | assumption), (show ((-1) : Int32).toInt = zPulR ki.toInt a_.toInt ta.toInt cn.toInt from by (have k9 : ((-1) : Int32).toInt = -1 := (by decide); unfold zPulR; (repeat (first | rw [if_pos (by omega)] | rw [if_neg (by omega)])) <;> omega)), (show (0 ≤ ((-1) : Int32).toInt → cn.toInt = cn.toInt + 1) ∧ (((-1) : Int32).toInt < 0 → cn.toInt = cn.toInt) from by (have k9 : ((-1) : Int32).toInt = -1 := (by decide); omega)), (show (((-1) : Int32).toInt < 0 ∧ kf = kf ∧ af = af ∧ tf = tf) ∨ (0 ≤ ((-1) : Int32).toInt ∧ kf = upd kf cn.toNatClampNeg ki ∧ af = upd af cn.toNatClampNeg a_ ∧ tf = upd tf cn.toNatClampNeg ta) from by (have k9 : ((-1) : Int32).toInt = -1 := (by decide); exact Or.inl ⟨by omega, rfl, rfl, rfl⟩)), trivial⟩, zRet ht hP hD [2, 3, 0, 1] (by decide) rfl⟩, hS.F ht⟩) hS.2.2 dX7_pull_15
  · refine lv_if_ne (tgt := 16) hx hb dX7_pull_7 (by decide) (fun c_11 => ?_) (fun c_11 => ?_)
    · exact absurd c_11 (by decide)
    · refine lv_aload_n hx hb dX7_pull_10 rfl (lv_at hl 0 rfl) ?_
      refine lv_iconst (v := 1) hx hb dX7_pull_11 (by decide) ?_
      skip
      refine zw_V (As := [.int 1]) (rest := []) (wr := [(j0, .inr (0, [.ref z0, .ref jp, .ref jc, .int cn, .int de, .int tr, .int se, .int hu, .int sd])), (jp, .inl (cP, 8, .inr (.inr (.inr (.inr fp)))))]) ⟨hx, hb, hml, hown, hts⟩ (c_X_refuse_1 l D cI cJ cZ cP cS po x0 xs j0 k0 w0 rd mv xr (im) (lf) fr hy0 hy1 hy2 hy3 H.size) (cwV 1 hts gX7_pull_X7_refuse rfl rfl rfl ⟨rfl, dh_X7_refuse⟩ ⟨Nat.le_of_ble_eq_true rfl, Nat.le_of_ble_eq_true rfl⟩) hK hN (hZ.kept hS) hP hD hS hA [0, 1] [2, 3] rfl rfl (by decide) (by decide) (by decide) (va_recv (q := (RX7, TX7, 9)) hK hP (ci := 7) (q0 := 0) rfl rfl) rfl hl.1 rfl (Nat.le_of_ble_eq_true rfl) dX7_pull_12 ⟨Nat.le_of_ble_eq_true rfl, Nat.le_of_ble_eq_true rfl⟩ (fun r_12 u_13 H locs hr_12 hP hD hS => ?_)
      obtain ⟨q_14, rfl⟩ : ∃ z, z = u_13 := ⟨_, rfl⟩
      have h9R := zRe (ws' := [(j0, .inr (0, [.ref z0, .ref jp, .ref jc, .int cn, .int de, .int tr, .int se, .int hu, .int sd])), (jp, .inl (cP, 8, .inr (.inr (.inr (.inr fp))))), (x0, .inr (7, [.ref xs, .ref j0, .ref k0, .ref w0, .ref rd, .ref mv, .ref xr, .int im, .int lf])), (xr, .inl (cI, 8, .inl q_14))]) hP hD rfl
      clear hP hD
      obtain ⟨hP, hD⟩ := h9R
      obtain rfl := hr_12
      refine W.widen (k := 1) (n := 3) (Nat.le_of_ble_eq_true rfl) (Nat.le_of_ble_eq_true rfl) ?_
      exact W.iret (v := (-1)) hx hb hr (fun t ht hW => ⟨⟨(-1), (cn, fp, q_14, kf, af, tf, []), rfl, ⟨(show 0 ≤ cn.toInt ∧ cn.toInt ≤ 8 from ⟨hy4, hy5⟩), (by intro z hz; simp at hz), (show zExt [] fp cn kf af tf fp cn kf af tf from by first | exact zExt.refl | assumption), (show ((-1) : Int32).toInt = zPulR ki.toInt a_.toInt ta.toInt cn.toInt from by (have k9 : ((-1) : Int32).toInt = -1 := (by decide); unfold zPulR; (repeat (first | rw [if_pos (by omega)] | rw [if_neg (by omega)])) <;> omega)), (show (0 ≤ ((-1) : Int32).toInt → cn.toInt = cn.toInt + 1) ∧ (((-1) : Int32).toInt < 0 → cn.toInt = cn.toInt) from by (have k9 : ((-1) : Int32).toInt = -1 := (by decide); omega)), (show (((-1) : Int32).toInt < 0 ∧ kf = kf ∧ af = af ∧ tf = tf) ∨ (0 ≤ ((-1) : Int32).toInt ∧ kf = upd kf cn.toNatClampNeg ki ∧ af = upd af cn.toNatClampNeg a_ ∧ tf = upd tf cn.toNatClampNeg ta) from by (have k9 : ((-1) : Int32).toInt = -1 := (by decide); exact Or.inl ⟨by omega, rfl, rfl, rfl⟩)), trivial⟩, zRet ht hP hD [2, 3, 0, 1] (by decide) rfl⟩, hS.F ht⟩) hS.2.2 dX7_pull_15
  · refine lv_if_ne (tgt := 16) hx hb dX7_pull_7 (by decide) (fun c_15 => ?_) (fun c_15 => ?_)
    · refine lv_iload_n hx hb dX7_pull_16 rfl (lv_at hl 2 rfl) ?_
      refine lv_iconst (v := 0) hx hb dX7_pull_17 (by decide) ?_
      refine lv_bipush (v := 9) hx hb dX7_pull_18 (by decide) ?_
      have kc9 : (9 : Int32).toInt = 9 := by decide
      refine zc_S (As := [.int a_, .int 0, .int 9]) (rest := []) ⟨hx, hb, hml, hown, hts⟩ (c_within l D cI cJ cZ cP cS po (a_) (0) (9) ) (va_cwS 3 hts gX7_pull_X7_within rfl rfl rfl dh_X7_within ⟨Nat.le_of_ble_eq_true rfl, Nat.le_of_ble_eq_true rfl⟩) hK hN (hZ.kept hS) rfl hl.1 rfl (Nat.le_of_ble_eq_true rfl) dX7_pull_20 ⟨Nat.le_of_ble_eq_true rfl, Nat.le_of_ble_eq_true rfl⟩ (fun r_16 hr_16 => ?_)
      rcases hr_16 with ⟨rfl, g_17⟩ | ⟨rfl, g_18, g_19⟩ | ⟨rfl, g_20, g_21⟩
      · refine lv_if_eq (tgt := 36) hx hb dX7_pull_23 (by decide) (fun c_22 => ?_) (fun c_22 => ?_)
        · refine lv_aload_n hx hb dX7_pull_36 rfl (lv_at hl 0 rfl) ?_
          refine lv_bipush (v := 6) hx hb dX7_pull_37 (by decide) ?_
          skip
          refine zw_V (As := [.int 6]) (rest := []) (wr := [(j0, .inr (0, [.ref z0, .ref jp, .ref jc, .int cn, .int de, .int tr, .int se, .int hu, .int sd])), (jp, .inl (cP, 8, .inr (.inr (.inr (.inr fp)))))]) ⟨hx, hb, hml, hown, hts⟩ (c_X_refuse_6 l D cI cJ cZ cP cS po x0 xs j0 k0 w0 rd mv xr (im) (lf) fr hy0 hy1 hy2 hy3 H.size) (cwV 1 hts gX7_pull_X7_refuse rfl rfl rfl ⟨rfl, dh_X7_refuse⟩ ⟨Nat.le_of_ble_eq_true rfl, Nat.le_of_ble_eq_true rfl⟩) hK hN (hZ.kept hS) hP hD hS hA [0, 1] [2, 3] rfl rfl (by decide) (by decide) (by decide) (va_recv (q := (RX7, TX7, 9)) hK hP (ci := 7) (q0 := 0) rfl rfl) rfl hl.1 rfl (Nat.le_of_ble_eq_true rfl) dX7_pull_39 ⟨Nat.le_of_ble_eq_true rfl, Nat.le_of_ble_eq_true rfl⟩ (fun r_23 u_24 H locs hr_23 hP hD hS => ?_)
          obtain ⟨q_25, rfl⟩ : ∃ z, z = u_24 := ⟨_, rfl⟩
          have h9R := zRe (ws' := [(j0, .inr (0, [.ref z0, .ref jp, .ref jc, .int cn, .int de, .int tr, .int se, .int hu, .int sd])), (jp, .inl (cP, 8, .inr (.inr (.inr (.inr fp))))), (x0, .inr (7, [.ref xs, .ref j0, .ref k0, .ref w0, .ref rd, .ref mv, .ref xr, .int im, .int lf])), (xr, .inl (cI, 8, .inl q_25))]) hP hD rfl
          clear hP hD
          obtain ⟨hP, hD⟩ := h9R
          obtain rfl := hr_23
          refine W.widen (k := 1) (n := 3) (Nat.le_of_ble_eq_true rfl) (Nat.le_of_ble_eq_true rfl) ?_
          exact W.iret (v := (-6)) hx hb hr (fun t ht hW => ⟨⟨(-6), (cn, fp, q_25, kf, af, tf, []), rfl, ⟨(show 0 ≤ cn.toInt ∧ cn.toInt ≤ 8 from ⟨hy4, hy5⟩), (by intro z hz; simp at hz), (show zExt [] fp cn kf af tf fp cn kf af tf from by first | exact zExt.refl | assumption), (show ((-6) : Int32).toInt = zPulR ki.toInt a_.toInt ta.toInt cn.toInt from by (have k9 : ((-6) : Int32).toInt = -6 := (by decide); unfold zPulR; (repeat (first | rw [if_pos (by omega)] | rw [if_neg (by omega)])) <;> omega)), (show (0 ≤ ((-6) : Int32).toInt → cn.toInt = cn.toInt + 1) ∧ (((-6) : Int32).toInt < 0 → cn.toInt = cn.toInt) from by (have k9 : ((-6) : Int32).toInt = -6 := (by decide); omega)), (show (((-6) : Int32).toInt < 0 ∧ kf = kf ∧ af = af ∧ tf = tf) ∨ (0 ≤ ((-6) : Int32).toInt ∧ kf = upd kf cn.toNatClampNeg ki ∧ af = upd af cn.toNatClampNeg a_ ∧ tf = upd tf cn.toNatClampNeg ta) from by (have k9 : ((-6) : Int32).toInt = -6 := (by decide); exact Or.inl ⟨by omega, rfl, rfl, rfl⟩)), trivial⟩, zRet ht hP hD [2, 3, 0, 1] (by decide) rfl⟩, hS.F ht⟩) hS.2.2 dX7_pull_42
        · exact absurd c_22 (by decide)
      · refine lv_if_eq (tgt := 36) hx hb dX7_pull_23 (by decide) (fun c_26 => ?_) (fun c_26 => ?_)
        · refine lv_aload_n hx hb dX7_pull_36 rfl (lv_at hl 0 rfl) ?_
          refine lv_bipush (v := 6) hx hb dX7_pull_37 (by decide) ?_
          skip
          refine zw_V (As := [.int 6]) (rest := []) (wr := [(j0, .inr (0, [.ref z0, .ref jp, .ref jc, .int cn, .int de, .int tr, .int se, .int hu, .int sd])), (jp, .inl (cP, 8, .inr (.inr (.inr (.inr fp)))))]) ⟨hx, hb, hml, hown, hts⟩ (c_X_refuse_6 l D cI cJ cZ cP cS po x0 xs j0 k0 w0 rd mv xr (im) (lf) fr hy0 hy1 hy2 hy3 H.size) (cwV 1 hts gX7_pull_X7_refuse rfl rfl rfl ⟨rfl, dh_X7_refuse⟩ ⟨Nat.le_of_ble_eq_true rfl, Nat.le_of_ble_eq_true rfl⟩) hK hN (hZ.kept hS) hP hD hS hA [0, 1] [2, 3] rfl rfl (by decide) (by decide) (by decide) (va_recv (q := (RX7, TX7, 9)) hK hP (ci := 7) (q0 := 0) rfl rfl) rfl hl.1 rfl (Nat.le_of_ble_eq_true rfl) dX7_pull_39 ⟨Nat.le_of_ble_eq_true rfl, Nat.le_of_ble_eq_true rfl⟩ (fun r_27 u_28 H locs hr_27 hP hD hS => ?_)
          obtain ⟨q_29, rfl⟩ : ∃ z, z = u_28 := ⟨_, rfl⟩
          have h9R := zRe (ws' := [(j0, .inr (0, [.ref z0, .ref jp, .ref jc, .int cn, .int de, .int tr, .int se, .int hu, .int sd])), (jp, .inl (cP, 8, .inr (.inr (.inr (.inr fp))))), (x0, .inr (7, [.ref xs, .ref j0, .ref k0, .ref w0, .ref rd, .ref mv, .ref xr, .int im, .int lf])), (xr, .inl (cI, 8, .inl q_29))]) hP hD rfl
          clear hP hD
          obtain ⟨hP, hD⟩ := h9R
          obtain rfl := hr_27
          refine W.widen (k := 1) (n := 3) (Nat.le_of_ble_eq_true rfl) (Nat.le_of_ble_eq_true rfl) ?_
          exact W.iret (v := (-6)) hx hb hr (fun t ht hW => ⟨⟨(-6), (cn, fp, q_29, kf, af, tf, []), rfl, ⟨(show 0 ≤ cn.toInt ∧ cn.toInt ≤ 8 from ⟨hy4, hy5⟩), (by intro z hz; simp at hz), (show zExt [] fp cn kf af tf fp cn kf af tf from by first | exact zExt.refl | assumption), (show ((-6) : Int32).toInt = zPulR ki.toInt a_.toInt ta.toInt cn.toInt from by (have k9 : ((-6) : Int32).toInt = -6 := (by decide); unfold zPulR; (repeat (first | rw [if_pos (by omega)] | rw [if_neg (by omega)])) <;> omega)), (show (0 ≤ ((-6) : Int32).toInt → cn.toInt = cn.toInt + 1) ∧ (((-6) : Int32).toInt < 0 → cn.toInt = cn.toInt) from by (have k9 : ((-6) : Int32).toInt = -6 := (by decide); omega)), (show (((-6) : Int32).toInt < 0 ∧ kf = kf ∧ af = af ∧ tf = tf) ∨ (0 ≤ ((-6) : Int32).toInt ∧ kf = upd kf cn.toNatClampNeg ki ∧ af = upd af cn.toNatClampNeg a_ ∧ tf = upd tf cn.toNatClampNeg ta) from by (have k9 : ((-6) : Int32).toInt = -6 := (by decide); exact Or.inl ⟨by omega, rfl, rfl, rfl⟩)), trivial⟩, zRet ht hP hD [2, 3, 0, 1] (by decide) rfl⟩, hS.F ht⟩) hS.2.2 dX7_pull_42
        · exact absurd c_26 (by decide)
      · refine lv_if_eq (tgt := 36) hx hb dX7_pull_23 (by decide) (fun c_30 => ?_) (fun c_30 => ?_)
        · exact absurd c_30 (by decide)
        · refine lv_iload_n hx hb dX7_pull_26 rfl (lv_at hl 3 rfl) ?_
          refine lv_iconst (v := 1) hx hb dX7_pull_27 (by decide) ?_
          refine lv_bipush (v := 60) hx hb dX7_pull_28 (by decide) ?_
          have kc1 : (1 : Int32).toInt = 1 := by decide
          have kc60 : (60 : Int32).toInt = 60 := by decide
          refine zc_S (As := [.int ta, .int 1, .int 60]) (rest := []) ⟨hx, hb, hml, hown, hts⟩ (c_within l D cI cJ cZ cP cS po (ta) (1) (60) ) (va_cwS 3 hts gX7_pull_X7_within rfl rfl rfl dh_X7_within ⟨Nat.le_of_ble_eq_true rfl, Nat.le_of_ble_eq_true rfl⟩) hK hN (hZ.kept hS) rfl hl.1 rfl (Nat.le_of_ble_eq_true rfl) dX7_pull_30 ⟨Nat.le_of_ble_eq_true rfl, Nat.le_of_ble_eq_true rfl⟩ (fun r_31 hr_31 => ?_)
          rcases hr_31 with ⟨rfl, g_32⟩ | ⟨rfl, g_33, g_34⟩ | ⟨rfl, g_35, g_36⟩
          · refine lv_if_ne (tgt := 43) hx hb dX7_pull_33 (by decide) (fun c_37 => ?_) (fun c_37 => ?_)
            · exact absurd c_37 (by decide)
            · refine lv_aload_n hx hb dX7_pull_36 rfl (lv_at hl 0 rfl) ?_
              refine lv_bipush (v := 6) hx hb dX7_pull_37 (by decide) ?_
              skip
              refine zw_V (As := [.int 6]) (rest := []) (wr := [(j0, .inr (0, [.ref z0, .ref jp, .ref jc, .int cn, .int de, .int tr, .int se, .int hu, .int sd])), (jp, .inl (cP, 8, .inr (.inr (.inr (.inr fp)))))]) ⟨hx, hb, hml, hown, hts⟩ (c_X_refuse_6 l D cI cJ cZ cP cS po x0 xs j0 k0 w0 rd mv xr (im) (lf) fr hy0 hy1 hy2 hy3 H.size) (cwV 1 hts gX7_pull_X7_refuse rfl rfl rfl ⟨rfl, dh_X7_refuse⟩ ⟨Nat.le_of_ble_eq_true rfl, Nat.le_of_ble_eq_true rfl⟩) hK hN (hZ.kept hS) hP hD hS hA [0, 1] [2, 3] rfl rfl (by decide) (by decide) (by decide) (va_recv (q := (RX7, TX7, 9)) hK hP (ci := 7) (q0 := 0) rfl rfl) rfl hl.1 rfl (Nat.le_of_ble_eq_true rfl) dX7_pull_39 ⟨Nat.le_of_ble_eq_true rfl, Nat.le_of_ble_eq_true rfl⟩ (fun r_38 u_39 H locs hr_38 hP hD hS => ?_)
              obtain ⟨q_40, rfl⟩ : ∃ z, z = u_39 := ⟨_, rfl⟩
              have h9R := zRe (ws' := [(j0, .inr (0, [.ref z0, .ref jp, .ref jc, .int cn, .int de, .int tr, .int se, .int hu, .int sd])), (jp, .inl (cP, 8, .inr (.inr (.inr (.inr fp))))), (x0, .inr (7, [.ref xs, .ref j0, .ref k0, .ref w0, .ref rd, .ref mv, .ref xr, .int im, .int lf])), (xr, .inl (cI, 8, .inl q_40))]) hP hD rfl
              clear hP hD
              obtain ⟨hP, hD⟩ := h9R
              obtain rfl := hr_38
              refine W.widen (k := 1) (n := 3) (Nat.le_of_ble_eq_true rfl) (Nat.le_of_ble_eq_true rfl) ?_
              exact W.iret (v := (-6)) hx hb hr (fun t ht hW => ⟨⟨(-6), (cn, fp, q_40, kf, af, tf, []), rfl, ⟨(show 0 ≤ cn.toInt ∧ cn.toInt ≤ 8 from ⟨hy4, hy5⟩), (by intro z hz; simp at hz), (show zExt [] fp cn kf af tf fp cn kf af tf from by first | exact zExt.refl | assumption), (show ((-6) : Int32).toInt = zPulR ki.toInt a_.toInt ta.toInt cn.toInt from by (have k9 : ((-6) : Int32).toInt = -6 := (by decide); unfold zPulR; (repeat (first | rw [if_pos (by omega)] | rw [if_neg (by omega)])) <;> omega)), (show (0 ≤ ((-6) : Int32).toInt → cn.toInt = cn.toInt + 1) ∧ (((-6) : Int32).toInt < 0 → cn.toInt = cn.toInt) from by (have k9 : ((-6) : Int32).toInt = -6 := (by decide); omega)), (show (((-6) : Int32).toInt < 0 ∧ kf = kf ∧ af = af ∧ tf = tf) ∨ (0 ≤ ((-6) : Int32).toInt ∧ kf = upd kf cn.toNatClampNeg ki ∧ af = upd af cn.toNatClampNeg a_ ∧ tf = upd tf cn.toNatClampNeg ta) from by (have k9 : ((-6) : Int32).toInt = -6 := (by decide); exact Or.inl ⟨by omega, rfl, rfl, rfl⟩)), trivial⟩, zRet ht hP hD [2, 3, 0, 1] (by decide) rfl⟩, hS.F ht⟩) hS.2.2 dX7_pull_42
          · refine lv_if_ne (tgt := 43) hx hb dX7_pull_33 (by decide) (fun c_41 => ?_) (fun c_41 => ?_)
            · exact absurd c_41 (by decide)
            · refine lv_aload_n hx hb dX7_pull_36 rfl (lv_at hl 0 rfl) ?_
              refine lv_bipush (v := 6) hx hb dX7_pull_37 (by decide) ?_
              skip
              refine zw_V (As := [.int 6]) (rest := []) (wr := [(j0, .inr (0, [.ref z0, .ref jp, .ref jc, .int cn, .int de, .int tr, .int se, .int hu, .int sd])), (jp, .inl (cP, 8, .inr (.inr (.inr (.inr fp)))))]) ⟨hx, hb, hml, hown, hts⟩ (c_X_refuse_6 l D cI cJ cZ cP cS po x0 xs j0 k0 w0 rd mv xr (im) (lf) fr hy0 hy1 hy2 hy3 H.size) (cwV 1 hts gX7_pull_X7_refuse rfl rfl rfl ⟨rfl, dh_X7_refuse⟩ ⟨Nat.le_of_ble_eq_true rfl, Nat.le_of_ble_eq_true rfl⟩) hK hN (hZ.kept hS) hP hD hS hA [0, 1] [2, 3] rfl rfl (by decide) (by decide) (by decide) (va_recv (q := (RX7, TX7, 9)) hK hP (ci := 7) (q0 := 0) rfl rfl) rfl hl.1 rfl (Nat.le_of_ble_eq_true rfl) dX7_pull_39 ⟨Nat.le_of_ble_eq_true rfl, Nat.le_of_ble_eq_true rfl⟩ (fun r_42 u_43 H locs hr_42 hP hD hS => ?_)
              obtain ⟨q_44, rfl⟩ : ∃ z, z = u_43 := ⟨_, rfl⟩
              have h9R := zRe (ws' := [(j0, .inr (0, [.ref z0, .ref jp, .ref jc, .int cn, .int de, .int tr, .int se, .int hu, .int sd])), (jp, .inl (cP, 8, .inr (.inr (.inr (.inr fp))))), (x0, .inr (7, [.ref xs, .ref j0, .ref k0, .ref w0, .ref rd, .ref mv, .ref xr, .int im, .int lf])), (xr, .inl (cI, 8, .inl q_44))]) hP hD rfl
              clear hP hD
              obtain ⟨hP, hD⟩ := h9R
              obtain rfl := hr_42
              refine W.widen (k := 1) (n := 3) (Nat.le_of_ble_eq_true rfl) (Nat.le_of_ble_eq_true rfl) ?_
              exact W.iret (v := (-6)) hx hb hr (fun t ht hW => ⟨⟨(-6), (cn, fp, q_44, kf, af, tf, []), rfl, ⟨(show 0 ≤ cn.toInt ∧ cn.toInt ≤ 8 from ⟨hy4, hy5⟩), (by intro z hz; simp at hz), (show zExt [] fp cn kf af tf fp cn kf af tf from by first | exact zExt.refl | assumption), (show ((-6) : Int32).toInt = zPulR ki.toInt a_.toInt ta.toInt cn.toInt from by (have k9 : ((-6) : Int32).toInt = -6 := (by decide); unfold zPulR; (repeat (first | rw [if_pos (by omega)] | rw [if_neg (by omega)])) <;> omega)), (show (0 ≤ ((-6) : Int32).toInt → cn.toInt = cn.toInt + 1) ∧ (((-6) : Int32).toInt < 0 → cn.toInt = cn.toInt) from by (have k9 : ((-6) : Int32).toInt = -6 := (by decide); omega)), (show (((-6) : Int32).toInt < 0 ∧ kf = kf ∧ af = af ∧ tf = tf) ∨ (0 ≤ ((-6) : Int32).toInt ∧ kf = upd kf cn.toNatClampNeg ki ∧ af = upd af cn.toNatClampNeg a_ ∧ tf = upd tf cn.toNatClampNeg ta) from by (have k9 : ((-6) : Int32).toInt = -6 := (by decide); exact Or.inl ⟨by omega, rfl, rfl, rfl⟩)), trivial⟩, zRet ht hP hD [2, 3, 0, 1] (by decide) rfl⟩, hS.F ht⟩) hS.2.2 dX7_pull_42
          · refine lv_if_ne (tgt := 43) hx hb dX7_pull_33 (by decide) (fun c_45 => ?_) (fun c_45 => ?_)
            · refine lv_aload_n hx hb dX7_pull_43 rfl (lv_at hl 0 rfl) ?_
              refine va_get (D := D) (ci := 7) (v := .ref j0) (C := RX7) (T := TX7) (N := 9) hx hb hts hi_X7_pull_7 hown hK hP 0 rfl rfl 1 (by decide) (hts (.fieldLink RX7 18 "TheLiningsInIt" "now" "LTheLiningsInIt$Jacket;") (List.mem_of_getElem? (i := 1) rfl)) (fun _ h9 => h9) rfl dX7_pull_44 ?_
              refine va_get (D := D) (ci := 0) (v := .int cn) (C := RX0) (T := TX0) (N := 9) hx hb hts hi_X7_pull_0 hown hK hP 2 rfl rfl 3 (by decide) (hts (.fieldLink RX7 123 "TheLiningsInIt$Jacket" "pullCount" "I") (List.mem_of_getElem? (i := 2) rfl)) (fun _ h9 => h9) rfl dX7_pull_47 ?_
              refine lv_bipush (v := 8) hx hb dX7_pull_50 (by decide) ?_
              refine lv_icmp_lt (tgt := 62) hx hb dX7_pull_52 (by decide) (fun c_46 => ?_) (fun c_46 => ?_)
              · have fc_46 : cn.toInt < 8 := zf_lt c_46 rfl (by decide)
                refine lv_aload_n hx hb dX7_pull_62 rfl (lv_at hl 0 rfl) ?_
                refine va_get (D := D) (ci := 7) (v := .ref j0) (C := RX7) (T := TX7) (N := 9) hx hb hts hi_X7_pull_7 hown hK hP 0 rfl rfl 1 (by decide) (hts (.fieldLink RX7 18 "TheLiningsInIt" "now" "LTheLiningsInIt$Jacket;") (List.mem_of_getElem? (i := 1) rfl)) (fun _ h9 => h9) rfl dX7_pull_63 ?_
                refine lv_iload_n hx hb dX7_pull_66 rfl (lv_at hl 1 rfl) ?_
                refine lv_iload_n hx hb dX7_pull_67 rfl (lv_at hl 2 rfl) ?_
                refine lv_iload_n hx hb dX7_pull_68 rfl (lv_at hl 3 rfl) ?_
                skip
                refine zw_V (As := [.int ki, .int a_, .int ta]) (rest := []) (wr := [(x0, .inr (7, [.ref xs, .ref j0, .ref k0, .ref w0, .ref rd, .ref mv, .ref xr, .int im, .int lf])), (xr, .inl (cI, 8, .inl fr))]) ⟨hx, hb, hml, hown, hts⟩ (c_F_J_addPull l D cI cJ cZ cP cS po j0 jp jc z0 0 0 (cn) (de) (tr) (se) (hu) (sd) fp kf af tf (ki) (a_) (ta) hy4 hy5 hy6 hy7 hy8 hy9 (by omega) (by omega) (by omega) (by omega) (by omega) (by omega) H.size) (cwV 3 hts gX7_pull_X0_addPull rfl rfl rfl ⟨rfl, dh_X0_addPull⟩ ⟨Nat.le_of_ble_eq_true rfl, Nat.le_of_ble_eq_true rfl⟩) hK hN (hZ.kept hS) hP hD hS hA [2, 3] [0, 1] rfl rfl (by decide) (by decide) (by decide) (va_recv (q := (RX0, TX0, 9)) hK hP (ci := 0) (q0 := 2) rfl rfl) rfl hl.1 rfl (Nat.le_of_ble_eq_true rfl) dX7_pull_69 ⟨Nat.le_of_ble_eq_true rfl, Nat.le_of_ble_eq_true rfl⟩ (fun r_47 u_48 H locs hr_47 hP hD hS => ?_)
                obtain ⟨q_49, q_50, q_51, q_52, q_53, q_54⟩ := u_48
                try dsimp only at hr_47
                obtain ⟨hbq_49, hnpq_54, hsr_47_0, hsr_47_1, hsr_47_2, hr_47⟩ := hr_47
                have h9R := zRe (ws' := ([(x0, .inr (7, [.ref xs, .ref j0, .ref k0, .ref w0, .ref rd, .ref mv, .ref xr, .int im, .int lf])), (xr, .inl (cI, 8, .inl fr)), (j0, .inr (0, [.ref z0, .ref jp, .ref jc, .int q_49, .int de, .int tr, .int se, .int hu, .int sd])), (jp, .inl (cP, 8, .inr (.inr (.inr (.inr q_50)))))] ++ (q_54.map zPo))) hP hD rfl
                clear hP hD
                obtain ⟨hP, hD⟩ := h9R
                refine W.widen (k := 1) (n := 3) (Nat.le_of_ble_eq_true rfl) (Nat.le_of_ble_eq_true rfl) ?_
                refine W.widen (k := 1) (n := 3) (Nat.le_of_ble_eq_true rfl) (Nat.le_of_ble_eq_true rfl) ?_
                exact W.iret (v := r_47) hx hb hr (fun t ht hW => ⟨⟨r_47, (q_49, q_50, fr, q_51, q_52, q_53, q_54), rfl, ⟨(show 0 ≤ q_49.toInt ∧ q_49.toInt ≤ 8 from hbq_49), hnpq_54, (show zExt q_54 fp cn kf af tf q_50 q_49 q_51 q_52 q_53 from by first | exact zExt.refl | assumption), (show (r_47 : Int32).toInt = zPulR ki.toInt a_.toInt ta.toInt cn.toInt from by (unfold zPulR; (repeat (first | rw [if_pos (by omega)] | rw [if_neg (by omega)])) <;> omega)), (show (0 ≤ (r_47 : Int32).toInt → q_49.toInt = cn.toInt + 1) ∧ ((r_47 : Int32).toInt < 0 → q_49.toInt = cn.toInt) from by (omega)), (show ((r_47 : Int32).toInt < 0 ∧ q_51 = kf ∧ q_52 = af ∧ q_53 = tf) ∨ (0 ≤ (r_47 : Int32).toInt ∧ q_51 = upd kf cn.toNatClampNeg ki ∧ q_52 = upd af cn.toNatClampNeg a_ ∧ q_53 = upd tf cn.toNatClampNeg ta) from by (exact Or.inr ⟨by omega, hsr_47_2 (by omega)⟩)), trivial⟩, by rw [ht]; exact hP.part (cx := [(x0, .inr (7, [.ref xs, .ref j0, .ref k0, .ref w0, .ref rd, .ref mv, .ref xr, .int im, .int lf])), (xr, .inl (cI, 8, .inl fr)), (j0, .inr (0, [.ref z0, .ref jp, .ref jc, .int q_49, .int de, .int tr, .int se, .int hu, .int sd])), (jp, .inl (cP, 8, .inr (.inr (.inr (.inr q_50)))))]) (pl := (q_54.map zPo)) [0, 1, 2, 3] rfl, hD.part (cx := [(x0, .inr (7, [.ref xs, .ref j0, .ref k0, .ref w0, .ref rd, .ref mv, .ref xr, .int im, .int lf])), (xr, .inl (cI, 8, .inl fr)), (j0, .inr (0, [.ref z0, .ref jp, .ref jc, .int q_49, .int de, .int tr, .int se, .int hu, .int sd])), (jp, .inl (cP, 8, .inr (.inr (.inr (.inr q_50)))))]) (pl := (q_54.map zPo)) [0, 1, 2, 3] (by decide) rfl⟩, hS.F ht⟩) hS.2.2 dX7_pull_72
              · have fc_46 : 8 ≤ cn.toInt := zf_nlt c_46 rfl (by decide)
                refine lv_aload_n hx hb dX7_pull_55 rfl (lv_at hl 0 rfl) ?_
                refine lv_bipush (v := 7) hx hb dX7_pull_56 (by decide) ?_
                skip
                refine zw_V (As := [.int 7]) (rest := []) (wr := [(j0, .inr (0, [.ref z0, .ref jp, .ref jc, .int cn, .int de, .int tr, .int se, .int hu, .int sd])), (jp, .inl (cP, 8, .inr (.inr (.inr (.inr fp)))))]) ⟨hx, hb, hml, hown, hts⟩ (c_X_refuse_7 l D cI cJ cZ cP cS po x0 xs j0 k0 w0 rd mv xr (im) (lf) fr hy0 hy1 hy2 hy3 H.size) (cwV 1 hts gX7_pull_X7_refuse rfl rfl rfl ⟨rfl, dh_X7_refuse⟩ ⟨Nat.le_of_ble_eq_true rfl, Nat.le_of_ble_eq_true rfl⟩) hK hN (hZ.kept hS) hP hD hS hA [0, 1] [2, 3] rfl rfl (by decide) (by decide) (by decide) (va_recv (q := (RX7, TX7, 9)) hK hP (ci := 7) (q0 := 0) rfl rfl) rfl hl.1 rfl (Nat.le_of_ble_eq_true rfl) dX7_pull_58 ⟨Nat.le_of_ble_eq_true rfl, Nat.le_of_ble_eq_true rfl⟩ (fun r_55 u_56 H locs hr_55 hP hD hS => ?_)
                obtain ⟨q_57, rfl⟩ : ∃ z, z = u_56 := ⟨_, rfl⟩
                have h9R := zRe (ws' := [(j0, .inr (0, [.ref z0, .ref jp, .ref jc, .int cn, .int de, .int tr, .int se, .int hu, .int sd])), (jp, .inl (cP, 8, .inr (.inr (.inr (.inr fp))))), (x0, .inr (7, [.ref xs, .ref j0, .ref k0, .ref w0, .ref rd, .ref mv, .ref xr, .int im, .int lf])), (xr, .inl (cI, 8, .inl q_57))]) hP hD rfl
                clear hP hD
                obtain ⟨hP, hD⟩ := h9R
                obtain rfl := hr_55
                refine W.widen (k := 1) (n := 3) (Nat.le_of_ble_eq_true rfl) (Nat.le_of_ble_eq_true rfl) ?_
                exact W.iret (v := (-7)) hx hb hr (fun t ht hW => ⟨⟨(-7), (cn, fp, q_57, kf, af, tf, []), rfl, ⟨(show 0 ≤ cn.toInt ∧ cn.toInt ≤ 8 from ⟨hy4, hy5⟩), (by intro z hz; simp at hz), (show zExt [] fp cn kf af tf fp cn kf af tf from by first | exact zExt.refl | assumption), (show ((-7) : Int32).toInt = zPulR ki.toInt a_.toInt ta.toInt cn.toInt from by (have k9 : ((-7) : Int32).toInt = -7 := (by decide); unfold zPulR; (repeat (first | rw [if_pos (by omega)] | rw [if_neg (by omega)])) <;> omega)), (show (0 ≤ ((-7) : Int32).toInt → cn.toInt = cn.toInt + 1) ∧ (((-7) : Int32).toInt < 0 → cn.toInt = cn.toInt) from by (have k9 : ((-7) : Int32).toInt = -7 := (by decide); omega)), (show (((-7) : Int32).toInt < 0 ∧ kf = kf ∧ af = af ∧ tf = tf) ∨ (0 ≤ ((-7) : Int32).toInt ∧ kf = upd kf cn.toNatClampNeg ki ∧ af = upd af cn.toNatClampNeg a_ ∧ tf = upd tf cn.toNatClampNeg ta) from by (have k9 : ((-7) : Int32).toInt = -7 := (by decide); exact Or.inl ⟨by omega, rfl, rfl, rfl⟩)), trivial⟩, zRet ht hP hD [2, 3, 0, 1] (by decide) rfl⟩, hS.F ht⟩) hS.2.2 dX7_pull_61
            · exact absurd c_45 (by decide)
    · exact absurd c_15 (by decide)
set_option maxHeartbeats 4000000 in
set_option maxRecDepth 100000 in
theorem c_F_X_teeth (l : Launch) (D : va_G) (cI cJ cZ cP cS : ClassId) (po : zPool) (x0 xs j0 k0 w0 rd mv xr : Nat) (im lf : Int32) (fr : Nat → Int32) (j0 jp jc z0 zl zs : Nat) (cn de tr se hu sd : Int32) (sz at_ gp : Int32) (fl fs : Nat → Int32) (n : Int32) (hy0 : 0 ≤ im.toInt) (hy1 : im.toInt ≤ 1) (hy2 : (-1) ≤ lf.toInt) (hy3 : lf.toInt ≤ 160) (hy4 : 0 ≤ cn.toInt) (hy5 : cn.toInt ≤ 8) (hy6 : 0 ≤ de.toInt) (hy7 : de.toInt ≤ 24) (hy8 : 0 ≤ hu.toInt) (hy9 : hu.toInt ≤ 9) (hy10 : 4 ≤ sz.toInt) (hy11 : sz.toInt ≤ 40) (hy12 : 0 ≤ at_.toInt) (hy13 : at_.toInt ≤ 40) (hy14 : 1 ≤ gp.toInt) (hy15 : gp.toInt ≤ 9) (hp_fl : zRg fl (0) 1) (hp_fs : zRg fs (0) 9) (hpz : Nat) : Met l yX7_teeth wsX7_teeth ({ frames := 2, cells := 0, slots := 0, locals := 43 }) (va_Pc [.ref x0, .int n] (zW D (zKT cI cJ cZ cP cS) po [(x0, .inr (7, [.ref xs, .ref j0, .ref k0, .ref w0, .ref rd, .ref mv, .ref xr, .int im, .int lf])), (xr, .inl (cI, 8, .inl fr)), (j0, .inr (0, [.ref z0, .ref jp, .ref jc, .int cn, .int de, .int tr, .int se, .int hu, .int sd])), (z0, .inr (6, [.ref zl, .ref zs, .int sz, .int at_, .int gp])), (zl, .inl (cZ, 40, .inl fl)), (zs, .inl (cI, 40, .inl fs))] hpz)) (va_Qi (fun (r : Int32) (u : (Int32) × (Int32) × (Nat → Int32) × (Nat → Int32) × (Nat → Int32)) => (4 ≤ u.1.toInt ∧ u.1.toInt ≤ 40) ∧ (0 ≤ u.2.1.toInt ∧ u.2.1.toInt ≤ 40) ∧ zRg u.2.2.1 (0) 1 ∧ zRg u.2.2.2.1 (0) 9 ∧ (((4 ≤ n.toInt ∧ n.toInt ≤ 40) ∧ r.toInt = sz.toInt ∧ u.1.toInt = n.toInt) ∨ (¬ (4 ≤ n.toInt ∧ n.toInt ≤ 40) ∧ r.toInt = -6 ∧ u.1.toInt = sz.toInt)) ∧ (((4 ≤ n.toInt ∧ n.toInt ≤ 40) ∧ (∀ j : Nat, j < 40 → u.2.2.1 j = 0) ∧ (∀ j : Nat, j < 40 → u.2.2.2.1 j = 0) ∧ u.2.1.toInt = 0) ∨ (¬ (4 ≤ n.toInt ∧ n.toInt ≤ 40) ∧ u.2.2.1 = fl ∧ u.2.2.2.1 = fs ∧ u.2.1 = at_)) ∧ (True)) (zB D [(x0, .inr (7, [.ref xs, .ref j0, .ref k0, .ref w0, .ref rd, .ref mv, .ref xr, .int im, .int lf])), (xr, .inl (cI, 8, .inl fr)), (j0, .inr (0, [.ref z0, .ref jp, .ref jc, .int cn, .int de, .int tr, .int se, .int hu, .int sd])), (z0, .inr (6, [.ref zl, .ref zs, .int sz, .int at_, .int gp])), (zl, .inl (cZ, 40, .inl fl)), (zs, .inl (cI, 40, .inl fs))] hpz (fun (u : (Int32) × (Int32) × (Nat → Int32) × (Nat → Int32) × (Nat → Int32)) => [(x0, .inr (7, [.ref xs, .ref j0, .ref k0, .ref w0, .ref rd, .ref mv, .ref xr, .int im, .int lf])), (xr, .inl (cI, 8, .inl u.2.2.2.2)), (j0, .inr (0, [.ref z0, .ref jp, .ref jc, .int cn, .int de, .int tr, .int se, .int hu, .int sd])), (z0, .inr (6, [.ref zl, .ref zs, .int u.1, .int u.2.1, .int gp])), (zl, .inl (cZ, 40, .inl u.2.2.1)), (zs, .inl (cI, 40, .inl u.2.2.2.1))])) (va_A [(x0, .inr (7, [.ref xs, .ref j0, .ref k0, .ref w0, .ref rd, .ref mv, .ref xr, .int im, .int lf])), (xr, .inl (cI, 8, .inl fr)), (j0, .inr (0, [.ref z0, .ref jp, .ref jc, .int cn, .int de, .int tr, .int se, .int hu, .int sd])), (z0, .inr (6, [.ref zl, .ref zs, .int sz, .int at_, .int gp])), (zl, .inl (cZ, 40, .inl fl)), (zs, .inl (cI, 40, .inl fs))] hpz)) 0 0 (va_A [(x0, .inr (7, [.ref xs, .ref j0, .ref k0, .ref w0, .ref rd, .ref mv, .ref xr, .int im, .int lf])), (xr, .inl (cI, 8, .inl fr)), (j0, .inr (0, [.ref z0, .ref jp, .ref jc, .int cn, .int de, .int tr, .int se, .int hu, .int sd])), (z0, .inr (6, [.ref zl, .ref zs, .int sz, .int at_, .int gp])), (zl, .inl (cZ, 40, .inl fl)), (zs, .inl (cI, 40, .inl fs))] hpz) := by
  refine Met.ofW (cc := cX7_teeth) (maxL := 3) (ret := (some .int)) (by decide) rfl ?_
  intro p e s m args below meth c s₁ B hml hv
  obtain ⟨rfl, hsz, hP, hK, hD0, hN, hZ⟩ := hv
  have hx := B.exec
  have hb := B.bytes
  have hr := B.returns
  have hts := atoms_spec (ws := wsX7_teeth) B.pre
  have hown : s.vm.findClass RX7 = some m.cls := findClass_of_methodNamed B.named
  have hlocks := B.notSynchronized
  subst hsz
  have hD := hD0.self (sz := s.heap.size)
  have hA := zA_of hD
  have hl := lv_entry ([.ref x0, .int n]) (n := 3) (Nat.le_of_ble_eq_true rfl)
  rw [lg_entry_eq]
  generalize (lg_sl ([.ref x0, .int n]) ++ List.replicate (3 - (lg_sl ([.ref x0, .int n])).length) Slot.unset).toArray = ls at hl ⊢
  replace hl : lv_has ls 3 [(0, .ref x0), (1, .int n)] := hl
  refine zw_begin hP hD (fun H locs hP1 hS => ?_)
  clear hP
  have hP := hP1
  clear hP1
  refine lv_iload_n hx hb dX7_teeth_0 rfl (lv_at hl 1 rfl) ?_
  refine lv_iconst (v := 4) hx hb dX7_teeth_1 (by decide) ?_
  refine lv_bipush (v := 40) hx hb dX7_teeth_2 (by decide) ?_
  have kc4 : (4 : Int32).toInt = 4 := by decide
  have kc40 : (40 : Int32).toInt = 40 := by decide
  refine zc_S (As := [.int n, .int 4, .int 40]) (rest := []) ⟨hx, hb, hml, hown, hts⟩ (c_within l D cI cJ cZ cP cS po (n) (4) (40) ) (va_cwS 3 hts gX7_teeth_X7_within rfl rfl rfl dh_X7_within ⟨Nat.le_of_ble_eq_true rfl, Nat.le_of_ble_eq_true rfl⟩) hK hN (hZ.kept hS) rfl hl.1 rfl (Nat.le_of_ble_eq_true rfl) dX7_teeth_4 ⟨Nat.le_of_ble_eq_true rfl, Nat.le_of_ble_eq_true rfl⟩ (fun r_1 hr_1 => ?_)
  rcases hr_1 with ⟨rfl, g_2⟩ | ⟨rfl, g_3, g_4⟩ | ⟨rfl, g_5, g_6⟩
  · refine lv_if_ne (tgt := 17) hx hb dX7_teeth_7 (by decide) (fun c_7 => ?_) (fun c_7 => ?_)
    · exact absurd c_7 (by decide)
    · refine lv_aload_n hx hb dX7_teeth_10 rfl (lv_at hl 0 rfl) ?_
      refine lv_bipush (v := 6) hx hb dX7_teeth_11 (by decide) ?_
      skip
      refine zw_V (As := [.int 6]) (rest := []) (wr := [(j0, .inr (0, [.ref z0, .ref jp, .ref jc, .int cn, .int de, .int tr, .int se, .int hu, .int sd])), (z0, .inr (6, [.ref zl, .ref zs, .int sz, .int at_, .int gp])), (zl, .inl (cZ, 40, .inl fl)), (zs, .inl (cI, 40, .inl fs))]) ⟨hx, hb, hml, hown, hts⟩ (c_X_refuse_6 l D cI cJ cZ cP cS po x0 xs j0 k0 w0 rd mv xr (im) (lf) fr hy0 hy1 hy2 hy3 H.size) (cwV 1 hts gX7_teeth_X7_refuse rfl rfl rfl ⟨rfl, dh_X7_refuse⟩ ⟨Nat.le_of_ble_eq_true rfl, Nat.le_of_ble_eq_true rfl⟩) hK hN (hZ.kept hS) hP hD hS hA [0, 1] [2, 3, 4, 5] rfl rfl (by decide) (by decide) (by decide) (va_recv (q := (RX7, TX7, 9)) hK hP (ci := 7) (q0 := 0) rfl rfl) rfl hl.1 rfl (Nat.le_of_ble_eq_true rfl) dX7_teeth_13 ⟨Nat.le_of_ble_eq_true rfl, Nat.le_of_ble_eq_true rfl⟩ (fun r_8 u_9 H locs hr_8 hP hD hS => ?_)
      obtain ⟨q_10, rfl⟩ : ∃ z, z = u_9 := ⟨_, rfl⟩
      have h9R := zRe (ws' := [(j0, .inr (0, [.ref z0, .ref jp, .ref jc, .int cn, .int de, .int tr, .int se, .int hu, .int sd])), (z0, .inr (6, [.ref zl, .ref zs, .int sz, .int at_, .int gp])), (zl, .inl (cZ, 40, .inl fl)), (zs, .inl (cI, 40, .inl fs)), (x0, .inr (7, [.ref xs, .ref j0, .ref k0, .ref w0, .ref rd, .ref mv, .ref xr, .int im, .int lf])), (xr, .inl (cI, 8, .inl q_10))]) hP hD rfl
      clear hP hD
      obtain ⟨hP, hD⟩ := h9R
      obtain rfl := hr_8
      exact W.iret (v := (-6)) hx hb hr (fun t ht hW => ⟨⟨(-6), (sz, at_, fl, fs, q_10), rfl, ⟨(show 4 ≤ sz.toInt ∧ sz.toInt ≤ 40 from ⟨hy10, hy11⟩), (show 0 ≤ at_.toInt ∧ at_.toInt ≤ 40 from ⟨hy12, hy13⟩), hp_fl, hp_fs, (show ((4 ≤ n.toInt ∧ n.toInt ≤ 40) ∧ ((-6) : Int32).toInt = sz.toInt ∧ sz.toInt = n.toInt) ∨ (¬ (4 ≤ n.toInt ∧ n.toInt ≤ 40) ∧ ((-6) : Int32).toInt = -6 ∧ sz.toInt = sz.toInt) from by (have k9 : ((-6) : Int32).toInt = -6 := (by decide); omega)), (show ((4 ≤ n.toInt ∧ n.toInt ≤ 40) ∧ (∀ j : Nat, j < 40 → fl j = 0) ∧ (∀ j : Nat, j < 40 → fs j = 0) ∧ at_.toInt = 0) ∨ (¬ (4 ≤ n.toInt ∧ n.toInt ≤ 40) ∧ fl = fl ∧ fs = fs ∧ at_ = at_) from by (exact Or.inr ⟨by omega, rfl, rfl, rfl⟩)), trivial⟩, zRet ht hP hD [4, 5, 0, 1, 2, 3] (by decide) rfl⟩, hS.F ht⟩) hS.2.2 dX7_teeth_16
  · refine lv_if_ne (tgt := 17) hx hb dX7_teeth_7 (by decide) (fun c_11 => ?_) (fun c_11 => ?_)
    · exact absurd c_11 (by decide)
    · refine lv_aload_n hx hb dX7_teeth_10 rfl (lv_at hl 0 rfl) ?_
      refine lv_bipush (v := 6) hx hb dX7_teeth_11 (by decide) ?_
      skip
      refine zw_V (As := [.int 6]) (rest := []) (wr := [(j0, .inr (0, [.ref z0, .ref jp, .ref jc, .int cn, .int de, .int tr, .int se, .int hu, .int sd])), (z0, .inr (6, [.ref zl, .ref zs, .int sz, .int at_, .int gp])), (zl, .inl (cZ, 40, .inl fl)), (zs, .inl (cI, 40, .inl fs))]) ⟨hx, hb, hml, hown, hts⟩ (c_X_refuse_6 l D cI cJ cZ cP cS po x0 xs j0 k0 w0 rd mv xr (im) (lf) fr hy0 hy1 hy2 hy3 H.size) (cwV 1 hts gX7_teeth_X7_refuse rfl rfl rfl ⟨rfl, dh_X7_refuse⟩ ⟨Nat.le_of_ble_eq_true rfl, Nat.le_of_ble_eq_true rfl⟩) hK hN (hZ.kept hS) hP hD hS hA [0, 1] [2, 3, 4, 5] rfl rfl (by decide) (by decide) (by decide) (va_recv (q := (RX7, TX7, 9)) hK hP (ci := 7) (q0 := 0) rfl rfl) rfl hl.1 rfl (Nat.le_of_ble_eq_true rfl) dX7_teeth_13 ⟨Nat.le_of_ble_eq_true rfl, Nat.le_of_ble_eq_true rfl⟩ (fun r_12 u_13 H locs hr_12 hP hD hS => ?_)
      obtain ⟨q_14, rfl⟩ : ∃ z, z = u_13 := ⟨_, rfl⟩
      have h9R := zRe (ws' := [(j0, .inr (0, [.ref z0, .ref jp, .ref jc, .int cn, .int de, .int tr, .int se, .int hu, .int sd])), (z0, .inr (6, [.ref zl, .ref zs, .int sz, .int at_, .int gp])), (zl, .inl (cZ, 40, .inl fl)), (zs, .inl (cI, 40, .inl fs)), (x0, .inr (7, [.ref xs, .ref j0, .ref k0, .ref w0, .ref rd, .ref mv, .ref xr, .int im, .int lf])), (xr, .inl (cI, 8, .inl q_14))]) hP hD rfl
      clear hP hD
      obtain ⟨hP, hD⟩ := h9R
      obtain rfl := hr_12
      exact W.iret (v := (-6)) hx hb hr (fun t ht hW => ⟨⟨(-6), (sz, at_, fl, fs, q_14), rfl, ⟨(show 4 ≤ sz.toInt ∧ sz.toInt ≤ 40 from ⟨hy10, hy11⟩), (show 0 ≤ at_.toInt ∧ at_.toInt ≤ 40 from ⟨hy12, hy13⟩), hp_fl, hp_fs, (show ((4 ≤ n.toInt ∧ n.toInt ≤ 40) ∧ ((-6) : Int32).toInt = sz.toInt ∧ sz.toInt = n.toInt) ∨ (¬ (4 ≤ n.toInt ∧ n.toInt ≤ 40) ∧ ((-6) : Int32).toInt = -6 ∧ sz.toInt = sz.toInt) from by (have k9 : ((-6) : Int32).toInt = -6 := (by decide); omega)), (show ((4 ≤ n.toInt ∧ n.toInt ≤ 40) ∧ (∀ j : Nat, j < 40 → fl j = 0) ∧ (∀ j : Nat, j < 40 → fs j = 0) ∧ at_.toInt = 0) ∨ (¬ (4 ≤ n.toInt ∧ n.toInt ≤ 40) ∧ fl = fl ∧ fs = fs ∧ at_ = at_) from by (exact Or.inr ⟨by omega, rfl, rfl, rfl⟩)), trivial⟩, zRet ht hP hD [4, 5, 0, 1, 2, 3] (by decide) rfl⟩, hS.F ht⟩) hS.2.2 dX7_teeth_16
  · refine lv_if_ne (tgt := 17) hx hb dX7_teeth_7 (by decide) (fun c_15 => ?_) (fun c_15 => ?_)
    · refine lv_aload_n hx hb dX7_teeth_17 rfl (lv_at hl 0 rfl) ?_
      refine va_get (D := D) (ci := 7) (v := .ref j0) (C := RX7) (T := TX7) (N := 9) hx hb hts hi_X7_teeth_7 hown hK hP 0 rfl rfl 1 (by decide) (hts (.fieldLink RX7 18 "TheLiningsInIt" "now" "LTheLiningsInIt$Jacket;") (List.mem_of_getElem? (i := 1) rfl)) (fun _ h9 => h9) rfl dX7_teeth_18 ?_
      refine va_get (D := D) (ci := 0) (v := .ref z0) (C := RX0) (T := TX0) (N := 9) hx hb hts hi_X7_teeth_0 hown hK hP 2 rfl rfl 0 (by decide) (hts (.fieldLink RX7 140 "TheLiningsInIt$Jacket" "zip" "LTheLiningsInIt$Zip;") (List.mem_of_getElem? (i := 2) rfl)) (fun _ h9 => h9) rfl dX7_teeth_21 ?_
      refine va_get (D := D) (ci := 6) (v := .int sz) (C := RX6) (T := TX6) (N := 5) hx hb hts hi_X7_teeth_6 hown hK hP 3 rfl rfl 2 (by decide) (hts (.fieldLink RX7 144 "TheLiningsInIt$Zip" "size" "I") (List.mem_of_getElem? (i := 3) rfl)) (fun _ h9 => h9) rfl dX7_teeth_24 ?_
      refine lv_istore_n (lv' := [(2, .int sz), (0, .ref x0), (1, .int n)]) hx hb dX7_teeth_27 rfl hl (by decide) rfl (fun ls hl => ?_)
      refine lv_aload_n hx hb dX7_teeth_28 rfl (lv_at hl 1 rfl) ?_
      refine va_get (D := D) (ci := 7) (v := .ref j0) (C := RX7) (T := TX7) (N := 9) hx hb hts hi_X7_teeth_7 hown hK hP 0 rfl rfl 1 (by decide) (hts (.fieldLink RX7 18 "TheLiningsInIt" "now" "LTheLiningsInIt$Jacket;") (List.mem_of_getElem? (i := 1) rfl)) (fun _ h9 => h9) rfl dX7_teeth_29 ?_
      refine va_get (D := D) (ci := 0) (v := .ref z0) (C := RX0) (T := TX0) (N := 9) hx hb hts hi_X7_teeth_0 hown hK hP 2 rfl rfl 0 (by decide) (hts (.fieldLink RX7 140 "TheLiningsInIt$Jacket" "zip" "LTheLiningsInIt$Zip;") (List.mem_of_getElem? (i := 2) rfl)) (fun _ h9 => h9) rfl dX7_teeth_32 ?_
      refine lv_iload_n hx hb dX7_teeth_35 rfl (lv_at hl 2 rfl) ?_
      skip
      refine zw_Vv (As := [.int n]) (rest := []) (wr := [(x0, .inr (7, [.ref xs, .ref j0, .ref k0, .ref w0, .ref rd, .ref mv, .ref xr, .int im, .int lf])), (xr, .inl (cI, 8, .inl fr)), (j0, .inr (0, [.ref z0, .ref jp, .ref jc, .int cn, .int de, .int tr, .int se, .int hu, .int sd]))]) ⟨hx, hb, hml, hown, hts⟩ (c_F_Zip_renew l D cI cJ cZ cP cS po z0 zl zs (sz) (at_) (gp) fl fs (n) hy10 hy11 hy12 hy13 hy14 hy15 (by omega) (by omega) hp_fl hp_fs H.size) (cwV 1 hts gX7_teeth_X6_renew rfl rfl rfl ⟨rfl, dh_X6_renew⟩ ⟨Nat.le_of_ble_eq_true rfl, Nat.le_of_ble_eq_true rfl⟩) hK hN (hZ.kept hS) hP hD hS hA [3, 4, 5] [0, 1, 2] rfl rfl (by decide) (by decide) (by decide) (va_recv (q := (RX6, TX6, 5)) hK hP (ci := 6) (q0 := 3) rfl rfl) rfl hl.1 rfl (Nat.le_of_ble_eq_true rfl) dX7_teeth_36 ⟨Nat.le_of_ble_eq_true rfl, Nat.le_of_ble_eq_true rfl⟩ (fun u_17 H locs hr_16 hP hD hS => ?_)
      obtain ⟨q_18, q_19, q_20, q_21⟩ := u_17
      try dsimp only at hr_16
      obtain ⟨hbq_18, hbq_19, hpq_20, hpq_21, hsr_16_0, hsr_16_1, hsr_16_2, hsr_16_3, hr_16⟩ := hr_16
      have h9R := zRe (ws' := [(x0, .inr (7, [.ref xs, .ref j0, .ref k0, .ref w0, .ref rd, .ref mv, .ref xr, .int im, .int lf])), (xr, .inl (cI, 8, .inl fr)), (j0, .inr (0, [.ref z0, .ref jp, .ref jc, .int cn, .int de, .int tr, .int se, .int hu, .int sd])), (z0, .inr (6, [.ref zl, .ref zs, .int q_18, .int q_19, .int gp])), (zl, .inl (cZ, 40, .inl q_20)), (zs, .inl (cI, 40, .inl q_21))]) hP hD rfl
      clear hP hD
      obtain ⟨hP, hD⟩ := h9R
      refine lv_iload_n hx hb dX7_teeth_39 rfl (lv_at hl 0 rfl) ?_
      exact W.iret (v := sz) hx hb hr (fun t ht hW => ⟨⟨sz, (q_18, q_19, q_20, q_21, fr), rfl, ⟨(show 4 ≤ q_18.toInt ∧ q_18.toInt ≤ 40 from hbq_18), (show 0 ≤ q_19.toInt ∧ q_19.toInt ≤ 40 from hbq_19), hpq_20, hpq_21, (show ((4 ≤ n.toInt ∧ n.toInt ≤ 40) ∧ (sz : Int32).toInt = sz.toInt ∧ q_18.toInt = n.toInt) ∨ (¬ (4 ≤ n.toInt ∧ n.toInt ≤ 40) ∧ (sz : Int32).toInt = -6 ∧ q_18.toInt = sz.toInt) from by (exact Or.inl ⟨by omega, by omega, congrArg Int32.toInt hsr_16_0⟩)), (show ((4 ≤ n.toInt ∧ n.toInt ≤ 40) ∧ (∀ j : Nat, j < 40 → q_20 j = 0) ∧ (∀ j : Nat, j < 40 → q_21 j = 0) ∧ q_19.toInt = 0) ∨ (¬ (4 ≤ n.toInt ∧ n.toInt ≤ 40) ∧ q_20 = fl ∧ q_21 = fs ∧ q_19 = at_) from by (exact Or.inl ⟨by omega, hsr_16_1, hsr_16_2, hsr_16_3⟩)), trivial⟩, zRet ht hP hD [0, 1, 2, 3, 4, 5] (by decide) rfl⟩, hS.F ht⟩) hS.2.2 dX7_teeth_40
    · exact absurd c_15 (by decide)
set_option maxHeartbeats 4000000 in
set_option maxRecDepth 100000 in
theorem c_F_Zip_become (l : Launch) (D : va_G) (cI cJ cZ cP cS : ClassId) (po : zPool) (kz kzl kzs z0 zl zs : Nat) (ksz kat kgp sz at_ gp : Int32) (kfl kfs fl fs : Nat → Int32) (hy0 : 4 ≤ ksz.toInt) (hy1 : ksz.toInt ≤ 40) (hy2 : 0 ≤ kat.toInt) (hy3 : kat.toInt ≤ 40) (hy4 : 1 ≤ kgp.toInt) (hy5 : kgp.toInt ≤ 9) (hy6 : 4 ≤ sz.toInt) (hy7 : sz.toInt ≤ 40) (hy8 : 0 ≤ at_.toInt) (hy9 : at_.toInt ≤ 40) (hy10 : 1 ≤ gp.toInt) (hy11 : gp.toInt ≤ 9) (hp_kfl : zRg kfl (0) 1) (hp_kfs : zRg kfs (0) 9) (hp_fl : zRg fl (0) 1) (hp_fs : zRg fs (0) 9) (hpz : Nat) : Met l yX6_become wsX6_become ({ frames := 0, cells := 0, slots := 0, locals := 0 }) (va_Pc [.ref kz, .ref z0] (zW D (zKT cI cJ cZ cP cS) po [(kz, .inr (6, [.ref kzl, .ref kzs, .int ksz, .int kat, .int kgp])), (kzl, .inl (cZ, 40, .inl kfl)), (kzs, .inl (cI, 40, .inl kfs)), (z0, .inr (6, [.ref zl, .ref zs, .int sz, .int at_, .int gp])), (zl, .inl (cZ, 40, .inl fl)), (zs, .inl (cI, 40, .inl fs))] hpz)) (va_Qv (fun (u : (Int32) × (Int32) × (Int32) × (Nat → Int32) × (Nat → Int32)) => (4 ≤ u.1.toInt ∧ u.1.toInt ≤ 40) ∧ (0 ≤ u.2.1.toInt ∧ u.2.1.toInt ≤ 40) ∧ (1 ≤ u.2.2.1.toInt ∧ u.2.2.1.toInt ≤ 9) ∧ zRg u.2.2.2.1 (0) 1 ∧ zRg u.2.2.2.2 (0) 9 ∧ (u.1 = sz) ∧ ((u.2.1 = at_ ∧ u.2.2.1 = gp)) ∧ ((∀ j : Nat, j < 40 → u.2.2.2.1 j = fl j)) ∧ ((∀ j : Nat, j < 40 → u.2.2.2.2 j = fs j)) ∧ (True)) (zB D [(kz, .inr (6, [.ref kzl, .ref kzs, .int ksz, .int kat, .int kgp])), (kzl, .inl (cZ, 40, .inl kfl)), (kzs, .inl (cI, 40, .inl kfs)), (z0, .inr (6, [.ref zl, .ref zs, .int sz, .int at_, .int gp])), (zl, .inl (cZ, 40, .inl fl)), (zs, .inl (cI, 40, .inl fs))] hpz (fun (u : (Int32) × (Int32) × (Int32) × (Nat → Int32) × (Nat → Int32)) => [(kz, .inr (6, [.ref kzl, .ref kzs, .int u.1, .int u.2.1, .int u.2.2.1])), (kzl, .inl (cZ, 40, .inl u.2.2.2.1)), (kzs, .inl (cI, 40, .inl u.2.2.2.2)), (z0, .inr (6, [.ref zl, .ref zs, .int sz, .int at_, .int gp])), (zl, .inl (cZ, 40, .inl fl)), (zs, .inl (cI, 40, .inl fs))])) (va_A [(kz, .inr (6, [.ref kzl, .ref kzs, .int ksz, .int kat, .int kgp])), (kzl, .inl (cZ, 40, .inl kfl)), (kzs, .inl (cI, 40, .inl kfs)), (z0, .inr (6, [.ref zl, .ref zs, .int sz, .int at_, .int gp])), (zl, .inl (cZ, 40, .inl fl)), (zs, .inl (cI, 40, .inl fs))] hpz)) 0 0 (va_A [(kz, .inr (6, [.ref kzl, .ref kzs, .int ksz, .int kat, .int kgp])), (kzl, .inl (cZ, 40, .inl kfl)), (kzs, .inl (cI, 40, .inl kfs)), (z0, .inr (6, [.ref zl, .ref zs, .int sz, .int at_, .int gp])), (zl, .inl (cZ, 40, .inl fl)), (zs, .inl (cI, 40, .inl fs))] hpz) := by
  refine Met.ofW (cc := cX6_become) (maxL := 3) (ret := none) (by decide) rfl ?_
  intro p e s m args below meth c s₁ B hml hv
  obtain ⟨rfl, hsz, hP, hK, hD0, hN, hZ⟩ := hv
  have hx := B.exec
  have hb := B.bytes
  have hr := B.returns
  have hts := atoms_spec (ws := wsX6_become) B.pre
  have hown : s.vm.findClass RX6 = some m.cls := findClass_of_methodNamed B.named
  have hlocks := B.notSynchronized
  subst hsz
  have hD := hD0.self (sz := s.heap.size)
  have hA := zA_of hD
  have hl := lv_entry ([.ref kz, .ref z0]) (n := 3) (Nat.le_of_ble_eq_true rfl)
  rw [lg_entry_eq]
  generalize (lg_sl ([.ref kz, .ref z0]) ++ List.replicate (3 - (lg_sl ([.ref kz, .ref z0])).length) Slot.unset).toArray = ls at hl ⊢
  replace hl : lv_has ls 3 [(0, .ref kz), (1, .ref z0)] := hl
  refine zw_begin hP hD (fun H locs hP1 hS => ?_)
  clear hP
  have hP := hP1
  clear hP1
  refine lv_iconst (v := 0) hx hb dX6_become_0 (by decide) ?_
  refine lv_istore_n (lv' := [(2, .int 0), (0, .ref kz), (1, .ref z0)]) hx hb dX6_become_1 rfl hl (by decide) rfl (fun ls hl => ?_)
  obtain ⟨i_2, hi_2⟩ : ∃ i : Int32, i = 0 := ⟨_, rfl⟩
  replace hl : lv_has ls 3 [(2, .int i_2), (0, .ref kz), (1, .ref z0)] := by rw [hi_2]; exact lv_sub hl [0, 1, 2] rfl
  have h1i_2 : i_2.toInt = 0 := by rw [hi_2]; decide
  obtain ⟨nfu, hni_2⟩ : ∃ nq9 : Nat, 40 ≤ i_2.toInt + (nq9 : Int) := ⟨((40 : Int) - 0).toNat, by omega⟩
  have hloi_2 : 0 ≤ i_2.toInt := by omega
  obtain ⟨g_1, hg_1⟩ : ∃ g : Nat → Int32, g = kfl := ⟨_, rfl⟩
  have hpg_1 : zRg g_1 (0) 1 := by rw [hg_1]; exact hp_kfl
  obtain ⟨g_2, hg_2⟩ : ∃ g : Nat → Int32, g = kfs := ⟨_, rfl⟩
  have hpg_2 : zRg g_2 (0) 9 := by rw [hg_2]; exact hp_kfs
  replace hP : va_P D vwCl [(kz, .inr (6, [.ref kzl, .ref kzs, .int ksz, .int kat, .int kgp])), (kzl, .inl (cZ, 40, .inl g_1)), (kzs, .inl (cI, 40, .inl g_2)), (z0, .inr (6, [.ref zl, .ref zs, .int sz, .int at_, .int gp])), (zl, .inl (cZ, 40, .inl fl)), (zs, .inl (cI, 40, .inl fs))] H := by rw [hg_1, hg_2]; exact hP
  replace hD : va_D (va_A [(kz, .inr (6, [.ref kzl, .ref kzs, .int ksz, .int kat, .int kgp])), (kzl, .inl (cZ, 40, .inl kfl)), (kzs, .inl (cI, 40, .inl kfs)), (z0, .inr (6, [.ref zl, .ref zs, .int sz, .int at_, .int gp])), (zl, .inl (cZ, 40, .inl fl)), (zs, .inl (cI, 40, .inl fs))] s.heap.size) [(kz, .inr (6, [.ref kzl, .ref kzs, .int ksz, .int kat, .int kgp])), (kzl, .inl (cZ, 40, .inl g_1)), (kzs, .inl (cI, 40, .inl g_2)), (z0, .inr (6, [.ref zl, .ref zs, .int sz, .int at_, .int gp])), (zl, .inl (cZ, 40, .inl fl)), (zs, .inl (cI, 40, .inl fs))] := by rw [hg_1, hg_2]; exact hD
  have hvi_2_0 : (∀ j : Nat, (j : Int) < i_2.toInt → g_1 j = fl j) := by
    (try rw [hi_2]); (try rw [hg_1]); (try rw [hg_2]); (intro j hj; exfalso; have k0 : (0 : Int32).toInt = 0 := (by decide); omega)
  have hvi_2_1 : (∀ j : Nat, (j : Int) < i_2.toInt → g_2 j = fs j) := by
    (try rw [hi_2]); (try rw [hg_1]); (try rw [hg_2]); (intro j hj; exfalso; have k0 : (0 : Int32).toInt = 0 := (by decide); omega)
  clear h1i_2 hi_2 hg_1 hg_2
  skip
  revert hni_2
  revert hloi_2
  revert hvi_2_1
  revert hvi_2_0
  revert hpg_2
  revert hpg_1
  revert hl
  revert hS
  revert hD
  revert hP
  revert ls
  revert locs
  revert H
  revert g_1
  revert g_2
  revert i_2
  induction nfu with
  | zero =>
    intro i_2 g_2 g_1 H locs ls hP hD hS hl hpg_1 hpg_2 hvi_2_0 hvi_2_1 hloi_2 hni_2
    have hzi_2 : 40 ≤ i_2.toInt := by omega
    refine lv_iload_n hx hb dX6_become_2 rfl (lv_at hl 0 rfl) ?_
    refine lv_bipush (v := 40) hx hb dX6_become_3 (by decide) ?_
    refine lv_icmp_ge (tgt := 38) hx hb dX6_become_5 (by decide) (fun c_3 => ?_) (fun c_3 => ?_)
    · have fc_3 : 40 ≤ i_2.toInt := zf_le c_3 (by decide) rfl
      refine lv_aload_n hx hb dX6_become_38 rfl (lv_at hl 1 rfl) ?_
      refine lv_aload_n hx hb dX6_become_39 rfl (lv_at hl 2 rfl) ?_
      refine va_get (D := D) (ci := 6) (v := .int sz) (C := RX6) (T := TX6) (N := 5) hx hb hts hi_X6_become_6 hown hK hP 3 rfl rfl 2 (by decide) (hts (.fieldLink RX6 19 "TheLiningsInIt$Zip" "size" "I") (List.mem_of_getElem? (i := 3) rfl)) (fun _ h9 => h9) rfl dX6_become_40 ?_
      refine va_put (D := D) (ci := 6) (v := .int sz) (ty := .int) (C := RX6) (T := TX6) (N := 5) hx hb hts hi_X6_become_6 tyX6 tyX6_ok nmX6 hown hK hP hD hS 0 rfl rfl 2 (by decide) (hts (.fieldLink RX6 19 "TheLiningsInIt$Zip" "size" "I") (List.mem_of_getElem? (i := 3) rfl)) (fun _ h9 => h9) rfl (tyX6_ok 2 (Nat.le_of_ble_eq_true rfl)) rfl rfl (Nat.le_of_ble_eq_true rfl) dX6_become_43 (fun H locs hP hD hS => ?_)
      have h9R := zRe (ws' := [(kz, .inr (6, [.ref kzl, .ref kzs, .int sz, .int kat, .int kgp])), (kzl, .inl (cZ, 40, .inl g_1)), (kzs, .inl (cI, 40, .inl g_2)), (z0, .inr (6, [.ref zl, .ref zs, .int sz, .int at_, .int gp])), (zl, .inl (cZ, 40, .inl fl)), (zs, .inl (cI, 40, .inl fs))]) hP hD rfl
      clear hP hD
      obtain ⟨hP, hD⟩ := h9R
      refine lv_aload_n hx hb dX6_become_46 rfl (lv_at hl 1 rfl) ?_
      refine lv_aload_n hx hb dX6_become_47 rfl (lv_at hl 2 rfl) ?_
      refine va_get (D := D) (ci := 6) (v := .int at_) (C := RX6) (T := TX6) (N := 5) hx hb hts hi_X6_become_6 hown hK hP 3 rfl rfl 3 (by decide) (hts (.fieldLink RX6 23 "TheLiningsInIt$Zip" "at" "I") (List.mem_of_getElem? (i := 4) rfl)) (fun _ h9 => h9) rfl dX6_become_48 ?_
      refine va_put (D := D) (ci := 6) (v := .int at_) (ty := .int) (C := RX6) (T := TX6) (N := 5) hx hb hts hi_X6_become_6 tyX6 tyX6_ok nmX6 hown hK hP hD hS 0 rfl rfl 3 (by decide) (hts (.fieldLink RX6 23 "TheLiningsInIt$Zip" "at" "I") (List.mem_of_getElem? (i := 4) rfl)) (fun _ h9 => h9) rfl (tyX6_ok 3 (Nat.le_of_ble_eq_true rfl)) rfl rfl (Nat.le_of_ble_eq_true rfl) dX6_become_51 (fun H locs hP hD hS => ?_)
      have h9R := zRe (ws' := [(kz, .inr (6, [.ref kzl, .ref kzs, .int sz, .int at_, .int kgp])), (kzl, .inl (cZ, 40, .inl g_1)), (kzs, .inl (cI, 40, .inl g_2)), (z0, .inr (6, [.ref zl, .ref zs, .int sz, .int at_, .int gp])), (zl, .inl (cZ, 40, .inl fl)), (zs, .inl (cI, 40, .inl fs))]) hP hD rfl
      clear hP hD
      obtain ⟨hP, hD⟩ := h9R
      refine lv_aload_n hx hb dX6_become_54 rfl (lv_at hl 1 rfl) ?_
      refine lv_aload_n hx hb dX6_become_55 rfl (lv_at hl 2 rfl) ?_
      refine va_get (D := D) (ci := 6) (v := .int gp) (C := RX6) (T := TX6) (N := 5) hx hb hts hi_X6_become_6 hown hK hP 3 rfl rfl 4 (by decide) (hts (.fieldLink RX6 26 "TheLiningsInIt$Zip" "gap" "I") (List.mem_of_getElem? (i := 5) rfl)) (fun _ h9 => h9) rfl dX6_become_56 ?_
      refine va_put (D := D) (ci := 6) (v := .int gp) (ty := .int) (C := RX6) (T := TX6) (N := 5) hx hb hts hi_X6_become_6 tyX6 tyX6_ok nmX6 hown hK hP hD hS 0 rfl rfl 4 (by decide) (hts (.fieldLink RX6 26 "TheLiningsInIt$Zip" "gap" "I") (List.mem_of_getElem? (i := 5) rfl)) (fun _ h9 => h9) rfl (tyX6_ok 4 (Nat.le_of_ble_eq_true rfl)) rfl rfl (Nat.le_of_ble_eq_true rfl) dX6_become_59 (fun H locs hP hD hS => ?_)
      have h9R := zRe (ws' := [(kz, .inr (6, [.ref kzl, .ref kzs, .int sz, .int at_, .int gp])), (kzl, .inl (cZ, 40, .inl g_1)), (kzs, .inl (cI, 40, .inl g_2)), (z0, .inr (6, [.ref zl, .ref zs, .int sz, .int at_, .int gp])), (zl, .inl (cZ, 40, .inl fl)), (zs, .inl (cI, 40, .inl fs))]) hP hD rfl
      clear hP hD
      obtain ⟨hP, hD⟩ := h9R
      exact W.vret hx hb hr (fun t ht hW => ⟨⟨(sz, at_, gp, g_1, g_2), rfl, ⟨(show 4 ≤ sz.toInt ∧ sz.toInt ≤ 40 from ⟨hy6, hy7⟩), (show 0 ≤ at_.toInt ∧ at_.toInt ≤ 40 from ⟨hy8, hy9⟩), (show 1 ≤ gp.toInt ∧ gp.toInt ≤ 9 from ⟨hy10, hy11⟩), hpg_1, hpg_2, (show sz = sz from by rfl), (show (at_ = at_ ∧ gp = gp) from by exact ⟨rfl, rfl⟩), (show (∀ j : Nat, j < 40 → g_1 j = fl j) from by (intro j hj; exact hvi_2_0 j (by omega))), (show (∀ j : Nat, j < 40 → g_2 j = fs j) from by (intro j hj; exact hvi_2_1 j (by omega))), trivial⟩, zRet ht hP hD [0, 1, 2, 3, 4, 5] (by decide) rfl⟩, hS.F ht⟩) hS.2.2 dX6_become_62
    · exfalso; have fc_3 : i_2.toInt < 40 := zf_nle c_3 (by decide) rfl; omega
  | succ nfu ih =>
    intro i_2 g_2 g_1 H locs ls hP hD hS hl hpg_1 hpg_2 hvi_2_0 hvi_2_1 hloi_2 hni_2
    refine lv_iload_n hx hb dX6_become_2 rfl (lv_at hl 0 rfl) ?_
    refine lv_bipush (v := 40) hx hb dX6_become_3 (by decide) ?_
    refine lv_icmp_ge (tgt := 38) hx hb dX6_become_5 (by decide) (fun c_4 => ?_) (fun c_4 => ?_)
    · have fc_4 : 40 ≤ i_2.toInt := zf_le c_4 (by decide) rfl
      refine lv_aload_n hx hb dX6_become_38 rfl (lv_at hl 1 rfl) ?_
      refine lv_aload_n hx hb dX6_become_39 rfl (lv_at hl 2 rfl) ?_
      refine va_get (D := D) (ci := 6) (v := .int sz) (C := RX6) (T := TX6) (N := 5) hx hb hts hi_X6_become_6 hown hK hP 3 rfl rfl 2 (by decide) (hts (.fieldLink RX6 19 "TheLiningsInIt$Zip" "size" "I") (List.mem_of_getElem? (i := 3) rfl)) (fun _ h9 => h9) rfl dX6_become_40 ?_
      refine va_put (D := D) (ci := 6) (v := .int sz) (ty := .int) (C := RX6) (T := TX6) (N := 5) hx hb hts hi_X6_become_6 tyX6 tyX6_ok nmX6 hown hK hP hD hS 0 rfl rfl 2 (by decide) (hts (.fieldLink RX6 19 "TheLiningsInIt$Zip" "size" "I") (List.mem_of_getElem? (i := 3) rfl)) (fun _ h9 => h9) rfl (tyX6_ok 2 (Nat.le_of_ble_eq_true rfl)) rfl rfl (Nat.le_of_ble_eq_true rfl) dX6_become_43 (fun H locs hP hD hS => ?_)
      have h9R := zRe (ws' := [(kz, .inr (6, [.ref kzl, .ref kzs, .int sz, .int kat, .int kgp])), (kzl, .inl (cZ, 40, .inl g_1)), (kzs, .inl (cI, 40, .inl g_2)), (z0, .inr (6, [.ref zl, .ref zs, .int sz, .int at_, .int gp])), (zl, .inl (cZ, 40, .inl fl)), (zs, .inl (cI, 40, .inl fs))]) hP hD rfl
      clear hP hD
      obtain ⟨hP, hD⟩ := h9R
      refine lv_aload_n hx hb dX6_become_46 rfl (lv_at hl 1 rfl) ?_
      refine lv_aload_n hx hb dX6_become_47 rfl (lv_at hl 2 rfl) ?_
      refine va_get (D := D) (ci := 6) (v := .int at_) (C := RX6) (T := TX6) (N := 5) hx hb hts hi_X6_become_6 hown hK hP 3 rfl rfl 3 (by decide) (hts (.fieldLink RX6 23 "TheLiningsInIt$Zip" "at" "I") (List.mem_of_getElem? (i := 4) rfl)) (fun _ h9 => h9) rfl dX6_become_48 ?_
      refine va_put (D := D) (ci := 6) (v := .int at_) (ty := .int) (C := RX6) (T := TX6) (N := 5) hx hb hts hi_X6_become_6 tyX6 tyX6_ok nmX6 hown hK hP hD hS 0 rfl rfl 3 (by decide) (hts (.fieldLink RX6 23 "TheLiningsInIt$Zip" "at" "I") (List.mem_of_getElem? (i := 4) rfl)) (fun _ h9 => h9) rfl (tyX6_ok 3 (Nat.le_of_ble_eq_true rfl)) rfl rfl (Nat.le_of_ble_eq_true rfl) dX6_become_51 (fun H locs hP hD hS => ?_)
      have h9R := zRe (ws' := [(kz, .inr (6, [.ref kzl, .ref kzs, .int sz, .int at_, .int kgp])), (kzl, .inl (cZ, 40, .inl g_1)), (kzs, .inl (cI, 40, .inl g_2)), (z0, .inr (6, [.ref zl, .ref zs, .int sz, .int at_, .int gp])), (zl, .inl (cZ, 40, .inl fl)), (zs, .inl (cI, 40, .inl fs))]) hP hD rfl
      clear hP hD
      obtain ⟨hP, hD⟩ := h9R
      refine lv_aload_n hx hb dX6_become_54 rfl (lv_at hl 1 rfl) ?_
      refine lv_aload_n hx hb dX6_become_55 rfl (lv_at hl 2 rfl) ?_
      refine va_get (D := D) (ci := 6) (v := .int gp) (C := RX6) (T := TX6) (N := 5) hx hb hts hi_X6_become_6 hown hK hP 3 rfl rfl 4 (by decide) (hts (.fieldLink RX6 26 "TheLiningsInIt$Zip" "gap" "I") (List.mem_of_getElem? (i := 5) rfl)) (fun _ h9 => h9) rfl dX6_become_56 ?_
      refine va_put (D := D) (ci := 6) (v := .int gp) (ty := .int) (C := RX6) (T := TX6) (N := 5) hx hb hts hi_X6_become_6 tyX6 tyX6_ok nmX6 hown hK hP hD hS 0 rfl rfl 4 (by decide) (hts (.fieldLink RX6 26 "TheLiningsInIt$Zip" "gap" "I") (List.mem_of_getElem? (i := 5) rfl)) (fun _ h9 => h9) rfl (tyX6_ok 4 (Nat.le_of_ble_eq_true rfl)) rfl rfl (Nat.le_of_ble_eq_true rfl) dX6_become_59 (fun H locs hP hD hS => ?_)
      have h9R := zRe (ws' := [(kz, .inr (6, [.ref kzl, .ref kzs, .int sz, .int at_, .int gp])), (kzl, .inl (cZ, 40, .inl g_1)), (kzs, .inl (cI, 40, .inl g_2)), (z0, .inr (6, [.ref zl, .ref zs, .int sz, .int at_, .int gp])), (zl, .inl (cZ, 40, .inl fl)), (zs, .inl (cI, 40, .inl fs))]) hP hD rfl
      clear hP hD
      obtain ⟨hP, hD⟩ := h9R
      exact W.vret hx hb hr (fun t ht hW => ⟨⟨(sz, at_, gp, g_1, g_2), rfl, ⟨(show 4 ≤ sz.toInt ∧ sz.toInt ≤ 40 from ⟨hy6, hy7⟩), (show 0 ≤ at_.toInt ∧ at_.toInt ≤ 40 from ⟨hy8, hy9⟩), (show 1 ≤ gp.toInt ∧ gp.toInt ≤ 9 from ⟨hy10, hy11⟩), hpg_1, hpg_2, (show sz = sz from by rfl), (show (at_ = at_ ∧ gp = gp) from by exact ⟨rfl, rfl⟩), (show (∀ j : Nat, j < 40 → g_1 j = fl j) from by (intro j hj; exact hvi_2_0 j (by omega))), (show (∀ j : Nat, j < 40 → g_2 j = fs j) from by (intro j hj; exact hvi_2_1 j (by omega))), trivial⟩, zRet ht hP hD [0, 1, 2, 3, 4, 5] (by decide) rfl⟩, hS.F ht⟩) hS.2.2 dX6_become_62
    · have fc_4 : i_2.toInt < 40 := zf_nle c_4 (by decide) rfl
      refine lv_aload_n hx hb dX6_become_8 rfl (lv_at hl 1 rfl) ?_
      refine va_get (D := D) (ci := 6) (v := .ref kzl) (C := RX6) (T := TX6) (N := 5) hx hb hts hi_X6_become_6 hown hK hP 0 rfl rfl 0 (by decide) (hts (.fieldLink RX6 9 "TheLiningsInIt$Zip" "lacking" "[Z") (List.mem_of_getElem? (i := 1) rfl)) (fun _ h9 => h9) rfl dX6_become_9 ?_
      refine lv_iload_n hx hb dX6_become_12 rfl (lv_at hl 0 rfl) ?_
      refine lv_aload_n hx hb dX6_become_13 rfl (lv_at hl 2 rfl) ?_
      refine va_get (D := D) (ci := 6) (v := .ref zl) (C := RX6) (T := TX6) (N := 5) hx hb hts hi_X6_become_6 hown hK hP 3 rfl rfl 0 (by decide) (hts (.fieldLink RX6 9 "TheLiningsInIt$Zip" "lacking" "[Z") (List.mem_of_getElem? (i := 1) rfl)) (fun _ h9 => h9) rfl dX6_become_14 ?_
      refine lv_iload_n hx hb dX6_become_17 rfl (lv_at hl 0 rfl) ?_
      refine va_zald hx hb hK hP 4 2 rfl rfl (zf_in (by omega) (by omega)) dX6_become_18 ?_
      refine lv_topi (fun x_5 ex_5 => ?_)
      have bx_5 : 0 ≤ x_5.toInt ∧ x_5.toInt ≤ 1 := by rw [ex_5]; exact hp_fl _
      refine va_zast hx hb hK hP hD hS 1 2 rfl rfl (zf_in (by omega) (by omega)) dX6_become_19 (fun H locs hP hD hS => ?_)
      rw [zNarZ (by omega) (by omega)] at hP hD
      have hpg_6 : zRg (upd g_1 i_2.toNatClampNeg x_5) (0) 1 := zRg_upd hpg_1 (by omega) (by omega)
      obtain ⟨g_6, hg_6⟩ : ∃ g : Nat → Int32, g = upd g_1 i_2.toNatClampNeg x_5 := ⟨_, rfl⟩
      rw [← hg_6] at hP hD hpg_6
      have h9R := zRe (ws' := [(kz, .inr (6, [.ref kzl, .ref kzs, .int ksz, .int kat, .int kgp])), (kzl, .inl (cZ, 40, .inl g_6)), (kzs, .inl (cI, 40, .inl g_2)), (z0, .inr (6, [.ref zl, .ref zs, .int sz, .int at_, .int gp])), (zl, .inl (cZ, 40, .inl fl)), (zs, .inl (cI, 40, .inl fs))]) hP hD rfl
      clear hP hD
      obtain ⟨hP, hD⟩ := h9R
      refine lv_aload_n hx hb dX6_become_20 rfl (lv_at hl 1 rfl) ?_
      refine va_get (D := D) (ci := 6) (v := .ref kzs) (C := RX6) (T := TX6) (N := 5) hx hb hts hi_X6_become_6 hown hK hP 0 rfl rfl 1 (by decide) (hts (.fieldLink RX6 15 "TheLiningsInIt$Zip" "slacks" "[I") (List.mem_of_getElem? (i := 2) rfl)) (fun _ h9 => h9) rfl dX6_become_21 ?_
      refine lv_iload_n hx hb dX6_become_24 rfl (lv_at hl 0 rfl) ?_
      refine lv_aload_n hx hb dX6_become_25 rfl (lv_at hl 2 rfl) ?_
      refine va_get (D := D) (ci := 6) (v := .ref zs) (C := RX6) (T := TX6) (N := 5) hx hb hts hi_X6_become_6 hown hK hP 3 rfl rfl 1 (by decide) (hts (.fieldLink RX6 15 "TheLiningsInIt$Zip" "slacks" "[I") (List.mem_of_getElem? (i := 2) rfl)) (fun _ h9 => h9) rfl dX6_become_26 ?_
      refine lv_iload_n hx hb dX6_become_29 rfl (lv_at hl 0 rfl) ?_
      refine va_iald hx hb hK hP 5 0 rfl rfl (zf_in (by omega) (by omega)) dX6_become_30 ?_
      refine lv_topi (fun x_7 ex_7 => ?_)
      have bx_7 : 0 ≤ x_7.toInt ∧ x_7.toInt ≤ 9 := by rw [ex_7]; exact hp_fs _
      refine va_iast hx hb hK hP hD hS 2 0 rfl rfl (zf_in (by omega) (by omega)) dX6_become_31 (fun H locs hP hD hS => ?_)
      have hpg_8 : zRg (upd g_2 i_2.toNatClampNeg x_7) (0) 9 := zRg_upd hpg_2 (by omega) (by omega)
      obtain ⟨g_8, hg_8⟩ : ∃ g : Nat → Int32, g = upd g_2 i_2.toNatClampNeg x_7 := ⟨_, rfl⟩
      rw [← hg_8] at hP hD hpg_8
      have h9R := zRe (ws' := [(kz, .inr (6, [.ref kzl, .ref kzs, .int ksz, .int kat, .int kgp])), (kzl, .inl (cZ, 40, .inl g_6)), (kzs, .inl (cI, 40, .inl g_8)), (z0, .inr (6, [.ref zl, .ref zs, .int sz, .int at_, .int gp])), (zl, .inl (cZ, 40, .inl fl)), (zs, .inl (cI, 40, .inl fs))]) hP hD rfl
      clear hP hD
      obtain ⟨hP, hD⟩ := h9R
      obtain ⟨x_9, ex_9⟩ : ∃ y : Int32, y = i_2 + 1 := ⟨_, rfl⟩
      have qx_9 : x_9.toInt = i_2.toInt + 1 := dw_incK ex_9 fc_4 (by decide)
      refine lv_iinc (v := x_9) (lv' := [(2, .int x_9), (0, .ref kz), (1, .ref z0)]) hx hb dX6_become_32 hl (k := 0) rfl ex_9.symm (by decide) rfl (fun ls hl => ?_)
      refine lv_goto (tgt := 2) hx hb dX6_become_35 (by decide) ?_
      exact ih x_9 (g_8) (g_6) _ _ _ (hP.sub [0, 1, 2, 3, 4, 5] rfl) (hD.sub [0, 1, 2, 3, 4, 5] (by decide) rfl) hS (lv_sub hl [0, 1, 2] rfl) hpg_6 hpg_8 (show (∀ j : Nat, (j : Int) < x_9.toInt → g_6 j = fl j) from by (intro j hj; rw [hg_6]; simp only [upd]; have h7 : i_2.toNatClampNeg = i_2.toInt.toNat := rfl; by_cases e9 : j = i_2.toNatClampNeg; (rw [if_pos e9, ex_5, e9]); (rw [if_neg e9]; exact hvi_2_0 j (by omega)))) (show (∀ j : Nat, (j : Int) < x_9.toInt → g_8 j = fs j) from by (intro j hj; rw [hg_8]; simp only [upd]; have h7 : i_2.toNatClampNeg = i_2.toInt.toNat := rfl; by_cases e9 : j = i_2.toNatClampNeg; (rw [if_pos e9, ex_7, e9]); (rw [if_neg e9]; exact hvi_2_1 j (by omega)))) (dw_lo hloi_2 qx_9) (dw_hn hni_2 qx_9)
set_option maxHeartbeats 4000000 in
set_option maxRecDepth 100000 in
theorem c_F_J_become (l : Launch) (D : va_G) (cI cJ cZ cP cS : ClassId) (po : zPool) (k0 kp kc kz kzl kzs : Nat) (kcn kde ktr kse khu ksd : Int32) (ksz kat kgp : Int32) (kfl kfs : Nat → Int32) (fkp : Nat → Option Nat) (fkc : Nat → Int32) (j0 jp jc z0 zl zs : Nat) (cn de tr se hu sd : Int32) (sz at_ gp : Int32) (fl fs : Nat → Int32) (fp : Nat → Option Nat) (kf af tf : Nat → Int32) (fc : Nat → Int32) (hy0 : 0 ≤ kcn.toInt) (hy1 : kcn.toInt ≤ 8) (hy2 : 0 ≤ kde.toInt) (hy3 : kde.toInt ≤ 24) (hy4 : 0 ≤ khu.toInt) (hy5 : khu.toInt ≤ 9) (hy6 : 4 ≤ ksz.toInt) (hy7 : ksz.toInt ≤ 40) (hy8 : 0 ≤ kat.toInt) (hy9 : kat.toInt ≤ 40) (hy10 : 1 ≤ kgp.toInt) (hy11 : kgp.toInt ≤ 9) (hy12 : 0 ≤ cn.toInt) (hy13 : cn.toInt ≤ 8) (hy14 : 0 ≤ de.toInt) (hy15 : de.toInt ≤ 24) (hy16 : 0 ≤ hu.toInt) (hy17 : hu.toInt ≤ 9) (hy18 : 4 ≤ sz.toInt) (hy19 : sz.toInt ≤ 40) (hy20 : 0 ≤ at_.toInt) (hy21 : at_.toInt ≤ 40) (hy22 : 1 ≤ gp.toInt) (hy23 : gp.toInt ≤ 9) (hkwp : zWP po fkp) (hjp : zJP po fp cn kf af tf) (hjwp : zWP po fp) (hp_kfl : zRg kfl (0) 1) (hp_kfs : zRg kfs (0) 9) (hp_fkc : zRg fkc (0) 99) (hp_fl : zRg fl (0) 1) (hp_fs : zRg fs (0) 9) (hp_fc : zRg fc (0) 99) (hpz : Nat) : Met l yX0_become wsX0_become ({ frames := 1, cells := 0, slots := 0, locals := 100 }) (va_Pc [.ref k0, .ref j0] (zW D (zKT cI cJ cZ cP cS) po [(k0, .inr (0, [.ref kz, .ref kp, .ref kc, .int kcn, .int kde, .int ktr, .int kse, .int khu, .int ksd])), (kz, .inr (6, [.ref kzl, .ref kzs, .int ksz, .int kat, .int kgp])), (kzl, .inl (cZ, 40, .inl kfl)), (kzs, .inl (cI, 40, .inl kfs)), (kp, .inl (cP, 8, .inr (.inr (.inr (.inr fkp))))), (kc, .inl (cI, 3, .inl fkc)), (j0, .inr (0, [.ref z0, .ref jp, .ref jc, .int cn, .int de, .int tr, .int se, .int hu, .int sd])), (z0, .inr (6, [.ref zl, .ref zs, .int sz, .int at_, .int gp])), (zl, .inl (cZ, 40, .inl fl)), (zs, .inl (cI, 40, .inl fs)), (jp, .inl (cP, 8, .inr (.inr (.inr (.inr fp))))), (jc, .inl (cI, 3, .inl fc))] hpz)) (va_Qv (fun (u : (Int32) × (Int32) × (Int32) × (Int32) × (Int32) × (Int32) × (Int32) × (Int32) × (Int32) × (Nat → Int32) × (Nat → Int32) × (Nat → Option Nat) × (Nat → Int32)) => (0 ≤ u.1.toInt ∧ u.1.toInt ≤ 8) ∧ (0 ≤ u.2.1.toInt ∧ u.2.1.toInt ≤ 24) ∧ (0 ≤ u.2.2.2.2.1.toInt ∧ u.2.2.2.2.1.toInt ≤ 9) ∧ (4 ≤ u.2.2.2.2.2.2.1.toInt ∧ u.2.2.2.2.2.2.1.toInt ≤ 40) ∧ (0 ≤ u.2.2.2.2.2.2.2.1.toInt ∧ u.2.2.2.2.2.2.2.1.toInt ≤ 40) ∧ (1 ≤ u.2.2.2.2.2.2.2.2.1.toInt ∧ u.2.2.2.2.2.2.2.2.1.toInt ≤ 9) ∧ zRg u.2.2.2.2.2.2.2.2.2.1 (0) 1 ∧ zRg u.2.2.2.2.2.2.2.2.2.2.1 (0) 9 ∧ zWP po u.2.2.2.2.2.2.2.2.2.2.2.1 ∧ zRg u.2.2.2.2.2.2.2.2.2.2.2.2 (0) 99 ∧ ((u.1 = cn ∧ u.2.1 = de ∧ u.2.2.1 = tr ∧ u.2.2.2.1 = se ∧ u.2.2.2.2.1 = hu ∧ u.2.2.2.2.2.1 = sd)) ∧ (zJP po u.2.2.2.2.2.2.2.2.2.2.2.1 cn kf af tf) ∧ (u.2.2.2.2.2.2.1 = sz) ∧ ((u.2.2.2.2.2.2.2.1 = at_ ∧ u.2.2.2.2.2.2.2.2.1 = gp)) ∧ ((∀ j : Nat, j < 40 → u.2.2.2.2.2.2.2.2.2.1 j = fl j)) ∧ ((∀ j : Nat, j < 40 → u.2.2.2.2.2.2.2.2.2.2.1 j = fs j)) ∧ ((∀ j : Nat, j < 3 → u.2.2.2.2.2.2.2.2.2.2.2.2 j = fc j)) ∧ (True)) (zB D [(k0, .inr (0, [.ref kz, .ref kp, .ref kc, .int kcn, .int kde, .int ktr, .int kse, .int khu, .int ksd])), (kz, .inr (6, [.ref kzl, .ref kzs, .int ksz, .int kat, .int kgp])), (kzl, .inl (cZ, 40, .inl kfl)), (kzs, .inl (cI, 40, .inl kfs)), (kp, .inl (cP, 8, .inr (.inr (.inr (.inr fkp))))), (kc, .inl (cI, 3, .inl fkc)), (j0, .inr (0, [.ref z0, .ref jp, .ref jc, .int cn, .int de, .int tr, .int se, .int hu, .int sd])), (z0, .inr (6, [.ref zl, .ref zs, .int sz, .int at_, .int gp])), (zl, .inl (cZ, 40, .inl fl)), (zs, .inl (cI, 40, .inl fs)), (jp, .inl (cP, 8, .inr (.inr (.inr (.inr fp))))), (jc, .inl (cI, 3, .inl fc))] hpz (fun (u : (Int32) × (Int32) × (Int32) × (Int32) × (Int32) × (Int32) × (Int32) × (Int32) × (Int32) × (Nat → Int32) × (Nat → Int32) × (Nat → Option Nat) × (Nat → Int32)) => [(k0, .inr (0, [.ref kz, .ref kp, .ref kc, .int u.1, .int u.2.1, .int u.2.2.1, .int u.2.2.2.1, .int u.2.2.2.2.1, .int u.2.2.2.2.2.1])), (kz, .inr (6, [.ref kzl, .ref kzs, .int u.2.2.2.2.2.2.1, .int u.2.2.2.2.2.2.2.1, .int u.2.2.2.2.2.2.2.2.1])), (kzl, .inl (cZ, 40, .inl u.2.2.2.2.2.2.2.2.2.1)), (kzs, .inl (cI, 40, .inl u.2.2.2.2.2.2.2.2.2.2.1)), (kp, .inl (cP, 8, .inr (.inr (.inr (.inr u.2.2.2.2.2.2.2.2.2.2.2.1))))), (kc, .inl (cI, 3, .inl u.2.2.2.2.2.2.2.2.2.2.2.2)), (j0, .inr (0, [.ref z0, .ref jp, .ref jc, .int cn, .int de, .int tr, .int se, .int hu, .int sd])), (z0, .inr (6, [.ref zl, .ref zs, .int sz, .int at_, .int gp])), (zl, .inl (cZ, 40, .inl fl)), (zs, .inl (cI, 40, .inl fs)), (jp, .inl (cP, 8, .inr (.inr (.inr (.inr fp))))), (jc, .inl (cI, 3, .inl fc))])) (va_A [(k0, .inr (0, [.ref kz, .ref kp, .ref kc, .int kcn, .int kde, .int ktr, .int kse, .int khu, .int ksd])), (kz, .inr (6, [.ref kzl, .ref kzs, .int ksz, .int kat, .int kgp])), (kzl, .inl (cZ, 40, .inl kfl)), (kzs, .inl (cI, 40, .inl kfs)), (kp, .inl (cP, 8, .inr (.inr (.inr (.inr fkp))))), (kc, .inl (cI, 3, .inl fkc)), (j0, .inr (0, [.ref z0, .ref jp, .ref jc, .int cn, .int de, .int tr, .int se, .int hu, .int sd])), (z0, .inr (6, [.ref zl, .ref zs, .int sz, .int at_, .int gp])), (zl, .inl (cZ, 40, .inl fl)), (zs, .inl (cI, 40, .inl fs)), (jp, .inl (cP, 8, .inr (.inr (.inr (.inr fp))))), (jc, .inl (cI, 3, .inl fc))] hpz)) 0 0 (va_A [(k0, .inr (0, [.ref kz, .ref kp, .ref kc, .int kcn, .int kde, .int ktr, .int kse, .int khu, .int ksd])), (kz, .inr (6, [.ref kzl, .ref kzs, .int ksz, .int kat, .int kgp])), (kzl, .inl (cZ, 40, .inl kfl)), (kzs, .inl (cI, 40, .inl kfs)), (kp, .inl (cP, 8, .inr (.inr (.inr (.inr fkp))))), (kc, .inl (cI, 3, .inl fkc)), (j0, .inr (0, [.ref z0, .ref jp, .ref jc, .int cn, .int de, .int tr, .int se, .int hu, .int sd])), (z0, .inr (6, [.ref zl, .ref zs, .int sz, .int at_, .int gp])), (zl, .inl (cZ, 40, .inl fl)), (zs, .inl (cI, 40, .inl fs)), (jp, .inl (cP, 8, .inr (.inr (.inr (.inr fp))))), (jc, .inl (cI, 3, .inl fc))] hpz) := by
  refine Met.ofW (cc := cX0_become) (maxL := 3) (ret := none) (by decide) rfl ?_
  intro p e s m args below meth c s₁ B hml hv
  obtain ⟨rfl, hsz, hP, hK, hD0, hN, hZ⟩ := hv
  have hx := B.exec
  have hb := B.bytes
  have hr := B.returns
  have hts := atoms_spec (ws := wsX0_become) B.pre
  have hown : s.vm.findClass RX0 = some m.cls := findClass_of_methodNamed B.named
  have hlocks := B.notSynchronized
  subst hsz
  have hD := hD0.self (sz := s.heap.size)
  have hA := zA_of hD
  have hl := lv_entry ([.ref k0, .ref j0]) (n := 3) (Nat.le_of_ble_eq_true rfl)
  rw [lg_entry_eq]
  generalize (lg_sl ([.ref k0, .ref j0]) ++ List.replicate (3 - (lg_sl ([.ref k0, .ref j0])).length) Slot.unset).toArray = ls at hl ⊢
  replace hl : lv_has ls 3 [(0, .ref k0), (1, .ref j0)] := hl
  refine zw_begin hP hD (fun H locs hP1 hS => ?_)
  clear hP
  have hP := hP1
  clear hP1
  refine lv_aload_n hx hb dX0_become_0 rfl (lv_at hl 0 rfl) ?_
  refine va_get (D := D) (ci := 0) (v := .ref kz) (C := RX0) (T := TX0) (N := 9) hx hb hts hi_X0_become_0 hown hK hP 0 rfl rfl 0 (by decide) (hts (.fieldLink RX0 12 "TheLiningsInIt$Jacket" "zip" "LTheLiningsInIt$Zip;") (List.mem_of_getElem? (i := 1) rfl)) (fun _ h9 => h9) rfl dX0_become_1 ?_
  refine lv_aload_n hx hb dX0_become_4 rfl (lv_at hl 1 rfl) ?_
  refine va_get (D := D) (ci := 0) (v := .ref z0) (C := RX0) (T := TX0) (N := 9) hx hb hts hi_X0_become_0 hown hK hP 6 rfl rfl 0 (by decide) (hts (.fieldLink RX0 12 "TheLiningsInIt$Jacket" "zip" "LTheLiningsInIt$Zip;") (List.mem_of_getElem? (i := 1) rfl)) (fun _ h9 => h9) rfl dX0_become_5 ?_
  skip
  refine zw_Vv (As := [.ref z0]) (rest := []) (wr := [(k0, .inr (0, [.ref kz, .ref kp, .ref kc, .int kcn, .int kde, .int ktr, .int kse, .int khu, .int ksd])), (kp, .inl (cP, 8, .inr (.inr (.inr (.inr fkp))))), (kc, .inl (cI, 3, .inl fkc)), (j0, .inr (0, [.ref z0, .ref jp, .ref jc, .int cn, .int de, .int tr, .int se, .int hu, .int sd])), (jp, .inl (cP, 8, .inr (.inr (.inr (.inr fp))))), (jc, .inl (cI, 3, .inl fc))]) ⟨hx, hb, hml, hown, hts⟩ (c_F_Zip_become l D cI cJ cZ cP cS po kz kzl kzs z0 zl zs (ksz) (kat) (kgp) (sz) (at_) (gp) kfl kfs fl fs hy6 hy7 hy8 hy9 hy10 hy11 hy18 hy19 hy20 hy21 hy22 hy23 hp_kfl hp_kfs hp_fl hp_fs H.size) (cwV 1 hts gX0_become_X6_become rfl rfl rfl ⟨rfl, dh_X6_become⟩ ⟨Nat.le_of_ble_eq_true rfl, Nat.le_of_ble_eq_true rfl⟩) hK hN (hZ.kept hS) hP hD hS hA [1, 2, 3, 7, 8, 9] [0, 4, 5, 6, 10, 11] rfl rfl (by decide) (by decide) (by decide) (va_recv (q := (RX6, TX6, 5)) hK hP (ci := 6) (q0 := 1) rfl rfl) rfl hl.1 rfl (Nat.le_of_ble_eq_true rfl) dX0_become_8 ⟨Nat.le_of_ble_eq_true rfl, Nat.le_of_ble_eq_true rfl⟩ (fun u_2 H locs hr_1 hP hD hS => ?_)
  obtain ⟨q_3, q_4, q_5, q_6, q_7⟩ := u_2
  try dsimp only at hr_1
  obtain ⟨hbq_3, hbq_4, hbq_5, hpq_6, hpq_7, hsr_1_0, hsr_1_1, hsr_1_2, hsr_1_3, hr_1⟩ := hr_1
  have h9R := zRe (ws' := [(k0, .inr (0, [.ref kz, .ref kp, .ref kc, .int kcn, .int kde, .int ktr, .int kse, .int khu, .int ksd])), (kp, .inl (cP, 8, .inr (.inr (.inr (.inr fkp))))), (kc, .inl (cI, 3, .inl fkc)), (j0, .inr (0, [.ref z0, .ref jp, .ref jc, .int cn, .int de, .int tr, .int se, .int hu, .int sd])), (jp, .inl (cP, 8, .inr (.inr (.inr (.inr fp))))), (jc, .inl (cI, 3, .inl fc)), (kz, .inr (6, [.ref kzl, .ref kzs, .int q_3, .int q_4, .int q_5])), (kzl, .inl (cZ, 40, .inl q_6)), (kzs, .inl (cI, 40, .inl q_7)), (z0, .inr (6, [.ref zl, .ref zs, .int sz, .int at_, .int gp])), (zl, .inl (cZ, 40, .inl fl)), (zs, .inl (cI, 40, .inl fs))]) hP hD rfl
  clear hP hD
  obtain ⟨hP, hD⟩ := h9R
  refine lv_iconst (v := 0) hx hb dX0_become_11 (by decide) ?_
  refine lv_istore_n (lv' := [(2, .int 0), (0, .ref k0), (1, .ref j0)]) hx hb dX0_become_12 rfl hl (by decide) rfl (fun ls hl => ?_)
  obtain ⟨i_13, hi_13⟩ : ∃ i : Int32, i = 0 := ⟨_, rfl⟩
  replace hl : lv_has ls 3 [(2, .int i_13), (0, .ref k0), (1, .ref j0)] := by rw [hi_13]; exact lv_sub hl [0, 1, 2] rfl
  have h1i_13 : i_13.toInt = 0 := by rw [hi_13]; decide
  obtain ⟨nfu, hni_13⟩ : ∃ nq9 : Nat, 8 ≤ i_13.toInt + (nq9 : Int) := ⟨((8 : Int) - 0).toNat, by omega⟩
  have hloi_13 : 0 ≤ i_13.toInt := by omega
  obtain ⟨g_8, hg_8⟩ : ∃ g : Nat → Option Nat, g = fkp := ⟨_, rfl⟩
  have hwg_8 : zWP po g_8 := by rw [hg_8]; exact hkwp
  replace hP : va_P D vwCl [(k0, .inr (0, [.ref kz, .ref kp, .ref kc, .int kcn, .int kde, .int ktr, .int kse, .int khu, .int ksd])), (kp, .inl (cP, 8, .inr (.inr (.inr (.inr g_8))))), (kc, .inl (cI, 3, .inl fkc)), (j0, .inr (0, [.ref z0, .ref jp, .ref jc, .int cn, .int de, .int tr, .int se, .int hu, .int sd])), (jp, .inl (cP, 8, .inr (.inr (.inr (.inr fp))))), (jc, .inl (cI, 3, .inl fc)), (kz, .inr (6, [.ref kzl, .ref kzs, .int q_3, .int q_4, .int q_5])), (kzl, .inl (cZ, 40, .inl q_6)), (kzs, .inl (cI, 40, .inl q_7)), (z0, .inr (6, [.ref zl, .ref zs, .int sz, .int at_, .int gp])), (zl, .inl (cZ, 40, .inl fl)), (zs, .inl (cI, 40, .inl fs))] H := by rw [hg_8]; exact hP
  replace hD : va_D (va_A [(k0, .inr (0, [.ref kz, .ref kp, .ref kc, .int kcn, .int kde, .int ktr, .int kse, .int khu, .int ksd])), (kz, .inr (6, [.ref kzl, .ref kzs, .int ksz, .int kat, .int kgp])), (kzl, .inl (cZ, 40, .inl kfl)), (kzs, .inl (cI, 40, .inl kfs)), (kp, .inl (cP, 8, .inr (.inr (.inr (.inr fkp))))), (kc, .inl (cI, 3, .inl fkc)), (j0, .inr (0, [.ref z0, .ref jp, .ref jc, .int cn, .int de, .int tr, .int se, .int hu, .int sd])), (z0, .inr (6, [.ref zl, .ref zs, .int sz, .int at_, .int gp])), (zl, .inl (cZ, 40, .inl fl)), (zs, .inl (cI, 40, .inl fs)), (jp, .inl (cP, 8, .inr (.inr (.inr (.inr fp))))), (jc, .inl (cI, 3, .inl fc))] s.heap.size) [(k0, .inr (0, [.ref kz, .ref kp, .ref kc, .int kcn, .int kde, .int ktr, .int kse, .int khu, .int ksd])), (kp, .inl (cP, 8, .inr (.inr (.inr (.inr g_8))))), (kc, .inl (cI, 3, .inl fkc)), (j0, .inr (0, [.ref z0, .ref jp, .ref jc, .int cn, .int de, .int tr, .int se, .int hu, .int sd])), (jp, .inl (cP, 8, .inr (.inr (.inr (.inr fp))))), (jc, .inl (cI, 3, .inl fc)), (kz, .inr (6, [.ref kzl, .ref kzs, .int q_3, .int q_4, .int q_5])), (kzl, .inl (cZ, 40, .inl q_6)), (kzs, .inl (cI, 40, .inl q_7)), (z0, .inr (6, [.ref zl, .ref zs, .int sz, .int at_, .int gp])), (zl, .inl (cZ, 40, .inl fl)), (zs, .inl (cI, 40, .inl fs))] := by rw [hg_8]; exact hD
  have hvi_13_0 : ∀ j : Nat, j < i_13.toInt.toNat → g_8 j = fp j := by
    (try rw [hi_13]); (try rw [hg_8]); (intro j hj; simp at hj)
  clear h1i_13 hi_13 hg_8
  skip
  revert hni_13
  revert hloi_13
  revert hvi_13_0
  revert hwg_8
  revert hl
  revert hS
  revert hD
  revert hP
  revert ls
  revert locs
  revert H
  revert g_8
  revert i_13
  induction nfu with
  | zero =>
    intro i_13 g_8 H locs ls hP hD hS hl hwg_8 hvi_13_0 hloi_13 hni_13
    have hzi_13 : 8 ≤ i_13.toInt := by omega
    refine lv_iload_n hx hb dX0_become_13 rfl (lv_at hl 0 rfl) ?_
    refine lv_bipush (v := 8) hx hb dX0_become_14 (by decide) ?_
    refine lv_icmp_ge (tgt := 37) hx hb dX0_become_16 (by decide) (fun c_9 => ?_) (fun c_9 => ?_)
    · have fc_9 : 8 ≤ i_13.toInt := zf_le c_9 (by decide) rfl
      refine lv_aload_n hx hb dX0_become_37 rfl (lv_at hl 2 rfl) ?_
      refine va_get (D := D) (ci := 0) (v := .ref jc) (C := RX0) (T := TX0) (N := 9) hx hb hts hi_X0_become_0 hown hK hP 3 rfl rfl 2 (by decide) (hts (.fieldLink RX0 24 "TheLiningsInIt$Jacket" "costs" "[I") (List.mem_of_getElem? (i := 3) rfl)) (fun _ h9 => h9) rfl dX0_become_38 ?_
      refine lv_iconst (v := 0) hx hb dX0_become_41 (by decide) ?_
      refine lv_aload_n hx hb dX0_become_42 rfl (lv_at hl 1 rfl) ?_
      refine va_get (D := D) (ci := 0) (v := .ref kc) (C := RX0) (T := TX0) (N := 9) hx hb hts hi_X0_become_0 hown hK hP 0 rfl rfl 2 (by decide) (hts (.fieldLink RX0 24 "TheLiningsInIt$Jacket" "costs" "[I") (List.mem_of_getElem? (i := 3) rfl)) (fun _ h9 => h9) rfl dX0_become_43 ?_
      refine lv_iconst (v := 0) hx hb dX0_become_46 (by decide) ?_
      refine lv_iconst (v := 3) hx hb dX0_become_47 (by decide) ?_
      refine va_copyi hx hb (hml.trans hl.1.symm) hown (hts (.methodLink RX0 51 arraycopyName) (List.mem_of_getElem? (i := 4) rfl)) (hts _ (List.mem_of_getElem? (i := 5) rfl)) (hts _ (List.mem_of_getElem? (i := 6) rfl)) (hts _ (List.mem_of_getElem? (i := 7) rfl)) hK hP hD hS 5 2 0 0 rfl rfl rfl rfl rfl (by decide) (by decide) (by decide) (by decide) (by decide) (fun _ _ => rfl) (Nat.le_of_ble_eq_true rfl) (by decide) dX0_become_48 (fun H locs hP hD hS => ?_)
      have hpg_10 : zRg (va_cpy fc fkc (0 : Int32).toNatClampNeg (0 : Int32).toNatClampNeg (3 : Int32).toNatClampNeg) (0) 99 := zRg_cpy hp_fc hp_fkc
      obtain ⟨g_10, hg_10⟩ : ∃ g : Nat → Int32, g = va_cpy fc fkc (0 : Int32).toNatClampNeg (0 : Int32).toNatClampNeg (3 : Int32).toNatClampNeg := ⟨_, rfl⟩
      rw [← hg_10] at hP hD hpg_10
      have h9R := zRe (ws' := [(k0, .inr (0, [.ref kz, .ref kp, .ref kc, .int kcn, .int kde, .int ktr, .int kse, .int khu, .int ksd])), (kp, .inl (cP, 8, .inr (.inr (.inr (.inr g_8))))), (kc, .inl (cI, 3, .inl g_10)), (j0, .inr (0, [.ref z0, .ref jp, .ref jc, .int cn, .int de, .int tr, .int se, .int hu, .int sd])), (jp, .inl (cP, 8, .inr (.inr (.inr (.inr fp))))), (jc, .inl (cI, 3, .inl fc)), (kz, .inr (6, [.ref kzl, .ref kzs, .int q_3, .int q_4, .int q_5])), (kzl, .inl (cZ, 40, .inl q_6)), (kzs, .inl (cI, 40, .inl q_7)), (z0, .inr (6, [.ref zl, .ref zs, .int sz, .int at_, .int gp])), (zl, .inl (cZ, 40, .inl fl)), (zs, .inl (cI, 40, .inl fs))]) hP hD rfl
      clear hP hD
      obtain ⟨hP, hD⟩ := h9R
      refine lv_aload_n hx hb dX0_become_51 rfl (lv_at hl 1 rfl) ?_
      refine lv_aload_n hx hb dX0_become_52 rfl (lv_at hl 2 rfl) ?_
      refine va_get (D := D) (ci := 0) (v := .int cn) (C := RX0) (T := TX0) (N := 9) hx hb hts hi_X0_become_0 hown hK hP 3 rfl rfl 3 (by decide) (hts (.fieldLink RX0 28 "TheLiningsInIt$Jacket" "pullCount" "I") (List.mem_of_getElem? (i := 8) rfl)) (fun _ h9 => h9) rfl dX0_become_53 ?_
      refine va_put (D := D) (ci := 0) (v := .int cn) (ty := .int) (C := RX0) (T := TX0) (N := 9) hx hb hts hi_X0_become_0 tyX0 tyX0_ok nmX0 hown hK hP hD hS 0 rfl rfl 3 (by decide) (hts (.fieldLink RX0 28 "TheLiningsInIt$Jacket" "pullCount" "I") (List.mem_of_getElem? (i := 8) rfl)) (fun _ h9 => h9) rfl (tyX0_ok 3 (Nat.le_of_ble_eq_true rfl)) rfl rfl (Nat.le_of_ble_eq_true rfl) dX0_become_56 (fun H locs hP hD hS => ?_)
      have h9R := zRe (ws' := [(k0, .inr (0, [.ref kz, .ref kp, .ref kc, .int cn, .int kde, .int ktr, .int kse, .int khu, .int ksd])), (kp, .inl (cP, 8, .inr (.inr (.inr (.inr g_8))))), (kc, .inl (cI, 3, .inl g_10)), (j0, .inr (0, [.ref z0, .ref jp, .ref jc, .int cn, .int de, .int tr, .int se, .int hu, .int sd])), (jp, .inl (cP, 8, .inr (.inr (.inr (.inr fp))))), (jc, .inl (cI, 3, .inl fc)), (kz, .inr (6, [.ref kzl, .ref kzs, .int q_3, .int q_4, .int q_5])), (kzl, .inl (cZ, 40, .inl q_6)), (kzs, .inl (cI, 40, .inl q_7)), (z0, .inr (6, [.ref zl, .ref zs, .int sz, .int at_, .int gp])), (zl, .inl (cZ, 40, .inl fl)), (zs, .inl (cI, 40, .inl fs))]) hP hD rfl
      clear hP hD
      obtain ⟨hP, hD⟩ := h9R
      refine lv_aload_n hx hb dX0_become_59 rfl (lv_at hl 1 rfl) ?_
      refine lv_aload_n hx hb dX0_become_60 rfl (lv_at hl 2 rfl) ?_
      refine va_get (D := D) (ci := 0) (v := .int de) (C := RX0) (T := TX0) (N := 9) hx hb hts hi_X0_become_0 hown hK hP 3 rfl rfl 4 (by decide) (hts (.fieldLink RX0 32 "TheLiningsInIt$Jacket" "depth" "I") (List.mem_of_getElem? (i := 9) rfl)) (fun _ h9 => h9) rfl dX0_become_61 ?_
      refine va_put (D := D) (ci := 0) (v := .int de) (ty := .int) (C := RX0) (T := TX0) (N := 9) hx hb hts hi_X0_become_0 tyX0 tyX0_ok nmX0 hown hK hP hD hS 0 rfl rfl 4 (by decide) (hts (.fieldLink RX0 32 "TheLiningsInIt$Jacket" "depth" "I") (List.mem_of_getElem? (i := 9) rfl)) (fun _ h9 => h9) rfl (tyX0_ok 4 (Nat.le_of_ble_eq_true rfl)) rfl rfl (Nat.le_of_ble_eq_true rfl) dX0_become_64 (fun H locs hP hD hS => ?_)
      have h9R := zRe (ws' := [(k0, .inr (0, [.ref kz, .ref kp, .ref kc, .int cn, .int de, .int ktr, .int kse, .int khu, .int ksd])), (kp, .inl (cP, 8, .inr (.inr (.inr (.inr g_8))))), (kc, .inl (cI, 3, .inl g_10)), (j0, .inr (0, [.ref z0, .ref jp, .ref jc, .int cn, .int de, .int tr, .int se, .int hu, .int sd])), (jp, .inl (cP, 8, .inr (.inr (.inr (.inr fp))))), (jc, .inl (cI, 3, .inl fc)), (kz, .inr (6, [.ref kzl, .ref kzs, .int q_3, .int q_4, .int q_5])), (kzl, .inl (cZ, 40, .inl q_6)), (kzs, .inl (cI, 40, .inl q_7)), (z0, .inr (6, [.ref zl, .ref zs, .int sz, .int at_, .int gp])), (zl, .inl (cZ, 40, .inl fl)), (zs, .inl (cI, 40, .inl fs))]) hP hD rfl
      clear hP hD
      obtain ⟨hP, hD⟩ := h9R
      refine lv_aload_n hx hb dX0_become_67 rfl (lv_at hl 1 rfl) ?_
      refine lv_aload_n hx hb dX0_become_68 rfl (lv_at hl 2 rfl) ?_
      refine va_get (D := D) (ci := 0) (v := .int tr) (C := RX0) (T := TX0) (N := 9) hx hb hts hi_X0_become_0 hown hK hP 3 rfl rfl 5 (by decide) (hts (.fieldLink RX0 35 "TheLiningsInIt$Jacket" "torn" "I") (List.mem_of_getElem? (i := 10) rfl)) (fun _ h9 => h9) rfl dX0_become_69 ?_
      refine va_put (D := D) (ci := 0) (v := .int tr) (ty := .int) (C := RX0) (T := TX0) (N := 9) hx hb hts hi_X0_become_0 tyX0 tyX0_ok nmX0 hown hK hP hD hS 0 rfl rfl 5 (by decide) (hts (.fieldLink RX0 35 "TheLiningsInIt$Jacket" "torn" "I") (List.mem_of_getElem? (i := 10) rfl)) (fun _ h9 => h9) rfl (tyX0_ok 5 (Nat.le_of_ble_eq_true rfl)) rfl rfl (Nat.le_of_ble_eq_true rfl) dX0_become_72 (fun H locs hP hD hS => ?_)
      have h9R := zRe (ws' := [(k0, .inr (0, [.ref kz, .ref kp, .ref kc, .int cn, .int de, .int tr, .int kse, .int khu, .int ksd])), (kp, .inl (cP, 8, .inr (.inr (.inr (.inr g_8))))), (kc, .inl (cI, 3, .inl g_10)), (j0, .inr (0, [.ref z0, .ref jp, .ref jc, .int cn, .int de, .int tr, .int se, .int hu, .int sd])), (jp, .inl (cP, 8, .inr (.inr (.inr (.inr fp))))), (jc, .inl (cI, 3, .inl fc)), (kz, .inr (6, [.ref kzl, .ref kzs, .int q_3, .int q_4, .int q_5])), (kzl, .inl (cZ, 40, .inl q_6)), (kzs, .inl (cI, 40, .inl q_7)), (z0, .inr (6, [.ref zl, .ref zs, .int sz, .int at_, .int gp])), (zl, .inl (cZ, 40, .inl fl)), (zs, .inl (cI, 40, .inl fs))]) hP hD rfl
      clear hP hD
      obtain ⟨hP, hD⟩ := h9R
      refine lv_aload_n hx hb dX0_become_75 rfl (lv_at hl 1 rfl) ?_
      refine lv_aload_n hx hb dX0_become_76 rfl (lv_at hl 2 rfl) ?_
      refine va_get (D := D) (ci := 0) (v := .int se) (C := RX0) (T := TX0) (N := 9) hx hb hts hi_X0_become_0 hown hK hP 3 rfl rfl 6 (by decide) (hts (.fieldLink RX0 38 "TheLiningsInIt$Jacket" "seconds" "I") (List.mem_of_getElem? (i := 11) rfl)) (fun _ h9 => h9) rfl dX0_become_77 ?_
      refine va_put (D := D) (ci := 0) (v := .int se) (ty := .int) (C := RX0) (T := TX0) (N := 9) hx hb hts hi_X0_become_0 tyX0 tyX0_ok nmX0 hown hK hP hD hS 0 rfl rfl 6 (by decide) (hts (.fieldLink RX0 38 "TheLiningsInIt$Jacket" "seconds" "I") (List.mem_of_getElem? (i := 11) rfl)) (fun _ h9 => h9) rfl (tyX0_ok 6 (Nat.le_of_ble_eq_true rfl)) rfl rfl (Nat.le_of_ble_eq_true rfl) dX0_become_80 (fun H locs hP hD hS => ?_)
      have h9R := zRe (ws' := [(k0, .inr (0, [.ref kz, .ref kp, .ref kc, .int cn, .int de, .int tr, .int se, .int khu, .int ksd])), (kp, .inl (cP, 8, .inr (.inr (.inr (.inr g_8))))), (kc, .inl (cI, 3, .inl g_10)), (j0, .inr (0, [.ref z0, .ref jp, .ref jc, .int cn, .int de, .int tr, .int se, .int hu, .int sd])), (jp, .inl (cP, 8, .inr (.inr (.inr (.inr fp))))), (jc, .inl (cI, 3, .inl fc)), (kz, .inr (6, [.ref kzl, .ref kzs, .int q_3, .int q_4, .int q_5])), (kzl, .inl (cZ, 40, .inl q_6)), (kzs, .inl (cI, 40, .inl q_7)), (z0, .inr (6, [.ref zl, .ref zs, .int sz, .int at_, .int gp])), (zl, .inl (cZ, 40, .inl fl)), (zs, .inl (cI, 40, .inl fs))]) hP hD rfl
      clear hP hD
      obtain ⟨hP, hD⟩ := h9R
      refine lv_aload_n hx hb dX0_become_83 rfl (lv_at hl 1 rfl) ?_
      refine lv_aload_n hx hb dX0_become_84 rfl (lv_at hl 2 rfl) ?_
      refine va_get (D := D) (ci := 0) (v := .int hu) (C := RX0) (T := TX0) (N := 9) hx hb hts hi_X0_become_0 hown hK hP 3 rfl rfl 7 (by decide) (hts (.fieldLink RX0 41 "TheLiningsInIt$Jacket" "hurry" "I") (List.mem_of_getElem? (i := 12) rfl)) (fun _ h9 => h9) rfl dX0_become_85 ?_
      refine va_put (D := D) (ci := 0) (v := .int hu) (ty := .int) (C := RX0) (T := TX0) (N := 9) hx hb hts hi_X0_become_0 tyX0 tyX0_ok nmX0 hown hK hP hD hS 0 rfl rfl 7 (by decide) (hts (.fieldLink RX0 41 "TheLiningsInIt$Jacket" "hurry" "I") (List.mem_of_getElem? (i := 12) rfl)) (fun _ h9 => h9) rfl (tyX0_ok 7 (Nat.le_of_ble_eq_true rfl)) rfl rfl (Nat.le_of_ble_eq_true rfl) dX0_become_88 (fun H locs hP hD hS => ?_)
      have h9R := zRe (ws' := [(k0, .inr (0, [.ref kz, .ref kp, .ref kc, .int cn, .int de, .int tr, .int se, .int hu, .int ksd])), (kp, .inl (cP, 8, .inr (.inr (.inr (.inr g_8))))), (kc, .inl (cI, 3, .inl g_10)), (j0, .inr (0, [.ref z0, .ref jp, .ref jc, .int cn, .int de, .int tr, .int se, .int hu, .int sd])), (jp, .inl (cP, 8, .inr (.inr (.inr (.inr fp))))), (jc, .inl (cI, 3, .inl fc)), (kz, .inr (6, [.ref kzl, .ref kzs, .int q_3, .int q_4, .int q_5])), (kzl, .inl (cZ, 40, .inl q_6)), (kzs, .inl (cI, 40, .inl q_7)), (z0, .inr (6, [.ref zl, .ref zs, .int sz, .int at_, .int gp])), (zl, .inl (cZ, 40, .inl fl)), (zs, .inl (cI, 40, .inl fs))]) hP hD rfl
      clear hP hD
      obtain ⟨hP, hD⟩ := h9R
      refine lv_aload_n hx hb dX0_become_91 rfl (lv_at hl 1 rfl) ?_
      refine lv_aload_n hx hb dX0_become_92 rfl (lv_at hl 2 rfl) ?_
      refine va_get (D := D) (ci := 0) (v := .int sd) (C := RX0) (T := TX0) (N := 9) hx hb hts hi_X0_become_0 hown hK hP 3 rfl rfl 8 (by decide) (hts (.fieldLink RX0 44 "TheLiningsInIt$Jacket" "seedNow" "I") (List.mem_of_getElem? (i := 13) rfl)) (fun _ h9 => h9) rfl dX0_become_93 ?_
      refine va_put (D := D) (ci := 0) (v := .int sd) (ty := .int) (C := RX0) (T := TX0) (N := 9) hx hb hts hi_X0_become_0 tyX0 tyX0_ok nmX0 hown hK hP hD hS 0 rfl rfl 8 (by decide) (hts (.fieldLink RX0 44 "TheLiningsInIt$Jacket" "seedNow" "I") (List.mem_of_getElem? (i := 13) rfl)) (fun _ h9 => h9) rfl (tyX0_ok 8 (Nat.le_of_ble_eq_true rfl)) rfl rfl (Nat.le_of_ble_eq_true rfl) dX0_become_96 (fun H locs hP hD hS => ?_)
      have h9R := zRe (ws' := [(k0, .inr (0, [.ref kz, .ref kp, .ref kc, .int cn, .int de, .int tr, .int se, .int hu, .int sd])), (kp, .inl (cP, 8, .inr (.inr (.inr (.inr g_8))))), (kc, .inl (cI, 3, .inl g_10)), (j0, .inr (0, [.ref z0, .ref jp, .ref jc, .int cn, .int de, .int tr, .int se, .int hu, .int sd])), (jp, .inl (cP, 8, .inr (.inr (.inr (.inr fp))))), (jc, .inl (cI, 3, .inl fc)), (kz, .inr (6, [.ref kzl, .ref kzs, .int q_3, .int q_4, .int q_5])), (kzl, .inl (cZ, 40, .inl q_6)), (kzs, .inl (cI, 40, .inl q_7)), (z0, .inr (6, [.ref zl, .ref zs, .int sz, .int at_, .int gp])), (zl, .inl (cZ, 40, .inl fl)), (zs, .inl (cI, 40, .inl fs))]) hP hD rfl
      clear hP hD
      obtain ⟨hP, hD⟩ := h9R
      exact W.vret hx hb hr (fun t ht hW => ⟨⟨(cn, de, tr, se, hu, sd, q_3, q_4, q_5, q_6, q_7, g_8, g_10), rfl, ⟨(show 0 ≤ cn.toInt ∧ cn.toInt ≤ 8 from ⟨hy12, hy13⟩), (show 0 ≤ de.toInt ∧ de.toInt ≤ 24 from ⟨hy14, hy15⟩), (show 0 ≤ hu.toInt ∧ hu.toInt ≤ 9 from ⟨hy16, hy17⟩), (show 4 ≤ q_3.toInt ∧ q_3.toInt ≤ 40 from hbq_3), (show 0 ≤ q_4.toInt ∧ q_4.toInt ≤ 40 from hbq_4), (show 1 ≤ q_5.toInt ∧ q_5.toInt ≤ 9 from hbq_5), hpq_6, hpq_7, hwg_8, hpg_10, (show (cn = cn ∧ de = de ∧ tr = tr ∧ se = se ∧ hu = hu ∧ sd = sd) from by exact ⟨rfl, rfl, rfl, rfl, rfl, rfl⟩), (show zJP po g_8 cn kf af tf from by (intro j hj; obtain ⟨u, h8, h9⟩ := hjp j hj; exact ⟨u, (hvi_13_0 j (by omega)).trans h8, h9⟩)), (show q_3 = sz from by exact hsr_1_0), (show (q_4 = at_ ∧ q_5 = gp) from by exact hsr_1_1), (show (∀ j : Nat, j < 40 → q_6 j = fl j) from by exact hsr_1_2), (show (∀ j : Nat, j < 40 → q_7 j = fs j) from by exact hsr_1_3), (show (∀ j : Nat, j < 3 → g_10 j = fc j) from by (intro j hj; rw [hg_10]; unfold va_cpy; have k0 : (0 : Int32).toNatClampNeg = 0 := (by decide); have k3 : (3 : Int32).toNatClampNeg = 3 := (by decide); rw [k0, k3, if_pos (by omega)]; congr 1; omega)), trivial⟩, zRet ht hP hD [0, 6, 7, 8, 1, 2, 3, 9, 10, 11, 4, 5] (by decide) rfl⟩, hS.F ht⟩) hS.2.2 dX0_become_99
    · exfalso; have fc_9 : i_13.toInt < 8 := zf_nle c_9 (by decide) rfl; omega
  | succ nfu ih =>
    intro i_13 g_8 H locs ls hP hD hS hl hwg_8 hvi_13_0 hloi_13 hni_13
    refine lv_iload_n hx hb dX0_become_13 rfl (lv_at hl 0 rfl) ?_
    refine lv_bipush (v := 8) hx hb dX0_become_14 (by decide) ?_
    refine lv_icmp_ge (tgt := 37) hx hb dX0_become_16 (by decide) (fun c_11 => ?_) (fun c_11 => ?_)
    · have fc_11 : 8 ≤ i_13.toInt := zf_le c_11 (by decide) rfl
      refine lv_aload_n hx hb dX0_become_37 rfl (lv_at hl 2 rfl) ?_
      refine va_get (D := D) (ci := 0) (v := .ref jc) (C := RX0) (T := TX0) (N := 9) hx hb hts hi_X0_become_0 hown hK hP 3 rfl rfl 2 (by decide) (hts (.fieldLink RX0 24 "TheLiningsInIt$Jacket" "costs" "[I") (List.mem_of_getElem? (i := 3) rfl)) (fun _ h9 => h9) rfl dX0_become_38 ?_
      refine lv_iconst (v := 0) hx hb dX0_become_41 (by decide) ?_
      refine lv_aload_n hx hb dX0_become_42 rfl (lv_at hl 1 rfl) ?_
      refine va_get (D := D) (ci := 0) (v := .ref kc) (C := RX0) (T := TX0) (N := 9) hx hb hts hi_X0_become_0 hown hK hP 0 rfl rfl 2 (by decide) (hts (.fieldLink RX0 24 "TheLiningsInIt$Jacket" "costs" "[I") (List.mem_of_getElem? (i := 3) rfl)) (fun _ h9 => h9) rfl dX0_become_43 ?_
      refine lv_iconst (v := 0) hx hb dX0_become_46 (by decide) ?_
      refine lv_iconst (v := 3) hx hb dX0_become_47 (by decide) ?_
      refine va_copyi hx hb (hml.trans hl.1.symm) hown (hts (.methodLink RX0 51 arraycopyName) (List.mem_of_getElem? (i := 4) rfl)) (hts _ (List.mem_of_getElem? (i := 5) rfl)) (hts _ (List.mem_of_getElem? (i := 6) rfl)) (hts _ (List.mem_of_getElem? (i := 7) rfl)) hK hP hD hS 5 2 0 0 rfl rfl rfl rfl rfl (by decide) (by decide) (by decide) (by decide) (by decide) (fun _ _ => rfl) (Nat.le_of_ble_eq_true rfl) (by decide) dX0_become_48 (fun H locs hP hD hS => ?_)
      have hpg_12 : zRg (va_cpy fc fkc (0 : Int32).toNatClampNeg (0 : Int32).toNatClampNeg (3 : Int32).toNatClampNeg) (0) 99 := zRg_cpy hp_fc hp_fkc
      obtain ⟨g_12, hg_12⟩ : ∃ g : Nat → Int32, g = va_cpy fc fkc (0 : Int32).toNatClampNeg (0 : Int32).toNatClampNeg (3 : Int32).toNatClampNeg := ⟨_, rfl⟩
      rw [← hg_12] at hP hD hpg_12
      have h9R := zRe (ws' := [(k0, .inr (0, [.ref kz, .ref kp, .ref kc, .int kcn, .int kde, .int ktr, .int kse, .int khu, .int ksd])), (kp, .inl (cP, 8, .inr (.inr (.inr (.inr g_8))))), (kc, .inl (cI, 3, .inl g_12)), (j0, .inr (0, [.ref z0, .ref jp, .ref jc, .int cn, .int de, .int tr, .int se, .int hu, .int sd])), (jp, .inl (cP, 8, .inr (.inr (.inr (.inr fp))))), (jc, .inl (cI, 3, .inl fc)), (kz, .inr (6, [.ref kzl, .ref kzs, .int q_3, .int q_4, .int q_5])), (kzl, .inl (cZ, 40, .inl q_6)), (kzs, .inl (cI, 40, .inl q_7)), (z0, .inr (6, [.ref zl, .ref zs, .int sz, .int at_, .int gp])), (zl, .inl (cZ, 40, .inl fl)), (zs, .inl (cI, 40, .inl fs))]) hP hD rfl
      clear hP hD
      obtain ⟨hP, hD⟩ := h9R
      refine lv_aload_n hx hb dX0_become_51 rfl (lv_at hl 1 rfl) ?_
      refine lv_aload_n hx hb dX0_become_52 rfl (lv_at hl 2 rfl) ?_
      refine va_get (D := D) (ci := 0) (v := .int cn) (C := RX0) (T := TX0) (N := 9) hx hb hts hi_X0_become_0 hown hK hP 3 rfl rfl 3 (by decide) (hts (.fieldLink RX0 28 "TheLiningsInIt$Jacket" "pullCount" "I") (List.mem_of_getElem? (i := 8) rfl)) (fun _ h9 => h9) rfl dX0_become_53 ?_
      refine va_put (D := D) (ci := 0) (v := .int cn) (ty := .int) (C := RX0) (T := TX0) (N := 9) hx hb hts hi_X0_become_0 tyX0 tyX0_ok nmX0 hown hK hP hD hS 0 rfl rfl 3 (by decide) (hts (.fieldLink RX0 28 "TheLiningsInIt$Jacket" "pullCount" "I") (List.mem_of_getElem? (i := 8) rfl)) (fun _ h9 => h9) rfl (tyX0_ok 3 (Nat.le_of_ble_eq_true rfl)) rfl rfl (Nat.le_of_ble_eq_true rfl) dX0_become_56 (fun H locs hP hD hS => ?_)
      have h9R := zRe (ws' := [(k0, .inr (0, [.ref kz, .ref kp, .ref kc, .int cn, .int kde, .int ktr, .int kse, .int khu, .int ksd])), (kp, .inl (cP, 8, .inr (.inr (.inr (.inr g_8))))), (kc, .inl (cI, 3, .inl g_12)), (j0, .inr (0, [.ref z0, .ref jp, .ref jc, .int cn, .int de, .int tr, .int se, .int hu, .int sd])), (jp, .inl (cP, 8, .inr (.inr (.inr (.inr fp))))), (jc, .inl (cI, 3, .inl fc)), (kz, .inr (6, [.ref kzl, .ref kzs, .int q_3, .int q_4, .int q_5])), (kzl, .inl (cZ, 40, .inl q_6)), (kzs, .inl (cI, 40, .inl q_7)), (z0, .inr (6, [.ref zl, .ref zs, .int sz, .int at_, .int gp])), (zl, .inl (cZ, 40, .inl fl)), (zs, .inl (cI, 40, .inl fs))]) hP hD rfl
      clear hP hD
      obtain ⟨hP, hD⟩ := h9R
      refine lv_aload_n hx hb dX0_become_59 rfl (lv_at hl 1 rfl) ?_
      refine lv_aload_n hx hb dX0_become_60 rfl (lv_at hl 2 rfl) ?_
      refine va_get (D := D) (ci := 0) (v := .int de) (C := RX0) (T := TX0) (N := 9) hx hb hts hi_X0_become_0 hown hK hP 3 rfl rfl 4 (by decide) (hts (.fieldLink RX0 32 "TheLiningsInIt$Jacket" "depth" "I") (List.mem_of_getElem? (i := 9) rfl)) (fun _ h9 => h9) rfl dX0_become_61 ?_
      refine va_put (D := D) (ci := 0) (v := .int de) (ty := .int) (C := RX0) (T := TX0) (N := 9) hx hb hts hi_X0_become_0 tyX0 tyX0_ok nmX0 hown hK hP hD hS 0 rfl rfl 4 (by decide) (hts (.fieldLink RX0 32 "TheLiningsInIt$Jacket" "depth" "I") (List.mem_of_getElem? (i := 9) rfl)) (fun _ h9 => h9) rfl (tyX0_ok 4 (Nat.le_of_ble_eq_true rfl)) rfl rfl (Nat.le_of_ble_eq_true rfl) dX0_become_64 (fun H locs hP hD hS => ?_)
      have h9R := zRe (ws' := [(k0, .inr (0, [.ref kz, .ref kp, .ref kc, .int cn, .int de, .int ktr, .int kse, .int khu, .int ksd])), (kp, .inl (cP, 8, .inr (.inr (.inr (.inr g_8))))), (kc, .inl (cI, 3, .inl g_12)), (j0, .inr (0, [.ref z0, .ref jp, .ref jc, .int cn, .int de, .int tr, .int se, .int hu, .int sd])), (jp, .inl (cP, 8, .inr (.inr (.inr (.inr fp))))), (jc, .inl (cI, 3, .inl fc)), (kz, .inr (6, [.ref kzl, .ref kzs, .int q_3, .int q_4, .int q_5])), (kzl, .inl (cZ, 40, .inl q_6)), (kzs, .inl (cI, 40, .inl q_7)), (z0, .inr (6, [.ref zl, .ref zs, .int sz, .int at_, .int gp])), (zl, .inl (cZ, 40, .inl fl)), (zs, .inl (cI, 40, .inl fs))]) hP hD rfl
      clear hP hD
      obtain ⟨hP, hD⟩ := h9R
      refine lv_aload_n hx hb dX0_become_67 rfl (lv_at hl 1 rfl) ?_
      refine lv_aload_n hx hb dX0_become_68 rfl (lv_at hl 2 rfl) ?_
      refine va_get (D := D) (ci := 0) (v := .int tr) (C := RX0) (T := TX0) (N := 9) hx hb hts hi_X0_become_0 hown hK hP 3 rfl rfl 5 (by decide) (hts (.fieldLink RX0 35 "TheLiningsInIt$Jacket" "torn" "I") (List.mem_of_getElem? (i := 10) rfl)) (fun _ h9 => h9) rfl dX0_become_69 ?_
      refine va_put (D := D) (ci := 0) (v := .int tr) (ty := .int) (C := RX0) (T := TX0) (N := 9) hx hb hts hi_X0_become_0 tyX0 tyX0_ok nmX0 hown hK hP hD hS 0 rfl rfl 5 (by decide) (hts (.fieldLink RX0 35 "TheLiningsInIt$Jacket" "torn" "I") (List.mem_of_getElem? (i := 10) rfl)) (fun _ h9 => h9) rfl (tyX0_ok 5 (Nat.le_of_ble_eq_true rfl)) rfl rfl (Nat.le_of_ble_eq_true rfl) dX0_become_72 (fun H locs hP hD hS => ?_)
      have h9R := zRe (ws' := [(k0, .inr (0, [.ref kz, .ref kp, .ref kc, .int cn, .int de, .int tr, .int kse, .int khu, .int ksd])), (kp, .inl (cP, 8, .inr (.inr (.inr (.inr g_8))))), (kc, .inl (cI, 3, .inl g_12)), (j0, .inr (0, [.ref z0, .ref jp, .ref jc, .int cn, .int de, .int tr, .int se, .int hu, .int sd])), (jp, .inl (cP, 8, .inr (.inr (.inr (.inr fp))))), (jc, .inl (cI, 3, .inl fc)), (kz, .inr (6, [.ref kzl, .ref kzs, .int q_3, .int q_4, .int q_5])), (kzl, .inl (cZ, 40, .inl q_6)), (kzs, .inl (cI, 40, .inl q_7)), (z0, .inr (6, [.ref zl, .ref zs, .int sz, .int at_, .int gp])), (zl, .inl (cZ, 40, .inl fl)), (zs, .inl (cI, 40, .inl fs))]) hP hD rfl
      clear hP hD
      obtain ⟨hP, hD⟩ := h9R
      refine lv_aload_n hx hb dX0_become_75 rfl (lv_at hl 1 rfl) ?_
      refine lv_aload_n hx hb dX0_become_76 rfl (lv_at hl 2 rfl) ?_
      refine va_get (D := D) (ci := 0) (v := .int se) (C := RX0) (T := TX0) (N := 9) hx hb hts hi_X0_become_0 hown hK hP 3 rfl rfl 6 (by decide) (hts (.fieldLink RX0 38 "TheLiningsInIt$Jacket" "seconds" "I") (List.mem_of_getElem? (i := 11) rfl)) (fun _ h9 => h9) rfl dX0_become_77 ?_
      refine va_put (D := D) (ci := 0) (v := .int se) (ty := .int) (C := RX0) (T := TX0) (N := 9) hx hb hts hi_X0_become_0 tyX0 tyX0_ok nmX0 hown hK hP hD hS 0 rfl rfl 6 (by decide) (hts (.fieldLink RX0 38 "TheLiningsInIt$Jacket" "seconds" "I") (List.mem_of_getElem? (i := 11) rfl)) (fun _ h9 => h9) rfl (tyX0_ok 6 (Nat.le_of_ble_eq_true rfl)) rfl rfl (Nat.le_of_ble_eq_true rfl) dX0_become_80 (fun H locs hP hD hS => ?_)
      have h9R := zRe (ws' := [(k0, .inr (0, [.ref kz, .ref kp, .ref kc, .int cn, .int de, .int tr, .int se, .int khu, .int ksd])), (kp, .inl (cP, 8, .inr (.inr (.inr (.inr g_8))))), (kc, .inl (cI, 3, .inl g_12)), (j0, .inr (0, [.ref z0, .ref jp, .ref jc, .int cn, .int de, .int tr, .int se, .int hu, .int sd])), (jp, .inl (cP, 8, .inr (.inr (.inr (.inr fp))))), (jc, .inl (cI, 3, .inl fc)), (kz, .inr (6, [.ref kzl, .ref kzs, .int q_3, .int q_4, .int q_5])), (kzl, .inl (cZ, 40, .inl q_6)), (kzs, .inl (cI, 40, .inl q_7)), (z0, .inr (6, [.ref zl, .ref zs, .int sz, .int at_, .int gp])), (zl, .inl (cZ, 40, .inl fl)), (zs, .inl (cI, 40, .inl fs))]) hP hD rfl
      clear hP hD
      obtain ⟨hP, hD⟩ := h9R
      refine lv_aload_n hx hb dX0_become_83 rfl (lv_at hl 1 rfl) ?_
      refine lv_aload_n hx hb dX0_become_84 rfl (lv_at hl 2 rfl) ?_
      refine va_get (D := D) (ci := 0) (v := .int hu) (C := RX0) (T := TX0) (N := 9) hx hb hts hi_X0_become_0 hown hK hP 3 rfl rfl 7 (by decide) (hts (.fieldLink RX0 41 "TheLiningsInIt$Jacket" "hurry" "I") (List.mem_of_getElem? (i := 12) rfl)) (fun _ h9 => h9) rfl dX0_become_85 ?_
      refine va_put (D := D) (ci := 0) (v := .int hu) (ty := .int) (C := RX0) (T := TX0) (N := 9) hx hb hts hi_X0_become_0 tyX0 tyX0_ok nmX0 hown hK hP hD hS 0 rfl rfl 7 (by decide) (hts (.fieldLink RX0 41 "TheLiningsInIt$Jacket" "hurry" "I") (List.mem_of_getElem? (i := 12) rfl)) (fun _ h9 => h9) rfl (tyX0_ok 7 (Nat.le_of_ble_eq_true rfl)) rfl rfl (Nat.le_of_ble_eq_true rfl) dX0_become_88 (fun H locs hP hD hS => ?_)
      have h9R := zRe (ws' := [(k0, .inr (0, [.ref kz, .ref kp, .ref kc, .int cn, .int de, .int tr, .int se, .int hu, .int ksd])), (kp, .inl (cP, 8, .inr (.inr (.inr (.inr g_8))))), (kc, .inl (cI, 3, .inl g_12)), (j0, .inr (0, [.ref z0, .ref jp, .ref jc, .int cn, .int de, .int tr, .int se, .int hu, .int sd])), (jp, .inl (cP, 8, .inr (.inr (.inr (.inr fp))))), (jc, .inl (cI, 3, .inl fc)), (kz, .inr (6, [.ref kzl, .ref kzs, .int q_3, .int q_4, .int q_5])), (kzl, .inl (cZ, 40, .inl q_6)), (kzs, .inl (cI, 40, .inl q_7)), (z0, .inr (6, [.ref zl, .ref zs, .int sz, .int at_, .int gp])), (zl, .inl (cZ, 40, .inl fl)), (zs, .inl (cI, 40, .inl fs))]) hP hD rfl
      clear hP hD
      obtain ⟨hP, hD⟩ := h9R
      refine lv_aload_n hx hb dX0_become_91 rfl (lv_at hl 1 rfl) ?_
      refine lv_aload_n hx hb dX0_become_92 rfl (lv_at hl 2 rfl) ?_
      refine va_get (D := D) (ci := 0) (v := .int sd) (C := RX0) (T := TX0) (N := 9) hx hb hts hi_X0_become_0 hown hK hP 3 rfl rfl 8 (by decide) (hts (.fieldLink RX0 44 "TheLiningsInIt$Jacket" "seedNow" "I") (List.mem_of_getElem? (i := 13) rfl)) (fun _ h9 => h9) rfl dX0_become_93 ?_
      refine va_put (D := D) (ci := 0) (v := .int sd) (ty := .int) (C := RX0) (T := TX0) (N := 9) hx hb hts hi_X0_become_0 tyX0 tyX0_ok nmX0 hown hK hP hD hS 0 rfl rfl 8 (by decide) (hts (.fieldLink RX0 44 "TheLiningsInIt$Jacket" "seedNow" "I") (List.mem_of_getElem? (i := 13) rfl)) (fun _ h9 => h9) rfl (tyX0_ok 8 (Nat.le_of_ble_eq_true rfl)) rfl rfl (Nat.le_of_ble_eq_true rfl) dX0_become_96 (fun H locs hP hD hS => ?_)
      have h9R := zRe (ws' := [(k0, .inr (0, [.ref kz, .ref kp, .ref kc, .int cn, .int de, .int tr, .int se, .int hu, .int sd])), (kp, .inl (cP, 8, .inr (.inr (.inr (.inr g_8))))), (kc, .inl (cI, 3, .inl g_12)), (j0, .inr (0, [.ref z0, .ref jp, .ref jc, .int cn, .int de, .int tr, .int se, .int hu, .int sd])), (jp, .inl (cP, 8, .inr (.inr (.inr (.inr fp))))), (jc, .inl (cI, 3, .inl fc)), (kz, .inr (6, [.ref kzl, .ref kzs, .int q_3, .int q_4, .int q_5])), (kzl, .inl (cZ, 40, .inl q_6)), (kzs, .inl (cI, 40, .inl q_7)), (z0, .inr (6, [.ref zl, .ref zs, .int sz, .int at_, .int gp])), (zl, .inl (cZ, 40, .inl fl)), (zs, .inl (cI, 40, .inl fs))]) hP hD rfl
      clear hP hD
      obtain ⟨hP, hD⟩ := h9R
      exact W.vret hx hb hr (fun t ht hW => ⟨⟨(cn, de, tr, se, hu, sd, q_3, q_4, q_5, q_6, q_7, g_8, g_12), rfl, ⟨(show 0 ≤ cn.toInt ∧ cn.toInt ≤ 8 from ⟨hy12, hy13⟩), (show 0 ≤ de.toInt ∧ de.toInt ≤ 24 from ⟨hy14, hy15⟩), (show 0 ≤ hu.toInt ∧ hu.toInt ≤ 9 from ⟨hy16, hy17⟩), (show 4 ≤ q_3.toInt ∧ q_3.toInt ≤ 40 from hbq_3), (show 0 ≤ q_4.toInt ∧ q_4.toInt ≤ 40 from hbq_4), (show 1 ≤ q_5.toInt ∧ q_5.toInt ≤ 9 from hbq_5), hpq_6, hpq_7, hwg_8, hpg_12, (show (cn = cn ∧ de = de ∧ tr = tr ∧ se = se ∧ hu = hu ∧ sd = sd) from by exact ⟨rfl, rfl, rfl, rfl, rfl, rfl⟩), (show zJP po g_8 cn kf af tf from by (intro j hj; obtain ⟨u, h8, h9⟩ := hjp j hj; exact ⟨u, (hvi_13_0 j (by omega)).trans h8, h9⟩)), (show q_3 = sz from by exact hsr_1_0), (show (q_4 = at_ ∧ q_5 = gp) from by exact hsr_1_1), (show (∀ j : Nat, j < 40 → q_6 j = fl j) from by exact hsr_1_2), (show (∀ j : Nat, j < 40 → q_7 j = fs j) from by exact hsr_1_3), (show (∀ j : Nat, j < 3 → g_12 j = fc j) from by (intro j hj; rw [hg_12]; unfold va_cpy; have k0 : (0 : Int32).toNatClampNeg = 0 := (by decide); have k3 : (3 : Int32).toNatClampNeg = 3 := (by decide); rw [k0, k3, if_pos (by omega)]; congr 1; omega)), trivial⟩, zRet ht hP hD [0, 6, 7, 8, 1, 2, 3, 9, 10, 11, 4, 5] (by decide) rfl⟩, hS.F ht⟩) hS.2.2 dX0_become_99
    · have fc_11 : i_13.toInt < 8 := zf_nle c_11 (by decide) rfl
      refine lv_aload_n hx hb dX0_become_19 rfl (lv_at hl 1 rfl) ?_
      refine va_get (D := D) (ci := 0) (v := .ref kp) (C := RX0) (T := TX0) (N := 9) hx hb hts hi_X0_become_0 hown hK hP 0 rfl rfl 1 (by decide) (hts (.fieldLink RX0 20 "TheLiningsInIt$Jacket" "pulls" "[LTheLiningsInIt$Pull;") (List.mem_of_getElem? (i := 2) rfl)) (fun _ h9 => h9) rfl dX0_become_20 ?_
      refine lv_iload_n hx hb dX0_become_23 rfl (lv_at hl 0 rfl) ?_
      refine lv_aload_n hx hb dX0_become_24 rfl (lv_at hl 2 rfl) ?_
      refine va_get (D := D) (ci := 0) (v := .ref jp) (C := RX0) (T := TX0) (N := 9) hx hb hts hi_X0_become_0 hown hK hP 3 rfl rfl 1 (by decide) (hts (.fieldLink RX0 20 "TheLiningsInIt$Jacket" "pulls" "[LTheLiningsInIt$Pull;") (List.mem_of_getElem? (i := 2) rfl)) (fun _ h9 => h9) rfl dX0_become_25 ?_
      refine lv_iload_n hx hb dX0_become_28 rfl (lv_at hl 0 rfl) ?_
      refine va_aldq hx hb hK hP 4 3 rfl rfl (zf_in (by omega) (by omega)) dX0_become_29 ?_
      rcases hjwp i_13.toNatClampNeg with hfu_13 | ⟨u_13, kiu_13, au_13, tu_13, hfu_13, huu_13⟩
      · rw [hfu_13]
        refine W.eq (g2 := F0 m 30 ls (.null :: [.int i_13, .ref kp])) rfl ?_
        refine va_astqN hx hb hK hP hD hS 1 3 rfl rfl (zf_in (by omega) (by omega)) dX0_become_30 (fun H locs hP hD hS => ?_)
        have hwg_14 : zWP po (va_up g_8 i_13.toNatClampNeg none) := zWP_upd hwg_8 (Or.inl rfl)
        obtain ⟨g_14, hg_14⟩ : ∃ g : Nat → Option Nat, g = va_up g_8 i_13.toNatClampNeg none := ⟨_, rfl⟩
        rw [← hg_14] at hP hD hwg_14
        have h9R := zRe (ws' := [(k0, .inr (0, [.ref kz, .ref kp, .ref kc, .int kcn, .int kde, .int ktr, .int kse, .int khu, .int ksd])), (kp, .inl (cP, 8, .inr (.inr (.inr (.inr g_14))))), (kc, .inl (cI, 3, .inl fkc)), (j0, .inr (0, [.ref z0, .ref jp, .ref jc, .int cn, .int de, .int tr, .int se, .int hu, .int sd])), (jp, .inl (cP, 8, .inr (.inr (.inr (.inr fp))))), (jc, .inl (cI, 3, .inl fc)), (kz, .inr (6, [.ref kzl, .ref kzs, .int q_3, .int q_4, .int q_5])), (kzl, .inl (cZ, 40, .inl q_6)), (kzs, .inl (cI, 40, .inl q_7)), (z0, .inr (6, [.ref zl, .ref zs, .int sz, .int at_, .int gp])), (zl, .inl (cZ, 40, .inl fl)), (zs, .inl (cI, 40, .inl fs))]) hP hD rfl
        clear hP hD
        obtain ⟨hP, hD⟩ := h9R
        obtain ⟨x_15, ex_15⟩ : ∃ y : Int32, y = i_13 + 1 := ⟨_, rfl⟩
        have qx_15 : x_15.toInt = i_13.toInt + 1 := dw_incK ex_15 fc_11 (by decide)
        refine lv_iinc (v := x_15) (lv' := [(2, .int x_15), (0, .ref k0), (1, .ref j0)]) hx hb dX0_become_31 hl (k := 0) rfl ex_15.symm (by decide) rfl (fun ls hl => ?_)
        refine lv_goto (tgt := 13) hx hb dX0_become_34 (by decide) ?_
        exact ih x_15 (g_14) _ _ _ (hP.sub [0, 1, 2, 3, 4, 5, 6, 7, 8, 9, 10, 11] rfl) (hD.sub [0, 1, 2, 3, 4, 5, 6, 7, 8, 9, 10, 11] (by decide) rfl) hS (lv_sub hl [0, 1, 2] rfl) hwg_14 (show ∀ j : Nat, j < x_15.toInt.toNat → g_14 j = fp j from by (intro j hj; rw [hg_14]; simp only [va_up]; split; (rename_i e9; rw [e9]; first | exact hf.symm | (simp_all)); exact hvi_13_0 j (by have h8 : i_13.toNatClampNeg = i_13.toInt.toNat := rfl; omega))) (dw_lo hloi_13 qx_15) (dw_hn hni_13 qx_15)
      · rw [hfu_13]
        refine W.eq (g2 := F0 m 30 ls (.ref u_13 :: [.int i_13, .ref kp])) rfl ?_
        obtain ⟨hku_13, hau_13, htu_13⟩ := zPu_pr (hZ.kept hS) huu_13
        refine va_astqM hx hb hK hP hD hS 1 3 rfl rfl (zp_any hK (zPu_P (hZ.kept hS) huu_13)) (zf_in (by omega) (by omega)) dX0_become_30 (fun H locs hP hD hS => ?_)
        have hwg_16 : zWP po (va_up g_8 i_13.toNatClampNeg (some u_13)) := zWP_upd hwg_8 (Or.inr ⟨_, _, _, _, rfl, huu_13⟩)
        obtain ⟨g_16, hg_16⟩ : ∃ g : Nat → Option Nat, g = va_up g_8 i_13.toNatClampNeg (some u_13) := ⟨_, rfl⟩
        rw [← hg_16] at hP hD hwg_16
        have h9R := zRe (ws' := [(k0, .inr (0, [.ref kz, .ref kp, .ref kc, .int kcn, .int kde, .int ktr, .int kse, .int khu, .int ksd])), (kp, .inl (cP, 8, .inr (.inr (.inr (.inr g_16))))), (kc, .inl (cI, 3, .inl fkc)), (j0, .inr (0, [.ref z0, .ref jp, .ref jc, .int cn, .int de, .int tr, .int se, .int hu, .int sd])), (jp, .inl (cP, 8, .inr (.inr (.inr (.inr fp))))), (jc, .inl (cI, 3, .inl fc)), (kz, .inr (6, [.ref kzl, .ref kzs, .int q_3, .int q_4, .int q_5])), (kzl, .inl (cZ, 40, .inl q_6)), (kzs, .inl (cI, 40, .inl q_7)), (z0, .inr (6, [.ref zl, .ref zs, .int sz, .int at_, .int gp])), (zl, .inl (cZ, 40, .inl fl)), (zs, .inl (cI, 40, .inl fs))]) hP hD rfl
        clear hP hD
        obtain ⟨hP, hD⟩ := h9R
        obtain ⟨x_17, ex_17⟩ : ∃ y : Int32, y = i_13 + 1 := ⟨_, rfl⟩
        have qx_17 : x_17.toInt = i_13.toInt + 1 := dw_incK ex_17 fc_11 (by decide)
        refine lv_iinc (v := x_17) (lv' := [(2, .int x_17), (0, .ref k0), (1, .ref j0)]) hx hb dX0_become_31 hl (k := 0) rfl ex_17.symm (by decide) rfl (fun ls hl => ?_)
        refine lv_goto (tgt := 13) hx hb dX0_become_34 (by decide) ?_
        exact ih x_17 (g_16) _ _ _ (hP.sub [0, 1, 2, 3, 4, 5, 6, 7, 8, 9, 10, 11] rfl) (hD.sub [0, 1, 2, 3, 4, 5, 6, 7, 8, 9, 10, 11] (by decide) rfl) hS (lv_sub hl [0, 1, 2] rfl) hwg_16 (show ∀ j : Nat, j < x_17.toInt.toNat → g_16 j = fp j from by (intro j hj; rw [hg_16]; simp only [va_up]; split; (rename_i e9; rw [e9]; first | exact hfu_13.symm | (simp_all)); exact hvi_13_0 j (by have h8 : i_13.toNatClampNeg = i_13.toInt.toNat := rfl; omega))) (dw_lo hloi_13 qx_17) (dw_hn hni_13 qx_17)
set_option maxHeartbeats 4000000 in
set_option maxRecDepth 100000 in
theorem c_F_X_image (l : Launch) (D : va_G) (cI cJ cZ cP cS : ClassId) (po : zPool) (x0 xs j0 k0 w0 rd mv xr : Nat) (im lf : Int32) (fr : Nat → Int32) (kp kc kz kzl kzs : Nat) (kcn kde ktr kse khu ksd : Int32) (ksz kat kgp : Int32) (kfl kfs : Nat → Int32) (fkp : Nat → Option Nat) (fkc : Nat → Int32) (j0 jp jc z0 zl zs : Nat) (cn de tr se hu sd : Int32) (sz at_ gp : Int32) (fl fs : Nat → Int32) (fp : Nat → Option Nat) (kf af tf : Nat → Int32) (fc : Nat → Int32) (hy0 : 0 ≤ im.toInt) (hy1 : im.toInt ≤ 1) (hy2 : (-1) ≤ lf.toInt) (hy3 : lf.toInt ≤ 160) (hy4 : 0 ≤ kcn.toInt) (hy5 : kcn.toInt ≤ 8) (hy6 : 0 ≤ kde.toInt) (hy7 : kde.toInt ≤ 24) (hy8 : 0 ≤ khu.toInt) (hy9 : khu.toInt ≤ 9) (hy10 : 4 ≤ ksz.toInt) (hy11 : ksz.toInt ≤ 40) (hy12 : 0 ≤ kat.toInt) (hy13 : kat.toInt ≤ 40) (hy14 : 1 ≤ kgp.toInt) (hy15 : kgp.toInt ≤ 9) (hy16 : 0 ≤ cn.toInt) (hy17 : cn.toInt ≤ 8) (hy18 : 0 ≤ de.toInt) (hy19 : de.toInt ≤ 24) (hy20 : 0 ≤ hu.toInt) (hy21 : hu.toInt ≤ 9) (hy22 : 4 ≤ sz.toInt) (hy23 : sz.toInt ≤ 40) (hy24 : 0 ≤ at_.toInt) (hy25 : at_.toInt ≤ 40) (hy26 : 1 ≤ gp.toInt) (hy27 : gp.toInt ≤ 9) (hkwp : zWP po fkp) (hjp : zJP po fp cn kf af tf) (hjwp : zWP po fp) (hp_kfl : zRg kfl (0) 1) (hp_kfs : zRg kfs (0) 9) (hp_fkc : zRg fkc (0) 99) (hp_fl : zRg fl (0) 1) (hp_fs : zRg fs (0) 9) (hp_fc : zRg fc (0) 99) (hpz : Nat) : Met l yX7_image wsX7_image ({ frames := 2, cells := 0, slots := 0, locals := 122 }) (va_Pc [.ref x0] (zW D (zKT cI cJ cZ cP cS) po [(x0, .inr (7, [.ref xs, .ref j0, .ref k0, .ref w0, .ref rd, .ref mv, .ref xr, .int im, .int lf])), (k0, .inr (0, [.ref kz, .ref kp, .ref kc, .int kcn, .int kde, .int ktr, .int kse, .int khu, .int ksd])), (kz, .inr (6, [.ref kzl, .ref kzs, .int ksz, .int kat, .int kgp])), (kzl, .inl (cZ, 40, .inl kfl)), (kzs, .inl (cI, 40, .inl kfs)), (kp, .inl (cP, 8, .inr (.inr (.inr (.inr fkp))))), (kc, .inl (cI, 3, .inl fkc)), (j0, .inr (0, [.ref z0, .ref jp, .ref jc, .int cn, .int de, .int tr, .int se, .int hu, .int sd])), (z0, .inr (6, [.ref zl, .ref zs, .int sz, .int at_, .int gp])), (zl, .inl (cZ, 40, .inl fl)), (zs, .inl (cI, 40, .inl fs)), (jp, .inl (cP, 8, .inr (.inr (.inr (.inr fp))))), (jc, .inl (cI, 3, .inl fc))] hpz)) (va_Qi (fun (r : Int32) (u : (Int32) × (Int32) × (Int32) × (Int32) × (Int32) × (Int32) × (Int32) × (Int32) × (Int32) × (Int32) × (Nat → Int32) × (Nat → Int32) × (Nat → Option Nat) × (Nat → Int32)) => (0 ≤ u.1.toInt ∧ u.1.toInt ≤ 1) ∧ (0 ≤ u.2.1.toInt ∧ u.2.1.toInt ≤ 8) ∧ (0 ≤ u.2.2.1.toInt ∧ u.2.2.1.toInt ≤ 24) ∧ (0 ≤ u.2.2.2.2.2.1.toInt ∧ u.2.2.2.2.2.1.toInt ≤ 9) ∧ (4 ≤ u.2.2.2.2.2.2.2.1.toInt ∧ u.2.2.2.2.2.2.2.1.toInt ≤ 40) ∧ (0 ≤ u.2.2.2.2.2.2.2.2.1.toInt ∧ u.2.2.2.2.2.2.2.2.1.toInt ≤ 40) ∧ (1 ≤ u.2.2.2.2.2.2.2.2.2.1.toInt ∧ u.2.2.2.2.2.2.2.2.2.1.toInt ≤ 9) ∧ zRg u.2.2.2.2.2.2.2.2.2.2.1 (0) 1 ∧ zRg u.2.2.2.2.2.2.2.2.2.2.2.1 (0) 9 ∧ zWP po u.2.2.2.2.2.2.2.2.2.2.2.2.1 ∧ zRg u.2.2.2.2.2.2.2.2.2.2.2.2.2 (0) 99 ∧ (zJP po u.2.2.2.2.2.2.2.2.2.2.2.2.1 u.2.1 kf af tf) ∧ (u.1.toInt = 1 ∧ u.2.1.toInt = cn.toInt ∧ u.2.2.2.2.2.2.2.1.toInt = sz.toInt ∧ r.toInt = cn.toInt) ∧ ((u.2.2.1 = de ∧ u.2.2.2.1 = tr ∧ u.2.2.2.2.1 = se ∧ u.2.2.2.2.2.1 = hu ∧ u.2.2.2.2.2.2.1 = sd ∧ u.2.2.2.2.2.2.2.2.1 = at_ ∧ u.2.2.2.2.2.2.2.2.2.1 = gp)) ∧ ((∀ j : Nat, j < 40 → u.2.2.2.2.2.2.2.2.2.2.1 j = fl j)) ∧ ((∀ j : Nat, j < 40 → u.2.2.2.2.2.2.2.2.2.2.2.1 j = fs j)) ∧ ((∀ j : Nat, j < 3 → u.2.2.2.2.2.2.2.2.2.2.2.2.2 j = fc j)) ∧ (True)) (zB D [(x0, .inr (7, [.ref xs, .ref j0, .ref k0, .ref w0, .ref rd, .ref mv, .ref xr, .int im, .int lf])), (k0, .inr (0, [.ref kz, .ref kp, .ref kc, .int kcn, .int kde, .int ktr, .int kse, .int khu, .int ksd])), (kz, .inr (6, [.ref kzl, .ref kzs, .int ksz, .int kat, .int kgp])), (kzl, .inl (cZ, 40, .inl kfl)), (kzs, .inl (cI, 40, .inl kfs)), (kp, .inl (cP, 8, .inr (.inr (.inr (.inr fkp))))), (kc, .inl (cI, 3, .inl fkc)), (j0, .inr (0, [.ref z0, .ref jp, .ref jc, .int cn, .int de, .int tr, .int se, .int hu, .int sd])), (z0, .inr (6, [.ref zl, .ref zs, .int sz, .int at_, .int gp])), (zl, .inl (cZ, 40, .inl fl)), (zs, .inl (cI, 40, .inl fs)), (jp, .inl (cP, 8, .inr (.inr (.inr (.inr fp))))), (jc, .inl (cI, 3, .inl fc))] hpz (fun (u : (Int32) × (Int32) × (Int32) × (Int32) × (Int32) × (Int32) × (Int32) × (Int32) × (Int32) × (Int32) × (Nat → Int32) × (Nat → Int32) × (Nat → Option Nat) × (Nat → Int32)) => [(x0, .inr (7, [.ref xs, .ref j0, .ref k0, .ref w0, .ref rd, .ref mv, .ref xr, .int u.1, .int lf])), (k0, .inr (0, [.ref kz, .ref kp, .ref kc, .int u.2.1, .int u.2.2.1, .int u.2.2.2.1, .int u.2.2.2.2.1, .int u.2.2.2.2.2.1, .int u.2.2.2.2.2.2.1])), (kz, .inr (6, [.ref kzl, .ref kzs, .int u.2.2.2.2.2.2.2.1, .int u.2.2.2.2.2.2.2.2.1, .int u.2.2.2.2.2.2.2.2.2.1])), (kzl, .inl (cZ, 40, .inl u.2.2.2.2.2.2.2.2.2.2.1)), (kzs, .inl (cI, 40, .inl u.2.2.2.2.2.2.2.2.2.2.2.1)), (kp, .inl (cP, 8, .inr (.inr (.inr (.inr u.2.2.2.2.2.2.2.2.2.2.2.2.1))))), (kc, .inl (cI, 3, .inl u.2.2.2.2.2.2.2.2.2.2.2.2.2)), (j0, .inr (0, [.ref z0, .ref jp, .ref jc, .int cn, .int de, .int tr, .int se, .int hu, .int sd])), (z0, .inr (6, [.ref zl, .ref zs, .int sz, .int at_, .int gp])), (zl, .inl (cZ, 40, .inl fl)), (zs, .inl (cI, 40, .inl fs)), (jp, .inl (cP, 8, .inr (.inr (.inr (.inr fp))))), (jc, .inl (cI, 3, .inl fc))])) (va_A [(x0, .inr (7, [.ref xs, .ref j0, .ref k0, .ref w0, .ref rd, .ref mv, .ref xr, .int im, .int lf])), (k0, .inr (0, [.ref kz, .ref kp, .ref kc, .int kcn, .int kde, .int ktr, .int kse, .int khu, .int ksd])), (kz, .inr (6, [.ref kzl, .ref kzs, .int ksz, .int kat, .int kgp])), (kzl, .inl (cZ, 40, .inl kfl)), (kzs, .inl (cI, 40, .inl kfs)), (kp, .inl (cP, 8, .inr (.inr (.inr (.inr fkp))))), (kc, .inl (cI, 3, .inl fkc)), (j0, .inr (0, [.ref z0, .ref jp, .ref jc, .int cn, .int de, .int tr, .int se, .int hu, .int sd])), (z0, .inr (6, [.ref zl, .ref zs, .int sz, .int at_, .int gp])), (zl, .inl (cZ, 40, .inl fl)), (zs, .inl (cI, 40, .inl fs)), (jp, .inl (cP, 8, .inr (.inr (.inr (.inr fp))))), (jc, .inl (cI, 3, .inl fc))] hpz)) 0 0 (va_A [(x0, .inr (7, [.ref xs, .ref j0, .ref k0, .ref w0, .ref rd, .ref mv, .ref xr, .int im, .int lf])), (k0, .inr (0, [.ref kz, .ref kp, .ref kc, .int kcn, .int kde, .int ktr, .int kse, .int khu, .int ksd])), (kz, .inr (6, [.ref kzl, .ref kzs, .int ksz, .int kat, .int kgp])), (kzl, .inl (cZ, 40, .inl kfl)), (kzs, .inl (cI, 40, .inl kfs)), (kp, .inl (cP, 8, .inr (.inr (.inr (.inr fkp))))), (kc, .inl (cI, 3, .inl fkc)), (j0, .inr (0, [.ref z0, .ref jp, .ref jc, .int cn, .int de, .int tr, .int se, .int hu, .int sd])), (z0, .inr (6, [.ref zl, .ref zs, .int sz, .int at_, .int gp])), (zl, .inl (cZ, 40, .inl fl)), (zs, .inl (cI, 40, .inl fs)), (jp, .inl (cP, 8, .inr (.inr (.inr (.inr fp))))), (jc, .inl (cI, 3, .inl fc))] hpz) := by
  refine Met.ofW (cc := cX7_image) (maxL := 1) (ret := (some .int)) (by decide) rfl ?_
  intro p e s m args below meth c s₁ B hml hv
  obtain ⟨rfl, hsz, hP, hK, hD0, hN, hZ⟩ := hv
  have hx := B.exec
  have hb := B.bytes
  have hr := B.returns
  have hts := atoms_spec (ws := wsX7_image) B.pre
  have hown : s.vm.findClass RX7 = some m.cls := findClass_of_methodNamed B.named
  have hlocks := B.notSynchronized
  subst hsz
  have hD := hD0.self (sz := s.heap.size)
  have hA := zA_of hD
  have hl := lv_entry ([.ref x0]) (n := 1) (Nat.le_of_ble_eq_true rfl)
  rw [lg_entry_eq]
  generalize (lg_sl ([.ref x0]) ++ List.replicate (1 - (lg_sl ([.ref x0])).length) Slot.unset).toArray = ls at hl ⊢
  replace hl : lv_has ls 1 [(0, .ref x0)] := hl
  refine zw_begin hP hD (fun H locs hP1 hS => ?_)
  clear hP
  have hP := hP1
  clear hP1
  refine lv_aload_n hx hb dX7_image_0 rfl (lv_at hl 0 rfl) ?_
  refine va_get (D := D) (ci := 7) (v := .ref k0) (C := RX7) (T := TX7) (N := 9) hx hb hts hi_X7_image_7 hown hK hP 0 rfl rfl 2 (by decide) (hts (.fieldLink RX7 22 "TheLiningsInIt" "kept" "LTheLiningsInIt$Jacket;") (List.mem_of_getElem? (i := 1) rfl)) (fun _ h9 => h9) rfl dX7_image_1 ?_
  refine lv_aload_n hx hb dX7_image_4 rfl (lv_at hl 0 rfl) ?_
  refine va_get (D := D) (ci := 7) (v := .ref j0) (C := RX7) (T := TX7) (N := 9) hx hb hts hi_X7_image_7 hown hK hP 0 rfl rfl 1 (by decide) (hts (.fieldLink RX7 18 "TheLiningsInIt" "now" "LTheLiningsInIt$Jacket;") (List.mem_of_getElem? (i := 2) rfl)) (fun _ h9 => h9) rfl dX7_image_5 ?_
  skip
  refine zw_Vv (As := [.ref j0]) (rest := []) (wr := [(x0, .inr (7, [.ref xs, .ref j0, .ref k0, .ref w0, .ref rd, .ref mv, .ref xr, .int im, .int lf]))]) ⟨hx, hb, hml, hown, hts⟩ (c_F_J_become l D cI cJ cZ cP cS po k0 kp kc kz kzl kzs (kcn) (kde) (ktr) (kse) (khu) (ksd) (ksz) (kat) (kgp) kfl kfs fkp fkc j0 jp jc z0 zl zs (cn) (de) (tr) (se) (hu) (sd) (sz) (at_) (gp) fl fs fp kf af tf fc hy4 hy5 hy6 hy7 hy8 hy9 hy10 hy11 hy12 hy13 hy14 hy15 hy16 hy17 hy18 hy19 hy20 hy21 hy22 hy23 hy24 hy25 hy26 hy27 hkwp hjp hjwp hp_kfl hp_kfs hp_fkc hp_fl hp_fs hp_fc H.size) (cwV 1 hts gX7_image_X0_become rfl rfl rfl ⟨rfl, dh_X0_become⟩ ⟨Nat.le_of_ble_eq_true rfl, Nat.le_of_ble_eq_true rfl⟩) hK hN (hZ.kept hS) hP hD hS hA [1, 2, 3, 4, 5, 6, 7, 8, 9, 10, 11, 12] [0] rfl rfl (by decide) (by decide) (by decide) (va_recv (q := (RX0, TX0, 9)) hK hP (ci := 0) (q0 := 1) rfl rfl) rfl hl.1 rfl (Nat.le_of_ble_eq_true rfl) dX7_image_8 ⟨Nat.le_of_ble_eq_true rfl, Nat.le_of_ble_eq_true rfl⟩ (fun u_2 H locs hr_1 hP hD hS => ?_)
  obtain ⟨q_3, q_4, q_5, q_6, q_7, q_8, q_9, q_10, q_11, q_12, q_13, q_14, q_15⟩ := u_2
  try dsimp only at hr_1
  obtain ⟨hbq_3, hbq_4, hbq_7, hbq_9, hbq_10, hbq_11, hpq_12, hpq_13, hwq_14, hpq_15, hsr_1_0, hsr_1_1, hsr_1_2, hsr_1_3, hsr_1_4, hsr_1_5, hsr_1_6, hr_1⟩ := hr_1
  have h9R := zRe (ws' := [(x0, .inr (7, [.ref xs, .ref j0, .ref k0, .ref w0, .ref rd, .ref mv, .ref xr, .int im, .int lf])), (k0, .inr (0, [.ref kz, .ref kp, .ref kc, .int q_3, .int q_4, .int q_5, .int q_6, .int q_7, .int q_8])), (kz, .inr (6, [.ref kzl, .ref kzs, .int q_9, .int q_10, .int q_11])), (kzl, .inl (cZ, 40, .inl q_12)), (kzs, .inl (cI, 40, .inl q_13)), (kp, .inl (cP, 8, .inr (.inr (.inr (.inr q_14))))), (kc, .inl (cI, 3, .inl q_15)), (j0, .inr (0, [.ref z0, .ref jp, .ref jc, .int cn, .int de, .int tr, .int se, .int hu, .int sd])), (z0, .inr (6, [.ref zl, .ref zs, .int sz, .int at_, .int gp])), (zl, .inl (cZ, 40, .inl fl)), (zs, .inl (cI, 40, .inl fs)), (jp, .inl (cP, 8, .inr (.inr (.inr (.inr fp))))), (jc, .inl (cI, 3, .inl fc))]) hP hD rfl
  clear hP hD
  obtain ⟨hP, hD⟩ := h9R
  refine lv_aload_n hx hb dX7_image_11 rfl (lv_at hl 0 rfl) ?_
  refine lv_iconst (v := 1) hx hb dX7_image_12 (by decide) ?_
  refine va_put (D := D) (ci := 7) (v := .int 1) (ty := .boolean) (C := RX7) (T := TX7) (N := 9) hx hb hts hi_X7_image_7 tyX7 tyX7_ok nmX7 hown hK hP hD hS 0 rfl rfl 7 (by decide) (hts (.fieldLink RX7 50 "TheLiningsInIt" "imaged" "Z") (List.mem_of_getElem? (i := 3) rfl)) (fun _ h9 => h9) rfl (tyX7_ok 7 (Nat.le_of_ble_eq_true rfl)) rfl rfl (Nat.le_of_ble_eq_true rfl) dX7_image_13 (fun H locs hP hD hS => ?_)
  have h9R := zRe (ws' := [(x0, .inr (7, [.ref xs, .ref j0, .ref k0, .ref w0, .ref rd, .ref mv, .ref xr, .int 1, .int lf])), (k0, .inr (0, [.ref kz, .ref kp, .ref kc, .int q_3, .int q_4, .int q_5, .int q_6, .int q_7, .int q_8])), (kz, .inr (6, [.ref kzl, .ref kzs, .int q_9, .int q_10, .int q_11])), (kzl, .inl (cZ, 40, .inl q_12)), (kzs, .inl (cI, 40, .inl q_13)), (kp, .inl (cP, 8, .inr (.inr (.inr (.inr q_14))))), (kc, .inl (cI, 3, .inl q_15)), (j0, .inr (0, [.ref z0, .ref jp, .ref jc, .int cn, .int de, .int tr, .int se, .int hu, .int sd])), (z0, .inr (6, [.ref zl, .ref zs, .int sz, .int at_, .int gp])), (zl, .inl (cZ, 40, .inl fl)), (zs, .inl (cI, 40, .inl fs)), (jp, .inl (cP, 8, .inr (.inr (.inr (.inr fp))))), (jc, .inl (cI, 3, .inl fc))]) hP hD rfl
  clear hP hD
  obtain ⟨hP, hD⟩ := h9R
  refine lv_aload_n hx hb dX7_image_16 rfl (lv_at hl 0 rfl) ?_
  refine va_get (D := D) (ci := 7) (v := .ref k0) (C := RX7) (T := TX7) (N := 9) hx hb hts hi_X7_image_7 hown hK hP 0 rfl rfl 2 (by decide) (hts (.fieldLink RX7 22 "TheLiningsInIt" "kept" "LTheLiningsInIt$Jacket;") (List.mem_of_getElem? (i := 1) rfl)) (fun _ h9 => h9) rfl dX7_image_17 ?_
  refine va_get (D := D) (ci := 0) (v := .int q_3) (C := RX0) (T := TX0) (N := 9) hx hb hts hi_X7_image_0 hown hK hP 1 rfl rfl 3 (by decide) (hts (.fieldLink RX7 123 "TheLiningsInIt$Jacket" "pullCount" "I") (List.mem_of_getElem? (i := 4) rfl)) (fun _ h9 => h9) rfl dX7_image_20 ?_
  exact W.iret (v := q_3) hx hb hr (fun t ht hW => ⟨⟨q_3, (1, q_3, q_4, q_5, q_6, q_7, q_8, q_9, q_10, q_11, q_12, q_13, q_14, q_15), rfl, ⟨(show 0 ≤ (1 : Int32).toInt ∧ (1 : Int32).toInt ≤ 1 from by decide), (show 0 ≤ q_3.toInt ∧ q_3.toInt ≤ 8 from hbq_3), (show 0 ≤ q_4.toInt ∧ q_4.toInt ≤ 24 from hbq_4), (show 0 ≤ q_7.toInt ∧ q_7.toInt ≤ 9 from hbq_7), (show 4 ≤ q_9.toInt ∧ q_9.toInt ≤ 40 from hbq_9), (show 0 ≤ q_10.toInt ∧ q_10.toInt ≤ 40 from hbq_10), (show 1 ≤ q_11.toInt ∧ q_11.toInt ≤ 9 from hbq_11), hpq_12, hpq_13, hwq_14, hpq_15, (show zJP po q_14 q_3 kf af tf from by (obtain ⟨h8, -⟩ := hsr_1_0; rw [h8]; exact hsr_1_1)), (show (1 : Int32).toInt = 1 ∧ q_3.toInt = cn.toInt ∧ q_9.toInt = sz.toInt ∧ (q_3 : Int32).toInt = cn.toInt from by (obtain ⟨h8, -⟩ := hsr_1_0; exact ⟨by decide, congrArg Int32.toInt h8, congrArg Int32.toInt hsr_1_2, congrArg Int32.toInt h8⟩)), (show (q_4 = de ∧ q_5 = tr ∧ q_6 = se ∧ q_7 = hu ∧ q_8 = sd ∧ q_10 = at_ ∧ q_11 = gp) from by (obtain ⟨-, y2, y3, y4, y5, y6⟩ := hsr_1_0; obtain ⟨y7, y8⟩ := hsr_1_3; exact ⟨y2, y3, y4, y5, y6, y7, y8⟩)), (show (∀ j : Nat, j < 40 → q_12 j = fl j) from by exact hsr_1_4), (show (∀ j : Nat, j < 40 → q_13 j = fs j) from by exact hsr_1_5), (show (∀ j : Nat, j < 3 → q_15 j = fc j) from by exact hsr_1_6), trivial⟩, zRet ht hP hD [0, 1, 2, 3, 4, 5, 6, 7, 8, 9, 10, 11, 12] (by decide) rfl⟩, hS.F ht⟩) hS.2.2 dX7_image_23
set_option maxHeartbeats 4000000 in
set_option maxRecDepth 100000 in
theorem c_F_Sh_forgetFrom (l : Launch) (D : va_G) (cI cJ cZ cP cS : ClassId) (po : zPool) (h0 e0 : Nat) (he si : Int32) (pc : Int32) (hy0 : (-1) ≤ he.toInt) (hy1 : he.toInt ≤ 103) (hy2 : 0 ≤ si.toInt) (hy3 : si.toInt ≤ 160) (hpz : Nat) : Met l yX4_forgetFrom wsX4_forgetFrom ({ frames := 0, cells := 0, slots := 0, locals := 0 }) (va_Pc [.ref h0, .int pc] (zW D (zKT cI cJ cZ cP cS) po [(h0, .inr (4, [.ref e0, .int he, .int si]))] hpz)) (va_Qv (fun (he2 : (Int32)) => ((-1) ≤ he2.toInt ∧ he2.toInt ≤ 103) ∧ (((pc.toInt ≤ he.toInt ∧ he.toInt < 100) ∧ he2.toInt = -1) ∨ (¬ (pc.toInt ≤ he.toInt ∧ he.toInt < 100) ∧ he2.toInt = he.toInt)) ∧ (True)) (zB D [(h0, .inr (4, [.ref e0, .int he, .int si]))] hpz (fun (he2 : Int32) => [(h0, .inr (4, [.ref e0, .int he2, .int si]))])) (va_A [(h0, .inr (4, [.ref e0, .int he, .int si]))] hpz)) 0 0 (va_A [(h0, .inr (4, [.ref e0, .int he, .int si]))] hpz) := by
  refine Met.ofW (cc := cX4_forgetFrom) (maxL := 2) (ret := none) (by decide) rfl ?_
  intro p e s m args below meth c s₁ B hml hv
  obtain ⟨rfl, hsz, hP, hK, hD0, hN, hZ⟩ := hv
  have hx := B.exec
  have hb := B.bytes
  have hr := B.returns
  have hts := atoms_spec (ws := wsX4_forgetFrom) B.pre
  have hown : s.vm.findClass RX4 = some m.cls := findClass_of_methodNamed B.named
  have hlocks := B.notSynchronized
  subst hsz
  have hD := hD0.self (sz := s.heap.size)
  have hA := zA_of hD
  have hl := lv_entry ([.ref h0, .int pc]) (n := 2) (Nat.le_of_ble_eq_true rfl)
  rw [lg_entry_eq]
  generalize (lg_sl ([.ref h0, .int pc]) ++ List.replicate (2 - (lg_sl ([.ref h0, .int pc])).length) Slot.unset).toArray = ls at hl ⊢
  replace hl : lv_has ls 2 [(0, .ref h0), (1, .int pc)] := hl
  refine zw_begin hP hD (fun H locs hP1 hS => ?_)
  clear hP
  have hP := hP1
  clear hP1
  refine lv_aload_n hx hb dX4_forgetFrom_0 rfl (lv_at hl 0 rfl) ?_
  refine va_get (D := D) (ci := 4) (v := .int he) (C := RX4) (T := TX4) (N := 3) hx hb hts hi_X4_forgetFrom_4 hown hK hP 0 rfl rfl 1 (by decide) (hts (.fieldLink RX4 15 "TheLiningsInIt$Shelf" "held" "I") (List.mem_of_getElem? (i := 1) rfl)) (fun _ h9 => h9) rfl dX4_forgetFrom_1 ?_
  refine lv_iload_n hx hb dX4_forgetFrom_4 rfl (lv_at hl 1 rfl) ?_
  refine lv_icmp_lt (tgt := 22) hx hb dX4_forgetFrom_5 (by decide) (fun c_1 => ?_) (fun c_1 => ?_)
  · have fc_1 : he.toInt < pc.toInt := zf_lt c_1 rfl rfl
    exact W.vret hx hb hr (fun t ht hW => ⟨⟨he, rfl, ⟨(show (-1) ≤ he.toInt ∧ he.toInt ≤ 103 from ⟨hy0, hy1⟩), (show ((pc.toInt ≤ he.toInt ∧ he.toInt < 100) ∧ he.toInt = -1) ∨ (¬ (pc.toInt ≤ he.toInt ∧ he.toInt < 100) ∧ he.toInt = he.toInt) from by (have km : ((-1) : Int32).toInt = -1 := (by decide); omega)), trivial⟩, zRet ht hP hD [0] (by decide) rfl⟩, hS.F ht⟩) hS.2.2 dX4_forgetFrom_22
  · have fc_1 : pc.toInt ≤ he.toInt := zf_nlt c_1 rfl rfl
    refine lv_aload_n hx hb dX4_forgetFrom_8 rfl (lv_at hl 0 rfl) ?_
    refine va_get (D := D) (ci := 4) (v := .int he) (C := RX4) (T := TX4) (N := 3) hx hb hts hi_X4_forgetFrom_4 hown hK hP 0 rfl rfl 1 (by decide) (hts (.fieldLink RX4 15 "TheLiningsInIt$Shelf" "held" "I") (List.mem_of_getElem? (i := 1) rfl)) (fun _ h9 => h9) rfl dX4_forgetFrom_9 ?_
    refine lv_bipush (v := 100) hx hb dX4_forgetFrom_12 (by decide) ?_
    refine lv_icmp_ge (tgt := 22) hx hb dX4_forgetFrom_14 (by decide) (fun c_2 => ?_) (fun c_2 => ?_)
    · have fc_2 : 100 ≤ he.toInt := zf_le c_2 (by decide) rfl
      exact W.vret hx hb hr (fun t ht hW => ⟨⟨he, rfl, ⟨(show (-1) ≤ he.toInt ∧ he.toInt ≤ 103 from ⟨hy0, hy1⟩), (show ((pc.toInt ≤ he.toInt ∧ he.toInt < 100) ∧ he.toInt = -1) ∨ (¬ (pc.toInt ≤ he.toInt ∧ he.toInt < 100) ∧ he.toInt = he.toInt) from by (have km : ((-1) : Int32).toInt = -1 := (by decide); omega)), trivial⟩, zRet ht hP hD [0] (by decide) rfl⟩, hS.F ht⟩) hS.2.2 dX4_forgetFrom_22
    · have fc_2 : he.toInt < 100 := zf_nle c_2 (by decide) rfl
      refine lv_aload_n hx hb dX4_forgetFrom_17 rfl (lv_at hl 0 rfl) ?_
      refine lv_iconst (v := (-1)) hx hb dX4_forgetFrom_18 (by decide) ?_
      refine va_put (D := D) (ci := 4) (v := .int (-1)) (ty := .int) (C := RX4) (T := TX4) (N := 3) hx hb hts hi_X4_forgetFrom_4 tyX4 tyX4_ok nmX4 hown hK hP hD hS 0 rfl rfl 1 (by decide) (hts (.fieldLink RX4 15 "TheLiningsInIt$Shelf" "held" "I") (List.mem_of_getElem? (i := 1) rfl)) (fun _ h9 => h9) rfl (tyX4_ok 1 (Nat.le_of_ble_eq_true rfl)) rfl rfl (Nat.le_of_ble_eq_true rfl) dX4_forgetFrom_19 (fun H locs hP hD hS => ?_)
      have h9R := zRe (ws' := [(h0, .inr (4, [.ref e0, .int (-1), .int si]))]) hP hD rfl
      clear hP hD
      obtain ⟨hP, hD⟩ := h9R
      exact W.vret hx hb hr (fun t ht hW => ⟨⟨(-1), rfl, ⟨(show (-1) ≤ ((-1) : Int32).toInt ∧ ((-1) : Int32).toInt ≤ 103 from by decide), (show ((pc.toInt ≤ he.toInt ∧ he.toInt < 100) ∧ ((-1) : Int32).toInt = -1) ∨ (¬ (pc.toInt ≤ he.toInt ∧ he.toInt < 100) ∧ ((-1) : Int32).toInt = he.toInt) from by (have km : ((-1) : Int32).toInt = -1 := (by decide); omega)), trivial⟩, zRet ht hP hD [0] (by decide) rfl⟩, hS.F ht⟩) hS.2.2 dX4_forgetFrom_22
set_option maxHeartbeats 4000000 in
set_option maxRecDepth 100000 in
theorem c_F_X_restore (l : Launch) (D : va_G) (cI cJ cZ cP cS : ClassId) (po : zPool) (x0 xs j0 k0 w0 rd mv xr : Nat) (im lf : Int32) (fr : Nat → Int32) (kp kc kz kzl kzs : Nat) (kcn kde ktr kse khu ksd : Int32) (ksz kat kgp : Int32) (kfl kfs : Nat → Int32) (fkp : Nat → Option Nat) (fkc : Nat → Int32) (j0 jp jc z0 zl zs : Nat) (cn de tr se hu sd : Int32) (sz at_ gp : Int32) (fl fs : Nat → Int32) (fp : Nat → Option Nat) (kkf kaf ktf : Nat → Int32) (fc : Nat → Int32) (fh : Nat → Option Nat) (a0 b0 : Nat) (he0 si0 : Int32) (a1 b1 : Nat) (he1 si1 : Int32) (a2 b2 : Nat) (he2 si2 : Int32) (a3 b3 : Nat) (he3 si3 : Int32) (a4 b4 : Nat) (he4 si4 : Int32) (a5 b5 : Nat) (he5 si5 : Int32) (a6 b6 : Nat) (he6 si6 : Int32) (a7 b7 : Nat) (he7 si7 : Int32) (hy0 : 0 ≤ im.toInt) (hy1 : im.toInt ≤ 1) (hy2 : (-1) ≤ lf.toInt) (hy3 : lf.toInt ≤ 160) (hy4 : 0 ≤ kcn.toInt) (hy5 : kcn.toInt ≤ 8) (hy6 : 0 ≤ kde.toInt) (hy7 : kde.toInt ≤ 24) (hy8 : 0 ≤ khu.toInt) (hy9 : khu.toInt ≤ 9) (hy10 : 4 ≤ ksz.toInt) (hy11 : ksz.toInt ≤ 40) (hy12 : 0 ≤ kat.toInt) (hy13 : kat.toInt ≤ 40) (hy14 : 1 ≤ kgp.toInt) (hy15 : kgp.toInt ≤ 9) (hy16 : 0 ≤ cn.toInt) (hy17 : cn.toInt ≤ 8) (hy18 : 0 ≤ de.toInt) (hy19 : de.toInt ≤ 24) (hy20 : 0 ≤ hu.toInt) (hy21 : hu.toInt ≤ 9) (hy22 : 4 ≤ sz.toInt) (hy23 : sz.toInt ≤ 40) (hy24 : 0 ≤ at_.toInt) (hy25 : at_.toInt ≤ 40) (hy26 : 1 ≤ gp.toInt) (hy27 : gp.toInt ≤ 9) (hjwp : zWP po fp) (hkjp : zJP po fkp kcn kkf kaf ktf) (hkwp : zWP po fkp) (hy31 : (-1) ≤ he0.toInt) (hy32 : he0.toInt ≤ 103) (hy33 : 0 ≤ si0.toInt) (hy34 : si0.toInt ≤ 160) (hy35 : (-1) ≤ he1.toInt) (hy36 : he1.toInt ≤ 103) (hy37 : 0 ≤ si1.toInt) (hy38 : si1.toInt ≤ 160) (hy39 : (-1) ≤ he2.toInt) (hy40 : he2.toInt ≤ 103) (hy41 : 0 ≤ si2.toInt) (hy42 : si2.toInt ≤ 160) (hy43 : (-1) ≤ he3.toInt) (hy44 : he3.toInt ≤ 103) (hy45 : 0 ≤ si3.toInt) (hy46 : si3.toInt ≤ 160) (hy47 : (-1) ≤ he4.toInt) (hy48 : he4.toInt ≤ 103) (hy49 : 0 ≤ si4.toInt) (hy50 : si4.toInt ≤ 160) (hy51 : (-1) ≤ he5.toInt) (hy52 : he5.toInt ≤ 103) (hy53 : 0 ≤ si5.toInt) (hy54 : si5.toInt ≤ 160) (hy55 : (-1) ≤ he6.toInt) (hy56 : he6.toInt ≤ 103) (hy57 : 0 ≤ si6.toInt) (hy58 : si6.toInt ≤ 160) (hy59 : (-1) ≤ he7.toInt) (hy60 : he7.toInt ≤ 103) (hy61 : 0 ≤ si7.toInt) (hy62 : si7.toInt ≤ 160) (hfs0 : fh 0 = some a0) (hfs1 : fh 1 = some a1) (hfs2 : fh 2 = some a2) (hfs3 : fh 3 = some a3) (hfs4 : fh 4 = some a4) (hfs5 : fh 5 = some a5) (hfs6 : fh 6 = some a6) (hfs7 : fh 7 = some a7) (hp_fl : zRg fl (0) 1) (hp_fs : zRg fs (0) 9) (hp_fc : zRg fc (0) 99) (hp_kfl : zRg kfl (0) 1) (hp_kfs : zRg kfs (0) 9) (hp_fkc : zRg fkc (0) 99) (hpz : Nat) : Met l yX7_restore wsX7_restore ({ frames := 2, cells := 0, slots := 0, locals := 122 }) (va_Pc [.ref x0] (zW D (zKT cI cJ cZ cP cS) po ((x0, .inr (7, [.ref xs, .ref j0, .ref k0, .ref w0, .ref rd, .ref mv, .ref xr, .int im, .int lf])) :: (xr, .inl (cI, 8, .inl fr)) :: (j0, .inr (0, [.ref z0, .ref jp, .ref jc, .int cn, .int de, .int tr, .int se, .int hu, .int sd])) :: (z0, .inr (6, [.ref zl, .ref zs, .int sz, .int at_, .int gp])) :: (zl, .inl (cZ, 40, .inl fl)) :: (zs, .inl (cI, 40, .inl fs)) :: (jp, .inl (cP, 8, .inr (.inr (.inr (.inr fp))))) :: (jc, .inl (cI, 3, .inl fc)) :: (k0, .inr (0, [.ref kz, .ref kp, .ref kc, .int kcn, .int kde, .int ktr, .int kse, .int khu, .int ksd])) :: (kz, .inr (6, [.ref kzl, .ref kzs, .int ksz, .int kat, .int kgp])) :: (kzl, .inl (cZ, 40, .inl kfl)) :: (kzs, .inl (cI, 40, .inl kfs)) :: (kp, .inl (cP, 8, .inr (.inr (.inr (.inr fkp))))) :: (kc, .inl (cI, 3, .inl fkc)) :: (xs, .inl (cS, 8, .inr (.inr (.inr (.inr fh))))) :: (a0, .inr (4, [.ref b0, .int he0, .int si0])) :: (a1, .inr (4, [.ref b1, .int he1, .int si1])) :: (a2, .inr (4, [.ref b2, .int he2, .int si2])) :: (a3, .inr (4, [.ref b3, .int he3, .int si3])) :: (a4, .inr (4, [.ref b4, .int he4, .int si4])) :: (a5, .inr (4, [.ref b5, .int he5, .int si5])) :: (a6, .inr (4, [.ref b6, .int he6, .int si6])) :: (a7, .inr (4, [.ref b7, .int he7, .int si7])) :: []) hpz)) (va_Qi (fun (r : Int32) (u : (Int32) × (Int32) × (Int32) × (Int32) × (Int32) × (Int32) × (Int32) × (Int32) × (Int32) × (Nat → Int32) × (Nat → Int32) × (Nat → Option Nat) × (Nat → Int32) × (Int32) × (Int32) × (Int32) × (Int32) × (Int32) × (Int32) × (Int32) × (Int32) × (Nat → Int32)) => (0 ≤ u.1.toInt ∧ u.1.toInt ≤ 8) ∧ (0 ≤ u.2.1.toInt ∧ u.2.1.toInt ≤ 24) ∧ (0 ≤ u.2.2.2.2.1.toInt ∧ u.2.2.2.2.1.toInt ≤ 9) ∧ (4 ≤ u.2.2.2.2.2.2.1.toInt ∧ u.2.2.2.2.2.2.1.toInt ≤ 40) ∧ (0 ≤ u.2.2.2.2.2.2.2.1.toInt ∧ u.2.2.2.2.2.2.2.1.toInt ≤ 40) ∧ (1 ≤ u.2.2.2.2.2.2.2.2.1.toInt ∧ u.2.2.2.2.2.2.2.2.1.toInt ≤ 9) ∧ zRg u.2.2.2.2.2.2.2.2.2.1 (0) 1 ∧ zRg u.2.2.2.2.2.2.2.2.2.2.1 (0) 9 ∧ zWP po u.2.2.2.2.2.2.2.2.2.2.2.1 ∧ zRg u.2.2.2.2.2.2.2.2.2.2.2.2.1 (0) 99 ∧ ((-1) ≤ u.2.2.2.2.2.2.2.2.2.2.2.2.2.1.toInt ∧ u.2.2.2.2.2.2.2.2.2.2.2.2.2.1.toInt ≤ 103) ∧ ((-1) ≤ u.2.2.2.2.2.2.2.2.2.2.2.2.2.2.1.toInt ∧ u.2.2.2.2.2.2.2.2.2.2.2.2.2.2.1.toInt ≤ 103) ∧ ((-1) ≤ u.2.2.2.2.2.2.2.2.2.2.2.2.2.2.2.1.toInt ∧ u.2.2.2.2.2.2.2.2.2.2.2.2.2.2.2.1.toInt ≤ 103) ∧ ((-1) ≤ u.2.2.2.2.2.2.2.2.2.2.2.2.2.2.2.2.1.toInt ∧ u.2.2.2.2.2.2.2.2.2.2.2.2.2.2.2.2.1.toInt ≤ 103) ∧ ((-1) ≤ u.2.2.2.2.2.2.2.2.2.2.2.2.2.2.2.2.2.1.toInt ∧ u.2.2.2.2.2.2.2.2.2.2.2.2.2.2.2.2.2.1.toInt ≤ 103) ∧ ((-1) ≤ u.2.2.2.2.2.2.2.2.2.2.2.2.2.2.2.2.2.2.1.toInt ∧ u.2.2.2.2.2.2.2.2.2.2.2.2.2.2.2.2.2.2.1.toInt ≤ 103) ∧ ((-1) ≤ u.2.2.2.2.2.2.2.2.2.2.2.2.2.2.2.2.2.2.2.1.toInt ∧ u.2.2.2.2.2.2.2.2.2.2.2.2.2.2.2.2.2.2.2.1.toInt ≤ 103) ∧ ((-1) ≤ u.2.2.2.2.2.2.2.2.2.2.2.2.2.2.2.2.2.2.2.2.1.toInt ∧ u.2.2.2.2.2.2.2.2.2.2.2.2.2.2.2.2.2.2.2.2.1.toInt ≤ 103) ∧ (((u.2.2.2.2.2.2.2.2.2.2.2.1 = fp ∧ u.1 = cn) ∨ zJP po u.2.2.2.2.2.2.2.2.2.2.2.1 u.1 kkf kaf ktf)) ∧ ((im.toInt = 0 ∧ r.toInt = -6 ∧ u.1.toInt = cn.toInt ∧ u.2.2.2.2.2.2.1.toInt = sz.toInt ∧ u.2.2.2.2.2.2.2.2.2.2.2.2.2.1.toInt = he0.toInt ∧ u.2.2.2.2.2.2.2.2.2.2.2.2.2.2.1.toInt = he1.toInt ∧ u.2.2.2.2.2.2.2.2.2.2.2.2.2.2.2.1.toInt = he2.toInt ∧ u.2.2.2.2.2.2.2.2.2.2.2.2.2.2.2.2.1.toInt = he3.toInt ∧ u.2.2.2.2.2.2.2.2.2.2.2.2.2.2.2.2.2.1.toInt = he4.toInt ∧ u.2.2.2.2.2.2.2.2.2.2.2.2.2.2.2.2.2.2.1.toInt = he5.toInt ∧ u.2.2.2.2.2.2.2.2.2.2.2.2.2.2.2.2.2.2.2.1.toInt = he6.toInt ∧ u.2.2.2.2.2.2.2.2.2.2.2.2.2.2.2.2.2.2.2.2.1.toInt = he7.toInt) ∨ (im.toInt ≠ 0 ∧ r.toInt = kcn.toInt ∧ u.1.toInt = kcn.toInt ∧ u.2.2.2.2.2.2.1.toInt = ksz.toInt ∧ (((kcn.toInt ≤ he0.toInt ∧ he0.toInt < 100) ∧ u.2.2.2.2.2.2.2.2.2.2.2.2.2.1.toInt = -1) ∨ (¬ (kcn.toInt ≤ he0.toInt ∧ he0.toInt < 100) ∧ u.2.2.2.2.2.2.2.2.2.2.2.2.2.1.toInt = he0.toInt)) ∧ (((kcn.toInt ≤ he1.toInt ∧ he1.toInt < 100) ∧ u.2.2.2.2.2.2.2.2.2.2.2.2.2.2.1.toInt = -1) ∨ (¬ (kcn.toInt ≤ he1.toInt ∧ he1.toInt < 100) ∧ u.2.2.2.2.2.2.2.2.2.2.2.2.2.2.1.toInt = he1.toInt)) ∧ (((kcn.toInt ≤ he2.toInt ∧ he2.toInt < 100) ∧ u.2.2.2.2.2.2.2.2.2.2.2.2.2.2.2.1.toInt = -1) ∨ (¬ (kcn.toInt ≤ he2.toInt ∧ he2.toInt < 100) ∧ u.2.2.2.2.2.2.2.2.2.2.2.2.2.2.2.1.toInt = he2.toInt)) ∧ (((kcn.toInt ≤ he3.toInt ∧ he3.toInt < 100) ∧ u.2.2.2.2.2.2.2.2.2.2.2.2.2.2.2.2.1.toInt = -1) ∨ (¬ (kcn.toInt ≤ he3.toInt ∧ he3.toInt < 100) ∧ u.2.2.2.2.2.2.2.2.2.2.2.2.2.2.2.2.1.toInt = he3.toInt)) ∧ (((kcn.toInt ≤ he4.toInt ∧ he4.toInt < 100) ∧ u.2.2.2.2.2.2.2.2.2.2.2.2.2.2.2.2.2.1.toInt = -1) ∨ (¬ (kcn.toInt ≤ he4.toInt ∧ he4.toInt < 100) ∧ u.2.2.2.2.2.2.2.2.2.2.2.2.2.2.2.2.2.1.toInt = he4.toInt)) ∧ (((kcn.toInt ≤ he5.toInt ∧ he5.toInt < 100) ∧ u.2.2.2.2.2.2.2.2.2.2.2.2.2.2.2.2.2.2.1.toInt = -1) ∨ (¬ (kcn.toInt ≤ he5.toInt ∧ he5.toInt < 100) ∧ u.2.2.2.2.2.2.2.2.2.2.2.2.2.2.2.2.2.2.1.toInt = he5.toInt)) ∧ (((kcn.toInt ≤ he6.toInt ∧ he6.toInt < 100) ∧ u.2.2.2.2.2.2.2.2.2.2.2.2.2.2.2.2.2.2.2.1.toInt = -1) ∨ (¬ (kcn.toInt ≤ he6.toInt ∧ he6.toInt < 100) ∧ u.2.2.2.2.2.2.2.2.2.2.2.2.2.2.2.2.2.2.2.1.toInt = he6.toInt)) ∧ (((kcn.toInt ≤ he7.toInt ∧ he7.toInt < 100) ∧ u.2.2.2.2.2.2.2.2.2.2.2.2.2.2.2.2.2.2.2.2.1.toInt = -1) ∨ (¬ (kcn.toInt ≤ he7.toInt ∧ he7.toInt < 100) ∧ u.2.2.2.2.2.2.2.2.2.2.2.2.2.2.2.2.2.2.2.2.1.toInt = he7.toInt)))) ∧ ((im.toInt = 0 ∧ u.2.1 = de ∧ u.2.2.1 = tr ∧ u.2.2.2.1 = se ∧ u.2.2.2.2.1 = hu ∧ u.2.2.2.2.2.1 = sd ∧ u.2.2.2.2.2.2.2.1 = at_ ∧ u.2.2.2.2.2.2.2.2.1 = gp ∧ u.2.2.2.2.2.2.2.2.2.1 = fl ∧ u.2.2.2.2.2.2.2.2.2.2.1 = fs ∧ u.2.2.2.2.2.2.2.2.2.2.2.2.1 = fc ∧ u.2.2.2.2.2.2.2.2.2.2.2.1 = fp ∧ u.1 = cn) ∨ (im.toInt ≠ 0 ∧ (u.2.1 = kde ∧ u.2.2.1 = ktr ∧ u.2.2.2.1 = kse ∧ u.2.2.2.2.1 = khu ∧ u.2.2.2.2.2.1 = ksd ∧ u.2.2.2.2.2.2.2.1 = kat ∧ u.2.2.2.2.2.2.2.2.1 = kgp) ∧ (∀ j : Nat, j < 40 → u.2.2.2.2.2.2.2.2.2.1 j = kfl j) ∧ (∀ j : Nat, j < 40 → u.2.2.2.2.2.2.2.2.2.2.1 j = kfs j) ∧ (∀ j : Nat, j < 3 → u.2.2.2.2.2.2.2.2.2.2.2.2.1 j = fkc j) ∧ zJP po u.2.2.2.2.2.2.2.2.2.2.2.1 u.1 kkf kaf ktf)) ∧ (True)) (zB D ((x0, .inr (7, [.ref xs, .ref j0, .ref k0, .ref w0, .ref rd, .ref mv, .ref xr, .int im, .int lf])) :: (xr, .inl (cI, 8, .inl fr)) :: (j0, .inr (0, [.ref z0, .ref jp, .ref jc, .int cn, .int de, .int tr, .int se, .int hu, .int sd])) :: (z0, .inr (6, [.ref zl, .ref zs, .int sz, .int at_, .int gp])) :: (zl, .inl (cZ, 40, .inl fl)) :: (zs, .inl (cI, 40, .inl fs)) :: (jp, .inl (cP, 8, .inr (.inr (.inr (.inr fp))))) :: (jc, .inl (cI, 3, .inl fc)) :: (k0, .inr (0, [.ref kz, .ref kp, .ref kc, .int kcn, .int kde, .int ktr, .int kse, .int khu, .int ksd])) :: (kz, .inr (6, [.ref kzl, .ref kzs, .int ksz, .int kat, .int kgp])) :: (kzl, .inl (cZ, 40, .inl kfl)) :: (kzs, .inl (cI, 40, .inl kfs)) :: (kp, .inl (cP, 8, .inr (.inr (.inr (.inr fkp))))) :: (kc, .inl (cI, 3, .inl fkc)) :: (xs, .inl (cS, 8, .inr (.inr (.inr (.inr fh))))) :: (a0, .inr (4, [.ref b0, .int he0, .int si0])) :: (a1, .inr (4, [.ref b1, .int he1, .int si1])) :: (a2, .inr (4, [.ref b2, .int he2, .int si2])) :: (a3, .inr (4, [.ref b3, .int he3, .int si3])) :: (a4, .inr (4, [.ref b4, .int he4, .int si4])) :: (a5, .inr (4, [.ref b5, .int he5, .int si5])) :: (a6, .inr (4, [.ref b6, .int he6, .int si6])) :: (a7, .inr (4, [.ref b7, .int he7, .int si7])) :: []) hpz (fun (u : (Int32) × (Int32) × (Int32) × (Int32) × (Int32) × (Int32) × (Int32) × (Int32) × (Int32) × (Nat → Int32) × (Nat → Int32) × (Nat → Option Nat) × (Nat → Int32) × (Int32) × (Int32) × (Int32) × (Int32) × (Int32) × (Int32) × (Int32) × (Int32) × (Nat → Int32)) => ((x0, .inr (7, [.ref xs, .ref j0, .ref k0, .ref w0, .ref rd, .ref mv, .ref xr, .int im, .int lf])) :: (xr, .inl (cI, 8, .inl u.2.2.2.2.2.2.2.2.2.2.2.2.2.2.2.2.2.2.2.2.2)) :: (j0, .inr (0, [.ref z0, .ref jp, .ref jc, .int u.1, .int u.2.1, .int u.2.2.1, .int u.2.2.2.1, .int u.2.2.2.2.1, .int u.2.2.2.2.2.1])) :: (z0, .inr (6, [.ref zl, .ref zs, .int u.2.2.2.2.2.2.1, .int u.2.2.2.2.2.2.2.1, .int u.2.2.2.2.2.2.2.2.1])) :: (zl, .inl (cZ, 40, .inl u.2.2.2.2.2.2.2.2.2.1)) :: (zs, .inl (cI, 40, .inl u.2.2.2.2.2.2.2.2.2.2.1)) :: (jp, .inl (cP, 8, .inr (.inr (.inr (.inr u.2.2.2.2.2.2.2.2.2.2.2.1))))) :: (jc, .inl (cI, 3, .inl u.2.2.2.2.2.2.2.2.2.2.2.2.1)) :: (k0, .inr (0, [.ref kz, .ref kp, .ref kc, .int kcn, .int kde, .int ktr, .int kse, .int khu, .int ksd])) :: (kz, .inr (6, [.ref kzl, .ref kzs, .int ksz, .int kat, .int kgp])) :: (kzl, .inl (cZ, 40, .inl kfl)) :: (kzs, .inl (cI, 40, .inl kfs)) :: (kp, .inl (cP, 8, .inr (.inr (.inr (.inr fkp))))) :: (kc, .inl (cI, 3, .inl fkc)) :: (xs, .inl (cS, 8, .inr (.inr (.inr (.inr fh))))) :: (a0, .inr (4, [.ref b0, .int u.2.2.2.2.2.2.2.2.2.2.2.2.2.1, .int si0])) :: (a1, .inr (4, [.ref b1, .int u.2.2.2.2.2.2.2.2.2.2.2.2.2.2.1, .int si1])) :: (a2, .inr (4, [.ref b2, .int u.2.2.2.2.2.2.2.2.2.2.2.2.2.2.2.1, .int si2])) :: (a3, .inr (4, [.ref b3, .int u.2.2.2.2.2.2.2.2.2.2.2.2.2.2.2.2.1, .int si3])) :: (a4, .inr (4, [.ref b4, .int u.2.2.2.2.2.2.2.2.2.2.2.2.2.2.2.2.2.1, .int si4])) :: (a5, .inr (4, [.ref b5, .int u.2.2.2.2.2.2.2.2.2.2.2.2.2.2.2.2.2.2.1, .int si5])) :: (a6, .inr (4, [.ref b6, .int u.2.2.2.2.2.2.2.2.2.2.2.2.2.2.2.2.2.2.2.1, .int si6])) :: (a7, .inr (4, [.ref b7, .int u.2.2.2.2.2.2.2.2.2.2.2.2.2.2.2.2.2.2.2.2.1, .int si7])) :: []))) (va_A ((x0, .inr (7, [.ref xs, .ref j0, .ref k0, .ref w0, .ref rd, .ref mv, .ref xr, .int im, .int lf])) :: (xr, .inl (cI, 8, .inl fr)) :: (j0, .inr (0, [.ref z0, .ref jp, .ref jc, .int cn, .int de, .int tr, .int se, .int hu, .int sd])) :: (z0, .inr (6, [.ref zl, .ref zs, .int sz, .int at_, .int gp])) :: (zl, .inl (cZ, 40, .inl fl)) :: (zs, .inl (cI, 40, .inl fs)) :: (jp, .inl (cP, 8, .inr (.inr (.inr (.inr fp))))) :: (jc, .inl (cI, 3, .inl fc)) :: (k0, .inr (0, [.ref kz, .ref kp, .ref kc, .int kcn, .int kde, .int ktr, .int kse, .int khu, .int ksd])) :: (kz, .inr (6, [.ref kzl, .ref kzs, .int ksz, .int kat, .int kgp])) :: (kzl, .inl (cZ, 40, .inl kfl)) :: (kzs, .inl (cI, 40, .inl kfs)) :: (kp, .inl (cP, 8, .inr (.inr (.inr (.inr fkp))))) :: (kc, .inl (cI, 3, .inl fkc)) :: (xs, .inl (cS, 8, .inr (.inr (.inr (.inr fh))))) :: (a0, .inr (4, [.ref b0, .int he0, .int si0])) :: (a1, .inr (4, [.ref b1, .int he1, .int si1])) :: (a2, .inr (4, [.ref b2, .int he2, .int si2])) :: (a3, .inr (4, [.ref b3, .int he3, .int si3])) :: (a4, .inr (4, [.ref b4, .int he4, .int si4])) :: (a5, .inr (4, [.ref b5, .int he5, .int si5])) :: (a6, .inr (4, [.ref b6, .int he6, .int si6])) :: (a7, .inr (4, [.ref b7, .int he7, .int si7])) :: []) hpz)) 0 0 (va_A ((x0, .inr (7, [.ref xs, .ref j0, .ref k0, .ref w0, .ref rd, .ref mv, .ref xr, .int im, .int lf])) :: (xr, .inl (cI, 8, .inl fr)) :: (j0, .inr (0, [.ref z0, .ref jp, .ref jc, .int cn, .int de, .int tr, .int se, .int hu, .int sd])) :: (z0, .inr (6, [.ref zl, .ref zs, .int sz, .int at_, .int gp])) :: (zl, .inl (cZ, 40, .inl fl)) :: (zs, .inl (cI, 40, .inl fs)) :: (jp, .inl (cP, 8, .inr (.inr (.inr (.inr fp))))) :: (jc, .inl (cI, 3, .inl fc)) :: (k0, .inr (0, [.ref kz, .ref kp, .ref kc, .int kcn, .int kde, .int ktr, .int kse, .int khu, .int ksd])) :: (kz, .inr (6, [.ref kzl, .ref kzs, .int ksz, .int kat, .int kgp])) :: (kzl, .inl (cZ, 40, .inl kfl)) :: (kzs, .inl (cI, 40, .inl kfs)) :: (kp, .inl (cP, 8, .inr (.inr (.inr (.inr fkp))))) :: (kc, .inl (cI, 3, .inl fkc)) :: (xs, .inl (cS, 8, .inr (.inr (.inr (.inr fh))))) :: (a0, .inr (4, [.ref b0, .int he0, .int si0])) :: (a1, .inr (4, [.ref b1, .int he1, .int si1])) :: (a2, .inr (4, [.ref b2, .int he2, .int si2])) :: (a3, .inr (4, [.ref b3, .int he3, .int si3])) :: (a4, .inr (4, [.ref b4, .int he4, .int si4])) :: (a5, .inr (4, [.ref b5, .int he5, .int si5])) :: (a6, .inr (4, [.ref b6, .int he6, .int si6])) :: (a7, .inr (4, [.ref b7, .int he7, .int si7])) :: []) hpz) := by
  refine Met.ofW (cc := cX7_restore) (maxL := 2) (ret := (some .int)) (by decide) rfl ?_
  intro p e s m args below meth c s₁ B hml hv
  obtain ⟨rfl, hsz, hP, hK, hD0, hN, hZ⟩ := hv
  have hx := B.exec
  have hb := B.bytes
  have hr := B.returns
  have hts := atoms_spec (ws := wsX7_restore) B.pre
  have hown : s.vm.findClass RX7 = some m.cls := findClass_of_methodNamed B.named
  have hlocks := B.notSynchronized
  subst hsz
  have hD := hD0.self (sz := s.heap.size)
  have hA := zA_of hD
  have hl := lv_entry ([.ref x0]) (n := 2) (Nat.le_of_ble_eq_true rfl)
  rw [lg_entry_eq]
  generalize (lg_sl ([.ref x0]) ++ List.replicate (2 - (lg_sl ([.ref x0])).length) Slot.unset).toArray = ls at hl ⊢
  replace hl : lv_has ls 2 [(0, .ref x0)] := hl
  refine zw_begin hP hD (fun H locs hP1 hS => ?_)
  clear hP
  have hP := hP1
  clear hP1
  refine lv_aload_n hx hb dX7_restore_0 rfl (lv_at hl 0 rfl) ?_
  refine va_get (D := D) (ci := 7) (v := .int im) (C := RX7) (T := TX7) (N := 9) hx hb hts hi_X7_restore_7 hown hK hP 0 rfl rfl 7 (by decide) (hts (.fieldLink RX7 50 "TheLiningsInIt" "imaged" "Z") (List.mem_of_getElem? (i := 1) rfl)) (fun _ h9 => h9) rfl dX7_restore_1 ?_
  refine lv_if_ne (tgt := 14) hx hb dX7_restore_4 (by decide) (fun c_1 => ?_) (fun c_1 => ?_)
  · have fc_1 : im.toInt ≠ 0 := zf_ne c_1 rfl (by decide)
    refine lv_aload_n hx hb dX7_restore_14 rfl (lv_at hl 0 rfl) ?_
    refine va_get (D := D) (ci := 7) (v := .ref j0) (C := RX7) (T := TX7) (N := 9) hx hb hts hi_X7_restore_7 hown hK hP 0 rfl rfl 1 (by decide) (hts (.fieldLink RX7 18 "TheLiningsInIt" "now" "LTheLiningsInIt$Jacket;") (List.mem_of_getElem? (i := 2) rfl)) (fun _ h9 => h9) rfl dX7_restore_15 ?_
    refine lv_aload_n hx hb dX7_restore_18 rfl (lv_at hl 0 rfl) ?_
    refine va_get (D := D) (ci := 7) (v := .ref k0) (C := RX7) (T := TX7) (N := 9) hx hb hts hi_X7_restore_7 hown hK hP 0 rfl rfl 2 (by decide) (hts (.fieldLink RX7 22 "TheLiningsInIt" "kept" "LTheLiningsInIt$Jacket;") (List.mem_of_getElem? (i := 3) rfl)) (fun _ h9 => h9) rfl dX7_restore_19 ?_
    skip
    refine zw_Vv (As := [.ref k0]) (rest := []) (wr := [(x0, .inr (7, [.ref xs, .ref j0, .ref k0, .ref w0, .ref rd, .ref mv, .ref xr, .int im, .int lf])), (xr, .inl (cI, 8, .inl fr)), (xs, .inl (cS, 8, .inr (.inr (.inr (.inr fh))))), (a0, .inr (4, [.ref b0, .int he0, .int si0])), (a1, .inr (4, [.ref b1, .int he1, .int si1])), (a2, .inr (4, [.ref b2, .int he2, .int si2])), (a3, .inr (4, [.ref b3, .int he3, .int si3])), (a4, .inr (4, [.ref b4, .int he4, .int si4])), (a5, .inr (4, [.ref b5, .int he5, .int si5])), (a6, .inr (4, [.ref b6, .int he6, .int si6])), (a7, .inr (4, [.ref b7, .int he7, .int si7]))]) ⟨hx, hb, hml, hown, hts⟩ (c_F_J_become l D cI cJ cZ cP cS po j0 jp jc z0 zl zs (cn) (de) (tr) (se) (hu) (sd) (sz) (at_) (gp) fl fs fp fc k0 kp kc kz kzl kzs (kcn) (kde) (ktr) (kse) (khu) (ksd) (ksz) (kat) (kgp) kfl kfs fkp kkf kaf ktf fkc hy16 hy17 hy18 hy19 hy20 hy21 hy22 hy23 hy24 hy25 hy26 hy27 hy4 hy5 hy6 hy7 hy8 hy9 hy10 hy11 hy12 hy13 hy14 hy15 hjwp hkjp hkwp hp_fl hp_fs hp_fc hp_kfl hp_kfs hp_fkc H.size) (cwV 1 hts gX7_restore_X0_become rfl rfl rfl ⟨rfl, dh_X0_become⟩ ⟨Nat.le_of_ble_eq_true rfl, Nat.le_of_ble_eq_true rfl⟩) hK hN (hZ.kept hS) hP hD hS hA [2, 3, 4, 5, 6, 7, 8, 9, 10, 11, 12, 13] [0, 1, 14, 15, 16, 17, 18, 19, 20, 21, 22] rfl rfl (by decide) (by decide) (by decide) (va_recv (q := (RX0, TX0, 9)) hK hP (ci := 0) (q0 := 2) rfl rfl) rfl hl.1 rfl (Nat.le_of_ble_eq_true rfl) dX7_restore_22 ⟨Nat.le_of_ble_eq_true rfl, Nat.le_of_ble_eq_true rfl⟩ (fun u_3 H locs hr_2 hP hD hS => ?_)
    obtain ⟨q_4, q_5, q_6, q_7, q_8, q_9, q_10, q_11, q_12, q_13, q_14, q_15, q_16⟩ := u_3
    try dsimp only at hr_2
    obtain ⟨hbq_4, hbq_5, hbq_8, hbq_10, hbq_11, hbq_12, hpq_13, hpq_14, hwq_15, hpq_16, hsr_2_0, hsr_2_1, hsr_2_2, hsr_2_3, hsr_2_4, hsr_2_5, hsr_2_6, hr_2⟩ := hr_2
    have h9R := zRe (ws' := ((x0, .inr (7, [.ref xs, .ref j0, .ref k0, .ref w0, .ref rd, .ref mv, .ref xr, .int im, .int lf])) :: (xr, .inl (cI, 8, .inl fr)) :: (xs, .inl (cS, 8, .inr (.inr (.inr (.inr fh))))) :: (a0, .inr (4, [.ref b0, .int he0, .int si0])) :: (a1, .inr (4, [.ref b1, .int he1, .int si1])) :: (a2, .inr (4, [.ref b2, .int he2, .int si2])) :: (a3, .inr (4, [.ref b3, .int he3, .int si3])) :: (a4, .inr (4, [.ref b4, .int he4, .int si4])) :: (a5, .inr (4, [.ref b5, .int he5, .int si5])) :: (a6, .inr (4, [.ref b6, .int he6, .int si6])) :: (a7, .inr (4, [.ref b7, .int he7, .int si7])) :: (j0, .inr (0, [.ref z0, .ref jp, .ref jc, .int q_4, .int q_5, .int q_6, .int q_7, .int q_8, .int q_9])) :: (z0, .inr (6, [.ref zl, .ref zs, .int q_10, .int q_11, .int q_12])) :: (zl, .inl (cZ, 40, .inl q_13)) :: (zs, .inl (cI, 40, .inl q_14)) :: (jp, .inl (cP, 8, .inr (.inr (.inr (.inr q_15))))) :: (jc, .inl (cI, 3, .inl q_16)) :: (k0, .inr (0, [.ref kz, .ref kp, .ref kc, .int kcn, .int kde, .int ktr, .int kse, .int khu, .int ksd])) :: (kz, .inr (6, [.ref kzl, .ref kzs, .int ksz, .int kat, .int kgp])) :: (kzl, .inl (cZ, 40, .inl kfl)) :: (kzs, .inl (cI, 40, .inl kfs)) :: (kp, .inl (cP, 8, .inr (.inr (.inr (.inr fkp))))) :: (kc, .inl (cI, 3, .inl fkc)) :: [])) hP hD rfl
    clear hP hD
    obtain ⟨hP, hD⟩ := h9R
    refine lv_iconst (v := 0) hx hb dX7_restore_25 (by decide) ?_
    refine lv_istore_n (lv' := [(1, .int 0), (0, .ref x0)]) hx hb dX7_restore_26 rfl hl (by decide) rfl (fun ls hl => ?_)
    refine lv_iload_n hx hb dX7_restore_27 rfl (lv_at hl 0 rfl) ?_
    refine lv_bipush (v := 8) hx hb dX7_restore_28 (by decide) ?_
    refine lv_icmp_ge (tgt := 55) hx hb dX7_restore_30 (by decide) (fun c_17 => ?_) (fun c_17 => ?_)
    · exact absurd c_17 (by decide)
    · refine lv_aload_n hx hb dX7_restore_33 rfl (lv_at hl 1 rfl) ?_
      refine va_get (D := D) (ci := 7) (v := .ref xs) (C := RX7) (T := TX7) (N := 9) hx hb hts hi_X7_restore_7 hown hK hP 0 rfl rfl 0 (by decide) (hts (.fieldLink RX7 11 "TheLiningsInIt" "shelves" "[LTheLiningsInIt$Shelf;") (List.mem_of_getElem? (i := 4) rfl)) (fun _ h9 => h9) rfl dX7_restore_34 ?_
      refine lv_iload_n hx hb dX7_restore_37 rfl (lv_at hl 0 rfl) ?_
      refine va_aldq hx hb hK hP 2 4 rfl rfl (zf_in (by decide) (by decide)) dX7_restore_38 ?_
      have h9f : fh (0 : Int32).toNatClampNeg = some a0 := by rw [show (0 : Int32).toNatClampNeg = 0 from by decide]; exact hfs0
      rw [h9f]
      refine W.eq (g2 := F0 m 39 ls (.ref a0 :: [])) rfl ?_
      refine lv_aload_n hx hb dX7_restore_39 rfl (lv_at hl 1 rfl) ?_
      refine va_get (D := D) (ci := 7) (v := .ref j0) (C := RX7) (T := TX7) (N := 9) hx hb hts hi_X7_restore_7 hown hK hP 0 rfl rfl 1 (by decide) (hts (.fieldLink RX7 18 "TheLiningsInIt" "now" "LTheLiningsInIt$Jacket;") (List.mem_of_getElem? (i := 2) rfl)) (fun _ h9 => h9) rfl dX7_restore_40 ?_
      refine va_get (D := D) (ci := 0) (v := .int q_4) (C := RX0) (T := TX0) (N := 9) hx hb hts hi_X7_restore_0 hown hK hP 11 rfl rfl 3 (by decide) (hts (.fieldLink RX7 123 "TheLiningsInIt$Jacket" "pullCount" "I") (List.mem_of_getElem? (i := 5) rfl)) (fun _ h9 => h9) rfl dX7_restore_43 ?_
      skip
      refine zw_Vv (As := [.int q_4]) (rest := []) (wr := ((x0, .inr (7, [.ref xs, .ref j0, .ref k0, .ref w0, .ref rd, .ref mv, .ref xr, .int im, .int lf])) :: (xr, .inl (cI, 8, .inl fr)) :: (xs, .inl (cS, 8, .inr (.inr (.inr (.inr fh))))) :: (a1, .inr (4, [.ref b1, .int he1, .int si1])) :: (a2, .inr (4, [.ref b2, .int he2, .int si2])) :: (a3, .inr (4, [.ref b3, .int he3, .int si3])) :: (a4, .inr (4, [.ref b4, .int he4, .int si4])) :: (a5, .inr (4, [.ref b5, .int he5, .int si5])) :: (a6, .inr (4, [.ref b6, .int he6, .int si6])) :: (a7, .inr (4, [.ref b7, .int he7, .int si7])) :: (j0, .inr (0, [.ref z0, .ref jp, .ref jc, .int q_4, .int q_5, .int q_6, .int q_7, .int q_8, .int q_9])) :: (z0, .inr (6, [.ref zl, .ref zs, .int q_10, .int q_11, .int q_12])) :: (zl, .inl (cZ, 40, .inl q_13)) :: (zs, .inl (cI, 40, .inl q_14)) :: (jp, .inl (cP, 8, .inr (.inr (.inr (.inr q_15))))) :: (jc, .inl (cI, 3, .inl q_16)) :: (k0, .inr (0, [.ref kz, .ref kp, .ref kc, .int kcn, .int kde, .int ktr, .int kse, .int khu, .int ksd])) :: (kz, .inr (6, [.ref kzl, .ref kzs, .int ksz, .int kat, .int kgp])) :: (kzl, .inl (cZ, 40, .inl kfl)) :: (kzs, .inl (cI, 40, .inl kfs)) :: (kp, .inl (cP, 8, .inr (.inr (.inr (.inr fkp))))) :: (kc, .inl (cI, 3, .inl fkc)) :: [])) ⟨hx, hb, hml, hown, hts⟩ (c_F_Sh_forgetFrom l D cI cJ cZ cP cS po a0 b0 (he0) (si0) (q_4) hy31 hy32 hy33 hy34 H.size) (cwV 1 hts gX7_restore_X4_forgetFrom rfl rfl rfl ⟨rfl, dh_X4_forgetFrom⟩ ⟨Nat.le_of_ble_eq_true rfl, Nat.le_of_ble_eq_true rfl⟩) hK hN (hZ.kept hS) hP hD hS hA [3] [0, 1, 2, 4, 5, 6, 7, 8, 9, 10, 11, 12, 13, 14, 15, 16, 17, 18, 19, 20, 21, 22] rfl rfl (by decide) (by decide) (by decide) (va_recv (q := (RX4, TX4, 3)) hK hP (ci := 4) (q0 := 3) rfl rfl) rfl hl.1 rfl (Nat.le_of_ble_eq_true rfl) dX7_restore_46 ⟨Nat.le_of_ble_eq_true rfl, Nat.le_of_ble_eq_true rfl⟩ (fun u_19 H locs hr_18 hP hD hS => ?_)
      obtain ⟨q_20, rfl⟩ : ∃ z, z = u_19 := ⟨_, rfl⟩
      obtain ⟨hbq_20, hsr_18_0, hr_18⟩ := hr_18
      have h9R := zRe (ws' := ((x0, .inr (7, [.ref xs, .ref j0, .ref k0, .ref w0, .ref rd, .ref mv, .ref xr, .int im, .int lf])) :: (xr, .inl (cI, 8, .inl fr)) :: (xs, .inl (cS, 8, .inr (.inr (.inr (.inr fh))))) :: (a1, .inr (4, [.ref b1, .int he1, .int si1])) :: (a2, .inr (4, [.ref b2, .int he2, .int si2])) :: (a3, .inr (4, [.ref b3, .int he3, .int si3])) :: (a4, .inr (4, [.ref b4, .int he4, .int si4])) :: (a5, .inr (4, [.ref b5, .int he5, .int si5])) :: (a6, .inr (4, [.ref b6, .int he6, .int si6])) :: (a7, .inr (4, [.ref b7, .int he7, .int si7])) :: (j0, .inr (0, [.ref z0, .ref jp, .ref jc, .int q_4, .int q_5, .int q_6, .int q_7, .int q_8, .int q_9])) :: (z0, .inr (6, [.ref zl, .ref zs, .int q_10, .int q_11, .int q_12])) :: (zl, .inl (cZ, 40, .inl q_13)) :: (zs, .inl (cI, 40, .inl q_14)) :: (jp, .inl (cP, 8, .inr (.inr (.inr (.inr q_15))))) :: (jc, .inl (cI, 3, .inl q_16)) :: (k0, .inr (0, [.ref kz, .ref kp, .ref kc, .int kcn, .int kde, .int ktr, .int kse, .int khu, .int ksd])) :: (kz, .inr (6, [.ref kzl, .ref kzs, .int ksz, .int kat, .int kgp])) :: (kzl, .inl (cZ, 40, .inl kfl)) :: (kzs, .inl (cI, 40, .inl kfs)) :: (kp, .inl (cP, 8, .inr (.inr (.inr (.inr fkp))))) :: (kc, .inl (cI, 3, .inl fkc)) :: (a0, .inr (4, [.ref b0, .int q_20, .int si0])) :: [])) hP hD rfl
      clear hP hD
      obtain ⟨hP, hD⟩ := h9R
      refine lv_iinc (v := 1) (lv' := [(1, .int 1), (0, .ref x0)]) hx hb dX7_restore_49 hl (k := 0) rfl (by decide) (by decide) rfl (fun ls hl => ?_)
      refine lv_goto (tgt := 27) hx hb dX7_restore_52 (by decide) ?_
      refine lv_iload_n hx hb dX7_restore_27 rfl (lv_at hl 0 rfl) ?_
      refine lv_bipush (v := 8) hx hb dX7_restore_28 (by decide) ?_
      refine lv_icmp_ge (tgt := 55) hx hb dX7_restore_30 (by decide) (fun c_21 => ?_) (fun c_21 => ?_)
      · exact absurd c_21 (by decide)
      · refine lv_aload_n hx hb dX7_restore_33 rfl (lv_at hl 1 rfl) ?_
        refine va_get (D := D) (ci := 7) (v := .ref xs) (C := RX7) (T := TX7) (N := 9) hx hb hts hi_X7_restore_7 hown hK hP 0 rfl rfl 0 (by decide) (hts (.fieldLink RX7 11 "TheLiningsInIt" "shelves" "[LTheLiningsInIt$Shelf;") (List.mem_of_getElem? (i := 4) rfl)) (fun _ h9 => h9) rfl dX7_restore_34 ?_
        refine lv_iload_n hx hb dX7_restore_37 rfl (lv_at hl 0 rfl) ?_
        refine va_aldq hx hb hK hP 2 4 rfl rfl (zf_in (by decide) (by decide)) dX7_restore_38 ?_
        have h9f : fh (1 : Int32).toNatClampNeg = some a1 := by rw [show (1 : Int32).toNatClampNeg = 1 from by decide]; exact hfs1
        rw [h9f]
        refine W.eq (g2 := F0 m 39 ls (.ref a1 :: [])) rfl ?_
        refine lv_aload_n hx hb dX7_restore_39 rfl (lv_at hl 1 rfl) ?_
        refine va_get (D := D) (ci := 7) (v := .ref j0) (C := RX7) (T := TX7) (N := 9) hx hb hts hi_X7_restore_7 hown hK hP 0 rfl rfl 1 (by decide) (hts (.fieldLink RX7 18 "TheLiningsInIt" "now" "LTheLiningsInIt$Jacket;") (List.mem_of_getElem? (i := 2) rfl)) (fun _ h9 => h9) rfl dX7_restore_40 ?_
        refine va_get (D := D) (ci := 0) (v := .int q_4) (C := RX0) (T := TX0) (N := 9) hx hb hts hi_X7_restore_0 hown hK hP 10 rfl rfl 3 (by decide) (hts (.fieldLink RX7 123 "TheLiningsInIt$Jacket" "pullCount" "I") (List.mem_of_getElem? (i := 5) rfl)) (fun _ h9 => h9) rfl dX7_restore_43 ?_
        skip
        refine zw_Vv (As := [.int q_4]) (rest := []) (wr := ((x0, .inr (7, [.ref xs, .ref j0, .ref k0, .ref w0, .ref rd, .ref mv, .ref xr, .int im, .int lf])) :: (xr, .inl (cI, 8, .inl fr)) :: (xs, .inl (cS, 8, .inr (.inr (.inr (.inr fh))))) :: (a2, .inr (4, [.ref b2, .int he2, .int si2])) :: (a3, .inr (4, [.ref b3, .int he3, .int si3])) :: (a4, .inr (4, [.ref b4, .int he4, .int si4])) :: (a5, .inr (4, [.ref b5, .int he5, .int si5])) :: (a6, .inr (4, [.ref b6, .int he6, .int si6])) :: (a7, .inr (4, [.ref b7, .int he7, .int si7])) :: (j0, .inr (0, [.ref z0, .ref jp, .ref jc, .int q_4, .int q_5, .int q_6, .int q_7, .int q_8, .int q_9])) :: (z0, .inr (6, [.ref zl, .ref zs, .int q_10, .int q_11, .int q_12])) :: (zl, .inl (cZ, 40, .inl q_13)) :: (zs, .inl (cI, 40, .inl q_14)) :: (jp, .inl (cP, 8, .inr (.inr (.inr (.inr q_15))))) :: (jc, .inl (cI, 3, .inl q_16)) :: (k0, .inr (0, [.ref kz, .ref kp, .ref kc, .int kcn, .int kde, .int ktr, .int kse, .int khu, .int ksd])) :: (kz, .inr (6, [.ref kzl, .ref kzs, .int ksz, .int kat, .int kgp])) :: (kzl, .inl (cZ, 40, .inl kfl)) :: (kzs, .inl (cI, 40, .inl kfs)) :: (kp, .inl (cP, 8, .inr (.inr (.inr (.inr fkp))))) :: (kc, .inl (cI, 3, .inl fkc)) :: (a0, .inr (4, [.ref b0, .int q_20, .int si0])) :: [])) ⟨hx, hb, hml, hown, hts⟩ (c_F_Sh_forgetFrom l D cI cJ cZ cP cS po a1 b1 (he1) (si1) (q_4) hy35 hy36 hy37 hy38 H.size) (cwV 1 hts gX7_restore_X4_forgetFrom rfl rfl rfl ⟨rfl, dh_X4_forgetFrom⟩ ⟨Nat.le_of_ble_eq_true rfl, Nat.le_of_ble_eq_true rfl⟩) hK hN (hZ.kept hS) hP hD hS hA [3] [0, 1, 2, 4, 5, 6, 7, 8, 9, 10, 11, 12, 13, 14, 15, 16, 17, 18, 19, 20, 21, 22] rfl rfl (by decide) (by decide) (by decide) (va_recv (q := (RX4, TX4, 3)) hK hP (ci := 4) (q0 := 3) rfl rfl) rfl hl.1 rfl (Nat.le_of_ble_eq_true rfl) dX7_restore_46 ⟨Nat.le_of_ble_eq_true rfl, Nat.le_of_ble_eq_true rfl⟩ (fun u_23 H locs hr_22 hP hD hS => ?_)
        obtain ⟨q_24, rfl⟩ : ∃ z, z = u_23 := ⟨_, rfl⟩
        obtain ⟨hbq_24, hsr_22_0, hr_22⟩ := hr_22
        have h9R := zRe (ws' := ((x0, .inr (7, [.ref xs, .ref j0, .ref k0, .ref w0, .ref rd, .ref mv, .ref xr, .int im, .int lf])) :: (xr, .inl (cI, 8, .inl fr)) :: (xs, .inl (cS, 8, .inr (.inr (.inr (.inr fh))))) :: (a2, .inr (4, [.ref b2, .int he2, .int si2])) :: (a3, .inr (4, [.ref b3, .int he3, .int si3])) :: (a4, .inr (4, [.ref b4, .int he4, .int si4])) :: (a5, .inr (4, [.ref b5, .int he5, .int si5])) :: (a6, .inr (4, [.ref b6, .int he6, .int si6])) :: (a7, .inr (4, [.ref b7, .int he7, .int si7])) :: (j0, .inr (0, [.ref z0, .ref jp, .ref jc, .int q_4, .int q_5, .int q_6, .int q_7, .int q_8, .int q_9])) :: (z0, .inr (6, [.ref zl, .ref zs, .int q_10, .int q_11, .int q_12])) :: (zl, .inl (cZ, 40, .inl q_13)) :: (zs, .inl (cI, 40, .inl q_14)) :: (jp, .inl (cP, 8, .inr (.inr (.inr (.inr q_15))))) :: (jc, .inl (cI, 3, .inl q_16)) :: (k0, .inr (0, [.ref kz, .ref kp, .ref kc, .int kcn, .int kde, .int ktr, .int kse, .int khu, .int ksd])) :: (kz, .inr (6, [.ref kzl, .ref kzs, .int ksz, .int kat, .int kgp])) :: (kzl, .inl (cZ, 40, .inl kfl)) :: (kzs, .inl (cI, 40, .inl kfs)) :: (kp, .inl (cP, 8, .inr (.inr (.inr (.inr fkp))))) :: (kc, .inl (cI, 3, .inl fkc)) :: (a0, .inr (4, [.ref b0, .int q_20, .int si0])) :: (a1, .inr (4, [.ref b1, .int q_24, .int si1])) :: [])) hP hD rfl
        clear hP hD
        obtain ⟨hP, hD⟩ := h9R
        refine lv_iinc (v := 2) (lv' := [(1, .int 2), (0, .ref x0)]) hx hb dX7_restore_49 hl (k := 0) rfl (by decide) (by decide) rfl (fun ls hl => ?_)
        refine lv_goto (tgt := 27) hx hb dX7_restore_52 (by decide) ?_
        refine lv_iload_n hx hb dX7_restore_27 rfl (lv_at hl 0 rfl) ?_
        refine lv_bipush (v := 8) hx hb dX7_restore_28 (by decide) ?_
        refine lv_icmp_ge (tgt := 55) hx hb dX7_restore_30 (by decide) (fun c_25 => ?_) (fun c_25 => ?_)
        · exact absurd c_25 (by decide)
        · refine lv_aload_n hx hb dX7_restore_33 rfl (lv_at hl 1 rfl) ?_
          refine va_get (D := D) (ci := 7) (v := .ref xs) (C := RX7) (T := TX7) (N := 9) hx hb hts hi_X7_restore_7 hown hK hP 0 rfl rfl 0 (by decide) (hts (.fieldLink RX7 11 "TheLiningsInIt" "shelves" "[LTheLiningsInIt$Shelf;") (List.mem_of_getElem? (i := 4) rfl)) (fun _ h9 => h9) rfl dX7_restore_34 ?_
          refine lv_iload_n hx hb dX7_restore_37 rfl (lv_at hl 0 rfl) ?_
          refine va_aldq hx hb hK hP 2 4 rfl rfl (zf_in (by decide) (by decide)) dX7_restore_38 ?_
          have h9f : fh (2 : Int32).toNatClampNeg = some a2 := by rw [show (2 : Int32).toNatClampNeg = 2 from by decide]; exact hfs2
          rw [h9f]
          refine W.eq (g2 := F0 m 39 ls (.ref a2 :: [])) rfl ?_
          refine lv_aload_n hx hb dX7_restore_39 rfl (lv_at hl 1 rfl) ?_
          refine va_get (D := D) (ci := 7) (v := .ref j0) (C := RX7) (T := TX7) (N := 9) hx hb hts hi_X7_restore_7 hown hK hP 0 rfl rfl 1 (by decide) (hts (.fieldLink RX7 18 "TheLiningsInIt" "now" "LTheLiningsInIt$Jacket;") (List.mem_of_getElem? (i := 2) rfl)) (fun _ h9 => h9) rfl dX7_restore_40 ?_
          refine va_get (D := D) (ci := 0) (v := .int q_4) (C := RX0) (T := TX0) (N := 9) hx hb hts hi_X7_restore_0 hown hK hP 9 rfl rfl 3 (by decide) (hts (.fieldLink RX7 123 "TheLiningsInIt$Jacket" "pullCount" "I") (List.mem_of_getElem? (i := 5) rfl)) (fun _ h9 => h9) rfl dX7_restore_43 ?_
          skip
          refine zw_Vv (As := [.int q_4]) (rest := []) (wr := ((x0, .inr (7, [.ref xs, .ref j0, .ref k0, .ref w0, .ref rd, .ref mv, .ref xr, .int im, .int lf])) :: (xr, .inl (cI, 8, .inl fr)) :: (xs, .inl (cS, 8, .inr (.inr (.inr (.inr fh))))) :: (a3, .inr (4, [.ref b3, .int he3, .int si3])) :: (a4, .inr (4, [.ref b4, .int he4, .int si4])) :: (a5, .inr (4, [.ref b5, .int he5, .int si5])) :: (a6, .inr (4, [.ref b6, .int he6, .int si6])) :: (a7, .inr (4, [.ref b7, .int he7, .int si7])) :: (j0, .inr (0, [.ref z0, .ref jp, .ref jc, .int q_4, .int q_5, .int q_6, .int q_7, .int q_8, .int q_9])) :: (z0, .inr (6, [.ref zl, .ref zs, .int q_10, .int q_11, .int q_12])) :: (zl, .inl (cZ, 40, .inl q_13)) :: (zs, .inl (cI, 40, .inl q_14)) :: (jp, .inl (cP, 8, .inr (.inr (.inr (.inr q_15))))) :: (jc, .inl (cI, 3, .inl q_16)) :: (k0, .inr (0, [.ref kz, .ref kp, .ref kc, .int kcn, .int kde, .int ktr, .int kse, .int khu, .int ksd])) :: (kz, .inr (6, [.ref kzl, .ref kzs, .int ksz, .int kat, .int kgp])) :: (kzl, .inl (cZ, 40, .inl kfl)) :: (kzs, .inl (cI, 40, .inl kfs)) :: (kp, .inl (cP, 8, .inr (.inr (.inr (.inr fkp))))) :: (kc, .inl (cI, 3, .inl fkc)) :: (a0, .inr (4, [.ref b0, .int q_20, .int si0])) :: (a1, .inr (4, [.ref b1, .int q_24, .int si1])) :: [])) ⟨hx, hb, hml, hown, hts⟩ (c_F_Sh_forgetFrom l D cI cJ cZ cP cS po a2 b2 (he2) (si2) (q_4) hy39 hy40 hy41 hy42 H.size) (cwV 1 hts gX7_restore_X4_forgetFrom rfl rfl rfl ⟨rfl, dh_X4_forgetFrom⟩ ⟨Nat.le_of_ble_eq_true rfl, Nat.le_of_ble_eq_true rfl⟩) hK hN (hZ.kept hS) hP hD hS hA [3] [0, 1, 2, 4, 5, 6, 7, 8, 9, 10, 11, 12, 13, 14, 15, 16, 17, 18, 19, 20, 21, 22] rfl rfl (by decide) (by decide) (by decide) (va_recv (q := (RX4, TX4, 3)) hK hP (ci := 4) (q0 := 3) rfl rfl) rfl hl.1 rfl (Nat.le_of_ble_eq_true rfl) dX7_restore_46 ⟨Nat.le_of_ble_eq_true rfl, Nat.le_of_ble_eq_true rfl⟩ (fun u_27 H locs hr_26 hP hD hS => ?_)
          obtain ⟨q_28, rfl⟩ : ∃ z, z = u_27 := ⟨_, rfl⟩
          obtain ⟨hbq_28, hsr_26_0, hr_26⟩ := hr_26
          have h9R := zRe (ws' := ((x0, .inr (7, [.ref xs, .ref j0, .ref k0, .ref w0, .ref rd, .ref mv, .ref xr, .int im, .int lf])) :: (xr, .inl (cI, 8, .inl fr)) :: (xs, .inl (cS, 8, .inr (.inr (.inr (.inr fh))))) :: (a3, .inr (4, [.ref b3, .int he3, .int si3])) :: (a4, .inr (4, [.ref b4, .int he4, .int si4])) :: (a5, .inr (4, [.ref b5, .int he5, .int si5])) :: (a6, .inr (4, [.ref b6, .int he6, .int si6])) :: (a7, .inr (4, [.ref b7, .int he7, .int si7])) :: (j0, .inr (0, [.ref z0, .ref jp, .ref jc, .int q_4, .int q_5, .int q_6, .int q_7, .int q_8, .int q_9])) :: (z0, .inr (6, [.ref zl, .ref zs, .int q_10, .int q_11, .int q_12])) :: (zl, .inl (cZ, 40, .inl q_13)) :: (zs, .inl (cI, 40, .inl q_14)) :: (jp, .inl (cP, 8, .inr (.inr (.inr (.inr q_15))))) :: (jc, .inl (cI, 3, .inl q_16)) :: (k0, .inr (0, [.ref kz, .ref kp, .ref kc, .int kcn, .int kde, .int ktr, .int kse, .int khu, .int ksd])) :: (kz, .inr (6, [.ref kzl, .ref kzs, .int ksz, .int kat, .int kgp])) :: (kzl, .inl (cZ, 40, .inl kfl)) :: (kzs, .inl (cI, 40, .inl kfs)) :: (kp, .inl (cP, 8, .inr (.inr (.inr (.inr fkp))))) :: (kc, .inl (cI, 3, .inl fkc)) :: (a0, .inr (4, [.ref b0, .int q_20, .int si0])) :: (a1, .inr (4, [.ref b1, .int q_24, .int si1])) :: (a2, .inr (4, [.ref b2, .int q_28, .int si2])) :: [])) hP hD rfl
          clear hP hD
          obtain ⟨hP, hD⟩ := h9R
          refine lv_iinc (v := 3) (lv' := [(1, .int 3), (0, .ref x0)]) hx hb dX7_restore_49 hl (k := 0) rfl (by decide) (by decide) rfl (fun ls hl => ?_)
          refine lv_goto (tgt := 27) hx hb dX7_restore_52 (by decide) ?_
          refine lv_iload_n hx hb dX7_restore_27 rfl (lv_at hl 0 rfl) ?_
          refine lv_bipush (v := 8) hx hb dX7_restore_28 (by decide) ?_
          refine lv_icmp_ge (tgt := 55) hx hb dX7_restore_30 (by decide) (fun c_29 => ?_) (fun c_29 => ?_)
          · exact absurd c_29 (by decide)
          · refine lv_aload_n hx hb dX7_restore_33 rfl (lv_at hl 1 rfl) ?_
            refine va_get (D := D) (ci := 7) (v := .ref xs) (C := RX7) (T := TX7) (N := 9) hx hb hts hi_X7_restore_7 hown hK hP 0 rfl rfl 0 (by decide) (hts (.fieldLink RX7 11 "TheLiningsInIt" "shelves" "[LTheLiningsInIt$Shelf;") (List.mem_of_getElem? (i := 4) rfl)) (fun _ h9 => h9) rfl dX7_restore_34 ?_
            refine lv_iload_n hx hb dX7_restore_37 rfl (lv_at hl 0 rfl) ?_
            refine va_aldq hx hb hK hP 2 4 rfl rfl (zf_in (by decide) (by decide)) dX7_restore_38 ?_
            have h9f : fh (3 : Int32).toNatClampNeg = some a3 := by rw [show (3 : Int32).toNatClampNeg = 3 from by decide]; exact hfs3
            rw [h9f]
            refine W.eq (g2 := F0 m 39 ls (.ref a3 :: [])) rfl ?_
            refine lv_aload_n hx hb dX7_restore_39 rfl (lv_at hl 1 rfl) ?_
            refine va_get (D := D) (ci := 7) (v := .ref j0) (C := RX7) (T := TX7) (N := 9) hx hb hts hi_X7_restore_7 hown hK hP 0 rfl rfl 1 (by decide) (hts (.fieldLink RX7 18 "TheLiningsInIt" "now" "LTheLiningsInIt$Jacket;") (List.mem_of_getElem? (i := 2) rfl)) (fun _ h9 => h9) rfl dX7_restore_40 ?_
            refine va_get (D := D) (ci := 0) (v := .int q_4) (C := RX0) (T := TX0) (N := 9) hx hb hts hi_X7_restore_0 hown hK hP 8 rfl rfl 3 (by decide) (hts (.fieldLink RX7 123 "TheLiningsInIt$Jacket" "pullCount" "I") (List.mem_of_getElem? (i := 5) rfl)) (fun _ h9 => h9) rfl dX7_restore_43 ?_
            skip
            refine zw_Vv (As := [.int q_4]) (rest := []) (wr := ((x0, .inr (7, [.ref xs, .ref j0, .ref k0, .ref w0, .ref rd, .ref mv, .ref xr, .int im, .int lf])) :: (xr, .inl (cI, 8, .inl fr)) :: (xs, .inl (cS, 8, .inr (.inr (.inr (.inr fh))))) :: (a4, .inr (4, [.ref b4, .int he4, .int si4])) :: (a5, .inr (4, [.ref b5, .int he5, .int si5])) :: (a6, .inr (4, [.ref b6, .int he6, .int si6])) :: (a7, .inr (4, [.ref b7, .int he7, .int si7])) :: (j0, .inr (0, [.ref z0, .ref jp, .ref jc, .int q_4, .int q_5, .int q_6, .int q_7, .int q_8, .int q_9])) :: (z0, .inr (6, [.ref zl, .ref zs, .int q_10, .int q_11, .int q_12])) :: (zl, .inl (cZ, 40, .inl q_13)) :: (zs, .inl (cI, 40, .inl q_14)) :: (jp, .inl (cP, 8, .inr (.inr (.inr (.inr q_15))))) :: (jc, .inl (cI, 3, .inl q_16)) :: (k0, .inr (0, [.ref kz, .ref kp, .ref kc, .int kcn, .int kde, .int ktr, .int kse, .int khu, .int ksd])) :: (kz, .inr (6, [.ref kzl, .ref kzs, .int ksz, .int kat, .int kgp])) :: (kzl, .inl (cZ, 40, .inl kfl)) :: (kzs, .inl (cI, 40, .inl kfs)) :: (kp, .inl (cP, 8, .inr (.inr (.inr (.inr fkp))))) :: (kc, .inl (cI, 3, .inl fkc)) :: (a0, .inr (4, [.ref b0, .int q_20, .int si0])) :: (a1, .inr (4, [.ref b1, .int q_24, .int si1])) :: (a2, .inr (4, [.ref b2, .int q_28, .int si2])) :: [])) ⟨hx, hb, hml, hown, hts⟩ (c_F_Sh_forgetFrom l D cI cJ cZ cP cS po a3 b3 (he3) (si3) (q_4) hy43 hy44 hy45 hy46 H.size) (cwV 1 hts gX7_restore_X4_forgetFrom rfl rfl rfl ⟨rfl, dh_X4_forgetFrom⟩ ⟨Nat.le_of_ble_eq_true rfl, Nat.le_of_ble_eq_true rfl⟩) hK hN (hZ.kept hS) hP hD hS hA [3] [0, 1, 2, 4, 5, 6, 7, 8, 9, 10, 11, 12, 13, 14, 15, 16, 17, 18, 19, 20, 21, 22] rfl rfl (by decide) (by decide) (by decide) (va_recv (q := (RX4, TX4, 3)) hK hP (ci := 4) (q0 := 3) rfl rfl) rfl hl.1 rfl (Nat.le_of_ble_eq_true rfl) dX7_restore_46 ⟨Nat.le_of_ble_eq_true rfl, Nat.le_of_ble_eq_true rfl⟩ (fun u_31 H locs hr_30 hP hD hS => ?_)
            obtain ⟨q_32, rfl⟩ : ∃ z, z = u_31 := ⟨_, rfl⟩
            obtain ⟨hbq_32, hsr_30_0, hr_30⟩ := hr_30
            have h9R := zRe (ws' := ((x0, .inr (7, [.ref xs, .ref j0, .ref k0, .ref w0, .ref rd, .ref mv, .ref xr, .int im, .int lf])) :: (xr, .inl (cI, 8, .inl fr)) :: (xs, .inl (cS, 8, .inr (.inr (.inr (.inr fh))))) :: (a4, .inr (4, [.ref b4, .int he4, .int si4])) :: (a5, .inr (4, [.ref b5, .int he5, .int si5])) :: (a6, .inr (4, [.ref b6, .int he6, .int si6])) :: (a7, .inr (4, [.ref b7, .int he7, .int si7])) :: (j0, .inr (0, [.ref z0, .ref jp, .ref jc, .int q_4, .int q_5, .int q_6, .int q_7, .int q_8, .int q_9])) :: (z0, .inr (6, [.ref zl, .ref zs, .int q_10, .int q_11, .int q_12])) :: (zl, .inl (cZ, 40, .inl q_13)) :: (zs, .inl (cI, 40, .inl q_14)) :: (jp, .inl (cP, 8, .inr (.inr (.inr (.inr q_15))))) :: (jc, .inl (cI, 3, .inl q_16)) :: (k0, .inr (0, [.ref kz, .ref kp, .ref kc, .int kcn, .int kde, .int ktr, .int kse, .int khu, .int ksd])) :: (kz, .inr (6, [.ref kzl, .ref kzs, .int ksz, .int kat, .int kgp])) :: (kzl, .inl (cZ, 40, .inl kfl)) :: (kzs, .inl (cI, 40, .inl kfs)) :: (kp, .inl (cP, 8, .inr (.inr (.inr (.inr fkp))))) :: (kc, .inl (cI, 3, .inl fkc)) :: (a0, .inr (4, [.ref b0, .int q_20, .int si0])) :: (a1, .inr (4, [.ref b1, .int q_24, .int si1])) :: (a2, .inr (4, [.ref b2, .int q_28, .int si2])) :: (a3, .inr (4, [.ref b3, .int q_32, .int si3])) :: [])) hP hD rfl
            clear hP hD
            obtain ⟨hP, hD⟩ := h9R
            refine lv_iinc (v := 4) (lv' := [(1, .int 4), (0, .ref x0)]) hx hb dX7_restore_49 hl (k := 0) rfl (by decide) (by decide) rfl (fun ls hl => ?_)
            refine lv_goto (tgt := 27) hx hb dX7_restore_52 (by decide) ?_
            refine lv_iload_n hx hb dX7_restore_27 rfl (lv_at hl 0 rfl) ?_
            refine lv_bipush (v := 8) hx hb dX7_restore_28 (by decide) ?_
            refine lv_icmp_ge (tgt := 55) hx hb dX7_restore_30 (by decide) (fun c_33 => ?_) (fun c_33 => ?_)
            · exact absurd c_33 (by decide)
            · refine lv_aload_n hx hb dX7_restore_33 rfl (lv_at hl 1 rfl) ?_
              refine va_get (D := D) (ci := 7) (v := .ref xs) (C := RX7) (T := TX7) (N := 9) hx hb hts hi_X7_restore_7 hown hK hP 0 rfl rfl 0 (by decide) (hts (.fieldLink RX7 11 "TheLiningsInIt" "shelves" "[LTheLiningsInIt$Shelf;") (List.mem_of_getElem? (i := 4) rfl)) (fun _ h9 => h9) rfl dX7_restore_34 ?_
              refine lv_iload_n hx hb dX7_restore_37 rfl (lv_at hl 0 rfl) ?_
              refine va_aldq hx hb hK hP 2 4 rfl rfl (zf_in (by decide) (by decide)) dX7_restore_38 ?_
              have h9f : fh (4 : Int32).toNatClampNeg = some a4 := by rw [show (4 : Int32).toNatClampNeg = 4 from by decide]; exact hfs4
              rw [h9f]
              refine W.eq (g2 := F0 m 39 ls (.ref a4 :: [])) rfl ?_
              refine lv_aload_n hx hb dX7_restore_39 rfl (lv_at hl 1 rfl) ?_
              refine va_get (D := D) (ci := 7) (v := .ref j0) (C := RX7) (T := TX7) (N := 9) hx hb hts hi_X7_restore_7 hown hK hP 0 rfl rfl 1 (by decide) (hts (.fieldLink RX7 18 "TheLiningsInIt" "now" "LTheLiningsInIt$Jacket;") (List.mem_of_getElem? (i := 2) rfl)) (fun _ h9 => h9) rfl dX7_restore_40 ?_
              refine va_get (D := D) (ci := 0) (v := .int q_4) (C := RX0) (T := TX0) (N := 9) hx hb hts hi_X7_restore_0 hown hK hP 7 rfl rfl 3 (by decide) (hts (.fieldLink RX7 123 "TheLiningsInIt$Jacket" "pullCount" "I") (List.mem_of_getElem? (i := 5) rfl)) (fun _ h9 => h9) rfl dX7_restore_43 ?_
              skip
              refine zw_Vv (As := [.int q_4]) (rest := []) (wr := ((x0, .inr (7, [.ref xs, .ref j0, .ref k0, .ref w0, .ref rd, .ref mv, .ref xr, .int im, .int lf])) :: (xr, .inl (cI, 8, .inl fr)) :: (xs, .inl (cS, 8, .inr (.inr (.inr (.inr fh))))) :: (a5, .inr (4, [.ref b5, .int he5, .int si5])) :: (a6, .inr (4, [.ref b6, .int he6, .int si6])) :: (a7, .inr (4, [.ref b7, .int he7, .int si7])) :: (j0, .inr (0, [.ref z0, .ref jp, .ref jc, .int q_4, .int q_5, .int q_6, .int q_7, .int q_8, .int q_9])) :: (z0, .inr (6, [.ref zl, .ref zs, .int q_10, .int q_11, .int q_12])) :: (zl, .inl (cZ, 40, .inl q_13)) :: (zs, .inl (cI, 40, .inl q_14)) :: (jp, .inl (cP, 8, .inr (.inr (.inr (.inr q_15))))) :: (jc, .inl (cI, 3, .inl q_16)) :: (k0, .inr (0, [.ref kz, .ref kp, .ref kc, .int kcn, .int kde, .int ktr, .int kse, .int khu, .int ksd])) :: (kz, .inr (6, [.ref kzl, .ref kzs, .int ksz, .int kat, .int kgp])) :: (kzl, .inl (cZ, 40, .inl kfl)) :: (kzs, .inl (cI, 40, .inl kfs)) :: (kp, .inl (cP, 8, .inr (.inr (.inr (.inr fkp))))) :: (kc, .inl (cI, 3, .inl fkc)) :: (a0, .inr (4, [.ref b0, .int q_20, .int si0])) :: (a1, .inr (4, [.ref b1, .int q_24, .int si1])) :: (a2, .inr (4, [.ref b2, .int q_28, .int si2])) :: (a3, .inr (4, [.ref b3, .int q_32, .int si3])) :: [])) ⟨hx, hb, hml, hown, hts⟩ (c_F_Sh_forgetFrom l D cI cJ cZ cP cS po a4 b4 (he4) (si4) (q_4) hy47 hy48 hy49 hy50 H.size) (cwV 1 hts gX7_restore_X4_forgetFrom rfl rfl rfl ⟨rfl, dh_X4_forgetFrom⟩ ⟨Nat.le_of_ble_eq_true rfl, Nat.le_of_ble_eq_true rfl⟩) hK hN (hZ.kept hS) hP hD hS hA [3] [0, 1, 2, 4, 5, 6, 7, 8, 9, 10, 11, 12, 13, 14, 15, 16, 17, 18, 19, 20, 21, 22] rfl rfl (by decide) (by decide) (by decide) (va_recv (q := (RX4, TX4, 3)) hK hP (ci := 4) (q0 := 3) rfl rfl) rfl hl.1 rfl (Nat.le_of_ble_eq_true rfl) dX7_restore_46 ⟨Nat.le_of_ble_eq_true rfl, Nat.le_of_ble_eq_true rfl⟩ (fun u_35 H locs hr_34 hP hD hS => ?_)
              obtain ⟨q_36, rfl⟩ : ∃ z, z = u_35 := ⟨_, rfl⟩
              obtain ⟨hbq_36, hsr_34_0, hr_34⟩ := hr_34
              have h9R := zRe (ws' := ((x0, .inr (7, [.ref xs, .ref j0, .ref k0, .ref w0, .ref rd, .ref mv, .ref xr, .int im, .int lf])) :: (xr, .inl (cI, 8, .inl fr)) :: (xs, .inl (cS, 8, .inr (.inr (.inr (.inr fh))))) :: (a5, .inr (4, [.ref b5, .int he5, .int si5])) :: (a6, .inr (4, [.ref b6, .int he6, .int si6])) :: (a7, .inr (4, [.ref b7, .int he7, .int si7])) :: (j0, .inr (0, [.ref z0, .ref jp, .ref jc, .int q_4, .int q_5, .int q_6, .int q_7, .int q_8, .int q_9])) :: (z0, .inr (6, [.ref zl, .ref zs, .int q_10, .int q_11, .int q_12])) :: (zl, .inl (cZ, 40, .inl q_13)) :: (zs, .inl (cI, 40, .inl q_14)) :: (jp, .inl (cP, 8, .inr (.inr (.inr (.inr q_15))))) :: (jc, .inl (cI, 3, .inl q_16)) :: (k0, .inr (0, [.ref kz, .ref kp, .ref kc, .int kcn, .int kde, .int ktr, .int kse, .int khu, .int ksd])) :: (kz, .inr (6, [.ref kzl, .ref kzs, .int ksz, .int kat, .int kgp])) :: (kzl, .inl (cZ, 40, .inl kfl)) :: (kzs, .inl (cI, 40, .inl kfs)) :: (kp, .inl (cP, 8, .inr (.inr (.inr (.inr fkp))))) :: (kc, .inl (cI, 3, .inl fkc)) :: (a0, .inr (4, [.ref b0, .int q_20, .int si0])) :: (a1, .inr (4, [.ref b1, .int q_24, .int si1])) :: (a2, .inr (4, [.ref b2, .int q_28, .int si2])) :: (a3, .inr (4, [.ref b3, .int q_32, .int si3])) :: (a4, .inr (4, [.ref b4, .int q_36, .int si4])) :: [])) hP hD rfl
              clear hP hD
              obtain ⟨hP, hD⟩ := h9R
              refine lv_iinc (v := 5) (lv' := [(1, .int 5), (0, .ref x0)]) hx hb dX7_restore_49 hl (k := 0) rfl (by decide) (by decide) rfl (fun ls hl => ?_)
              refine lv_goto (tgt := 27) hx hb dX7_restore_52 (by decide) ?_
              refine lv_iload_n hx hb dX7_restore_27 rfl (lv_at hl 0 rfl) ?_
              refine lv_bipush (v := 8) hx hb dX7_restore_28 (by decide) ?_
              refine lv_icmp_ge (tgt := 55) hx hb dX7_restore_30 (by decide) (fun c_37 => ?_) (fun c_37 => ?_)
              · exact absurd c_37 (by decide)
              · refine lv_aload_n hx hb dX7_restore_33 rfl (lv_at hl 1 rfl) ?_
                refine va_get (D := D) (ci := 7) (v := .ref xs) (C := RX7) (T := TX7) (N := 9) hx hb hts hi_X7_restore_7 hown hK hP 0 rfl rfl 0 (by decide) (hts (.fieldLink RX7 11 "TheLiningsInIt" "shelves" "[LTheLiningsInIt$Shelf;") (List.mem_of_getElem? (i := 4) rfl)) (fun _ h9 => h9) rfl dX7_restore_34 ?_
                refine lv_iload_n hx hb dX7_restore_37 rfl (lv_at hl 0 rfl) ?_
                refine va_aldq hx hb hK hP 2 4 rfl rfl (zf_in (by decide) (by decide)) dX7_restore_38 ?_
                have h9f : fh (5 : Int32).toNatClampNeg = some a5 := by rw [show (5 : Int32).toNatClampNeg = 5 from by decide]; exact hfs5
                rw [h9f]
                refine W.eq (g2 := F0 m 39 ls (.ref a5 :: [])) rfl ?_
                refine lv_aload_n hx hb dX7_restore_39 rfl (lv_at hl 1 rfl) ?_
                refine va_get (D := D) (ci := 7) (v := .ref j0) (C := RX7) (T := TX7) (N := 9) hx hb hts hi_X7_restore_7 hown hK hP 0 rfl rfl 1 (by decide) (hts (.fieldLink RX7 18 "TheLiningsInIt" "now" "LTheLiningsInIt$Jacket;") (List.mem_of_getElem? (i := 2) rfl)) (fun _ h9 => h9) rfl dX7_restore_40 ?_
                refine va_get (D := D) (ci := 0) (v := .int q_4) (C := RX0) (T := TX0) (N := 9) hx hb hts hi_X7_restore_0 hown hK hP 6 rfl rfl 3 (by decide) (hts (.fieldLink RX7 123 "TheLiningsInIt$Jacket" "pullCount" "I") (List.mem_of_getElem? (i := 5) rfl)) (fun _ h9 => h9) rfl dX7_restore_43 ?_
                skip
                refine zw_Vv (As := [.int q_4]) (rest := []) (wr := ((x0, .inr (7, [.ref xs, .ref j0, .ref k0, .ref w0, .ref rd, .ref mv, .ref xr, .int im, .int lf])) :: (xr, .inl (cI, 8, .inl fr)) :: (xs, .inl (cS, 8, .inr (.inr (.inr (.inr fh))))) :: (a6, .inr (4, [.ref b6, .int he6, .int si6])) :: (a7, .inr (4, [.ref b7, .int he7, .int si7])) :: (j0, .inr (0, [.ref z0, .ref jp, .ref jc, .int q_4, .int q_5, .int q_6, .int q_7, .int q_8, .int q_9])) :: (z0, .inr (6, [.ref zl, .ref zs, .int q_10, .int q_11, .int q_12])) :: (zl, .inl (cZ, 40, .inl q_13)) :: (zs, .inl (cI, 40, .inl q_14)) :: (jp, .inl (cP, 8, .inr (.inr (.inr (.inr q_15))))) :: (jc, .inl (cI, 3, .inl q_16)) :: (k0, .inr (0, [.ref kz, .ref kp, .ref kc, .int kcn, .int kde, .int ktr, .int kse, .int khu, .int ksd])) :: (kz, .inr (6, [.ref kzl, .ref kzs, .int ksz, .int kat, .int kgp])) :: (kzl, .inl (cZ, 40, .inl kfl)) :: (kzs, .inl (cI, 40, .inl kfs)) :: (kp, .inl (cP, 8, .inr (.inr (.inr (.inr fkp))))) :: (kc, .inl (cI, 3, .inl fkc)) :: (a0, .inr (4, [.ref b0, .int q_20, .int si0])) :: (a1, .inr (4, [.ref b1, .int q_24, .int si1])) :: (a2, .inr (4, [.ref b2, .int q_28, .int si2])) :: (a3, .inr (4, [.ref b3, .int q_32, .int si3])) :: (a4, .inr (4, [.ref b4, .int q_36, .int si4])) :: [])) ⟨hx, hb, hml, hown, hts⟩ (c_F_Sh_forgetFrom l D cI cJ cZ cP cS po a5 b5 (he5) (si5) (q_4) hy51 hy52 hy53 hy54 H.size) (cwV 1 hts gX7_restore_X4_forgetFrom rfl rfl rfl ⟨rfl, dh_X4_forgetFrom⟩ ⟨Nat.le_of_ble_eq_true rfl, Nat.le_of_ble_eq_true rfl⟩) hK hN (hZ.kept hS) hP hD hS hA [3] [0, 1, 2, 4, 5, 6, 7, 8, 9, 10, 11, 12, 13, 14, 15, 16, 17, 18, 19, 20, 21, 22] rfl rfl (by decide) (by decide) (by decide) (va_recv (q := (RX4, TX4, 3)) hK hP (ci := 4) (q0 := 3) rfl rfl) rfl hl.1 rfl (Nat.le_of_ble_eq_true rfl) dX7_restore_46 ⟨Nat.le_of_ble_eq_true rfl, Nat.le_of_ble_eq_true rfl⟩ (fun u_39 H locs hr_38 hP hD hS => ?_)
                obtain ⟨q_40, rfl⟩ : ∃ z, z = u_39 := ⟨_, rfl⟩
                obtain ⟨hbq_40, hsr_38_0, hr_38⟩ := hr_38
                have h9R := zRe (ws' := ((x0, .inr (7, [.ref xs, .ref j0, .ref k0, .ref w0, .ref rd, .ref mv, .ref xr, .int im, .int lf])) :: (xr, .inl (cI, 8, .inl fr)) :: (xs, .inl (cS, 8, .inr (.inr (.inr (.inr fh))))) :: (a6, .inr (4, [.ref b6, .int he6, .int si6])) :: (a7, .inr (4, [.ref b7, .int he7, .int si7])) :: (j0, .inr (0, [.ref z0, .ref jp, .ref jc, .int q_4, .int q_5, .int q_6, .int q_7, .int q_8, .int q_9])) :: (z0, .inr (6, [.ref zl, .ref zs, .int q_10, .int q_11, .int q_12])) :: (zl, .inl (cZ, 40, .inl q_13)) :: (zs, .inl (cI, 40, .inl q_14)) :: (jp, .inl (cP, 8, .inr (.inr (.inr (.inr q_15))))) :: (jc, .inl (cI, 3, .inl q_16)) :: (k0, .inr (0, [.ref kz, .ref kp, .ref kc, .int kcn, .int kde, .int ktr, .int kse, .int khu, .int ksd])) :: (kz, .inr (6, [.ref kzl, .ref kzs, .int ksz, .int kat, .int kgp])) :: (kzl, .inl (cZ, 40, .inl kfl)) :: (kzs, .inl (cI, 40, .inl kfs)) :: (kp, .inl (cP, 8, .inr (.inr (.inr (.inr fkp))))) :: (kc, .inl (cI, 3, .inl fkc)) :: (a0, .inr (4, [.ref b0, .int q_20, .int si0])) :: (a1, .inr (4, [.ref b1, .int q_24, .int si1])) :: (a2, .inr (4, [.ref b2, .int q_28, .int si2])) :: (a3, .inr (4, [.ref b3, .int q_32, .int si3])) :: (a4, .inr (4, [.ref b4, .int q_36, .int si4])) :: (a5, .inr (4, [.ref b5, .int q_40, .int si5])) :: [])) hP hD rfl
                clear hP hD
                obtain ⟨hP, hD⟩ := h9R
                refine lv_iinc (v := 6) (lv' := [(1, .int 6), (0, .ref x0)]) hx hb dX7_restore_49 hl (k := 0) rfl (by decide) (by decide) rfl (fun ls hl => ?_)
                refine lv_goto (tgt := 27) hx hb dX7_restore_52 (by decide) ?_
                refine lv_iload_n hx hb dX7_restore_27 rfl (lv_at hl 0 rfl) ?_
                refine lv_bipush (v := 8) hx hb dX7_restore_28 (by decide) ?_
                refine lv_icmp_ge (tgt := 55) hx hb dX7_restore_30 (by decide) (fun c_41 => ?_) (fun c_41 => ?_)
                · exact absurd c_41 (by decide)
                · refine lv_aload_n hx hb dX7_restore_33 rfl (lv_at hl 1 rfl) ?_
                  refine va_get (D := D) (ci := 7) (v := .ref xs) (C := RX7) (T := TX7) (N := 9) hx hb hts hi_X7_restore_7 hown hK hP 0 rfl rfl 0 (by decide) (hts (.fieldLink RX7 11 "TheLiningsInIt" "shelves" "[LTheLiningsInIt$Shelf;") (List.mem_of_getElem? (i := 4) rfl)) (fun _ h9 => h9) rfl dX7_restore_34 ?_
                  refine lv_iload_n hx hb dX7_restore_37 rfl (lv_at hl 0 rfl) ?_
                  refine va_aldq hx hb hK hP 2 4 rfl rfl (zf_in (by decide) (by decide)) dX7_restore_38 ?_
                  have h9f : fh (6 : Int32).toNatClampNeg = some a6 := by rw [show (6 : Int32).toNatClampNeg = 6 from by decide]; exact hfs6
                  rw [h9f]
                  refine W.eq (g2 := F0 m 39 ls (.ref a6 :: [])) rfl ?_
                  refine lv_aload_n hx hb dX7_restore_39 rfl (lv_at hl 1 rfl) ?_
                  refine va_get (D := D) (ci := 7) (v := .ref j0) (C := RX7) (T := TX7) (N := 9) hx hb hts hi_X7_restore_7 hown hK hP 0 rfl rfl 1 (by decide) (hts (.fieldLink RX7 18 "TheLiningsInIt" "now" "LTheLiningsInIt$Jacket;") (List.mem_of_getElem? (i := 2) rfl)) (fun _ h9 => h9) rfl dX7_restore_40 ?_
                  refine va_get (D := D) (ci := 0) (v := .int q_4) (C := RX0) (T := TX0) (N := 9) hx hb hts hi_X7_restore_0 hown hK hP 5 rfl rfl 3 (by decide) (hts (.fieldLink RX7 123 "TheLiningsInIt$Jacket" "pullCount" "I") (List.mem_of_getElem? (i := 5) rfl)) (fun _ h9 => h9) rfl dX7_restore_43 ?_
                  skip
                  refine zw_Vv (As := [.int q_4]) (rest := []) (wr := ((x0, .inr (7, [.ref xs, .ref j0, .ref k0, .ref w0, .ref rd, .ref mv, .ref xr, .int im, .int lf])) :: (xr, .inl (cI, 8, .inl fr)) :: (xs, .inl (cS, 8, .inr (.inr (.inr (.inr fh))))) :: (a7, .inr (4, [.ref b7, .int he7, .int si7])) :: (j0, .inr (0, [.ref z0, .ref jp, .ref jc, .int q_4, .int q_5, .int q_6, .int q_7, .int q_8, .int q_9])) :: (z0, .inr (6, [.ref zl, .ref zs, .int q_10, .int q_11, .int q_12])) :: (zl, .inl (cZ, 40, .inl q_13)) :: (zs, .inl (cI, 40, .inl q_14)) :: (jp, .inl (cP, 8, .inr (.inr (.inr (.inr q_15))))) :: (jc, .inl (cI, 3, .inl q_16)) :: (k0, .inr (0, [.ref kz, .ref kp, .ref kc, .int kcn, .int kde, .int ktr, .int kse, .int khu, .int ksd])) :: (kz, .inr (6, [.ref kzl, .ref kzs, .int ksz, .int kat, .int kgp])) :: (kzl, .inl (cZ, 40, .inl kfl)) :: (kzs, .inl (cI, 40, .inl kfs)) :: (kp, .inl (cP, 8, .inr (.inr (.inr (.inr fkp))))) :: (kc, .inl (cI, 3, .inl fkc)) :: (a0, .inr (4, [.ref b0, .int q_20, .int si0])) :: (a1, .inr (4, [.ref b1, .int q_24, .int si1])) :: (a2, .inr (4, [.ref b2, .int q_28, .int si2])) :: (a3, .inr (4, [.ref b3, .int q_32, .int si3])) :: (a4, .inr (4, [.ref b4, .int q_36, .int si4])) :: (a5, .inr (4, [.ref b5, .int q_40, .int si5])) :: [])) ⟨hx, hb, hml, hown, hts⟩ (c_F_Sh_forgetFrom l D cI cJ cZ cP cS po a6 b6 (he6) (si6) (q_4) hy55 hy56 hy57 hy58 H.size) (cwV 1 hts gX7_restore_X4_forgetFrom rfl rfl rfl ⟨rfl, dh_X4_forgetFrom⟩ ⟨Nat.le_of_ble_eq_true rfl, Nat.le_of_ble_eq_true rfl⟩) hK hN (hZ.kept hS) hP hD hS hA [3] [0, 1, 2, 4, 5, 6, 7, 8, 9, 10, 11, 12, 13, 14, 15, 16, 17, 18, 19, 20, 21, 22] rfl rfl (by decide) (by decide) (by decide) (va_recv (q := (RX4, TX4, 3)) hK hP (ci := 4) (q0 := 3) rfl rfl) rfl hl.1 rfl (Nat.le_of_ble_eq_true rfl) dX7_restore_46 ⟨Nat.le_of_ble_eq_true rfl, Nat.le_of_ble_eq_true rfl⟩ (fun u_43 H locs hr_42 hP hD hS => ?_)
                  obtain ⟨q_44, rfl⟩ : ∃ z, z = u_43 := ⟨_, rfl⟩
                  obtain ⟨hbq_44, hsr_42_0, hr_42⟩ := hr_42
                  have h9R := zRe (ws' := ((x0, .inr (7, [.ref xs, .ref j0, .ref k0, .ref w0, .ref rd, .ref mv, .ref xr, .int im, .int lf])) :: (xr, .inl (cI, 8, .inl fr)) :: (xs, .inl (cS, 8, .inr (.inr (.inr (.inr fh))))) :: (a7, .inr (4, [.ref b7, .int he7, .int si7])) :: (j0, .inr (0, [.ref z0, .ref jp, .ref jc, .int q_4, .int q_5, .int q_6, .int q_7, .int q_8, .int q_9])) :: (z0, .inr (6, [.ref zl, .ref zs, .int q_10, .int q_11, .int q_12])) :: (zl, .inl (cZ, 40, .inl q_13)) :: (zs, .inl (cI, 40, .inl q_14)) :: (jp, .inl (cP, 8, .inr (.inr (.inr (.inr q_15))))) :: (jc, .inl (cI, 3, .inl q_16)) :: (k0, .inr (0, [.ref kz, .ref kp, .ref kc, .int kcn, .int kde, .int ktr, .int kse, .int khu, .int ksd])) :: (kz, .inr (6, [.ref kzl, .ref kzs, .int ksz, .int kat, .int kgp])) :: (kzl, .inl (cZ, 40, .inl kfl)) :: (kzs, .inl (cI, 40, .inl kfs)) :: (kp, .inl (cP, 8, .inr (.inr (.inr (.inr fkp))))) :: (kc, .inl (cI, 3, .inl fkc)) :: (a0, .inr (4, [.ref b0, .int q_20, .int si0])) :: (a1, .inr (4, [.ref b1, .int q_24, .int si1])) :: (a2, .inr (4, [.ref b2, .int q_28, .int si2])) :: (a3, .inr (4, [.ref b3, .int q_32, .int si3])) :: (a4, .inr (4, [.ref b4, .int q_36, .int si4])) :: (a5, .inr (4, [.ref b5, .int q_40, .int si5])) :: (a6, .inr (4, [.ref b6, .int q_44, .int si6])) :: [])) hP hD rfl
                  clear hP hD
                  obtain ⟨hP, hD⟩ := h9R
                  refine lv_iinc (v := 7) (lv' := [(1, .int 7), (0, .ref x0)]) hx hb dX7_restore_49 hl (k := 0) rfl (by decide) (by decide) rfl (fun ls hl => ?_)
                  refine lv_goto (tgt := 27) hx hb dX7_restore_52 (by decide) ?_
                  refine lv_iload_n hx hb dX7_restore_27 rfl (lv_at hl 0 rfl) ?_
                  refine lv_bipush (v := 8) hx hb dX7_restore_28 (by decide) ?_
                  refine lv_icmp_ge (tgt := 55) hx hb dX7_restore_30 (by decide) (fun c_45 => ?_) (fun c_45 => ?_)
                  · exact absurd c_45 (by decide)
                  · refine lv_aload_n hx hb dX7_restore_33 rfl (lv_at hl 1 rfl) ?_
                    refine va_get (D := D) (ci := 7) (v := .ref xs) (C := RX7) (T := TX7) (N := 9) hx hb hts hi_X7_restore_7 hown hK hP 0 rfl rfl 0 (by decide) (hts (.fieldLink RX7 11 "TheLiningsInIt" "shelves" "[LTheLiningsInIt$Shelf;") (List.mem_of_getElem? (i := 4) rfl)) (fun _ h9 => h9) rfl dX7_restore_34 ?_
                    refine lv_iload_n hx hb dX7_restore_37 rfl (lv_at hl 0 rfl) ?_
                    refine va_aldq hx hb hK hP 2 4 rfl rfl (zf_in (by decide) (by decide)) dX7_restore_38 ?_
                    have h9f : fh (7 : Int32).toNatClampNeg = some a7 := by rw [show (7 : Int32).toNatClampNeg = 7 from by decide]; exact hfs7
                    rw [h9f]
                    refine W.eq (g2 := F0 m 39 ls (.ref a7 :: [])) rfl ?_
                    refine lv_aload_n hx hb dX7_restore_39 rfl (lv_at hl 1 rfl) ?_
                    refine va_get (D := D) (ci := 7) (v := .ref j0) (C := RX7) (T := TX7) (N := 9) hx hb hts hi_X7_restore_7 hown hK hP 0 rfl rfl 1 (by decide) (hts (.fieldLink RX7 18 "TheLiningsInIt" "now" "LTheLiningsInIt$Jacket;") (List.mem_of_getElem? (i := 2) rfl)) (fun _ h9 => h9) rfl dX7_restore_40 ?_
                    refine va_get (D := D) (ci := 0) (v := .int q_4) (C := RX0) (T := TX0) (N := 9) hx hb hts hi_X7_restore_0 hown hK hP 4 rfl rfl 3 (by decide) (hts (.fieldLink RX7 123 "TheLiningsInIt$Jacket" "pullCount" "I") (List.mem_of_getElem? (i := 5) rfl)) (fun _ h9 => h9) rfl dX7_restore_43 ?_
                    skip
                    refine zw_Vv (As := [.int q_4]) (rest := []) (wr := ((x0, .inr (7, [.ref xs, .ref j0, .ref k0, .ref w0, .ref rd, .ref mv, .ref xr, .int im, .int lf])) :: (xr, .inl (cI, 8, .inl fr)) :: (xs, .inl (cS, 8, .inr (.inr (.inr (.inr fh))))) :: (j0, .inr (0, [.ref z0, .ref jp, .ref jc, .int q_4, .int q_5, .int q_6, .int q_7, .int q_8, .int q_9])) :: (z0, .inr (6, [.ref zl, .ref zs, .int q_10, .int q_11, .int q_12])) :: (zl, .inl (cZ, 40, .inl q_13)) :: (zs, .inl (cI, 40, .inl q_14)) :: (jp, .inl (cP, 8, .inr (.inr (.inr (.inr q_15))))) :: (jc, .inl (cI, 3, .inl q_16)) :: (k0, .inr (0, [.ref kz, .ref kp, .ref kc, .int kcn, .int kde, .int ktr, .int kse, .int khu, .int ksd])) :: (kz, .inr (6, [.ref kzl, .ref kzs, .int ksz, .int kat, .int kgp])) :: (kzl, .inl (cZ, 40, .inl kfl)) :: (kzs, .inl (cI, 40, .inl kfs)) :: (kp, .inl (cP, 8, .inr (.inr (.inr (.inr fkp))))) :: (kc, .inl (cI, 3, .inl fkc)) :: (a0, .inr (4, [.ref b0, .int q_20, .int si0])) :: (a1, .inr (4, [.ref b1, .int q_24, .int si1])) :: (a2, .inr (4, [.ref b2, .int q_28, .int si2])) :: (a3, .inr (4, [.ref b3, .int q_32, .int si3])) :: (a4, .inr (4, [.ref b4, .int q_36, .int si4])) :: (a5, .inr (4, [.ref b5, .int q_40, .int si5])) :: (a6, .inr (4, [.ref b6, .int q_44, .int si6])) :: [])) ⟨hx, hb, hml, hown, hts⟩ (c_F_Sh_forgetFrom l D cI cJ cZ cP cS po a7 b7 (he7) (si7) (q_4) hy59 hy60 hy61 hy62 H.size) (cwV 1 hts gX7_restore_X4_forgetFrom rfl rfl rfl ⟨rfl, dh_X4_forgetFrom⟩ ⟨Nat.le_of_ble_eq_true rfl, Nat.le_of_ble_eq_true rfl⟩) hK hN (hZ.kept hS) hP hD hS hA [3] [0, 1, 2, 4, 5, 6, 7, 8, 9, 10, 11, 12, 13, 14, 15, 16, 17, 18, 19, 20, 21, 22] rfl rfl (by decide) (by decide) (by decide) (va_recv (q := (RX4, TX4, 3)) hK hP (ci := 4) (q0 := 3) rfl rfl) rfl hl.1 rfl (Nat.le_of_ble_eq_true rfl) dX7_restore_46 ⟨Nat.le_of_ble_eq_true rfl, Nat.le_of_ble_eq_true rfl⟩ (fun u_47 H locs hr_46 hP hD hS => ?_)
                    obtain ⟨q_48, rfl⟩ : ∃ z, z = u_47 := ⟨_, rfl⟩
                    obtain ⟨hbq_48, hsr_46_0, hr_46⟩ := hr_46
                    have h9R := zRe (ws' := ((x0, .inr (7, [.ref xs, .ref j0, .ref k0, .ref w0, .ref rd, .ref mv, .ref xr, .int im, .int lf])) :: (xr, .inl (cI, 8, .inl fr)) :: (xs, .inl (cS, 8, .inr (.inr (.inr (.inr fh))))) :: (j0, .inr (0, [.ref z0, .ref jp, .ref jc, .int q_4, .int q_5, .int q_6, .int q_7, .int q_8, .int q_9])) :: (z0, .inr (6, [.ref zl, .ref zs, .int q_10, .int q_11, .int q_12])) :: (zl, .inl (cZ, 40, .inl q_13)) :: (zs, .inl (cI, 40, .inl q_14)) :: (jp, .inl (cP, 8, .inr (.inr (.inr (.inr q_15))))) :: (jc, .inl (cI, 3, .inl q_16)) :: (k0, .inr (0, [.ref kz, .ref kp, .ref kc, .int kcn, .int kde, .int ktr, .int kse, .int khu, .int ksd])) :: (kz, .inr (6, [.ref kzl, .ref kzs, .int ksz, .int kat, .int kgp])) :: (kzl, .inl (cZ, 40, .inl kfl)) :: (kzs, .inl (cI, 40, .inl kfs)) :: (kp, .inl (cP, 8, .inr (.inr (.inr (.inr fkp))))) :: (kc, .inl (cI, 3, .inl fkc)) :: (a0, .inr (4, [.ref b0, .int q_20, .int si0])) :: (a1, .inr (4, [.ref b1, .int q_24, .int si1])) :: (a2, .inr (4, [.ref b2, .int q_28, .int si2])) :: (a3, .inr (4, [.ref b3, .int q_32, .int si3])) :: (a4, .inr (4, [.ref b4, .int q_36, .int si4])) :: (a5, .inr (4, [.ref b5, .int q_40, .int si5])) :: (a6, .inr (4, [.ref b6, .int q_44, .int si6])) :: (a7, .inr (4, [.ref b7, .int q_48, .int si7])) :: [])) hP hD rfl
                    clear hP hD
                    obtain ⟨hP, hD⟩ := h9R
                    refine lv_iinc (v := 8) (lv' := [(1, .int 8), (0, .ref x0)]) hx hb dX7_restore_49 hl (k := 0) rfl (by decide) (by decide) rfl (fun ls hl => ?_)
                    refine lv_goto (tgt := 27) hx hb dX7_restore_52 (by decide) ?_
                    refine lv_iload_n hx hb dX7_restore_27 rfl (lv_at hl 0 rfl) ?_
                    refine lv_bipush (v := 8) hx hb dX7_restore_28 (by decide) ?_
                    refine lv_icmp_ge (tgt := 55) hx hb dX7_restore_30 (by decide) (fun c_49 => ?_) (fun c_49 => ?_)
                    · refine lv_aload_n hx hb dX7_restore_55 rfl (lv_at hl 1 rfl) ?_
                      refine va_get (D := D) (ci := 7) (v := .ref j0) (C := RX7) (T := TX7) (N := 9) hx hb hts hi_X7_restore_7 hown hK hP 0 rfl rfl 1 (by decide) (hts (.fieldLink RX7 18 "TheLiningsInIt" "now" "LTheLiningsInIt$Jacket;") (List.mem_of_getElem? (i := 2) rfl)) (fun _ h9 => h9) rfl dX7_restore_56 ?_
                      refine va_get (D := D) (ci := 0) (v := .int q_4) (C := RX0) (T := TX0) (N := 9) hx hb hts hi_X7_restore_0 hown hK hP 3 rfl rfl 3 (by decide) (hts (.fieldLink RX7 123 "TheLiningsInIt$Jacket" "pullCount" "I") (List.mem_of_getElem? (i := 5) rfl)) (fun _ h9 => h9) rfl dX7_restore_59 ?_
                      exact W.iret (v := q_4) hx hb hr (fun t ht hW => ⟨⟨q_4, (q_4, q_5, q_6, q_7, q_8, q_9, q_10, q_11, q_12, q_13, q_14, q_15, q_16, q_20, q_24, q_28, q_32, q_36, q_40, q_44, q_48, fr), rfl, ⟨(show 0 ≤ q_4.toInt ∧ q_4.toInt ≤ 8 from hbq_4), (show 0 ≤ q_5.toInt ∧ q_5.toInt ≤ 24 from hbq_5), (show 0 ≤ q_8.toInt ∧ q_8.toInt ≤ 9 from hbq_8), (show 4 ≤ q_10.toInt ∧ q_10.toInt ≤ 40 from hbq_10), (show 0 ≤ q_11.toInt ∧ q_11.toInt ≤ 40 from hbq_11), (show 1 ≤ q_12.toInt ∧ q_12.toInt ≤ 9 from hbq_12), hpq_13, hpq_14, hwq_15, hpq_16, (show (-1) ≤ q_20.toInt ∧ q_20.toInt ≤ 103 from hbq_20), (show (-1) ≤ q_24.toInt ∧ q_24.toInt ≤ 103 from hbq_24), (show (-1) ≤ q_28.toInt ∧ q_28.toInt ≤ 103 from hbq_28), (show (-1) ≤ q_32.toInt ∧ q_32.toInt ≤ 103 from hbq_32), (show (-1) ≤ q_36.toInt ∧ q_36.toInt ≤ 103 from hbq_36), (show (-1) ≤ q_40.toInt ∧ q_40.toInt ≤ 103 from hbq_40), (show (-1) ≤ q_44.toInt ∧ q_44.toInt ≤ 103 from hbq_44), (show (-1) ≤ q_48.toInt ∧ q_48.toInt ≤ 103 from hbq_48), (show ((q_15 = fp ∧ q_4 = cn) ∨ zJP po q_15 q_4 kkf kaf ktf) from by (refine Or.inr ?_; obtain ⟨h8, -⟩ := hsr_2_0; rw [h8]; exact hsr_2_1)), (show (im.toInt = 0 ∧ (q_4 : Int32).toInt = -6 ∧ q_4.toInt = cn.toInt ∧ q_10.toInt = sz.toInt ∧ q_20.toInt = he0.toInt ∧ q_24.toInt = he1.toInt ∧ q_28.toInt = he2.toInt ∧ q_32.toInt = he3.toInt ∧ q_36.toInt = he4.toInt ∧ q_40.toInt = he5.toInt ∧ q_44.toInt = he6.toInt ∧ q_48.toInt = he7.toInt) ∨ (im.toInt ≠ 0 ∧ (q_4 : Int32).toInt = kcn.toInt ∧ q_4.toInt = kcn.toInt ∧ q_10.toInt = ksz.toInt ∧ (((kcn.toInt ≤ he0.toInt ∧ he0.toInt < 100) ∧ q_20.toInt = -1) ∨ (¬ (kcn.toInt ≤ he0.toInt ∧ he0.toInt < 100) ∧ q_20.toInt = he0.toInt)) ∧ (((kcn.toInt ≤ he1.toInt ∧ he1.toInt < 100) ∧ q_24.toInt = -1) ∨ (¬ (kcn.toInt ≤ he1.toInt ∧ he1.toInt < 100) ∧ q_24.toInt = he1.toInt)) ∧ (((kcn.toInt ≤ he2.toInt ∧ he2.toInt < 100) ∧ q_28.toInt = -1) ∨ (¬ (kcn.toInt ≤ he2.toInt ∧ he2.toInt < 100) ∧ q_28.toInt = he2.toInt)) ∧ (((kcn.toInt ≤ he3.toInt ∧ he3.toInt < 100) ∧ q_32.toInt = -1) ∨ (¬ (kcn.toInt ≤ he3.toInt ∧ he3.toInt < 100) ∧ q_32.toInt = he3.toInt)) ∧ (((kcn.toInt ≤ he4.toInt ∧ he4.toInt < 100) ∧ q_36.toInt = -1) ∨ (¬ (kcn.toInt ≤ he4.toInt ∧ he4.toInt < 100) ∧ q_36.toInt = he4.toInt)) ∧ (((kcn.toInt ≤ he5.toInt ∧ he5.toInt < 100) ∧ q_40.toInt = -1) ∨ (¬ (kcn.toInt ≤ he5.toInt ∧ he5.toInt < 100) ∧ q_40.toInt = he5.toInt)) ∧ (((kcn.toInt ≤ he6.toInt ∧ he6.toInt < 100) ∧ q_44.toInt = -1) ∨ (¬ (kcn.toInt ≤ he6.toInt ∧ he6.toInt < 100) ∧ q_44.toInt = he6.toInt)) ∧ (((kcn.toInt ≤ he7.toInt ∧ he7.toInt < 100) ∧ q_48.toInt = -1) ∨ (¬ (kcn.toInt ≤ he7.toInt ∧ he7.toInt < 100) ∧ q_48.toInt = he7.toInt))) from by (obtain ⟨h8, -⟩ := hsr_2_0; have h8t := congrArg Int32.toInt h8; have h7 := congrArg Int32.toInt hsr_2_2; exact Or.inr ⟨by omega, by omega, by omega, by omega, (by have z := hsr_18_0; rw [h8] at z; exact z), (by have z := hsr_22_0; rw [h8] at z; exact z), (by have z := hsr_26_0; rw [h8] at z; exact z), (by have z := hsr_30_0; rw [h8] at z; exact z), (by have z := hsr_34_0; rw [h8] at z; exact z), (by have z := hsr_38_0; rw [h8] at z; exact z), (by have z := hsr_42_0; rw [h8] at z; exact z), (by have z := hsr_46_0; rw [h8] at z; exact z)⟩)), (show (im.toInt = 0 ∧ q_5 = de ∧ q_6 = tr ∧ q_7 = se ∧ q_8 = hu ∧ q_9 = sd ∧ q_11 = at_ ∧ q_12 = gp ∧ q_13 = fl ∧ q_14 = fs ∧ q_16 = fc ∧ q_15 = fp ∧ q_4 = cn) ∨ (im.toInt ≠ 0 ∧ (q_5 = kde ∧ q_6 = ktr ∧ q_7 = kse ∧ q_8 = khu ∧ q_9 = ksd ∧ q_11 = kat ∧ q_12 = kgp) ∧ (∀ j : Nat, j < 40 → q_13 j = kfl j) ∧ (∀ j : Nat, j < 40 → q_14 j = kfs j) ∧ (∀ j : Nat, j < 3 → q_16 j = fkc j) ∧ zJP po q_15 q_4 kkf kaf ktf) from by (obtain ⟨y1, y2, y3, y4, y5, y6⟩ := hsr_2_0; obtain ⟨y7, y8⟩ := hsr_2_3; exact Or.inr ⟨by omega, ⟨y2, y3, y4, y5, y6, y7, y8⟩, hsr_2_4, hsr_2_5, hsr_2_6, by (rw [y1]; exact hsr_2_1)⟩)), trivial⟩, zRet ht hP hD [0, 1, 3, 4, 5, 6, 7, 8, 9, 10, 11, 12, 13, 14, 2, 15, 16, 17, 18, 19, 20, 21, 22] (by decide) rfl⟩, hS.F ht⟩) hS.2.2 dX7_restore_62
                    · exact absurd c_49 (by decide)
  · have fc_1 : im.toInt = 0 := zf_eq c_1 rfl (by decide)
    refine lv_aload_n hx hb dX7_restore_7 rfl (lv_at hl 0 rfl) ?_
    refine lv_bipush (v := 6) hx hb dX7_restore_8 (by decide) ?_
    skip
    refine zw_V (As := [.int 6]) (rest := []) (wr := ((j0, .inr (0, [.ref z0, .ref jp, .ref jc, .int cn, .int de, .int tr, .int se, .int hu, .int sd])) :: (z0, .inr (6, [.ref zl, .ref zs, .int sz, .int at_, .int gp])) :: (zl, .inl (cZ, 40, .inl fl)) :: (zs, .inl (cI, 40, .inl fs)) :: (jp, .inl (cP, 8, .inr (.inr (.inr (.inr fp))))) :: (jc, .inl (cI, 3, .inl fc)) :: (k0, .inr (0, [.ref kz, .ref kp, .ref kc, .int kcn, .int kde, .int ktr, .int kse, .int khu, .int ksd])) :: (kz, .inr (6, [.ref kzl, .ref kzs, .int ksz, .int kat, .int kgp])) :: (kzl, .inl (cZ, 40, .inl kfl)) :: (kzs, .inl (cI, 40, .inl kfs)) :: (kp, .inl (cP, 8, .inr (.inr (.inr (.inr fkp))))) :: (kc, .inl (cI, 3, .inl fkc)) :: (xs, .inl (cS, 8, .inr (.inr (.inr (.inr fh))))) :: (a0, .inr (4, [.ref b0, .int he0, .int si0])) :: (a1, .inr (4, [.ref b1, .int he1, .int si1])) :: (a2, .inr (4, [.ref b2, .int he2, .int si2])) :: (a3, .inr (4, [.ref b3, .int he3, .int si3])) :: (a4, .inr (4, [.ref b4, .int he4, .int si4])) :: (a5, .inr (4, [.ref b5, .int he5, .int si5])) :: (a6, .inr (4, [.ref b6, .int he6, .int si6])) :: (a7, .inr (4, [.ref b7, .int he7, .int si7])) :: [])) ⟨hx, hb, hml, hown, hts⟩ (c_X_refuse_6 l D cI cJ cZ cP cS po x0 xs j0 k0 w0 rd mv xr (im) (lf) fr hy0 hy1 hy2 hy3 H.size) (cwV 1 hts gX7_restore_X7_refuse rfl rfl rfl ⟨rfl, dh_X7_refuse⟩ ⟨Nat.le_of_ble_eq_true rfl, Nat.le_of_ble_eq_true rfl⟩) hK hN (hZ.kept hS) hP hD hS hA [0, 1] [2, 3, 4, 5, 6, 7, 8, 9, 10, 11, 12, 13, 14, 15, 16, 17, 18, 19, 20, 21, 22] rfl rfl (by decide) (by decide) (by decide) (va_recv (q := (RX7, TX7, 9)) hK hP (ci := 7) (q0 := 0) rfl rfl) rfl hl.1 rfl (Nat.le_of_ble_eq_true rfl) dX7_restore_10 ⟨Nat.le_of_ble_eq_true rfl, Nat.le_of_ble_eq_true rfl⟩ (fun r_50 u_51 H locs hr_50 hP hD hS => ?_)
    obtain ⟨q_52, rfl⟩ : ∃ z, z = u_51 := ⟨_, rfl⟩
    have h9R := zRe (ws' := ((j0, .inr (0, [.ref z0, .ref jp, .ref jc, .int cn, .int de, .int tr, .int se, .int hu, .int sd])) :: (z0, .inr (6, [.ref zl, .ref zs, .int sz, .int at_, .int gp])) :: (zl, .inl (cZ, 40, .inl fl)) :: (zs, .inl (cI, 40, .inl fs)) :: (jp, .inl (cP, 8, .inr (.inr (.inr (.inr fp))))) :: (jc, .inl (cI, 3, .inl fc)) :: (k0, .inr (0, [.ref kz, .ref kp, .ref kc, .int kcn, .int kde, .int ktr, .int kse, .int khu, .int ksd])) :: (kz, .inr (6, [.ref kzl, .ref kzs, .int ksz, .int kat, .int kgp])) :: (kzl, .inl (cZ, 40, .inl kfl)) :: (kzs, .inl (cI, 40, .inl kfs)) :: (kp, .inl (cP, 8, .inr (.inr (.inr (.inr fkp))))) :: (kc, .inl (cI, 3, .inl fkc)) :: (xs, .inl (cS, 8, .inr (.inr (.inr (.inr fh))))) :: (a0, .inr (4, [.ref b0, .int he0, .int si0])) :: (a1, .inr (4, [.ref b1, .int he1, .int si1])) :: (a2, .inr (4, [.ref b2, .int he2, .int si2])) :: (a3, .inr (4, [.ref b3, .int he3, .int si3])) :: (a4, .inr (4, [.ref b4, .int he4, .int si4])) :: (a5, .inr (4, [.ref b5, .int he5, .int si5])) :: (a6, .inr (4, [.ref b6, .int he6, .int si6])) :: (a7, .inr (4, [.ref b7, .int he7, .int si7])) :: (x0, .inr (7, [.ref xs, .ref j0, .ref k0, .ref w0, .ref rd, .ref mv, .ref xr, .int im, .int lf])) :: (xr, .inl (cI, 8, .inl q_52)) :: [])) hP hD rfl
    clear hP hD
    obtain ⟨hP, hD⟩ := h9R
    obtain rfl := hr_50
    exact W.iret (v := (-6)) hx hb hr (fun t ht hW => ⟨⟨(-6), (cn, de, tr, se, hu, sd, sz, at_, gp, fl, fs, fp, fc, he0, he1, he2, he3, he4, he5, he6, he7, q_52), rfl, ⟨(show 0 ≤ cn.toInt ∧ cn.toInt ≤ 8 from ⟨hy16, hy17⟩), (show 0 ≤ de.toInt ∧ de.toInt ≤ 24 from ⟨hy18, hy19⟩), (show 0 ≤ hu.toInt ∧ hu.toInt ≤ 9 from ⟨hy20, hy21⟩), (show 4 ≤ sz.toInt ∧ sz.toInt ≤ 40 from ⟨hy22, hy23⟩), (show 0 ≤ at_.toInt ∧ at_.toInt ≤ 40 from ⟨hy24, hy25⟩), (show 1 ≤ gp.toInt ∧ gp.toInt ≤ 9 from ⟨hy26, hy27⟩), hp_fl, hp_fs, hjwp, hp_fc, (show (-1) ≤ he0.toInt ∧ he0.toInt ≤ 103 from ⟨hy31, hy32⟩), (show (-1) ≤ he1.toInt ∧ he1.toInt ≤ 103 from ⟨hy35, hy36⟩), (show (-1) ≤ he2.toInt ∧ he2.toInt ≤ 103 from ⟨hy39, hy40⟩), (show (-1) ≤ he3.toInt ∧ he3.toInt ≤ 103 from ⟨hy43, hy44⟩), (show (-1) ≤ he4.toInt ∧ he4.toInt ≤ 103 from ⟨hy47, hy48⟩), (show (-1) ≤ he5.toInt ∧ he5.toInt ≤ 103 from ⟨hy51, hy52⟩), (show (-1) ≤ he6.toInt ∧ he6.toInt ≤ 103 from ⟨hy55, hy56⟩), (show (-1) ≤ he7.toInt ∧ he7.toInt ≤ 103 from ⟨hy59, hy60⟩), (show ((fp = fp ∧ cn = cn) ∨ zJP po fp cn kkf kaf ktf) from by exact Or.inl ⟨rfl, rfl⟩), (show (im.toInt = 0 ∧ ((-6) : Int32).toInt = -6 ∧ cn.toInt = cn.toInt ∧ sz.toInt = sz.toInt ∧ he0.toInt = he0.toInt ∧ he1.toInt = he1.toInt ∧ he2.toInt = he2.toInt ∧ he3.toInt = he3.toInt ∧ he4.toInt = he4.toInt ∧ he5.toInt = he5.toInt ∧ he6.toInt = he6.toInt ∧ he7.toInt = he7.toInt) ∨ (im.toInt ≠ 0 ∧ ((-6) : Int32).toInt = kcn.toInt ∧ cn.toInt = kcn.toInt ∧ sz.toInt = ksz.toInt ∧ (((kcn.toInt ≤ he0.toInt ∧ he0.toInt < 100) ∧ he0.toInt = -1) ∨ (¬ (kcn.toInt ≤ he0.toInt ∧ he0.toInt < 100) ∧ he0.toInt = he0.toInt)) ∧ (((kcn.toInt ≤ he1.toInt ∧ he1.toInt < 100) ∧ he1.toInt = -1) ∨ (¬ (kcn.toInt ≤ he1.toInt ∧ he1.toInt < 100) ∧ he1.toInt = he1.toInt)) ∧ (((kcn.toInt ≤ he2.toInt ∧ he2.toInt < 100) ∧ he2.toInt = -1) ∨ (¬ (kcn.toInt ≤ he2.toInt ∧ he2.toInt < 100) ∧ he2.toInt = he2.toInt)) ∧ (((kcn.toInt ≤ he3.toInt ∧ he3.toInt < 100) ∧ he3.toInt = -1) ∨ (¬ (kcn.toInt ≤ he3.toInt ∧ he3.toInt < 100) ∧ he3.toInt = he3.toInt)) ∧ (((kcn.toInt ≤ he4.toInt ∧ he4.toInt < 100) ∧ he4.toInt = -1) ∨ (¬ (kcn.toInt ≤ he4.toInt ∧ he4.toInt < 100) ∧ he4.toInt = he4.toInt)) ∧ (((kcn.toInt ≤ he5.toInt ∧ he5.toInt < 100) ∧ he5.toInt = -1) ∨ (¬ (kcn.toInt ≤ he5.toInt ∧ he5.toInt < 100) ∧ he5.toInt = he5.toInt)) ∧ (((kcn.toInt ≤ he6.toInt ∧ he6.toInt < 100) ∧ he6.toInt = -1) ∨ (¬ (kcn.toInt ≤ he6.toInt ∧ he6.toInt < 100) ∧ he6.toInt = he6.toInt)) ∧ (((kcn.toInt ≤ he7.toInt ∧ he7.toInt < 100) ∧ he7.toInt = -1) ∨ (¬ (kcn.toInt ≤ he7.toInt ∧ he7.toInt < 100) ∧ he7.toInt = he7.toInt))) from by (have k9 : ((-6) : Int32).toInt = -6 := (by decide); exact Or.inl ⟨by omega, by omega, by omega, by omega, rfl, rfl, rfl, rfl, rfl, rfl, rfl, rfl⟩)), (show (im.toInt = 0 ∧ de = de ∧ tr = tr ∧ se = se ∧ hu = hu ∧ sd = sd ∧ at_ = at_ ∧ gp = gp ∧ fl = fl ∧ fs = fs ∧ fc = fc ∧ fp = fp ∧ cn = cn) ∨ (im.toInt ≠ 0 ∧ (de = kde ∧ tr = ktr ∧ se = kse ∧ hu = khu ∧ sd = ksd ∧ at_ = kat ∧ gp = kgp) ∧ (∀ j : Nat, j < 40 → fl j = kfl j) ∧ (∀ j : Nat, j < 40 → fs j = kfs j) ∧ (∀ j : Nat, j < 3 → fc j = fkc j) ∧ zJP po fp cn kkf kaf ktf) from by (have k9 : ((-6) : Int32).toInt = -6 := (by decide); exact Or.inl ⟨by omega, rfl, rfl, rfl, rfl, rfl, rfl, rfl, rfl, rfl, rfl, rfl, rfl⟩)), trivial⟩, zRet ht hP hD [21, 22, 0, 1, 2, 3, 4, 5, 6, 7, 8, 9, 10, 11, 12, 13, 14, 15, 16, 17, 18, 19, 20] (by decide) rfl⟩, hS.F ht⟩) hS.2.2 dX7_restore_13
set_option maxHeartbeats 4000000 in
set_option maxRecDepth 100000 in
theorem c_F_X_fault (l : Launch) (D : va_G) (cI cJ cZ cP cS : ClassId) (po : zPool) (x0 xs j0 k0 w0 rd mv xr : Nat) (im lf : Int32) (fr : Nat → Int32) (hy0 : 0 ≤ im.toInt) (hy1 : im.toInt ≤ 1) (hy2 : (-1) ≤ lf.toInt) (hy3 : lf.toInt ≤ 160) : Met l yX7_fault wsX7_fault ({ frames := 0, cells := 0, slots := 0, locals := 0 }) (va_Pc [.ref x0] (zR D (zKT cI cJ cZ cP cS) po [(x0, .inr (7, [.ref xs, .ref j0, .ref k0, .ref w0, .ref rd, .ref mv, .ref xr, .int im, .int lf]))])) (vp_Si (fun r => (r.toInt = lf.toInt))) 0 0 (fun _ => False) := by
  refine Met.ofW (cc := cX7_fault) (maxL := 1) (ret := (some .int)) (by decide) rfl ?_
  intro p e s m args below meth c s₁ B hml hv
  obtain ⟨rfl, hP, hK, hN, hZ⟩ := hv
  have hx := B.exec
  have hb := B.bytes
  have hr := B.returns
  have hts := atoms_spec (ws := wsX7_fault) B.pre
  have hown : s.vm.findClass RX7 = some m.cls := findClass_of_methodNamed B.named
  have hlocks := B.notSynchronized
  have hl := lv_entry ([.ref x0]) (n := 1) (Nat.le_of_ble_eq_true rfl)
  rw [lg_entry_eq]
  generalize (lg_sl ([.ref x0]) ++ List.replicate (1 - (lg_sl ([.ref x0])).length) Slot.unset).toArray = ls at hl ⊢
  replace hl : lv_has ls 1 [(0, .ref x0)] := hl
  refine lv_aload_n hx hb dX7_fault_0 rfl (lv_at hl 0 rfl) ?_
  refine va_get (D := D) (ci := 7) (v := .int lf) (C := RX7) (T := TX7) (N := 9) hx hb hts hi_X7_fault_7 hown hK hP 0 rfl rfl 8 (by decide) (hts (.fieldLink RX7 54 "TheLiningsInIt" "latestFault" "I") (List.mem_of_getElem? (i := 1) rfl)) (fun _ h9 => h9) rfl dX7_fault_1 ?_
  exact W.iret (v := lf) hx hb hr (fun t ht hW => ⟨lf, rfl, (show (lf : Int32).toInt = lf.toInt from by rfl), ht⟩) (fun q hq => by cases hq) dX7_fault_4
end
