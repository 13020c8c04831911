set_option maxHeartbeats 4000000 in
set_option maxRecDepth 100000 in
theorem c_F_M_sews (l : Launch) (D : va_G) (cI cJ cZ cP cS : ClassId) (po : zPool) (m0 mrf mki mpa mta mla msl mco mhe mso msi msh mce mca mwo mnu mte mwa mke mma mth mtr : Nat) (npu nte nat_ nde nto nse nhu nga nsd nfa nba npl nen nnu nwr nra nik : Int32) (gla gsl : Nat → Int32) (n : Int32) (hy0 : 0 ≤ npu.toInt) (hy1 : npu.toInt ≤ 8) (hy2 : 4 ≤ nte.toInt) (hy3 : nte.toInt ≤ 40) (hy4 : 0 ≤ nat_.toInt) (hy5 : nat_.toInt ≤ 40) (hy6 : 0 ≤ nde.toInt) (hy7 : nde.toInt ≤ 24) (hy8 : 0 ≤ nhu.toInt) (hy9 : nhu.toInt ≤ 9) (hy10 : 0 ≤ nra.toInt) (hy11 : nra.toInt ≤ 2000) (hy12 : 0 ≤ nik.toInt) (hy13 : nik.toInt ≤ 1) (hy14 : 4 ≤ n.toInt) (hy15 : n.toInt ≤ 40) (hp_gla : zRg gla (0) 1) (hp_gsl : zRg gsl (0) 9) (hpz : Nat) : Met l yX8_sews wsX8_sews ({ frames := 0, cells := 0, slots := 0, locals := 0 }) (va_Pc [.ref m0, .int n] (zW D (zKT cI cJ cZ cP cS) po [(zMO m0 npu nte nat_ nde nto nse nhu nga nsd nfa mrf mki mpa mta mla msl mco mhe mso msi msh mce mca mwo mnu mte nba npl nen nnu nwr mwa mke mma mth mtr nra nik), (mla, .inl (cI, 40, .inl gla)), (msl, .inl (cI, 40, .inl gsl))] hpz)) (va_Qv (fun (u : (Int32) × (Int32) × (Nat → Int32) × (Nat → Int32)) => (4 ≤ u.1.toInt ∧ u.1.toInt ≤ 40) ∧ (0 ≤ u.2.1.toInt ∧ u.2.1.toInt ≤ 40) ∧ zRg u.2.2.1 (0) 1 ∧ zRg u.2.2.2 (0) 9 ∧ (u.1 = n) ∧ (True)) (zB D [(zMO m0 npu nte nat_ nde nto nse nhu nga nsd nfa mrf mki mpa mta mla msl mco mhe mso msi msh mce mca mwo mnu mte nba npl nen nnu nwr mwa mke mma mth mtr nra nik), (mla, .inl (cI, 40, .inl gla)), (msl, .inl (cI, 40, .inl gsl))] hpz (fun (u : (Int32) × (Int32) × (Nat → Int32) × (Nat → Int32)) => [(zMO m0 npu u.1 u.2.1 nde nto nse nhu nga nsd nfa mrf mki mpa mta mla msl mco mhe mso msi msh mce mca mwo mnu mte nba npl nen nnu nwr mwa mke mma mth mtr nra nik), (mla, .inl (cI, 40, .inl u.2.2.1)), (msl, .inl (cI, 40, .inl u.2.2.2))])) (va_A [(zMO m0 npu nte nat_ nde nto nse nhu nga nsd nfa mrf mki mpa mta mla msl mco mhe mso msi msh mce mca mwo mnu mte nba npl nen nnu nwr mwa mke mma mth mtr nra nik), (mla, .inl (cI, 40, .inl gla)), (msl, .inl (cI, 40, .inl gsl))] hpz)) 0 0 (va_A [(zMO m0 npu nte nat_ nde nto nse nhu nga nsd nfa mrf mki mpa mta mla msl mco mhe mso msi msh mce mca mwo mnu mte nba npl nen nnu nwr mwa mke mma mth mtr nra nik), (mla, .inl (cI, 40, .inl gla)), (msl, .inl (cI, 40, .inl gsl))] hpz) := by
  refine Met.ofW (cc := cX8_sews) (maxL := 3) (ret := none) (by decide) rfl ?_
  intro p e s m args below meth c s₁ B hml hv
  obtain ⟨rfl, hsz, hP, hK, hD0, hN, hZ⟩ := hv
  have hx := B.exec
  have hb := B.bytes
  have hr := B.returns
  have hts := atoms_spec (ws := wsX8_sews) B.pre
  have hown : s.vm.findClass RX8 = some m.cls := findClass_of_methodNamed B.named
  have hlocks := B.notSynchronized
  subst hsz
  have hD := hD0.self (sz := s.heap.size)
  have hA := zA_of hD
  have hl := lv_entry ([.ref m0, .int n]) (n := 3) (Nat.le_of_ble_eq_true rfl)
  rw [lg_entry_eq]
  generalize (lg_sl ([.ref m0, .int n]) ++ List.replicate (3 - (lg_sl ([.ref m0, .int n])).length) Slot.unset).toArray = ls at hl ⊢
  replace hl : lv_has ls 3 [(0, .ref m0), (1, .int n)] := hl
  refine zw_begin hP hD (fun H locs hP1 hS => ?_)
  clear hP
  have hP := hP1
  clear hP1
  refine lv_aload_n hx hb dX8_sews_0 rfl (lv_at hl 0 rfl) ?_
  refine lv_iload_n hx hb dX8_sews_1 rfl (lv_at hl 1 rfl) ?_
  refine va_put (D := D) (ci := 8) (v := .int n) (ty := .int) (C := RX8) (T := TX8) (N := 38) hx hb hts hi_X8_sews_8 tyX8 tyX8_ok nmX8 hown hK hP hD hS 0 rfl rfl 1 (by decide) (hts (.fieldLink RX8 7 "TheLiningsInItModel" "teeth" "I") (List.mem_of_getElem? (i := 1) rfl)) (fun _ h9 => h9) rfl (tyX8_ok 1 (Nat.le_of_ble_eq_true rfl)) rfl rfl (Nat.le_of_ble_eq_true rfl) dX8_sews_2 (fun H locs hP hD hS => ?_)
  have h9R := zRe (ws' := [(zMO m0 npu n nat_ nde nto nse nhu nga nsd nfa mrf mki mpa mta mla msl mco mhe mso msi msh mce mca mwo mnu mte nba npl nen nnu nwr mwa mke mma mth mtr nra nik), (mla, .inl (cI, 40, .inl gla)), (msl, .inl (cI, 40, .inl gsl))]) hP hD rfl
  clear hP hD
  obtain ⟨hP, hD⟩ := h9R
  refine lv_aload_n hx hb dX8_sews_5 rfl (lv_at hl 0 rfl) ?_
  refine lv_iconst (v := 0) hx hb dX8_sews_6 (by decide) ?_
  refine va_put (D := D) (ci := 8) (v := .int 0) (ty := .int) (C := RX8) (T := TX8) (N := 38) hx hb hts hi_X8_sews_8 tyX8 tyX8_ok nmX8 hown hK hP hD hS 0 rfl rfl 2 (by decide) (hts (.fieldLink RX8 122 "TheLiningsInItModel" "at" "I") (List.mem_of_getElem? (i := 2) rfl)) (fun _ h9 => h9) rfl (tyX8_ok 2 (Nat.le_of_ble_eq_true rfl)) rfl rfl (Nat.le_of_ble_eq_true rfl) dX8_sews_7 (fun H locs hP hD hS => ?_)
  have h9R := zRe (ws' := [(zMO m0 npu n 0 nde nto nse nhu nga nsd nfa mrf mki mpa mta mla msl mco mhe mso msi msh mce mca mwo mnu mte nba npl nen nnu nwr mwa mke mma mth mtr nra nik), (mla, .inl (cI, 40, .inl gla)), (msl, .inl (cI, 40, .inl gsl))]) hP hD rfl
  clear hP hD
  obtain ⟨hP, hD⟩ := h9R
  refine lv_iconst (v := 0) hx hb dX8_sews_10 (by decide) ?_
  refine lv_istore_n (lv' := [(2, .int 0), (0, .ref m0), (1, .int n)]) hx hb dX8_sews_11 rfl hl (by decide) rfl (fun ls hl => ?_)
  obtain ⟨i_12, hi_12⟩ : ∃ i : Int32, i = 0 := ⟨_, rfl⟩
  replace hl : lv_has ls 3 [(2, .int i_12), (0, .ref m0), (1, .int n)] := by rw [hi_12]; exact lv_sub hl [0, 1, 2] rfl
  have h1i_12 : i_12.toInt = 0 := by rw [hi_12]; decide
  obtain ⟨nfu, hni_12⟩ : ∃ nq9 : Nat, 40 ≤ i_12.toInt + (nq9 : Int) := ⟨((40 : Int) - 0).toNat, by omega⟩
  have hloi_12 : 0 ≤ i_12.toInt := by omega
  obtain ⟨g_1, hg_1⟩ : ∃ g : Nat → Int32, g = gla := ⟨_, rfl⟩
  have hpg_1 : zRg g_1 (0) 1 := by rw [hg_1]; exact hp_gla
  obtain ⟨g_2, hg_2⟩ : ∃ g : Nat → Int32, g = gsl := ⟨_, rfl⟩
  have hpg_2 : zRg g_2 (0) 9 := by rw [hg_2]; exact hp_gsl
  replace hP : va_P D vwCl [(zMO m0 npu n 0 nde nto nse nhu nga nsd nfa mrf mki mpa mta mla msl mco mhe mso msi msh mce mca mwo mnu mte nba npl nen nnu nwr mwa mke mma mth mtr nra nik), (mla, .inl (cI, 40, .inl g_1)), (msl, .inl (cI, 40, .inl g_2))] H := by rw [hg_1, hg_2]; exact hP
  replace hD : va_D (va_A [(zMO m0 npu nte nat_ nde nto nse nhu nga nsd nfa mrf mki mpa mta mla msl mco mhe mso msi msh mce mca mwo mnu mte nba npl nen nnu nwr mwa mke mma mth mtr nra nik), (mla, .inl (cI, 40, .inl gla)), (msl, .inl (cI, 40, .inl gsl))] s.heap.size) [(zMO m0 npu n 0 nde nto nse nhu nga nsd nfa mrf mki mpa mta mla msl mco mhe mso msi msh mce mca mwo mnu mte nba npl nen nnu nwr mwa mke mma mth mtr nra nik), (mla, .inl (cI, 40, .inl g_1)), (msl, .inl (cI, 40, .inl g_2))] := by rw [hg_1, hg_2]; exact hD
  clear h1i_12 hi_12 hg_1 hg_2
  skip
  revert hni_12
  revert hloi_12
  revert hpg_2
  revert hpg_1
  revert hl
  revert hS
  revert hD
  revert hP
  revert ls
  revert locs
  revert H
  revert g_1
  revert g_2
  revert i_12
  induction nfu with
  | zero =>
    intro i_12 g_2 g_1 H locs ls hP hD hS hl hpg_1 hpg_2 hloi_12 hni_12
    have hzi_12 : 40 ≤ i_12.toInt := by omega
    refine lv_iload_n hx hb dX8_sews_12 rfl (lv_at hl 0 rfl) ?_
    refine lv_bipush (v := 40) hx hb dX8_sews_13 (by decide) ?_
    refine lv_icmp_ge (tgt := 38) hx hb dX8_sews_15 (by decide) (fun c_3 => ?_) (fun c_3 => ?_)
    · have fc_3 : 40 ≤ i_12.toInt := zf_le c_3 (by decide) rfl
      exact W.vret hx hb hr (fun t ht hW => ⟨⟨(n, 0, g_1, g_2), rfl, ⟨(show 4 ≤ n.toInt ∧ n.toInt ≤ 40 from ⟨hy14, hy15⟩), (show 0 ≤ (0 : Int32).toInt ∧ (0 : Int32).toInt ≤ 40 from by decide), hpg_1, hpg_2, (show n = n from by rfl), trivial⟩, zRet ht hP hD [0, 1, 2] (by decide) rfl⟩, hS.F ht⟩) hS.2.2 dX8_sews_38
    · exfalso; have fc_3 : i_12.toInt < 40 := zf_nle c_3 (by decide) rfl; omega
  | succ nfu ih =>
    intro i_12 g_2 g_1 H locs ls hP hD hS hl hpg_1 hpg_2 hloi_12 hni_12
    refine lv_iload_n hx hb dX8_sews_12 rfl (lv_at hl 0 rfl) ?_
    refine lv_bipush (v := 40) hx hb dX8_sews_13 (by decide) ?_
    refine lv_icmp_ge (tgt := 38) hx hb dX8_sews_15 (by decide) (fun c_4 => ?_) (fun c_4 => ?_)
    · have fc_4 : 40 ≤ i_12.toInt := zf_le c_4 (by decide) rfl
      exact W.vret hx hb hr (fun t ht hW => ⟨⟨(n, 0, g_1, g_2), rfl, ⟨(show 4 ≤ n.toInt ∧ n.toInt ≤ 40 from ⟨hy14, hy15⟩), (show 0 ≤ (0 : Int32).toInt ∧ (0 : Int32).toInt ≤ 40 from by decide), hpg_1, hpg_2, (show n = n from by rfl), trivial⟩, zRet ht hP hD [0, 1, 2] (by decide) rfl⟩, hS.F ht⟩) hS.2.2 dX8_sews_38
    · have fc_4 : i_12.toInt < 40 := zf_nle c_4 (by decide) rfl
      refine lv_aload_n hx hb dX8_sews_18 rfl (lv_at hl 1 rfl) ?_
      refine va_get (D := D) (ci := 8) (v := .ref mla) (C := RX8) (T := TX8) (N := 38) hx hb hts hi_X8_sews_8 hown hK hP 0 rfl rfl 14 (by decide) (hts (.fieldLink RX8 38 "TheLiningsInItModel" "lacks" "[I") (List.mem_of_getElem? (i := 3) rfl)) (fun _ h9 => h9) rfl dX8_sews_19 ?_
      refine lv_iload_n hx hb dX8_sews_22 rfl (lv_at hl 0 rfl) ?_
      refine lv_iconst (v := 0) hx hb dX8_sews_23 (by decide) ?_
      refine va_iast hx hb hK hP hD hS 1 0 rfl rfl (zf_in (by omega) (by omega)) dX8_sews_24 (fun H locs hP hD hS => ?_)
      have hpg_5 : zRg (upd g_1 i_12.toNatClampNeg 0) (0) 1 := zRg_upd hpg_1 (by decide) (by decide)
      obtain ⟨g_5, hg_5⟩ : ∃ g : Nat → Int32, g = upd g_1 i_12.toNatClampNeg 0 := ⟨_, rfl⟩
      rw [← hg_5] at hP hD hpg_5
      clear hg_5
      have h9R := zRe (ws' := [(zMO m0 npu n 0 nde nto nse nhu nga nsd nfa mrf mki mpa mta mla msl mco mhe mso msi msh mce mca mwo mnu mte nba npl nen nnu nwr mwa mke mma mth mtr nra nik), (mla, .inl (cI, 40, .inl g_5)), (msl, .inl (cI, 40, .inl g_2))]) hP hD rfl
      clear hP hD
      obtain ⟨hP, hD⟩ := h9R
      refine lv_aload_n hx hb dX8_sews_25 rfl (lv_at hl 1 rfl) ?_
      refine va_get (D := D) (ci := 8) (v := .ref msl) (C := RX8) (T := TX8) (N := 38) hx hb hts hi_X8_sews_8 hown hK hP 0 rfl rfl 15 (by decide) (hts (.fieldLink RX8 41 "TheLiningsInItModel" "slack" "[I") (List.mem_of_getElem? (i := 4) rfl)) (fun _ h9 => h9) rfl dX8_sews_26 ?_
      refine lv_iload_n hx hb dX8_sews_29 rfl (lv_at hl 0 rfl) ?_
      refine lv_iconst (v := 0) hx hb dX8_sews_30 (by decide) ?_
      refine va_iast hx hb hK hP hD hS 2 0 rfl rfl (zf_in (by omega) (by omega)) dX8_sews_31 (fun H locs hP hD hS => ?_)
      have hpg_6 : zRg (upd g_2 i_12.toNatClampNeg 0) (0) 9 := zRg_upd hpg_2 (by decide) (by decide)
      obtain ⟨g_6, hg_6⟩ : ∃ g : Nat → Int32, g = upd g_2 i_12.toNatClampNeg 0 := ⟨_, rfl⟩
      rw [← hg_6] at hP hD hpg_6
      clear hg_6
      have h9R := zRe (ws' := [(zMO m0 npu n 0 nde nto nse nhu nga nsd nfa mrf mki mpa mta mla msl mco mhe mso msi msh mce mca mwo mnu mte nba npl nen nnu nwr mwa mke mma mth mtr nra nik), (mla, .inl (cI, 40, .inl g_5)), (msl, .inl (cI, 40, .inl g_6))]) hP hD rfl
      clear hP hD
      obtain ⟨hP, hD⟩ := h9R
      obtain ⟨x_7, ex_7⟩ : ∃ y : Int32, y = i_12 + 1 := ⟨_, rfl⟩
      have qx_7 : x_7.toInt = i_12.toInt + 1 := dw_incK ex_7 fc_4 (by decide)
      refine lv_iinc (v := x_7) (lv' := [(2, .int x_7), (0, .ref m0), (1, .int n)]) hx hb dX8_sews_32 hl (k := 0) rfl ex_7.symm (by decide) rfl (fun ls hl => ?_)
      refine lv_goto (tgt := 12) hx hb dX8_sews_35 (by decide) ?_
      exact ih x_7 (g_6) (g_5) _ _ _ (hP.sub [0, 1, 2] rfl) (hD.sub [0, 1, 2] (by decide) rfl) hS (lv_sub hl [0, 1, 2] rfl) hpg_5 hpg_6 (dw_lo hloi_12 qx_7) (dw_hn hni_12 qx_7)
set_option maxHeartbeats 4000000 in
set_option maxRecDepth 100000 in
theorem c_F_M_addsPull (l : Launch) (D : va_G) (cI cJ cZ cP cS : ClassId) (po : zPool) (m0 mrf mki mpa mta mla msl mco mhe mso msi msh mce mca mwo mnu mte mwa mke mma mth mtr : Nat) (npu nte nat_ nde nto nse nhu nga nsd nfa nba npl nen nnu nwr nra nik : Int32) (gki gpa gta : Nat → Int32) (ki a_ ta : Int32) (hy0 : 0 ≤ npu.toInt) (hy1 : npu.toInt ≤ 8) (hy2 : 4 ≤ nte.toInt) (hy3 : nte.toInt ≤ 40) (hy4 : 0 ≤ nat_.toInt) (hy5 : nat_.toInt ≤ 40) (hy6 : 0 ≤ nde.toInt) (hy7 : nde.toInt ≤ 24) (hy8 : 0 ≤ nhu.toInt) (hy9 : nhu.toInt ≤ 9) (hy10 : 0 ≤ nra.toInt) (hy11 : nra.toInt ≤ 2000) (hy12 : 0 ≤ nik.toInt) (hy13 : nik.toInt ≤ 1) (hy14 : 0 ≤ ki.toInt) (hy15 : ki.toInt ≤ 6) (hy16 : 0 ≤ a_.toInt) (hy17 : a_.toInt ≤ 9) (hy18 : 1 ≤ ta.toInt) (hy19 : ta.toInt ≤ 60) (hy20 : 0 ≤ npu.toInt) (hy21 : npu.toInt ≤ 7) (hp_gki : zRg gki (0) 6) (hp_gpa : zRg gpa (0) 9) (hp_gta : zRg gta (0) 60) (hpz : Nat) : Met l yX8_addsPull wsX8_addsPull ({ frames := 0, cells := 0, slots := 0, locals := 0 }) (va_Pc [.ref m0, .int ki, .int a_, .int ta] (zW D (zKT cI cJ cZ cP cS) po [(zMO m0 npu nte nat_ nde nto nse nhu nga nsd nfa mrf mki mpa mta mla msl mco mhe mso msi msh mce mca mwo mnu mte nba npl nen nnu nwr mwa mke mma mth mtr nra nik), (mki, .inl (cI, 8, .inl gki)), (mpa, .inl (cI, 8, .inl gpa)), (mta, .inl (cI, 8, .inl gta))] hpz)) (va_Qi (fun (r : Int32) (u : (Int32) × (Nat → Int32) × (Nat → Int32) × (Nat → Int32)) => (0 ≤ u.1.toInt ∧ u.1.toInt ≤ 8) ∧ zRg u.2.1 (0) 6 ∧ zRg u.2.2.1 (0) 9 ∧ zRg u.2.2.2 (0) 60 ∧ (u.1.toInt = npu.toInt + 1) ∧ (r.toInt = npu.toInt) ∧ (0 ≤ r.toInt ∧ r.toInt ≤ 7)) (zB D [(zMO m0 npu nte nat_ nde nto nse nhu nga nsd nfa mrf mki mpa mta mla msl mco mhe mso msi msh mce mca mwo mnu mte nba npl nen nnu nwr mwa mke mma mth mtr nra nik), (mki, .inl (cI, 8, .inl gki)), (mpa, .inl (cI, 8, .inl gpa)), (mta, .inl (cI, 8, .inl gta))] hpz (fun (u : (Int32) × (Nat → Int32) × (Nat → Int32) × (Nat → Int32)) => [(zMO m0 u.1 nte nat_ nde nto nse nhu nga nsd nfa mrf mki mpa mta mla msl mco mhe mso msi msh mce mca mwo mnu mte nba npl nen nnu nwr mwa mke mma mth mtr nra nik), (mki, .inl (cI, 8, .inl u.2.1)), (mpa, .inl (cI, 8, .inl u.2.2.1)), (mta, .inl (cI, 8, .inl u.2.2.2))])) (va_A [(zMO m0 npu nte nat_ nde nto nse nhu nga nsd nfa mrf mki mpa mta mla msl mco mhe mso msi msh mce mca mwo mnu mte nba npl nen nnu nwr mwa mke mma mth mtr nra nik), (mki, .inl (cI, 8, .inl gki)), (mpa, .inl (cI, 8, .inl gpa)), (mta, .inl (cI, 8, .inl gta))] hpz)) 0 0 (va_A [(zMO m0 npu nte nat_ nde nto nse nhu nga nsd nfa mrf mki mpa mta mla msl mco mhe mso msi msh mce mca mwo mnu mte nba npl nen nnu nwr mwa mke mma mth mtr nra nik), (mki, .inl (cI, 8, .inl gki)), (mpa, .inl (cI, 8, .inl gpa)), (mta, .inl (cI, 8, .inl gta))] hpz) := by
  refine Met.ofW (cc := cX8_addsPull) (maxL := 4) (ret := (some .int)) (by decide) rfl ?_
  intro p e s m args below meth c s₁ B hml hv
  obtain ⟨rfl, hsz, hP, hK, hD0, hN, hZ⟩ := hv
  have hx := B.exec
  have hb := B.bytes
  have hr := B.returns
  have hts := atoms_spec (ws := wsX8_addsPull) B.pre
  have hown : s.vm.findClass RX8 = some m.cls := findClass_of_methodNamed B.named
  have hlocks := B.notSynchronized
  subst hsz
  have hD := hD0.self (sz := s.heap.size)
  have hA := zA_of hD
  have hl := lv_entry ([.ref m0, .int ki, .int a_, .int ta]) (n := 4) (Nat.le_of_ble_eq_true rfl)
  rw [lg_entry_eq]
  generalize (lg_sl ([.ref m0, .int ki, .int a_, .int ta]) ++ List.replicate (4 - (lg_sl ([.ref m0, .int ki, .int a_, .int ta])).length) Slot.unset).toArray = ls at hl ⊢
  replace hl : lv_has ls 4 [(0, .ref m0), (1, .int ki), (2, .int a_), (3, .int ta)] := hl
  refine zw_begin hP hD (fun H locs hP1 hS => ?_)
  clear hP
  have hP := hP1
  clear hP1
  refine lv_aload_n hx hb dX8_addsPull_0 rfl (lv_at hl 0 rfl) ?_
  refine va_get (D := D) (ci := 8) (v := .ref mki) (C := RX8) (T := TX8) (N := 38) hx hb hts hi_X8_addsPull_8 hown hK hP 0 rfl rfl 11 (by decide) (hts (.fieldLink RX8 29 "TheLiningsInItModel" "kind" "[I") (List.mem_of_getElem? (i := 1) rfl)) (fun _ h9 => h9) rfl dX8_addsPull_1 ?_
  refine lv_aload_n hx hb dX8_addsPull_4 rfl (lv_at hl 0 rfl) ?_
  refine va_get (D := D) (ci := 8) (v := .int npu) (C := RX8) (T := TX8) (N := 38) hx hb hts hi_X8_addsPull_8 hown hK hP 0 rfl rfl 0 (by decide) (hts (.fieldLink RX8 90 "TheLiningsInItModel" "pulls" "I") (List.mem_of_getElem? (i := 2) rfl)) (fun _ h9 => h9) rfl dX8_addsPull_5 ?_
  refine lv_iload_n hx hb dX8_addsPull_8 rfl (lv_at hl 1 rfl) ?_
  refine va_iast hx hb hK hP hD hS 1 0 rfl rfl (zf_in (by omega) (by omega)) dX8_addsPull_9 (fun H locs hP hD hS => ?_)
  have hpg_1 : zRg (upd gki npu.toNatClampNeg ki) (0) 6 := zRg_upd hp_gki (by omega) (by omega)
  obtain ⟨g_1, hg_1⟩ : ∃ g : Nat → Int32, g = upd gki npu.toNatClampNeg ki := ⟨_, rfl⟩
  rw [← hg_1] at hP hD hpg_1
  clear hg_1
  have h9R := zRe (ws' := [(zMO m0 npu nte nat_ nde nto nse nhu nga nsd nfa mrf mki mpa mta mla msl mco mhe mso msi msh mce mca mwo mnu mte nba npl nen nnu nwr mwa mke mma mth mtr nra nik), (mki, .inl (cI, 8, .inl g_1)), (mpa, .inl (cI, 8, .inl gpa)), (mta, .inl (cI, 8, .inl gta))]) hP hD rfl
  clear hP hD
  obtain ⟨hP, hD⟩ := h9R
  refine lv_aload_n hx hb dX8_addsPull_10 rfl (lv_at hl 0 rfl) ?_
  refine va_get (D := D) (ci := 8) (v := .ref mpa) (C := RX8) (T := TX8) (N := 38) hx hb hts hi_X8_addsPull_8 hown hK hP 0 rfl rfl 12 (by decide) (hts (.fieldLink RX8 32 "TheLiningsInItModel" "part" "[I") (List.mem_of_getElem? (i := 3) rfl)) (fun _ h9 => h9) rfl dX8_addsPull_11 ?_
  refine lv_aload_n hx hb dX8_addsPull_14 rfl (lv_at hl 0 rfl) ?_
  refine va_get (D := D) (ci := 8) (v := .int npu) (C := RX8) (T := TX8) (N := 38) hx hb hts hi_X8_addsPull_8 hown hK hP 0 rfl rfl 0 (by decide) (hts (.fieldLink RX8 90 "TheLiningsInItModel" "pulls" "I") (List.mem_of_getElem? (i := 2) rfl)) (fun _ h9 => h9) rfl dX8_addsPull_15 ?_
  refine lv_iload_n hx hb dX8_addsPull_18 rfl (lv_at hl 2 rfl) ?_
  refine va_iast hx hb hK hP hD hS 2 0 rfl rfl (zf_in (by omega) (by omega)) dX8_addsPull_19 (fun H locs hP hD hS => ?_)
  have hpg_2 : zRg (upd gpa npu.toNatClampNeg a_) (0) 9 := zRg_upd hp_gpa (by omega) (by omega)
  obtain ⟨g_2, hg_2⟩ : ∃ g : Nat → Int32, g = upd gpa npu.toNatClampNeg a_ := ⟨_, rfl⟩
  rw [← hg_2] at hP hD hpg_2
  clear hg_2
  have h9R := zRe (ws' := [(zMO m0 npu nte nat_ nde nto nse nhu nga nsd nfa mrf mki mpa mta mla msl mco mhe mso msi msh mce mca mwo mnu mte nba npl nen nnu nwr mwa mke mma mth mtr nra nik), (mki, .inl (cI, 8, .inl g_1)), (mpa, .inl (cI, 8, .inl g_2)), (mta, .inl (cI, 8, .inl gta))]) hP hD rfl
  clear hP hD
  obtain ⟨hP, hD⟩ := h9R
  refine lv_aload_n hx hb dX8_addsPull_20 rfl (lv_at hl 0 rfl) ?_
  refine va_get (D := D) (ci := 8) (v := .ref mta) (C := RX8) (T := TX8) (N := 38) hx hb hts hi_X8_addsPull_8 hown hK hP 0 rfl rfl 13 (by decide) (hts (.fieldLink RX8 35 "TheLiningsInItModel" "takes" "[I") (List.mem_of_getElem? (i := 4) rfl)) (fun _ h9 => h9) rfl dX8_addsPull_21 ?_
  refine lv_aload_n hx hb dX8_addsPull_24 rfl (lv_at hl 0 rfl) ?_
  refine va_get (D := D) (ci := 8) (v := .int npu) (C := RX8) (T := TX8) (N := 38) hx hb hts hi_X8_addsPull_8 hown hK hP 0 rfl rfl 0 (by decide) (hts (.fieldLink RX8 90 "TheLiningsInItModel" "pulls" "I") (List.mem_of_getElem? (i := 2) rfl)) (fun _ h9 => h9) rfl dX8_addsPull_25 ?_
  refine lv_iload_n hx hb dX8_addsPull_28 rfl (lv_at hl 3 rfl) ?_
  refine va_iast hx hb hK hP hD hS 3 0 rfl rfl (zf_in (by omega) (by omega)) dX8_addsPull_29 (fun H locs hP hD hS => ?_)
  have hpg_3 : zRg (upd gta npu.toNatClampNeg ta) (0) 60 := zRg_upd hp_gta (by omega) (by omega)
  obtain ⟨g_3, hg_3⟩ : ∃ g : Nat → Int32, g = upd gta npu.toNatClampNeg ta := ⟨_, rfl⟩
  rw [← hg_3] at hP hD hpg_3
  clear hg_3
  have h9R := zRe (ws' := [(zMO m0 npu nte nat_ nde nto nse nhu nga nsd nfa mrf mki mpa mta mla msl mco mhe mso msi msh mce mca mwo mnu mte nba npl nen nnu nwr mwa mke mma mth mtr nra nik), (mki, .inl (cI, 8, .inl g_1)), (mpa, .inl (cI, 8, .inl g_2)), (mta, .inl (cI, 8, .inl g_3))]) hP hD rfl
  clear hP hD
  obtain ⟨hP, hD⟩ := h9R
  refine lv_aload_n hx hb dX8_addsPull_30 rfl (lv_at hl 0 rfl) ?_
  refine lv_dup hx hb dX8_addsPull_31 rfl ?_
  refine va_get (D := D) (ci := 8) (v := .int npu) (C := RX8) (T := TX8) (N := 38) hx hb hts hi_X8_addsPull_8 hown hK hP 0 rfl rfl 0 (by decide) (hts (.fieldLink RX8 90 "TheLiningsInItModel" "pulls" "I") (List.mem_of_getElem? (i := 2) rfl)) (fun _ h9 => h9) rfl dX8_addsPull_32 ?_
  refine lv_dup_x1 hx hb dX8_addsPull_35 rfl rfl ?_
  refine lv_iconst (v := 1) hx hb dX8_addsPull_36 (by decide) ?_
  refine lv_iadd hx hb dX8_addsPull_37 ?_
  refine lv_topi (fun x_4 ex_4 => ?_)
  have qx_4 : x_4.toInt = npu.toInt + 1 := by rw [ex_4]; exact zf_add rfl (by decide) (by omega) (by omega)
  refine va_put (D := D) (ci := 8) (v := .int x_4) (ty := .int) (C := RX8) (T := TX8) (N := 38) hx hb hts hi_X8_addsPull_8 tyX8 tyX8_ok nmX8 hown hK hP hD hS 0 rfl rfl 0 (by decide) (hts (.fieldLink RX8 90 "TheLiningsInItModel" "pulls" "I") (List.mem_of_getElem? (i := 2) rfl)) (fun _ h9 => h9) rfl (tyX8_ok 0 (Nat.le_of_ble_eq_true rfl)) rfl rfl (Nat.le_of_ble_eq_true rfl) dX8_addsPull_38 (fun H locs hP hD hS => ?_)
  have h9R := zRe (ws' := [(zMO m0 x_4 nte nat_ nde nto nse nhu nga nsd nfa mrf mki mpa mta mla msl mco mhe mso msi msh mce mca mwo mnu mte nba npl nen nnu nwr mwa mke mma mth mtr nra nik), (mki, .inl (cI, 8, .inl g_1)), (mpa, .inl (cI, 8, .inl g_2)), (mta, .inl (cI, 8, .inl g_3))]) hP hD rfl
  clear hP hD
  obtain ⟨hP, hD⟩ := h9R
  exact W.iret (v := npu) hx hb hr (fun t ht hW => ⟨⟨npu, (x_4, g_1, g_2, g_3), rfl, ⟨(show 0 ≤ x_4.toInt ∧ x_4.toInt ≤ 8 from ⟨by omega, by omega⟩), hpg_1, hpg_2, hpg_3, (show x_4.toInt = npu.toInt + 1 from by omega), (show (npu : Int32).toInt = npu.toInt from by rfl), ⟨by omega, by omega⟩⟩, zRet ht hP hD [0, 1, 2, 3] (by decide) rfl⟩, hS.F ht⟩) hS.2.2 dX8_addsPull_41
set_option maxHeartbeats 4000000 in
set_option maxRecDepth 100000 in
theorem c_F_M_item (l : Launch) (D : va_G) (cI cJ cZ cP cS : ClassId) (po : zPool) (m0 mrf mki mpa mta mla msl mco mhe mso msi msh mce mca mwo mnu mte mwa mke mma mth mtr : Nat) (npu nte nat_ nde nto nse nhu nga nsd nfa nba npl nen nnu nwr nra nik : Int32) (gwo gnu gki gpa gta gla gsl gco gte : Nat → Int32) (gce : Nat → Int64) (hy0 : 0 ≤ npu.toInt) (hy1 : npu.toInt ≤ 8) (hy2 : 4 ≤ nte.toInt) (hy3 : nte.toInt ≤ 40) (hy4 : 0 ≤ nat_.toInt) (hy5 : nat_.toInt ≤ 40) (hy6 : 0 ≤ nde.toInt) (hy7 : nde.toInt ≤ 24) (hy8 : 0 ≤ nhu.toInt) (hy9 : nhu.toInt ≤ 9) (hy10 : 0 ≤ nra.toInt) (hy11 : nra.toInt ≤ 2000) (hy12 : 0 ≤ nik.toInt) (hy13 : nik.toInt ≤ 1) (hy14 : 0 ≤ nba.toInt) (hy15 : nba.toInt ≤ 1120) (hy16 : 0 ≤ npl.toInt) (hy17 : npl.toInt ≤ 160) (hy18 : 0 ≤ nen.toInt) (hy19 : nen.toInt ≤ 160) (hy20 : npl.toInt ≤ nen.toInt) (hwo : zHWo gwo) (hnu : zHNu gnu) (hp_gki : zRg gki (0) 6) (hp_gpa : zRg gpa (0) 9) (hp_gta : zRg gta (0) 60) (hp_gla : zRg gla (0) 1) (hp_gsl : zRg gsl (0) 9) (hp_gco : zRg gco (0) 99) (hpz : Nat) : Met l yX8_item wsX8_item ({ frames := 3, cells := 0, slots := 0, locals := 65 }) (va_Pc [.ref m0] (zW D (zKT cI cJ cZ cP cS) po [(zMO m0 npu nte nat_ nde nto nse nhu nga nsd nfa mrf mki mpa mta mla msl mco mhe mso msi msh mce mca mwo mnu mte nba npl nen nnu nwr mwa mke mma mth mtr nra nik), (mwo, .inl (cI, 64, .inl gwo)), (mnu, .inl (cI, 10, .inl gnu)), (mce, .inl (cJ, 1280, .inr (.inl gce))), (mki, .inl (cI, 8, .inl gki)), (mpa, .inl (cI, 8, .inl gpa)), (mta, .inl (cI, 8, .inl gta)), (mla, .inl (cI, 40, .inl gla)), (msl, .inl (cI, 40, .inl gsl)), (mco, .inl (cI, 3, .inl gco)), (mte, .inl (cI, 3, .inl gte))] hpz)) (va_Qi (fun (r : Int32) (u : (Int32) × (Int32) × (Int32) × (Int32) × (Int32) × (Int32) × (Int32) × (Nat → Int32) × (Nat → Int32) × (Nat → Int32) × (Nat → Int32) × (Nat → Int32) × (Nat → Int32) × (Nat → Int32) × (Int32) × (Int32) × (Int32)) => (0 ≤ u.1.toInt ∧ u.1.toInt ≤ 8) ∧ (4 ≤ u.2.1.toInt ∧ u.2.1.toInt ≤ 40) ∧ (0 ≤ u.2.2.1.toInt ∧ u.2.2.1.toInt ≤ 40) ∧ (0 ≤ u.2.2.2.1.toInt ∧ u.2.2.2.1.toInt ≤ 24) ∧ (0 ≤ u.2.2.2.2.2.1.toInt ∧ u.2.2.2.2.2.1.toInt ≤ 9) ∧ zRg u.2.2.2.2.2.2.2.1 (0) 6 ∧ zRg u.2.2.2.2.2.2.2.2.1 (0) 9 ∧ zRg u.2.2.2.2.2.2.2.2.2.1 (0) 60 ∧ zRg u.2.2.2.2.2.2.2.2.2.2.1 (0) 1 ∧ zRg u.2.2.2.2.2.2.2.2.2.2.2.1 (0) 9 ∧ zRg u.2.2.2.2.2.2.2.2.2.2.2.2.1 (0) 99 ∧ (0 ≤ u.2.2.2.2.2.2.2.2.2.2.2.2.2.2.1.toInt ∧ u.2.2.2.2.2.2.2.2.2.2.2.2.2.2.1.toInt ≤ 160) ∧ (npl.toInt ≤ u.2.2.2.2.2.2.2.2.2.2.2.2.2.2.1.toInt ∧ u.2.2.2.2.2.2.2.2.2.2.2.2.2.2.1.toInt ≤ nen.toInt) ∧ ((r.toInt = 1 → (zItem (zMF gce nba.toInt) nen.toInt npl.toInt nte.toInt npu.toInt).1 = -1 ∧ u.2.2.2.2.2.2.2.2.2.2.2.2.2.2.1.toInt = (zItem (zMF gce nba.toInt) nen.toInt npl.toInt nte.toInt npu.toInt).2.1 ∧ u.2.1.toInt = (zItem (zMF gce nba.toInt) nen.toInt npl.toInt nte.toInt npu.toInt).2.2.1 ∧ u.1.toInt = (zItem (zMF gce nba.toInt) nen.toInt npl.toInt nte.toInt npu.toInt).2.2.2) ∧ (r.toInt = 0 → (zItem (zMF gce nba.toInt) nen.toInt npl.toInt nte.toInt npu.toInt).1 = u.2.2.2.2.2.2.2.2.2.2.2.2.2.2.2.2.toInt ∧ 0 ≤ u.2.2.2.2.2.2.2.2.2.2.2.2.2.2.2.2.toInt)) ∧ (0 ≤ r.toInt ∧ r.toInt ≤ 1)) (zB D [(zMO m0 npu nte nat_ nde nto nse nhu nga nsd nfa mrf mki mpa mta mla msl mco mhe mso msi msh mce mca mwo mnu mte nba npl nen nnu nwr mwa mke mma mth mtr nra nik), (mwo, .inl (cI, 64, .inl gwo)), (mnu, .inl (cI, 10, .inl gnu)), (mce, .inl (cJ, 1280, .inr (.inl gce))), (mki, .inl (cI, 8, .inl gki)), (mpa, .inl (cI, 8, .inl gpa)), (mta, .inl (cI, 8, .inl gta)), (mla, .inl (cI, 40, .inl gla)), (msl, .inl (cI, 40, .inl gsl)), (mco, .inl (cI, 3, .inl gco)), (mte, .inl (cI, 3, .inl gte))] hpz (fun (u : (Int32) × (Int32) × (Int32) × (Int32) × (Int32) × (Int32) × (Int32) × (Nat → Int32) × (Nat → Int32) × (Nat → Int32) × (Nat → Int32) × (Nat → Int32) × (Nat → Int32) × (Nat → Int32) × (Int32) × (Int32) × (Int32)) => [(zMO m0 u.1 u.2.1 u.2.2.1 u.2.2.2.1 nto u.2.2.2.2.1 u.2.2.2.2.2.1 u.2.2.2.2.2.2.1 nsd nfa mrf mki mpa mta mla msl mco mhe mso msi msh mce mca mwo mnu mte nba u.2.2.2.2.2.2.2.2.2.2.2.2.2.2.1 nen u.2.2.2.2.2.2.2.2.2.2.2.2.2.2.2.1 u.2.2.2.2.2.2.2.2.2.2.2.2.2.2.2.2 mwa mke mma mth mtr nra nik), (mwo, .inl (cI, 64, .inl gwo)), (mnu, .inl (cI, 10, .inl gnu)), (mce, .inl (cJ, 1280, .inr (.inl gce))), (mki, .inl (cI, 8, .inl u.2.2.2.2.2.2.2.1)), (mpa, .inl (cI, 8, .inl u.2.2.2.2.2.2.2.2.1)), (mta, .inl (cI, 8, .inl u.2.2.2.2.2.2.2.2.2.1)), (mla, .inl (cI, 40, .inl u.2.2.2.2.2.2.2.2.2.2.1)), (msl, .inl (cI, 40, .inl u.2.2.2.2.2.2.2.2.2.2.2.1)), (mco, .inl (cI, 3, .inl u.2.2.2.2.2.2.2.2.2.2.2.2.1)), (mte, .inl (cI, 3, .inl u.2.2.2.2.2.2.2.2.2.2.2.2.2.1))])) (va_A [(zMO m0 npu nte nat_ nde nto nse nhu nga nsd nfa mrf mki mpa mta mla msl mco mhe mso msi msh mce mca mwo mnu mte nba npl nen nnu nwr mwa mke mma mth mtr nra nik), (mwo, .inl (cI, 64, .inl gwo)), (mnu, .inl (cI, 10, .inl gnu)), (mce, .inl (cJ, 1280, .inr (.inl gce))), (mki, .inl (cI, 8, .inl gki)), (mpa, .inl (cI, 8, .inl gpa)), (mta, .inl (cI, 8, .inl gta)), (mla, .inl (cI, 40, .inl gla)), (msl, .inl (cI, 40, .inl gsl)), (mco, .inl (cI, 3, .inl gco)), (mte, .inl (cI, 3, .inl gte))] hpz)) 0 0 (va_A [(zMO m0 npu nte nat_ nde nto nse nhu nga nsd nfa mrf mki mpa mta mla msl mco mhe mso msi msh mce mca mwo mnu mte nba npl nen nnu nwr mwa mke mma mth mtr nra nik), (mwo, .inl (cI, 64, .inl gwo)), (mnu, .inl (cI, 10, .inl gnu)), (mce, .inl (cJ, 1280, .inr (.inl gce))), (mki, .inl (cI, 8, .inl gki)), (mpa, .inl (cI, 8, .inl gpa)), (mta, .inl (cI, 8, .inl gta)), (mla, .inl (cI, 40, .inl gla)), (msl, .inl (cI, 40, .inl gsl)), (mco, .inl (cI, 3, .inl gco)), (mte, .inl (cI, 3, .inl gte))] hpz) := by
  refine Met.ofW (cc := cX8_item) (maxL := 4) (ret := (some .boolean)) (by decide) rfl ?_
  intro p e s m args below meth c s₁ B hml hv
  obtain ⟨rfl, hsz, hP, hK, hD0, hN, hZ⟩ := hv
  have hx := B.exec
  have hb := B.bytes
  have hr := B.returns
  have hts := atoms_spec (ws := wsX8_item) B.pre
  have hown : s.vm.findClass RX8 = some m.cls := findClass_of_methodNamed B.named
  have hlocks := B.notSynchronized
  subst hsz
  have hD := hD0.self (sz := s.heap.size)
  have hA := zA_of hD
  have hl := lv_entry ([.ref m0]) (n := 4) (Nat.le_of_ble_eq_true rfl)
  rw [lg_entry_eq]
  generalize (lg_sl ([.ref m0]) ++ List.replicate (4 - (lg_sl ([.ref m0])).length) Slot.unset).toArray = ls at hl ⊢
  replace hl : lv_has ls 4 [(0, .ref m0)] := hl
  refine zw_begin hP hD (fun H locs hP1 hS => ?_)
  clear hP
  have hP := hP1
  clear hP1
  refine lv_aload_n hx hb dX8_item_0 rfl (lv_at hl 0 rfl) ?_
  refine lv_iconst (v := 3) hx hb dX8_item_1 (by decide) ?_
  refine zc_V (As := [.int 3]) (rest := []) ⟨hx, hb, hml, hown, hts⟩ (c_F_M_stands l D cI cJ cZ cP cS po m0 mrf mki mpa mta mla msl mco mhe mso msi msh mce mca mwo mnu mte mwa mke mma mth mtr (npu) (nte) (nat_) (nde) (nto) (nse) (nhu) (nga) (nsd) (nfa) (nba) (npl) (nen) (nnu) (nwr) (nra) (nik) gwo gce hy0 hy1 hy2 hy3 hy4 hy5 hy6 hy7 hy8 hy9 hy10 hy11 hy12 hy13 hy14 hy15 hy16 hy17 hy18 hy19 (by omega) hwo) (cwV 1 hts gX8_item_X8_stands rfl rfl rfl ⟨rfl, dh_X8_stands⟩ ⟨Nat.le_of_ble_eq_true rfl, Nat.le_of_ble_eq_true rfl⟩) hK hN (hZ.kept hS) hP (hP.sub [0, 1, 3] rfl) (va_recv (q := (RX8, TX8, 38)) hK hP (ci := 8) (q0 := 0) rfl rfl) rfl hl.1 rfl (Nat.le_of_ble_eq_true rfl) dX8_item_2 ⟨Nat.le_of_ble_eq_true rfl, Nat.le_of_ble_eq_true rfl⟩ (fun r_1 hr_1 => ?_)
  obtain ⟨g_2, g_3, hsr_1_0⟩ := hr_1
  refine lv_if_eq (tgt := 26) hx hb dX8_item_5 (by decide) (fun c_4 => ?_) (fun c_4 => ?_)
  · have fc_4 : r_1.toInt = 0 := zf_eq c_4 rfl (by decide)
    refine lv_aload_n hx hb dX8_item_26 rfl (lv_at hl 0 rfl) ?_
    skip
    refine zw_V (As := []) (rest := []) (wr := [(mnu, .inl (cI, 10, .inl gnu)), (mki, .inl (cI, 8, .inl gki)), (mpa, .inl (cI, 8, .inl gpa)), (mta, .inl (cI, 8, .inl gta)), (mla, .inl (cI, 40, .inl gla)), (msl, .inl (cI, 40, .inl gsl)), (mco, .inl (cI, 3, .inl gco)), (mte, .inl (cI, 3, .inl gte))]) ⟨hx, hb, hml, hown, hts⟩ (c_F_M_word l D cI cJ cZ cP cS po m0 mrf mki mpa mta mla msl mco mhe mso msi msh mce mca mwo mnu mte mwa mke mma mth mtr (npu) (nte) (nat_) (nde) (nto) (nse) (nhu) (nga) (nsd) (nfa) (nba) (npl) (nen) (nnu) (nwr) (nra) (nik) gwo gce hy0 hy1 hy2 hy3 hy4 hy5 hy6 hy7 hy8 hy9 hy10 hy11 hy12 hy13 hy14 hy15 hy16 hy17 hy18 hy19 (by omega) hwo H.size) (cwV 0 hts gX8_item_X8_word rfl rfl rfl ⟨rfl, dh_X8_word⟩ ⟨Nat.le_of_ble_eq_true rfl, Nat.le_of_ble_eq_true rfl⟩) hK hN (hZ.kept hS) hP hD hS hA [0, 1, 3] [2, 4, 5, 6, 7, 8, 9, 10] rfl rfl (by decide) (by decide) (by decide) (va_recv (q := (RX8, TX8, 38)) hK hP (ci := 8) (q0 := 0) rfl rfl) rfl hl.1 rfl (Nat.le_of_ble_eq_true rfl) dX8_item_27 ⟨Nat.le_of_ble_eq_true rfl, Nat.le_of_ble_eq_true rfl⟩ (fun r_5 u_6 H locs hr_5 hP hD hS => ?_)
    obtain ⟨q_7, q_8⟩ := u_6
    try dsimp only at hr_5
    obtain ⟨hbq_7, hsr_5_0, hsr_5_1, hr_5⟩ := hr_5
    have h9R := zRe (ws' := [(mnu, .inl (cI, 10, .inl gnu)), (mki, .inl (cI, 8, .inl gki)), (mpa, .inl (cI, 8, .inl gpa)), (mta, .inl (cI, 8, .inl gta)), (mla, .inl (cI, 40, .inl gla)), (msl, .inl (cI, 40, .inl gsl)), (mco, .inl (cI, 3, .inl gco)), (mte, .inl (cI, 3, .inl gte)), (zMO m0 npu nte nat_ nde nto nse nhu nga nsd nfa mrf mki mpa mta mla msl mco mhe mso msi msh mce mca mwo mnu mte nba q_7 nen nnu q_8 mwa mke mma mth mtr nra nik), (mwo, .inl (cI, 64, .inl gwo)), (mce, .inl (cJ, 1280, .inr (.inl gce)))]) hP hD rfl
    clear hP hD
    obtain ⟨hP, hD⟩ := h9R
    obtain ⟨g_9, g_10⟩ := hr_5
    refine lv_istore_n (lv' := [(1, .int r_5), (0, .ref m0)]) hx hb dX8_item_30 rfl hl (by decide) rfl (fun ls hl => ?_)
    refine lv_iload_n hx hb dX8_item_31 rfl (lv_at hl 0 rfl) ?_
    refine lv_iconst (v := (-1)) hx hb dX8_item_32 (by decide) ?_
    refine lv_icmp_ne (tgt := 38) hx hb dX8_item_33 (by decide) (fun c_11 => ?_) (fun c_11 => ?_)
    · have fc_11 : r_5.toInt ≠ (-1) := zf_ne c_11 rfl (by decide)
      have hsp : r_5 = 0 ∨ r_5 = 1 ∨ r_5 = 2 ∨ r_5 = 3 ∨ r_5 = 4 ∨ r_5 = 5 ∨ r_5 = 6 ∨ r_5 = 7 ∨ r_5 = 8 ∨ r_5 = 9 := by
        rcases (show r_5.toInt = 0 ∨ r_5.toInt = 1 ∨ r_5.toInt = 2 ∨ r_5.toInt = 3 ∨ r_5.toInt = 4 ∨ r_5.toInt = 5 ∨ r_5.toInt = 6 ∨ r_5.toInt = 7 ∨ r_5.toInt = 8 ∨ r_5.toInt = 9 by omega) with h9 | h9 | h9 | h9 | h9 | h9 | h9 | h9 | h9 | h9
        · refine Or.inl ?_; exact zf_val h9 (by decide)
        · refine Or.inr (Or.inl ?_); exact zf_val h9 (by decide)
        · refine Or.inr (Or.inr (Or.inl ?_)); exact zf_val h9 (by decide)
        · refine Or.inr (Or.inr (Or.inr (Or.inl ?_))); exact zf_val h9 (by decide)
        · refine Or.inr (Or.inr (Or.inr (Or.inr (Or.inl ?_)))); exact zf_val h9 (by decide)
        · refine Or.inr (Or.inr (Or.inr (Or.inr (Or.inr (Or.inl ?_))))); exact zf_val h9 (by decide)
        · refine Or.inr (Or.inr (Or.inr (Or.inr (Or.inr (Or.inr (Or.inl ?_)))))); exact zf_val h9 (by decide)
        · refine Or.inr (Or.inr (Or.inr (Or.inr (Or.inr (Or.inr (Or.inr (Or.inl ?_))))))); exact zf_val h9 (by decide)
        · refine Or.inr (Or.inr (Or.inr (Or.inr (Or.inr (Or.inr (Or.inr (Or.inr (Or.inl ?_)))))))); exact zf_val h9 (by decide)
        · refine Or.inr (Or.inr (Or.inr (Or.inr (Or.inr (Or.inr (Or.inr (Or.inr (Or.inr (?_))))))))); exact zf_val h9 (by decide)
      rcases hsp with rfl | rfl | rfl | rfl | rfl | rfl | rfl | rfl | rfl | rfl
      · have kc0 : (0 : Int32).toInt = 0 := by decide
        have z9 := hsr_5_1
        rw [kc0] at z9
        obtain ⟨hW1, hW2, hW3, hW4⟩ := zItem_Mw (f := (zMF gce nba.toInt)) (e := nen.toInt) (p := npl.toInt) (w := 0) (by omega) (by decide)
        have hp8 : ¬ ((0 : Int) = 3 ∧ npu.toInt = 8) := fun z => absurd z.1 (by decide)
        refine lv_iconst (v := 0) hx hb dX8_item_38 (by decide) ?_
        refine lv_istore_n (lv' := [(2, .int 0), (1, .int 0), (0, .ref m0)]) hx hb dX8_item_39 rfl hl (by decide) rfl (fun ls hl => ?_)
        refine lv_iload_n hx hb dX8_item_40 rfl (lv_at hl 0 rfl) ?_
        refine lv_aload_n hx hb dX8_item_41 rfl (lv_at hl 2 rfl) ?_
        refine va_get (D := D) (ci := 8) (v := .ref mnu) (C := RX8) (T := TX8) (N := 38) hx hb hts hi_X8_item_8 hown hK hP 8 rfl rfl 24 (by decide) (hts (.fieldLink RX8 69 "TheLiningsInItModel" "numbers" "[I") (List.mem_of_getElem? (i := 3) rfl)) (fun _ h9 => h9) rfl dX8_item_42 ?_
        refine lv_iload_n hx hb dX8_item_45 rfl (lv_at hl 1 rfl) ?_
        refine va_iald hx hb hK hP 0 0 rfl rfl (zf_in (by decide) (by decide)) dX8_item_46 ?_
        refine lv_topi (fun x_12 ex_12 => ?_)
        obtain rfl : x_12 = 1 := ex_12.trans ((congrArg gnu (show (0 : Int32).toNatClampNeg = 0 from by decide)).trans ((hnu 0 (by decide)).trans (by decide)))
        refine lv_icmp_ge (tgt := 149) hx hb dX8_item_47 (by decide) (fun c_13 => ?_) (fun c_13 => ?_)
        · exact absurd c_13 (by decide)
        · refine lv_iload_n hx hb dX8_item_50 rfl (lv_at hl 0 rfl) ?_
          refine lv_if_le (tgt := 104) hx hb dX8_item_51 (by decide) (fun c_14 => ?_) (fun c_14 => ?_)
          · refine lv_aload_n hx hb dX8_item_104 rfl (lv_at hl 2 rfl) ?_
            refine va_get (D := D) (ci := 8) (v := .int q_7) (C := RX8) (T := TX8) (N := 38) hx hb hts hi_X8_item_8 hown hK hP 8 rfl rfl 27 (by decide) (hts (.fieldLink RX8 152 "TheLiningsInItModel" "place" "I") (List.mem_of_getElem? (i := 2) rfl)) (fun _ h9 => h9) rfl dX8_item_105 ?_
            refine lv_istore_n (lv' := [(3, .int q_7), (2, .int 0), (1, .int 0), (0, .ref m0)]) hx hb dX8_item_108 rfl hl (by decide) rfl (fun ls hl => ?_)
            refine lv_aload_n hx hb dX8_item_109 rfl (lv_at hl 3 rfl) ?_
            skip
            refine zw_V (As := []) (rest := []) (wr := [(mnu, .inl (cI, 10, .inl gnu)), (mki, .inl (cI, 8, .inl gki)), (mpa, .inl (cI, 8, .inl gpa)), (mta, .inl (cI, 8, .inl gta)), (mla, .inl (cI, 40, .inl gla)), (msl, .inl (cI, 40, .inl gsl)), (mco, .inl (cI, 3, .inl gco)), (mte, .inl (cI, 3, .inl gte)), (mwo, .inl (cI, 64, .inl gwo))]) ⟨hx, hb, hml, hown, hts⟩ (c_F_M_reads l D cI cJ cZ cP cS po m0 mrf mki mpa mta mla msl mco mhe mso msi msh mce mca mwo mnu mte mwa mke mma mth mtr (npu) (nte) (nat_) (nde) (nto) (nse) (nhu) (nga) (nsd) (nfa) (nba) (q_7) (nen) (nnu) (q_8) (nra) (nik) gce hy0 hy1 hy2 hy3 hy4 hy5 hy6 hy7 hy8 hy9 hy10 hy11 hy12 hy13 hy14 hy15 hbq_7.1 hbq_7.2 hy18 hy19 (by omega) H.size) (cwV 0 hts gX8_item_X8_reads rfl rfl rfl ⟨rfl, dh_X8_reads⟩ ⟨Nat.le_of_ble_eq_true rfl, Nat.le_of_ble_eq_true rfl⟩) hK hN (hZ.kept hS) hP hD hS hA [8, 10] [0, 1, 2, 3, 4, 5, 6, 7, 9] rfl rfl (by decide) (by decide) (by decide) (va_recv (q := (RX8, TX8, 38)) hK hP (ci := 8) (q0 := 8) rfl rfl) rfl hl.1 rfl (Nat.le_of_ble_eq_true rfl) dX8_item_110 ⟨Nat.le_of_ble_eq_true rfl, Nat.le_of_ble_eq_true rfl⟩ (fun r_15 u_16 H locs hr_15 hP hD hS => ?_)
            obtain ⟨q_17, q_18, q_19⟩ := u_16
            try dsimp only at hr_15
            obtain ⟨hbq_17, hsr_15_0, hsr_15_1, hsr_15_2, hr_15⟩ := hr_15
            have h9R := zRe (ws' := [(mnu, .inl (cI, 10, .inl gnu)), (mki, .inl (cI, 8, .inl gki)), (mpa, .inl (cI, 8, .inl gpa)), (mta, .inl (cI, 8, .inl gta)), (mla, .inl (cI, 40, .inl gla)), (msl, .inl (cI, 40, .inl gsl)), (mco, .inl (cI, 3, .inl gco)), (mte, .inl (cI, 3, .inl gte)), (mwo, .inl (cI, 64, .inl gwo)), (zMO m0 npu nte nat_ nde nto nse nhu nga nsd nfa mrf mki mpa mta mla msl mco mhe mso msi msh mce mca mwo mnu mte nba q_17 nen q_18 q_19 mwa mke mma mth mtr nra nik), (mce, .inl (cJ, 1280, .inr (.inl gce)))]) hP hD rfl
            clear hP hD
            obtain ⟨hP, hD⟩ := h9R
            obtain ⟨g_20, g_21⟩ := hr_15
            refine lv_if_ne (tgt := 118) hx hb dX8_item_113 (by decide) (fun c_22 => ?_) (fun c_22 => ?_)
            · have fc_22 : r_15.toInt ≠ 0 := zf_ne c_22 rfl (by decide)
              refine lv_aload_n hx hb dX8_item_118 rfl (lv_at hl 3 rfl) ?_
              refine lv_iload_n hx hb dX8_item_119 rfl (lv_at hl 2 rfl) ?_
              refine lv_iload_n hx hb dX8_item_120 rfl (lv_at hl 1 rfl) ?_
              refine zc_V (As := [.int 0, .int 0]) (rest := []) ⟨hx, hb, hml, hown, hts⟩ (c_F_M_isSo_0_0 l D cI cJ cZ cP cS po m0 mrf mki mpa mta mla msl mco mhe mso msi msh mce mca mwo mnu mte mwa mke mma mth mtr (npu) (nte) (nat_) (nde) (nto) (nse) (nhu) (nga) (nsd) (nfa) (nba) (q_17) (nen) (q_18) (q_19) (nra) (nik) hy0 hy1 hy2 hy3 hy4 hy5 hy6 hy7 hy8 hy9 hy10 hy11 hy12 hy13 (by omega) (by omega)) (cwV 2 hts gX8_item_X8_isSo rfl rfl rfl ⟨rfl, dh_X8_isSo⟩ ⟨Nat.le_of_ble_eq_true rfl, Nat.le_of_ble_eq_true rfl⟩) hK hN (hZ.kept hS) hP (hP.sub [9] rfl) (va_recv (q := (RX8, TX8, 38)) hK hP (ci := 8) (q0 := 9) rfl rfl) rfl hl.1 rfl (Nat.le_of_ble_eq_true rfl) dX8_item_121 ⟨Nat.le_of_ble_eq_true rfl, Nat.le_of_ble_eq_true rfl⟩ (fun r_23 hr_23 => ?_)
              obtain ⟨g_24, g_25, hsr_23_0⟩ := hr_23
              refine lv_if_ne (tgt := 133) hx hb dX8_item_124 (by decide) (fun c_26 => ?_) (fun c_26 => ?_)
              · have fc_26 : r_23.toInt ≠ 0 := zf_ne c_26 rfl (by decide)
                obtain ⟨hy1_0, hy2_0, hy3_0⟩ := hsr_15_2.1 (by omega)
                have hn0 : zN1 (zMF gce nba.toInt) nen.toInt (npl.toInt + ((zWds ((0 : Int)).toNat).length : Int)) (zLo 0 0) (zHi 0 0 nte.toInt) = (-1, (q_17 : Int32).toInt, (q_18 : Int32).toInt) := zN1_yes (p1 := (q_7 : Int32).toInt) (lo2 := 4) (hi2 := (40 : Int)) ⟨hW2, hW3⟩ (by omega) hy1_0 hy2_0 (by decide) (by first | rfl | decide | (show nte.toInt - 1 = _; omega) | (show nte.toInt = _; omega)) (by omega)
                refine lv_aload_n hx hb dX8_item_133 rfl (lv_at hl 3 rfl) ?_
                refine va_get (D := D) (ci := 8) (v := .ref mte) (C := RX8) (T := TX8) (N := 38) hx hb hts hi_X8_item_8 hown hK hP 9 rfl rfl 25 (by decide) (hts (.fieldLink RX8 72 "TheLiningsInItModel" "tell" "[I") (List.mem_of_getElem? (i := 7) rfl)) (fun _ h9 => h9) rfl dX8_item_134 ?_
                refine lv_iload_n hx hb dX8_item_137 rfl (lv_at hl 1 rfl) ?_
                refine lv_aload_n hx hb dX8_item_138 rfl (lv_at hl 3 rfl) ?_
                refine va_get (D := D) (ci := 8) (v := .int q_18) (C := RX8) (T := TX8) (N := 38) hx hb hts hi_X8_item_8 hown hK hP 9 rfl rfl 29 (by decide) (hts (.fieldLink RX8 161 "TheLiningsInItModel" "number" "I") (List.mem_of_getElem? (i := 8) rfl)) (fun _ h9 => h9) rfl dX8_item_139 ?_
                refine va_iast hx hb hK hP hD hS 7 0 rfl rfl (zf_in (by decide) (by decide)) dX8_item_142 (fun H locs hP hD hS => ?_)
                have h9R := zRe (ws' := [(mnu, .inl (cI, 10, .inl gnu)), (mki, .inl (cI, 8, .inl gki)), (mpa, .inl (cI, 8, .inl gpa)), (mta, .inl (cI, 8, .inl gta)), (mla, .inl (cI, 40, .inl gla)), (msl, .inl (cI, 40, .inl gsl)), (mco, .inl (cI, 3, .inl gco)), (mte, .inl (cI, 3, .inl (upd gte (0 : Int32).toNatClampNeg q_18))), (mwo, .inl (cI, 64, .inl gwo)), (zMO m0 npu nte nat_ nde nto nse nhu nga nsd nfa mrf mki mpa mta mla msl mco mhe mso msi msh mce mca mwo mnu mte nba q_17 nen q_18 q_19 mwa mke mma mth mtr nra nik), (mce, .inl (cJ, 1280, .inr (.inl gce)))]) hP hD rfl
                clear hP hD
                obtain ⟨hP, hD⟩ := h9R
                refine lv_iinc (v := 1) (lv' := [(2, .int 1), (3, .int q_7), (1, .int 0), (0, .ref m0)]) hx hb dX8_item_143 hl (k := 1) rfl (by decide) (by decide) rfl (fun ls hl => ?_)
                refine lv_goto (tgt := 40) hx hb dX8_item_146 (by decide) ?_
                refine lv_iload_n hx hb dX8_item_40 rfl (lv_at hl 0 rfl) ?_
                refine lv_aload_n hx hb dX8_item_41 rfl (lv_at hl 3 rfl) ?_
                refine va_get (D := D) (ci := 8) (v := .ref mnu) (C := RX8) (T := TX8) (N := 38) hx hb hts hi_X8_item_8 hown hK hP 9 rfl rfl 24 (by decide) (hts (.fieldLink RX8 69 "TheLiningsInItModel" "numbers" "[I") (List.mem_of_getElem? (i := 3) rfl)) (fun _ h9 => h9) rfl dX8_item_42 ?_
                refine lv_iload_n hx hb dX8_item_45 rfl (lv_at hl 2 rfl) ?_
                refine va_iald hx hb hK hP 0 0 rfl rfl (zf_in (by decide) (by decide)) dX8_item_46 ?_
                refine lv_topi (fun x_27 ex_27 => ?_)
                obtain rfl : x_27 = 1 := ex_27.trans ((congrArg gnu (show (0 : Int32).toNatClampNeg = 0 from by decide)).trans ((hnu 0 (by decide)).trans (by decide)))
                refine lv_icmp_ge (tgt := 149) hx hb dX8_item_47 (by decide) (fun c_28 => ?_) (fun c_28 => ?_)
                · refine lv_iload_n hx hb dX8_item_149 rfl (lv_at hl 2 rfl) ?_
                  refine lv_tableIn (tgt := 204) hx hb dX8_item_150 (by decide) (by decide) rfl (by decide) ?_
                  refine lv_aload_n hx hb dX8_item_204 rfl (lv_at hl 3 rfl) ?_
                  refine lv_aload_n hx hb dX8_item_205 rfl (lv_at hl 3 rfl) ?_
                  refine va_get (D := D) (ci := 8) (v := .ref mte) (C := RX8) (T := TX8) (N := 38) hx hb hts hi_X8_item_8 hown hK hP 9 rfl rfl 25 (by decide) (hts (.fieldLink RX8 72 "TheLiningsInItModel" "tell" "[I") (List.mem_of_getElem? (i := 7) rfl)) (fun _ h9 => h9) rfl dX8_item_206 ?_
                  refine lv_iconst (v := 0) hx hb dX8_item_209 (by decide) ?_
                  refine va_iald hx hb hK hP 7 0 rfl rfl (zf_in (by decide) (by decide)) dX8_item_210 ?_
                  refine lv_topi (fun x_29 ex_29 => ?_)
                  obtain rfl : q_18 = x_29 := (ex_29.trans (if_pos rfl)).symm
                  skip
                  refine zw_Vv (As := [.int q_18]) (rest := []) (wr := [(mnu, .inl (cI, 10, .inl gnu)), (mki, .inl (cI, 8, .inl gki)), (mpa, .inl (cI, 8, .inl gpa)), (mta, .inl (cI, 8, .inl gta)), (mco, .inl (cI, 3, .inl gco)), (mte, .inl (cI, 3, .inl (upd gte (0 : Int32).toNatClampNeg q_18))), (mwo, .inl (cI, 64, .inl gwo)), (mce, .inl (cJ, 1280, .inr (.inl gce)))]) ⟨hx, hb, hml, hown, hts⟩ (c_F_M_sews l D cI cJ cZ cP cS po m0 mrf mki mpa mta mla msl mco mhe mso msi msh mce mca mwo mnu mte mwa mke mma mth mtr (npu) (nte) (nat_) (nde) (nto) (nse) (nhu) (nga) (nsd) (nfa) (nba) (q_17) (nen) (q_18) (q_19) (nra) (nik) gla gsl (q_18) hy0 hy1 hy2 hy3 hy4 hy5 hy6 hy7 hy8 hy9 hy10 hy11 hy12 hy13 (by omega) (by omega) hp_gla hp_gsl H.size) (cwV 1 hts gX8_item_X8_sews rfl rfl rfl ⟨rfl, dh_X8_sews⟩ ⟨Nat.le_of_ble_eq_true rfl, Nat.le_of_ble_eq_true rfl⟩) hK hN (hZ.kept hS) hP hD hS hA [9, 4, 5] [0, 1, 2, 3, 6, 7, 8, 10] rfl rfl (by decide) (by decide) (by decide) (va_recv (q := (RX8, TX8, 38)) hK hP (ci := 8) (q0 := 9) rfl rfl) rfl hl.1 rfl (Nat.le_of_ble_eq_true rfl) dX8_item_211 ⟨Nat.le_of_ble_eq_true rfl, Nat.le_of_ble_eq_true rfl⟩ (fun u_31 H locs hr_30 hP hD hS => ?_)
                  obtain ⟨q_32, q_33, q_34, q_35⟩ := u_31
                  try dsimp only at hr_30
                  obtain ⟨hbq_32, hbq_33, hpq_34, hpq_35, hsr_30_0, hr_30⟩ := hr_30
                  have h9R := zRe (ws' := [(mnu, .inl (cI, 10, .inl gnu)), (mki, .inl (cI, 8, .inl gki)), (mpa, .inl (cI, 8, .inl gpa)), (mta, .inl (cI, 8, .inl gta)), (mco, .inl (cI, 3, .inl gco)), (mte, .inl (cI, 3, .inl (upd gte (0 : Int32).toNatClampNeg q_18))), (mwo, .inl (cI, 64, .inl gwo)), (mce, .inl (cJ, 1280, .inr (.inl gce))), (zMO m0 npu q_32 q_33 nde nto nse nhu nga nsd nfa mrf mki mpa mta mla msl mco mhe mso msi msh mce mca mwo mnu mte nba q_17 nen q_18 q_19 mwa mke mma mth mtr nra nik), (mla, .inl (cI, 40, .inl q_34)), (msl, .inl (cI, 40, .inl q_35))]) hP hD rfl
                  clear hP hD
                  obtain ⟨hP, hD⟩ := h9R
                  refine lv_goto (tgt := 324) hx hb dX8_item_214 (by decide) ?_
                  refine lv_iconst (v := 1) hx hb dX8_item_324 (by decide) ?_
                  have hI := zIn_a hn0 (by first | (right; decide) | (left; omega))
                  exact W.zret (v := 1) hx hb hr (by decide) (fun t ht hW => ⟨⟨1, (npu, q_32, q_33, nde, nse, nhu, nga, gki, gpa, gta, q_34, q_35, gco, (upd gte (0 : Int32).toNatClampNeg q_18), q_17, q_18, q_19), rfl, ⟨(show 0 ≤ npu.toInt ∧ npu.toInt ≤ 8 from ⟨hy0, hy1⟩), (show 4 ≤ q_32.toInt ∧ q_32.toInt ≤ 40 from hbq_32), (show 0 ≤ q_33.toInt ∧ q_33.toInt ≤ 40 from hbq_33), (show 0 ≤ nde.toInt ∧ nde.toInt ≤ 24 from ⟨hy6, hy7⟩), (show 0 ≤ nhu.toInt ∧ nhu.toInt ≤ 9 from ⟨hy8, hy9⟩), hp_gki, hp_gpa, hp_gta, hpq_34, hpq_35, hp_gco, (show 0 ≤ q_17.toInt ∧ q_17.toInt ≤ 160 from hbq_17), (show npl.toInt ≤ q_17.toInt ∧ q_17.toInt ≤ nen.toInt from by exact ⟨by omega, by omega⟩), (show ((1 : Int32).toInt = 1 → (zItem (zMF gce nba.toInt) nen.toInt npl.toInt nte.toInt npu.toInt).1 = -1 ∧ q_17.toInt = (zItem (zMF gce nba.toInt) nen.toInt npl.toInt nte.toInt npu.toInt).2.1 ∧ q_32.toInt = (zItem (zMF gce nba.toInt) nen.toInt npl.toInt nte.toInt npu.toInt).2.2.1 ∧ npu.toInt = (zItem (zMF gce nba.toInt) nen.toInt npl.toInt nte.toInt npu.toInt).2.2.2) ∧ ((1 : Int32).toInt = 0 → (zItem (zMF gce nba.toInt) nen.toInt npl.toInt nte.toInt npu.toInt).1 = q_19.toInt ∧ 0 ≤ q_19.toInt) from by (have k9 : (1 : Int32).toInt = 1 := (by decide); rw [zItem_w hW1 (by decide) hp8 rfl hI]; dsimp only; exact ⟨fun _ => ⟨rfl, by first | rfl | omega, by (show _ = (if (0 : Int) = 0 then _ else _); rw [if_pos rfl]; exact congrArg Int32.toInt hsr_30_0), by (show _ = (if (0 : Int) = 3 then _ else _); rw [if_neg (by decide)])⟩, fun h => absurd h (by decide)⟩)), ⟨by decide, by decide⟩⟩, zRet ht hP hD [8, 6, 0, 7, 1, 2, 3, 9, 10, 4, 5] (by decide) rfl⟩, hS.F ht⟩) hS.2.2 dX8_item_325
                · exact absurd c_28 (by decide)
              · have fc_26 : r_23.toInt = 0 := zf_eq c_26 rfl (by decide)
                obtain ⟨hy1_0, hy2_0, hy3_0⟩ := hsr_15_2.1 (by omega)
                have hn0 : zN1 (zMF gce nba.toInt) nen.toInt (npl.toInt + ((zWds ((0 : Int)).toNat).length : Int)) (zLo 0 0) (zHi 0 0 nte.toInt) = ((q_7 : Int32).toInt, (q_17 : Int32).toInt, (q_18 : Int32).toInt) := zN1_yes (p1 := (q_7 : Int32).toInt) (lo2 := 4) (hi2 := (40 : Int)) ⟨hW2, hW3⟩ (by omega) hy1_0 hy2_0 (by decide) (by first | rfl | decide | (show nte.toInt - 1 = _; omega) | (show nte.toInt = _; omega)) (by omega)
                refine lv_aload_n hx hb dX8_item_127 rfl (lv_at hl 3 rfl) ?_
                refine lv_iload_n hx hb dX8_item_128 rfl (lv_at hl 0 rfl) ?_
                skip
                refine zw_V (As := [.int q_7]) (rest := []) (wr := [(mnu, .inl (cI, 10, .inl gnu)), (mki, .inl (cI, 8, .inl gki)), (mpa, .inl (cI, 8, .inl gpa)), (mta, .inl (cI, 8, .inl gta)), (mla, .inl (cI, 40, .inl gla)), (msl, .inl (cI, 40, .inl gsl)), (mco, .inl (cI, 3, .inl gco)), (mte, .inl (cI, 3, .inl gte)), (mwo, .inl (cI, 64, .inl gwo)), (mce, .inl (cJ, 1280, .inr (.inl gce)))]) ⟨hx, hb, hml, hown, hts⟩ (c_F_M_wrong l D cI cJ cZ cP cS po m0 mrf mki mpa mta mla msl mco mhe mso msi msh mce mca mwo mnu mte mwa mke mma mth mtr (npu) (nte) (nat_) (nde) (nto) (nse) (nhu) (nga) (nsd) (nfa) (nba) (q_17) (nen) (q_18) (q_19) (nra) (nik) (q_7) hy0 hy1 hy2 hy3 hy4 hy5 hy6 hy7 hy8 hy9 hy10 hy11 hy12 hy13 H.size) (cwV 1 hts gX8_item_X8_wrong rfl rfl rfl ⟨rfl, dh_X8_wrong⟩ ⟨Nat.le_of_ble_eq_true rfl, Nat.le_of_ble_eq_true rfl⟩) hK hN (hZ.kept hS) hP hD hS hA [9] [0, 1, 2, 3, 4, 5, 6, 7, 8, 10] rfl rfl (by decide) (by decide) (by decide) (va_recv (q := (RX8, TX8, 38)) hK hP (ci := 8) (q0 := 9) rfl rfl) rfl hl.1 rfl (Nat.le_of_ble_eq_true rfl) dX8_item_129 ⟨Nat.le_of_ble_eq_true rfl, Nat.le_of_ble_eq_true rfl⟩ (fun r_36 u_37 H locs hr_36 hP hD hS => ?_)
                obtain ⟨q_38, rfl⟩ : ∃ z, z = u_37 := ⟨_, rfl⟩
                obtain ⟨hsr_36_0, hr_36⟩ := hr_36
                have h9R := zRe (ws' := [(mnu, .inl (cI, 10, .inl gnu)), (mki, .inl (cI, 8, .inl gki)), (mpa, .inl (cI, 8, .inl gpa)), (mta, .inl (cI, 8, .inl gta)), (mla, .inl (cI, 40, .inl gla)), (msl, .inl (cI, 40, .inl gsl)), (mco, .inl (cI, 3, .inl gco)), (mte, .inl (cI, 3, .inl gte)), (mwo, .inl (cI, 64, .inl gwo)), (mce, .inl (cJ, 1280, .inr (.inl gce))), (zMO m0 npu nte nat_ nde nto nse nhu nga nsd nfa mrf mki mpa mta mla msl mco mhe mso msi msh mce mca mwo mnu mte nba q_17 nen q_18 q_38 mwa mke mma mth mtr nra nik)]) hP hD rfl
                clear hP hD
                obtain ⟨hP, hD⟩ := h9R
                obtain rfl := hr_36
                have hI := zIn_a hn0 (by first | (right; decide) | (left; omega))
                exact W.zret (v := 0) hx hb hr (by decide) (fun t ht hW => ⟨⟨0, (npu, nte, nat_, nde, nse, nhu, nga, gki, gpa, gta, gla, gsl, gco, gte, q_17, q_18, q_38), rfl, ⟨(show 0 ≤ npu.toInt ∧ npu.toInt ≤ 8 from ⟨hy0, hy1⟩), (show 4 ≤ nte.toInt ∧ nte.toInt ≤ 40 from ⟨hy2, hy3⟩), (show 0 ≤ nat_.toInt ∧ nat_.toInt ≤ 40 from ⟨hy4, hy5⟩), (show 0 ≤ nde.toInt ∧ nde.toInt ≤ 24 from ⟨hy6, hy7⟩), (show 0 ≤ nhu.toInt ∧ nhu.toInt ≤ 9 from ⟨hy8, hy9⟩), hp_gki, hp_gpa, hp_gta, hp_gla, hp_gsl, hp_gco, (show 0 ≤ q_17.toInt ∧ q_17.toInt ≤ 160 from hbq_17), (show npl.toInt ≤ q_17.toInt ∧ q_17.toInt ≤ nen.toInt from by exact ⟨by omega, by omega⟩), (show ((0 : Int32).toInt = 1 → (zItem (zMF gce nba.toInt) nen.toInt npl.toInt nte.toInt npu.toInt).1 = -1 ∧ q_17.toInt = (zItem (zMF gce nba.toInt) nen.toInt npl.toInt nte.toInt npu.toInt).2.1 ∧ nte.toInt = (zItem (zMF gce nba.toInt) nen.toInt npl.toInt nte.toInt npu.toInt).2.2.1 ∧ npu.toInt = (zItem (zMF gce nba.toInt) nen.toInt npl.toInt nte.toInt npu.toInt).2.2.2) ∧ ((0 : Int32).toInt = 0 → (zItem (zMF gce nba.toInt) nen.toInt npl.toInt nte.toInt npu.toInt).1 = q_38.toInt ∧ 0 ≤ q_38.toInt) from by (have k9 : (0 : Int32).toInt = 0 := (by decide); rw [zItem_w hW1 (by decide) hp8 rfl hI]; dsimp only; exact ⟨fun h => absurd h (by decide), fun _ => ⟨by first | rfl | (show _ = _; omega), by omega⟩⟩)), ⟨by decide, by decide⟩⟩, zRet ht hP hD [10, 8, 0, 9, 1, 2, 3, 4, 5, 6, 7] (by decide) rfl⟩, hS.F ht⟩) hS.2.2 dX8_item_132
            · have fc_22 : r_15.toInt = 0 := zf_eq c_22 rfl (by decide)
              have hn0 : zN1 (zMF gce nba.toInt) nen.toInt (npl.toInt + ((zWds ((0 : Int)).toNat).length : Int)) (zLo 0 0) (zHi 0 0 nte.toInt) = ((q_7 : Int32).toInt, (q_7 : Int32).toInt, 0) := zN1_yes (p1 := (q_7 : Int32).toInt) (lo2 := 4) (hi2 := (40 : Int)) ⟨hW2, hW3⟩ (by omega) (hsr_15_2.2 (by omega)).1.symm zNv_0.symm (by decide) (by first | rfl | decide | (show nte.toInt - 1 = _; omega) | (show nte.toInt = _; omega)) (Or.inl ⟨rfl, Or.inl rfl⟩)
              refine lv_iconst (v := 0) hx hb dX8_item_116 (by decide) ?_
              have hI := zIn_a hn0 (by first | (right; decide) | (left; omega))
              exact W.zret (v := 0) hx hb hr (by decide) (fun t ht hW => ⟨⟨0, (npu, nte, nat_, nde, nse, nhu, nga, gki, gpa, gta, gla, gsl, gco, gte, q_17, q_18, q_19), rfl, ⟨(show 0 ≤ npu.toInt ∧ npu.toInt ≤ 8 from ⟨hy0, hy1⟩), (show 4 ≤ nte.toInt ∧ nte.toInt ≤ 40 from ⟨hy2, hy3⟩), (show 0 ≤ nat_.toInt ∧ nat_.toInt ≤ 40 from ⟨hy4, hy5⟩), (show 0 ≤ nde.toInt ∧ nde.toInt ≤ 24 from ⟨hy6, hy7⟩), (show 0 ≤ nhu.toInt ∧ nhu.toInt ≤ 9 from ⟨hy8, hy9⟩), hp_gki, hp_gpa, hp_gta, hp_gla, hp_gsl, hp_gco, (show 0 ≤ q_17.toInt ∧ q_17.toInt ≤ 160 from hbq_17), (show npl.toInt ≤ q_17.toInt ∧ q_17.toInt ≤ nen.toInt from by exact ⟨by omega, by omega⟩), (show ((0 : Int32).toInt = 1 → (zItem (zMF gce nba.toInt) nen.toInt npl.toInt nte.toInt npu.toInt).1 = -1 ∧ q_17.toInt = (zItem (zMF gce nba.toInt) nen.toInt npl.toInt nte.toInt npu.toInt).2.1 ∧ nte.toInt = (zItem (zMF gce nba.toInt) nen.toInt npl.toInt nte.toInt npu.toInt).2.2.1 ∧ npu.toInt = (zItem (zMF gce nba.toInt) nen.toInt npl.toInt nte.toInt npu.toInt).2.2.2) ∧ ((0 : Int32).toInt = 0 → (zItem (zMF gce nba.toInt) nen.toInt npl.toInt nte.toInt npu.toInt).1 = q_19.toInt ∧ 0 ≤ q_19.toInt) from by (have k9 : (0 : Int32).toInt = 0 := (by decide); rw [zItem_w hW1 (by decide) hp8 rfl hI]; dsimp only; exact ⟨fun h => absurd h (by decide), fun _ => ⟨by first | rfl | (show _ = _; omega), by omega⟩⟩)), ⟨by decide, by decide⟩⟩, zRet ht hP hD [9, 8, 0, 10, 1, 2, 3, 4, 5, 6, 7] (by decide) rfl⟩, hS.F ht⟩) hS.2.2 dX8_item_117
          · exact absurd c_14 (by decide)
      · have kc1 : (1 : Int32).toInt = 1 := by decide
        have z9 := hsr_5_1
        rw [kc1] at z9
        obtain ⟨hW1, hW2, hW3, hW4⟩ := zItem_Mw (f := (zMF gce nba.toInt)) (e := nen.toInt) (p := npl.toInt) (w := 1) (by omega) (by decide)
        have hp8 : ¬ ((1 : Int) = 3 ∧ npu.toInt = 8) := fun z => absurd z.1 (by decide)
        refine lv_iconst (v := 0) hx hb dX8_item_38 (by decide) ?_
        refine lv_istore_n (lv' := [(2, .int 0), (1, .int 1), (0, .ref m0)]) hx hb dX8_item_39 rfl hl (by decide) rfl (fun ls hl => ?_)
        refine lv_iload_n hx hb dX8_item_40 rfl (lv_at hl 0 rfl) ?_
        refine lv_aload_n hx hb dX8_item_41 rfl (lv_at hl 2 rfl) ?_
        refine va_get (D := D) (ci := 8) (v := .ref mnu) (C := RX8) (T := TX8) (N := 38) hx hb hts hi_X8_item_8 hown hK hP 8 rfl rfl 24 (by decide) (hts (.fieldLink RX8 69 "TheLiningsInItModel" "numbers" "[I") (List.mem_of_getElem? (i := 3) rfl)) (fun _ h9 => h9) rfl dX8_item_42 ?_
        refine lv_iload_n hx hb dX8_item_45 rfl (lv_at hl 1 rfl) ?_
        refine va_iald hx hb hK hP 0 0 rfl rfl (zf_in (by decide) (by decide)) dX8_item_46 ?_
        refine lv_topi (fun x_39 ex_39 => ?_)
        obtain rfl : x_39 = 1 := ex_39.trans ((congrArg gnu (show (1 : Int32).toNatClampNeg = 1 from by decide)).trans ((hnu 1 (by decide)).trans (by decide)))
        refine lv_icmp_ge (tgt := 149) hx hb dX8_item_47 (by decide) (fun c_40 => ?_) (fun c_40 => ?_)
        · exact absurd c_40 (by decide)
        · refine lv_iload_n hx hb dX8_item_50 rfl (lv_at hl 0 rfl) ?_
          refine lv_if_le (tgt := 104) hx hb dX8_item_51 (by decide) (fun c_41 => ?_) (fun c_41 => ?_)
          · refine lv_aload_n hx hb dX8_item_104 rfl (lv_at hl 2 rfl) ?_
            refine va_get (D := D) (ci := 8) (v := .int q_7) (C := RX8) (T := TX8) (N := 38) hx hb hts hi_X8_item_8 hown hK hP 8 rfl rfl 27 (by decide) (hts (.fieldLink RX8 152 "TheLiningsInItModel" "place" "I") (List.mem_of_getElem? (i := 2) rfl)) (fun _ h9 => h9) rfl dX8_item_105 ?_
            refine lv_istore_n (lv' := [(3, .int q_7), (2, .int 0), (1, .int 1), (0, .ref m0)]) hx hb dX8_item_108 rfl hl (by decide) rfl (fun ls hl => ?_)
            refine lv_aload_n hx hb dX8_item_109 rfl (lv_at hl 3 rfl) ?_
            skip
            refine zw_V (As := []) (rest := []) (wr := [(mnu, .inl (cI, 10, .inl gnu)), (mki, .inl (cI, 8, .inl gki)), (mpa, .inl (cI, 8, .inl gpa)), (mta, .inl (cI, 8, .inl gta)), (mla, .inl (cI, 40, .inl gla)), (msl, .inl (cI, 40, .inl gsl)), (mco, .inl (cI, 3, .inl gco)), (mte, .inl (cI, 3, .inl gte)), (mwo, .inl (cI, 64, .inl gwo))]) ⟨hx, hb, hml, hown, hts⟩ (c_F_M_reads l D cI cJ cZ cP cS po m0 mrf mki mpa mta mla msl mco mhe mso msi msh mce mca mwo mnu mte mwa mke mma mth mtr (npu) (nte) (nat_) (nde) (nto) (nse) (nhu) (nga) (nsd) (nfa) (nba) (q_7) (nen) (nnu) (q_8) (nra) (nik) gce hy0 hy1 hy2 hy3 hy4 hy5 hy6 hy7 hy8 hy9 hy10 hy11 hy12 hy13 hy14 hy15 hbq_7.1 hbq_7.2 hy18 hy19 (by omega) H.size) (cwV 0 hts gX8_item_X8_reads rfl rfl rfl ⟨rfl, dh_X8_reads⟩ ⟨Nat.le_of_ble_eq_true rfl, Nat.le_of_ble_eq_true rfl⟩) hK hN (hZ.kept hS) hP hD hS hA [8, 10] [0, 1, 2, 3, 4, 5, 6, 7, 9] rfl rfl (by decide) (by decide) (by decide) (va_recv (q := (RX8, TX8, 38)) hK hP (ci := 8) (q0 := 8) rfl rfl) rfl hl.1 rfl (Nat.le_of_ble_eq_true rfl) dX8_item_110 ⟨Nat.le_of_ble_eq_true rfl, Nat.le_of_ble_eq_true rfl⟩ (fun r_42 u_43 H locs hr_42 hP hD hS => ?_)
            obtain ⟨q_44, q_45, q_46⟩ := u_43
            try dsimp only at hr_42
            obtain ⟨hbq_44, hsr_42_0, hsr_42_1, hsr_42_2, hr_42⟩ := hr_42
            have h9R := zRe (ws' := [(mnu, .inl (cI, 10, .inl gnu)), (mki, .inl (cI, 8, .inl gki)), (mpa, .inl (cI, 8, .inl gpa)), (mta, .inl (cI, 8, .inl gta)), (mla, .inl (cI, 40, .inl gla)), (msl, .inl (cI, 40, .inl gsl)), (mco, .inl (cI, 3, .inl gco)), (mte, .inl (cI, 3, .inl gte)), (mwo, .inl (cI, 64, .inl gwo)), (zMO m0 npu nte nat_ nde nto nse nhu nga nsd nfa mrf mki mpa mta mla msl mco mhe mso msi msh mce mca mwo mnu mte nba q_44 nen q_45 q_46 mwa mke mma mth mtr nra nik), (mce, .inl (cJ, 1280, .inr (.inl gce)))]) hP hD rfl
            clear hP hD
            obtain ⟨hP, hD⟩ := h9R
            obtain ⟨g_47, g_48⟩ := hr_42
            refine lv_if_ne (tgt := 118) hx hb dX8_item_113 (by decide) (fun c_49 => ?_) (fun c_49 => ?_)
            · have fc_49 : r_42.toInt ≠ 0 := zf_ne c_49 rfl (by decide)
              refine lv_aload_n hx hb dX8_item_118 rfl (lv_at hl 3 rfl) ?_
              refine lv_iload_n hx hb dX8_item_119 rfl (lv_at hl 2 rfl) ?_
              refine lv_iload_n hx hb dX8_item_120 rfl (lv_at hl 1 rfl) ?_
              refine zc_V (As := [.int 1, .int 0]) (rest := []) ⟨hx, hb, hml, hown, hts⟩ (c_F_M_isSo_1_0 l D cI cJ cZ cP cS po m0 mrf mki mpa mta mla msl mco mhe mso msi msh mce mca mwo mnu mte mwa mke mma mth mtr (npu) (nte) (nat_) (nde) (nto) (nse) (nhu) (nga) (nsd) (nfa) (nba) (q_44) (nen) (q_45) (q_46) (nra) (nik) hy0 hy1 hy2 hy3 hy4 hy5 hy6 hy7 hy8 hy9 hy10 hy11 hy12 hy13 (by omega) (by omega)) (cwV 2 hts gX8_item_X8_isSo rfl rfl rfl ⟨rfl, dh_X8_isSo⟩ ⟨Nat.le_of_ble_eq_true rfl, Nat.le_of_ble_eq_true rfl⟩) hK hN (hZ.kept hS) hP (hP.sub [9] rfl) (va_recv (q := (RX8, TX8, 38)) hK hP (ci := 8) (q0 := 9) rfl rfl) rfl hl.1 rfl (Nat.le_of_ble_eq_true rfl) dX8_item_121 ⟨Nat.le_of_ble_eq_true rfl, Nat.le_of_ble_eq_true rfl⟩ (fun r_50 hr_50 => ?_)
              obtain ⟨g_51, g_52, hsr_50_0⟩ := hr_50
              refine lv_if_ne (tgt := 133) hx hb dX8_item_124 (by decide) (fun c_53 => ?_) (fun c_53 => ?_)
              · have fc_53 : r_50.toInt ≠ 0 := zf_ne c_53 rfl (by decide)
                obtain ⟨hy1_0, hy2_0, hy3_0⟩ := hsr_42_2.1 (by omega)
                have hn0 : zN1 (zMF gce nba.toInt) nen.toInt (npl.toInt + ((zWds ((1 : Int)).toNat).length : Int)) (zLo 1 0) (zHi 1 0 nte.toInt) = (-1, (q_44 : Int32).toInt, (q_45 : Int32).toInt) := zN1_yes (p1 := (q_7 : Int32).toInt) (lo2 := 0) (hi2 := (nte.toInt - 1 : Int)) ⟨hW2, hW3⟩ (by omega) hy1_0 hy2_0 (by decide) (by first | rfl | decide | (show nte.toInt - 1 = _; omega) | (show nte.toInt = _; omega)) (by omega)
                refine lv_aload_n hx hb dX8_item_133 rfl (lv_at hl 3 rfl) ?_
                refine va_get (D := D) (ci := 8) (v := .ref mte) (C := RX8) (T := TX8) (N := 38) hx hb hts hi_X8_item_8 hown hK hP 9 rfl rfl 25 (by decide) (hts (.fieldLink RX8 72 "TheLiningsInItModel" "tell" "[I") (List.mem_of_getElem? (i := 7) rfl)) (fun _ h9 => h9) rfl dX8_item_134 ?_
                refine lv_iload_n hx hb dX8_item_137 rfl (lv_at hl 1 rfl) ?_
                refine lv_aload_n hx hb dX8_item_138 rfl (lv_at hl 3 rfl) ?_
                refine va_get (D := D) (ci := 8) (v := .int q_45) (C := RX8) (T := TX8) (N := 38) hx hb hts hi_X8_item_8 hown hK hP 9 rfl rfl 29 (by decide) (hts (.fieldLink RX8 161 "TheLiningsInItModel" "number" "I") (List.mem_of_getElem? (i := 8) rfl)) (fun _ h9 => h9) rfl dX8_item_139 ?_
                refine va_iast hx hb hK hP hD hS 7 0 rfl rfl (zf_in (by decide) (by decide)) dX8_item_142 (fun H locs hP hD hS => ?_)
                have h9R := zRe (ws' := [(mnu, .inl (cI, 10, .inl gnu)), (mki, .inl (cI, 8, .inl gki)), (mpa, .inl (cI, 8, .inl gpa)), (mta, .inl (cI, 8, .inl gta)), (mla, .inl (cI, 40, .inl gla)), (msl, .inl (cI, 40, .inl gsl)), (mco, .inl (cI, 3, .inl gco)), (mte, .inl (cI, 3, .inl (upd gte (0 : Int32).toNatClampNeg q_45))), (mwo, .inl (cI, 64, .inl gwo)), (zMO m0 npu nte nat_ nde nto nse nhu nga nsd nfa mrf mki mpa mta mla msl mco mhe mso msi msh mce mca mwo mnu mte nba q_44 nen q_45 q_46 mwa mke mma mth mtr nra nik), (mce, .inl (cJ, 1280, .inr (.inl gce)))]) hP hD rfl
                clear hP hD
                obtain ⟨hP, hD⟩ := h9R
                refine lv_iinc (v := 1) (lv' := [(2, .int 1), (3, .int q_7), (1, .int 1), (0, .ref m0)]) hx hb dX8_item_143 hl (k := 1) rfl (by decide) (by decide) rfl (fun ls hl => ?_)
                refine lv_goto (tgt := 40) hx hb dX8_item_146 (by decide) ?_
                refine lv_iload_n hx hb dX8_item_40 rfl (lv_at hl 0 rfl) ?_
                refine lv_aload_n hx hb dX8_item_41 rfl (lv_at hl 3 rfl) ?_
                refine va_get (D := D) (ci := 8) (v := .ref mnu) (C := RX8) (T := TX8) (N := 38) hx hb hts hi_X8_item_8 hown hK hP 9 rfl rfl 24 (by decide) (hts (.fieldLink RX8 69 "TheLiningsInItModel" "numbers" "[I") (List.mem_of_getElem? (i := 3) rfl)) (fun _ h9 => h9) rfl dX8_item_42 ?_
                refine lv_iload_n hx hb dX8_item_45 rfl (lv_at hl 2 rfl) ?_
                refine va_iald hx hb hK hP 0 0 rfl rfl (zf_in (by decide) (by decide)) dX8_item_46 ?_
                refine lv_topi (fun x_54 ex_54 => ?_)
                obtain rfl : x_54 = 1 := ex_54.trans ((congrArg gnu (show (1 : Int32).toNatClampNeg = 1 from by decide)).trans ((hnu 1 (by decide)).trans (by decide)))
                refine lv_icmp_ge (tgt := 149) hx hb dX8_item_47 (by decide) (fun c_55 => ?_) (fun c_55 => ?_)
                · refine lv_iload_n hx hb dX8_item_149 rfl (lv_at hl 2 rfl) ?_
                  refine lv_tableIn (tgt := 217) hx hb dX8_item_150 (by decide) (by decide) rfl (by decide) ?_
                  refine lv_aload_n hx hb dX8_item_217 rfl (lv_at hl 3 rfl) ?_
                  refine va_get (D := D) (ci := 8) (v := .ref mla) (C := RX8) (T := TX8) (N := 38) hx hb hts hi_X8_item_8 hown hK hP 9 rfl rfl 14 (by decide) (hts (.fieldLink RX8 38 "TheLiningsInItModel" "lacks" "[I") (List.mem_of_getElem? (i := 9) rfl)) (fun _ h9 => h9) rfl dX8_item_218 ?_
                  refine lv_aload_n hx hb dX8_item_221 rfl (lv_at hl 3 rfl) ?_
                  refine va_get (D := D) (ci := 8) (v := .ref mte) (C := RX8) (T := TX8) (N := 38) hx hb hts hi_X8_item_8 hown hK hP 9 rfl rfl 25 (by decide) (hts (.fieldLink RX8 72 "TheLiningsInItModel" "tell" "[I") (List.mem_of_getElem? (i := 7) rfl)) (fun _ h9 => h9) rfl dX8_item_222 ?_
                  refine lv_iconst (v := 0) hx hb dX8_item_225 (by decide) ?_
                  refine va_iald hx hb hK hP 7 0 rfl rfl (zf_in (by decide) (by decide)) dX8_item_226 ?_
                  refine lv_topi (fun x_56 ex_56 => ?_)
                  obtain rfl : q_45 = x_56 := (ex_56.trans (if_pos rfl)).symm
                  refine lv_iconst (v := 1) hx hb dX8_item_227 (by decide) ?_
                  refine va_iast hx hb hK hP hD hS 4 0 rfl rfl (zf_in (by omega) (by omega)) dX8_item_228 (fun H locs hP hD hS => ?_)
                  have hpg_57 : zRg (upd gla q_45.toNatClampNeg 1) (0) 1 := zRg_upd hp_gla (by decide) (by decide)
                  obtain ⟨g_57, hg_57⟩ : ∃ g : Nat → Int32, g = upd gla q_45.toNatClampNeg 1 := ⟨_, rfl⟩
                  rw [← hg_57] at hP hD hpg_57
                  clear hg_57
                  have h9R := zRe (ws' := [(mnu, .inl (cI, 10, .inl gnu)), (mki, .inl (cI, 8, .inl gki)), (mpa, .inl (cI, 8, .inl gpa)), (mta, .inl (cI, 8, .inl gta)), (mla, .inl (cI, 40, .inl g_57)), (msl, .inl (cI, 40, .inl gsl)), (mco, .inl (cI, 3, .inl gco)), (mte, .inl (cI, 3, .inl (upd gte (0 : Int32).toNatClampNeg q_45))), (mwo, .inl (cI, 64, .inl gwo)), (zMO m0 npu nte nat_ nde nto nse nhu nga nsd nfa mrf mki mpa mta mla msl mco mhe mso msi msh mce mca mwo mnu mte nba q_44 nen q_45 q_46 mwa mke mma mth mtr nra nik), (mce, .inl (cJ, 1280, .inr (.inl gce)))]) hP hD rfl
                  clear hP hD
                  obtain ⟨hP, hD⟩ := h9R
                  refine lv_goto (tgt := 324) hx hb dX8_item_229 (by decide) ?_
                  refine lv_iconst (v := 1) hx hb dX8_item_324 (by decide) ?_
                  have hI := zIn_a hn0 (by first | (right; decide) | (left; omega))
                  exact W.zret (v := 1) hx hb hr (by decide) (fun t ht hW => ⟨⟨1, (npu, nte, nat_, nde, nse, nhu, nga, gki, gpa, gta, g_57, gsl, gco, (upd gte (0 : Int32).toNatClampNeg q_45), q_44, q_45, q_46), rfl, ⟨(show 0 ≤ npu.toInt ∧ npu.toInt ≤ 8 from ⟨hy0, hy1⟩), (show 4 ≤ nte.toInt ∧ nte.toInt ≤ 40 from ⟨hy2, hy3⟩), (show 0 ≤ nat_.toInt ∧ nat_.toInt ≤ 40 from ⟨hy4, hy5⟩), (show 0 ≤ nde.toInt ∧ nde.toInt ≤ 24 from ⟨hy6, hy7⟩), (show 0 ≤ nhu.toInt ∧ nhu.toInt ≤ 9 from ⟨hy8, hy9⟩), hp_gki, hp_gpa, hp_gta, hpg_57, hp_gsl, hp_gco, (show 0 ≤ q_44.toInt ∧ q_44.toInt ≤ 160 from hbq_44), (show npl.toInt ≤ q_44.toInt ∧ q_44.toInt ≤ nen.toInt from by exact ⟨by omega, by omega⟩), (show ((1 : Int32).toInt = 1 → (zItem (zMF gce nba.toInt) nen.toInt npl.toInt nte.toInt npu.toInt).1 = -1 ∧ q_44.toInt = (zItem (zMF gce nba.toInt) nen.toInt npl.toInt nte.toInt npu.toInt).2.1 ∧ nte.toInt = (zItem (zMF gce nba.toInt) nen.toInt npl.toInt nte.toInt npu.toInt).2.2.1 ∧ npu.toInt = (zItem (zMF gce nba.toInt) nen.toInt npl.toInt nte.toInt npu.toInt).2.2.2) ∧ ((1 : Int32).toInt = 0 → (zItem (zMF gce nba.toInt) nen.toInt npl.toInt nte.toInt npu.toInt).1 = q_46.toInt ∧ 0 ≤ q_46.toInt) from by (have k9 : (1 : Int32).toInt = 1 := (by decide); rw [zItem_w hW1 (by decide) hp8 rfl hI]; dsimp only; exact ⟨fun _ => ⟨rfl, by first | rfl | omega, by (show _ = (if (1 : Int) = 0 then _ else _); rw [if_neg (by decide)]), by (show _ = (if (1 : Int) = 3 then _ else _); rw [if_neg (by decide)])⟩, fun h => absurd h (by decide)⟩)), ⟨by decide, by decide⟩⟩, zRet ht hP hD [9, 8, 0, 10, 1, 2, 3, 4, 5, 6, 7] (by decide) rfl⟩, hS.F ht⟩) hS.2.2 dX8_item_325
                · exact absurd c_55 (by decide)
              · have fc_53 : r_50.toInt = 0 := zf_eq c_53 rfl (by decide)
                obtain ⟨hy1_0, hy2_0, hy3_0⟩ := hsr_42_2.1 (by omega)
                have hn0 : zN1 (zMF gce nba.toInt) nen.toInt (npl.toInt + ((zWds ((1 : Int)).toNat).length : Int)) (zLo 1 0) (zHi 1 0 nte.toInt) = ((q_7 : Int32).toInt, (q_44 : Int32).toInt, (q_45 : Int32).toInt) := zN1_yes (p1 := (q_7 : Int32).toInt) (lo2 := 0) (hi2 := (nte.toInt - 1 : Int)) ⟨hW2, hW3⟩ (by omega) hy1_0 hy2_0 (by decide) (by first | rfl | decide | (show nte.toInt - 1 = _; omega) | (show nte.toInt = _; omega)) (by omega)
                refine lv_aload_n hx hb dX8_item_127 rfl (lv_at hl 3 rfl) ?_
                refine lv_iload_n hx hb dX8_item_128 rfl (lv_at hl 0 rfl) ?_
                skip
                refine zw_V (As := [.int q_7]) (rest := []) (wr := [(mnu, .inl (cI, 10, .inl gnu)), (mki, .inl (cI, 8, .inl gki)), (mpa, .inl (cI, 8, .inl gpa)), (mta, .inl (cI, 8, .inl gta)), (mla, .inl (cI, 40, .inl gla)), (msl, .inl (cI, 40, .inl gsl)), (mco, .inl (cI, 3, .inl gco)), (mte, .inl (cI, 3, .inl gte)), (mwo, .inl (cI, 64, .inl gwo)), (mce, .inl (cJ, 1280, .inr (.inl gce)))]) ⟨hx, hb, hml, hown, hts⟩ (c_F_M_wrong l D cI cJ cZ cP cS po m0 mrf mki mpa mta mla msl mco mhe mso msi msh mce mca mwo mnu mte mwa mke mma mth mtr (npu) (nte) (nat_) (nde) (nto) (nse) (nhu) (nga) (nsd) (nfa) (nba) (q_44) (nen) (q_45) (q_46) (nra) (nik) (q_7) hy0 hy1 hy2 hy3 hy4 hy5 hy6 hy7 hy8 hy9 hy10 hy11 hy12 hy13 H.size) (cwV 1 hts gX8_item_X8_wrong rfl rfl rfl ⟨rfl, dh_X8_wrong⟩ ⟨Nat.le_of_ble_eq_true rfl, Nat.le_of_ble_eq_true rfl⟩) hK hN (hZ.kept hS) hP hD hS hA [9] [0, 1, 2, 3, 4, 5, 6, 7, 8, 10] rfl rfl (by decide) (by decide) (by decide) (va_recv (q := (RX8, TX8, 38)) hK hP (ci := 8) (q0 := 9) rfl rfl) rfl hl.1 rfl (Nat.le_of_ble_eq_true rfl) dX8_item_129 ⟨Nat.le_of_ble_eq_true rfl, Nat.le_of_ble_eq_true rfl⟩ (fun r_58 u_59 H locs hr_58 hP hD hS => ?_)
                obtain ⟨q_60, rfl⟩ : ∃ z, z = u_59 := ⟨_, rfl⟩
                obtain ⟨hsr_58_0, hr_58⟩ := hr_58
                have h9R := zRe (ws' := [(mnu, .inl (cI, 10, .inl gnu)), (mki, .inl (cI, 8, .inl gki)), (mpa, .inl (cI, 8, .inl gpa)), (mta, .inl (cI, 8, .inl gta)), (mla, .inl (cI, 40, .inl gla)), (msl, .inl (cI, 40, .inl gsl)), (mco, .inl (cI, 3, .inl gco)), (mte, .inl (cI, 3, .inl gte)), (mwo, .inl (cI, 64, .inl gwo)), (mce, .inl (cJ, 1280, .inr (.inl gce))), (zMO m0 npu nte nat_ nde nto nse nhu nga nsd nfa mrf mki mpa mta mla msl mco mhe mso msi msh mce mca mwo mnu mte nba q_44 nen q_45 q_60 mwa mke mma mth mtr nra nik)]) hP hD rfl
                clear hP hD
                obtain ⟨hP, hD⟩ := h9R
                obtain rfl := hr_58
                have hI := zIn_a hn0 (by first | (right; decide) | (left; omega))
                exact W.zret (v := 0) hx hb hr (by decide) (fun t ht hW => ⟨⟨0, (npu, nte, nat_, nde, nse, nhu, nga, gki, gpa, gta, gla, gsl, gco, gte, q_44, q_45, q_60), rfl, ⟨(show 0 ≤ npu.toInt ∧ npu.toInt ≤ 8 from ⟨hy0, hy1⟩), (show 4 ≤ nte.toInt ∧ nte.toInt ≤ 40 from ⟨hy2, hy3⟩), (show 0 ≤ nat_.toInt ∧ nat_.toInt ≤ 40 from ⟨hy4, hy5⟩), (show 0 ≤ nde.toInt ∧ nde.toInt ≤ 24 from ⟨hy6, hy7⟩), (show 0 ≤ nhu.toInt ∧ nhu.toInt ≤ 9 from ⟨hy8, hy9⟩), hp_gki, hp_gpa, hp_gta, hp_gla, hp_gsl, hp_gco, (show 0 ≤ q_44.toInt ∧ q_44.toInt ≤ 160 from hbq_44), (show npl.toInt ≤ q_44.toInt ∧ q_44.toInt ≤ nen.toInt from by exact ⟨by omega, by omega⟩), (show ((0 : Int32).toInt = 1 → (zItem (zMF gce nba.toInt) nen.toInt npl.toInt nte.toInt npu.toInt).1 = -1 ∧ q_44.toInt = (zItem (zMF gce nba.toInt) nen.toInt npl.toInt nte.toInt npu.toInt).2.1 ∧ nte.toInt = (zItem (zMF gce nba.toInt) nen.toInt npl.toInt nte.toInt npu.toInt).2.2.1 ∧ npu.toInt = (zItem (zMF gce nba.toInt) nen.toInt npl.toInt nte.toInt npu.toInt).2.2.2) ∧ ((0 : Int32).toInt = 0 → (zItem (zMF gce nba.toInt) nen.toInt npl.toInt nte.toInt npu.toInt).1 = q_60.toInt ∧ 0 ≤ q_60.toInt) from by (have k9 : (0 : Int32).toInt = 0 := (by decide); rw [zItem_w hW1 (by decide) hp8 rfl hI]; dsimp only; exact ⟨fun h => absurd h (by decide), fun _ => ⟨by first | rfl | (show _ = _; omega), by omega⟩⟩)), ⟨by decide, by decide⟩⟩, zRet ht hP hD [10, 8, 0, 9, 1, 2, 3, 4, 5, 6, 7] (by decide) rfl⟩, hS.F ht⟩) hS.2.2 dX8_item_132
            · have fc_49 : r_42.toInt = 0 := zf_eq c_49 rfl (by decide)
              have hn0 : zN1 (zMF gce nba.toInt) nen.toInt (npl.toInt + ((zWds ((1 : Int)).toNat).length : Int)) (zLo 1 0) (zHi 1 0 nte.toInt) = ((q_7 : Int32).toInt, (q_7 : Int32).toInt, 0) := zN1_yes (p1 := (q_7 : Int32).toInt) (lo2 := 0) (hi2 := (nte.toInt - 1 : Int)) ⟨hW2, hW3⟩ (by omega) (hsr_42_2.2 (by omega)).1.symm zNv_0.symm (by decide) (by first | rfl | decide | (show nte.toInt - 1 = _; omega) | (show nte.toInt = _; omega)) (Or.inl ⟨rfl, Or.inl rfl⟩)
              refine lv_iconst (v := 0) hx hb dX8_item_116 (by decide) ?_
              have hI := zIn_a hn0 (by first | (right; decide) | (left; omega))
              exact W.zret (v := 0) hx hb hr (by decide) (fun t ht hW => ⟨⟨0, (npu, nte, nat_, nde, nse, nhu, nga, gki, gpa, gta, gla, gsl, gco, gte, q_44, q_45, q_46), rfl, ⟨(show 0 ≤ npu.toInt ∧ npu.toInt ≤ 8 from ⟨hy0, hy1⟩), (show 4 ≤ nte.toInt ∧ nte.toInt ≤ 40 from ⟨hy2, hy3⟩), (show 0 ≤ nat_.toInt ∧ nat_.toInt ≤ 40 from ⟨hy4, hy5⟩), (show 0 ≤ nde.toInt ∧ nde.toInt ≤ 24 from ⟨hy6, hy7⟩), (show 0 ≤ nhu.toInt ∧ nhu.toInt ≤ 9 from ⟨hy8, hy9⟩), hp_gki, hp_gpa, hp_gta, hp_gla, hp_gsl, hp_gco, (show 0 ≤ q_44.toInt ∧ q_44.toInt ≤ 160 from hbq_44), (show npl.toInt ≤ q_44.toInt ∧ q_44.toInt ≤ nen.toInt from by exact ⟨by omega, by omega⟩), (show ((0 : Int32).toInt = 1 → (zItem (zMF gce nba.toInt) nen.toInt npl.toInt nte.toInt npu.toInt).1 = -1 ∧ q_44.toInt = (zItem (zMF gce nba.toInt) nen.toInt npl.toInt nte.toInt npu.toInt).2.1 ∧ nte.toInt = (zItem (zMF gce nba.toInt) nen.toInt npl.toInt nte.toInt npu.toInt).2.2.1 ∧ npu.toInt = (zItem (zMF gce nba.toInt) nen.toInt npl.toInt nte.toInt npu.toInt).2.2.2) ∧ ((0 : Int32).toInt = 0 → (zItem (zMF gce nba.toInt) nen.toInt npl.toInt nte.toInt npu.toInt).1 = q_46.toInt ∧ 0 ≤ q_46.toInt) from by (have k9 : (0 : Int32).toInt = 0 := (by decide); rw [zItem_w hW1 (by decide) hp8 rfl hI]; dsimp only; exact ⟨fun h => absurd h (by decide), fun _ => ⟨by first | rfl | (show _ = _; omega), by omega⟩⟩)), ⟨by decide, by decide⟩⟩, zRet ht hP hD [9, 8, 0, 10, 1, 2, 3, 4, 5, 6, 7] (by decide) rfl⟩, hS.F ht⟩) hS.2.2 dX8_item_117
          · exact absurd c_41 (by decide)
      · have kc2 : (2 : Int32).toInt = 2 := by decide
        have z9 := hsr_5_1
        rw [kc2] at z9
        obtain ⟨hW1, hW2, hW3, hW4⟩ := zItem_Mw (f := (zMF gce nba.toInt)) (e := nen.toInt) (p := npl.toInt) (w := 2) (by omega) (by decide)
        have hp8 : ¬ ((2 : Int) = 3 ∧ npu.toInt = 8) := fun z => absurd z.1 (by decide)
        refine lv_iconst (v := 0) hx hb dX8_item_38 (by decide) ?_
        refine lv_istore_n (lv' := [(2, .int 0), (1, .int 2), (0, .ref m0)]) hx hb dX8_item_39 rfl hl (by decide) rfl (fun ls hl => ?_)
        refine lv_iload_n hx hb dX8_item_40 rfl (lv_at hl 0 rfl) ?_
        refine lv_aload_n hx hb dX8_item_41 rfl (lv_at hl 2 rfl) ?_
        refine va_get (D := D) (ci := 8) (v := .ref mnu) (C := RX8) (T := TX8) (N := 38) hx hb hts hi_X8_item_8 hown hK hP 8 rfl rfl 24 (by decide) (hts (.fieldLink RX8 69 "TheLiningsInItModel" "numbers" "[I") (List.mem_of_getElem? (i := 3) rfl)) (fun _ h9 => h9) rfl dX8_item_42 ?_
        refine lv_iload_n hx hb dX8_item_45 rfl (lv_at hl 1 rfl) ?_
        refine va_iald hx hb hK hP 0 0 rfl rfl (zf_in (by decide) (by decide)) dX8_item_46 ?_
        refine lv_topi (fun x_61 ex_61 => ?_)
        obtain rfl : x_61 = 2 := ex_61.trans ((congrArg gnu (show (2 : Int32).toNatClampNeg = 2 from by decide)).trans ((hnu 2 (by decide)).trans (by decide)))
        refine lv_icmp_ge (tgt := 149) hx hb dX8_item_47 (by decide) (fun c_62 => ?_) (fun c_62 => ?_)
        · exact absurd c_62 (by decide)
        · refine lv_iload_n hx hb dX8_item_50 rfl (lv_at hl 0 rfl) ?_
          refine lv_if_le (tgt := 104) hx hb dX8_item_51 (by decide) (fun c_63 => ?_) (fun c_63 => ?_)
          · refine lv_aload_n hx hb dX8_item_104 rfl (lv_at hl 2 rfl) ?_
            refine va_get (D := D) (ci := 8) (v := .int q_7) (C := RX8) (T := TX8) (N := 38) hx hb hts hi_X8_item_8 hown hK hP 8 rfl rfl 27 (by decide) (hts (.fieldLink RX8 152 "TheLiningsInItModel" "place" "I") (List.mem_of_getElem? (i := 2) rfl)) (fun _ h9 => h9) rfl dX8_item_105 ?_
            refine lv_istore_n (lv' := [(3, .int q_7), (2, .int 0), (1, .int 2), (0, .ref m0)]) hx hb dX8_item_108 rfl hl (by decide) rfl (fun ls hl => ?_)
            refine lv_aload_n hx hb dX8_item_109 rfl (lv_at hl 3 rfl) ?_
            skip
            refine zw_V (As := []) (rest := []) (wr := [(mnu, .inl (cI, 10, .inl gnu)), (mki, .inl (cI, 8, .inl gki)), (mpa, .inl (cI, 8, .inl gpa)), (mta, .inl (cI, 8, .inl gta)), (mla, .inl (cI, 40, .inl gla)), (msl, .inl (cI, 40, .inl gsl)), (mco, .inl (cI, 3, .inl gco)), (mte, .inl (cI, 3, .inl gte)), (mwo, .inl (cI, 64, .inl gwo))]) ⟨hx, hb, hml, hown, hts⟩ (c_F_M_reads l D cI cJ cZ cP cS po m0 mrf mki mpa mta mla msl mco mhe mso msi msh mce mca mwo mnu mte mwa mke mma mth mtr (npu) (nte) (nat_) (nde) (nto) (nse) (nhu) (nga) (nsd) (nfa) (nba) (q_7) (nen) (nnu) (q_8) (nra) (nik) gce hy0 hy1 hy2 hy3 hy4 hy5 hy6 hy7 hy8 hy9 hy10 hy11 hy12 hy13 hy14 hy15 hbq_7.1 hbq_7.2 hy18 hy19 (by omega) H.size) (cwV 0 hts gX8_item_X8_reads rfl rfl rfl ⟨rfl, dh_X8_reads⟩ ⟨Nat.le_of_ble_eq_true rfl, Nat.le_of_ble_eq_true rfl⟩) hK hN (hZ.kept hS) hP hD hS hA [8, 10] [0, 1, 2, 3, 4, 5, 6, 7, 9] rfl rfl (by decide) (by decide) (by decide) (va_recv (q := (RX8, TX8, 38)) hK hP (ci := 8) (q0 := 8) rfl rfl) rfl hl.1 rfl (Nat.le_of_ble_eq_true rfl) dX8_item_110 ⟨Nat.le_of_ble_eq_true rfl, Nat.le_of_ble_eq_true rfl⟩ (fun r_64 u_65 H locs hr_64 hP hD hS => ?_)
            obtain ⟨q_66, q_67, q_68⟩ := u_65
            try dsimp only at hr_64
            obtain ⟨hbq_66, hsr_64_0, hsr_64_1, hsr_64_2, hr_64⟩ := hr_64
            have h9R := zRe (ws' := [(mnu, .inl (cI, 10, .inl gnu)), (mki, .inl (cI, 8, .inl gki)), (mpa, .inl (cI, 8, .inl gpa)), (mta, .inl (cI, 8, .inl gta)), (mla, .inl (cI, 40, .inl gla)), (msl, .inl (cI, 40, .inl gsl)), (mco, .inl (cI, 3, .inl gco)), (mte, .inl (cI, 3, .inl gte)), (mwo, .inl (cI, 64, .inl gwo)), (zMO m0 npu nte nat_ nde nto nse nhu nga nsd nfa mrf mki mpa mta mla msl mco mhe mso msi msh mce mca mwo mnu mte nba q_66 nen q_67 q_68 mwa mke mma mth mtr nra nik), (mce, .inl (cJ, 1280, .inr (.inl gce)))]) hP hD rfl
            clear hP hD
            obtain ⟨hP, hD⟩ := h9R
            obtain ⟨g_69, g_70⟩ := hr_64
            refine lv_if_ne (tgt := 118) hx hb dX8_item_113 (by decide) (fun c_71 => ?_) (fun c_71 => ?_)
            · have fc_71 : r_64.toInt ≠ 0 := zf_ne c_71 rfl (by decide)
              refine lv_aload_n hx hb dX8_item_118 rfl (lv_at hl 3 rfl) ?_
              refine lv_iload_n hx hb dX8_item_119 rfl (lv_at hl 2 rfl) ?_
              refine lv_iload_n hx hb dX8_item_120 rfl (lv_at hl 1 rfl) ?_
              refine zc_V (As := [.int 2, .int 0]) (rest := []) ⟨hx, hb, hml, hown, hts⟩ (c_F_M_isSo_2_0 l D cI cJ cZ cP cS po m0 mrf mki mpa mta mla msl mco mhe mso msi msh mce mca mwo mnu mte mwa mke mma mth mtr (npu) (nte) (nat_) (nde) (nto) (nse) (nhu) (nga) (nsd) (nfa) (nba) (q_66) (nen) (q_67) (q_68) (nra) (nik) hy0 hy1 hy2 hy3 hy4 hy5 hy6 hy7 hy8 hy9 hy10 hy11 hy12 hy13 (by omega) (by omega)) (cwV 2 hts gX8_item_X8_isSo rfl rfl rfl ⟨rfl, dh_X8_isSo⟩ ⟨Nat.le_of_ble_eq_true rfl, Nat.le_of_ble_eq_true rfl⟩) hK hN (hZ.kept hS) hP (hP.sub [9] rfl) (va_recv (q := (RX8, TX8, 38)) hK hP (ci := 8) (q0 := 9) rfl rfl) rfl hl.1 rfl (Nat.le_of_ble_eq_true rfl) dX8_item_121 ⟨Nat.le_of_ble_eq_true rfl, Nat.le_of_ble_eq_true rfl⟩ (fun r_72 hr_72 => ?_)
              obtain ⟨g_73, g_74, hsr_72_0⟩ := hr_72
              refine lv_if_ne (tgt := 133) hx hb dX8_item_124 (by decide) (fun c_75 => ?_) (fun c_75 => ?_)
              · have fc_75 : r_72.toInt ≠ 0 := zf_ne c_75 rfl (by decide)
                obtain ⟨hy1_0, hy2_0, hy3_0⟩ := hsr_64_2.1 (by omega)
                have hn0 : zN1 (zMF gce nba.toInt) nen.toInt (npl.toInt + ((zWds ((2 : Int)).toNat).length : Int)) (zLo 2 0) (zHi 2 0 nte.toInt) = (-1, (q_66 : Int32).toInt, (q_67 : Int32).toInt) := zN1_yes (p1 := (q_7 : Int32).toInt) (lo2 := 0) (hi2 := (nte.toInt - 1 : Int)) ⟨hW2, hW3⟩ (by omega) hy1_0 hy2_0 (by decide) (by first | rfl | decide | (show nte.toInt - 1 = _; omega) | (show nte.toInt = _; omega)) (by omega)
                refine lv_aload_n hx hb dX8_item_133 rfl (lv_at hl 3 rfl) ?_
                refine va_get (D := D) (ci := 8) (v := .ref mte) (C := RX8) (T := TX8) (N := 38) hx hb hts hi_X8_item_8 hown hK hP 9 rfl rfl 25 (by decide) (hts (.fieldLink RX8 72 "TheLiningsInItModel" "tell" "[I") (List.mem_of_getElem? (i := 7) rfl)) (fun _ h9 => h9) rfl dX8_item_134 ?_
                refine lv_iload_n hx hb dX8_item_137 rfl (lv_at hl 1 rfl) ?_
                refine lv_aload_n hx hb dX8_item_138 rfl (lv_at hl 3 rfl) ?_
                refine va_get (D := D) (ci := 8) (v := .int q_67) (C := RX8) (T := TX8) (N := 38) hx hb hts hi_X8_item_8 hown hK hP 9 rfl rfl 29 (by decide) (hts (.fieldLink RX8 161 "TheLiningsInItModel" "number" "I") (List.mem_of_getElem? (i := 8) rfl)) (fun _ h9 => h9) rfl dX8_item_139 ?_
                refine va_iast hx hb hK hP hD hS 7 0 rfl rfl (zf_in (by decide) (by decide)) dX8_item_142 (fun H locs hP hD hS => ?_)
                have h9R := zRe (ws' := [(mnu, .inl (cI, 10, .inl gnu)), (mki, .inl (cI, 8, .inl gki)), (mpa, .inl (cI, 8, .inl gpa)), (mta, .inl (cI, 8, .inl gta)), (mla, .inl (cI, 40, .inl gla)), (msl, .inl (cI, 40, .inl gsl)), (mco, .inl (cI, 3, .inl gco)), (mte, .inl (cI, 3, .inl (upd gte (0 : Int32).toNatClampNeg q_67))), (mwo, .inl (cI, 64, .inl gwo)), (zMO m0 npu nte nat_ nde nto nse nhu nga nsd nfa mrf mki mpa mta mla msl mco mhe mso msi msh mce mca mwo mnu mte nba q_66 nen q_67 q_68 mwa mke mma mth mtr nra nik), (mce, .inl (cJ, 1280, .inr (.inl gce)))]) hP hD rfl
                clear hP hD
                obtain ⟨hP, hD⟩ := h9R
                refine lv_iinc (v := 1) (lv' := [(2, .int 1), (3, .int q_7), (1, .int 2), (0, .ref m0)]) hx hb dX8_item_143 hl (k := 1) rfl (by decide) (by decide) rfl (fun ls hl => ?_)
                refine lv_goto (tgt := 40) hx hb dX8_item_146 (by decide) ?_
                refine lv_iload_n hx hb dX8_item_40 rfl (lv_at hl 0 rfl) ?_
                refine lv_aload_n hx hb dX8_item_41 rfl (lv_at hl 3 rfl) ?_
                refine va_get (D := D) (ci := 8) (v := .ref mnu) (C := RX8) (T := TX8) (N := 38) hx hb hts hi_X8_item_8 hown hK hP 9 rfl rfl 24 (by decide) (hts (.fieldLink RX8 69 "TheLiningsInItModel" "numbers" "[I") (List.mem_of_getElem? (i := 3) rfl)) (fun _ h9 => h9) rfl dX8_item_42 ?_
                refine lv_iload_n hx hb dX8_item_45 rfl (lv_at hl 2 rfl) ?_
                refine va_iald hx hb hK hP 0 0 rfl rfl (zf_in (by decide) (by decide)) dX8_item_46 ?_
                refine lv_topi (fun x_76 ex_76 => ?_)
                obtain rfl : x_76 = 2 := ex_76.trans ((congrArg gnu (show (2 : Int32).toNatClampNeg = 2 from by decide)).trans ((hnu 2 (by decide)).trans (by decide)))
                refine lv_icmp_ge (tgt := 149) hx hb dX8_item_47 (by decide) (fun c_77 => ?_) (fun c_77 => ?_)
                · exact absurd c_77 (by decide)
                · refine lv_iload_n hx hb dX8_item_50 rfl (lv_at hl 0 rfl) ?_
                  refine lv_if_le (tgt := 104) hx hb dX8_item_51 (by decide) (fun c_78 => ?_) (fun c_78 => ?_)
                  · exact absurd c_78 (by decide)
                  · refine lv_aload_n hx hb dX8_item_54 rfl (lv_at hl 3 rfl) ?_
                    refine va_get (D := D) (ci := 8) (v := .int q_66) (C := RX8) (T := TX8) (N := 38) hx hb hts hi_X8_item_8 hown hK hP 9 rfl rfl 27 (by decide) (hts (.fieldLink RX8 152 "TheLiningsInItModel" "place" "I") (List.mem_of_getElem? (i := 2) rfl)) (fun _ h9 => h9) rfl dX8_item_55 ?_
                    refine lv_aload_n hx hb dX8_item_58 rfl (lv_at hl 3 rfl) ?_
                    refine va_get (D := D) (ci := 8) (v := .int nen) (C := RX8) (T := TX8) (N := 38) hx hb hts hi_X8_item_8 hown hK hP 9 rfl rfl 28 (by decide) (hts (.fieldLink RX8 155 "TheLiningsInItModel" "end" "I") (List.mem_of_getElem? (i := 4) rfl)) (fun _ h9 => h9) rfl dX8_item_59 ?_
                    refine lv_icmp_ge (tgt := 85) hx hb dX8_item_62 (by decide) (fun c_79 => ?_) (fun c_79 => ?_)
                    · have fc_79 : nen.toInt ≤ q_66.toInt := zf_le c_79 rfl rfl
                      have hn1 : zN1 (zMF gce nba.toInt) nen.toInt (q_66 : Int32).toInt (zLo 2 1) (zHi 2 1 nte.toInt) = ((q_66 : Int32).toInt, (q_66 : Int32).toInt, 0) := zN1_no (by first | (intro z; have z1 := z.1; omega))
                      refine lv_aload_n hx hb dX8_item_85 rfl (lv_at hl 3 rfl) ?_
                      refine lv_aload_n hx hb dX8_item_86 rfl (lv_at hl 3 rfl) ?_
                      refine va_get (D := D) (ci := 8) (v := .int q_66) (C := RX8) (T := TX8) (N := 38) hx hb hts hi_X8_item_8 hown hK hP 9 rfl rfl 27 (by decide) (hts (.fieldLink RX8 152 "TheLiningsInItModel" "place" "I") (List.mem_of_getElem? (i := 2) rfl)) (fun _ h9 => h9) rfl dX8_item_87 ?_
                      skip
                      refine zw_V (As := [.int q_66]) (rest := []) (wr := [(mnu, .inl (cI, 10, .inl gnu)), (mki, .inl (cI, 8, .inl gki)), (mpa, .inl (cI, 8, .inl gpa)), (mta, .inl (cI, 8, .inl gta)), (mla, .inl (cI, 40, .inl gla)), (msl, .inl (cI, 40, .inl gsl)), (mco, .inl (cI, 3, .inl gco)), (mte, .inl (cI, 3, .inl (upd gte (0 : Int32).toNatClampNeg q_67))), (mwo, .inl (cI, 64, .inl gwo)), (mce, .inl (cJ, 1280, .inr (.inl gce)))]) ⟨hx, hb, hml, hown, hts⟩ (c_F_M_wrong l D cI cJ cZ cP cS po m0 mrf mki mpa mta mla msl mco mhe mso msi msh mce mca mwo mnu mte mwa mke mma mth mtr (npu) (nte) (nat_) (nde) (nto) (nse) (nhu) (nga) (nsd) (nfa) (nba) (q_66) (nen) (q_67) (q_68) (nra) (nik) (q_66) hy0 hy1 hy2 hy3 hy4 hy5 hy6 hy7 hy8 hy9 hy10 hy11 hy12 hy13 H.size) (cwV 1 hts gX8_item_X8_wrong rfl rfl rfl ⟨rfl, dh_X8_wrong⟩ ⟨Nat.le_of_ble_eq_true rfl, Nat.le_of_ble_eq_true rfl⟩) hK hN (hZ.kept hS) hP hD hS hA [9] [0, 1, 2, 3, 4, 5, 6, 7, 8, 10] rfl rfl (by decide) (by decide) (by decide) (va_recv (q := (RX8, TX8, 38)) hK hP (ci := 8) (q0 := 9) rfl rfl) rfl hl.1 rfl (Nat.le_of_ble_eq_true rfl) dX8_item_90 ⟨Nat.le_of_ble_eq_true rfl, Nat.le_of_ble_eq_true rfl⟩ (fun r_80 u_81 H locs hr_80 hP hD hS => ?_)
                      obtain ⟨q_82, rfl⟩ : ∃ z, z = u_81 := ⟨_, rfl⟩
                      obtain ⟨hsr_80_0, hr_80⟩ := hr_80
                      have h9R := zRe (ws' := [(mnu, .inl (cI, 10, .inl gnu)), (mki, .inl (cI, 8, .inl gki)), (mpa, .inl (cI, 8, .inl gpa)), (mta, .inl (cI, 8, .inl gta)), (mla, .inl (cI, 40, .inl gla)), (msl, .inl (cI, 40, .inl gsl)), (mco, .inl (cI, 3, .inl gco)), (mte, .inl (cI, 3, .inl (upd gte (0 : Int32).toNatClampNeg q_67))), (mwo, .inl (cI, 64, .inl gwo)), (mce, .inl (cJ, 1280, .inr (.inl gce))), (zMO m0 npu nte nat_ nde nto nse nhu nga nsd nfa mrf mki mpa mta mla msl mco mhe mso msi msh mce mca mwo mnu mte nba q_66 nen q_67 q_82 mwa mke mma mth mtr nra nik)]) hP hD rfl
                      clear hP hD
                      obtain ⟨hP, hD⟩ := h9R
                      obtain rfl := hr_80
                      have hI := zIn_b hn0 (by decide) hn1 (by first | (right; decide) | (left; omega))
                      exact W.zret (v := 0) hx hb hr (by decide) (fun t ht hW => ⟨⟨0, (npu, nte, nat_, nde, nse, nhu, nga, gki, gpa, gta, gla, gsl, gco, (upd gte (0 : Int32).toNatClampNeg q_67), q_66, q_67, q_82), rfl, ⟨(show 0 ≤ npu.toInt ∧ npu.toInt ≤ 8 from ⟨hy0, hy1⟩), (show 4 ≤ nte.toInt ∧ nte.toInt ≤ 40 from ⟨hy2, hy3⟩), (show 0 ≤ nat_.toInt ∧ nat_.toInt ≤ 40 from ⟨hy4, hy5⟩), (show 0 ≤ nde.toInt ∧ nde.toInt ≤ 24 from ⟨hy6, hy7⟩), (show 0 ≤ nhu.toInt ∧ nhu.toInt ≤ 9 from ⟨hy8, hy9⟩), hp_gki, hp_gpa, hp_gta, hp_gla, hp_gsl, hp_gco, (show 0 ≤ q_66.toInt ∧ q_66.toInt ≤ 160 from hbq_66), (show npl.toInt ≤ q_66.toInt ∧ q_66.toInt ≤ nen.toInt from by exact ⟨by omega, by omega⟩), (show ((0 : Int32).toInt = 1 → (zItem (zMF gce nba.toInt) nen.toInt npl.toInt nte.toInt npu.toInt).1 = -1 ∧ q_66.toInt = (zItem (zMF gce nba.toInt) nen.toInt npl.toInt nte.toInt npu.toInt).2.1 ∧ nte.toInt = (zItem (zMF gce nba.toInt) nen.toInt npl.toInt nte.toInt npu.toInt).2.2.1 ∧ npu.toInt = (zItem (zMF gce nba.toInt) nen.toInt npl.toInt nte.toInt npu.toInt).2.2.2) ∧ ((0 : Int32).toInt = 0 → (zItem (zMF gce nba.toInt) nen.toInt npl.toInt nte.toInt npu.toInt).1 = q_82.toInt ∧ 0 ≤ q_82.toInt) from by (have k9 : (0 : Int32).toInt = 0 := (by decide); rw [zItem_w hW1 (by decide) hp8 rfl hI]; dsimp only; exact ⟨fun h => absurd h (by decide), fun _ => ⟨by first | rfl | (show _ = _; omega), by omega⟩⟩)), ⟨by decide, by decide⟩⟩, zRet ht hP hD [10, 8, 0, 9, 1, 2, 3, 4, 5, 6, 7] (by decide) rfl⟩, hS.F ht⟩) hS.2.2 dX8_item_93
                    · have fc_79 : q_66.toInt < nen.toInt := zf_nle c_79 rfl rfl
                      refine lv_aload_n hx hb dX8_item_65 rfl (lv_at hl 3 rfl) ?_
                      refine va_get (D := D) (ci := 8) (v := .ref mce) (C := RX8) (T := TX8) (N := 38) hx hb hts hi_X8_item_8 hown hK hP 9 rfl rfl 21 (by decide) (hts (.fieldLink RX8 59 "TheLiningsInItModel" "cells" "[J") (List.mem_of_getElem? (i := 5) rfl)) (fun _ h9 => h9) rfl dX8_item_66 ?_
                      refine lv_aload_n hx hb dX8_item_69 rfl (lv_at hl 3 rfl) ?_
                      refine va_get (D := D) (ci := 8) (v := .int nba) (C := RX8) (T := TX8) (N := 38) hx hb hts hi_X8_item_8 hown hK hP 9 rfl rfl 26 (by decide) (hts (.fieldLink RX8 158 "TheLiningsInItModel" "base" "I") (List.mem_of_getElem? (i := 6) rfl)) (fun _ h9 => h9) rfl dX8_item_70 ?_
                      refine lv_aload_n hx hb dX8_item_73 rfl (lv_at hl 3 rfl) ?_
                      refine va_get (D := D) (ci := 8) (v := .int q_66) (C := RX8) (T := TX8) (N := 38) hx hb hts hi_X8_item_8 hown hK hP 9 rfl rfl 27 (by decide) (hts (.fieldLink RX8 152 "TheLiningsInItModel" "place" "I") (List.mem_of_getElem? (i := 2) rfl)) (fun _ h9 => h9) rfl dX8_item_74 ?_
                      refine lv_iadd hx hb dX8_item_77 ?_
                      refine lv_topi (fun x_83 ex_83 => ?_)
                      have qx_83 : x_83.toInt = nba.toInt + q_66.toInt := by rw [ex_83]; exact zf_add rfl rfl (by omega) (by omega)
                      refine va_lald hx hb hK hP 10 1 rfl rfl (zf_in (by omega) (by omega)) dX8_item_78 ?_
                      refine lv_topl (fun x_84 ex_84 => ?_)
                      refine lv_l2i hx hb dX8_item_79 rfl ?_
                      refine lv_topi (fun x_85 ex_85 => ?_)
                      have hcx_85 : x_85 = zChX gce (nba.toInt + q_66.toInt).toNat := by rw [ex_85, ex_84]; unfold zChX; congr 2; (show x_83.toInt.toNat = _; omega)
                      have hdx_85 : x_85.toInt = (zChX gce (nba.toInt + q_66.toInt).toNat).toInt := by rw [hcx_85]
                      refine lv_bipush (v := 32) hx hb dX8_item_80 (by decide) ?_
                      refine lv_icmp_eq (tgt := 94) hx hb dX8_item_82 (by decide) (fun c_86 => ?_) (fun c_86 => ?_)
                      · have fc_86 : x_85.toInt = 32 := zf_eq c_86 rfl (by decide)
                        refine lv_aload_n hx hb dX8_item_94 rfl (lv_at hl 3 rfl) ?_
                        refine lv_dup hx hb dX8_item_95 rfl ?_
                        refine va_get (D := D) (ci := 8) (v := .int q_66) (C := RX8) (T := TX8) (N := 38) hx hb hts hi_X8_item_8 hown hK hP 9 rfl rfl 27 (by decide) (hts (.fieldLink RX8 152 "TheLiningsInItModel" "place" "I") (List.mem_of_getElem? (i := 2) rfl)) (fun _ h9 => h9) rfl dX8_item_96 ?_
                        refine lv_iconst (v := 1) hx hb dX8_item_99 (by decide) ?_
                        refine lv_iadd hx hb dX8_item_100 ?_
                        refine lv_topi (fun x_87 ex_87 => ?_)
                        have qx_87 : x_87.toInt = q_66.toInt + 1 := dw_inc ex_87 fc_79
                        refine va_put (D := D) (ci := 8) (v := .int x_87) (ty := .int) (C := RX8) (T := TX8) (N := 38) hx hb hts hi_X8_item_8 tyX8 tyX8_ok nmX8 hown hK hP hD hS 9 rfl rfl 27 (by decide) (hts (.fieldLink RX8 152 "TheLiningsInItModel" "place" "I") (List.mem_of_getElem? (i := 2) rfl)) (fun _ h9 => h9) rfl (tyX8_ok 27 (Nat.le_of_ble_eq_true rfl)) rfl rfl (Nat.le_of_ble_eq_true rfl) dX8_item_101 (fun H locs hP hD hS => ?_)
                        have h9R := zRe (ws' := [(mnu, .inl (cI, 10, .inl gnu)), (mki, .inl (cI, 8, .inl gki)), (mpa, .inl (cI, 8, .inl gpa)), (mta, .inl (cI, 8, .inl gta)), (mla, .inl (cI, 40, .inl gla)), (msl, .inl (cI, 40, .inl gsl)), (mco, .inl (cI, 3, .inl gco)), (mte, .inl (cI, 3, .inl (upd gte (0 : Int32).toNatClampNeg q_67))), (mwo, .inl (cI, 64, .inl gwo)), (zMO m0 npu nte nat_ nde nto nse nhu nga nsd nfa mrf mki mpa mta mla msl mco mhe mso msi msh mce mca mwo mnu mte nba x_87 nen q_67 q_68 mwa mke mma mth mtr nra nik), (mce, .inl (cJ, 1280, .inr (.inl gce)))]) hP hD rfl
                        clear hP hD
                        obtain ⟨hP, hD⟩ := h9R
                        refine lv_aload_n hx hb dX8_item_104 rfl (lv_at hl 3 rfl) ?_
                        refine va_get (D := D) (ci := 8) (v := .int x_87) (C := RX8) (T := TX8) (N := 38) hx hb hts hi_X8_item_8 hown hK hP 9 rfl rfl 27 (by decide) (hts (.fieldLink RX8 152 "TheLiningsInItModel" "place" "I") (List.mem_of_getElem? (i := 2) rfl)) (fun _ h9 => h9) rfl dX8_item_105 ?_
                        refine lv_istore_n (lv' := [(3, .int x_87), (2, .int 1), (1, .int 2), (0, .ref m0)]) hx hb dX8_item_108 rfl hl (by decide) rfl (fun ls hl => ?_)
                        refine lv_aload_n hx hb dX8_item_109 rfl (lv_at hl 3 rfl) ?_
                        skip
                        refine zw_V (As := []) (rest := []) (wr := [(mnu, .inl (cI, 10, .inl gnu)), (mki, .inl (cI, 8, .inl gki)), (mpa, .inl (cI, 8, .inl gpa)), (mta, .inl (cI, 8, .inl gta)), (mla, .inl (cI, 40, .inl gla)), (msl, .inl (cI, 40, .inl gsl)), (mco, .inl (cI, 3, .inl gco)), (mte, .inl (cI, 3, .inl (upd gte (0 : Int32).toNatClampNeg q_67))), (mwo, .inl (cI, 64, .inl gwo))]) ⟨hx, hb, hml, hown, hts⟩ (c_F_M_reads l D cI cJ cZ cP cS po m0 mrf mki mpa mta mla msl mco mhe mso msi msh mce mca mwo mnu mte mwa mke mma mth mtr (npu) (nte) (nat_) (nde) (nto) (nse) (nhu) (nga) (nsd) (nfa) (nba) (x_87) (nen) (q_67) (q_68) (nra) (nik) gce hy0 hy1 hy2 hy3 hy4 hy5 hy6 hy7 hy8 hy9 hy10 hy11 hy12 hy13 hy14 hy15 (by omega) (by omega) hy18 hy19 (by omega) H.size) (cwV 0 hts gX8_item_X8_reads rfl rfl rfl ⟨rfl, dh_X8_reads⟩ ⟨Nat.le_of_ble_eq_true rfl, Nat.le_of_ble_eq_true rfl⟩) hK hN (hZ.kept hS) hP hD hS hA [9, 10] [0, 1, 2, 3, 4, 5, 6, 7, 8] rfl rfl (by decide) (by decide) (by decide) (va_recv (q := (RX8, TX8, 38)) hK hP (ci := 8) (q0 := 9) rfl rfl) rfl hl.1 rfl (Nat.le_of_ble_eq_true rfl) dX8_item_110 ⟨Nat.le_of_ble_eq_true rfl, Nat.le_of_ble_eq_true rfl⟩ (fun r_88 u_89 H locs hr_88 hP hD hS => ?_)
                        obtain ⟨q_90, q_91, q_92⟩ := u_89
                        try dsimp only at hr_88
                        obtain ⟨hbq_90, hsr_88_0, hsr_88_1, hsr_88_2, hr_88⟩ := hr_88
                        have h9R := zRe (ws' := [(mnu, .inl (cI, 10, .inl gnu)), (mki, .inl (cI, 8, .inl gki)), (mpa, .inl (cI, 8, .inl gpa)), (mta, .inl (cI, 8, .inl gta)), (mla, .inl (cI, 40, .inl gla)), (msl, .inl (cI, 40, .inl gsl)), (mco, .inl (cI, 3, .inl gco)), (mte, .inl (cI, 3, .inl (upd gte (0 : Int32).toNatClampNeg q_67))), (mwo, .inl (cI, 64, .inl gwo)), (zMO m0 npu nte nat_ nde nto nse nhu nga nsd nfa mrf mki mpa mta mla msl mco mhe mso msi msh mce mca mwo mnu mte nba q_90 nen q_91 q_92 mwa mke mma mth mtr nra nik), (mce, .inl (cJ, 1280, .inr (.inl gce)))]) hP hD rfl
                        clear hP hD
                        obtain ⟨hP, hD⟩ := h9R
                        obtain ⟨g_93, g_94⟩ := hr_88
                        refine lv_if_ne (tgt := 118) hx hb dX8_item_113 (by decide) (fun c_95 => ?_) (fun c_95 => ?_)
                        · have fc_95 : r_88.toInt ≠ 0 := zf_ne c_95 rfl (by decide)
                          refine lv_aload_n hx hb dX8_item_118 rfl (lv_at hl 3 rfl) ?_
                          refine lv_iload_n hx hb dX8_item_119 rfl (lv_at hl 2 rfl) ?_
                          refine lv_iload_n hx hb dX8_item_120 rfl (lv_at hl 1 rfl) ?_
                          refine zc_V (As := [.int 2, .int 1]) (rest := []) ⟨hx, hb, hml, hown, hts⟩ (c_F_M_isSo_2_1 l D cI cJ cZ cP cS po m0 mrf mki mpa mta mla msl mco mhe mso msi msh mce mca mwo mnu mte mwa mke mma mth mtr (npu) (nte) (nat_) (nde) (nto) (nse) (nhu) (nga) (nsd) (nfa) (nba) (q_90) (nen) (q_91) (q_92) (nra) (nik) hy0 hy1 hy2 hy3 hy4 hy5 hy6 hy7 hy8 hy9 hy10 hy11 hy12 hy13 (by omega) (by omega)) (cwV 2 hts gX8_item_X8_isSo rfl rfl rfl ⟨rfl, dh_X8_isSo⟩ ⟨Nat.le_of_ble_eq_true rfl, Nat.le_of_ble_eq_true rfl⟩) hK hN (hZ.kept hS) hP (hP.sub [9] rfl) (va_recv (q := (RX8, TX8, 38)) hK hP (ci := 8) (q0 := 9) rfl rfl) rfl hl.1 rfl (Nat.le_of_ble_eq_true rfl) dX8_item_121 ⟨Nat.le_of_ble_eq_true rfl, Nat.le_of_ble_eq_true rfl⟩ (fun r_96 hr_96 => ?_)
                          obtain ⟨g_97, g_98, hsr_96_0⟩ := hr_96
                          refine lv_if_ne (tgt := 133) hx hb dX8_item_124 (by decide) (fun c_99 => ?_) (fun c_99 => ?_)
                          · have fc_99 : r_96.toInt ≠ 0 := zf_ne c_99 rfl (by decide)
                            obtain ⟨hy1_1, hy2_1, hy3_1⟩ := hsr_88_2.1 (by omega)
                            have hn1 : zN1 (zMF gce nba.toInt) nen.toInt (q_66 : Int32).toInt (zLo 2 1) (zHi 2 1 nte.toInt) = (-1, (q_90 : Int32).toInt, (q_91 : Int32).toInt) := zN1_yes (p1 := (x_87 : Int32).toInt) (lo2 := 0) (hi2 := (9 : Int)) ⟨by omega, by (rw [zMF_at (by omega), ← hdx_85]; omega)⟩ (by omega) hy1_1 hy2_1 (by decide) (by first | rfl | decide | (show nte.toInt - 1 = _; omega) | (show nte.toInt = _; omega)) (by omega)
                            refine lv_aload_n hx hb dX8_item_133 rfl (lv_at hl 3 rfl) ?_
                            refine va_get (D := D) (ci := 8) (v := .ref mte) (C := RX8) (T := TX8) (N := 38) hx hb hts hi_X8_item_8 hown hK hP 9 rfl rfl 25 (by decide) (hts (.fieldLink RX8 72 "TheLiningsInItModel" "tell" "[I") (List.mem_of_getElem? (i := 7) rfl)) (fun _ h9 => h9) rfl dX8_item_134 ?_
                            refine lv_iload_n hx hb dX8_item_137 rfl (lv_at hl 1 rfl) ?_
                            refine lv_aload_n hx hb dX8_item_138 rfl (lv_at hl 3 rfl) ?_
                            refine va_get (D := D) (ci := 8) (v := .int q_91) (C := RX8) (T := TX8) (N := 38) hx hb hts hi_X8_item_8 hown hK hP 9 rfl rfl 29 (by decide) (hts (.fieldLink RX8 161 "TheLiningsInItModel" "number" "I") (List.mem_of_getElem? (i := 8) rfl)) (fun _ h9 => h9) rfl dX8_item_139 ?_
                            refine va_iast hx hb hK hP hD hS 7 0 rfl rfl (zf_in (by decide) (by decide)) dX8_item_142 (fun H locs hP hD hS => ?_)
                            have h9R := zRe (ws' := [(mnu, .inl (cI, 10, .inl gnu)), (mki, .inl (cI, 8, .inl gki)), (mpa, .inl (cI, 8, .inl gpa)), (mta, .inl (cI, 8, .inl gta)), (mla, .inl (cI, 40, .inl gla)), (msl, .inl (cI, 40, .inl gsl)), (mco, .inl (cI, 3, .inl gco)), (mte, .inl (cI, 3, .inl (upd (upd gte (0 : Int32).toNatClampNeg q_67) (1 : Int32).toNatClampNeg q_91))), (mwo, .inl (cI, 64, .inl gwo)), (zMO m0 npu nte nat_ nde nto nse nhu nga nsd nfa mrf mki mpa mta mla msl mco mhe mso msi msh mce mca mwo mnu mte nba q_90 nen q_91 q_92 mwa mke mma mth mtr nra nik), (mce, .inl (cJ, 1280, .inr (.inl gce)))]) hP hD rfl
                            clear hP hD
                            obtain ⟨hP, hD⟩ := h9R
                            refine lv_iinc (v := 2) (lv' := [(2, .int 2), (3, .int x_87), (1, .int 2), (0, .ref m0)]) hx hb dX8_item_143 hl (k := 1) rfl (by decide) (by decide) rfl (fun ls hl => ?_)
                            refine lv_goto (tgt := 40) hx hb dX8_item_146 (by decide) ?_
                            refine lv_iload_n hx hb dX8_item_40 rfl (lv_at hl 0 rfl) ?_
                            refine lv_aload_n hx hb dX8_item_41 rfl (lv_at hl 3 rfl) ?_
                            refine va_get (D := D) (ci := 8) (v := .ref mnu) (C := RX8) (T := TX8) (N := 38) hx hb hts hi_X8_item_8 hown hK hP 9 rfl rfl 24 (by decide) (hts (.fieldLink RX8 69 "TheLiningsInItModel" "numbers" "[I") (List.mem_of_getElem? (i := 3) rfl)) (fun _ h9 => h9) rfl dX8_item_42 ?_
                            refine lv_iload_n hx hb dX8_item_45 rfl (lv_at hl 2 rfl) ?_
                            refine va_iald hx hb hK hP 0 0 rfl rfl (zf_in (by decide) (by decide)) dX8_item_46 ?_
                            refine lv_topi (fun x_100 ex_100 => ?_)
                            obtain rfl : x_100 = 2 := ex_100.trans ((congrArg gnu (show (2 : Int32).toNatClampNeg = 2 from by decide)).trans ((hnu 2 (by decide)).trans (by decide)))
                            refine lv_icmp_ge (tgt := 149) hx hb dX8_item_47 (by decide) (fun c_101 => ?_) (fun c_101 => ?_)
                            · refine lv_iload_n hx hb dX8_item_149 rfl (lv_at hl 2 rfl) ?_
                              refine lv_tableIn (tgt := 232) hx hb dX8_item_150 (by decide) (by decide) rfl (by decide) ?_
                              refine lv_aload_n hx hb dX8_item_232 rfl (lv_at hl 3 rfl) ?_
                              refine va_get (D := D) (ci := 8) (v := .ref msl) (C := RX8) (T := TX8) (N := 38) hx hb hts hi_X8_item_8 hown hK hP 9 rfl rfl 15 (by decide) (hts (.fieldLink RX8 41 "TheLiningsInItModel" "slack" "[I") (List.mem_of_getElem? (i := 10) rfl)) (fun _ h9 => h9) rfl dX8_item_233 ?_
                              refine lv_aload_n hx hb dX8_item_236 rfl (lv_at hl 3 rfl) ?_
                              refine va_get (D := D) (ci := 8) (v := .ref mte) (C := RX8) (T := TX8) (N := 38) hx hb hts hi_X8_item_8 hown hK hP 9 rfl rfl 25 (by decide) (hts (.fieldLink RX8 72 "TheLiningsInItModel" "tell" "[I") (List.mem_of_getElem? (i := 7) rfl)) (fun _ h9 => h9) rfl dX8_item_237 ?_
                              refine lv_iconst (v := 0) hx hb dX8_item_240 (by decide) ?_
                              refine va_iald hx hb hK hP 7 0 rfl rfl (zf_in (by decide) (by decide)) dX8_item_241 ?_
                              refine lv_topi (fun x_102 ex_102 => ?_)
                              obtain rfl : q_67 = x_102 := (ex_102.trans ((if_neg (by decide)).trans (if_pos rfl))).symm
                              refine lv_aload_n hx hb dX8_item_242 rfl (lv_at hl 3 rfl) ?_
                              refine va_get (D := D) (ci := 8) (v := .ref mte) (C := RX8) (T := TX8) (N := 38) hx hb hts hi_X8_item_8 hown hK hP 9 rfl rfl 25 (by decide) (hts (.fieldLink RX8 72 "TheLiningsInItModel" "tell" "[I") (List.mem_of_getElem? (i := 7) rfl)) (fun _ h9 => h9) rfl dX8_item_243 ?_
                              refine lv_iconst (v := 1) hx hb dX8_item_246 (by decide) ?_
                              refine va_iald hx hb hK hP 7 0 rfl rfl (zf_in (by decide) (by decide)) dX8_item_247 ?_
                              refine lv_topi (fun x_103 ex_103 => ?_)
                              obtain rfl : q_91 = x_103 := (ex_103.trans (if_pos rfl)).symm
                              refine va_iast hx hb hK hP hD hS 5 0 rfl rfl (zf_in (by omega) (by omega)) dX8_item_248 (fun H locs hP hD hS => ?_)
                              have hpg_104 : zRg (upd gsl q_67.toNatClampNeg q_91) (0) 9 := zRg_upd hp_gsl (by omega) (by omega)
                              obtain ⟨g_104, hg_104⟩ : ∃ g : Nat → Int32, g = upd gsl q_67.toNatClampNeg q_91 := ⟨_, rfl⟩
                              rw [← hg_104] at hP hD hpg_104
                              clear hg_104
                              have h9R := zRe (ws' := [(mnu, .inl (cI, 10, .inl gnu)), (mki, .inl (cI, 8, .inl gki)), (mpa, .inl (cI, 8, .inl gpa)), (mta, .inl (cI, 8, .inl gta)), (mla, .inl (cI, 40, .inl gla)), (msl, .inl (cI, 40, .inl g_104)), (mco, .inl (cI, 3, .inl gco)), (mte, .inl (cI, 3, .inl (upd (upd gte (0 : Int32).toNatClampNeg q_67) (1 : Int32).toNatClampNeg q_91))), (mwo, .inl (cI, 64, .inl gwo)), (zMO m0 npu nte nat_ nde nto nse nhu nga nsd nfa mrf mki mpa mta mla msl mco mhe mso msi msh mce mca mwo mnu mte nba q_90 nen q_91 q_92 mwa mke mma mth mtr nra nik), (mce, .inl (cJ, 1280, .inr (.inl gce)))]) hP hD rfl
                              clear hP hD
                              obtain ⟨hP, hD⟩ := h9R
                              refine lv_goto (tgt := 324) hx hb dX8_item_249 (by decide) ?_
                              refine lv_iconst (v := 1) hx hb dX8_item_324 (by decide) ?_
                              have hI := zIn_b hn0 (by decide) hn1 (by first | (right; decide) | (left; omega))
                              exact W.zret (v := 1) hx hb hr (by decide) (fun t ht hW => ⟨⟨1, (npu, nte, nat_, nde, nse, nhu, nga, gki, gpa, gta, gla, g_104, gco, (upd (upd gte (0 : Int32).toNatClampNeg q_67) (1 : Int32).toNatClampNeg q_91), q_90, q_91, q_92), rfl, ⟨(show 0 ≤ npu.toInt ∧ npu.toInt ≤ 8 from ⟨hy0, hy1⟩), (show 4 ≤ nte.toInt ∧ nte.toInt ≤ 40 from ⟨hy2, hy3⟩), (show 0 ≤ nat_.toInt ∧ nat_.toInt ≤ 40 from ⟨hy4, hy5⟩), (show 0 ≤ nde.toInt ∧ nde.toInt ≤ 24 from ⟨hy6, hy7⟩), (show 0 ≤ nhu.toInt ∧ nhu.toInt ≤ 9 from ⟨hy8, hy9⟩), hp_gki, hp_gpa, hp_gta, hp_gla, hpg_104, hp_gco, (show 0 ≤ q_90.toInt ∧ q_90.toInt ≤ 160 from hbq_90), (show npl.toInt ≤ q_90.toInt ∧ q_90.toInt ≤ nen.toInt from by exact ⟨by omega, by omega⟩), (show ((1 : Int32).toInt = 1 → (zItem (zMF gce nba.toInt) nen.toInt npl.toInt nte.toInt npu.toInt).1 = -1 ∧ q_90.toInt = (zItem (zMF gce nba.toInt) nen.toInt npl.toInt nte.toInt npu.toInt).2.1 ∧ nte.toInt = (zItem (zMF gce nba.toInt) nen.toInt npl.toInt nte.toInt npu.toInt).2.2.1 ∧ npu.toInt = (zItem (zMF gce nba.toInt) nen.toInt npl.toInt nte.toInt npu.toInt).2.2.2) ∧ ((1 : Int32).toInt = 0 → (zItem (zMF gce nba.toInt) nen.toInt npl.toInt nte.toInt npu.toInt).1 = q_92.toInt ∧ 0 ≤ q_92.toInt) from by (have k9 : (1 : Int32).toInt = 1 := (by decide); rw [zItem_w hW1 (by decide) hp8 rfl hI]; dsimp only; exact ⟨fun _ => ⟨rfl, by first | rfl | omega, by (show _ = (if (2 : Int) = 0 then _ else _); rw [if_neg (by decide)]), by (show _ = (if (2 : Int) = 3 then _ else _); rw [if_neg (by decide)])⟩, fun h => absurd h (by decide)⟩)), ⟨by decide, by decide⟩⟩, zRet ht hP hD [9, 8, 0, 10, 1, 2, 3, 4, 5, 6, 7] (by decide) rfl⟩, hS.F ht⟩) hS.2.2 dX8_item_325
                            · exact absurd c_101 (by decide)
                          · have fc_99 : r_96.toInt = 0 := zf_eq c_99 rfl (by decide)
                            obtain ⟨hy1_1, hy2_1, hy3_1⟩ := hsr_88_2.1 (by omega)
                            have hn1 : zN1 (zMF gce nba.toInt) nen.toInt (q_66 : Int32).toInt (zLo 2 1) (zHi 2 1 nte.toInt) = ((x_87 : Int32).toInt, (q_90 : Int32).toInt, (q_91 : Int32).toInt) := zN1_yes (p1 := (x_87 : Int32).toInt) (lo2 := 0) (hi2 := (9 : Int)) ⟨by omega, by (rw [zMF_at (by omega), ← hdx_85]; omega)⟩ (by omega) hy1_1 hy2_1 (by decide) (by first | rfl | decide | (show nte.toInt - 1 = _; omega) | (show nte.toInt = _; omega)) (by omega)
                            refine lv_aload_n hx hb dX8_item_127 rfl (lv_at hl 3 rfl) ?_
                            refine lv_iload_n hx hb dX8_item_128 rfl (lv_at hl 0 rfl) ?_
                            skip
                            refine zw_V (As := [.int x_87]) (rest := []) (wr := [(mnu, .inl (cI, 10, .inl gnu)), (mki, .inl (cI, 8, .inl gki)), (mpa, .inl (cI, 8, .inl gpa)), (mta, .inl (cI, 8, .inl gta)), (mla, .inl (cI, 40, .inl gla)), (msl, .inl (cI, 40, .inl gsl)), (mco, .inl (cI, 3, .inl gco)), (mte, .inl (cI, 3, .inl (upd gte (0 : Int32).toNatClampNeg q_67))), (mwo, .inl (cI, 64, .inl gwo)), (mce, .inl (cJ, 1280, .inr (.inl gce)))]) ⟨hx, hb, hml, hown, hts⟩ (c_F_M_wrong l D cI cJ cZ cP cS po m0 mrf mki mpa mta mla msl mco mhe mso msi msh mce mca mwo mnu mte mwa mke mma mth mtr (npu) (nte) (nat_) (nde) (nto) (nse) (nhu) (nga) (nsd) (nfa) (nba) (q_90) (nen) (q_91) (q_92) (nra) (nik) (x_87) hy0 hy1 hy2 hy3 hy4 hy5 hy6 hy7 hy8 hy9 hy10 hy11 hy12 hy13 H.size) (cwV 1 hts gX8_item_X8_wrong rfl rfl rfl ⟨rfl, dh_X8_wrong⟩ ⟨Nat.le_of_ble_eq_true rfl, Nat.le_of_ble_eq_true rfl⟩) hK hN (hZ.kept hS) hP hD hS hA [9] [0, 1, 2, 3, 4, 5, 6, 7, 8, 10] rfl rfl (by decide) (by decide) (by decide) (va_recv (q := (RX8, TX8, 38)) hK hP (ci := 8) (q0 := 9) rfl rfl) rfl hl.1 rfl (Nat.le_of_ble_eq_true rfl) dX8_item_129 ⟨Nat.le_of_ble_eq_true rfl, Nat.le_of_ble_eq_true rfl⟩ (fun r_105 u_106 H locs hr_105 hP hD hS => ?_)
                            obtain ⟨q_107, rfl⟩ : ∃ z, z = u_106 := ⟨_, rfl⟩
                            obtain ⟨hsr_105_0, hr_105⟩ := hr_105
                            have h9R := zRe (ws' := [(mnu, .inl (cI, 10, .inl gnu)), (mki, .inl (cI, 8, .inl gki)), (mpa, .inl (cI, 8, .inl gpa)), (mta, .inl (cI, 8, .inl gta)), (mla, .inl (cI, 40, .inl gla)), (msl, .inl (cI, 40, .inl gsl)), (mco, .inl (cI, 3, .inl gco)), (mte, .inl (cI, 3, .inl (upd gte (0 : Int32).toNatClampNeg q_67))), (mwo, .inl (cI, 64, .inl gwo)), (mce, .inl (cJ, 1280, .inr (.inl gce))), (zMO m0 npu nte nat_ nde nto nse nhu nga nsd nfa mrf mki mpa mta mla msl mco mhe mso msi msh mce mca mwo mnu mte nba q_90 nen q_91 q_107 mwa mke mma mth mtr nra nik)]) hP hD rfl
                            clear hP hD
                            obtain ⟨hP, hD⟩ := h9R
                            obtain rfl := hr_105
                            have hI := zIn_b hn0 (by decide) hn1 (by first | (right; decide) | (left; omega))
                            exact W.zret (v := 0) hx hb hr (by decide) (fun t ht hW => ⟨⟨0, (npu, nte, nat_, nde, nse, nhu, nga, gki, gpa, gta, gla, gsl, gco, (upd gte (0 : Int32).toNatClampNeg q_67), q_90, q_91, q_107), rfl, ⟨(show 0 ≤ npu.toInt ∧ npu.toInt ≤ 8 from ⟨hy0, hy1⟩), (show 4 ≤ nte.toInt ∧ nte.toInt ≤ 40 from ⟨hy2, hy3⟩), (show 0 ≤ nat_.toInt ∧ nat_.toInt ≤ 40 from ⟨hy4, hy5⟩), (show 0 ≤ nde.toInt ∧ nde.toInt ≤ 24 from ⟨hy6, hy7⟩), (show 0 ≤ nhu.toInt ∧ nhu.toInt ≤ 9 from ⟨hy8, hy9⟩), hp_gki, hp_gpa, hp_gta, hp_gla, hp_gsl, hp_gco, (show 0 ≤ q_90.toInt ∧ q_90.toInt ≤ 160 from hbq_90), (show npl.toInt ≤ q_90.toInt ∧ q_90.toInt ≤ nen.toInt from by exact ⟨by omega, by omega⟩), (show ((0 : Int32).toInt = 1 → (zItem (zMF gce nba.toInt) nen.toInt npl.toInt nte.toInt npu.toInt).1 = -1 ∧ q_90.toInt = (zItem (zMF gce nba.toInt) nen.toInt npl.toInt nte.toInt npu.toInt).2.1 ∧ nte.toInt = (zItem (zMF gce nba.toInt) nen.toInt npl.toInt nte.toInt npu.toInt).2.2.1 ∧ npu.toInt = (zItem (zMF gce nba.toInt) nen.toInt npl.toInt nte.toInt npu.toInt).2.2.2) ∧ ((0 : Int32).toInt = 0 → (zItem (zMF gce nba.toInt) nen.toInt npl.toInt nte.toInt npu.toInt).1 = q_107.toInt ∧ 0 ≤ q_107.toInt) from by (have k9 : (0 : Int32).toInt = 0 := (by decide); rw [zItem_w hW1 (by decide) hp8 rfl hI]; dsimp only; exact ⟨fun h => absurd h (by decide), fun _ => ⟨by first | rfl | (show _ = _; omega), by omega⟩⟩)), ⟨by decide, by decide⟩⟩, zRet ht hP hD [10, 8, 0, 9, 1, 2, 3, 4, 5, 6, 7] (by decide) rfl⟩, hS.F ht⟩) hS.2.2 dX8_item_132
                        · have fc_95 : r_88.toInt = 0 := zf_eq c_95 rfl (by decide)
                          have hn1 : zN1 (zMF gce nba.toInt) nen.toInt (q_66 : Int32).toInt (zLo 2 1) (zHi 2 1 nte.toInt) = ((x_87 : Int32).toInt, (x_87 : Int32).toInt, 0) := zN1_yes (p1 := (x_87 : Int32).toInt) (lo2 := 0) (hi2 := (9 : Int)) ⟨by omega, by (rw [zMF_at (by omega), ← hdx_85]; omega)⟩ (by omega) (hsr_88_2.2 (by omega)).1.symm zNv_0.symm (by decide) (by first | rfl | decide | (show nte.toInt - 1 = _; omega) | (show nte.toInt = _; omega)) (Or.inl ⟨rfl, Or.inl rfl⟩)
                          refine lv_iconst (v := 0) hx hb dX8_item_116 (by decide) ?_
                          have hI := zIn_b hn0 (by decide) hn1 (by first | (right; decide) | (left; omega))
                          exact W.zret (v := 0) hx hb hr (by decide) (fun t ht hW => ⟨⟨0, (npu, nte, nat_, nde, nse, nhu, nga, gki, gpa, gta, gla, gsl, gco, (upd gte (0 : Int32).toNatClampNeg q_67), q_90, q_91, q_92), rfl, ⟨(show 0 ≤ npu.toInt ∧ npu.toInt ≤ 8 from ⟨hy0, hy1⟩), (show 4 ≤ nte.toInt ∧ nte.toInt ≤ 40 from ⟨hy2, hy3⟩), (show 0 ≤ nat_.toInt ∧ nat_.toInt ≤ 40 from ⟨hy4, hy5⟩), (show 0 ≤ nde.toInt ∧ nde.toInt ≤ 24 from ⟨hy6, hy7⟩), (show 0 ≤ nhu.toInt ∧ nhu.toInt ≤ 9 from ⟨hy8, hy9⟩), hp_gki, hp_gpa, hp_gta, hp_gla, hp_gsl, hp_gco, (show 0 ≤ q_90.toInt ∧ q_90.toInt ≤ 160 from hbq_90), (show npl.toInt ≤ q_90.toInt ∧ q_90.toInt ≤ nen.toInt from by exact ⟨by omega, by omega⟩), (show ((0 : Int32).toInt = 1 → (zItem (zMF gce nba.toInt) nen.toInt npl.toInt nte.toInt npu.toInt).1 = -1 ∧ q_90.toInt = (zItem (zMF gce nba.toInt) nen.toInt npl.toInt nte.toInt npu.toInt).2.1 ∧ nte.toInt = (zItem (zMF gce nba.toInt) nen.toInt npl.toInt nte.toInt npu.toInt).2.2.1 ∧ npu.toInt = (zItem (zMF gce nba.toInt) nen.toInt npl.toInt nte.toInt npu.toInt).2.2.2) ∧ ((0 : Int32).toInt = 0 → (zItem (zMF gce nba.toInt) nen.toInt npl.toInt nte.toInt npu.toInt).1 = q_92.toInt ∧ 0 ≤ q_92.toInt) from by (have k9 : (0 : Int32).toInt = 0 := (by decide); rw [zItem_w hW1 (by decide) hp8 rfl hI]; dsimp only; exact ⟨fun h => absurd h (by decide), fun _ => ⟨by first | rfl | (show _ = _; omega), by omega⟩⟩)), ⟨by decide, by decide⟩⟩, zRet ht hP hD [9, 8, 0, 10, 1, 2, 3, 4, 5, 6, 7] (by decide) rfl⟩, hS.F ht⟩) hS.2.2 dX8_item_117
                      · have fc_86 : x_85.toInt ≠ 32 := zf_ne c_86 rfl (by decide)
                        have hn1 : zN1 (zMF gce nba.toInt) nen.toInt (q_66 : Int32).toInt (zLo 2 1) (zHi 2 1 nte.toInt) = ((q_66 : Int32).toInt, (q_66 : Int32).toInt, 0) := zN1_no (by first | (intro z; have z1 := z.1; omega) | (intro z; have z2 := z.2; rw [zMF_at (by omega), ← hdx_85] at z2; omega))
                        refine lv_aload_n hx hb dX8_item_85 rfl (lv_at hl 3 rfl) ?_
                        refine lv_aload_n hx hb dX8_item_86 rfl (lv_at hl 3 rfl) ?_
                        refine va_get (D := D) (ci := 8) (v := .int q_66) (C := RX8) (T := TX8) (N := 38) hx hb hts hi_X8_item_8 hown hK hP 9 rfl rfl 27 (by decide) (hts (.fieldLink RX8 152 "TheLiningsInItModel" "place" "I") (List.mem_of_getElem? (i := 2) rfl)) (fun _ h9 => h9) rfl dX8_item_87 ?_
                        skip
                        refine zw_V (As := [.int q_66]) (rest := []) (wr := [(mnu, .inl (cI, 10, .inl gnu)), (mki, .inl (cI, 8, .inl gki)), (mpa, .inl (cI, 8, .inl gpa)), (mta, .inl (cI, 8, .inl gta)), (mla, .inl (cI, 40, .inl gla)), (msl, .inl (cI, 40, .inl gsl)), (mco, .inl (cI, 3, .inl gco)), (mte, .inl (cI, 3, .inl (upd gte (0 : Int32).toNatClampNeg q_67))), (mwo, .inl (cI, 64, .inl gwo)), (mce, .inl (cJ, 1280, .inr (.inl gce)))]) ⟨hx, hb, hml, hown, hts⟩ (c_F_M_wrong l D cI cJ cZ cP cS po m0 mrf mki mpa mta mla msl mco mhe mso msi msh mce mca mwo mnu mte mwa mke mma mth mtr (npu) (nte) (nat_) (nde) (nto) (nse) (nhu) (nga) (nsd) (nfa) (nba) (q_66) (nen) (q_67) (q_68) (nra) (nik) (q_66) hy0 hy1 hy2 hy3 hy4 hy5 hy6 hy7 hy8 hy9 hy10 hy11 hy12 hy13 H.size) (cwV 1 hts gX8_item_X8_wrong rfl rfl rfl ⟨rfl, dh_X8_wrong⟩ ⟨Nat.le_of_ble_eq_true rfl, Nat.le_of_ble_eq_true rfl⟩) hK hN (hZ.kept hS) hP hD hS hA [9] [0, 1, 2, 3, 4, 5, 6, 7, 8, 10] rfl rfl (by decide) (by decide) (by decide) (va_recv (q := (RX8, TX8, 38)) hK hP (ci := 8) (q0 := 9) rfl rfl) rfl hl.1 rfl (Nat.le_of_ble_eq_true rfl) dX8_item_90 ⟨Nat.le_of_ble_eq_true rfl, Nat.le_of_ble_eq_true rfl⟩ (fun r_108 u_109 H locs hr_108 hP hD hS => ?_)
                        obtain ⟨q_110, rfl⟩ : ∃ z, z = u_109 := ⟨_, rfl⟩
                        obtain ⟨hsr_108_0, hr_108⟩ := hr_108
                        have h9R := zRe (ws' := [(mnu, .inl (cI, 10, .inl gnu)), (mki, .inl (cI, 8, .inl gki)), (mpa, .inl (cI, 8, .inl gpa)), (mta, .inl (cI, 8, .inl gta)), (mla, .inl (cI, 40, .inl gla)), (msl, .inl (cI, 40, .inl gsl)), (mco, .inl (cI, 3, .inl gco)), (mte, .inl (cI, 3, .inl (upd gte (0 : Int32).toNatClampNeg q_67))), (mwo, .inl (cI, 64, .inl gwo)), (mce, .inl (cJ, 1280, .inr (.inl gce))), (zMO m0 npu nte nat_ nde nto nse nhu nga nsd nfa mrf mki mpa mta mla msl mco mhe mso msi msh mce mca mwo mnu mte nba q_66 nen q_67 q_110 mwa mke mma mth mtr nra nik)]) hP hD rfl
                        clear hP hD
                        obtain ⟨hP, hD⟩ := h9R
                        obtain rfl := hr_108
                        have hI := zIn_b hn0 (by decide) hn1 (by first | (right; decide) | (left; omega))
                        exact W.zret (v := 0) hx hb hr (by decide) (fun t ht hW => ⟨⟨0, (npu, nte, nat_, nde, nse, nhu, nga, gki, gpa, gta, gla, gsl, gco, (upd gte (0 : Int32).toNatClampNeg q_67), q_66, q_67, q_110), rfl, ⟨(show 0 ≤ npu.toInt ∧ npu.toInt ≤ 8 from ⟨hy0, hy1⟩), (show 4 ≤ nte.toInt ∧ nte.toInt ≤ 40 from ⟨hy2, hy3⟩), (show 0 ≤ nat_.toInt ∧ nat_.toInt ≤ 40 from ⟨hy4, hy5⟩), (show 0 ≤ nde.toInt ∧ nde.toInt ≤ 24 from ⟨hy6, hy7⟩), (show 0 ≤ nhu.toInt ∧ nhu.toInt ≤ 9 from ⟨hy8, hy9⟩), hp_gki, hp_gpa, hp_gta, hp_gla, hp_gsl, hp_gco, (show 0 ≤ q_66.toInt ∧ q_66.toInt ≤ 160 from hbq_66), (show npl.toInt ≤ q_66.toInt ∧ q_66.toInt ≤ nen.toInt from by exact ⟨by omega, by omega⟩), (show ((0 : Int32).toInt = 1 → (zItem (zMF gce nba.toInt) nen.toInt npl.toInt nte.toInt npu.toInt).1 = -1 ∧ q_66.toInt = (zItem (zMF gce nba.toInt) nen.toInt npl.toInt nte.toInt npu.toInt).2.1 ∧ nte.toInt = (zItem (zMF gce nba.toInt) nen.toInt npl.toInt nte.toInt npu.toInt).2.2.1 ∧ npu.toInt = (zItem (zMF gce nba.toInt) nen.toInt npl.toInt nte.toInt npu.toInt).2.2.2) ∧ ((0 : Int32).toInt = 0 → (zItem (zMF gce nba.toInt) nen.toInt npl.toInt nte.toInt npu.toInt).1 = q_110.toInt ∧ 0 ≤ q_110.toInt) from by (have k9 : (0 : Int32).toInt = 0 := (by decide); rw [zItem_w hW1 (by decide) hp8 rfl hI]; dsimp only; exact ⟨fun h => absurd h (by decide), fun _ => ⟨by first | rfl | (show _ = _; omega), by omega⟩⟩)), ⟨by decide, by decide⟩⟩, zRet ht hP hD [10, 8, 0, 9, 1, 2, 3, 4, 5, 6, 7] (by decide) rfl⟩, hS.F ht⟩) hS.2.2 dX8_item_93
              · have fc_75 : r_72.toInt = 0 := zf_eq c_75 rfl (by decide)
                obtain ⟨hy1_0, hy2_0, hy3_0⟩ := hsr_64_2.1 (by omega)
                have hn0 : zN1 (zMF gce nba.toInt) nen.toInt (npl.toInt + ((zWds ((2 : Int)).toNat).length : Int)) (zLo 2 0) (zHi 2 0 nte.toInt) = ((q_7 : Int32).toInt, (q_66 : Int32).toInt, (q_67 : Int32).toInt) := zN1_yes (p1 := (q_7 : Int32).toInt) (lo2 := 0) (hi2 := (nte.toInt - 1 : Int)) ⟨hW2, hW3⟩ (by omega) hy1_0 hy2_0 (by decide) (by first | rfl | decide | (show nte.toInt - 1 = _; omega) | (show nte.toInt = _; omega)) (by omega)
                refine lv_aload_n hx hb dX8_item_127 rfl (lv_at hl 3 rfl) ?_
                refine lv_iload_n hx hb dX8_item_128 rfl (lv_at hl 0 rfl) ?_
                skip
                refine zw_V (As := [.int q_7]) (rest := []) (wr := [(mnu, .inl (cI, 10, .inl gnu)), (mki, .inl (cI, 8, .inl gki)), (mpa, .inl (cI, 8, .inl gpa)), (mta, .inl (cI, 8, .inl gta)), (mla, .inl (cI, 40, .inl gla)), (msl, .inl (cI, 40, .inl gsl)), (mco, .inl (cI, 3, .inl gco)), (mte, .inl (cI, 3, .inl gte)), (mwo, .inl (cI, 64, .inl gwo)), (mce, .inl (cJ, 1280, .inr (.inl gce)))]) ⟨hx, hb, hml, hown, hts⟩ (c_F_M_wrong l D cI cJ cZ cP cS po m0 mrf mki mpa mta mla msl mco mhe mso msi msh mce mca mwo mnu mte mwa mke mma mth mtr (npu) (nte) (nat_) (nde) (nto) (nse) (nhu) (nga) (nsd) (nfa) (nba) (q_66) (nen) (q_67) (q_68) (nra) (nik) (q_7) hy0 hy1 hy2 hy3 hy4 hy5 hy6 hy7 hy8 hy9 hy10 hy11 hy12 hy13 H.size) (cwV 1 hts gX8_item_X8_wrong rfl rfl rfl ⟨rfl, dh_X8_wrong⟩ ⟨Nat.le_of_ble_eq_true rfl, Nat.le_of_ble_eq_true rfl⟩) hK hN (hZ.kept hS) hP hD hS hA [9] [0, 1, 2, 3, 4, 5, 6, 7, 8, 10] rfl rfl (by decide) (by decide) (by decide) (va_recv (q := (RX8, TX8, 38)) hK hP (ci := 8) (q0 := 9) rfl rfl) rfl hl.1 rfl (Nat.le_of_ble_eq_true rfl) dX8_item_129 ⟨Nat.le_of_ble_eq_true rfl, Nat.le_of_ble_eq_true rfl⟩ (fun r_111 u_112 H locs hr_111 hP hD hS => ?_)
                obtain ⟨q_113, rfl⟩ : ∃ z, z = u_112 := ⟨_, rfl⟩
                obtain ⟨hsr_111_0, hr_111⟩ := hr_111
                have h9R := zRe (ws' := [(mnu, .inl (cI, 10, .inl gnu)), (mki, .inl (cI, 8, .inl gki)), (mpa, .inl (cI, 8, .inl gpa)), (mta, .inl (cI, 8, .inl gta)), (mla, .inl (cI, 40, .inl gla)), (msl, .inl (cI, 40, .inl gsl)), (mco, .inl (cI, 3, .inl gco)), (mte, .inl (cI, 3, .inl gte)), (mwo, .inl (cI, 64, .inl gwo)), (mce, .inl (cJ, 1280, .inr (.inl gce))), (zMO m0 npu nte nat_ nde nto nse nhu nga nsd nfa mrf mki mpa mta mla msl mco mhe mso msi msh mce mca mwo mnu mte nba q_66 nen q_67 q_113 mwa mke mma mth mtr nra nik)]) hP hD rfl
                clear hP hD
                obtain ⟨hP, hD⟩ := h9R
                obtain rfl := hr_111
                have hI := zIn_a hn0 (by first | (right; decide) | (left; omega))
                exact W.zret (v := 0) hx hb hr (by decide) (fun t ht hW => ⟨⟨0, (npu, nte, nat_, nde, nse, nhu, nga, gki, gpa, gta, gla, gsl, gco, gte, q_66, q_67, q_113), rfl, ⟨(show 0 ≤ npu.toInt ∧ npu.toInt ≤ 8 from ⟨hy0, hy1⟩), (show 4 ≤ nte.toInt ∧ nte.toInt ≤ 40 from ⟨hy2, hy3⟩), (show 0 ≤ nat_.toInt ∧ nat_.toInt ≤ 40 from ⟨hy4, hy5⟩), (show 0 ≤ nde.toInt ∧ nde.toInt ≤ 24 from ⟨hy6, hy7⟩), (show 0 ≤ nhu.toInt ∧ nhu.toInt ≤ 9 from ⟨hy8, hy9⟩), hp_gki, hp_gpa, hp_gta, hp_gla, hp_gsl, hp_gco, (show 0 ≤ q_66.toInt ∧ q_66.toInt ≤ 160 from hbq_66), (show npl.toInt ≤ q_66.toInt ∧ q_66.toInt ≤ nen.toInt from by exact ⟨by omega, by omega⟩), (show ((0 : Int32).toInt = 1 → (zItem (zMF gce nba.toInt) nen.toInt npl.toInt nte.toInt npu.toInt).1 = -1 ∧ q_66.toInt = (zItem (zMF gce nba.toInt) nen.toInt npl.toInt nte.toInt npu.toInt).2.1 ∧ nte.toInt = (zItem (zMF gce nba.toInt) nen.toInt npl.toInt nte.toInt npu.toInt).2.2.1 ∧ npu.toInt = (zItem (zMF gce nba.toInt) nen.toInt npl.toInt nte.toInt npu.toInt).2.2.2) ∧ ((0 : Int32).toInt = 0 → (zItem (zMF gce nba.toInt) nen.toInt npl.toInt nte.toInt npu.toInt).1 = q_113.toInt ∧ 0 ≤ q_113.toInt) from by (have k9 : (0 : Int32).toInt = 0 := (by decide); rw [zItem_w hW1 (by decide) hp8 rfl hI]; dsimp only; exact ⟨fun h => absurd h (by decide), fun _ => ⟨by first | rfl | (show _ = _; omega), by omega⟩⟩)), ⟨by decide, by decide⟩⟩, zRet ht hP hD [10, 8, 0, 9, 1, 2, 3, 4, 5, 6, 7] (by decide) rfl⟩, hS.F ht⟩) hS.2.2 dX8_item_132
            · have fc_71 : r_64.toInt = 0 := zf_eq c_71 rfl (by decide)
              have hn0 : zN1 (zMF gce nba.toInt) nen.toInt (npl.toInt + ((zWds ((2 : Int)).toNat).length : Int)) (zLo 2 0) (zHi 2 0 nte.toInt) = ((q_7 : Int32).toInt, (q_7 : Int32).toInt, 0) := zN1_yes (p1 := (q_7 : Int32).toInt) (lo2 := 0) (hi2 := (nte.toInt - 1 : Int)) ⟨hW2, hW3⟩ (by omega) (hsr_64_2.2 (by omega)).1.symm zNv_0.symm (by decide) (by first | rfl | decide | (show nte.toInt - 1 = _; omega) | (show nte.toInt = _; omega)) (Or.inl ⟨rfl, Or.inl rfl⟩)
              refine lv_iconst (v := 0) hx hb dX8_item_116 (by decide) ?_
              have hI := zIn_a hn0 (by first | (right; decide) | (left; omega))
              exact W.zret (v := 0) hx hb hr (by decide) (fun t ht hW => ⟨⟨0, (npu, nte, nat_, nde, nse, nhu, nga, gki, gpa, gta, gla, gsl, gco, gte, q_66, q_67, q_68), rfl, ⟨(show 0 ≤ npu.toInt ∧ npu.toInt ≤ 8 from ⟨hy0, hy1⟩), (show 4 ≤ nte.toInt ∧ nte.toInt ≤ 40 from ⟨hy2, hy3⟩), (show 0 ≤ nat_.toInt ∧ nat_.toInt ≤ 40 from ⟨hy4, hy5⟩), (show 0 ≤ nde.toInt ∧ nde.toInt ≤ 24 from ⟨hy6, hy7⟩), (show 0 ≤ nhu.toInt ∧ nhu.toInt ≤ 9 from ⟨hy8, hy9⟩), hp_gki, hp_gpa, hp_gta, hp_gla, hp_gsl, hp_gco, (show 0 ≤ q_66.toInt ∧ q_66.toInt ≤ 160 from hbq_66), (show npl.toInt ≤ q_66.toInt ∧ q_66.toInt ≤ nen.toInt from by exact ⟨by omega, by omega⟩), (show ((0 : Int32).toInt = 1 → (zItem (zMF gce nba.toInt) nen.toInt npl.toInt nte.toInt npu.toInt).1 = -1 ∧ q_66.toInt = (zItem (zMF gce nba.toInt) nen.toInt npl.toInt nte.toInt npu.toInt).2.1 ∧ nte.toInt = (zItem (zMF gce nba.toInt) nen.toInt npl.toInt nte.toInt npu.toInt).2.2.1 ∧ npu.toInt = (zItem (zMF gce nba.toInt) nen.toInt npl.toInt nte.toInt npu.toInt).2.2.2) ∧ ((0 : Int32).toInt = 0 → (zItem (zMF gce nba.toInt) nen.toInt npl.toInt nte.toInt npu.toInt).1 = q_68.toInt ∧ 0 ≤ q_68.toInt) from by (have k9 : (0 : Int32).toInt = 0 := (by decide); rw [zItem_w hW1 (by decide) hp8 rfl hI]; dsimp only; exact ⟨fun h => absurd h (by decide), fun _ => ⟨by first | rfl | (show _ = _; omega), by omega⟩⟩)), ⟨by decide, by decide⟩⟩, zRet ht hP hD [9, 8, 0, 10, 1, 2, 3, 4, 5, 6, 7] (by decide) rfl⟩, hS.F ht⟩) hS.2.2 dX8_item_117
          · exact absurd c_63 (by decide)
      · have kc3 : (3 : Int32).toInt = 3 := by decide
        have z9 := hsr_5_1
        rw [kc3] at z9
        obtain ⟨hW1, hW2, hW3, hW4⟩ := zItem_Mw (f := (zMF gce nba.toInt)) (e := nen.toInt) (p := npl.toInt) (w := 3) (by omega) (by decide)
        have hp8 : ¬ ((3 : Int) = 3 ∧ npu.toInt = 8) := fun z => by (have h5 := (zPul_iff (g := gce) (b := nba.toInt) (e := nen.toInt) (pl := npl.toInt) (by omega)).mp ((zFst_w (f := (zMF gce nba.toInt)) (e := nen.toInt) (p := npl.toInt) (w := 3) (by decide) (by first | exact hW1 | (rw [hW1]; rfl))).trans (by decide)); first | exact absurd h5 (hsr_1_0.1 (by omega)) | omega)
        have hp7 : npu.toInt ≤ 7 := by omega
        refine lv_iconst (v := 0) hx hb dX8_item_38 (by decide) ?_
        refine lv_istore_n (lv' := [(2, .int 0), (1, .int 3), (0, .ref m0)]) hx hb dX8_item_39 rfl hl (by decide) rfl (fun ls hl => ?_)
        refine lv_iload_n hx hb dX8_item_40 rfl (lv_at hl 0 rfl) ?_
        refine lv_aload_n hx hb dX8_item_41 rfl (lv_at hl 2 rfl) ?_
        refine va_get (D := D) (ci := 8) (v := .ref mnu) (C := RX8) (T := TX8) (N := 38) hx hb hts hi_X8_item_8 hown hK hP 8 rfl rfl 24 (by decide) (hts (.fieldLink RX8 69 "TheLiningsInItModel" "numbers" "[I") (List.mem_of_getElem? (i := 3) rfl)) (fun _ h9 => h9) rfl dX8_item_42 ?_
        refine lv_iload_n hx hb dX8_item_45 rfl (lv_at hl 1 rfl) ?_
        refine va_iald hx hb hK hP 0 0 rfl rfl (zf_in (by decide) (by decide)) dX8_item_46 ?_
        refine lv_topi (fun x_114 ex_114 => ?_)
        obtain rfl : x_114 = 3 := ex_114.trans ((congrArg gnu (show (3 : Int32).toNatClampNeg = 3 from by decide)).trans ((hnu 3 (by decide)).trans (by decide)))
        refine lv_icmp_ge (tgt := 149) hx hb dX8_item_47 (by decide) (fun c_115 => ?_) (fun c_115 => ?_)
        · exact absurd c_115 (by decide)
        · refine lv_iload_n hx hb dX8_item_50 rfl (lv_at hl 0 rfl) ?_
          refine lv_if_le (tgt := 104) hx hb dX8_item_51 (by decide) (fun c_116 => ?_) (fun c_116 => ?_)
          · refine lv_aload_n hx hb dX8_item_104 rfl (lv_at hl 2 rfl) ?_
            refine va_get (D := D) (ci := 8) (v := .int q_7) (C := RX8) (T := TX8) (N := 38) hx hb hts hi_X8_item_8 hown hK hP 8 rfl rfl 27 (by decide) (hts (.fieldLink RX8 152 "TheLiningsInItModel" "place" "I") (List.mem_of_getElem? (i := 2) rfl)) (fun _ h9 => h9) rfl dX8_item_105 ?_
            refine lv_istore_n (lv' := [(3, .int q_7), (2, .int 0), (1, .int 3), (0, .ref m0)]) hx hb dX8_item_108 rfl hl (by decide) rfl (fun ls hl => ?_)
            refine lv_aload_n hx hb dX8_item_109 rfl (lv_at hl 3 rfl) ?_
            skip
            refine zw_V (As := []) (rest := []) (wr := [(mnu, .inl (cI, 10, .inl gnu)), (mki, .inl (cI, 8, .inl gki)), (mpa, .inl (cI, 8, .inl gpa)), (mta, .inl (cI, 8, .inl gta)), (mla, .inl (cI, 40, .inl gla)), (msl, .inl (cI, 40, .inl gsl)), (mco, .inl (cI, 3, .inl gco)), (mte, .inl (cI, 3, .inl gte)), (mwo, .inl (cI, 64, .inl gwo))]) ⟨hx, hb, hml, hown, hts⟩ (c_F_M_reads l D cI cJ cZ cP cS po m0 mrf mki mpa mta mla msl mco mhe mso msi msh mce mca mwo mnu mte mwa mke mma mth mtr (npu) (nte) (nat_) (nde) (nto) (nse) (nhu) (nga) (nsd) (nfa) (nba) (q_7) (nen) (nnu) (q_8) (nra) (nik) gce hy0 hy1 hy2 hy3 hy4 hy5 hy6 hy7 hy8 hy9 hy10 hy11 hy12 hy13 hy14 hy15 hbq_7.1 hbq_7.2 hy18 hy19 (by omega) H.size) (cwV 0 hts gX8_item_X8_reads rfl rfl rfl ⟨rfl, dh_X8_reads⟩ ⟨Nat.le_of_ble_eq_true rfl, Nat.le_of_ble_eq_true rfl⟩) hK hN (hZ.kept hS) hP hD hS hA [8, 10] [0, 1, 2, 3, 4, 5, 6, 7, 9] rfl rfl (by decide) (by decide) (by decide) (va_recv (q := (RX8, TX8, 38)) hK hP (ci := 8) (q0 := 8) rfl rfl) rfl hl.1 rfl (Nat.le_of_ble_eq_true rfl) dX8_item_110 ⟨Nat.le_of_ble_eq_true rfl, Nat.le_of_ble_eq_true rfl⟩ (fun r_117 u_118 H locs hr_117 hP hD hS => ?_)
            obtain ⟨q_119, q_120, q_121⟩ := u_118
            try dsimp only at hr_117
            obtain ⟨hbq_119, hsr_117_0, hsr_117_1, hsr_117_2, hr_117⟩ := hr_117
            have h9R := zRe (ws' := [(mnu, .inl (cI, 10, .inl gnu)), (mki, .inl (cI, 8, .inl gki)), (mpa, .inl (cI, 8, .inl gpa)), (mta, .inl (cI, 8, .inl gta)), (mla, .inl (cI, 40, .inl gla)), (msl, .inl (cI, 40, .inl gsl)), (mco, .inl (cI, 3, .inl gco)), (mte, .inl (cI, 3, .inl gte)), (mwo, .inl (cI, 64, .inl gwo)), (zMO m0 npu nte nat_ nde nto nse nhu nga nsd nfa mrf mki mpa mta mla msl mco mhe mso msi msh mce mca mwo mnu mte nba q_119 nen q_120 q_121 mwa mke mma mth mtr nra nik), (mce, .inl (cJ, 1280, .inr (.inl gce)))]) hP hD rfl
            clear hP hD
            obtain ⟨hP, hD⟩ := h9R
            obtain ⟨g_122, g_123⟩ := hr_117
            refine lv_if_ne (tgt := 118) hx hb dX8_item_113 (by decide) (fun c_124 => ?_) (fun c_124 => ?_)
            · have fc_124 : r_117.toInt ≠ 0 := zf_ne c_124 rfl (by decide)
              refine lv_aload_n hx hb dX8_item_118 rfl (lv_at hl 3 rfl) ?_
              refine lv_iload_n hx hb dX8_item_119 rfl (lv_at hl 2 rfl) ?_
              refine lv_iload_n hx hb dX8_item_120 rfl (lv_at hl 1 rfl) ?_
              refine zc_V (As := [.int 3, .int 0]) (rest := []) ⟨hx, hb, hml, hown, hts⟩ (c_F_M_isSo_3_0 l D cI cJ cZ cP cS po m0 mrf mki mpa mta mla msl mco mhe mso msi msh mce mca mwo mnu mte mwa mke mma mth mtr (npu) (nte) (nat_) (nde) (nto) (nse) (nhu) (nga) (nsd) (nfa) (nba) (q_119) (nen) (q_120) (q_121) (nra) (nik) hy0 hy1 hy2 hy3 hy4 hy5 hy6 hy7 hy8 hy9 hy10 hy11 hy12 hy13 (by omega) (by omega)) (cwV 2 hts gX8_item_X8_isSo rfl rfl rfl ⟨rfl, dh_X8_isSo⟩ ⟨Nat.le_of_ble_eq_true rfl, Nat.le_of_ble_eq_true rfl⟩) hK hN (hZ.kept hS) hP (hP.sub [9] rfl) (va_recv (q := (RX8, TX8, 38)) hK hP (ci := 8) (q0 := 9) rfl rfl) rfl hl.1 rfl (Nat.le_of_ble_eq_true rfl) dX8_item_121 ⟨Nat.le_of_ble_eq_true rfl, Nat.le_of_ble_eq_true rfl⟩ (fun r_125 hr_125 => ?_)
              obtain ⟨g_126, g_127, hsr_125_0⟩ := hr_125
              refine lv_if_ne (tgt := 133) hx hb dX8_item_124 (by decide) (fun c_128 => ?_) (fun c_128 => ?_)
              · have fc_128 : r_125.toInt ≠ 0 := zf_ne c_128 rfl (by decide)
                obtain ⟨hy1_0, hy2_0, hy3_0⟩ := hsr_117_2.1 (by omega)
                have hn0 : zN1 (zMF gce nba.toInt) nen.toInt (npl.toInt + ((zWds ((3 : Int)).toNat).length : Int)) (zLo 3 0) (zHi 3 0 nte.toInt) = (-1, (q_119 : Int32).toInt, (q_120 : Int32).toInt) := zN1_yes (p1 := (q_7 : Int32).toInt) (lo2 := 0) (hi2 := (6 : Int)) ⟨hW2, hW3⟩ (by omega) hy1_0 hy2_0 (by decide) (by first | rfl | decide | (show nte.toInt - 1 = _; omega) | (show nte.toInt = _; omega)) (by omega)
                refine lv_aload_n hx hb dX8_item_133 rfl (lv_at hl 3 rfl) ?_
                refine va_get (D := D) (ci := 8) (v := .ref mte) (C := RX8) (T := TX8) (N := 38) hx hb hts hi_X8_item_8 hown hK hP 9 rfl rfl 25 (by decide) (hts (.fieldLink RX8 72 "TheLiningsInItModel" "tell" "[I") (List.mem_of_getElem? (i := 7) rfl)) (fun _ h9 => h9) rfl dX8_item_134 ?_
                refine lv_iload_n hx hb dX8_item_137 rfl (lv_at hl 1 rfl) ?_
                refine lv_aload_n hx hb dX8_item_138 rfl (lv_at hl 3 rfl) ?_
                refine va_get (D := D) (ci := 8) (v := .int q_120) (C := RX8) (T := TX8) (N := 38) hx hb hts hi_X8_item_8 hown hK hP 9 rfl rfl 29 (by decide) (hts (.fieldLink RX8 161 "TheLiningsInItModel" "number" "I") (List.mem_of_getElem? (i := 8) rfl)) (fun _ h9 => h9) rfl dX8_item_139 ?_
                refine va_iast hx hb hK hP hD hS 7 0 rfl rfl (zf_in (by decide) (by decide)) dX8_item_142 (fun H locs hP hD hS => ?_)
                have h9R := zRe (ws' := [(mnu, .inl (cI, 10, .inl gnu)), (mki, .inl (cI, 8, .inl gki)), (mpa, .inl (cI, 8, .inl gpa)), (mta, .inl (cI, 8, .inl gta)), (mla, .inl (cI, 40, .inl gla)), (msl, .inl (cI, 40, .inl gsl)), (mco, .inl (cI, 3, .inl gco)), (mte, .inl (cI, 3, .inl (upd gte (0 : Int32).toNatClampNeg q_120))), (mwo, .inl (cI, 64, .inl gwo)), (zMO m0 npu nte nat_ nde nto nse nhu nga nsd nfa mrf mki mpa mta mla msl mco mhe mso msi msh mce mca mwo mnu mte nba q_119 nen q_120 q_121 mwa mke mma mth mtr nra nik), (mce, .inl (cJ, 1280, .inr (.inl gce)))]) hP hD rfl
                clear hP hD
                obtain ⟨hP, hD⟩ := h9R
                refine lv_iinc (v := 1) (lv' := [(2, .int 1), (3, .int q_7), (1, .int 3), (0, .ref m0)]) hx hb dX8_item_143 hl (k := 1) rfl (by decide) (by decide) rfl (fun ls hl => ?_)
                refine lv_goto (tgt := 40) hx hb dX8_item_146 (by decide) ?_
                refine lv_iload_n hx hb dX8_item_40 rfl (lv_at hl 0 rfl) ?_
                refine lv_aload_n hx hb dX8_item_41 rfl (lv_at hl 3 rfl) ?_
                refine va_get (D := D) (ci := 8) (v := .ref mnu) (C := RX8) (T := TX8) (N := 38) hx hb hts hi_X8_item_8 hown hK hP 9 rfl rfl 24 (by decide) (hts (.fieldLink RX8 69 "TheLiningsInItModel" "numbers" "[I") (List.mem_of_getElem? (i := 3) rfl)) (fun _ h9 => h9) rfl dX8_item_42 ?_
                refine lv_iload_n hx hb dX8_item_45 rfl (lv_at hl 2 rfl) ?_
                refine va_iald hx hb hK hP 0 0 rfl rfl (zf_in (by decide) (by decide)) dX8_item_46 ?_
                refine lv_topi (fun x_129 ex_129 => ?_)
                obtain rfl : x_129 = 3 := ex_129.trans ((congrArg gnu (show (3 : Int32).toNatClampNeg = 3 from by decide)).trans ((hnu 3 (by decide)).trans (by decide)))
                refine lv_icmp_ge (tgt := 149) hx hb dX8_item_47 (by decide) (fun c_130 => ?_) (fun c_130 => ?_)
                · exact absurd c_130 (by decide)
                · refine lv_iload_n hx hb dX8_item_50 rfl (lv_at hl 0 rfl) ?_
                  refine lv_if_le (tgt := 104) hx hb dX8_item_51 (by decide) (fun c_131 => ?_) (fun c_131 => ?_)
                  · exact absurd c_131 (by decide)
                  · refine lv_aload_n hx hb dX8_item_54 rfl (lv_at hl 3 rfl) ?_
                    refine va_get (D := D) (ci := 8) (v := .int q_119) (C := RX8) (T := TX8) (N := 38) hx hb hts hi_X8_item_8 hown hK hP 9 rfl rfl 27 (by decide) (hts (.fieldLink RX8 152 "TheLiningsInItModel" "place" "I") (List.mem_of_getElem? (i := 2) rfl)) (fun _ h9 => h9) rfl dX8_item_55 ?_
                    refine lv_aload_n hx hb dX8_item_58 rfl (lv_at hl 3 rfl) ?_
                    refine va_get (D := D) (ci := 8) (v := .int nen) (C := RX8) (T := TX8) (N := 38) hx hb hts hi_X8_item_8 hown hK hP 9 rfl rfl 28 (by decide) (hts (.fieldLink RX8 155 "TheLiningsInItModel" "end" "I") (List.mem_of_getElem? (i := 4) rfl)) (fun _ h9 => h9) rfl dX8_item_59 ?_
                    refine lv_icmp_ge (tgt := 85) hx hb dX8_item_62 (by decide) (fun c_132 => ?_) (fun c_132 => ?_)
                    · have fc_132 : nen.toInt ≤ q_119.toInt := zf_le c_132 rfl rfl
                      have hn1 : zN1 (zMF gce nba.toInt) nen.toInt (q_119 : Int32).toInt (zLo 3 1) (zHi 3 1 nte.toInt) = ((q_119 : Int32).toInt, (q_119 : Int32).toInt, 0) := zN1_no (by first | (intro z; have z1 := z.1; omega))
                      refine lv_aload_n hx hb dX8_item_85 rfl (lv_at hl 3 rfl) ?_
                      refine lv_aload_n hx hb dX8_item_86 rfl (lv_at hl 3 rfl) ?_
                      refine va_get (D := D) (ci := 8) (v := .int q_119) (C := RX8) (T := TX8) (N := 38) hx hb hts hi_X8_item_8 hown hK hP 9 rfl rfl 27 (by decide) (hts (.fieldLink RX8 152 "TheLiningsInItModel" "place" "I") (List.mem_of_getElem? (i := 2) rfl)) (fun _ h9 => h9) rfl dX8_item_87 ?_
                      skip
                      refine zw_V (As := [.int q_119]) (rest := []) (wr := [(mnu, .inl (cI, 10, .inl gnu)), (mki, .inl (cI, 8, .inl gki)), (mpa, .inl (cI, 8, .inl gpa)), (mta, .inl (cI, 8, .inl gta)), (mla, .inl (cI, 40, .inl gla)), (msl, .inl (cI, 40, .inl gsl)), (mco, .inl (cI, 3, .inl gco)), (mte, .inl (cI, 3, .inl (upd gte (0 : Int32).toNatClampNeg q_120))), (mwo, .inl (cI, 64, .inl gwo)), (mce, .inl (cJ, 1280, .inr (.inl gce)))]) ⟨hx, hb, hml, hown, hts⟩ (c_F_M_wrong l D cI cJ cZ cP cS po m0 mrf mki mpa mta mla msl mco mhe mso msi msh mce mca mwo mnu mte mwa mke mma mth mtr (npu) (nte) (nat_) (nde) (nto) (nse) (nhu) (nga) (nsd) (nfa) (nba) (q_119) (nen) (q_120) (q_121) (nra) (nik) (q_119) hy0 hy1 hy2 hy3 hy4 hy5 hy6 hy7 hy8 hy9 hy10 hy11 hy12 hy13 H.size) (cwV 1 hts gX8_item_X8_wrong rfl rfl rfl ⟨rfl, dh_X8_wrong⟩ ⟨Nat.le_of_ble_eq_true rfl, Nat.le_of_ble_eq_true rfl⟩) hK hN (hZ.kept hS) hP hD hS hA [9] [0, 1, 2, 3, 4, 5, 6, 7, 8, 10] rfl rfl (by decide) (by decide) (by decide) (va_recv (q := (RX8, TX8, 38)) hK hP (ci := 8) (q0 := 9) rfl rfl) rfl hl.1 rfl (Nat.le_of_ble_eq_true rfl) dX8_item_90 ⟨Nat.le_of_ble_eq_true rfl, Nat.le_of_ble_eq_true rfl⟩ (fun r_133 u_134 H locs hr_133 hP hD hS => ?_)
                      obtain ⟨q_135, rfl⟩ : ∃ z, z = u_134 := ⟨_, rfl⟩
                      obtain ⟨hsr_133_0, hr_133⟩ := hr_133
                      have h9R := zRe (ws' := [(mnu, .inl (cI, 10, .inl gnu)), (mki, .inl (cI, 8, .inl gki)), (mpa, .inl (cI, 8, .inl gpa)), (mta, .inl (cI, 8, .inl gta)), (mla, .inl (cI, 40, .inl gla)), (msl, .inl (cI, 40, .inl gsl)), (mco, .inl (cI, 3, .inl gco)), (mte, .inl (cI, 3, .inl (upd gte (0 : Int32).toNatClampNeg q_120))), (mwo, .inl (cI, 64, .inl gwo)), (mce, .inl (cJ, 1280, .inr (.inl gce))), (zMO m0 npu nte nat_ nde nto nse nhu nga nsd nfa mrf mki mpa mta mla msl mco mhe mso msi msh mce mca mwo mnu mte nba q_119 nen q_120 q_135 mwa mke mma mth mtr nra nik)]) hP hD rfl
                      clear hP hD
                      obtain ⟨hP, hD⟩ := h9R
                      obtain rfl := hr_133
                      have hI := zIn_b hn0 (by decide) hn1 (by first | (right; decide) | (left; omega))
                      exact W.zret (v := 0) hx hb hr (by decide) (fun t ht hW => ⟨⟨0, (npu, nte, nat_, nde, nse, nhu, nga, gki, gpa, gta, gla, gsl, gco, (upd gte (0 : Int32).toNatClampNeg q_120), q_119, q_120, q_135), rfl, ⟨(show 0 ≤ npu.toInt ∧ npu.toInt ≤ 8 from ⟨hy0, hy1⟩), (show 4 ≤ nte.toInt ∧ nte.toInt ≤ 40 from ⟨hy2, hy3⟩), (show 0 ≤ nat_.toInt ∧ nat_.toInt ≤ 40 from ⟨hy4, hy5⟩), (show 0 ≤ nde.toInt ∧ nde.toInt ≤ 24 from ⟨hy6, hy7⟩), (show 0 ≤ nhu.toInt ∧ nhu.toInt ≤ 9 from ⟨hy8, hy9⟩), hp_gki, hp_gpa, hp_gta, hp_gla, hp_gsl, hp_gco, (show 0 ≤ q_119.toInt ∧ q_119.toInt ≤ 160 from hbq_119), (show npl.toInt ≤ q_119.toInt ∧ q_119.toInt ≤ nen.toInt from by exact ⟨by omega, by omega⟩), (show ((0 : Int32).toInt = 1 → (zItem (zMF gce nba.toInt) nen.toInt npl.toInt nte.toInt npu.toInt).1 = -1 ∧ q_119.toInt = (zItem (zMF gce nba.toInt) nen.toInt npl.toInt nte.toInt npu.toInt).2.1 ∧ nte.toInt = (zItem (zMF gce nba.toInt) nen.toInt npl.toInt nte.toInt npu.toInt).2.2.1 ∧ npu.toInt = (zItem (zMF gce nba.toInt) nen.toInt npl.toInt nte.toInt npu.toInt).2.2.2) ∧ ((0 : Int32).toInt = 0 → (zItem (zMF gce nba.toInt) nen.toInt npl.toInt nte.toInt npu.toInt).1 = q_135.toInt ∧ 0 ≤ q_135.toInt) from by (have k9 : (0 : Int32).toInt = 0 := (by decide); rw [zItem_w hW1 (by decide) hp8 rfl hI]; dsimp only; exact ⟨fun h => absurd h (by decide), fun _ => ⟨by first | rfl | (show _ = _; omega), by omega⟩⟩)), ⟨by decide, by decide⟩⟩, zRet ht hP hD [10, 8, 0, 9, 1, 2, 3, 4, 5, 6, 7] (by decide) rfl⟩, hS.F ht⟩) hS.2.2 dX8_item_93
                    · have fc_132 : q_119.toInt < nen.toInt := zf_nle c_132 rfl rfl
                      refine lv_aload_n hx hb dX8_item_65 rfl (lv_at hl 3 rfl) ?_
                      refine va_get (D := D) (ci := 8) (v := .ref mce) (C := RX8) (T := TX8) (N := 38) hx hb hts hi_X8_item_8 hown hK hP 9 rfl rfl 21 (by decide) (hts (.fieldLink RX8 59 "TheLiningsInItModel" "cells" "[J") (List.mem_of_getElem? (i := 5) rfl)) (fun _ h9 => h9) rfl dX8_item_66 ?_
                      refine lv_aload_n hx hb dX8_item_69 rfl (lv_at hl 3 rfl) ?_
                      refine va_get (D := D) (ci := 8) (v := .int nba) (C := RX8) (T := TX8) (N := 38) hx hb hts hi_X8_item_8 hown hK hP 9 rfl rfl 26 (by decide) (hts (.fieldLink RX8 158 "TheLiningsInItModel" "base" "I") (List.mem_of_getElem? (i := 6) rfl)) (fun _ h9 => h9) rfl dX8_item_70 ?_
                      refine lv_aload_n hx hb dX8_item_73 rfl (lv_at hl 3 rfl) ?_
                      refine va_get (D := D) (ci := 8) (v := .int q_119) (C := RX8) (T := TX8) (N := 38) hx hb hts hi_X8_item_8 hown hK hP 9 rfl rfl 27 (by decide) (hts (.fieldLink RX8 152 "TheLiningsInItModel" "place" "I") (List.mem_of_getElem? (i := 2) rfl)) (fun _ h9 => h9) rfl dX8_item_74 ?_
                      refine lv_iadd hx hb dX8_item_77 ?_
                      refine lv_topi (fun x_136 ex_136 => ?_)
                      have qx_136 : x_136.toInt = nba.toInt + q_119.toInt := by rw [ex_136]; exact zf_add rfl rfl (by omega) (by omega)
                      refine va_lald hx hb hK hP 10 1 rfl rfl (zf_in (by omega) (by omega)) dX8_item_78 ?_
                      refine lv_topl (fun x_137 ex_137 => ?_)
                      refine lv_l2i hx hb dX8_item_79 rfl ?_
                      refine lv_topi (fun x_138 ex_138 => ?_)
                      have hcx_138 : x_138 = zChX gce (nba.toInt + q_119.toInt).toNat := by rw [ex_138, ex_137]; unfold zChX; congr 2; (show x_136.toInt.toNat = _; omega)
                      have hdx_138 : x_138.toInt = (zChX gce (nba.toInt + q_119.toInt).toNat).toInt := by rw [hcx_138]
                      refine lv_bipush (v := 32) hx hb dX8_item_80 (by decide) ?_
                      refine lv_icmp_eq (tgt := 94) hx hb dX8_item_82 (by decide) (fun c_139 => ?_) (fun c_139 => ?_)
                      · have fc_139 : x_138.toInt = 32 := zf_eq c_139 rfl (by decide)
                        refine lv_aload_n hx hb dX8_item_94 rfl (lv_at hl 3 rfl) ?_
                        refine lv_dup hx hb dX8_item_95 rfl ?_
                        refine va_get (D := D) (ci := 8) (v := .int q_119) (C := RX8) (T := TX8) (N := 38) hx hb hts hi_X8_item_8 hown hK hP 9 rfl rfl 27 (by decide) (hts (.fieldLink RX8 152 "TheLiningsInItModel" "place" "I") (List.mem_of_getElem? (i := 2) rfl)) (fun _ h9 => h9) rfl dX8_item_96 ?_
                        refine lv_iconst (v := 1) hx hb dX8_item_99 (by decide) ?_
                        refine lv_iadd hx hb dX8_item_100 ?_
                        refine lv_topi (fun x_140 ex_140 => ?_)
                        have qx_140 : x_140.toInt = q_119.toInt + 1 := dw_inc ex_140 fc_132
                        refine va_put (D := D) (ci := 8) (v := .int x_140) (ty := .int) (C := RX8) (T := TX8) (N := 38) hx hb hts hi_X8_item_8 tyX8 tyX8_ok nmX8 hown hK hP hD hS 9 rfl rfl 27 (by decide) (hts (.fieldLink RX8 152 "TheLiningsInItModel" "place" "I") (List.mem_of_getElem? (i := 2) rfl)) (fun _ h9 => h9) rfl (tyX8_ok 27 (Nat.le_of_ble_eq_true rfl)) rfl rfl (Nat.le_of_ble_eq_true rfl) dX8_item_101 (fun H locs hP hD hS => ?_)
                        have h9R := zRe (ws' := [(mnu, .inl (cI, 10, .inl gnu)), (mki, .inl (cI, 8, .inl gki)), (mpa, .inl (cI, 8, .inl gpa)), (mta, .inl (cI, 8, .inl gta)), (mla, .inl (cI, 40, .inl gla)), (msl, .inl (cI, 40, .inl gsl)), (mco, .inl (cI, 3, .inl gco)), (mte, .inl (cI, 3, .inl (upd gte (0 : Int32).toNatClampNeg q_120))), (mwo, .inl (cI, 64, .inl gwo)), (zMO m0 npu nte nat_ nde nto nse nhu nga nsd nfa mrf mki mpa mta mla msl mco mhe mso msi msh mce mca mwo mnu mte nba x_140 nen q_120 q_121 mwa mke mma mth mtr nra nik), (mce, .inl (cJ, 1280, .inr (.inl gce)))]) hP hD rfl
                        clear hP hD
                        obtain ⟨hP, hD⟩ := h9R
                        refine lv_aload_n hx hb dX8_item_104 rfl (lv_at hl 3 rfl) ?_
                        refine va_get (D := D) (ci := 8) (v := .int x_140) (C := RX8) (T := TX8) (N := 38) hx hb hts hi_X8_item_8 hown hK hP 9 rfl rfl 27 (by decide) (hts (.fieldLink RX8 152 "TheLiningsInItModel" "place" "I") (List.mem_of_getElem? (i := 2) rfl)) (fun _ h9 => h9) rfl dX8_item_105 ?_
                        refine lv_istore_n (lv' := [(3, .int x_140), (2, .int 1), (1, .int 3), (0, .ref m0)]) hx hb dX8_item_108 rfl hl (by decide) rfl (fun ls hl => ?_)
                        refine lv_aload_n hx hb dX8_item_109 rfl (lv_at hl 3 rfl) ?_
                        skip
                        refine zw_V (As := []) (rest := []) (wr := [(mnu, .inl (cI, 10, .inl gnu)), (mki, .inl (cI, 8, .inl gki)), (mpa, .inl (cI, 8, .inl gpa)), (mta, .inl (cI, 8, .inl gta)), (mla, .inl (cI, 40, .inl gla)), (msl, .inl (cI, 40, .inl gsl)), (mco, .inl (cI, 3, .inl gco)), (mte, .inl (cI, 3, .inl (upd gte (0 : Int32).toNatClampNeg q_120))), (mwo, .inl (cI, 64, .inl gwo))]) ⟨hx, hb, hml, hown, hts⟩ (c_F_M_reads l D cI cJ cZ cP cS po m0 mrf mki mpa mta mla msl mco mhe mso msi msh mce mca mwo mnu mte mwa mke mma mth mtr (npu) (nte) (nat_) (nde) (nto) (nse) (nhu) (nga) (nsd) (nfa) (nba) (x_140) (nen) (q_120) (q_121) (nra) (nik) gce hy0 hy1 hy2 hy3 hy4 hy5 hy6 hy7 hy8 hy9 hy10 hy11 hy12 hy13 hy14 hy15 (by omega) (by omega) hy18 hy19 (by omega) H.size) (cwV 0 hts gX8_item_X8_reads rfl rfl rfl ⟨rfl, dh_X8_reads⟩ ⟨Nat.le_of_ble_eq_true rfl, Nat.le_of_ble_eq_true rfl⟩) hK hN (hZ.kept hS) hP hD hS hA [9, 10] [0, 1, 2, 3, 4, 5, 6, 7, 8] rfl rfl (by decide) (by decide) (by decide) (va_recv (q := (RX8, TX8, 38)) hK hP (ci := 8) (q0 := 9) rfl rfl) rfl hl.1 rfl (Nat.le_of_ble_eq_true rfl) dX8_item_110 ⟨Nat.le_of_ble_eq_true rfl, Nat.le_of_ble_eq_true rfl⟩ (fun r_141 u_142 H locs hr_141 hP hD hS => ?_)
                        obtain ⟨q_143, q_144, q_145⟩ := u_142
                        try dsimp only at hr_141
                        obtain ⟨hbq_143, hsr_141_0, hsr_141_1, hsr_141_2, hr_141⟩ := hr_141
                        have h9R := zRe (ws' := [(mnu, .inl (cI, 10, .inl gnu)), (mki, .inl (cI, 8, .inl gki)), (mpa, .inl (cI, 8, .inl gpa)), (mta, .inl (cI, 8, .inl gta)), (mla, .inl (cI, 40, .inl gla)), (msl, .inl (cI, 40, .inl gsl)), (mco, .inl (cI, 3, .inl gco)), (mte, .inl (cI, 3, .inl (upd gte (0 : Int32).toNatClampNeg q_120))), (mwo, .inl (cI, 64, .inl gwo)), (zMO m0 npu nte nat_ nde nto nse nhu nga nsd nfa mrf mki mpa mta mla msl mco mhe mso msi msh mce mca mwo mnu mte nba q_143 nen q_144 q_145 mwa mke mma mth mtr nra nik), (mce, .inl (cJ, 1280, .inr (.inl gce)))]) hP hD rfl
                        clear hP hD
                        obtain ⟨hP, hD⟩ := h9R
                        obtain ⟨g_146, g_147⟩ := hr_141
                        refine lv_if_ne (tgt := 118) hx hb dX8_item_113 (by decide) (fun c_148 => ?_) (fun c_148 => ?_)
                        · have fc_148 : r_141.toInt ≠ 0 := zf_ne c_148 rfl (by decide)
                          refine lv_aload_n hx hb dX8_item_118 rfl (lv_at hl 3 rfl) ?_
                          refine lv_iload_n hx hb dX8_item_119 rfl (lv_at hl 2 rfl) ?_
                          refine lv_iload_n hx hb dX8_item_120 rfl (lv_at hl 1 rfl) ?_
                          refine zc_V (As := [.int 3, .int 1]) (rest := []) ⟨hx, hb, hml, hown, hts⟩ (c_F_M_isSo_3_1 l D cI cJ cZ cP cS po m0 mrf mki mpa mta mla msl mco mhe mso msi msh mce mca mwo mnu mte mwa mke mma mth mtr (npu) (nte) (nat_) (nde) (nto) (nse) (nhu) (nga) (nsd) (nfa) (nba) (q_143) (nen) (q_144) (q_145) (nra) (nik) hy0 hy1 hy2 hy3 hy4 hy5 hy6 hy7 hy8 hy9 hy10 hy11 hy12 hy13 (by omega) (by omega)) (cwV 2 hts gX8_item_X8_isSo rfl rfl rfl ⟨rfl, dh_X8_isSo⟩ ⟨Nat.le_of_ble_eq_true rfl, Nat.le_of_ble_eq_true rfl⟩) hK hN (hZ.kept hS) hP (hP.sub [9] rfl) (va_recv (q := (RX8, TX8, 38)) hK hP (ci := 8) (q0 := 9) rfl rfl) rfl hl.1 rfl (Nat.le_of_ble_eq_true rfl) dX8_item_121 ⟨Nat.le_of_ble_eq_true rfl, Nat.le_of_ble_eq_true rfl⟩ (fun r_149 hr_149 => ?_)
                          obtain ⟨g_150, g_151, hsr_149_0⟩ := hr_149
                          refine lv_if_ne (tgt := 133) hx hb dX8_item_124 (by decide) (fun c_152 => ?_) (fun c_152 => ?_)
                          · have fc_152 : r_149.toInt ≠ 0 := zf_ne c_152 rfl (by decide)
                            obtain ⟨hy1_1, hy2_1, hy3_1⟩ := hsr_141_2.1 (by omega)
                            have hn1 : zN1 (zMF gce nba.toInt) nen.toInt (q_119 : Int32).toInt (zLo 3 1) (zHi 3 1 nte.toInt) = (-1, (q_143 : Int32).toInt, (q_144 : Int32).toInt) := zN1_yes (p1 := (x_140 : Int32).toInt) (lo2 := 0) (hi2 := (9 : Int)) ⟨by omega, by (rw [zMF_at (by omega), ← hdx_138]; omega)⟩ (by omega) hy1_1 hy2_1 (by decide) (by first | rfl | decide | (show nte.toInt - 1 = _; omega) | (show nte.toInt = _; omega)) (by omega)
                            refine lv_aload_n hx hb dX8_item_133 rfl (lv_at hl 3 rfl) ?_
                            refine va_get (D := D) (ci := 8) (v := .ref mte) (C := RX8) (T := TX8) (N := 38) hx hb hts hi_X8_item_8 hown hK hP 9 rfl rfl 25 (by decide) (hts (.fieldLink RX8 72 "TheLiningsInItModel" "tell" "[I") (List.mem_of_getElem? (i := 7) rfl)) (fun _ h9 => h9) rfl dX8_item_134 ?_
                            refine lv_iload_n hx hb dX8_item_137 rfl (lv_at hl 1 rfl) ?_
                            refine lv_aload_n hx hb dX8_item_138 rfl (lv_at hl 3 rfl) ?_
                            refine va_get (D := D) (ci := 8) (v := .int q_144) (C := RX8) (T := TX8) (N := 38) hx hb hts hi_X8_item_8 hown hK hP 9 rfl rfl 29 (by decide) (hts (.fieldLink RX8 161 "TheLiningsInItModel" "number" "I") (List.mem_of_getElem? (i := 8) rfl)) (fun _ h9 => h9) rfl dX8_item_139 ?_
                            refine va_iast hx hb hK hP hD hS 7 0 rfl rfl (zf_in (by decide) (by decide)) dX8_item_142 (fun H locs hP hD hS => ?_)
                            have h9R := zRe (ws' := [(mnu, .inl (cI, 10, .inl gnu)), (mki, .inl (cI, 8, .inl gki)), (mpa, .inl (cI, 8, .inl gpa)), (mta, .inl (cI, 8, .inl gta)), (mla, .inl (cI, 40, .inl gla)), (msl, .inl (cI, 40, .inl gsl)), (mco, .inl (cI, 3, .inl gco)), (mte, .inl (cI, 3, .inl (upd (upd gte (0 : Int32).toNatClampNeg q_120) (1 : Int32).toNatClampNeg q_144))), (mwo, .inl (cI, 64, .inl gwo)), (zMO m0 npu nte nat_ nde nto nse nhu nga nsd nfa mrf mki mpa mta mla msl mco mhe mso msi msh mce mca mwo mnu mte nba q_143 nen q_144 q_145 mwa mke mma mth mtr nra nik), (mce, .inl (cJ, 1280, .inr (.inl gce)))]) hP hD rfl
                            clear hP hD
                            obtain ⟨hP, hD⟩ := h9R
                            refine lv_iinc (v := 2) (lv' := [(2, .int 2), (3, .int x_140), (1, .int 3), (0, .ref m0)]) hx hb dX8_item_143 hl (k := 1) rfl (by decide) (by decide) rfl (fun ls hl => ?_)
                            refine lv_goto (tgt := 40) hx hb dX8_item_146 (by decide) ?_
                            refine lv_iload_n hx hb dX8_item_40 rfl (lv_at hl 0 rfl) ?_
                            refine lv_aload_n hx hb dX8_item_41 rfl (lv_at hl 3 rfl) ?_
                            refine va_get (D := D) (ci := 8) (v := .ref mnu) (C := RX8) (T := TX8) (N := 38) hx hb hts hi_X8_item_8 hown hK hP 9 rfl rfl 24 (by decide) (hts (.fieldLink RX8 69 "TheLiningsInItModel" "numbers" "[I") (List.mem_of_getElem? (i := 3) rfl)) (fun _ h9 => h9) rfl dX8_item_42 ?_
                            refine lv_iload_n hx hb dX8_item_45 rfl (lv_at hl 2 rfl) ?_
                            refine va_iald hx hb hK hP 0 0 rfl rfl (zf_in (by decide) (by decide)) dX8_item_46 ?_
                            refine lv_topi (fun x_153 ex_153 => ?_)
                            obtain rfl : x_153 = 3 := ex_153.trans ((congrArg gnu (show (3 : Int32).toNatClampNeg = 3 from by decide)).trans ((hnu 3 (by decide)).trans (by decide)))
                            refine lv_icmp_ge (tgt := 149) hx hb dX8_item_47 (by decide) (fun c_154 => ?_) (fun c_154 => ?_)
                            · exact absurd c_154 (by decide)
                            · refine lv_iload_n hx hb dX8_item_50 rfl (lv_at hl 0 rfl) ?_
                              refine lv_if_le (tgt := 104) hx hb dX8_item_51 (by decide) (fun c_155 => ?_) (fun c_155 => ?_)
                              · exact absurd c_155 (by decide)
                              · refine lv_aload_n hx hb dX8_item_54 rfl (lv_at hl 3 rfl) ?_
                                refine va_get (D := D) (ci := 8) (v := .int q_143) (C := RX8) (T := TX8) (N := 38) hx hb hts hi_X8_item_8 hown hK hP 9 rfl rfl 27 (by decide) (hts (.fieldLink RX8 152 "TheLiningsInItModel" "place" "I") (List.mem_of_getElem? (i := 2) rfl)) (fun _ h9 => h9) rfl dX8_item_55 ?_
                                refine lv_aload_n hx hb dX8_item_58 rfl (lv_at hl 3 rfl) ?_
                                refine va_get (D := D) (ci := 8) (v := .int nen) (C := RX8) (T := TX8) (N := 38) hx hb hts hi_X8_item_8 hown hK hP 9 rfl rfl 28 (by decide) (hts (.fieldLink RX8 155 "TheLiningsInItModel" "end" "I") (List.mem_of_getElem? (i := 4) rfl)) (fun _ h9 => h9) rfl dX8_item_59 ?_
                                refine lv_icmp_ge (tgt := 85) hx hb dX8_item_62 (by decide) (fun c_156 => ?_) (fun c_156 => ?_)
                                · have fc_156 : nen.toInt ≤ q_143.toInt := zf_le c_156 rfl rfl
                                  have hn2 : zN1 (zMF gce nba.toInt) nen.toInt (q_143 : Int32).toInt (zLo 3 2) (zHi 3 2 nte.toInt) = ((q_143 : Int32).toInt, (q_143 : Int32).toInt, 0) := zN1_no (by first | (intro z; have z1 := z.1; omega) | (intro z; have z2 := z.2; rw [zMF_at (by omega), ← hdx_138] at z2; omega))
                                  refine lv_aload_n hx hb dX8_item_85 rfl (lv_at hl 3 rfl) ?_
                                  refine lv_aload_n hx hb dX8_item_86 rfl (lv_at hl 3 rfl) ?_
                                  refine va_get (D := D) (ci := 8) (v := .int q_143) (C := RX8) (T := TX8) (N := 38) hx hb hts hi_X8_item_8 hown hK hP 9 rfl rfl 27 (by decide) (hts (.fieldLink RX8 152 "TheLiningsInItModel" "place" "I") (List.mem_of_getElem? (i := 2) rfl)) (fun _ h9 => h9) rfl dX8_item_87 ?_
                                  skip
                                  refine zw_V (As := [.int q_143]) (rest := []) (wr := [(mnu, .inl (cI, 10, .inl gnu)), (mki, .inl (cI, 8, .inl gki)), (mpa, .inl (cI, 8, .inl gpa)), (mta, .inl (cI, 8, .inl gta)), (mla, .inl (cI, 40, .inl gla)), (msl, .inl (cI, 40, .inl gsl)), (mco, .inl (cI, 3, .inl gco)), (mte, .inl (cI, 3, .inl (upd (upd gte (0 : Int32).toNatClampNeg q_120) (1 : Int32).toNatClampNeg q_144))), (mwo, .inl (cI, 64, .inl gwo)), (mce, .inl (cJ, 1280, .inr (.inl gce)))]) ⟨hx, hb, hml, hown, hts⟩ (c_F_M_wrong l D cI cJ cZ cP cS po m0 mrf mki mpa mta mla msl mco mhe mso msi msh mce mca mwo mnu mte mwa mke mma mth mtr (npu) (nte) (nat_) (nde) (nto) (nse) (nhu) (nga) (nsd) (nfa) (nba) (q_143) (nen) (q_144) (q_145) (nra) (nik) (q_143) hy0 hy1 hy2 hy3 hy4 hy5 hy6 hy7 hy8 hy9 hy10 hy11 hy12 hy13 H.size) (cwV 1 hts gX8_item_X8_wrong rfl rfl rfl ⟨rfl, dh_X8_wrong⟩ ⟨Nat.le_of_ble_eq_true rfl, Nat.le_of_ble_eq_true rfl⟩) hK hN (hZ.kept hS) hP hD hS hA [9] [0, 1, 2, 3, 4, 5, 6, 7, 8, 10] rfl rfl (by decide) (by decide) (by decide) (va_recv (q := (RX8, TX8, 38)) hK hP (ci := 8) (q0 := 9) rfl rfl) rfl hl.1 rfl (Nat.le_of_ble_eq_true rfl) dX8_item_90 ⟨Nat.le_of_ble_eq_true rfl, Nat.le_of_ble_eq_true rfl⟩ (fun r_157 u_158 H locs hr_157 hP hD hS => ?_)
                                  obtain ⟨q_159, rfl⟩ : ∃ z, z = u_158 := ⟨_, rfl⟩
                                  obtain ⟨hsr_157_0, hr_157⟩ := hr_157
                                  have h9R := zRe (ws' := [(mnu, .inl (cI, 10, .inl gnu)), (mki, .inl (cI, 8, .inl gki)), (mpa, .inl (cI, 8, .inl gpa)), (mta, .inl (cI, 8, .inl gta)), (mla, .inl (cI, 40, .inl gla)), (msl, .inl (cI, 40, .inl gsl)), (mco, .inl (cI, 3, .inl gco)), (mte, .inl (cI, 3, .inl (upd (upd gte (0 : Int32).toNatClampNeg q_120) (1 : Int32).toNatClampNeg q_144))), (mwo, .inl (cI, 64, .inl gwo)), (mce, .inl (cJ, 1280, .inr (.inl gce))), (zMO m0 npu nte nat_ nde nto nse nhu nga nsd nfa mrf mki mpa mta mla msl mco mhe mso msi msh mce mca mwo mnu mte nba q_143 nen q_144 q_159 mwa mke mma mth mtr nra nik)]) hP hD rfl
                                  clear hP hD
                                  obtain ⟨hP, hD⟩ := h9R
                                  obtain rfl := hr_157
                                  have hI := zIn_c hn0 (by decide) hn1 (by decide) hn2
                                  exact W.zret (v := 0) hx hb hr (by decide) (fun t ht hW => ⟨⟨0, (npu, nte, nat_, nde, nse, nhu, nga, gki, gpa, gta, gla, gsl, gco, (upd (upd gte (0 : Int32).toNatClampNeg q_120) (1 : Int32).toNatClampNeg q_144), q_143, q_144, q_159), rfl, ⟨(show 0 ≤ npu.toInt ∧ npu.toInt ≤ 8 from ⟨hy0, hy1⟩), (show 4 ≤ nte.toInt ∧ nte.toInt ≤ 40 from ⟨hy2, hy3⟩), (show 0 ≤ nat_.toInt ∧ nat_.toInt ≤ 40 from ⟨hy4, hy5⟩), (show 0 ≤ nde.toInt ∧ nde.toInt ≤ 24 from ⟨hy6, hy7⟩), (show 0 ≤ nhu.toInt ∧ nhu.toInt ≤ 9 from ⟨hy8, hy9⟩), hp_gki, hp_gpa, hp_gta, hp_gla, hp_gsl, hp_gco, (show 0 ≤ q_143.toInt ∧ q_143.toInt ≤ 160 from hbq_143), (show npl.toInt ≤ q_143.toInt ∧ q_143.toInt ≤ nen.toInt from by exact ⟨by omega, by omega⟩), (show ((0 : Int32).toInt = 1 → (zItem (zMF gce nba.toInt) nen.toInt npl.toInt nte.toInt npu.toInt).1 = -1 ∧ q_143.toInt = (zItem (zMF gce nba.toInt) nen.toInt npl.toInt nte.toInt npu.toInt).2.1 ∧ nte.toInt = (zItem (zMF gce nba.toInt) nen.toInt npl.toInt nte.toInt npu.toInt).2.2.1 ∧ npu.toInt = (zItem (zMF gce nba.toInt) nen.toInt npl.toInt nte.toInt npu.toInt).2.2.2) ∧ ((0 : Int32).toInt = 0 → (zItem (zMF gce nba.toInt) nen.toInt npl.toInt nte.toInt npu.toInt).1 = q_159.toInt ∧ 0 ≤ q_159.toInt) from by (have k9 : (0 : Int32).toInt = 0 := (by decide); rw [zItem_w hW1 (by decide) hp8 rfl hI]; dsimp only; exact ⟨fun h => absurd h (by decide), fun _ => ⟨by first | rfl | (show _ = _; omega), by omega⟩⟩)), ⟨by decide, by decide⟩⟩, zRet ht hP hD [10, 8, 0, 9, 1, 2, 3, 4, 5, 6, 7] (by decide) rfl⟩, hS.F ht⟩) hS.2.2 dX8_item_93
                                · have fc_156 : q_143.toInt < nen.toInt := zf_nle c_156 rfl rfl
                                  refine lv_aload_n hx hb dX8_item_65 rfl (lv_at hl 3 rfl) ?_
                                  refine va_get (D := D) (ci := 8) (v := .ref mce) (C := RX8) (T := TX8) (N := 38) hx hb hts hi_X8_item_8 hown hK hP 9 rfl rfl 21 (by decide) (hts (.fieldLink RX8 59 "TheLiningsInItModel" "cells" "[J") (List.mem_of_getElem? (i := 5) rfl)) (fun _ h9 => h9) rfl dX8_item_66 ?_
                                  refine lv_aload_n hx hb dX8_item_69 rfl (lv_at hl 3 rfl) ?_
                                  refine va_get (D := D) (ci := 8) (v := .int nba) (C := RX8) (T := TX8) (N := 38) hx hb hts hi_X8_item_8 hown hK hP 9 rfl rfl 26 (by decide) (hts (.fieldLink RX8 158 "TheLiningsInItModel" "base" "I") (List.mem_of_getElem? (i := 6) rfl)) (fun _ h9 => h9) rfl dX8_item_70 ?_
                                  refine lv_aload_n hx hb dX8_item_73 rfl (lv_at hl 3 rfl) ?_
                                  refine va_get (D := D) (ci := 8) (v := .int q_143) (C := RX8) (T := TX8) (N := 38) hx hb hts hi_X8_item_8 hown hK hP 9 rfl rfl 27 (by decide) (hts (.fieldLink RX8 152 "TheLiningsInItModel" "place" "I") (List.mem_of_getElem? (i := 2) rfl)) (fun _ h9 => h9) rfl dX8_item_74 ?_
                                  refine lv_iadd hx hb dX8_item_77 ?_
                                  refine lv_topi (fun x_160 ex_160 => ?_)
                                  have qx_160 : x_160.toInt = nba.toInt + q_143.toInt := by rw [ex_160]; exact zf_add rfl rfl (by omega) (by omega)
                                  refine va_lald hx hb hK hP 10 1 rfl rfl (zf_in (by omega) (by omega)) dX8_item_78 ?_
                                  refine lv_topl (fun x_161 ex_161 => ?_)
                                  refine lv_l2i hx hb dX8_item_79 rfl ?_
                                  refine lv_topi (fun x_162 ex_162 => ?_)
                                  have hcx_162 : x_162 = zChX gce (nba.toInt + q_143.toInt).toNat := by rw [ex_162, ex_161]; unfold zChX; congr 2; (show x_160.toInt.toNat = _; omega)
                                  have hdx_162 : x_162.toInt = (zChX gce (nba.toInt + q_143.toInt).toNat).toInt := by rw [hcx_162]
                                  refine lv_bipush (v := 32) hx hb dX8_item_80 (by decide) ?_
                                  refine lv_icmp_eq (tgt := 94) hx hb dX8_item_82 (by decide) (fun c_163 => ?_) (fun c_163 => ?_)
                                  · have fc_163 : x_162.toInt = 32 := zf_eq c_163 rfl (by decide)
                                    refine lv_aload_n hx hb dX8_item_94 rfl (lv_at hl 3 rfl) ?_
                                    refine lv_dup hx hb dX8_item_95 rfl ?_
                                    refine va_get (D := D) (ci := 8) (v := .int q_143) (C := RX8) (T := TX8) (N := 38) hx hb hts hi_X8_item_8 hown hK hP 9 rfl rfl 27 (by decide) (hts (.fieldLink RX8 152 "TheLiningsInItModel" "place" "I") (List.mem_of_getElem? (i := 2) rfl)) (fun _ h9 => h9) rfl dX8_item_96 ?_
                                    refine lv_iconst (v := 1) hx hb dX8_item_99 (by decide) ?_
                                    refine lv_iadd hx hb dX8_item_100 ?_
                                    refine lv_topi (fun x_164 ex_164 => ?_)
                                    have qx_164 : x_164.toInt = q_143.toInt + 1 := dw_inc ex_164 fc_156
                                    refine va_put (D := D) (ci := 8) (v := .int x_164) (ty := .int) (C := RX8) (T := TX8) (N := 38) hx hb hts hi_X8_item_8 tyX8 tyX8_ok nmX8 hown hK hP hD hS 9 rfl rfl 27 (by decide) (hts (.fieldLink RX8 152 "TheLiningsInItModel" "place" "I") (List.mem_of_getElem? (i := 2) rfl)) (fun _ h9 => h9) rfl (tyX8_ok 27 (Nat.le_of_ble_eq_true rfl)) rfl rfl (Nat.le_of_ble_eq_true rfl) dX8_item_101 (fun H locs hP hD hS => ?_)
                                    have h9R := zRe (ws' := [(mnu, .inl (cI, 10, .inl gnu)), (mki, .inl (cI, 8, .inl gki)), (mpa, .inl (cI, 8, .inl gpa)), (mta, .inl (cI, 8, .inl gta)), (mla, .inl (cI, 40, .inl gla)), (msl, .inl (cI, 40, .inl gsl)), (mco, .inl (cI, 3, .inl gco)), (mte, .inl (cI, 3, .inl (upd (upd gte (0 : Int32).toNatClampNeg q_120) (1 : Int32).toNatClampNeg q_144))), (mwo, .inl (cI, 64, .inl gwo)), (zMO m0 npu nte nat_ nde nto nse nhu nga nsd nfa mrf mki mpa mta mla msl mco mhe mso msi msh mce mca mwo mnu mte nba x_164 nen q_144 q_145 mwa mke mma mth mtr nra nik), (mce, .inl (cJ, 1280, .inr (.inl gce)))]) hP hD rfl
                                    clear hP hD
                                    obtain ⟨hP, hD⟩ := h9R
                                    refine lv_aload_n hx hb dX8_item_104 rfl (lv_at hl 3 rfl) ?_
                                    refine va_get (D := D) (ci := 8) (v := .int x_164) (C := RX8) (T := TX8) (N := 38) hx hb hts hi_X8_item_8 hown hK hP 9 rfl rfl 27 (by decide) (hts (.fieldLink RX8 152 "TheLiningsInItModel" "place" "I") (List.mem_of_getElem? (i := 2) rfl)) (fun _ h9 => h9) rfl dX8_item_105 ?_
                                    refine lv_istore_n (lv' := [(3, .int x_164), (2, .int 2), (1, .int 3), (0, .ref m0)]) hx hb dX8_item_108 rfl hl (by decide) rfl (fun ls hl => ?_)
                                    refine lv_aload_n hx hb dX8_item_109 rfl (lv_at hl 3 rfl) ?_
                                    skip
                                    refine zw_V (As := []) (rest := []) (wr := [(mnu, .inl (cI, 10, .inl gnu)), (mki, .inl (cI, 8, .inl gki)), (mpa, .inl (cI, 8, .inl gpa)), (mta, .inl (cI, 8, .inl gta)), (mla, .inl (cI, 40, .inl gla)), (msl, .inl (cI, 40, .inl gsl)), (mco, .inl (cI, 3, .inl gco)), (mte, .inl (cI, 3, .inl (upd (upd gte (0 : Int32).toNatClampNeg q_120) (1 : Int32).toNatClampNeg q_144))), (mwo, .inl (cI, 64, .inl gwo))]) ⟨hx, hb, hml, hown, hts⟩ (c_F_M_reads l D cI cJ cZ cP cS po m0 mrf mki mpa mta mla msl mco mhe mso msi msh mce mca mwo mnu mte mwa mke mma mth mtr (npu) (nte) (nat_) (nde) (nto) (nse) (nhu) (nga) (nsd) (nfa) (nba) (x_164) (nen) (q_144) (q_145) (nra) (nik) gce hy0 hy1 hy2 hy3 hy4 hy5 hy6 hy7 hy8 hy9 hy10 hy11 hy12 hy13 hy14 hy15 (by omega) (by omega) hy18 hy19 (by omega) H.size) (cwV 0 hts gX8_item_X8_reads rfl rfl rfl ⟨rfl, dh_X8_reads⟩ ⟨Nat.le_of_ble_eq_true rfl, Nat.le_of_ble_eq_true rfl⟩) hK hN (hZ.kept hS) hP hD hS hA [9, 10] [0, 1, 2, 3, 4, 5, 6, 7, 8] rfl rfl (by decide) (by decide) (by decide) (va_recv (q := (RX8, TX8, 38)) hK hP (ci := 8) (q0 := 9) rfl rfl) rfl hl.1 rfl (Nat.le_of_ble_eq_true rfl) dX8_item_110 ⟨Nat.le_of_ble_eq_true rfl, Nat.le_of_ble_eq_true rfl⟩ (fun r_165 u_166 H locs hr_165 hP hD hS => ?_)
                                    obtain ⟨q_167, q_168, q_169⟩ := u_166
                                    try dsimp only at hr_165
                                    obtain ⟨hbq_167, hsr_165_0, hsr_165_1, hsr_165_2, hr_165⟩ := hr_165
                                    have h9R := zRe (ws' := [(mnu, .inl (cI, 10, .inl gnu)), (mki, .inl (cI, 8, .inl gki)), (mpa, .inl (cI, 8, .inl gpa)), (mta, .inl (cI, 8, .inl gta)), (mla, .inl (cI, 40, .inl gla)), (msl, .inl (cI, 40, .inl gsl)), (mco, .inl (cI, 3, .inl gco)), (mte, .inl (cI, 3, .inl (upd (upd gte (0 : Int32).toNatClampNeg q_120) (1 : Int32).toNatClampNeg q_144))), (mwo, .inl (cI, 64, .inl gwo)), (zMO m0 npu nte nat_ nde nto nse nhu nga nsd nfa mrf mki mpa mta mla msl mco mhe mso msi msh mce mca mwo mnu mte nba q_167 nen q_168 q_169 mwa mke mma mth mtr nra nik), (mce, .inl (cJ, 1280, .inr (.inl gce)))]) hP hD rfl
                                    clear hP hD
                                    obtain ⟨hP, hD⟩ := h9R
                                    obtain ⟨g_170, g_171⟩ := hr_165
                                    refine lv_if_ne (tgt := 118) hx hb dX8_item_113 (by decide) (fun c_172 => ?_) (fun c_172 => ?_)
                                    · have fc_172 : r_165.toInt ≠ 0 := zf_ne c_172 rfl (by decide)
                                      refine lv_aload_n hx hb dX8_item_118 rfl (lv_at hl 3 rfl) ?_
                                      refine lv_iload_n hx hb dX8_item_119 rfl (lv_at hl 2 rfl) ?_
                                      refine lv_iload_n hx hb dX8_item_120 rfl (lv_at hl 1 rfl) ?_
                                      refine zc_V (As := [.int 3, .int 2]) (rest := []) ⟨hx, hb, hml, hown, hts⟩ (c_F_M_isSo_3_2 l D cI cJ cZ cP cS po m0 mrf mki mpa mta mla msl mco mhe mso msi msh mce mca mwo mnu mte mwa mke mma mth mtr (npu) (nte) (nat_) (nde) (nto) (nse) (nhu) (nga) (nsd) (nfa) (nba) (q_167) (nen) (q_168) (q_169) (nra) (nik) hy0 hy1 hy2 hy3 hy4 hy5 hy6 hy7 hy8 hy9 hy10 hy11 hy12 hy13 (by omega) (by omega)) (cwV 2 hts gX8_item_X8_isSo rfl rfl rfl ⟨rfl, dh_X8_isSo⟩ ⟨Nat.le_of_ble_eq_true rfl, Nat.le_of_ble_eq_true rfl⟩) hK hN (hZ.kept hS) hP (hP.sub [9] rfl) (va_recv (q := (RX8, TX8, 38)) hK hP (ci := 8) (q0 := 9) rfl rfl) rfl hl.1 rfl (Nat.le_of_ble_eq_true rfl) dX8_item_121 ⟨Nat.le_of_ble_eq_true rfl, Nat.le_of_ble_eq_true rfl⟩ (fun r_173 hr_173 => ?_)
                                      obtain ⟨g_174, g_175, hsr_173_0⟩ := hr_173
                                      refine lv_if_ne (tgt := 133) hx hb dX8_item_124 (by decide) (fun c_176 => ?_) (fun c_176 => ?_)
                                      · have fc_176 : r_173.toInt ≠ 0 := zf_ne c_176 rfl (by decide)
                                        obtain ⟨hy1_2, hy2_2, hy3_2⟩ := hsr_165_2.1 (by omega)
                                        have hn2 : zN1 (zMF gce nba.toInt) nen.toInt (q_143 : Int32).toInt (zLo 3 2) (zHi 3 2 nte.toInt) = (-1, (q_167 : Int32).toInt, (q_168 : Int32).toInt) := zN1_yes (p1 := (x_164 : Int32).toInt) (lo2 := 1) (hi2 := (60 : Int)) ⟨by omega, by (rw [zMF_at (by omega), ← hdx_162]; omega)⟩ (by omega) hy1_2 hy2_2 (by decide) (by first | rfl | decide | (show nte.toInt - 1 = _; omega) | (show nte.toInt = _; omega)) (by omega)
                                        refine lv_aload_n hx hb dX8_item_133 rfl (lv_at hl 3 rfl) ?_
                                        refine va_get (D := D) (ci := 8) (v := .ref mte) (C := RX8) (T := TX8) (N := 38) hx hb hts hi_X8_item_8 hown hK hP 9 rfl rfl 25 (by decide) (hts (.fieldLink RX8 72 "TheLiningsInItModel" "tell" "[I") (List.mem_of_getElem? (i := 7) rfl)) (fun _ h9 => h9) rfl dX8_item_134 ?_
                                        refine lv_iload_n hx hb dX8_item_137 rfl (lv_at hl 1 rfl) ?_
                                        refine lv_aload_n hx hb dX8_item_138 rfl (lv_at hl 3 rfl) ?_
                                        refine va_get (D := D) (ci := 8) (v := .int q_168) (C := RX8) (T := TX8) (N := 38) hx hb hts hi_X8_item_8 hown hK hP 9 rfl rfl 29 (by decide) (hts (.fieldLink RX8 161 "TheLiningsInItModel" "number" "I") (List.mem_of_getElem? (i := 8) rfl)) (fun _ h9 => h9) rfl dX8_item_139 ?_
                                        refine va_iast hx hb hK hP hD hS 7 0 rfl rfl (zf_in (by decide) (by decide)) dX8_item_142 (fun H locs hP hD hS => ?_)
                                        have h9R := zRe (ws' := [(mnu, .inl (cI, 10, .inl gnu)), (mki, .inl (cI, 8, .inl gki)), (mpa, .inl (cI, 8, .inl gpa)), (mta, .inl (cI, 8, .inl gta)), (mla, .inl (cI, 40, .inl gla)), (msl, .inl (cI, 40, .inl gsl)), (mco, .inl (cI, 3, .inl gco)), (mte, .inl (cI, 3, .inl (upd (upd (upd gte (0 : Int32).toNatClampNeg q_120) (1 : Int32).toNatClampNeg q_144) (2 : Int32).toNatClampNeg q_168))), (mwo, .inl (cI, 64, .inl gwo)), (zMO m0 npu nte nat_ nde nto nse nhu nga nsd nfa mrf mki mpa mta mla msl mco mhe mso msi msh mce mca mwo mnu mte nba q_167 nen q_168 q_169 mwa mke mma mth mtr nra nik), (mce, .inl (cJ, 1280, .inr (.inl gce)))]) hP hD rfl
                                        clear hP hD
                                        obtain ⟨hP, hD⟩ := h9R
                                        refine lv_iinc (v := 3) (lv' := [(2, .int 3), (3, .int x_164), (1, .int 3), (0, .ref m0)]) hx hb dX8_item_143 hl (k := 1) rfl (by decide) (by decide) rfl (fun ls hl => ?_)
                                        refine lv_goto (tgt := 40) hx hb dX8_item_146 (by decide) ?_
                                        refine lv_iload_n hx hb dX8_item_40 rfl (lv_at hl 0 rfl) ?_
                                        refine lv_aload_n hx hb dX8_item_41 rfl (lv_at hl 3 rfl) ?_
                                        refine va_get (D := D) (ci := 8) (v := .ref mnu) (C := RX8) (T := TX8) (N := 38) hx hb hts hi_X8_item_8 hown hK hP 9 rfl rfl 24 (by decide) (hts (.fieldLink RX8 69 "TheLiningsInItModel" "numbers" "[I") (List.mem_of_getElem? (i := 3) rfl)) (fun _ h9 => h9) rfl dX8_item_42 ?_
                                        refine lv_iload_n hx hb dX8_item_45 rfl (lv_at hl 2 rfl) ?_
                                        refine va_iald hx hb hK hP 0 0 rfl rfl (zf_in (by decide) (by decide)) dX8_item_46 ?_
                                        refine lv_topi (fun x_177 ex_177 => ?_)
                                        obtain rfl : x_177 = 3 := ex_177.trans ((congrArg gnu (show (3 : Int32).toNatClampNeg = 3 from by decide)).trans ((hnu 3 (by decide)).trans (by decide)))
                                        refine lv_icmp_ge (tgt := 149) hx hb dX8_item_47 (by decide) (fun c_178 => ?_) (fun c_178 => ?_)
                                        · refine lv_iload_n hx hb dX8_item_149 rfl (lv_at hl 2 rfl) ?_
                                          refine lv_tableIn (tgt := 252) hx hb dX8_item_150 (by decide) (by decide) rfl (by decide) ?_
                                          refine lv_aload_n hx hb dX8_item_252 rfl (lv_at hl 3 rfl) ?_
                                          refine lv_aload_n hx hb dX8_item_253 rfl (lv_at hl 3 rfl) ?_
                                          refine va_get (D := D) (ci := 8) (v := .ref mte) (C := RX8) (T := TX8) (N := 38) hx hb hts hi_X8_item_8 hown hK hP 9 rfl rfl 25 (by decide) (hts (.fieldLink RX8 72 "TheLiningsInItModel" "tell" "[I") (List.mem_of_getElem? (i := 7) rfl)) (fun _ h9 => h9) rfl dX8_item_254 ?_
                                          refine lv_iconst (v := 0) hx hb dX8_item_257 (by decide) ?_
                                          refine va_iald hx hb hK hP 7 0 rfl rfl (zf_in (by decide) (by decide)) dX8_item_258 ?_
                                          refine lv_topi (fun x_179 ex_179 => ?_)
                                          obtain rfl : q_120 = x_179 := (ex_179.trans ((if_neg (by decide)).trans ((if_neg (by decide)).trans (if_pos rfl)))).symm
                                          refine lv_aload_n hx hb dX8_item_259 rfl (lv_at hl 3 rfl) ?_
                                          refine va_get (D := D) (ci := 8) (v := .ref mte) (C := RX8) (T := TX8) (N := 38) hx hb hts hi_X8_item_8 hown hK hP 9 rfl rfl 25 (by decide) (hts (.fieldLink RX8 72 "TheLiningsInItModel" "tell" "[I") (List.mem_of_getElem? (i := 7) rfl)) (fun _ h9 => h9) rfl dX8_item_260 ?_
                                          refine lv_iconst (v := 1) hx hb dX8_item_263 (by decide) ?_
                                          refine va_iald hx hb hK hP 7 0 rfl rfl (zf_in (by decide) (by decide)) dX8_item_264 ?_
                                          refine lv_topi (fun x_180 ex_180 => ?_)
                                          obtain rfl : q_144 = x_180 := (ex_180.trans ((if_neg (by decide)).trans (if_pos rfl))).symm
                                          refine lv_aload_n hx hb dX8_item_265 rfl (lv_at hl 3 rfl) ?_
                                          refine va_get (D := D) (ci := 8) (v := .ref mte) (C := RX8) (T := TX8) (N := 38) hx hb hts hi_X8_item_8 hown hK hP 9 rfl rfl 25 (by decide) (hts (.fieldLink RX8 72 "TheLiningsInItModel" "tell" "[I") (List.mem_of_getElem? (i := 7) rfl)) (fun _ h9 => h9) rfl dX8_item_266 ?_
                                          refine lv_iconst (v := 2) hx hb dX8_item_269 (by decide) ?_
                                          refine va_iald hx hb hK hP 7 0 rfl rfl (zf_in (by decide) (by decide)) dX8_item_270 ?_
                                          refine lv_topi (fun x_181 ex_181 => ?_)
                                          obtain rfl : q_168 = x_181 := (ex_181.trans (if_pos rfl)).symm
                                          skip
                                          refine zw_V (As := [.int q_120, .int q_144, .int q_168]) (rest := []) (wr := [(mnu, .inl (cI, 10, .inl gnu)), (mla, .inl (cI, 40, .inl gla)), (msl, .inl (cI, 40, .inl gsl)), (mco, .inl (cI, 3, .inl gco)), (mte, .inl (cI, 3, .inl (upd (upd (upd gte (0 : Int32).toNatClampNeg q_120) (1 : Int32).toNatClampNeg q_144) (2 : Int32).toNatClampNeg q_168))), (mwo, .inl (cI, 64, .inl gwo)), (mce, .inl (cJ, 1280, .inr (.inl gce)))]) ⟨hx, hb, hml, hown, hts⟩ (c_F_M_addsPull l D cI cJ cZ cP cS po m0 mrf mki mpa mta mla msl mco mhe mso msi msh mce mca mwo mnu mte mwa mke mma mth mtr (npu) (nte) (nat_) (nde) (nto) (nse) (nhu) (nga) (nsd) (nfa) (nba) (q_167) (nen) (q_168) (q_169) (nra) (nik) gki gpa gta (q_120) (q_144) (q_168) hy0 hy1 hy2 hy3 hy4 hy5 hy6 hy7 hy8 hy9 hy10 hy11 hy12 hy13 (by omega) (by omega) (by omega) (by omega) (by omega) (by omega) hy0 (by omega) hp_gki hp_gpa hp_gta H.size) (cwV 3 hts gX8_item_X8_addsPull rfl rfl rfl ⟨rfl, dh_X8_addsPull⟩ ⟨Nat.le_of_ble_eq_true rfl, Nat.le_of_ble_eq_true rfl⟩) hK hN (hZ.kept hS) hP hD hS hA [9, 1, 2, 3] [0, 4, 5, 6, 7, 8, 10] rfl rfl (by decide) (by decide) (by decide) (va_recv (q := (RX8, TX8, 38)) hK hP (ci := 8) (q0 := 9) rfl rfl) rfl hl.1 rfl (Nat.le_of_ble_eq_true rfl) dX8_item_271 ⟨Nat.le_of_ble_eq_true rfl, Nat.le_of_ble_eq_true rfl⟩ (fun r_182 u_183 H locs hr_182 hP hD hS => ?_)
                                          obtain ⟨q_184, q_185, q_186, q_187⟩ := u_183
                                          try dsimp only at hr_182
                                          obtain ⟨hbq_184, hpq_185, hpq_186, hpq_187, hsr_182_0, hsr_182_1, hr_182⟩ := hr_182
                                          have h9R := zRe (ws' := [(mnu, .inl (cI, 10, .inl gnu)), (mla, .inl (cI, 40, .inl gla)), (msl, .inl (cI, 40, .inl gsl)), (mco, .inl (cI, 3, .inl gco)), (mte, .inl (cI, 3, .inl (upd (upd (upd gte (0 : Int32).toNatClampNeg q_120) (1 : Int32).toNatClampNeg q_144) (2 : Int32).toNatClampNeg q_168))), (mwo, .inl (cI, 64, .inl gwo)), (mce, .inl (cJ, 1280, .inr (.inl gce))), (zMO m0 q_184 nte nat_ nde nto nse nhu nga nsd nfa mrf mki mpa mta mla msl mco mhe mso msi msh mce mca mwo mnu mte nba q_167 nen q_168 q_169 mwa mke mma mth mtr nra nik), (mki, .inl (cI, 8, .inl q_185)), (mpa, .inl (cI, 8, .inl q_186)), (mta, .inl (cI, 8, .inl q_187))]) hP hD rfl
                                          clear hP hD
                                          obtain ⟨hP, hD⟩ := h9R
                                          obtain ⟨g_188, g_189⟩ := hr_182
                                          refine lv_pop hx hb dX8_item_274 rfl ?_
                                          refine lv_goto (tgt := 324) hx hb dX8_item_275 (by decide) ?_
                                          refine lv_iconst (v := 1) hx hb dX8_item_324 (by decide) ?_
                                          have hI := zIn_c hn0 (by decide) hn1 (by decide) hn2
                                          exact W.zret (v := 1) hx hb hr (by decide) (fun t ht hW => ⟨⟨1, (q_184, nte, nat_, nde, nse, nhu, nga, q_185, q_186, q_187, gla, gsl, gco, (upd (upd (upd gte (0 : Int32).toNatClampNeg q_120) (1 : Int32).toNatClampNeg q_144) (2 : Int32).toNatClampNeg q_168), q_167, q_168, q_169), rfl, ⟨(show 0 ≤ q_184.toInt ∧ q_184.toInt ≤ 8 from hbq_184), (show 4 ≤ nte.toInt ∧ nte.toInt ≤ 40 from ⟨hy2, hy3⟩), (show 0 ≤ nat_.toInt ∧ nat_.toInt ≤ 40 from ⟨hy4, hy5⟩), (show 0 ≤ nde.toInt ∧ nde.toInt ≤ 24 from ⟨hy6, hy7⟩), (show 0 ≤ nhu.toInt ∧ nhu.toInt ≤ 9 from ⟨hy8, hy9⟩), hpq_185, hpq_186, hpq_187, hp_gla, hp_gsl, hp_gco, (show 0 ≤ q_167.toInt ∧ q_167.toInt ≤ 160 from hbq_167), (show npl.toInt ≤ q_167.toInt ∧ q_167.toInt ≤ nen.toInt from by exact ⟨by omega, by omega⟩), (show ((1 : Int32).toInt = 1 → (zItem (zMF gce nba.toInt) nen.toInt npl.toInt nte.toInt npu.toInt).1 = -1 ∧ q_167.toInt = (zItem (zMF gce nba.toInt) nen.toInt npl.toInt nte.toInt npu.toInt).2.1 ∧ nte.toInt = (zItem (zMF gce nba.toInt) nen.toInt npl.toInt nte.toInt npu.toInt).2.2.1 ∧ q_184.toInt = (zItem (zMF gce nba.toInt) nen.toInt npl.toInt nte.toInt npu.toInt).2.2.2) ∧ ((1 : Int32).toInt = 0 → (zItem (zMF gce nba.toInt) nen.toInt npl.toInt nte.toInt npu.toInt).1 = q_169.toInt ∧ 0 ≤ q_169.toInt) from by (have k9 : (1 : Int32).toInt = 1 := (by decide); rw [zItem_w hW1 (by decide) hp8 rfl hI]; dsimp only; exact ⟨fun _ => ⟨rfl, by first | rfl | omega, by (show _ = (if (3 : Int) = 0 then _ else _); rw [if_neg (by decide)]), by (show _ = (if (3 : Int) = 3 then _ else _); first | (rw [if_pos rfl]; done) | (rw [if_pos rfl]; omega))⟩, fun h => absurd h (by decide)⟩)), ⟨by decide, by decide⟩⟩, zRet ht hP hD [7, 5, 0, 6, 8, 9, 10, 1, 2, 3, 4] (by decide) rfl⟩, hS.F ht⟩) hS.2.2 dX8_item_325
                                        · exact absurd c_178 (by decide)
                                      · have fc_176 : r_173.toInt = 0 := zf_eq c_176 rfl (by decide)
                                        obtain ⟨hy1_2, hy2_2, hy3_2⟩ := hsr_165_2.1 (by omega)
                                        have hn2 : zN1 (zMF gce nba.toInt) nen.toInt (q_143 : Int32).toInt (zLo 3 2) (zHi 3 2 nte.toInt) = ((x_164 : Int32).toInt, (q_167 : Int32).toInt, (q_168 : Int32).toInt) := zN1_yes (p1 := (x_164 : Int32).toInt) (lo2 := 1) (hi2 := (60 : Int)) ⟨by omega, by (rw [zMF_at (by omega), ← hdx_162]; omega)⟩ (by omega) hy1_2 hy2_2 (by decide) (by first | rfl | decide | (show nte.toInt - 1 = _; omega) | (show nte.toInt = _; omega)) (by omega)
                                        refine lv_aload_n hx hb dX8_item_127 rfl (lv_at hl 3 rfl) ?_
                                        refine lv_iload_n hx hb dX8_item_128 rfl (lv_at hl 0 rfl) ?_
                                        skip
                                        refine zw_V (As := [.int x_164]) (rest := []) (wr := [(mnu, .inl (cI, 10, .inl gnu)), (mki, .inl (cI, 8, .inl gki)), (mpa, .inl (cI, 8, .inl gpa)), (mta, .inl (cI, 8, .inl gta)), (mla, .inl (cI, 40, .inl gla)), (msl, .inl (cI, 40, .inl gsl)), (mco, .inl (cI, 3, .inl gco)), (mte, .inl (cI, 3, .inl (upd (upd gte (0 : Int32).toNatClampNeg q_120) (1 : Int32).toNatClampNeg q_144))), (mwo, .inl (cI, 64, .inl gwo)), (mce, .inl (cJ, 1280, .inr (.inl gce)))]) ⟨hx, hb, hml, hown, hts⟩ (c_F_M_wrong l D cI cJ cZ cP cS po m0 mrf mki mpa mta mla msl mco mhe mso msi msh mce mca mwo mnu mte mwa mke mma mth mtr (npu) (nte) (nat_) (nde) (nto) (nse) (nhu) (nga) (nsd) (nfa) (nba) (q_167) (nen) (q_168) (q_169) (nra) (nik) (x_164) hy0 hy1 hy2 hy3 hy4 hy5 hy6 hy7 hy8 hy9 hy10 hy11 hy12 hy13 H.size) (cwV 1 hts gX8_item_X8_wrong rfl rfl rfl ⟨rfl, dh_X8_wrong⟩ ⟨Nat.le_of_ble_eq_true rfl, Nat.le_of_ble_eq_true rfl⟩) hK hN (hZ.kept hS) hP hD hS hA [9] [0, 1, 2, 3, 4, 5, 6, 7, 8, 10] rfl rfl (by decide) (by decide) (by decide) (va_recv (q := (RX8, TX8, 38)) hK hP (ci := 8) (q0 := 9) rfl rfl) rfl hl.1 rfl (Nat.le_of_ble_eq_true rfl) dX8_item_129 ⟨Nat.le_of_ble_eq_true rfl, Nat.le_of_ble_eq_true rfl⟩ (fun r_190 u_191 H locs hr_190 hP hD hS => ?_)
                                        obtain ⟨q_192, rfl⟩ : ∃ z, z = u_191 := ⟨_, rfl⟩
                                        obtain ⟨hsr_190_0, hr_190⟩ := hr_190
                                        have h9R := zRe (ws' := [(mnu, .inl (cI, 10, .inl gnu)), (mki, .inl (cI, 8, .inl gki)), (mpa, .inl (cI, 8, .inl gpa)), (mta, .inl (cI, 8, .inl gta)), (mla, .inl (cI, 40, .inl gla)), (msl, .inl (cI, 40, .inl gsl)), (mco, .inl (cI, 3, .inl gco)), (mte, .inl (cI, 3, .inl (upd (upd gte (0 : Int32).toNatClampNeg q_120) (1 : Int32).toNatClampNeg q_144))), (mwo, .inl (cI, 64, .inl gwo)), (mce, .inl (cJ, 1280, .inr (.inl gce))), (zMO m0 npu nte nat_ nde nto nse nhu nga nsd nfa mrf mki mpa mta mla msl mco mhe mso msi msh mce mca mwo mnu mte nba q_167 nen q_168 q_192 mwa mke mma mth mtr nra nik)]) hP hD rfl
                                        clear hP hD
                                        obtain ⟨hP, hD⟩ := h9R
                                        obtain rfl := hr_190
                                        have hI := zIn_c hn0 (by decide) hn1 (by decide) hn2
                                        exact W.zret (v := 0) hx hb hr (by decide) (fun t ht hW => ⟨⟨0, (npu, nte, nat_, nde, nse, nhu, nga, gki, gpa, gta, gla, gsl, gco, (upd (upd gte (0 : Int32).toNatClampNeg q_120) (1 : Int32).toNatClampNeg q_144), q_167, q_168, q_192), rfl, ⟨(show 0 ≤ npu.toInt ∧ npu.toInt ≤ 8 from ⟨hy0, hy1⟩), (show 4 ≤ nte.toInt ∧ nte.toInt ≤ 40 from ⟨hy2, hy3⟩), (show 0 ≤ nat_.toInt ∧ nat_.toInt ≤ 40 from ⟨hy4, hy5⟩), (show 0 ≤ nde.toInt ∧ nde.toInt ≤ 24 from ⟨hy6, hy7⟩), (show 0 ≤ nhu.toInt ∧ nhu.toInt ≤ 9 from ⟨hy8, hy9⟩), hp_gki, hp_gpa, hp_gta, hp_gla, hp_gsl, hp_gco, (show 0 ≤ q_167.toInt ∧ q_167.toInt ≤ 160 from hbq_167), (show npl.toInt ≤ q_167.toInt ∧ q_167.toInt ≤ nen.toInt from by exact ⟨by omega, by omega⟩), (show ((0 : Int32).toInt = 1 → (zItem (zMF gce nba.toInt) nen.toInt npl.toInt nte.toInt npu.toInt).1 = -1 ∧ q_167.toInt = (zItem (zMF gce nba.toInt) nen.toInt npl.toInt nte.toInt npu.toInt).2.1 ∧ nte.toInt = (zItem (zMF gce nba.toInt) nen.toInt npl.toInt nte.toInt npu.toInt).2.2.1 ∧ npu.toInt = (zItem (zMF gce nba.toInt) nen.toInt npl.toInt nte.toInt npu.toInt).2.2.2) ∧ ((0 : Int32).toInt = 0 → (zItem (zMF gce nba.toInt) nen.toInt npl.toInt nte.toInt npu.toInt).1 = q_192.toInt ∧ 0 ≤ q_192.toInt) from by (have k9 : (0 : Int32).toInt = 0 := (by decide); rw [zItem_w hW1 (by decide) hp8 rfl hI]; dsimp only; exact ⟨fun h => absurd h (by decide), fun _ => ⟨by first | rfl | (show _ = _; omega), by omega⟩⟩)), ⟨by decide, by decide⟩⟩, zRet ht hP hD [10, 8, 0, 9, 1, 2, 3, 4, 5, 6, 7] (by decide) rfl⟩, hS.F ht⟩) hS.2.2 dX8_item_132
                                    · have fc_172 : r_165.toInt = 0 := zf_eq c_172 rfl (by decide)
                                      have hn2 : zN1 (zMF gce nba.toInt) nen.toInt (q_143 : Int32).toInt (zLo 3 2) (zHi 3 2 nte.toInt) = ((x_164 : Int32).toInt, (x_164 : Int32).toInt, 0) := zN1_yes (p1 := (x_164 : Int32).toInt) (lo2 := 1) (hi2 := (60 : Int)) ⟨by omega, by (rw [zMF_at (by omega), ← hdx_162]; omega)⟩ (by omega) (hsr_165_2.2 (by omega)).1.symm zNv_0.symm (by decide) (by first | rfl | decide | (show nte.toInt - 1 = _; omega) | (show nte.toInt = _; omega)) (Or.inl ⟨rfl, Or.inl rfl⟩)
                                      refine lv_iconst (v := 0) hx hb dX8_item_116 (by decide) ?_
                                      have hI := zIn_c hn0 (by decide) hn1 (by decide) hn2
                                      exact W.zret (v := 0) hx hb hr (by decide) (fun t ht hW => ⟨⟨0, (npu, nte, nat_, nde, nse, nhu, nga, gki, gpa, gta, gla, gsl, gco, (upd (upd gte (0 : Int32).toNatClampNeg q_120) (1 : Int32).toNatClampNeg q_144), q_167, q_168, q_169), rfl, ⟨(show 0 ≤ npu.toInt ∧ npu.toInt ≤ 8 from ⟨hy0, hy1⟩), (show 4 ≤ nte.toInt ∧ nte.toInt ≤ 40 from ⟨hy2, hy3⟩), (show 0 ≤ nat_.toInt ∧ nat_.toInt ≤ 40 from ⟨hy4, hy5⟩), (show 0 ≤ nde.toInt ∧ nde.toInt ≤ 24 from ⟨hy6, hy7⟩), (show 0 ≤ nhu.toInt ∧ nhu.toInt ≤ 9 from ⟨hy8, hy9⟩), hp_gki, hp_gpa, hp_gta, hp_gla, hp_gsl, hp_gco, (show 0 ≤ q_167.toInt ∧ q_167.toInt ≤ 160 from hbq_167), (show npl.toInt ≤ q_167.toInt ∧ q_167.toInt ≤ nen.toInt from by exact ⟨by omega, by omega⟩), (show ((0 : Int32).toInt = 1 → (zItem (zMF gce nba.toInt) nen.toInt npl.toInt nte.toInt npu.toInt).1 = -1 ∧ q_167.toInt = (zItem (zMF gce nba.toInt) nen.toInt npl.toInt nte.toInt npu.toInt).2.1 ∧ nte.toInt = (zItem (zMF gce nba.toInt) nen.toInt npl.toInt nte.toInt npu.toInt).2.2.1 ∧ npu.toInt = (zItem (zMF gce nba.toInt) nen.toInt npl.toInt nte.toInt npu.toInt).2.2.2) ∧ ((0 : Int32).toInt = 0 → (zItem (zMF gce nba.toInt) nen.toInt npl.toInt nte.toInt npu.toInt).1 = q_169.toInt ∧ 0 ≤ q_169.toInt) from by (have k9 : (0 : Int32).toInt = 0 := (by decide); rw [zItem_w hW1 (by decide) hp8 rfl hI]; dsimp only; exact ⟨fun h => absurd h (by decide), fun _ => ⟨by first | rfl | (show _ = _; omega), by omega⟩⟩)), ⟨by decide, by decide⟩⟩, zRet ht hP hD [9, 8, 0, 10, 1, 2, 3, 4, 5, 6, 7] (by decide) rfl⟩, hS.F ht⟩) hS.2.2 dX8_item_117
                                  · have fc_163 : x_162.toInt ≠ 32 := zf_ne c_163 rfl (by decide)
                                    have hn2 : zN1 (zMF gce nba.toInt) nen.toInt (q_143 : Int32).toInt (zLo 3 2) (zHi 3 2 nte.toInt) = ((q_143 : Int32).toInt, (q_143 : Int32).toInt, 0) := zN1_no (by first | (intro z; have z1 := z.1; omega) | (intro z; have z2 := z.2; rw [zMF_at (by omega), ← hdx_162] at z2; omega))
                                    refine lv_aload_n hx hb dX8_item_85 rfl (lv_at hl 3 rfl) ?_
                                    refine lv_aload_n hx hb dX8_item_86 rfl (lv_at hl 3 rfl) ?_
                                    refine va_get (D := D) (ci := 8) (v := .int q_143) (C := RX8) (T := TX8) (N := 38) hx hb hts hi_X8_item_8 hown hK hP 9 rfl rfl 27 (by decide) (hts (.fieldLink RX8 152 "TheLiningsInItModel" "place" "I") (List.mem_of_getElem? (i := 2) rfl)) (fun _ h9 => h9) rfl dX8_item_87 ?_
                                    skip
                                    refine zw_V (As := [.int q_143]) (rest := []) (wr := [(mnu, .inl (cI, 10, .inl gnu)), (mki, .inl (cI, 8, .inl gki)), (mpa, .inl (cI, 8, .inl gpa)), (mta, .inl (cI, 8, .inl gta)), (mla, .inl (cI, 40, .inl gla)), (msl, .inl (cI, 40, .inl gsl)), (mco, .inl (cI, 3, .inl gco)), (mte, .inl (cI, 3, .inl (upd (upd gte (0 : Int32).toNatClampNeg q_120) (1 : Int32).toNatClampNeg q_144))), (mwo, .inl (cI, 64, .inl gwo)), (mce, .inl (cJ, 1280, .inr (.inl gce)))]) ⟨hx, hb, hml, hown, hts⟩ (c_F_M_wrong l D cI cJ cZ cP cS po m0 mrf mki mpa mta mla msl mco mhe mso msi msh mce mca mwo mnu mte mwa mke mma mth mtr (npu) (nte) (nat_) (nde) (nto) (nse) (nhu) (nga) (nsd) (nfa) (nba) (q_143) (nen) (q_144) (q_145) (nra) (nik) (q_143) hy0 hy1 hy2 hy3 hy4 hy5 hy6 hy7 hy8 hy9 hy10 hy11 hy12 hy13 H.size) (cwV 1 hts gX8_item_X8_wrong rfl rfl rfl ⟨rfl, dh_X8_wrong⟩ ⟨Nat.le_of_ble_eq_true rfl, Nat.le_of_ble_eq_true rfl⟩) hK hN (hZ.kept hS) hP hD hS hA [9] [0, 1, 2, 3, 4, 5, 6, 7, 8, 10] rfl rfl (by decide) (by decide) (by decide) (va_recv (q := (RX8, TX8, 38)) hK hP (ci := 8) (q0 := 9) rfl rfl) rfl hl.1 rfl (Nat.le_of_ble_eq_true rfl) dX8_item_90 ⟨Nat.le_of_ble_eq_true rfl, Nat.le_of_ble_eq_true rfl⟩ (fun r_193 u_194 H locs hr_193 hP hD hS => ?_)
                                    obtain ⟨q_195, rfl⟩ : ∃ z, z = u_194 := ⟨_, rfl⟩
                                    obtain ⟨hsr_193_0, hr_193⟩ := hr_193
                                    have h9R := zRe (ws' := [(mnu, .inl (cI, 10, .inl gnu)), (mki, .inl (cI, 8, .inl gki)), (mpa, .inl (cI, 8, .inl gpa)), (mta, .inl (cI, 8, .inl gta)), (mla, .inl (cI, 40, .inl gla)), (msl, .inl (cI, 40, .inl gsl)), (mco, .inl (cI, 3, .inl gco)), (mte, .inl (cI, 3, .inl (upd (upd gte (0 : Int32).toNatClampNeg q_120) (1 : Int32).toNatClampNeg q_144))), (mwo, .inl (cI, 64, .inl gwo)), (mce, .inl (cJ, 1280, .inr (.inl gce))), (zMO m0 npu nte nat_ nde nto nse nhu nga nsd nfa mrf mki mpa mta mla msl mco mhe mso msi msh mce mca mwo mnu mte nba q_143 nen q_144 q_195 mwa mke mma mth mtr nra nik)]) hP hD rfl
                                    clear hP hD
                                    obtain ⟨hP, hD⟩ := h9R
                                    obtain rfl := hr_193
                                    have hI := zIn_c hn0 (by decide) hn1 (by decide) hn2
                                    exact W.zret (v := 0) hx hb hr (by decide) (fun t ht hW => ⟨⟨0, (npu, nte, nat_, nde, nse, nhu, nga, gki, gpa, gta, gla, gsl, gco, (upd (upd gte (0 : Int32).toNatClampNeg q_120) (1 : Int32).toNatClampNeg q_144), q_143, q_144, q_195), rfl, ⟨(show 0 ≤ npu.toInt ∧ npu.toInt ≤ 8 from ⟨hy0, hy1⟩), (show 4 ≤ nte.toInt ∧ nte.toInt ≤ 40 from ⟨hy2, hy3⟩), (show 0 ≤ nat_.toInt ∧ nat_.toInt ≤ 40 from ⟨hy4, hy5⟩), (show 0 ≤ nde.toInt ∧ nde.toInt ≤ 24 from ⟨hy6, hy7⟩), (show 0 ≤ nhu.toInt ∧ nhu.toInt ≤ 9 from ⟨hy8, hy9⟩), hp_gki, hp_gpa, hp_gta, hp_gla, hp_gsl, hp_gco, (show 0 ≤ q_143.toInt ∧ q_143.toInt ≤ 160 from hbq_143), (show npl.toInt ≤ q_143.toInt ∧ q_143.toInt ≤ nen.toInt from by exact ⟨by omega, by omega⟩), (show ((0 : Int32).toInt = 1 → (zItem (zMF gce nba.toInt) nen.toInt npl.toInt nte.toInt npu.toInt).1 = -1 ∧ q_143.toInt = (zItem (zMF gce nba.toInt) nen.toInt npl.toInt nte.toInt npu.toInt).2.1 ∧ nte.toInt = (zItem (zMF gce nba.toInt) nen.toInt npl.toInt nte.toInt npu.toInt).2.2.1 ∧ npu.toInt = (zItem (zMF gce nba.toInt) nen.toInt npl.toInt nte.toInt npu.toInt).2.2.2) ∧ ((0 : Int32).toInt = 0 → (zItem (zMF gce nba.toInt) nen.toInt npl.toInt nte.toInt npu.toInt).1 = q_195.toInt ∧ 0 ≤ q_195.toInt) from by (have k9 : (0 : Int32).toInt = 0 := (by decide); rw [zItem_w hW1 (by decide) hp8 rfl hI]; dsimp only; exact ⟨fun h => absurd h (by decide), fun _ => ⟨by first | rfl | (show _ = _; omega), by omega⟩⟩)), ⟨by decide, by decide⟩⟩, zRet ht hP hD [10, 8, 0, 9, 1, 2, 3, 4, 5, 6, 7] (by decide) rfl⟩, hS.F ht⟩) hS.2.2 dX8_item_93
                          · have fc_152 : r_149.toInt = 0 := zf_eq c_152 rfl (by decide)
                            obtain ⟨hy1_1, hy2_1, hy3_1⟩ := hsr_141_2.1 (by omega)
                            have hn1 : zN1 (zMF gce nba.toInt) nen.toInt (q_119 : Int32).toInt (zLo 3 1) (zHi 3 1 nte.toInt) = ((x_140 : Int32).toInt, (q_143 : Int32).toInt, (q_144 : Int32).toInt) := zN1_yes (p1 := (x_140 : Int32).toInt) (lo2 := 0) (hi2 := (9 : Int)) ⟨by omega, by (rw [zMF_at (by omega), ← hdx_138]; omega)⟩ (by omega) hy1_1 hy2_1 (by decide) (by first | rfl | decide | (show nte.toInt - 1 = _; omega) | (show nte.toInt = _; omega)) (by omega)
                            refine lv_aload_n hx hb dX8_item_127 rfl (lv_at hl 3 rfl) ?_
                            refine lv_iload_n hx hb dX8_item_128 rfl (lv_at hl 0 rfl) ?_
                            skip
                            refine zw_V (As := [.int x_140]) (rest := []) (wr := [(mnu, .inl (cI, 10, .inl gnu)), (mki, .inl (cI, 8, .inl gki)), (mpa, .inl (cI, 8, .inl gpa)), (mta, .inl (cI, 8, .inl gta)), (mla, .inl (cI, 40, .inl gla)), (msl, .inl (cI, 40, .inl gsl)), (mco, .inl (cI, 3, .inl gco)), (mte, .inl (cI, 3, .inl (upd gte (0 : Int32).toNatClampNeg q_120))), (mwo, .inl (cI, 64, .inl gwo)), (mce, .inl (cJ, 1280, .inr (.inl gce)))]) ⟨hx, hb, hml, hown, hts⟩ (c_F_M_wrong l D cI cJ cZ cP cS po m0 mrf mki mpa mta mla msl mco mhe mso msi msh mce mca mwo mnu mte mwa mke mma mth mtr (npu) (nte) (nat_) (nde) (nto) (nse) (nhu) (nga) (nsd) (nfa) (nba) (q_143) (nen) (q_144) (q_145) (nra) (nik) (x_140) hy0 hy1 hy2 hy3 hy4 hy5 hy6 hy7 hy8 hy9 hy10 hy11 hy12 hy13 H.size) (cwV 1 hts gX8_item_X8_wrong rfl rfl rfl ⟨rfl, dh_X8_wrong⟩ ⟨Nat.le_of_ble_eq_true rfl, Nat.le_of_ble_eq_true rfl⟩) hK hN (hZ.kept hS) hP hD hS hA [9] [0, 1, 2, 3, 4, 5, 6, 7, 8, 10] rfl rfl (by decide) (by decide) (by decide) (va_recv (q := (RX8, TX8, 38)) hK hP (ci := 8) (q0 := 9) rfl rfl) rfl hl.1 rfl (Nat.le_of_ble_eq_true rfl) dX8_item_129 ⟨Nat.le_of_ble_eq_true rfl, Nat.le_of_ble_eq_true rfl⟩ (fun r_196 u_197 H locs hr_196 hP hD hS => ?_)
                            obtain ⟨q_198, rfl⟩ : ∃ z, z = u_197 := ⟨_, rfl⟩
                            obtain ⟨hsr_196_0, hr_196⟩ := hr_196
                            have h9R := zRe (ws' := [(mnu, .inl (cI, 10, .inl gnu)), (mki, .inl (cI, 8, .inl gki)), (mpa, .inl (cI, 8, .inl gpa)), (mta, .inl (cI, 8, .inl gta)), (mla, .inl (cI, 40, .inl gla)), (msl, .inl (cI, 40, .inl gsl)), (mco, .inl (cI, 3, .inl gco)), (mte, .inl (cI, 3, .inl (upd gte (0 : Int32).toNatClampNeg q_120))), (mwo, .inl (cI, 64, .inl gwo)), (mce, .inl (cJ, 1280, .inr (.inl gce))), (zMO m0 npu nte nat_ nde nto nse nhu nga nsd nfa mrf mki mpa mta mla msl mco mhe mso msi msh mce mca mwo mnu mte nba q_143 nen q_144 q_198 mwa mke mma mth mtr nra nik)]) hP hD rfl
                            clear hP hD
                            obtain ⟨hP, hD⟩ := h9R
                            obtain rfl := hr_196
                            have hI := zIn_b hn0 (by decide) hn1 (by first | (right; decide) | (left; omega))
                            exact W.zret (v := 0) hx hb hr (by decide) (fun t ht hW => ⟨⟨0, (npu, nte, nat_, nde, nse, nhu, nga, gki, gpa, gta, gla, gsl, gco, (upd gte (0 : Int32).toNatClampNeg q_120), q_143, q_144, q_198), rfl, ⟨(show 0 ≤ npu.toInt ∧ npu.toInt ≤ 8 from ⟨hy0, hy1⟩), (show 4 ≤ nte.toInt ∧ nte.toInt ≤ 40 from ⟨hy2, hy3⟩), (show 0 ≤ nat_.toInt ∧ nat_.toInt ≤ 40 from ⟨hy4, hy5⟩), (show 0 ≤ nde.toInt ∧ nde.toInt ≤ 24 from ⟨hy6, hy7⟩), (show 0 ≤ nhu.toInt ∧ nhu.toInt ≤ 9 from ⟨hy8, hy9⟩), hp_gki, hp_gpa, hp_gta, hp_gla, hp_gsl, hp_gco, (show 0 ≤ q_143.toInt ∧ q_143.toInt ≤ 160 from hbq_143), (show npl.toInt ≤ q_143.toInt ∧ q_143.toInt ≤ nen.toInt from by exact ⟨by omega, by omega⟩), (show ((0 : Int32).toInt = 1 → (zItem (zMF gce nba.toInt) nen.toInt npl.toInt nte.toInt npu.toInt).1 = -1 ∧ q_143.toInt = (zItem (zMF gce nba.toInt) nen.toInt npl.toInt nte.toInt npu.toInt).2.1 ∧ nte.toInt = (zItem (zMF gce nba.toInt) nen.toInt npl.toInt nte.toInt npu.toInt).2.2.1 ∧ npu.toInt = (zItem (zMF gce nba.toInt) nen.toInt npl.toInt nte.toInt npu.toInt).2.2.2) ∧ ((0 : Int32).toInt = 0 → (zItem (zMF gce nba.toInt) nen.toInt npl.toInt nte.toInt npu.toInt).1 = q_198.toInt ∧ 0 ≤ q_198.toInt) from by (have k9 : (0 : Int32).toInt = 0 := (by decide); rw [zItem_w hW1 (by decide) hp8 rfl hI]; dsimp only; exact ⟨fun h => absurd h (by decide), fun _ => ⟨by first | rfl | (show _ = _; omega), by omega⟩⟩)), ⟨by decide, by decide⟩⟩, zRet ht hP hD [10, 8, 0, 9, 1, 2, 3, 4, 5, 6, 7] (by decide) rfl⟩, hS.F ht⟩) hS.2.2 dX8_item_132
                        · have fc_148 : r_141.toInt = 0 := zf_eq c_148 rfl (by decide)
                          have hn1 : zN1 (zMF gce nba.toInt) nen.toInt (q_119 : Int32).toInt (zLo 3 1) (zHi 3 1 nte.toInt) = ((x_140 : Int32).toInt, (x_140 : Int32).toInt, 0) := zN1_yes (p1 := (x_140 : Int32).toInt) (lo2 := 0) (hi2 := (9 : Int)) ⟨by omega, by (rw [zMF_at (by omega), ← hdx_138]; omega)⟩ (by omega) (hsr_141_2.2 (by omega)).1.symm zNv_0.symm (by decide) (by first | rfl | decide | (show nte.toInt - 1 = _; omega) | (show nte.toInt = _; omega)) (Or.inl ⟨rfl, Or.inl rfl⟩)
                          refine lv_iconst (v := 0) hx hb dX8_item_116 (by decide) ?_
                          have hI := zIn_b hn0 (by decide) hn1 (by first | (right; decide) | (left; omega))
                          exact W.zret (v := 0) hx hb hr (by decide) (fun t ht hW => ⟨⟨0, (npu, nte, nat_, nde, nse, nhu, nga, gki, gpa, gta, gla, gsl, gco, (upd gte (0 : Int32).toNatClampNeg q_120), q_143, q_144, q_145), rfl, ⟨(show 0 ≤ npu.toInt ∧ npu.toInt ≤ 8 from ⟨hy0, hy1⟩), (show 4 ≤ nte.toInt ∧ nte.toInt ≤ 40 from ⟨hy2, hy3⟩), (show 0 ≤ nat_.toInt ∧ nat_.toInt ≤ 40 from ⟨hy4, hy5⟩), (show 0 ≤ nde.toInt ∧ nde.toInt ≤ 24 from ⟨hy6, hy7⟩), (show 0 ≤ nhu.toInt ∧ nhu.toInt ≤ 9 from ⟨hy8, hy9⟩), hp_gki, hp_gpa, hp_gta, hp_gla, hp_gsl, hp_gco, (show 0 ≤ q_143.toInt ∧ q_143.toInt ≤ 160 from hbq_143), (show npl.toInt ≤ q_143.toInt ∧ q_143.toInt ≤ nen.toInt from by exact ⟨by omega, by omega⟩), (show ((0 : Int32).toInt = 1 → (zItem (zMF gce nba.toInt) nen.toInt npl.toInt nte.toInt npu.toInt).1 = -1 ∧ q_143.toInt = (zItem (zMF gce nba.toInt) nen.toInt npl.toInt nte.toInt npu.toInt).2.1 ∧ nte.toInt = (zItem (zMF gce nba.toInt) nen.toInt npl.toInt nte.toInt npu.toInt).2.2.1 ∧ npu.toInt = (zItem (zMF gce nba.toInt) nen.toInt npl.toInt nte.toInt npu.toInt).2.2.2) ∧ ((0 : Int32).toInt = 0 → (zItem (zMF gce nba.toInt) nen.toInt npl.toInt nte.toInt npu.toInt).1 = q_145.toInt ∧ 0 ≤ q_145.toInt) from by (have k9 : (0 : Int32).toInt = 0 := (by decide); rw [zItem_w hW1 (by decide) hp8 rfl hI]; dsimp only; exact ⟨fun h => absurd h (by decide), fun _ => ⟨by first | rfl | (show _ = _; omega), by omega⟩⟩)), ⟨by decide, by decide⟩⟩, zRet ht hP hD [9, 8, 0, 10, 1, 2, 3, 4, 5, 6, 7] (by decide) rfl⟩, hS.F ht⟩) hS.2.2 dX8_item_117
                      · have fc_139 : x_138.toInt ≠ 32 := zf_ne c_139 rfl (by decide)
                        have hn1 : zN1 (zMF gce nba.toInt) nen.toInt (q_119 : Int32).toInt (zLo 3 1) (zHi 3 1 nte.toInt) = ((q_119 : Int32).toInt, (q_119 : Int32).toInt, 0) := zN1_no (by first | (intro z; have z1 := z.1; omega) | (intro z; have z2 := z.2; rw [zMF_at (by omega), ← hdx_138] at z2; omega))
                        refine lv_aload_n hx hb dX8_item_85 rfl (lv_at hl 3 rfl) ?_
                        refine lv_aload_n hx hb dX8_item_86 rfl (lv_at hl 3 rfl) ?_
                        refine va_get (D := D) (ci := 8) (v := .int q_119) (C := RX8) (T := TX8) (N := 38) hx hb hts hi_X8_item_8 hown hK hP 9 rfl rfl 27 (by decide) (hts (.fieldLink RX8 152 "TheLiningsInItModel" "place" "I") (List.mem_of_getElem? (i := 2) rfl)) (fun _ h9 => h9) rfl dX8_item_87 ?_
                        skip
                        refine zw_V (As := [.int q_119]) (rest := []) (wr := [(mnu, .inl (cI, 10, .inl gnu)), (mki, .inl (cI, 8, .inl gki)), (mpa, .inl (cI, 8, .inl gpa)), (mta, .inl (cI, 8, .inl gta)), (mla, .inl (cI, 40, .inl gla)), (msl, .inl (cI, 40, .inl gsl)), (mco, .inl (cI, 3, .inl gco)), (mte, .inl (cI, 3, .inl (upd gte (0 : Int32).toNatClampNeg q_120))), (mwo, .inl (cI, 64, .inl gwo)), (mce, .inl (cJ, 1280, .inr (.inl gce)))]) ⟨hx, hb, hml, hown, hts⟩ (c_F_M_wrong l D cI cJ cZ cP cS po m0 mrf mki mpa mta mla msl mco mhe mso msi msh mce mca mwo mnu mte mwa mke mma mth mtr (npu) (nte) (nat_) (nde) (nto) (nse) (nhu) (nga) (nsd) (nfa) (nba) (q_119) (nen) (q_120) (q_121) (nra) (nik) (q_119) hy0 hy1 hy2 hy3 hy4 hy5 hy6 hy7 hy8 hy9 hy10 hy11 hy12 hy13 H.size) (cwV 1 hts gX8_item_X8_wrong rfl rfl rfl ⟨rfl, dh_X8_wrong⟩ ⟨Nat.le_of_ble_eq_true rfl, Nat.le_of_ble_eq_true rfl⟩) hK hN (hZ.kept hS) hP hD hS hA [9] [0, 1, 2, 3, 4, 5, 6, 7, 8, 10] rfl rfl (by decide) (by decide) (by decide) (va_recv (q := (RX8, TX8, 38)) hK hP (ci := 8) (q0 := 9) rfl rfl) rfl hl.1 rfl (Nat.le_of_ble_eq_true rfl) dX8_item_90 ⟨Nat.le_of_ble_eq_true rfl, Nat.le_of_ble_eq_true rfl⟩ (fun r_199 u_200 H locs hr_199 hP hD hS => ?_)
                        obtain ⟨q_201, rfl⟩ : ∃ z, z = u_200 := ⟨_, rfl⟩
                        obtain ⟨hsr_199_0, hr_199⟩ := hr_199
                        have h9R := zRe (ws' := [(mnu, .inl (cI, 10, .inl gnu)), (mki, .inl (cI, 8, .inl gki)), (mpa, .inl (cI, 8, .inl gpa)), (mta, .inl (cI, 8, .inl gta)), (mla, .inl (cI, 40, .inl gla)), (msl, .inl (cI, 40, .inl gsl)), (mco, .inl (cI, 3, .inl gco)), (mte, .inl (cI, 3, .inl (upd gte (0 : Int32).toNatClampNeg q_120))), (mwo, .inl (cI, 64, .inl gwo)), (mce, .inl (cJ, 1280, .inr (.inl gce))), (zMO m0 npu nte nat_ nde nto nse nhu nga nsd nfa mrf mki mpa mta mla msl mco mhe mso msi msh mce mca mwo mnu mte nba q_119 nen q_120 q_201 mwa mke mma mth mtr nra nik)]) hP hD rfl
                        clear hP hD
                        obtain ⟨hP, hD⟩ := h9R
                        obtain rfl := hr_199
                        have hI := zIn_b hn0 (by decide) hn1 (by first | (right; decide) | (left; omega))
                        exact W.zret (v := 0) hx hb hr (by decide) (fun t ht hW => ⟨⟨0, (npu, nte, nat_, nde, nse, nhu, nga, gki, gpa, gta, gla, gsl, gco, (upd gte (0 : Int32).toNatClampNeg q_120), q_119, q_120, q_201), rfl, ⟨(show 0 ≤ npu.toInt ∧ npu.toInt ≤ 8 from ⟨hy0, hy1⟩), (show 4 ≤ nte.toInt ∧ nte.toInt ≤ 40 from ⟨hy2, hy3⟩), (show 0 ≤ nat_.toInt ∧ nat_.toInt ≤ 40 from ⟨hy4, hy5⟩), (show 0 ≤ nde.toInt ∧ nde.toInt ≤ 24 from ⟨hy6, hy7⟩), (show 0 ≤ nhu.toInt ∧ nhu.toInt ≤ 9 from ⟨hy8, hy9⟩), hp_gki, hp_gpa, hp_gta, hp_gla, hp_gsl, hp_gco, (show 0 ≤ q_119.toInt ∧ q_119.toInt ≤ 160 from hbq_119), (show npl.toInt ≤ q_119.toInt ∧ q_119.toInt ≤ nen.toInt from by exact ⟨by omega, by omega⟩), (show ((0 : Int32).toInt = 1 → (zItem (zMF gce nba.toInt) nen.toInt npl.toInt nte.toInt npu.toInt).1 = -1 ∧ q_119.toInt = (zItem (zMF gce nba.toInt) nen.toInt npl.toInt nte.toInt npu.toInt).2.1 ∧ nte.toInt = (zItem (zMF gce nba.toInt) nen.toInt npl.toInt nte.toInt npu.toInt).2.2.1 ∧ npu.toInt = (zItem (zMF gce nba.toInt) nen.toInt npl.toInt nte.toInt npu.toInt).2.2.2) ∧ ((0 : Int32).toInt = 0 → (zItem (zMF gce nba.toInt) nen.toInt npl.toInt nte.toInt npu.toInt).1 = q_201.toInt ∧ 0 ≤ q_201.toInt) from by (have k9 : (0 : Int32).toInt = 0 := (by decide); rw [zItem_w hW1 (by decide) hp8 rfl hI]; dsimp only; exact ⟨fun h => absurd h (by decide), fun _ => ⟨by first | rfl | (show _ = _; omega), by omega⟩⟩)), ⟨by decide, by decide⟩⟩, zRet ht hP hD [10, 8, 0, 9, 1, 2, 3, 4, 5, 6, 7] (by decide) rfl⟩, hS.F ht⟩) hS.2.2 dX8_item_93
              · have fc_128 : r_125.toInt = 0 := zf_eq c_128 rfl (by decide)
                obtain ⟨hy1_0, hy2_0, hy3_0⟩ := hsr_117_2.1 (by omega)
                have hn0 : zN1 (zMF gce nba.toInt) nen.toInt (npl.toInt + ((zWds ((3 : Int)).toNat).length : Int)) (zLo 3 0) (zHi 3 0 nte.toInt) = ((q_7 : Int32).toInt, (q_119 : Int32).toInt, (q_120 : Int32).toInt) := zN1_yes (p1 := (q_7 : Int32).toInt) (lo2 := 0) (hi2 := (6 : Int)) ⟨hW2, hW3⟩ (by omega) hy1_0 hy2_0 (by decide) (by first | rfl | decide | (show nte.toInt - 1 = _; omega) | (show nte.toInt = _; omega)) (by omega)
                refine lv_aload_n hx hb dX8_item_127 rfl (lv_at hl 3 rfl) ?_
                refine lv_iload_n hx hb dX8_item_128 rfl (lv_at hl 0 rfl) ?_
                skip
                refine zw_V (As := [.int q_7]) (rest := []) (wr := [(mnu, .inl (cI, 10, .inl gnu)), (mki, .inl (cI, 8, .inl gki)), (mpa, .inl (cI, 8, .inl gpa)), (mta, .inl (cI, 8, .inl gta)), (mla, .inl (cI, 40, .inl gla)), (msl, .inl (cI, 40, .inl gsl)), (mco, .inl (cI, 3, .inl gco)), (mte, .inl (cI, 3, .inl gte)), (mwo, .inl (cI, 64, .inl gwo)), (mce, .inl (cJ, 1280, .inr (.inl gce)))]) ⟨hx, hb, hml, hown, hts⟩ (c_F_M_wrong l D cI cJ cZ cP cS po m0 mrf mki mpa mta mla msl mco mhe mso msi msh mce mca mwo mnu mte mwa mke mma mth mtr (npu) (nte) (nat_) (nde) (nto) (nse) (nhu) (nga) (nsd) (nfa) (nba) (q_119) (nen) (q_120) (q_121) (nra) (nik) (q_7) hy0 hy1 hy2 hy3 hy4 hy5 hy6 hy7 hy8 hy9 hy10 hy11 hy12 hy13 H.size) (cwV 1 hts gX8_item_X8_wrong rfl rfl rfl ⟨rfl, dh_X8_wrong⟩ ⟨Nat.le_of_ble_eq_true rfl, Nat.le_of_ble_eq_true rfl⟩) hK hN (hZ.kept hS) hP hD hS hA [9] [0, 1, 2, 3, 4, 5, 6, 7, 8, 10] rfl rfl (by decide) (by decide) (by decide) (va_recv (q := (RX8, TX8, 38)) hK hP (ci := 8) (q0 := 9) rfl rfl) rfl hl.1 rfl (Nat.le_of_ble_eq_true rfl) dX8_item_129 ⟨Nat.le_of_ble_eq_true rfl, Nat.le_of_ble_eq_true rfl⟩ (fun r_202 u_203 H locs hr_202 hP hD hS => ?_)
                obtain ⟨q_204, rfl⟩ : ∃ z, z = u_203 := ⟨_, rfl⟩
                obtain ⟨hsr_202_0, hr_202⟩ := hr_202
                have h9R := zRe (ws' := [(mnu, .inl (cI, 10, .inl gnu)), (mki, .inl (cI, 8, .inl gki)), (mpa, .inl (cI, 8, .inl gpa)), (mta, .inl (cI, 8, .inl gta)), (mla, .inl (cI, 40, .inl gla)), (msl, .inl (cI, 40, .inl gsl)), (mco, .inl (cI, 3, .inl gco)), (mte, .inl (cI, 3, .inl gte)), (mwo, .inl (cI, 64, .inl gwo)), (mce, .inl (cJ, 1280, .inr (.inl gce))), (zMO m0 npu nte nat_ nde nto nse nhu nga nsd nfa mrf mki mpa mta mla msl mco mhe mso msi msh mce mca mwo mnu mte nba q_119 nen q_120 q_204 mwa mke mma mth mtr nra nik)]) hP hD rfl
                clear hP hD
                obtain ⟨hP, hD⟩ := h9R
                obtain rfl := hr_202
                have hI := zIn_a hn0 (by first | (right; decide) | (left; omega))
                exact W.zret (v := 0) hx hb hr (by decide) (fun t ht hW => ⟨⟨0, (npu, nte, nat_, nde, nse, nhu, nga, gki, gpa, gta, gla, gsl, gco, gte, q_119, q_120, q_204), rfl, ⟨(show 0 ≤ npu.toInt ∧ npu.toInt ≤ 8 from ⟨hy0, hy1⟩), (show 4 ≤ nte.toInt ∧ nte.toInt ≤ 40 from ⟨hy2, hy3⟩), (show 0 ≤ nat_.toInt ∧ nat_.toInt ≤ 40 from ⟨hy4, hy5⟩), (show 0 ≤ nde.toInt ∧ nde.toInt ≤ 24 from ⟨hy6, hy7⟩), (show 0 ≤ nhu.toInt ∧ nhu.toInt ≤ 9 from ⟨hy8, hy9⟩), hp_gki, hp_gpa, hp_gta, hp_gla, hp_gsl, hp_gco, (show 0 ≤ q_119.toInt ∧ q_119.toInt ≤ 160 from hbq_119), (show npl.toInt ≤ q_119.toInt ∧ q_119.toInt ≤ nen.toInt from by exact ⟨by omega, by omega⟩), (show ((0 : Int32).toInt = 1 → (zItem (zMF gce nba.toInt) nen.toInt npl.toInt nte.toInt npu.toInt).1 = -1 ∧ q_119.toInt = (zItem (zMF gce nba.toInt) nen.toInt npl.toInt nte.toInt npu.toInt).2.1 ∧ nte.toInt = (zItem (zMF gce nba.toInt) nen.toInt npl.toInt nte.toInt npu.toInt).2.2.1 ∧ npu.toInt = (zItem (zMF gce nba.toInt) nen.toInt npl.toInt nte.toInt npu.toInt).2.2.2) ∧ ((0 : Int32).toInt = 0 → (zItem (zMF gce nba.toInt) nen.toInt npl.toInt nte.toInt npu.toInt).1 = q_204.toInt ∧ 0 ≤ q_204.toInt) from by (have k9 : (0 : Int32).toInt = 0 := (by decide); rw [zItem_w hW1 (by decide) hp8 rfl hI]; dsimp only; exact ⟨fun h => absurd h (by decide), fun _ => ⟨by first | rfl | (show _ = _; omega), by omega⟩⟩)), ⟨by decide, by decide⟩⟩, zRet ht hP hD [10, 8, 0, 9, 1, 2, 3, 4, 5, 6, 7] (by decide) rfl⟩, hS.F ht⟩) hS.2.2 dX8_item_132
            · have fc_124 : r_117.toInt = 0 := zf_eq c_124 rfl (by decide)
              have hn0 : zN1 (zMF gce nba.toInt) nen.toInt (npl.toInt + ((zWds ((3 : Int)).toNat).length : Int)) (zLo 3 0) (zHi 3 0 nte.toInt) = ((q_7 : Int32).toInt, (q_7 : Int32).toInt, 0) := zN1_yes (p1 := (q_7 : Int32).toInt) (lo2 := 0) (hi2 := (6 : Int)) ⟨hW2, hW3⟩ (by omega) (hsr_117_2.2 (by omega)).1.symm zNv_0.symm (by decide) (by first | rfl | decide | (show nte.toInt - 1 = _; omega) | (show nte.toInt = _; omega)) (Or.inl ⟨rfl, Or.inl rfl⟩)
              refine lv_iconst (v := 0) hx hb dX8_item_116 (by decide) ?_
              have hI := zIn_a hn0 (by first | (right; decide) | (left; omega))
              exact W.zret (v := 0) hx hb hr (by decide) (fun t ht hW => ⟨⟨0, (npu, nte, nat_, nde, nse, nhu, nga, gki, gpa, gta, gla, gsl, gco, gte, q_119, q_120, q_121), rfl, ⟨(show 0 ≤ npu.toInt ∧ npu.toInt ≤ 8 from ⟨hy0, hy1⟩), (show 4 ≤ nte.toInt ∧ nte.toInt ≤ 40 from ⟨hy2, hy3⟩), (show 0 ≤ nat_.toInt ∧ nat_.toInt ≤ 40 from ⟨hy4, hy5⟩), (show 0 ≤ nde.toInt ∧ nde.toInt ≤ 24 from ⟨hy6, hy7⟩), (show 0 ≤ nhu.toInt ∧ nhu.toInt ≤ 9 from ⟨hy8, hy9⟩), hp_gki, hp_gpa, hp_gta, hp_gla, hp_gsl, hp_gco, (show 0 ≤ q_119.toInt ∧ q_119.toInt ≤ 160 from hbq_119), (show npl.toInt ≤ q_119.toInt ∧ q_119.toInt ≤ nen.toInt from by exact ⟨by omega, by omega⟩), (show ((0 : Int32).toInt = 1 → (zItem (zMF gce nba.toInt) nen.toInt npl.toInt nte.toInt npu.toInt).1 = -1 ∧ q_119.toInt = (zItem (zMF gce nba.toInt) nen.toInt npl.toInt nte.toInt npu.toInt).2.1 ∧ nte.toInt = (zItem (zMF gce nba.toInt) nen.toInt npl.toInt nte.toInt npu.toInt).2.2.1 ∧ npu.toInt = (zItem (zMF gce nba.toInt) nen.toInt npl.toInt nte.toInt npu.toInt).2.2.2) ∧ ((0 : Int32).toInt = 0 → (zItem (zMF gce nba.toInt) nen.toInt npl.toInt nte.toInt npu.toInt).1 = q_121.toInt ∧ 0 ≤ q_121.toInt) from by (have k9 : (0 : Int32).toInt = 0 := (by decide); rw [zItem_w hW1 (by decide) hp8 rfl hI]; dsimp only; exact ⟨fun h => absurd h (by decide), fun _ => ⟨by first | rfl | (show _ = _; omega), by omega⟩⟩)), ⟨by decide, by decide⟩⟩, zRet ht hP hD [9, 8, 0, 10, 1, 2, 3, 4, 5, 6, 7] (by decide) rfl⟩, hS.F ht⟩) hS.2.2 dX8_item_117
          · exact absurd c_116 (by decide)
      · have kc4 : (4 : Int32).toInt = 4 := by decide
        have z9 := hsr_5_1
        rw [kc4] at z9
        obtain ⟨hW1, hW2, hW3, hW4⟩ := zItem_Mw (f := (zMF gce nba.toInt)) (e := nen.toInt) (p := npl.toInt) (w := 4) (by omega) (by decide)
        have hp8 : ¬ ((4 : Int) = 3 ∧ npu.toInt = 8) := fun z => absurd z.1 (by decide)
        refine lv_iconst (v := 0) hx hb dX8_item_38 (by decide) ?_
        refine lv_istore_n (lv' := [(2, .int 0), (1, .int 4), (0, .ref m0)]) hx hb dX8_item_39 rfl hl (by decide) rfl (fun ls hl => ?_)
        refine lv_iload_n hx hb dX8_item_40 rfl (lv_at hl 0 rfl) ?_
        refine lv_aload_n hx hb dX8_item_41 rfl (lv_at hl 2 rfl) ?_
        refine va_get (D := D) (ci := 8) (v := .ref mnu) (C := RX8) (T := TX8) (N := 38) hx hb hts hi_X8_item_8 hown hK hP 8 rfl rfl 24 (by decide) (hts (.fieldLink RX8 69 "TheLiningsInItModel" "numbers" "[I") (List.mem_of_getElem? (i := 3) rfl)) (fun _ h9 => h9) rfl dX8_item_42 ?_
        refine lv_iload_n hx hb dX8_item_45 rfl (lv_at hl 1 rfl) ?_
        refine va_iald hx hb hK hP 0 0 rfl rfl (zf_in (by decide) (by decide)) dX8_item_46 ?_
        refine lv_topi (fun x_205 ex_205 => ?_)
        obtain rfl : x_205 = 1 := ex_205.trans ((congrArg gnu (show (4 : Int32).toNatClampNeg = 4 from by decide)).trans ((hnu 4 (by decide)).trans (by decide)))
        refine lv_icmp_ge (tgt := 149) hx hb dX8_item_47 (by decide) (fun c_206 => ?_) (fun c_206 => ?_)
        · exact absurd c_206 (by decide)
        · refine lv_iload_n hx hb dX8_item_50 rfl (lv_at hl 0 rfl) ?_
          refine lv_if_le (tgt := 104) hx hb dX8_item_51 (by decide) (fun c_207 => ?_) (fun c_207 => ?_)
          · refine lv_aload_n hx hb dX8_item_104 rfl (lv_at hl 2 rfl) ?_
            refine va_get (D := D) (ci := 8) (v := .int q_7) (C := RX8) (T := TX8) (N := 38) hx hb hts hi_X8_item_8 hown hK hP 8 rfl rfl 27 (by decide) (hts (.fieldLink RX8 152 "TheLiningsInItModel" "place" "I") (List.mem_of_getElem? (i := 2) rfl)) (fun _ h9 => h9) rfl dX8_item_105 ?_
            refine lv_istore_n (lv' := [(3, .int q_7), (2, .int 0), (1, .int 4), (0, .ref m0)]) hx hb dX8_item_108 rfl hl (by decide) rfl (fun ls hl => ?_)
            refine lv_aload_n hx hb dX8_item_109 rfl (lv_at hl 3 rfl) ?_
            skip
            refine zw_V (As := []) (rest := []) (wr := [(mnu, .inl (cI, 10, .inl gnu)), (mki, .inl (cI, 8, .inl gki)), (mpa, .inl (cI, 8, .inl gpa)), (mta, .inl (cI, 8, .inl gta)), (mla, .inl (cI, 40, .inl gla)), (msl, .inl (cI, 40, .inl gsl)), (mco, .inl (cI, 3, .inl gco)), (mte, .inl (cI, 3, .inl gte)), (mwo, .inl (cI, 64, .inl gwo))]) ⟨hx, hb, hml, hown, hts⟩ (c_F_M_reads l D cI cJ cZ cP cS po m0 mrf mki mpa mta mla msl mco mhe mso msi msh mce mca mwo mnu mte mwa mke mma mth mtr (npu) (nte) (nat_) (nde) (nto) (nse) (nhu) (nga) (nsd) (nfa) (nba) (q_7) (nen) (nnu) (q_8) (nra) (nik) gce hy0 hy1 hy2 hy3 hy4 hy5 hy6 hy7 hy8 hy9 hy10 hy11 hy12 hy13 hy14 hy15 hbq_7.1 hbq_7.2 hy18 hy19 (by omega) H.size) (cwV 0 hts gX8_item_X8_reads rfl rfl rfl ⟨rfl, dh_X8_reads⟩ ⟨Nat.le_of_ble_eq_true rfl, Nat.le_of_ble_eq_true rfl⟩) hK hN (hZ.kept hS) hP hD hS hA [8, 10] [0, 1, 2, 3, 4, 5, 6, 7, 9] rfl rfl (by decide) (by decide) (by decide) (va_recv (q := (RX8, TX8, 38)) hK hP (ci := 8) (q0 := 8) rfl rfl) rfl hl.1 rfl (Nat.le_of_ble_eq_true rfl) dX8_item_110 ⟨Nat.le_of_ble_eq_true rfl, Nat.le_of_ble_eq_true rfl⟩ (fun r_208 u_209 H locs hr_208 hP hD hS => ?_)
            obtain ⟨q_210, q_211, q_212⟩ := u_209
            try dsimp only at hr_208
            obtain ⟨hbq_210, hsr_208_0, hsr_208_1, hsr_208_2, hr_208⟩ := hr_208
            have h9R := zRe (ws' := [(mnu, .inl (cI, 10, .inl gnu)), (mki, .inl (cI, 8, .inl gki)), (mpa, .inl (cI, 8, .inl gpa)), (mta, .inl (cI, 8, .inl gta)), (mla, .inl (cI, 40, .inl gla)), (msl, .inl (cI, 40, .inl gsl)), (mco, .inl (cI, 3, .inl gco)), (mte, .inl (cI, 3, .inl gte)), (mwo, .inl (cI, 64, .inl gwo)), (zMO m0 npu nte nat_ nde nto nse nhu nga nsd nfa mrf mki mpa mta mla msl mco mhe mso msi msh mce mca mwo mnu mte nba q_210 nen q_211 q_212 mwa mke mma mth mtr nra nik), (mce, .inl (cJ, 1280, .inr (.inl gce)))]) hP hD rfl
            clear hP hD
            obtain ⟨hP, hD⟩ := h9R
            obtain ⟨g_213, g_214⟩ := hr_208
            refine lv_if_ne (tgt := 118) hx hb dX8_item_113 (by decide) (fun c_215 => ?_) (fun c_215 => ?_)
            · have fc_215 : r_208.toInt ≠ 0 := zf_ne c_215 rfl (by decide)
              refine lv_aload_n hx hb dX8_item_118 rfl (lv_at hl 3 rfl) ?_
              refine lv_iload_n hx hb dX8_item_119 rfl (lv_at hl 2 rfl) ?_
              refine lv_iload_n hx hb dX8_item_120 rfl (lv_at hl 1 rfl) ?_
              refine zc_V (As := [.int 4, .int 0]) (rest := []) ⟨hx, hb, hml, hown, hts⟩ (c_F_M_isSo_4_0 l D cI cJ cZ cP cS po m0 mrf mki mpa mta mla msl mco mhe mso msi msh mce mca mwo mnu mte mwa mke mma mth mtr (npu) (nte) (nat_) (nde) (nto) (nse) (nhu) (nga) (nsd) (nfa) (nba) (q_210) (nen) (q_211) (q_212) (nra) (nik) hy0 hy1 hy2 hy3 hy4 hy5 hy6 hy7 hy8 hy9 hy10 hy11 hy12 hy13 (by omega) (by omega)) (cwV 2 hts gX8_item_X8_isSo rfl rfl rfl ⟨rfl, dh_X8_isSo⟩ ⟨Nat.le_of_ble_eq_true rfl, Nat.le_of_ble_eq_true rfl⟩) hK hN (hZ.kept hS) hP (hP.sub [9] rfl) (va_recv (q := (RX8, TX8, 38)) hK hP (ci := 8) (q0 := 9) rfl rfl) rfl hl.1 rfl (Nat.le_of_ble_eq_true rfl) dX8_item_121 ⟨Nat.le_of_ble_eq_true rfl, Nat.le_of_ble_eq_true rfl⟩ (fun r_216 hr_216 => ?_)
              obtain ⟨g_217, g_218, hsr_216_0⟩ := hr_216
              refine lv_if_ne (tgt := 133) hx hb dX8_item_124 (by decide) (fun c_219 => ?_) (fun c_219 => ?_)
              · have fc_219 : r_216.toInt ≠ 0 := zf_ne c_219 rfl (by decide)
                obtain ⟨hy1_0, hy2_0, hy3_0⟩ := hsr_208_2.1 (by omega)
                have hn0 : zN1 (zMF gce nba.toInt) nen.toInt (npl.toInt + ((zWds ((4 : Int)).toNat).length : Int)) (zLo 4 0) (zHi 4 0 nte.toInt) = (-1, (q_210 : Int32).toInt, (q_211 : Int32).toInt) := zN1_yes (p1 := (q_7 : Int32).toInt) (lo2 := 0) (hi2 := (24 : Int)) ⟨hW2, hW3⟩ (by omega) hy1_0 hy2_0 (by decide) (by first | rfl | decide | (show nte.toInt - 1 = _; omega) | (show nte.toInt = _; omega)) (by omega)
                refine lv_aload_n hx hb dX8_item_133 rfl (lv_at hl 3 rfl) ?_
                refine va_get (D := D) (ci := 8) (v := .ref mte) (C := RX8) (T := TX8) (N := 38) hx hb hts hi_X8_item_8 hown hK hP 9 rfl rfl 25 (by decide) (hts (.fieldLink RX8 72 "TheLiningsInItModel" "tell" "[I") (List.mem_of_getElem? (i := 7) rfl)) (fun _ h9 => h9) rfl dX8_item_134 ?_
                refine lv_iload_n hx hb dX8_item_137 rfl (lv_at hl 1 rfl) ?_
                refine lv_aload_n hx hb dX8_item_138 rfl (lv_at hl 3 rfl) ?_
                refine va_get (D := D) (ci := 8) (v := .int q_211) (C := RX8) (T := TX8) (N := 38) hx hb hts hi_X8_item_8 hown hK hP 9 rfl rfl 29 (by decide) (hts (.fieldLink RX8 161 "TheLiningsInItModel" "number" "I") (List.mem_of_getElem? (i := 8) rfl)) (fun _ h9 => h9) rfl dX8_item_139 ?_
                refine va_iast hx hb hK hP hD hS 7 0 rfl rfl (zf_in (by decide) (by decide)) dX8_item_142 (fun H locs hP hD hS => ?_)
                have h9R := zRe (ws' := [(mnu, .inl (cI, 10, .inl gnu)), (mki, .inl (cI, 8, .inl gki)), (mpa, .inl (cI, 8, .inl gpa)), (mta, .inl (cI, 8, .inl gta)), (mla, .inl (cI, 40, .inl gla)), (msl, .inl (cI, 40, .inl gsl)), (mco, .inl (cI, 3, .inl gco)), (mte, .inl (cI, 3, .inl (upd gte (0 : Int32).toNatClampNeg q_211))), (mwo, .inl (cI, 64, .inl gwo)), (zMO m0 npu nte nat_ nde nto nse nhu nga nsd nfa mrf mki mpa mta mla msl mco mhe mso msi msh mce mca mwo mnu mte nba q_210 nen q_211 q_212 mwa mke mma mth mtr nra nik), (mce, .inl (cJ, 1280, .inr (.inl gce)))]) hP hD rfl
                clear hP hD
                obtain ⟨hP, hD⟩ := h9R
                refine lv_iinc (v := 1) (lv' := [(2, .int 1), (3, .int q_7), (1, .int 4), (0, .ref m0)]) hx hb dX8_item_143 hl (k := 1) rfl (by decide) (by decide) rfl (fun ls hl => ?_)
                refine lv_goto (tgt := 40) hx hb dX8_item_146 (by decide) ?_
                refine lv_iload_n hx hb dX8_item_40 rfl (lv_at hl 0 rfl) ?_
                refine lv_aload_n hx hb dX8_item_41 rfl (lv_at hl 3 rfl) ?_
                refine va_get (D := D) (ci := 8) (v := .ref mnu) (C := RX8) (T := TX8) (N := 38) hx hb hts hi_X8_item_8 hown hK hP 9 rfl rfl 24 (by decide) (hts (.fieldLink RX8 69 "TheLiningsInItModel" "numbers" "[I") (List.mem_of_getElem? (i := 3) rfl)) (fun _ h9 => h9) rfl dX8_item_42 ?_
                refine lv_iload_n hx hb dX8_item_45 rfl (lv_at hl 2 rfl) ?_
                refine va_iald hx hb hK hP 0 0 rfl rfl (zf_in (by decide) (by decide)) dX8_item_46 ?_
                refine lv_topi (fun x_220 ex_220 => ?_)
                obtain rfl : x_220 = 1 := ex_220.trans ((congrArg gnu (show (4 : Int32).toNatClampNeg = 4 from by decide)).trans ((hnu 4 (by decide)).trans (by decide)))
                refine lv_icmp_ge (tgt := 149) hx hb dX8_item_47 (by decide) (fun c_221 => ?_) (fun c_221 => ?_)
                · refine lv_iload_n hx hb dX8_item_149 rfl (lv_at hl 2 rfl) ?_
                  refine lv_tableIn (tgt := 311) hx hb dX8_item_150 (by decide) (by decide) rfl (by decide) ?_
                  refine lv_aload_n hx hb dX8_item_311 rfl (lv_at hl 3 rfl) ?_
                  refine lv_iload_n hx hb dX8_item_312 rfl (lv_at hl 2 rfl) ?_
                  refine lv_iconst (v := 4) hx hb dX8_item_313 (by decide) ?_
                  refine lv_isub hx hb dX8_item_314 ?_
                  refine lv_topi (fun y_222 ey_222 => ?_)
                  obtain rfl : y_222 = 0 := ey_222.trans (by decide)
                  refine lv_aload_n hx hb dX8_item_315 rfl (lv_at hl 3 rfl) ?_
                  refine va_get (D := D) (ci := 8) (v := .ref mte) (C := RX8) (T := TX8) (N := 38) hx hb hts hi_X8_item_8 hown hK hP 9 rfl rfl 25 (by decide) (hts (.fieldLink RX8 72 "TheLiningsInItModel" "tell" "[I") (List.mem_of_getElem? (i := 7) rfl)) (fun _ h9 => h9) rfl dX8_item_316 ?_
                  refine lv_iconst (v := 0) hx hb dX8_item_319 (by decide) ?_
                  refine va_iald hx hb hK hP 7 0 rfl rfl (zf_in (by decide) (by decide)) dX8_item_320 ?_
                  refine lv_topi (fun x_223 ex_223 => ?_)
                  obtain rfl : q_211 = x_223 := (ex_223.trans (if_pos rfl)).symm
                  have kc0 : (0 : Int32).toInt = 0 := by decide
                  skip
                  refine zw_Vv (As := [.int 0, .int q_211]) (rest := []) (wr := [(mnu, .inl (cI, 10, .inl gnu)), (mki, .inl (cI, 8, .inl gki)), (mpa, .inl (cI, 8, .inl gpa)), (mta, .inl (cI, 8, .inl gta)), (mla, .inl (cI, 40, .inl gla)), (msl, .inl (cI, 40, .inl gsl)), (mte, .inl (cI, 3, .inl (upd gte (0 : Int32).toNatClampNeg q_211))), (mwo, .inl (cI, 64, .inl gwo)), (mce, .inl (cJ, 1280, .inr (.inl gce)))]) ⟨hx, hb, hml, hown, hts⟩ (c_M_tells l D cI cJ cZ cP cS po m0 mrf mki mpa mta mla msl mco mhe mso msi msh mce mca mwo mnu mte mwa mke mma mth mtr (npu) (nte) (nat_) (nde) (nto) (nse) (nhu) (nga) (nsd) (nfa) (nba) (q_210) (nen) (q_211) (q_212) (nra) (nik) gco (0) (q_211) hy0 hy1 hy2 hy3 hy4 hy5 hy6 hy7 hy8 hy9 hy10 hy11 hy12 hy13 (by omega) (by omega) (by omega) hp_gco H.size) (cwV 2 hts gX8_item_X8_tells rfl rfl rfl ⟨rfl, dh_X8_tells⟩ ⟨Nat.le_of_ble_eq_true rfl, Nat.le_of_ble_eq_true rfl⟩) hK hN (hZ.kept hS) hP hD hS hA [9, 6] [0, 1, 2, 3, 4, 5, 7, 8, 10] rfl rfl (by decide) (by decide) (by decide) (va_recv (q := (RX8, TX8, 38)) hK hP (ci := 8) (q0 := 9) rfl rfl) rfl hl.1 rfl (Nat.le_of_ble_eq_true rfl) dX8_item_321 ⟨Nat.le_of_ble_eq_true rfl, Nat.le_of_ble_eq_true rfl⟩ (fun u_225 H locs hr_224 hP hD hS => ?_)
                  obtain ⟨q_226, q_227, q_228, q_229, q_230, q_231⟩ := u_225
                  try dsimp only at hr_224
                  obtain ⟨hbq_226, hbq_228, hbq_230, hpq_231, hr_224⟩ := hr_224
                  have h9R := zRe (ws' := [(mnu, .inl (cI, 10, .inl gnu)), (mki, .inl (cI, 8, .inl gki)), (mpa, .inl (cI, 8, .inl gpa)), (mta, .inl (cI, 8, .inl gta)), (mla, .inl (cI, 40, .inl gla)), (msl, .inl (cI, 40, .inl gsl)), (mte, .inl (cI, 3, .inl (upd gte (0 : Int32).toNatClampNeg q_211))), (mwo, .inl (cI, 64, .inl gwo)), (mce, .inl (cJ, 1280, .inr (.inl gce))), (zMO m0 npu nte q_230 q_226 nto q_227 q_228 q_229 nsd nfa mrf mki mpa mta mla msl mco mhe mso msi msh mce mca mwo mnu mte nba q_210 nen q_211 q_212 mwa mke mma mth mtr nra nik), (mco, .inl (cI, 3, .inl q_231))]) hP hD rfl
                  clear hP hD
                  obtain ⟨hP, hD⟩ := h9R
                  refine lv_iconst (v := 1) hx hb dX8_item_324 (by decide) ?_
                  have hI := zIn_a hn0 (by first | (right; decide) | (left; omega))
                  exact W.zret (v := 1) hx hb hr (by decide) (fun t ht hW => ⟨⟨1, (npu, nte, q_230, q_226, q_227, q_228, q_229, gki, gpa, gta, gla, gsl, q_231, (upd gte (0 : Int32).toNatClampNeg q_211), q_210, q_211, q_212), rfl, ⟨(show 0 ≤ npu.toInt ∧ npu.toInt ≤ 8 from ⟨hy0, hy1⟩), (show 4 ≤ nte.toInt ∧ nte.toInt ≤ 40 from ⟨hy2, hy3⟩), (show 0 ≤ q_230.toInt ∧ q_230.toInt ≤ 40 from hbq_230), (show 0 ≤ q_226.toInt ∧ q_226.toInt ≤ 24 from hbq_226), (show 0 ≤ q_228.toInt ∧ q_228.toInt ≤ 9 from hbq_228), hp_gki, hp_gpa, hp_gta, hp_gla, hp_gsl, hpq_231, (show 0 ≤ q_210.toInt ∧ q_210.toInt ≤ 160 from hbq_210), (show npl.toInt ≤ q_210.toInt ∧ q_210.toInt ≤ nen.toInt from by exact ⟨by omega, by omega⟩), (show ((1 : Int32).toInt = 1 → (zItem (zMF gce nba.toInt) nen.toInt npl.toInt nte.toInt npu.toInt).1 = -1 ∧ q_210.toInt = (zItem (zMF gce nba.toInt) nen.toInt npl.toInt nte.toInt npu.toInt).2.1 ∧ nte.toInt = (zItem (zMF gce nba.toInt) nen.toInt npl.toInt nte.toInt npu.toInt).2.2.1 ∧ npu.toInt = (zItem (zMF gce nba.toInt) nen.toInt npl.toInt nte.toInt npu.toInt).2.2.2) ∧ ((1 : Int32).toInt = 0 → (zItem (zMF gce nba.toInt) nen.toInt npl.toInt nte.toInt npu.toInt).1 = q_212.toInt ∧ 0 ≤ q_212.toInt) from by (have k9 : (1 : Int32).toInt = 1 := (by decide); rw [zItem_w hW1 (by decide) hp8 rfl hI]; dsimp only; exact ⟨fun _ => ⟨rfl, by first | rfl | omega, by (show _ = (if (4 : Int) = 0 then _ else _); rw [if_neg (by decide)]), by (show _ = (if (4 : Int) = 3 then _ else _); rw [if_neg (by decide)])⟩, fun h => absurd h (by decide)⟩)), ⟨by decide, by decide⟩⟩, zRet ht hP hD [9, 7, 0, 8, 1, 2, 3, 4, 5, 10, 6] (by decide) rfl⟩, hS.F ht⟩) hS.2.2 dX8_item_325
                · exact absurd c_221 (by decide)
              · have fc_219 : r_216.toInt = 0 := zf_eq c_219 rfl (by decide)
                obtain ⟨hy1_0, hy2_0, hy3_0⟩ := hsr_208_2.1 (by omega)
                have hn0 : zN1 (zMF gce nba.toInt) nen.toInt (npl.toInt + ((zWds ((4 : Int)).toNat).length : Int)) (zLo 4 0) (zHi 4 0 nte.toInt) = ((q_7 : Int32).toInt, (q_210 : Int32).toInt, (q_211 : Int32).toInt) := zN1_yes (p1 := (q_7 : Int32).toInt) (lo2 := 0) (hi2 := (24 : Int)) ⟨hW2, hW3⟩ (by omega) hy1_0 hy2_0 (by decide) (by first | rfl | decide | (show nte.toInt - 1 = _; omega) | (show nte.toInt = _; omega)) (by omega)
                refine lv_aload_n hx hb dX8_item_127 rfl (lv_at hl 3 rfl) ?_
                refine lv_iload_n hx hb dX8_item_128 rfl (lv_at hl 0 rfl) ?_
                skip
                refine zw_V (As := [.int q_7]) (rest := []) (wr := [(mnu, .inl (cI, 10, .inl gnu)), (mki, .inl (cI, 8, .inl gki)), (mpa, .inl (cI, 8, .inl gpa)), (mta, .inl (cI, 8, .inl gta)), (mla, .inl (cI, 40, .inl gla)), (msl, .inl (cI, 40, .inl gsl)), (mco, .inl (cI, 3, .inl gco)), (mte, .inl (cI, 3, .inl gte)), (mwo, .inl (cI, 64, .inl gwo)), (mce, .inl (cJ, 1280, .inr (.inl gce)))]) ⟨hx, hb, hml, hown, hts⟩ (c_F_M_wrong l D cI cJ cZ cP cS po m0 mrf mki mpa mta mla msl mco mhe mso msi msh mce mca mwo mnu mte mwa mke mma mth mtr (npu) (nte) (nat_) (nde) (nto) (nse) (nhu) (nga) (nsd) (nfa) (nba) (q_210) (nen) (q_211) (q_212) (nra) (nik) (q_7) hy0 hy1 hy2 hy3 hy4 hy5 hy6 hy7 hy8 hy9 hy10 hy11 hy12 hy13 H.size) (cwV 1 hts gX8_item_X8_wrong rfl rfl rfl ⟨rfl, dh_X8_wrong⟩ ⟨Nat.le_of_ble_eq_true rfl, Nat.le_of_ble_eq_true rfl⟩) hK hN (hZ.kept hS) hP hD hS hA [9] [0, 1, 2, 3, 4, 5, 6, 7, 8, 10] rfl rfl (by decide) (by decide) (by decide) (va_recv (q := (RX8, TX8, 38)) hK hP (ci := 8) (q0 := 9) rfl rfl) rfl hl.1 rfl (Nat.le_of_ble_eq_true rfl) dX8_item_129 ⟨Nat.le_of_ble_eq_true rfl, Nat.le_of_ble_eq_true rfl⟩ (fun r_232 u_233 H locs hr_232 hP hD hS => ?_)
                obtain ⟨q_234, rfl⟩ : ∃ z, z = u_233 := ⟨_, rfl⟩
                obtain ⟨hsr_232_0, hr_232⟩ := hr_232
                have h9R := zRe (ws' := [(mnu, .inl (cI, 10, .inl gnu)), (mki, .inl (cI, 8, .inl gki)), (mpa, .inl (cI, 8, .inl gpa)), (mta, .inl (cI, 8, .inl gta)), (mla, .inl (cI, 40, .inl gla)), (msl, .inl (cI, 40, .inl gsl)), (mco, .inl (cI, 3, .inl gco)), (mte, .inl (cI, 3, .inl gte)), (mwo, .inl (cI, 64, .inl gwo)), (mce, .inl (cJ, 1280, .inr (.inl gce))), (zMO m0 npu nte nat_ nde nto nse nhu nga nsd nfa mrf mki mpa mta mla msl mco mhe mso msi msh mce mca mwo mnu mte nba q_210 nen q_211 q_234 mwa mke mma mth mtr nra nik)]) hP hD rfl
                clear hP hD
                obtain ⟨hP, hD⟩ := h9R
                obtain rfl := hr_232
                have hI := zIn_a hn0 (by first | (right; decide) | (left; omega))
                exact W.zret (v := 0) hx hb hr (by decide) (fun t ht hW => ⟨⟨0, (npu, nte, nat_, nde, nse, nhu, nga, gki, gpa, gta, gla, gsl, gco, gte, q_210, q_211, q_234), rfl, ⟨(show 0 ≤ npu.toInt ∧ npu.toInt ≤ 8 from ⟨hy0, hy1⟩), (show 4 ≤ nte.toInt ∧ nte.toInt ≤ 40 from ⟨hy2, hy3⟩), (show 0 ≤ nat_.toInt ∧ nat_.toInt ≤ 40 from ⟨hy4, hy5⟩), (show 0 ≤ nde.toInt ∧ nde.toInt ≤ 24 from ⟨hy6, hy7⟩), (show 0 ≤ nhu.toInt ∧ nhu.toInt ≤ 9 from ⟨hy8, hy9⟩), hp_gki, hp_gpa, hp_gta, hp_gla, hp_gsl, hp_gco, (show 0 ≤ q_210.toInt ∧ q_210.toInt ≤ 160 from hbq_210), (show npl.toInt ≤ q_210.toInt ∧ q_210.toInt ≤ nen.toInt from by exact ⟨by omega, by omega⟩), (show ((0 : Int32).toInt = 1 → (zItem (zMF gce nba.toInt) nen.toInt npl.toInt nte.toInt npu.toInt).1 = -1 ∧ q_210.toInt = (zItem (zMF gce nba.toInt) nen.toInt npl.toInt nte.toInt npu.toInt).2.1 ∧ nte.toInt = (zItem (zMF gce nba.toInt) nen.toInt npl.toInt nte.toInt npu.toInt).2.2.1 ∧ npu.toInt = (zItem (zMF gce nba.toInt) nen.toInt npl.toInt nte.toInt npu.toInt).2.2.2) ∧ ((0 : Int32).toInt = 0 → (zItem (zMF gce nba.toInt) nen.toInt npl.toInt nte.toInt npu.toInt).1 = q_234.toInt ∧ 0 ≤ q_234.toInt) from by (have k9 : (0 : Int32).toInt = 0 := (by decide); rw [zItem_w hW1 (by decide) hp8 rfl hI]; dsimp only; exact ⟨fun h => absurd h (by decide), fun _ => ⟨by first | rfl | (show _ = _; omega), by omega⟩⟩)), ⟨by decide, by decide⟩⟩, zRet ht hP hD [10, 8, 0, 9, 1, 2, 3, 4, 5, 6, 7] (by decide) rfl⟩, hS.F ht⟩) hS.2.2 dX8_item_132
            · have fc_215 : r_208.toInt = 0 := zf_eq c_215 rfl (by decide)
              have hn0 : zN1 (zMF gce nba.toInt) nen.toInt (npl.toInt + ((zWds ((4 : Int)).toNat).length : Int)) (zLo 4 0) (zHi 4 0 nte.toInt) = ((q_7 : Int32).toInt, (q_7 : Int32).toInt, 0) := zN1_yes (p1 := (q_7 : Int32).toInt) (lo2 := 0) (hi2 := (24 : Int)) ⟨hW2, hW3⟩ (by omega) (hsr_208_2.2 (by omega)).1.symm zNv_0.symm (by decide) (by first | rfl | decide | (show nte.toInt - 1 = _; omega) | (show nte.toInt = _; omega)) (Or.inl ⟨rfl, Or.inl rfl⟩)
              refine lv_iconst (v := 0) hx hb dX8_item_116 (by decide) ?_
              have hI := zIn_a hn0 (by first | (right; decide) | (left; omega))
              exact W.zret (v := 0) hx hb hr (by decide) (fun t ht hW => ⟨⟨0, (npu, nte, nat_, nde, nse, nhu, nga, gki, gpa, gta, gla, gsl, gco, gte, q_210, q_211, q_212), rfl, ⟨(show 0 ≤ npu.toInt ∧ npu.toInt ≤ 8 from ⟨hy0, hy1⟩), (show 4 ≤ nte.toInt ∧ nte.toInt ≤ 40 from ⟨hy2, hy3⟩), (show 0 ≤ nat_.toInt ∧ nat_.toInt ≤ 40 from ⟨hy4, hy5⟩), (show 0 ≤ nde.toInt ∧ nde.toInt ≤ 24 from ⟨hy6, hy7⟩), (show 0 ≤ nhu.toInt ∧ nhu.toInt ≤ 9 from ⟨hy8, hy9⟩), hp_gki, hp_gpa, hp_gta, hp_gla, hp_gsl, hp_gco, (show 0 ≤ q_210.toInt ∧ q_210.toInt ≤ 160 from hbq_210), (show npl.toInt ≤ q_210.toInt ∧ q_210.toInt ≤ nen.toInt from by exact ⟨by omega, by omega⟩), (show ((0 : Int32).toInt = 1 → (zItem (zMF gce nba.toInt) nen.toInt npl.toInt nte.toInt npu.toInt).1 = -1 ∧ q_210.toInt = (zItem (zMF gce nba.toInt) nen.toInt npl.toInt nte.toInt npu.toInt).2.1 ∧ nte.toInt = (zItem (zMF gce nba.toInt) nen.toInt npl.toInt nte.toInt npu.toInt).2.2.1 ∧ npu.toInt = (zItem (zMF gce nba.toInt) nen.toInt npl.toInt nte.toInt npu.toInt).2.2.2) ∧ ((0 : Int32).toInt = 0 → (zItem (zMF gce nba.toInt) nen.toInt npl.toInt nte.toInt npu.toInt).1 = q_212.toInt ∧ 0 ≤ q_212.toInt) from by (have k9 : (0 : Int32).toInt = 0 := (by decide); rw [zItem_w hW1 (by decide) hp8 rfl hI]; dsimp only; exact ⟨fun h => absurd h (by decide), fun _ => ⟨by first | rfl | (show _ = _; omega), by omega⟩⟩)), ⟨by decide, by decide⟩⟩, zRet ht hP hD [9, 8, 0, 10, 1, 2, 3, 4, 5, 6, 7] (by decide) rfl⟩, hS.F ht⟩) hS.2.2 dX8_item_117
          · exact absurd c_207 (by decide)
      · have kc5 : (5 : Int32).toInt = 5 := by decide
        have z9 := hsr_5_1
        rw [kc5] at z9
        obtain ⟨hW1, hW2, hW3, hW4⟩ := zItem_Mw (f := (zMF gce nba.toInt)) (e := nen.toInt) (p := npl.toInt) (w := 5) (by omega) (by decide)
        have hp8 : ¬ ((5 : Int) = 3 ∧ npu.toInt = 8) := fun z => absurd z.1 (by decide)
        refine lv_iconst (v := 0) hx hb dX8_item_38 (by decide) ?_
        refine lv_istore_n (lv' := [(2, .int 0), (1, .int 5), (0, .ref m0)]) hx hb dX8_item_39 rfl hl (by decide) rfl (fun ls hl => ?_)
        refine lv_iload_n hx hb dX8_item_40 rfl (lv_at hl 0 rfl) ?_
        refine lv_aload_n hx hb dX8_item_41 rfl (lv_at hl 2 rfl) ?_
        refine va_get (D := D) (ci := 8) (v := .ref mnu) (C := RX8) (T := TX8) (N := 38) hx hb hts hi_X8_item_8 hown hK hP 8 rfl rfl 24 (by decide) (hts (.fieldLink RX8 69 "TheLiningsInItModel" "numbers" "[I") (List.mem_of_getElem? (i := 3) rfl)) (fun _ h9 => h9) rfl dX8_item_42 ?_
        refine lv_iload_n hx hb dX8_item_45 rfl (lv_at hl 1 rfl) ?_
        refine va_iald hx hb hK hP 0 0 rfl rfl (zf_in (by decide) (by decide)) dX8_item_46 ?_
        refine lv_topi (fun x_235 ex_235 => ?_)
        obtain rfl : x_235 = 1 := ex_235.trans ((congrArg gnu (show (5 : Int32).toNatClampNeg = 5 from by decide)).trans ((hnu 5 (by decide)).trans (by decide)))
        refine lv_icmp_ge (tgt := 149) hx hb dX8_item_47 (by decide) (fun c_236 => ?_) (fun c_236 => ?_)
        · exact absurd c_236 (by decide)
        · refine lv_iload_n hx hb dX8_item_50 rfl (lv_at hl 0 rfl) ?_
          refine lv_if_le (tgt := 104) hx hb dX8_item_51 (by decide) (fun c_237 => ?_) (fun c_237 => ?_)
          · refine lv_aload_n hx hb dX8_item_104 rfl (lv_at hl 2 rfl) ?_
            refine va_get (D := D) (ci := 8) (v := .int q_7) (C := RX8) (T := TX8) (N := 38) hx hb hts hi_X8_item_8 hown hK hP 8 rfl rfl 27 (by decide) (hts (.fieldLink RX8 152 "TheLiningsInItModel" "place" "I") (List.mem_of_getElem? (i := 2) rfl)) (fun _ h9 => h9) rfl dX8_item_105 ?_
            refine lv_istore_n (lv' := [(3, .int q_7), (2, .int 0), (1, .int 5), (0, .ref m0)]) hx hb dX8_item_108 rfl hl (by decide) rfl (fun ls hl => ?_)
            refine lv_aload_n hx hb dX8_item_109 rfl (lv_at hl 3 rfl) ?_
            skip
            refine zw_V (As := []) (rest := []) (wr := [(mnu, .inl (cI, 10, .inl gnu)), (mki, .inl (cI, 8, .inl gki)), (mpa, .inl (cI, 8, .inl gpa)), (mta, .inl (cI, 8, .inl gta)), (mla, .inl (cI, 40, .inl gla)), (msl, .inl (cI, 40, .inl gsl)), (mco, .inl (cI, 3, .inl gco)), (mte, .inl (cI, 3, .inl gte)), (mwo, .inl (cI, 64, .inl gwo))]) ⟨hx, hb, hml, hown, hts⟩ (c_F_M_reads l D cI cJ cZ cP cS po m0 mrf mki mpa mta mla msl mco mhe mso msi msh mce mca mwo mnu mte mwa mke mma mth mtr (npu) (nte) (nat_) (nde) (nto) (nse) (nhu) (nga) (nsd) (nfa) (nba) (q_7) (nen) (nnu) (q_8) (nra) (nik) gce hy0 hy1 hy2 hy3 hy4 hy5 hy6 hy7 hy8 hy9 hy10 hy11 hy12 hy13 hy14 hy15 hbq_7.1 hbq_7.2 hy18 hy19 (by omega) H.size) (cwV 0 hts gX8_item_X8_reads rfl rfl rfl ⟨rfl, dh_X8_reads⟩ ⟨Nat.le_of_ble_eq_true rfl, Nat.le_of_ble_eq_true rfl⟩) hK hN (hZ.kept hS) hP hD hS hA [8, 10] [0, 1, 2, 3, 4, 5, 6, 7, 9] rfl rfl (by decide) (by decide) (by decide) (va_recv (q := (RX8, TX8, 38)) hK hP (ci := 8) (q0 := 8) rfl rfl) rfl hl.1 rfl (Nat.le_of_ble_eq_true rfl) dX8_item_110 ⟨Nat.le_of_ble_eq_true rfl, Nat.le_of_ble_eq_true rfl⟩ (fun r_238 u_239 H locs hr_238 hP hD hS => ?_)
            obtain ⟨q_240, q_241, q_242⟩ := u_239
            try dsimp only at hr_238
            obtain ⟨hbq_240, hsr_238_0, hsr_238_1, hsr_238_2, hr_238⟩ := hr_238
            have h9R := zRe (ws' := [(mnu, .inl (cI, 10, .inl gnu)), (mki, .inl (cI, 8, .inl gki)), (mpa, .inl (cI, 8, .inl gpa)), (mta, .inl (cI, 8, .inl gta)), (mla, .inl (cI, 40, .inl gla)), (msl, .inl (cI, 40, .inl gsl)), (mco, .inl (cI, 3, .inl gco)), (mte, .inl (cI, 3, .inl gte)), (mwo, .inl (cI, 64, .inl gwo)), (zMO m0 npu nte nat_ nde nto nse nhu nga nsd nfa mrf mki mpa mta mla msl mco mhe mso msi msh mce mca mwo mnu mte nba q_240 nen q_241 q_242 mwa mke mma mth mtr nra nik), (mce, .inl (cJ, 1280, .inr (.inl gce)))]) hP hD rfl
            clear hP hD
            obtain ⟨hP, hD⟩ := h9R
            obtain ⟨g_243, g_244⟩ := hr_238
            refine lv_if_ne (tgt := 118) hx hb dX8_item_113 (by decide) (fun c_245 => ?_) (fun c_245 => ?_)
            · have fc_245 : r_238.toInt ≠ 0 := zf_ne c_245 rfl (by decide)
              refine lv_aload_n hx hb dX8_item_118 rfl (lv_at hl 3 rfl) ?_
              refine lv_iload_n hx hb dX8_item_119 rfl (lv_at hl 2 rfl) ?_
              refine lv_iload_n hx hb dX8_item_120 rfl (lv_at hl 1 rfl) ?_
              refine zc_V (As := [.int 5, .int 0]) (rest := []) ⟨hx, hb, hml, hown, hts⟩ (c_F_M_isSo_5_0 l D cI cJ cZ cP cS po m0 mrf mki mpa mta mla msl mco mhe mso msi msh mce mca mwo mnu mte mwa mke mma mth mtr (npu) (nte) (nat_) (nde) (nto) (nse) (nhu) (nga) (nsd) (nfa) (nba) (q_240) (nen) (q_241) (q_242) (nra) (nik) hy0 hy1 hy2 hy3 hy4 hy5 hy6 hy7 hy8 hy9 hy10 hy11 hy12 hy13 (by omega) (by omega)) (cwV 2 hts gX8_item_X8_isSo rfl rfl rfl ⟨rfl, dh_X8_isSo⟩ ⟨Nat.le_of_ble_eq_true rfl, Nat.le_of_ble_eq_true rfl⟩) hK hN (hZ.kept hS) hP (hP.sub [9] rfl) (va_recv (q := (RX8, TX8, 38)) hK hP (ci := 8) (q0 := 9) rfl rfl) rfl hl.1 rfl (Nat.le_of_ble_eq_true rfl) dX8_item_121 ⟨Nat.le_of_ble_eq_true rfl, Nat.le_of_ble_eq_true rfl⟩ (fun r_246 hr_246 => ?_)
              obtain ⟨g_247, g_248, hsr_246_0⟩ := hr_246
              refine lv_if_ne (tgt := 133) hx hb dX8_item_124 (by decide) (fun c_249 => ?_) (fun c_249 => ?_)
              · have fc_249 : r_246.toInt ≠ 0 := zf_ne c_249 rfl (by decide)
                obtain ⟨hy1_0, hy2_0, hy3_0⟩ := hsr_238_2.1 (by omega)
                have hn0 : zN1 (zMF gce nba.toInt) nen.toInt (npl.toInt + ((zWds ((5 : Int)).toNat).length : Int)) (zLo 5 0) (zHi 5 0 nte.toInt) = (-1, (q_240 : Int32).toInt, (q_241 : Int32).toInt) := zN1_yes (p1 := (q_7 : Int32).toInt) (lo2 := 0) (hi2 := (300 : Int)) ⟨hW2, hW3⟩ (by omega) hy1_0 hy2_0 (by decide) (by first | rfl | decide | (show nte.toInt - 1 = _; omega) | (show nte.toInt = _; omega)) (by omega)
                refine lv_aload_n hx hb dX8_item_133 rfl (lv_at hl 3 rfl) ?_
                refine va_get (D := D) (ci := 8) (v := .ref mte) (C := RX8) (T := TX8) (N := 38) hx hb hts hi_X8_item_8 hown hK hP 9 rfl rfl 25 (by decide) (hts (.fieldLink RX8 72 "TheLiningsInItModel" "tell" "[I") (List.mem_of_getElem? (i := 7) rfl)) (fun _ h9 => h9) rfl dX8_item_134 ?_
                refine lv_iload_n hx hb dX8_item_137 rfl (lv_at hl 1 rfl) ?_
                refine lv_aload_n hx hb dX8_item_138 rfl (lv_at hl 3 rfl) ?_
                refine va_get (D := D) (ci := 8) (v := .int q_241) (C := RX8) (T := TX8) (N := 38) hx hb hts hi_X8_item_8 hown hK hP 9 rfl rfl 29 (by decide) (hts (.fieldLink RX8 161 "TheLiningsInItModel" "number" "I") (List.mem_of_getElem? (i := 8) rfl)) (fun _ h9 => h9) rfl dX8_item_139 ?_
                refine va_iast hx hb hK hP hD hS 7 0 rfl rfl (zf_in (by decide) (by decide)) dX8_item_142 (fun H locs hP hD hS => ?_)
                have h9R := zRe (ws' := [(mnu, .inl (cI, 10, .inl gnu)), (mki, .inl (cI, 8, .inl gki)), (mpa, .inl (cI, 8, .inl gpa)), (mta, .inl (cI, 8, .inl gta)), (mla, .inl (cI, 40, .inl gla)), (msl, .inl (cI, 40, .inl gsl)), (mco, .inl (cI, 3, .inl gco)), (mte, .inl (cI, 3, .inl (upd gte (0 : Int32).toNatClampNeg q_241))), (mwo, .inl (cI, 64, .inl gwo)), (zMO m0 npu nte nat_ nde nto nse nhu nga nsd nfa mrf mki mpa mta mla msl mco mhe mso msi msh mce mca mwo mnu mte nba q_240 nen q_241 q_242 mwa mke mma mth mtr nra nik), (mce, .inl (cJ, 1280, .inr (.inl gce)))]) hP hD rfl
                clear hP hD
                obtain ⟨hP, hD⟩ := h9R
                refine lv_iinc (v := 1) (lv' := [(2, .int 1), (3, .int q_7), (1, .int 5), (0, .ref m0)]) hx hb dX8_item_143 hl (k := 1) rfl (by decide) (by decide) rfl (fun ls hl => ?_)
                refine lv_goto (tgt := 40) hx hb dX8_item_146 (by decide) ?_
                refine lv_iload_n hx hb dX8_item_40 rfl (lv_at hl 0 rfl) ?_
                refine lv_aload_n hx hb dX8_item_41 rfl (lv_at hl 3 rfl) ?_
                refine va_get (D := D) (ci := 8) (v := .ref mnu) (C := RX8) (T := TX8) (N := 38) hx hb hts hi_X8_item_8 hown hK hP 9 rfl rfl 24 (by decide) (hts (.fieldLink RX8 69 "TheLiningsInItModel" "numbers" "[I") (List.mem_of_getElem? (i := 3) rfl)) (fun _ h9 => h9) rfl dX8_item_42 ?_
                refine lv_iload_n hx hb dX8_item_45 rfl (lv_at hl 2 rfl) ?_
                refine va_iald hx hb hK hP 0 0 rfl rfl (zf_in (by decide) (by decide)) dX8_item_46 ?_
                refine lv_topi (fun x_250 ex_250 => ?_)
                obtain rfl : x_250 = 1 := ex_250.trans ((congrArg gnu (show (5 : Int32).toNatClampNeg = 5 from by decide)).trans ((hnu 5 (by decide)).trans (by decide)))
                refine lv_icmp_ge (tgt := 149) hx hb dX8_item_47 (by decide) (fun c_251 => ?_) (fun c_251 => ?_)
                · refine lv_iload_n hx hb dX8_item_149 rfl (lv_at hl 2 rfl) ?_
                  refine lv_tableIn (tgt := 311) hx hb dX8_item_150 (by decide) (by decide) rfl (by decide) ?_
                  refine lv_aload_n hx hb dX8_item_311 rfl (lv_at hl 3 rfl) ?_
                  refine lv_iload_n hx hb dX8_item_312 rfl (lv_at hl 2 rfl) ?_
                  refine lv_iconst (v := 4) hx hb dX8_item_313 (by decide) ?_
                  refine lv_isub hx hb dX8_item_314 ?_
                  refine lv_topi (fun y_252 ey_252 => ?_)
                  obtain rfl : y_252 = 1 := ey_252.trans (by decide)
                  refine lv_aload_n hx hb dX8_item_315 rfl (lv_at hl 3 rfl) ?_
                  refine va_get (D := D) (ci := 8) (v := .ref mte) (C := RX8) (T := TX8) (N := 38) hx hb hts hi_X8_item_8 hown hK hP 9 rfl rfl 25 (by decide) (hts (.fieldLink RX8 72 "TheLiningsInItModel" "tell" "[I") (List.mem_of_getElem? (i := 7) rfl)) (fun _ h9 => h9) rfl dX8_item_316 ?_
                  refine lv_iconst (v := 0) hx hb dX8_item_319 (by decide) ?_
                  refine va_iald hx hb hK hP 7 0 rfl rfl (zf_in (by decide) (by decide)) dX8_item_320 ?_
                  refine lv_topi (fun x_253 ex_253 => ?_)
                  obtain rfl : q_241 = x_253 := (ex_253.trans (if_pos rfl)).symm
                  have kc1 : (1 : Int32).toInt = 1 := by decide
                  skip
                  refine zw_Vv (As := [.int 1, .int q_241]) (rest := []) (wr := [(mnu, .inl (cI, 10, .inl gnu)), (mki, .inl (cI, 8, .inl gki)), (mpa, .inl (cI, 8, .inl gpa)), (mta, .inl (cI, 8, .inl gta)), (mla, .inl (cI, 40, .inl gla)), (msl, .inl (cI, 40, .inl gsl)), (mte, .inl (cI, 3, .inl (upd gte (0 : Int32).toNatClampNeg q_241))), (mwo, .inl (cI, 64, .inl gwo)), (mce, .inl (cJ, 1280, .inr (.inl gce)))]) ⟨hx, hb, hml, hown, hts⟩ (c_M_tells l D cI cJ cZ cP cS po m0 mrf mki mpa mta mla msl mco mhe mso msi msh mce mca mwo mnu mte mwa mke mma mth mtr (npu) (nte) (nat_) (nde) (nto) (nse) (nhu) (nga) (nsd) (nfa) (nba) (q_240) (nen) (q_241) (q_242) (nra) (nik) gco (1) (q_241) hy0 hy1 hy2 hy3 hy4 hy5 hy6 hy7 hy8 hy9 hy10 hy11 hy12 hy13 (by omega) (by omega) (by omega) hp_gco H.size) (cwV 2 hts gX8_item_X8_tells rfl rfl rfl ⟨rfl, dh_X8_tells⟩ ⟨Nat.le_of_ble_eq_true rfl, Nat.le_of_ble_eq_true rfl⟩) hK hN (hZ.kept hS) hP hD hS hA [9, 6] [0, 1, 2, 3, 4, 5, 7, 8, 10] rfl rfl (by decide) (by decide) (by decide) (va_recv (q := (RX8, TX8, 38)) hK hP (ci := 8) (q0 := 9) rfl rfl) rfl hl.1 rfl (Nat.le_of_ble_eq_true rfl) dX8_item_321 ⟨Nat.le_of_ble_eq_true rfl, Nat.le_of_ble_eq_true rfl⟩ (fun u_255 H locs hr_254 hP hD hS => ?_)
                  obtain ⟨q_256, q_257, q_258, q_259, q_260, q_261⟩ := u_255
                  try dsimp only at hr_254
                  obtain ⟨hbq_256, hbq_258, hbq_260, hpq_261, hr_254⟩ := hr_254
                  have h9R := zRe (ws' := [(mnu, .inl (cI, 10, .inl gnu)), (mki, .inl (cI, 8, .inl gki)), (mpa, .inl (cI, 8, .inl gpa)), (mta, .inl (cI, 8, .inl gta)), (mla, .inl (cI, 40, .inl gla)), (msl, .inl (cI, 40, .inl gsl)), (mte, .inl (cI, 3, .inl (upd gte (0 : Int32).toNatClampNeg q_241))), (mwo, .inl (cI, 64, .inl gwo)), (mce, .inl (cJ, 1280, .inr (.inl gce))), (zMO m0 npu nte q_260 q_256 nto q_257 q_258 q_259 nsd nfa mrf mki mpa mta mla msl mco mhe mso msi msh mce mca mwo mnu mte nba q_240 nen q_241 q_242 mwa mke mma mth mtr nra nik), (mco, .inl (cI, 3, .inl q_261))]) hP hD rfl
                  clear hP hD
                  obtain ⟨hP, hD⟩ := h9R
                  refine lv_iconst (v := 1) hx hb dX8_item_324 (by decide) ?_
                  have hI := zIn_a hn0 (by first | (right; decide) | (left; omega))
                  exact W.zret (v := 1) hx hb hr (by decide) (fun t ht hW => ⟨⟨1, (npu, nte, q_260, q_256, q_257, q_258, q_259, gki, gpa, gta, gla, gsl, q_261, (upd gte (0 : Int32).toNatClampNeg q_241), q_240, q_241, q_242), rfl, ⟨(show 0 ≤ npu.toInt ∧ npu.toInt ≤ 8 from ⟨hy0, hy1⟩), (show 4 ≤ nte.toInt ∧ nte.toInt ≤ 40 from ⟨hy2, hy3⟩), (show 0 ≤ q_260.toInt ∧ q_260.toInt ≤ 40 from hbq_260), (show 0 ≤ q_256.toInt ∧ q_256.toInt ≤ 24 from hbq_256), (show 0 ≤ q_258.toInt ∧ q_258.toInt ≤ 9 from hbq_258), hp_gki, hp_gpa, hp_gta, hp_gla, hp_gsl, hpq_261, (show 0 ≤ q_240.toInt ∧ q_240.toInt ≤ 160 from hbq_240), (show npl.toInt ≤ q_240.toInt ∧ q_240.toInt ≤ nen.toInt from by exact ⟨by omega, by omega⟩), (show ((1 : Int32).toInt = 1 → (zItem (zMF gce nba.toInt) nen.toInt npl.toInt nte.toInt npu.toInt).1 = -1 ∧ q_240.toInt = (zItem (zMF gce nba.toInt) nen.toInt npl.toInt nte.toInt npu.toInt).2.1 ∧ nte.toInt = (zItem (zMF gce nba.toInt) nen.toInt npl.toInt nte.toInt npu.toInt).2.2.1 ∧ npu.toInt = (zItem (zMF gce nba.toInt) nen.toInt npl.toInt nte.toInt npu.toInt).2.2.2) ∧ ((1 : Int32).toInt = 0 → (zItem (zMF gce nba.toInt) nen.toInt npl.toInt nte.toInt npu.toInt).1 = q_242.toInt ∧ 0 ≤ q_242.toInt) from by (have k9 : (1 : Int32).toInt = 1 := (by decide); rw [zItem_w hW1 (by decide) hp8 rfl hI]; dsimp only; exact ⟨fun _ => ⟨rfl, by first | rfl | omega, by (show _ = (if (5 : Int) = 0 then _ else _); rw [if_neg (by decide)]), by (show _ = (if (5 : Int) = 3 then _ else _); rw [if_neg (by decide)])⟩, fun h => absurd h (by decide)⟩)), ⟨by decide, by decide⟩⟩, zRet ht hP hD [9, 7, 0, 8, 1, 2, 3, 4, 5, 10, 6] (by decide) rfl⟩, hS.F ht⟩) hS.2.2 dX8_item_325
                · exact absurd c_251 (by decide)
              · have fc_249 : r_246.toInt = 0 := zf_eq c_249 rfl (by decide)
                obtain ⟨hy1_0, hy2_0, hy3_0⟩ := hsr_238_2.1 (by omega)
                have hn0 : zN1 (zMF gce nba.toInt) nen.toInt (npl.toInt + ((zWds ((5 : Int)).toNat).length : Int)) (zLo 5 0) (zHi 5 0 nte.toInt) = ((q_7 : Int32).toInt, (q_240 : Int32).toInt, (q_241 : Int32).toInt) := zN1_yes (p1 := (q_7 : Int32).toInt) (lo2 := 0) (hi2 := (300 : Int)) ⟨hW2, hW3⟩ (by omega) hy1_0 hy2_0 (by decide) (by first | rfl | decide | (show nte.toInt - 1 = _; omega) | (show nte.toInt = _; omega)) (by omega)
                refine lv_aload_n hx hb dX8_item_127 rfl (lv_at hl 3 rfl) ?_
                refine lv_iload_n hx hb dX8_item_128 rfl (lv_at hl 0 rfl) ?_
                skip
                refine zw_V (As := [.int q_7]) (rest := []) (wr := [(mnu, .inl (cI, 10, .inl gnu)), (mki, .inl (cI, 8, .inl gki)), (mpa, .inl (cI, 8, .inl gpa)), (mta, .inl (cI, 8, .inl gta)), (mla, .inl (cI, 40, .inl gla)), (msl, .inl (cI, 40, .inl gsl)), (mco, .inl (cI, 3, .inl gco)), (mte, .inl (cI, 3, .inl gte)), (mwo, .inl (cI, 64, .inl gwo)), (mce, .inl (cJ, 1280, .inr (.inl gce)))]) ⟨hx, hb, hml, hown, hts⟩ (c_F_M_wrong l D cI cJ cZ cP cS po m0 mrf mki mpa mta mla msl mco mhe mso msi msh mce mca mwo mnu mte mwa mke mma mth mtr (npu) (nte) (nat_) (nde) (nto) (nse) (nhu) (nga) (nsd) (nfa) (nba) (q_240) (nen) (q_241) (q_242) (nra) (nik) (q_7) hy0 hy1 hy2 hy3 hy4 hy5 hy6 hy7 hy8 hy9 hy10 hy11 hy12 hy13 H.size) (cwV 1 hts gX8_item_X8_wrong rfl rfl rfl ⟨rfl, dh_X8_wrong⟩ ⟨Nat.le_of_ble_eq_true rfl, Nat.le_of_ble_eq_true rfl⟩) hK hN (hZ.kept hS) hP hD hS hA [9] [0, 1, 2, 3, 4, 5, 6, 7, 8, 10] rfl rfl (by decide) (by decide) (by decide) (va_recv (q := (RX8, TX8, 38)) hK hP (ci := 8) (q0 := 9) rfl rfl) rfl hl.1 rfl (Nat.le_of_ble_eq_true rfl) dX8_item_129 ⟨Nat.le_of_ble_eq_true rfl, Nat.le_of_ble_eq_true rfl⟩ (fun r_262 u_263 H locs hr_262 hP hD hS => ?_)
                obtain ⟨q_264, rfl⟩ : ∃ z, z = u_263 := ⟨_, rfl⟩
                obtain ⟨hsr_262_0, hr_262⟩ := hr_262
                have h9R := zRe (ws' := [(mnu, .inl (cI, 10, .inl gnu)), (mki, .inl (cI, 8, .inl gki)), (mpa, .inl (cI, 8, .inl gpa)), (mta, .inl (cI, 8, .inl gta)), (mla, .inl (cI, 40, .inl gla)), (msl, .inl (cI, 40, .inl gsl)), (mco, .inl (cI, 3, .inl gco)), (mte, .inl (cI, 3, .inl gte)), (mwo, .inl (cI, 64, .inl gwo)), (mce, .inl (cJ, 1280, .inr (.inl gce))), (zMO m0 npu nte nat_ nde nto nse nhu nga nsd nfa mrf mki mpa mta mla msl mco mhe mso msi msh mce mca mwo mnu mte nba q_240 nen q_241 q_264 mwa mke mma mth mtr nra nik)]) hP hD rfl
                clear hP hD
                obtain ⟨hP, hD⟩ := h9R
                obtain rfl := hr_262
                have hI := zIn_a hn0 (by first | (right; decide) | (left; omega))
                exact W.zret (v := 0) hx hb hr (by decide) (fun t ht hW => ⟨⟨0, (npu, nte, nat_, nde, nse, nhu, nga, gki, gpa, gta, gla, gsl, gco, gte, q_240, q_241, q_264), rfl, ⟨(show 0 ≤ npu.toInt ∧ npu.toInt ≤ 8 from ⟨hy0, hy1⟩), (show 4 ≤ nte.toInt ∧ nte.toInt ≤ 40 from ⟨hy2, hy3⟩), (show 0 ≤ nat_.toInt ∧ nat_.toInt ≤ 40 from ⟨hy4, hy5⟩), (show 0 ≤ nde.toInt ∧ nde.toInt ≤ 24 from ⟨hy6, hy7⟩), (show 0 ≤ nhu.toInt ∧ nhu.toInt ≤ 9 from ⟨hy8, hy9⟩), hp_gki, hp_gpa, hp_gta, hp_gla, hp_gsl, hp_gco, (show 0 ≤ q_240.toInt ∧ q_240.toInt ≤ 160 from hbq_240), (show npl.toInt ≤ q_240.toInt ∧ q_240.toInt ≤ nen.toInt from by exact ⟨by omega, by omega⟩), (show ((0 : Int32).toInt = 1 → (zItem (zMF gce nba.toInt) nen.toInt npl.toInt nte.toInt npu.toInt).1 = -1 ∧ q_240.toInt = (zItem (zMF gce nba.toInt) nen.toInt npl.toInt nte.toInt npu.toInt).2.1 ∧ nte.toInt = (zItem (zMF gce nba.toInt) nen.toInt npl.toInt nte.toInt npu.toInt).2.2.1 ∧ npu.toInt = (zItem (zMF gce nba.toInt) nen.toInt npl.toInt nte.toInt npu.toInt).2.2.2) ∧ ((0 : Int32).toInt = 0 → (zItem (zMF gce nba.toInt) nen.toInt npl.toInt nte.toInt npu.toInt).1 = q_264.toInt ∧ 0 ≤ q_264.toInt) from by (have k9 : (0 : Int32).toInt = 0 := (by decide); rw [zItem_w hW1 (by decide) hp8 rfl hI]; dsimp only; exact ⟨fun h => absurd h (by decide), fun _ => ⟨by first | rfl | (show _ = _; omega), by omega⟩⟩)), ⟨by decide, by decide⟩⟩, zRet ht hP hD [10, 8, 0, 9, 1, 2, 3, 4, 5, 6, 7] (by decide) rfl⟩, hS.F ht⟩) hS.2.2 dX8_item_132
            · have fc_245 : r_238.toInt = 0 := zf_eq c_245 rfl (by decide)
              have hn0 : zN1 (zMF gce nba.toInt) nen.toInt (npl.toInt + ((zWds ((5 : Int)).toNat).length : Int)) (zLo 5 0) (zHi 5 0 nte.toInt) = ((q_7 : Int32).toInt, (q_7 : Int32).toInt, 0) := zN1_yes (p1 := (q_7 : Int32).toInt) (lo2 := 0) (hi2 := (300 : Int)) ⟨hW2, hW3⟩ (by omega) (hsr_238_2.2 (by omega)).1.symm zNv_0.symm (by decide) (by first | rfl | decide | (show nte.toInt - 1 = _; omega) | (show nte.toInt = _; omega)) (Or.inl ⟨rfl, Or.inl rfl⟩)
              refine lv_iconst (v := 0) hx hb dX8_item_116 (by decide) ?_
              have hI := zIn_a hn0 (by first | (right; decide) | (left; omega))
              exact W.zret (v := 0) hx hb hr (by decide) (fun t ht hW => ⟨⟨0, (npu, nte, nat_, nde, nse, nhu, nga, gki, gpa, gta, gla, gsl, gco, gte, q_240, q_241, q_242), rfl, ⟨(show 0 ≤ npu.toInt ∧ npu.toInt ≤ 8 from ⟨hy0, hy1⟩), (show 4 ≤ nte.toInt ∧ nte.toInt ≤ 40 from ⟨hy2, hy3⟩), (show 0 ≤ nat_.toInt ∧ nat_.toInt ≤ 40 from ⟨hy4, hy5⟩), (show 0 ≤ nde.toInt ∧ nde.toInt ≤ 24 from ⟨hy6, hy7⟩), (show 0 ≤ nhu.toInt ∧ nhu.toInt ≤ 9 from ⟨hy8, hy9⟩), hp_gki, hp_gpa, hp_gta, hp_gla, hp_gsl, hp_gco, (show 0 ≤ q_240.toInt ∧ q_240.toInt ≤ 160 from hbq_240), (show npl.toInt ≤ q_240.toInt ∧ q_240.toInt ≤ nen.toInt from by exact ⟨by omega, by omega⟩), (show ((0 : Int32).toInt = 1 → (zItem (zMF gce nba.toInt) nen.toInt npl.toInt nte.toInt npu.toInt).1 = -1 ∧ q_240.toInt = (zItem (zMF gce nba.toInt) nen.toInt npl.toInt nte.toInt npu.toInt).2.1 ∧ nte.toInt = (zItem (zMF gce nba.toInt) nen.toInt npl.toInt nte.toInt npu.toInt).2.2.1 ∧ npu.toInt = (zItem (zMF gce nba.toInt) nen.toInt npl.toInt nte.toInt npu.toInt).2.2.2) ∧ ((0 : Int32).toInt = 0 → (zItem (zMF gce nba.toInt) nen.toInt npl.toInt nte.toInt npu.toInt).1 = q_242.toInt ∧ 0 ≤ q_242.toInt) from by (have k9 : (0 : Int32).toInt = 0 := (by decide); rw [zItem_w hW1 (by decide) hp8 rfl hI]; dsimp only; exact ⟨fun h => absurd h (by decide), fun _ => ⟨by first | rfl | (show _ = _; omega), by omega⟩⟩)), ⟨by decide, by decide⟩⟩, zRet ht hP hD [9, 8, 0, 10, 1, 2, 3, 4, 5, 6, 7] (by decide) rfl⟩, hS.F ht⟩) hS.2.2 dX8_item_117
          · exact absurd c_237 (by decide)
      · have kc6 : (6 : Int32).toInt = 6 := by decide
        have z9 := hsr_5_1
        rw [kc6] at z9
        obtain ⟨hW1, hW2, hW3, hW4⟩ := zItem_Mw (f := (zMF gce nba.toInt)) (e := nen.toInt) (p := npl.toInt) (w := 6) (by omega) (by decide)
        have hp8 : ¬ ((6 : Int) = 3 ∧ npu.toInt = 8) := fun z => absurd z.1 (by decide)
        refine lv_iconst (v := 0) hx hb dX8_item_38 (by decide) ?_
        refine lv_istore_n (lv' := [(2, .int 0), (1, .int 6), (0, .ref m0)]) hx hb dX8_item_39 rfl hl (by decide) rfl (fun ls hl => ?_)
        refine lv_iload_n hx hb dX8_item_40 rfl (lv_at hl 0 rfl) ?_
        refine lv_aload_n hx hb dX8_item_41 rfl (lv_at hl 2 rfl) ?_
        refine va_get (D := D) (ci := 8) (v := .ref mnu) (C := RX8) (T := TX8) (N := 38) hx hb hts hi_X8_item_8 hown hK hP 8 rfl rfl 24 (by decide) (hts (.fieldLink RX8 69 "TheLiningsInItModel" "numbers" "[I") (List.mem_of_getElem? (i := 3) rfl)) (fun _ h9 => h9) rfl dX8_item_42 ?_
        refine lv_iload_n hx hb dX8_item_45 rfl (lv_at hl 1 rfl) ?_
        refine va_iald hx hb hK hP 0 0 rfl rfl (zf_in (by decide) (by decide)) dX8_item_46 ?_
        refine lv_topi (fun x_265 ex_265 => ?_)
        obtain rfl : x_265 = 1 := ex_265.trans ((congrArg gnu (show (6 : Int32).toNatClampNeg = 6 from by decide)).trans ((hnu 6 (by decide)).trans (by decide)))
        refine lv_icmp_ge (tgt := 149) hx hb dX8_item_47 (by decide) (fun c_266 => ?_) (fun c_266 => ?_)
        · exact absurd c_266 (by decide)
        · refine lv_iload_n hx hb dX8_item_50 rfl (lv_at hl 0 rfl) ?_
          refine lv_if_le (tgt := 104) hx hb dX8_item_51 (by decide) (fun c_267 => ?_) (fun c_267 => ?_)
          · refine lv_aload_n hx hb dX8_item_104 rfl (lv_at hl 2 rfl) ?_
            refine va_get (D := D) (ci := 8) (v := .int q_7) (C := RX8) (T := TX8) (N := 38) hx hb hts hi_X8_item_8 hown hK hP 8 rfl rfl 27 (by decide) (hts (.fieldLink RX8 152 "TheLiningsInItModel" "place" "I") (List.mem_of_getElem? (i := 2) rfl)) (fun _ h9 => h9) rfl dX8_item_105 ?_
            refine lv_istore_n (lv' := [(3, .int q_7), (2, .int 0), (1, .int 6), (0, .ref m0)]) hx hb dX8_item_108 rfl hl (by decide) rfl (fun ls hl => ?_)
            refine lv_aload_n hx hb dX8_item_109 rfl (lv_at hl 3 rfl) ?_
            skip
            refine zw_V (As := []) (rest := []) (wr := [(mnu, .inl (cI, 10, .inl gnu)), (mki, .inl (cI, 8, .inl gki)), (mpa, .inl (cI, 8, .inl gpa)), (mta, .inl (cI, 8, .inl gta)), (mla, .inl (cI, 40, .inl gla)), (msl, .inl (cI, 40, .inl gsl)), (mco, .inl (cI, 3, .inl gco)), (mte, .inl (cI, 3, .inl gte)), (mwo, .inl (cI, 64, .inl gwo))]) ⟨hx, hb, hml, hown, hts⟩ (c_F_M_reads l D cI cJ cZ cP cS po m0 mrf mki mpa mta mla msl mco mhe mso msi msh mce mca mwo mnu mte mwa mke mma mth mtr (npu) (nte) (nat_) (nde) (nto) (nse) (nhu) (nga) (nsd) (nfa) (nba) (q_7) (nen) (nnu) (q_8) (nra) (nik) gce hy0 hy1 hy2 hy3 hy4 hy5 hy6 hy7 hy8 hy9 hy10 hy11 hy12 hy13 hy14 hy15 hbq_7.1 hbq_7.2 hy18 hy19 (by omega) H.size) (cwV 0 hts gX8_item_X8_reads rfl rfl rfl ⟨rfl, dh_X8_reads⟩ ⟨Nat.le_of_ble_eq_true rfl, Nat.le_of_ble_eq_true rfl⟩) hK hN (hZ.kept hS) hP hD hS hA [8, 10] [0, 1, 2, 3, 4, 5, 6, 7, 9] rfl rfl (by decide) (by decide) (by decide) (va_recv (q := (RX8, TX8, 38)) hK hP (ci := 8) (q0 := 8) rfl rfl) rfl hl.1 rfl (Nat.le_of_ble_eq_true rfl) dX8_item_110 ⟨Nat.le_of_ble_eq_true rfl, Nat.le_of_ble_eq_true rfl⟩ (fun r_268 u_269 H locs hr_268 hP hD hS => ?_)
            obtain ⟨q_270, q_271, q_272⟩ := u_269
            try dsimp only at hr_268
            obtain ⟨hbq_270, hsr_268_0, hsr_268_1, hsr_268_2, hr_268⟩ := hr_268
            have h9R := zRe (ws' := [(mnu, .inl (cI, 10, .inl gnu)), (mki, .inl (cI, 8, .inl gki)), (mpa, .inl (cI, 8, .inl gpa)), (mta, .inl (cI, 8, .inl gta)), (mla, .inl (cI, 40, .inl gla)), (msl, .inl (cI, 40, .inl gsl)), (mco, .inl (cI, 3, .inl gco)), (mte, .inl (cI, 3, .inl gte)), (mwo, .inl (cI, 64, .inl gwo)), (zMO m0 npu nte nat_ nde nto nse nhu nga nsd nfa mrf mki mpa mta mla msl mco mhe mso msi msh mce mca mwo mnu mte nba q_270 nen q_271 q_272 mwa mke mma mth mtr nra nik), (mce, .inl (cJ, 1280, .inr (.inl gce)))]) hP hD rfl
            clear hP hD
            obtain ⟨hP, hD⟩ := h9R
            obtain ⟨g_273, g_274⟩ := hr_268
            refine lv_if_ne (tgt := 118) hx hb dX8_item_113 (by decide) (fun c_275 => ?_) (fun c_275 => ?_)
            · have fc_275 : r_268.toInt ≠ 0 := zf_ne c_275 rfl (by decide)
              refine lv_aload_n hx hb dX8_item_118 rfl (lv_at hl 3 rfl) ?_
              refine lv_iload_n hx hb dX8_item_119 rfl (lv_at hl 2 rfl) ?_
              refine lv_iload_n hx hb dX8_item_120 rfl (lv_at hl 1 rfl) ?_
              refine zc_V (As := [.int 6, .int 0]) (rest := []) ⟨hx, hb, hml, hown, hts⟩ (c_F_M_isSo_6_0 l D cI cJ cZ cP cS po m0 mrf mki mpa mta mla msl mco mhe mso msi msh mce mca mwo mnu mte mwa mke mma mth mtr (npu) (nte) (nat_) (nde) (nto) (nse) (nhu) (nga) (nsd) (nfa) (nba) (q_270) (nen) (q_271) (q_272) (nra) (nik) hy0 hy1 hy2 hy3 hy4 hy5 hy6 hy7 hy8 hy9 hy10 hy11 hy12 hy13 (by omega) (by omega)) (cwV 2 hts gX8_item_X8_isSo rfl rfl rfl ⟨rfl, dh_X8_isSo⟩ ⟨Nat.le_of_ble_eq_true rfl, Nat.le_of_ble_eq_true rfl⟩) hK hN (hZ.kept hS) hP (hP.sub [9] rfl) (va_recv (q := (RX8, TX8, 38)) hK hP (ci := 8) (q0 := 9) rfl rfl) rfl hl.1 rfl (Nat.le_of_ble_eq_true rfl) dX8_item_121 ⟨Nat.le_of_ble_eq_true rfl, Nat.le_of_ble_eq_true rfl⟩ (fun r_276 hr_276 => ?_)
              obtain ⟨g_277, g_278, hsr_276_0⟩ := hr_276
              refine lv_if_ne (tgt := 133) hx hb dX8_item_124 (by decide) (fun c_279 => ?_) (fun c_279 => ?_)
              · have fc_279 : r_276.toInt ≠ 0 := zf_ne c_279 rfl (by decide)
                obtain ⟨hy1_0, hy2_0, hy3_0⟩ := hsr_268_2.1 (by omega)
                have hn0 : zN1 (zMF gce nba.toInt) nen.toInt (npl.toInt + ((zWds ((6 : Int)).toNat).length : Int)) (zLo 6 0) (zHi 6 0 nte.toInt) = (-1, (q_270 : Int32).toInt, (q_271 : Int32).toInt) := zN1_yes (p1 := (q_7 : Int32).toInt) (lo2 := 0) (hi2 := (9 : Int)) ⟨hW2, hW3⟩ (by omega) hy1_0 hy2_0 (by decide) (by first | rfl | decide | (show nte.toInt - 1 = _; omega) | (show nte.toInt = _; omega)) (by omega)
                refine lv_aload_n hx hb dX8_item_133 rfl (lv_at hl 3 rfl) ?_
                refine va_get (D := D) (ci := 8) (v := .ref mte) (C := RX8) (T := TX8) (N := 38) hx hb hts hi_X8_item_8 hown hK hP 9 rfl rfl 25 (by decide) (hts (.fieldLink RX8 72 "TheLiningsInItModel" "tell" "[I") (List.mem_of_getElem? (i := 7) rfl)) (fun _ h9 => h9) rfl dX8_item_134 ?_
                refine lv_iload_n hx hb dX8_item_137 rfl (lv_at hl 1 rfl) ?_
                refine lv_aload_n hx hb dX8_item_138 rfl (lv_at hl 3 rfl) ?_
                refine va_get (D := D) (ci := 8) (v := .int q_271) (C := RX8) (T := TX8) (N := 38) hx hb hts hi_X8_item_8 hown hK hP 9 rfl rfl 29 (by decide) (hts (.fieldLink RX8 161 "TheLiningsInItModel" "number" "I") (List.mem_of_getElem? (i := 8) rfl)) (fun _ h9 => h9) rfl dX8_item_139 ?_
                refine va_iast hx hb hK hP hD hS 7 0 rfl rfl (zf_in (by decide) (by decide)) dX8_item_142 (fun H locs hP hD hS => ?_)
                have h9R := zRe (ws' := [(mnu, .inl (cI, 10, .inl gnu)), (mki, .inl (cI, 8, .inl gki)), (mpa, .inl (cI, 8, .inl gpa)), (mta, .inl (cI, 8, .inl gta)), (mla, .inl (cI, 40, .inl gla)), (msl, .inl (cI, 40, .inl gsl)), (mco, .inl (cI, 3, .inl gco)), (mte, .inl (cI, 3, .inl (upd gte (0 : Int32).toNatClampNeg q_271))), (mwo, .inl (cI, 64, .inl gwo)), (zMO m0 npu nte nat_ nde nto nse nhu nga nsd nfa mrf mki mpa mta mla msl mco mhe mso msi msh mce mca mwo mnu mte nba q_270 nen q_271 q_272 mwa mke mma mth mtr nra nik), (mce, .inl (cJ, 1280, .inr (.inl gce)))]) hP hD rfl
                clear hP hD
                obtain ⟨hP, hD⟩ := h9R
                refine lv_iinc (v := 1) (lv' := [(2, .int 1), (3, .int q_7), (1, .int 6), (0, .ref m0)]) hx hb dX8_item_143 hl (k := 1) rfl (by decide) (by decide) rfl (fun ls hl => ?_)
                refine lv_goto (tgt := 40) hx hb dX8_item_146 (by decide) ?_
                refine lv_iload_n hx hb dX8_item_40 rfl (lv_at hl 0 rfl) ?_
                refine lv_aload_n hx hb dX8_item_41 rfl (lv_at hl 3 rfl) ?_
                refine va_get (D := D) (ci := 8) (v := .ref mnu) (C := RX8) (T := TX8) (N := 38) hx hb hts hi_X8_item_8 hown hK hP 9 rfl rfl 24 (by decide) (hts (.fieldLink RX8 69 "TheLiningsInItModel" "numbers" "[I") (List.mem_of_getElem? (i := 3) rfl)) (fun _ h9 => h9) rfl dX8_item_42 ?_
                refine lv_iload_n hx hb dX8_item_45 rfl (lv_at hl 2 rfl) ?_
                refine va_iald hx hb hK hP 0 0 rfl rfl (zf_in (by decide) (by decide)) dX8_item_46 ?_
                refine lv_topi (fun x_280 ex_280 => ?_)
                obtain rfl : x_280 = 1 := ex_280.trans ((congrArg gnu (show (6 : Int32).toNatClampNeg = 6 from by decide)).trans ((hnu 6 (by decide)).trans (by decide)))
                refine lv_icmp_ge (tgt := 149) hx hb dX8_item_47 (by decide) (fun c_281 => ?_) (fun c_281 => ?_)
                · refine lv_iload_n hx hb dX8_item_149 rfl (lv_at hl 2 rfl) ?_
                  refine lv_tableIn (tgt := 311) hx hb dX8_item_150 (by decide) (by decide) rfl (by decide) ?_
                  refine lv_aload_n hx hb dX8_item_311 rfl (lv_at hl 3 rfl) ?_
                  refine lv_iload_n hx hb dX8_item_312 rfl (lv_at hl 2 rfl) ?_
                  refine lv_iconst (v := 4) hx hb dX8_item_313 (by decide) ?_
                  refine lv_isub hx hb dX8_item_314 ?_
                  refine lv_topi (fun y_282 ey_282 => ?_)
                  obtain rfl : y_282 = 2 := ey_282.trans (by decide)
                  refine lv_aload_n hx hb dX8_item_315 rfl (lv_at hl 3 rfl) ?_
                  refine va_get (D := D) (ci := 8) (v := .ref mte) (C := RX8) (T := TX8) (N := 38) hx hb hts hi_X8_item_8 hown hK hP 9 rfl rfl 25 (by decide) (hts (.fieldLink RX8 72 "TheLiningsInItModel" "tell" "[I") (List.mem_of_getElem? (i := 7) rfl)) (fun _ h9 => h9) rfl dX8_item_316 ?_
                  refine lv_iconst (v := 0) hx hb dX8_item_319 (by decide) ?_
                  refine va_iald hx hb hK hP 7 0 rfl rfl (zf_in (by decide) (by decide)) dX8_item_320 ?_
                  refine lv_topi (fun x_283 ex_283 => ?_)
                  obtain rfl : q_271 = x_283 := (ex_283.trans (if_pos rfl)).symm
                  have kc2 : (2 : Int32).toInt = 2 := by decide
                  skip
                  refine zw_Vv (As := [.int 2, .int q_271]) (rest := []) (wr := [(mnu, .inl (cI, 10, .inl gnu)), (mki, .inl (cI, 8, .inl gki)), (mpa, .inl (cI, 8, .inl gpa)), (mta, .inl (cI, 8, .inl gta)), (mla, .inl (cI, 40, .inl gla)), (msl, .inl (cI, 40, .inl gsl)), (mte, .inl (cI, 3, .inl (upd gte (0 : Int32).toNatClampNeg q_271))), (mwo, .inl (cI, 64, .inl gwo)), (mce, .inl (cJ, 1280, .inr (.inl gce)))]) ⟨hx, hb, hml, hown, hts⟩ (c_M_tells l D cI cJ cZ cP cS po m0 mrf mki mpa mta mla msl mco mhe mso msi msh mce mca mwo mnu mte mwa mke mma mth mtr (npu) (nte) (nat_) (nde) (nto) (nse) (nhu) (nga) (nsd) (nfa) (nba) (q_270) (nen) (q_271) (q_272) (nra) (nik) gco (2) (q_271) hy0 hy1 hy2 hy3 hy4 hy5 hy6 hy7 hy8 hy9 hy10 hy11 hy12 hy13 (by omega) (by omega) (by omega) hp_gco H.size) (cwV 2 hts gX8_item_X8_tells rfl rfl rfl ⟨rfl, dh_X8_tells⟩ ⟨Nat.le_of_ble_eq_true rfl, Nat.le_of_ble_eq_true rfl⟩) hK hN (hZ.kept hS) hP hD hS hA [9, 6] [0, 1, 2, 3, 4, 5, 7, 8, 10] rfl rfl (by decide) (by decide) (by decide) (va_recv (q := (RX8, TX8, 38)) hK hP (ci := 8) (q0 := 9) rfl rfl) rfl hl.1 rfl (Nat.le_of_ble_eq_true rfl) dX8_item_321 ⟨Nat.le_of_ble_eq_true rfl, Nat.le_of_ble_eq_true rfl⟩ (fun u_285 H locs hr_284 hP hD hS => ?_)
                  obtain ⟨q_286, q_287, q_288, q_289, q_290, q_291⟩ := u_285
                  try dsimp only at hr_284
                  obtain ⟨hbq_286, hbq_288, hbq_290, hpq_291, hr_284⟩ := hr_284
                  have h9R := zRe (ws' := [(mnu, .inl (cI, 10, .inl gnu)), (mki, .inl (cI, 8, .inl gki)), (mpa, .inl (cI, 8, .inl gpa)), (mta, .inl (cI, 8, .inl gta)), (mla, .inl (cI, 40, .inl gla)), (msl, .inl (cI, 40, .inl gsl)), (mte, .inl (cI, 3, .inl (upd gte (0 : Int32).toNatClampNeg q_271))), (mwo, .inl (cI, 64, .inl gwo)), (mce, .inl (cJ, 1280, .inr (.inl gce))), (zMO m0 npu nte q_290 q_286 nto q_287 q_288 q_289 nsd nfa mrf mki mpa mta mla msl mco mhe mso msi msh mce mca mwo mnu mte nba q_270 nen q_271 q_272 mwa mke mma mth mtr nra nik), (mco, .inl (cI, 3, .inl q_291))]) hP hD rfl
                  clear hP hD
                  obtain ⟨hP, hD⟩ := h9R
                  refine lv_iconst (v := 1) hx hb dX8_item_324 (by decide) ?_
                  have hI := zIn_a hn0 (by first | (right; decide) | (left; omega))
                  exact W.zret (v := 1) hx hb hr (by decide) (fun t ht hW => ⟨⟨1, (npu, nte, q_290, q_286, q_287, q_288, q_289, gki, gpa, gta, gla, gsl, q_291, (upd gte (0 : Int32).toNatClampNeg q_271), q_270, q_271, q_272), rfl, ⟨(show 0 ≤ npu.toInt ∧ npu.toInt ≤ 8 from ⟨hy0, hy1⟩), (show 4 ≤ nte.toInt ∧ nte.toInt ≤ 40 from ⟨hy2, hy3⟩), (show 0 ≤ q_290.toInt ∧ q_290.toInt ≤ 40 from hbq_290), (show 0 ≤ q_286.toInt ∧ q_286.toInt ≤ 24 from hbq_286), (show 0 ≤ q_288.toInt ∧ q_288.toInt ≤ 9 from hbq_288), hp_gki, hp_gpa, hp_gta, hp_gla, hp_gsl, hpq_291, (show 0 ≤ q_270.toInt ∧ q_270.toInt ≤ 160 from hbq_270), (show npl.toInt ≤ q_270.toInt ∧ q_270.toInt ≤ nen.toInt from by exact ⟨by omega, by omega⟩), (show ((1 : Int32).toInt = 1 → (zItem (zMF gce nba.toInt) nen.toInt npl.toInt nte.toInt npu.toInt).1 = -1 ∧ q_270.toInt = (zItem (zMF gce nba.toInt) nen.toInt npl.toInt nte.toInt npu.toInt).2.1 ∧ nte.toInt = (zItem (zMF gce nba.toInt) nen.toInt npl.toInt nte.toInt npu.toInt).2.2.1 ∧ npu.toInt = (zItem (zMF gce nba.toInt) nen.toInt npl.toInt nte.toInt npu.toInt).2.2.2) ∧ ((1 : Int32).toInt = 0 → (zItem (zMF gce nba.toInt) nen.toInt npl.toInt nte.toInt npu.toInt).1 = q_272.toInt ∧ 0 ≤ q_272.toInt) from by (have k9 : (1 : Int32).toInt = 1 := (by decide); rw [zItem_w hW1 (by decide) hp8 rfl hI]; dsimp only; exact ⟨fun _ => ⟨rfl, by first | rfl | omega, by (show _ = (if (6 : Int) = 0 then _ else _); rw [if_neg (by decide)]), by (show _ = (if (6 : Int) = 3 then _ else _); rw [if_neg (by decide)])⟩, fun h => absurd h (by decide)⟩)), ⟨by decide, by decide⟩⟩, zRet ht hP hD [9, 7, 0, 8, 1, 2, 3, 4, 5, 10, 6] (by decide) rfl⟩, hS.F ht⟩) hS.2.2 dX8_item_325
                · exact absurd c_281 (by decide)
              · have fc_279 : r_276.toInt = 0 := zf_eq c_279 rfl (by decide)
                obtain ⟨hy1_0, hy2_0, hy3_0⟩ := hsr_268_2.1 (by omega)
                have hn0 : zN1 (zMF gce nba.toInt) nen.toInt (npl.toInt + ((zWds ((6 : Int)).toNat).length : Int)) (zLo 6 0) (zHi 6 0 nte.toInt) = ((q_7 : Int32).toInt, (q_270 : Int32).toInt, (q_271 : Int32).toInt) := zN1_yes (p1 := (q_7 : Int32).toInt) (lo2 := 0) (hi2 := (9 : Int)) ⟨hW2, hW3⟩ (by omega) hy1_0 hy2_0 (by decide) (by first | rfl | decide | (show nte.toInt - 1 = _; omega) | (show nte.toInt = _; omega)) (by omega)
                refine lv_aload_n hx hb dX8_item_127 rfl (lv_at hl 3 rfl) ?_
                refine lv_iload_n hx hb dX8_item_128 rfl (lv_at hl 0 rfl) ?_
                skip
                refine zw_V (As := [.int q_7]) (rest := []) (wr := [(mnu, .inl (cI, 10, .inl gnu)), (mki, .inl (cI, 8, .inl gki)), (mpa, .inl (cI, 8, .inl gpa)), (mta, .inl (cI, 8, .inl gta)), (mla, .inl (cI, 40, .inl gla)), (msl, .inl (cI, 40, .inl gsl)), (mco, .inl (cI, 3, .inl gco)), (mte, .inl (cI, 3, .inl gte)), (mwo, .inl (cI, 64, .inl gwo)), (mce, .inl (cJ, 1280, .inr (.inl gce)))]) ⟨hx, hb, hml, hown, hts⟩ (c_F_M_wrong l D cI cJ cZ cP cS po m0 mrf mki mpa mta mla msl mco mhe mso msi msh mce mca mwo mnu mte mwa mke mma mth mtr (npu) (nte) (nat_) (nde) (nto) (nse) (nhu) (nga) (nsd) (nfa) (nba) (q_270) (nen) (q_271) (q_272) (nra) (nik) (q_7) hy0 hy1 hy2 hy3 hy4 hy5 hy6 hy7 hy8 hy9 hy10 hy11 hy12 hy13 H.size) (cwV 1 hts gX8_item_X8_wrong rfl rfl rfl ⟨rfl, dh_X8_wrong⟩ ⟨Nat.le_of_ble_eq_true rfl, Nat.le_of_ble_eq_true rfl⟩) hK hN (hZ.kept hS) hP hD hS hA [9] [0, 1, 2, 3, 4, 5, 6, 7, 8, 10] rfl rfl (by decide) (by decide) (by decide) (va_recv (q := (RX8, TX8, 38)) hK hP (ci := 8) (q0 := 9) rfl rfl) rfl hl.1 rfl (Nat.le_of_ble_eq_true rfl) dX8_item_129 ⟨Nat.le_of_ble_eq_true rfl, Nat.le_of_ble_eq_true rfl⟩ (fun r_292 u_293 H locs hr_292 hP hD hS => ?_)
                obtain ⟨q_294, rfl⟩ : ∃ z, z = u_293 := ⟨_, rfl⟩
                obtain ⟨hsr_292_0, hr_292⟩ := hr_292
                have h9R := zRe (ws' := [(mnu, .inl (cI, 10, .inl gnu)), (mki, .inl (cI, 8, .inl gki)), (mpa, .inl (cI, 8, .inl gpa)), (mta, .inl (cI, 8, .inl gta)), (mla, .inl (cI, 40, .inl gla)), (msl, .inl (cI, 40, .inl gsl)), (mco, .inl (cI, 3, .inl gco)), (mte, .inl (cI, 3, .inl gte)), (mwo, .inl (cI, 64, .inl gwo)), (mce, .inl (cJ, 1280, .inr (.inl gce))), (zMO m0 npu nte nat_ nde nto nse nhu nga nsd nfa mrf mki mpa mta mla msl mco mhe mso msi msh mce mca mwo mnu mte nba q_270 nen q_271 q_294 mwa mke mma mth mtr nra nik)]) hP hD rfl
                clear hP hD
                obtain ⟨hP, hD⟩ := h9R
                obtain rfl := hr_292
                have hI := zIn_a hn0 (by first | (right; decide) | (left; omega))
                exact W.zret (v := 0) hx hb hr (by decide) (fun t ht hW => ⟨⟨0, (npu, nte, nat_, nde, nse, nhu, nga, gki, gpa, gta, gla, gsl, gco, gte, q_270, q_271, q_294), rfl, ⟨(show 0 ≤ npu.toInt ∧ npu.toInt ≤ 8 from ⟨hy0, hy1⟩), (show 4 ≤ nte.toInt ∧ nte.toInt ≤ 40 from ⟨hy2, hy3⟩), (show 0 ≤ nat_.toInt ∧ nat_.toInt ≤ 40 from ⟨hy4, hy5⟩), (show 0 ≤ nde.toInt ∧ nde.toInt ≤ 24 from ⟨hy6, hy7⟩), (show 0 ≤ nhu.toInt ∧ nhu.toInt ≤ 9 from ⟨hy8, hy9⟩), hp_gki, hp_gpa, hp_gta, hp_gla, hp_gsl, hp_gco, (show 0 ≤ q_270.toInt ∧ q_270.toInt ≤ 160 from hbq_270), (show npl.toInt ≤ q_270.toInt ∧ q_270.toInt ≤ nen.toInt from by exact ⟨by omega, by omega⟩), (show ((0 : Int32).toInt = 1 → (zItem (zMF gce nba.toInt) nen.toInt npl.toInt nte.toInt npu.toInt).1 = -1 ∧ q_270.toInt = (zItem (zMF gce nba.toInt) nen.toInt npl.toInt nte.toInt npu.toInt).2.1 ∧ nte.toInt = (zItem (zMF gce nba.toInt) nen.toInt npl.toInt nte.toInt npu.toInt).2.2.1 ∧ npu.toInt = (zItem (zMF gce nba.toInt) nen.toInt npl.toInt nte.toInt npu.toInt).2.2.2) ∧ ((0 : Int32).toInt = 0 → (zItem (zMF gce nba.toInt) nen.toInt npl.toInt nte.toInt npu.toInt).1 = q_294.toInt ∧ 0 ≤ q_294.toInt) from by (have k9 : (0 : Int32).toInt = 0 := (by decide); rw [zItem_w hW1 (by decide) hp8 rfl hI]; dsimp only; exact ⟨fun h => absurd h (by decide), fun _ => ⟨by first | rfl | (show _ = _; omega), by omega⟩⟩)), ⟨by decide, by decide⟩⟩, zRet ht hP hD [10, 8, 0, 9, 1, 2, 3, 4, 5, 6, 7] (by decide) rfl⟩, hS.F ht⟩) hS.2.2 dX8_item_132
            · have fc_275 : r_268.toInt = 0 := zf_eq c_275 rfl (by decide)
              have hn0 : zN1 (zMF gce nba.toInt) nen.toInt (npl.toInt + ((zWds ((6 : Int)).toNat).length : Int)) (zLo 6 0) (zHi 6 0 nte.toInt) = ((q_7 : Int32).toInt, (q_7 : Int32).toInt, 0) := zN1_yes (p1 := (q_7 : Int32).toInt) (lo2 := 0) (hi2 := (9 : Int)) ⟨hW2, hW3⟩ (by omega) (hsr_268_2.2 (by omega)).1.symm zNv_0.symm (by decide) (by first | rfl | decide | (show nte.toInt - 1 = _; omega) | (show nte.toInt = _; omega)) (Or.inl ⟨rfl, Or.inl rfl⟩)
              refine lv_iconst (v := 0) hx hb dX8_item_116 (by decide) ?_
              have hI := zIn_a hn0 (by first | (right; decide) | (left; omega))
              exact W.zret (v := 0) hx hb hr (by decide) (fun t ht hW => ⟨⟨0, (npu, nte, nat_, nde, nse, nhu, nga, gki, gpa, gta, gla, gsl, gco, gte, q_270, q_271, q_272), rfl, ⟨(show 0 ≤ npu.toInt ∧ npu.toInt ≤ 8 from ⟨hy0, hy1⟩), (show 4 ≤ nte.toInt ∧ nte.toInt ≤ 40 from ⟨hy2, hy3⟩), (show 0 ≤ nat_.toInt ∧ nat_.toInt ≤ 40 from ⟨hy4, hy5⟩), (show 0 ≤ nde.toInt ∧ nde.toInt ≤ 24 from ⟨hy6, hy7⟩), (show 0 ≤ nhu.toInt ∧ nhu.toInt ≤ 9 from ⟨hy8, hy9⟩), hp_gki, hp_gpa, hp_gta, hp_gla, hp_gsl, hp_gco, (show 0 ≤ q_270.toInt ∧ q_270.toInt ≤ 160 from hbq_270), (show npl.toInt ≤ q_270.toInt ∧ q_270.toInt ≤ nen.toInt from by exact ⟨by omega, by omega⟩), (show ((0 : Int32).toInt = 1 → (zItem (zMF gce nba.toInt) nen.toInt npl.toInt nte.toInt npu.toInt).1 = -1 ∧ q_270.toInt = (zItem (zMF gce nba.toInt) nen.toInt npl.toInt nte.toInt npu.toInt).2.1 ∧ nte.toInt = (zItem (zMF gce nba.toInt) nen.toInt npl.toInt nte.toInt npu.toInt).2.2.1 ∧ npu.toInt = (zItem (zMF gce nba.toInt) nen.toInt npl.toInt nte.toInt npu.toInt).2.2.2) ∧ ((0 : Int32).toInt = 0 → (zItem (zMF gce nba.toInt) nen.toInt npl.toInt nte.toInt npu.toInt).1 = q_272.toInt ∧ 0 ≤ q_272.toInt) from by (have k9 : (0 : Int32).toInt = 0 := (by decide); rw [zItem_w hW1 (by decide) hp8 rfl hI]; dsimp only; exact ⟨fun h => absurd h (by decide), fun _ => ⟨by first | rfl | (show _ = _; omega), by omega⟩⟩)), ⟨by decide, by decide⟩⟩, zRet ht hP hD [9, 8, 0, 10, 1, 2, 3, 4, 5, 6, 7] (by decide) rfl⟩, hS.F ht⟩) hS.2.2 dX8_item_117
          · exact absurd c_267 (by decide)
      · have kc7 : (7 : Int32).toInt = 7 := by decide
        have z9 := hsr_5_1
        rw [kc7] at z9
        obtain ⟨hW1, hW2, hW3, hW4⟩ := zItem_Mw (f := (zMF gce nba.toInt)) (e := nen.toInt) (p := npl.toInt) (w := 7) (by omega) (by decide)
        have hp8 : ¬ ((7 : Int) = 3 ∧ npu.toInt = 8) := fun z => absurd z.1 (by decide)
        refine lv_iconst (v := 0) hx hb dX8_item_38 (by decide) ?_
        refine lv_istore_n (lv' := [(2, .int 0), (1, .int 7), (0, .ref m0)]) hx hb dX8_item_39 rfl hl (by decide) rfl (fun ls hl => ?_)
        refine lv_iload_n hx hb dX8_item_40 rfl (lv_at hl 0 rfl) ?_
        refine lv_aload_n hx hb dX8_item_41 rfl (lv_at hl 2 rfl) ?_
        refine va_get (D := D) (ci := 8) (v := .ref mnu) (C := RX8) (T := TX8) (N := 38) hx hb hts hi_X8_item_8 hown hK hP 8 rfl rfl 24 (by decide) (hts (.fieldLink RX8 69 "TheLiningsInItModel" "numbers" "[I") (List.mem_of_getElem? (i := 3) rfl)) (fun _ h9 => h9) rfl dX8_item_42 ?_
        refine lv_iload_n hx hb dX8_item_45 rfl (lv_at hl 1 rfl) ?_
        refine va_iald hx hb hK hP 0 0 rfl rfl (zf_in (by decide) (by decide)) dX8_item_46 ?_
        refine lv_topi (fun x_295 ex_295 => ?_)
        obtain rfl : x_295 = 1 := ex_295.trans ((congrArg gnu (show (7 : Int32).toNatClampNeg = 7 from by decide)).trans ((hnu 7 (by decide)).trans (by decide)))
        refine lv_icmp_ge (tgt := 149) hx hb dX8_item_47 (by decide) (fun c_296 => ?_) (fun c_296 => ?_)
        · exact absurd c_296 (by decide)
        · refine lv_iload_n hx hb dX8_item_50 rfl (lv_at hl 0 rfl) ?_
          refine lv_if_le (tgt := 104) hx hb dX8_item_51 (by decide) (fun c_297 => ?_) (fun c_297 => ?_)
          · refine lv_aload_n hx hb dX8_item_104 rfl (lv_at hl 2 rfl) ?_
            refine va_get (D := D) (ci := 8) (v := .int q_7) (C := RX8) (T := TX8) (N := 38) hx hb hts hi_X8_item_8 hown hK hP 8 rfl rfl 27 (by decide) (hts (.fieldLink RX8 152 "TheLiningsInItModel" "place" "I") (List.mem_of_getElem? (i := 2) rfl)) (fun _ h9 => h9) rfl dX8_item_105 ?_
            refine lv_istore_n (lv' := [(3, .int q_7), (2, .int 0), (1, .int 7), (0, .ref m0)]) hx hb dX8_item_108 rfl hl (by decide) rfl (fun ls hl => ?_)
            refine lv_aload_n hx hb dX8_item_109 rfl (lv_at hl 3 rfl) ?_
            skip
            refine zw_V (As := []) (rest := []) (wr := [(mnu, .inl (cI, 10, .inl gnu)), (mki, .inl (cI, 8, .inl gki)), (mpa, .inl (cI, 8, .inl gpa)), (mta, .inl (cI, 8, .inl gta)), (mla, .inl (cI, 40, .inl gla)), (msl, .inl (cI, 40, .inl gsl)), (mco, .inl (cI, 3, .inl gco)), (mte, .inl (cI, 3, .inl gte)), (mwo, .inl (cI, 64, .inl gwo))]) ⟨hx, hb, hml, hown, hts⟩ (c_F_M_reads l D cI cJ cZ cP cS po m0 mrf mki mpa mta mla msl mco mhe mso msi msh mce mca mwo mnu mte mwa mke mma mth mtr (npu) (nte) (nat_) (nde) (nto) (nse) (nhu) (nga) (nsd) (nfa) (nba) (q_7) (nen) (nnu) (q_8) (nra) (nik) gce hy0 hy1 hy2 hy3 hy4 hy5 hy6 hy7 hy8 hy9 hy10 hy11 hy12 hy13 hy14 hy15 hbq_7.1 hbq_7.2 hy18 hy19 (by omega) H.size) (cwV 0 hts gX8_item_X8_reads rfl rfl rfl ⟨rfl, dh_X8_reads⟩ ⟨Nat.le_of_ble_eq_true rfl, Nat.le_of_ble_eq_true rfl⟩) hK hN (hZ.kept hS) hP hD hS hA [8, 10] [0, 1, 2, 3, 4, 5, 6, 7, 9] rfl rfl (by decide) (by decide) (by decide) (va_recv (q := (RX8, TX8, 38)) hK hP (ci := 8) (q0 := 8) rfl rfl) rfl hl.1 rfl (Nat.le_of_ble_eq_true rfl) dX8_item_110 ⟨Nat.le_of_ble_eq_true rfl, Nat.le_of_ble_eq_true rfl⟩ (fun r_298 u_299 H locs hr_298 hP hD hS => ?_)
            obtain ⟨q_300, q_301, q_302⟩ := u_299
            try dsimp only at hr_298
            obtain ⟨hbq_300, hsr_298_0, hsr_298_1, hsr_298_2, hr_298⟩ := hr_298
            have h9R := zRe (ws' := [(mnu, .inl (cI, 10, .inl gnu)), (mki, .inl (cI, 8, .inl gki)), (mpa, .inl (cI, 8, .inl gpa)), (mta, .inl (cI, 8, .inl gta)), (mla, .inl (cI, 40, .inl gla)), (msl, .inl (cI, 40, .inl gsl)), (mco, .inl (cI, 3, .inl gco)), (mte, .inl (cI, 3, .inl gte)), (mwo, .inl (cI, 64, .inl gwo)), (zMO m0 npu nte nat_ nde nto nse nhu nga nsd nfa mrf mki mpa mta mla msl mco mhe mso msi msh mce mca mwo mnu mte nba q_300 nen q_301 q_302 mwa mke mma mth mtr nra nik), (mce, .inl (cJ, 1280, .inr (.inl gce)))]) hP hD rfl
            clear hP hD
            obtain ⟨hP, hD⟩ := h9R
            obtain ⟨g_303, g_304⟩ := hr_298
            refine lv_if_ne (tgt := 118) hx hb dX8_item_113 (by decide) (fun c_305 => ?_) (fun c_305 => ?_)
            · have fc_305 : r_298.toInt ≠ 0 := zf_ne c_305 rfl (by decide)
              refine lv_aload_n hx hb dX8_item_118 rfl (lv_at hl 3 rfl) ?_
              refine lv_iload_n hx hb dX8_item_119 rfl (lv_at hl 2 rfl) ?_
              refine lv_iload_n hx hb dX8_item_120 rfl (lv_at hl 1 rfl) ?_
              refine zc_V (As := [.int 7, .int 0]) (rest := []) ⟨hx, hb, hml, hown, hts⟩ (c_F_M_isSo_7_0 l D cI cJ cZ cP cS po m0 mrf mki mpa mta mla msl mco mhe mso msi msh mce mca mwo mnu mte mwa mke mma mth mtr (npu) (nte) (nat_) (nde) (nto) (nse) (nhu) (nga) (nsd) (nfa) (nba) (q_300) (nen) (q_301) (q_302) (nra) (nik) hy0 hy1 hy2 hy3 hy4 hy5 hy6 hy7 hy8 hy9 hy10 hy11 hy12 hy13 (by omega) (by omega)) (cwV 2 hts gX8_item_X8_isSo rfl rfl rfl ⟨rfl, dh_X8_isSo⟩ ⟨Nat.le_of_ble_eq_true rfl, Nat.le_of_ble_eq_true rfl⟩) hK hN (hZ.kept hS) hP (hP.sub [9] rfl) (va_recv (q := (RX8, TX8, 38)) hK hP (ci := 8) (q0 := 9) rfl rfl) rfl hl.1 rfl (Nat.le_of_ble_eq_true rfl) dX8_item_121 ⟨Nat.le_of_ble_eq_true rfl, Nat.le_of_ble_eq_true rfl⟩ (fun r_306 hr_306 => ?_)
              obtain ⟨g_307, g_308, hsr_306_0⟩ := hr_306
              refine lv_if_ne (tgt := 133) hx hb dX8_item_124 (by decide) (fun c_309 => ?_) (fun c_309 => ?_)
              · have fc_309 : r_306.toInt ≠ 0 := zf_ne c_309 rfl (by decide)
                obtain ⟨hy1_0, hy2_0, hy3_0⟩ := hsr_298_2.1 (by omega)
                have hn0 : zN1 (zMF gce nba.toInt) nen.toInt (npl.toInt + ((zWds ((7 : Int)).toNat).length : Int)) (zLo 7 0) (zHi 7 0 nte.toInt) = (-1, (q_300 : Int32).toInt, (q_301 : Int32).toInt) := zN1_yes (p1 := (q_7 : Int32).toInt) (lo2 := 1) (hi2 := (9 : Int)) ⟨hW2, hW3⟩ (by omega) hy1_0 hy2_0 (by decide) (by first | rfl | decide | (show nte.toInt - 1 = _; omega) | (show nte.toInt = _; omega)) (by omega)
                refine lv_aload_n hx hb dX8_item_133 rfl (lv_at hl 3 rfl) ?_
                refine va_get (D := D) (ci := 8) (v := .ref mte) (C := RX8) (T := TX8) (N := 38) hx hb hts hi_X8_item_8 hown hK hP 9 rfl rfl 25 (by decide) (hts (.fieldLink RX8 72 "TheLiningsInItModel" "tell" "[I") (List.mem_of_getElem? (i := 7) rfl)) (fun _ h9 => h9) rfl dX8_item_134 ?_
                refine lv_iload_n hx hb dX8_item_137 rfl (lv_at hl 1 rfl) ?_
                refine lv_aload_n hx hb dX8_item_138 rfl (lv_at hl 3 rfl) ?_
                refine va_get (D := D) (ci := 8) (v := .int q_301) (C := RX8) (T := TX8) (N := 38) hx hb hts hi_X8_item_8 hown hK hP 9 rfl rfl 29 (by decide) (hts (.fieldLink RX8 161 "TheLiningsInItModel" "number" "I") (List.mem_of_getElem? (i := 8) rfl)) (fun _ h9 => h9) rfl dX8_item_139 ?_
                refine va_iast hx hb hK hP hD hS 7 0 rfl rfl (zf_in (by decide) (by decide)) dX8_item_142 (fun H locs hP hD hS => ?_)
                have h9R := zRe (ws' := [(mnu, .inl (cI, 10, .inl gnu)), (mki, .inl (cI, 8, .inl gki)), (mpa, .inl (cI, 8, .inl gpa)), (mta, .inl (cI, 8, .inl gta)), (mla, .inl (cI, 40, .inl gla)), (msl, .inl (cI, 40, .inl gsl)), (mco, .inl (cI, 3, .inl gco)), (mte, .inl (cI, 3, .inl (upd gte (0 : Int32).toNatClampNeg q_301))), (mwo, .inl (cI, 64, .inl gwo)), (zMO m0 npu nte nat_ nde nto nse nhu nga nsd nfa mrf mki mpa mta mla msl mco mhe mso msi msh mce mca mwo mnu mte nba q_300 nen q_301 q_302 mwa mke mma mth mtr nra nik), (mce, .inl (cJ, 1280, .inr (.inl gce)))]) hP hD rfl
                clear hP hD
                obtain ⟨hP, hD⟩ := h9R
                refine lv_iinc (v := 1) (lv' := [(2, .int 1), (3, .int q_7), (1, .int 7), (0, .ref m0)]) hx hb dX8_item_143 hl (k := 1) rfl (by decide) (by decide) rfl (fun ls hl => ?_)
                refine lv_goto (tgt := 40) hx hb dX8_item_146 (by decide) ?_
                refine lv_iload_n hx hb dX8_item_40 rfl (lv_at hl 0 rfl) ?_
                refine lv_aload_n hx hb dX8_item_41 rfl (lv_at hl 3 rfl) ?_
                refine va_get (D := D) (ci := 8) (v := .ref mnu) (C := RX8) (T := TX8) (N := 38) hx hb hts hi_X8_item_8 hown hK hP 9 rfl rfl 24 (by decide) (hts (.fieldLink RX8 69 "TheLiningsInItModel" "numbers" "[I") (List.mem_of_getElem? (i := 3) rfl)) (fun _ h9 => h9) rfl dX8_item_42 ?_
                refine lv_iload_n hx hb dX8_item_45 rfl (lv_at hl 2 rfl) ?_
                refine va_iald hx hb hK hP 0 0 rfl rfl (zf_in (by decide) (by decide)) dX8_item_46 ?_
                refine lv_topi (fun x_310 ex_310 => ?_)
                obtain rfl : x_310 = 1 := ex_310.trans ((congrArg gnu (show (7 : Int32).toNatClampNeg = 7 from by decide)).trans ((hnu 7 (by decide)).trans (by decide)))
                refine lv_icmp_ge (tgt := 149) hx hb dX8_item_47 (by decide) (fun c_311 => ?_) (fun c_311 => ?_)
                · refine lv_iload_n hx hb dX8_item_149 rfl (lv_at hl 2 rfl) ?_
                  refine lv_tableIn (tgt := 311) hx hb dX8_item_150 (by decide) (by decide) rfl (by decide) ?_
                  refine lv_aload_n hx hb dX8_item_311 rfl (lv_at hl 3 rfl) ?_
                  refine lv_iload_n hx hb dX8_item_312 rfl (lv_at hl 2 rfl) ?_
                  refine lv_iconst (v := 4) hx hb dX8_item_313 (by decide) ?_
                  refine lv_isub hx hb dX8_item_314 ?_
                  refine lv_topi (fun y_312 ey_312 => ?_)
                  obtain rfl : y_312 = 3 := ey_312.trans (by decide)
                  refine lv_aload_n hx hb dX8_item_315 rfl (lv_at hl 3 rfl) ?_
                  refine va_get (D := D) (ci := 8) (v := .ref mte) (C := RX8) (T := TX8) (N := 38) hx hb hts hi_X8_item_8 hown hK hP 9 rfl rfl 25 (by decide) (hts (.fieldLink RX8 72 "TheLiningsInItModel" "tell" "[I") (List.mem_of_getElem? (i := 7) rfl)) (fun _ h9 => h9) rfl dX8_item_316 ?_
                  refine lv_iconst (v := 0) hx hb dX8_item_319 (by decide) ?_
                  refine va_iald hx hb hK hP 7 0 rfl rfl (zf_in (by decide) (by decide)) dX8_item_320 ?_
                  refine lv_topi (fun x_313 ex_313 => ?_)
                  obtain rfl : q_301 = x_313 := (ex_313.trans (if_pos rfl)).symm
                  have kc3 : (3 : Int32).toInt = 3 := by decide
                  skip
                  refine zw_Vv (As := [.int 3, .int q_301]) (rest := []) (wr := [(mnu, .inl (cI, 10, .inl gnu)), (mki, .inl (cI, 8, .inl gki)), (mpa, .inl (cI, 8, .inl gpa)), (mta, .inl (cI, 8, .inl gta)), (mla, .inl (cI, 40, .inl gla)), (msl, .inl (cI, 40, .inl gsl)), (mte, .inl (cI, 3, .inl (upd gte (0 : Int32).toNatClampNeg q_301))), (mwo, .inl (cI, 64, .inl gwo)), (mce, .inl (cJ, 1280, .inr (.inl gce)))]) ⟨hx, hb, hml, hown, hts⟩ (c_M_tells l D cI cJ cZ cP cS po m0 mrf mki mpa mta mla msl mco mhe mso msi msh mce mca mwo mnu mte mwa mke mma mth mtr (npu) (nte) (nat_) (nde) (nto) (nse) (nhu) (nga) (nsd) (nfa) (nba) (q_300) (nen) (q_301) (q_302) (nra) (nik) gco (3) (q_301) hy0 hy1 hy2 hy3 hy4 hy5 hy6 hy7 hy8 hy9 hy10 hy11 hy12 hy13 (by omega) (by omega) (by omega) hp_gco H.size) (cwV 2 hts gX8_item_X8_tells rfl rfl rfl ⟨rfl, dh_X8_tells⟩ ⟨Nat.le_of_ble_eq_true rfl, Nat.le_of_ble_eq_true rfl⟩) hK hN (hZ.kept hS) hP hD hS hA [9, 6] [0, 1, 2, 3, 4, 5, 7, 8, 10] rfl rfl (by decide) (by decide) (by decide) (va_recv (q := (RX8, TX8, 38)) hK hP (ci := 8) (q0 := 9) rfl rfl) rfl hl.1 rfl (Nat.le_of_ble_eq_true rfl) dX8_item_321 ⟨Nat.le_of_ble_eq_true rfl, Nat.le_of_ble_eq_true rfl⟩ (fun u_315 H locs hr_314 hP hD hS => ?_)
                  obtain ⟨q_316, q_317, q_318, q_319, q_320, q_321⟩ := u_315
                  try dsimp only at hr_314
                  obtain ⟨hbq_316, hbq_318, hbq_320, hpq_321, hr_314⟩ := hr_314
                  have h9R := zRe (ws' := [(mnu, .inl (cI, 10, .inl gnu)), (mki, .inl (cI, 8, .inl gki)), (mpa, .inl (cI, 8, .inl gpa)), (mta, .inl (cI, 8, .inl gta)), (mla, .inl (cI, 40, .inl gla)), (msl, .inl (cI, 40, .inl gsl)), (mte, .inl (cI, 3, .inl (upd gte (0 : Int32).toNatClampNeg q_301))), (mwo, .inl (cI, 64, .inl gwo)), (mce, .inl (cJ, 1280, .inr (.inl gce))), (zMO m0 npu nte q_320 q_316 nto q_317 q_318 q_319 nsd nfa mrf mki mpa mta mla msl mco mhe mso msi msh mce mca mwo mnu mte nba q_300 nen q_301 q_302 mwa mke mma mth mtr nra nik), (mco, .inl (cI, 3, .inl q_321))]) hP hD rfl
                  clear hP hD
                  obtain ⟨hP, hD⟩ := h9R
                  refine lv_iconst (v := 1) hx hb dX8_item_324 (by decide) ?_
                  have hI := zIn_a hn0 (by first | (right; decide) | (left; omega))
                  exact W.zret (v := 1) hx hb hr (by decide) (fun t ht hW => ⟨⟨1, (npu, nte, q_320, q_316, q_317, q_318, q_319, gki, gpa, gta, gla, gsl, q_321, (upd gte (0 : Int32).toNatClampNeg q_301), q_300, q_301, q_302), rfl, ⟨(show 0 ≤ npu.toInt ∧ npu.toInt ≤ 8 from ⟨hy0, hy1⟩), (show 4 ≤ nte.toInt ∧ nte.toInt ≤ 40 from ⟨hy2, hy3⟩), (show 0 ≤ q_320.toInt ∧ q_320.toInt ≤ 40 from hbq_320), (show 0 ≤ q_316.toInt ∧ q_316.toInt ≤ 24 from hbq_316), (show 0 ≤ q_318.toInt ∧ q_318.toInt ≤ 9 from hbq_318), hp_gki, hp_gpa, hp_gta, hp_gla, hp_gsl, hpq_321, (show 0 ≤ q_300.toInt ∧ q_300.toInt ≤ 160 from hbq_300), (show npl.toInt ≤ q_300.toInt ∧ q_300.toInt ≤ nen.toInt from by exact ⟨by omega, by omega⟩), (show ((1 : Int32).toInt = 1 → (zItem (zMF gce nba.toInt) nen.toInt npl.toInt nte.toInt npu.toInt).1 = -1 ∧ q_300.toInt = (zItem (zMF gce nba.toInt) nen.toInt npl.toInt nte.toInt npu.toInt).2.1 ∧ nte.toInt = (zItem (zMF gce nba.toInt) nen.toInt npl.toInt nte.toInt npu.toInt).2.2.1 ∧ npu.toInt = (zItem (zMF gce nba.toInt) nen.toInt npl.toInt nte.toInt npu.toInt).2.2.2) ∧ ((1 : Int32).toInt = 0 → (zItem (zMF gce nba.toInt) nen.toInt npl.toInt nte.toInt npu.toInt).1 = q_302.toInt ∧ 0 ≤ q_302.toInt) from by (have k9 : (1 : Int32).toInt = 1 := (by decide); rw [zItem_w hW1 (by decide) hp8 rfl hI]; dsimp only; exact ⟨fun _ => ⟨rfl, by first | rfl | omega, by (show _ = (if (7 : Int) = 0 then _ else _); rw [if_neg (by decide)]), by (show _ = (if (7 : Int) = 3 then _ else _); rw [if_neg (by decide)])⟩, fun h => absurd h (by decide)⟩)), ⟨by decide, by decide⟩⟩, zRet ht hP hD [9, 7, 0, 8, 1, 2, 3, 4, 5, 10, 6] (by decide) rfl⟩, hS.F ht⟩) hS.2.2 dX8_item_325
                · exact absurd c_311 (by decide)
              · have fc_309 : r_306.toInt = 0 := zf_eq c_309 rfl (by decide)
                obtain ⟨hy1_0, hy2_0, hy3_0⟩ := hsr_298_2.1 (by omega)
                have hn0 : zN1 (zMF gce nba.toInt) nen.toInt (npl.toInt + ((zWds ((7 : Int)).toNat).length : Int)) (zLo 7 0) (zHi 7 0 nte.toInt) = ((q_7 : Int32).toInt, (q_300 : Int32).toInt, (q_301 : Int32).toInt) := zN1_yes (p1 := (q_7 : Int32).toInt) (lo2 := 1) (hi2 := (9 : Int)) ⟨hW2, hW3⟩ (by omega) hy1_0 hy2_0 (by decide) (by first | rfl | decide | (show nte.toInt - 1 = _; omega) | (show nte.toInt = _; omega)) (by omega)
                refine lv_aload_n hx hb dX8_item_127 rfl (lv_at hl 3 rfl) ?_
                refine lv_iload_n hx hb dX8_item_128 rfl (lv_at hl 0 rfl) ?_
                skip
                refine zw_V (As := [.int q_7]) (rest := []) (wr := [(mnu, .inl (cI, 10, .inl gnu)), (mki, .inl (cI, 8, .inl gki)), (mpa, .inl (cI, 8, .inl gpa)), (mta, .inl (cI, 8, .inl gta)), (mla, .inl (cI, 40, .inl gla)), (msl, .inl (cI, 40, .inl gsl)), (mco, .inl (cI, 3, .inl gco)), (mte, .inl (cI, 3, .inl gte)), (mwo, .inl (cI, 64, .inl gwo)), (mce, .inl (cJ, 1280, .inr (.inl gce)))]) ⟨hx, hb, hml, hown, hts⟩ (c_F_M_wrong l D cI cJ cZ cP cS po m0 mrf mki mpa mta mla msl mco mhe mso msi msh mce mca mwo mnu mte mwa mke mma mth mtr (npu) (nte) (nat_) (nde) (nto) (nse) (nhu) (nga) (nsd) (nfa) (nba) (q_300) (nen) (q_301) (q_302) (nra) (nik) (q_7) hy0 hy1 hy2 hy3 hy4 hy5 hy6 hy7 hy8 hy9 hy10 hy11 hy12 hy13 H.size) (cwV 1 hts gX8_item_X8_wrong rfl rfl rfl ⟨rfl, dh_X8_wrong⟩ ⟨Nat.le_of_ble_eq_true rfl, Nat.le_of_ble_eq_true rfl⟩) hK hN (hZ.kept hS) hP hD hS hA [9] [0, 1, 2, 3, 4, 5, 6, 7, 8, 10] rfl rfl (by decide) (by decide) (by decide) (va_recv (q := (RX8, TX8, 38)) hK hP (ci := 8) (q0 := 9) rfl rfl) rfl hl.1 rfl (Nat.le_of_ble_eq_true rfl) dX8_item_129 ⟨Nat.le_of_ble_eq_true rfl, Nat.le_of_ble_eq_true rfl⟩ (fun r_322 u_323 H locs hr_322 hP hD hS => ?_)
                obtain ⟨q_324, rfl⟩ : ∃ z, z = u_323 := ⟨_, rfl⟩
                obtain ⟨hsr_322_0, hr_322⟩ := hr_322
                have h9R := zRe (ws' := [(mnu, .inl (cI, 10, .inl gnu)), (mki, .inl (cI, 8, .inl gki)), (mpa, .inl (cI, 8, .inl gpa)), (mta, .inl (cI, 8, .inl gta)), (mla, .inl (cI, 40, .inl gla)), (msl, .inl (cI, 40, .inl gsl)), (mco, .inl (cI, 3, .inl gco)), (mte, .inl (cI, 3, .inl gte)), (mwo, .inl (cI, 64, .inl gwo)), (mce, .inl (cJ, 1280, .inr (.inl gce))), (zMO m0 npu nte nat_ nde nto nse nhu nga nsd nfa mrf mki mpa mta mla msl mco mhe mso msi msh mce mca mwo mnu mte nba q_300 nen q_301 q_324 mwa mke mma mth mtr nra nik)]) hP hD rfl
                clear hP hD
                obtain ⟨hP, hD⟩ := h9R
                obtain rfl := hr_322
                have hI := zIn_a hn0 (by first | (right; decide) | (left; omega))
                exact W.zret (v := 0) hx hb hr (by decide) (fun t ht hW => ⟨⟨0, (npu, nte, nat_, nde, nse, nhu, nga, gki, gpa, gta, gla, gsl, gco, gte, q_300, q_301, q_324), rfl, ⟨(show 0 ≤ npu.toInt ∧ npu.toInt ≤ 8 from ⟨hy0, hy1⟩), (show 4 ≤ nte.toInt ∧ nte.toInt ≤ 40 from ⟨hy2, hy3⟩), (show 0 ≤ nat_.toInt ∧ nat_.toInt ≤ 40 from ⟨hy4, hy5⟩), (show 0 ≤ nde.toInt ∧ nde.toInt ≤ 24 from ⟨hy6, hy7⟩), (show 0 ≤ nhu.toInt ∧ nhu.toInt ≤ 9 from ⟨hy8, hy9⟩), hp_gki, hp_gpa, hp_gta, hp_gla, hp_gsl, hp_gco, (show 0 ≤ q_300.toInt ∧ q_300.toInt ≤ 160 from hbq_300), (show npl.toInt ≤ q_300.toInt ∧ q_300.toInt ≤ nen.toInt from by exact ⟨by omega, by omega⟩), (show ((0 : Int32).toInt = 1 → (zItem (zMF gce nba.toInt) nen.toInt npl.toInt nte.toInt npu.toInt).1 = -1 ∧ q_300.toInt = (zItem (zMF gce nba.toInt) nen.toInt npl.toInt nte.toInt npu.toInt).2.1 ∧ nte.toInt = (zItem (zMF gce nba.toInt) nen.toInt npl.toInt nte.toInt npu.toInt).2.2.1 ∧ npu.toInt = (zItem (zMF gce nba.toInt) nen.toInt npl.toInt nte.toInt npu.toInt).2.2.2) ∧ ((0 : Int32).toInt = 0 → (zItem (zMF gce nba.toInt) nen.toInt npl.toInt nte.toInt npu.toInt).1 = q_324.toInt ∧ 0 ≤ q_324.toInt) from by (have k9 : (0 : Int32).toInt = 0 := (by decide); rw [zItem_w hW1 (by decide) hp8 rfl hI]; dsimp only; exact ⟨fun h => absurd h (by decide), fun _ => ⟨by first | rfl | (show _ = _; omega), by omega⟩⟩)), ⟨by decide, by decide⟩⟩, zRet ht hP hD [10, 8, 0, 9, 1, 2, 3, 4, 5, 6, 7] (by decide) rfl⟩, hS.F ht⟩) hS.2.2 dX8_item_132
            · have fc_305 : r_298.toInt = 0 := zf_eq c_305 rfl (by decide)
              have hn0 : zN1 (zMF gce nba.toInt) nen.toInt (npl.toInt + ((zWds ((7 : Int)).toNat).length : Int)) (zLo 7 0) (zHi 7 0 nte.toInt) = ((q_7 : Int32).toInt, (q_7 : Int32).toInt, 0) := zN1_yes (p1 := (q_7 : Int32).toInt) (lo2 := 1) (hi2 := (9 : Int)) ⟨hW2, hW3⟩ (by omega) (hsr_298_2.2 (by omega)).1.symm zNv_0.symm (by decide) (by first | rfl | decide | (show nte.toInt - 1 = _; omega) | (show nte.toInt = _; omega)) (Or.inl ⟨rfl, Or.inl rfl⟩)
              refine lv_iconst (v := 0) hx hb dX8_item_116 (by decide) ?_
              have hI := zIn_a hn0 (by first | (right; decide) | (left; omega))
              exact W.zret (v := 0) hx hb hr (by decide) (fun t ht hW => ⟨⟨0, (npu, nte, nat_, nde, nse, nhu, nga, gki, gpa, gta, gla, gsl, gco, gte, q_300, q_301, q_302), rfl, ⟨(show 0 ≤ npu.toInt ∧ npu.toInt ≤ 8 from ⟨hy0, hy1⟩), (show 4 ≤ nte.toInt ∧ nte.toInt ≤ 40 from ⟨hy2, hy3⟩), (show 0 ≤ nat_.toInt ∧ nat_.toInt ≤ 40 from ⟨hy4, hy5⟩), (show 0 ≤ nde.toInt ∧ nde.toInt ≤ 24 from ⟨hy6, hy7⟩), (show 0 ≤ nhu.toInt ∧ nhu.toInt ≤ 9 from ⟨hy8, hy9⟩), hp_gki, hp_gpa, hp_gta, hp_gla, hp_gsl, hp_gco, (show 0 ≤ q_300.toInt ∧ q_300.toInt ≤ 160 from hbq_300), (show npl.toInt ≤ q_300.toInt ∧ q_300.toInt ≤ nen.toInt from by exact ⟨by omega, by omega⟩), (show ((0 : Int32).toInt = 1 → (zItem (zMF gce nba.toInt) nen.toInt npl.toInt nte.toInt npu.toInt).1 = -1 ∧ q_300.toInt = (zItem (zMF gce nba.toInt) nen.toInt npl.toInt nte.toInt npu.toInt).2.1 ∧ nte.toInt = (zItem (zMF gce nba.toInt) nen.toInt npl.toInt nte.toInt npu.toInt).2.2.1 ∧ npu.toInt = (zItem (zMF gce nba.toInt) nen.toInt npl.toInt nte.toInt npu.toInt).2.2.2) ∧ ((0 : Int32).toInt = 0 → (zItem (zMF gce nba.toInt) nen.toInt npl.toInt nte.toInt npu.toInt).1 = q_302.toInt ∧ 0 ≤ q_302.toInt) from by (have k9 : (0 : Int32).toInt = 0 := (by decide); rw [zItem_w hW1 (by decide) hp8 rfl hI]; dsimp only; exact ⟨fun h => absurd h (by decide), fun _ => ⟨by first | rfl | (show _ = _; omega), by omega⟩⟩)), ⟨by decide, by decide⟩⟩, zRet ht hP hD [9, 8, 0, 10, 1, 2, 3, 4, 5, 6, 7] (by decide) rfl⟩, hS.F ht⟩) hS.2.2 dX8_item_117
          · exact absurd c_297 (by decide)
      · have kc8 : (8 : Int32).toInt = 8 := by decide
        have z9 := hsr_5_1
        rw [kc8] at z9
        obtain ⟨hW1, hW2, hW3, hW4⟩ := zItem_Mw (f := (zMF gce nba.toInt)) (e := nen.toInt) (p := npl.toInt) (w := 8) (by omega) (by decide)
        have hp8 : ¬ ((8 : Int) = 3 ∧ npu.toInt = 8) := fun z => absurd z.1 (by decide)
        refine lv_iconst (v := 0) hx hb dX8_item_38 (by decide) ?_
        refine lv_istore_n (lv' := [(2, .int 0), (1, .int 8), (0, .ref m0)]) hx hb dX8_item_39 rfl hl (by decide) rfl (fun ls hl => ?_)
        refine lv_iload_n hx hb dX8_item_40 rfl (lv_at hl 0 rfl) ?_
        refine lv_aload_n hx hb dX8_item_41 rfl (lv_at hl 2 rfl) ?_
        refine va_get (D := D) (ci := 8) (v := .ref mnu) (C := RX8) (T := TX8) (N := 38) hx hb hts hi_X8_item_8 hown hK hP 8 rfl rfl 24 (by decide) (hts (.fieldLink RX8 69 "TheLiningsInItModel" "numbers" "[I") (List.mem_of_getElem? (i := 3) rfl)) (fun _ h9 => h9) rfl dX8_item_42 ?_
        refine lv_iload_n hx hb dX8_item_45 rfl (lv_at hl 1 rfl) ?_
        refine va_iald hx hb hK hP 0 0 rfl rfl (zf_in (by decide) (by decide)) dX8_item_46 ?_
        refine lv_topi (fun x_325 ex_325 => ?_)
        obtain rfl : x_325 = 2 := ex_325.trans ((congrArg gnu (show (8 : Int32).toNatClampNeg = 8 from by decide)).trans ((hnu 8 (by decide)).trans (by decide)))
        refine lv_icmp_ge (tgt := 149) hx hb dX8_item_47 (by decide) (fun c_326 => ?_) (fun c_326 => ?_)
        · exact absurd c_326 (by decide)
        · refine lv_iload_n hx hb dX8_item_50 rfl (lv_at hl 0 rfl) ?_
          refine lv_if_le (tgt := 104) hx hb dX8_item_51 (by decide) (fun c_327 => ?_) (fun c_327 => ?_)
          · refine lv_aload_n hx hb dX8_item_104 rfl (lv_at hl 2 rfl) ?_
            refine va_get (D := D) (ci := 8) (v := .int q_7) (C := RX8) (T := TX8) (N := 38) hx hb hts hi_X8_item_8 hown hK hP 8 rfl rfl 27 (by decide) (hts (.fieldLink RX8 152 "TheLiningsInItModel" "place" "I") (List.mem_of_getElem? (i := 2) rfl)) (fun _ h9 => h9) rfl dX8_item_105 ?_
            refine lv_istore_n (lv' := [(3, .int q_7), (2, .int 0), (1, .int 8), (0, .ref m0)]) hx hb dX8_item_108 rfl hl (by decide) rfl (fun ls hl => ?_)
            refine lv_aload_n hx hb dX8_item_109 rfl (lv_at hl 3 rfl) ?_
            skip
            refine zw_V (As := []) (rest := []) (wr := [(mnu, .inl (cI, 10, .inl gnu)), (mki, .inl (cI, 8, .inl gki)), (mpa, .inl (cI, 8, .inl gpa)), (mta, .inl (cI, 8, .inl gta)), (mla, .inl (cI, 40, .inl gla)), (msl, .inl (cI, 40, .inl gsl)), (mco, .inl (cI, 3, .inl gco)), (mte, .inl (cI, 3, .inl gte)), (mwo, .inl (cI, 64, .inl gwo))]) ⟨hx, hb, hml, hown, hts⟩ (c_F_M_reads l D cI cJ cZ cP cS po m0 mrf mki mpa mta mla msl mco mhe mso msi msh mce mca mwo mnu mte mwa mke mma mth mtr (npu) (nte) (nat_) (nde) (nto) (nse) (nhu) (nga) (nsd) (nfa) (nba) (q_7) (nen) (nnu) (q_8) (nra) (nik) gce hy0 hy1 hy2 hy3 hy4 hy5 hy6 hy7 hy8 hy9 hy10 hy11 hy12 hy13 hy14 hy15 hbq_7.1 hbq_7.2 hy18 hy19 (by omega) H.size) (cwV 0 hts gX8_item_X8_reads rfl rfl rfl ⟨rfl, dh_X8_reads⟩ ⟨Nat.le_of_ble_eq_true rfl, Nat.le_of_ble_eq_true rfl⟩) hK hN (hZ.kept hS) hP hD hS hA [8, 10] [0, 1, 2, 3, 4, 5, 6, 7, 9] rfl rfl (by decide) (by decide) (by decide) (va_recv (q := (RX8, TX8, 38)) hK hP (ci := 8) (q0 := 8) rfl rfl) rfl hl.1 rfl (Nat.le_of_ble_eq_true rfl) dX8_item_110 ⟨Nat.le_of_ble_eq_true rfl, Nat.le_of_ble_eq_true rfl⟩ (fun r_328 u_329 H locs hr_328 hP hD hS => ?_)
            obtain ⟨q_330, q_331, q_332⟩ := u_329
            try dsimp only at hr_328
            obtain ⟨hbq_330, hsr_328_0, hsr_328_1, hsr_328_2, hr_328⟩ := hr_328
            have h9R := zRe (ws' := [(mnu, .inl (cI, 10, .inl gnu)), (mki, .inl (cI, 8, .inl gki)), (mpa, .inl (cI, 8, .inl gpa)), (mta, .inl (cI, 8, .inl gta)), (mla, .inl (cI, 40, .inl gla)), (msl, .inl (cI, 40, .inl gsl)), (mco, .inl (cI, 3, .inl gco)), (mte, .inl (cI, 3, .inl gte)), (mwo, .inl (cI, 64, .inl gwo)), (zMO m0 npu nte nat_ nde nto nse nhu nga nsd nfa mrf mki mpa mta mla msl mco mhe mso msi msh mce mca mwo mnu mte nba q_330 nen q_331 q_332 mwa mke mma mth mtr nra nik), (mce, .inl (cJ, 1280, .inr (.inl gce)))]) hP hD rfl
            clear hP hD
            obtain ⟨hP, hD⟩ := h9R
            obtain ⟨g_333, g_334⟩ := hr_328
            refine lv_if_ne (tgt := 118) hx hb dX8_item_113 (by decide) (fun c_335 => ?_) (fun c_335 => ?_)
            · have fc_335 : r_328.toInt ≠ 0 := zf_ne c_335 rfl (by decide)
              refine lv_aload_n hx hb dX8_item_118 rfl (lv_at hl 3 rfl) ?_
              refine lv_iload_n hx hb dX8_item_119 rfl (lv_at hl 2 rfl) ?_
              refine lv_iload_n hx hb dX8_item_120 rfl (lv_at hl 1 rfl) ?_
              refine zc_V (As := [.int 8, .int 0]) (rest := []) ⟨hx, hb, hml, hown, hts⟩ (c_F_M_isSo_8_0 l D cI cJ cZ cP cS po m0 mrf mki mpa mta mla msl mco mhe mso msi msh mce mca mwo mnu mte mwa mke mma mth mtr (npu) (nte) (nat_) (nde) (nto) (nse) (nhu) (nga) (nsd) (nfa) (nba) (q_330) (nen) (q_331) (q_332) (nra) (nik) hy0 hy1 hy2 hy3 hy4 hy5 hy6 hy7 hy8 hy9 hy10 hy11 hy12 hy13 (by omega) (by omega)) (cwV 2 hts gX8_item_X8_isSo rfl rfl rfl ⟨rfl, dh_X8_isSo⟩ ⟨Nat.le_of_ble_eq_true rfl, Nat.le_of_ble_eq_true rfl⟩) hK hN (hZ.kept hS) hP (hP.sub [9] rfl) (va_recv (q := (RX8, TX8, 38)) hK hP (ci := 8) (q0 := 9) rfl rfl) rfl hl.1 rfl (Nat.le_of_ble_eq_true rfl) dX8_item_121 ⟨Nat.le_of_ble_eq_true rfl, Nat.le_of_ble_eq_true rfl⟩ (fun r_336 hr_336 => ?_)
              obtain ⟨g_337, g_338, hsr_336_0⟩ := hr_336
              refine lv_if_ne (tgt := 133) hx hb dX8_item_124 (by decide) (fun c_339 => ?_) (fun c_339 => ?_)
              · have fc_339 : r_336.toInt ≠ 0 := zf_ne c_339 rfl (by decide)
                obtain ⟨hy1_0, hy2_0, hy3_0⟩ := hsr_328_2.1 (by omega)
                have hn0 : zN1 (zMF gce nba.toInt) nen.toInt (npl.toInt + ((zWds ((8 : Int)).toNat).length : Int)) (zLo 8 0) (zHi 8 0 nte.toInt) = (-1, (q_330 : Int32).toInt, (q_331 : Int32).toInt) := zN1_yes (p1 := (q_7 : Int32).toInt) (lo2 := 0) (hi2 := (2 : Int)) ⟨hW2, hW3⟩ (by omega) hy1_0 hy2_0 (by decide) (by first | rfl | decide | (show nte.toInt - 1 = _; omega) | (show nte.toInt = _; omega)) (by omega)
                refine lv_aload_n hx hb dX8_item_133 rfl (lv_at hl 3 rfl) ?_
                refine va_get (D := D) (ci := 8) (v := .ref mte) (C := RX8) (T := TX8) (N := 38) hx hb hts hi_X8_item_8 hown hK hP 9 rfl rfl 25 (by decide) (hts (.fieldLink RX8 72 "TheLiningsInItModel" "tell" "[I") (List.mem_of_getElem? (i := 7) rfl)) (fun _ h9 => h9) rfl dX8_item_134 ?_
                refine lv_iload_n hx hb dX8_item_137 rfl (lv_at hl 1 rfl) ?_
                refine lv_aload_n hx hb dX8_item_138 rfl (lv_at hl 3 rfl) ?_
                refine va_get (D := D) (ci := 8) (v := .int q_331) (C := RX8) (T := TX8) (N := 38) hx hb hts hi_X8_item_8 hown hK hP 9 rfl rfl 29 (by decide) (hts (.fieldLink RX8 161 "TheLiningsInItModel" "number" "I") (List.mem_of_getElem? (i := 8) rfl)) (fun _ h9 => h9) rfl dX8_item_139 ?_
                refine va_iast hx hb hK hP hD hS 7 0 rfl rfl (zf_in (by decide) (by decide)) dX8_item_142 (fun H locs hP hD hS => ?_)
                have h9R := zRe (ws' := [(mnu, .inl (cI, 10, .inl gnu)), (mki, .inl (cI, 8, .inl gki)), (mpa, .inl (cI, 8, .inl gpa)), (mta, .inl (cI, 8, .inl gta)), (mla, .inl (cI, 40, .inl gla)), (msl, .inl (cI, 40, .inl gsl)), (mco, .inl (cI, 3, .inl gco)), (mte, .inl (cI, 3, .inl (upd gte (0 : Int32).toNatClampNeg q_331))), (mwo, .inl (cI, 64, .inl gwo)), (zMO m0 npu nte nat_ nde nto nse nhu nga nsd nfa mrf mki mpa mta mla msl mco mhe mso msi msh mce mca mwo mnu mte nba q_330 nen q_331 q_332 mwa mke mma mth mtr nra nik), (mce, .inl (cJ, 1280, .inr (.inl gce)))]) hP hD rfl
                clear hP hD
                obtain ⟨hP, hD⟩ := h9R
                refine lv_iinc (v := 1) (lv' := [(2, .int 1), (3, .int q_7), (1, .int 8), (0, .ref m0)]) hx hb dX8_item_143 hl (k := 1) rfl (by decide) (by decide) rfl (fun ls hl => ?_)
                refine lv_goto (tgt := 40) hx hb dX8_item_146 (by decide) ?_
                refine lv_iload_n hx hb dX8_item_40 rfl (lv_at hl 0 rfl) ?_
                refine lv_aload_n hx hb dX8_item_41 rfl (lv_at hl 3 rfl) ?_
                refine va_get (D := D) (ci := 8) (v := .ref mnu) (C := RX8) (T := TX8) (N := 38) hx hb hts hi_X8_item_8 hown hK hP 9 rfl rfl 24 (by decide) (hts (.fieldLink RX8 69 "TheLiningsInItModel" "numbers" "[I") (List.mem_of_getElem? (i := 3) rfl)) (fun _ h9 => h9) rfl dX8_item_42 ?_
                refine lv_iload_n hx hb dX8_item_45 rfl (lv_at hl 2 rfl) ?_
                refine va_iald hx hb hK hP 0 0 rfl rfl (zf_in (by decide) (by decide)) dX8_item_46 ?_
                refine lv_topi (fun x_340 ex_340 => ?_)
                obtain rfl : x_340 = 2 := ex_340.trans ((congrArg gnu (show (8 : Int32).toNatClampNeg = 8 from by decide)).trans ((hnu 8 (by decide)).trans (by decide)))
                refine lv_icmp_ge (tgt := 149) hx hb dX8_item_47 (by decide) (fun c_341 => ?_) (fun c_341 => ?_)
                · exact absurd c_341 (by decide)
                · refine lv_iload_n hx hb dX8_item_50 rfl (lv_at hl 0 rfl) ?_
                  refine lv_if_le (tgt := 104) hx hb dX8_item_51 (by decide) (fun c_342 => ?_) (fun c_342 => ?_)
                  · exact absurd c_342 (by decide)
                  · refine lv_aload_n hx hb dX8_item_54 rfl (lv_at hl 3 rfl) ?_
                    refine va_get (D := D) (ci := 8) (v := .int q_330) (C := RX8) (T := TX8) (N := 38) hx hb hts hi_X8_item_8 hown hK hP 9 rfl rfl 27 (by decide) (hts (.fieldLink RX8 152 "TheLiningsInItModel" "place" "I") (List.mem_of_getElem? (i := 2) rfl)) (fun _ h9 => h9) rfl dX8_item_55 ?_
                    refine lv_aload_n hx hb dX8_item_58 rfl (lv_at hl 3 rfl) ?_
                    refine va_get (D := D) (ci := 8) (v := .int nen) (C := RX8) (T := TX8) (N := 38) hx hb hts hi_X8_item_8 hown hK hP 9 rfl rfl 28 (by decide) (hts (.fieldLink RX8 155 "TheLiningsInItModel" "end" "I") (List.mem_of_getElem? (i := 4) rfl)) (fun _ h9 => h9) rfl dX8_item_59 ?_
                    refine lv_icmp_ge (tgt := 85) hx hb dX8_item_62 (by decide) (fun c_343 => ?_) (fun c_343 => ?_)
                    · have fc_343 : nen.toInt ≤ q_330.toInt := zf_le c_343 rfl rfl
                      have hn1 : zN1 (zMF gce nba.toInt) nen.toInt (q_330 : Int32).toInt (zLo 8 1) (zHi 8 1 nte.toInt) = ((q_330 : Int32).toInt, (q_330 : Int32).toInt, 0) := zN1_no (by first | (intro z; have z1 := z.1; omega))
                      refine lv_aload_n hx hb dX8_item_85 rfl (lv_at hl 3 rfl) ?_
                      refine lv_aload_n hx hb dX8_item_86 rfl (lv_at hl 3 rfl) ?_
                      refine va_get (D := D) (ci := 8) (v := .int q_330) (C := RX8) (T := TX8) (N := 38) hx hb hts hi_X8_item_8 hown hK hP 9 rfl rfl 27 (by decide) (hts (.fieldLink RX8 152 "TheLiningsInItModel" "place" "I") (List.mem_of_getElem? (i := 2) rfl)) (fun _ h9 => h9) rfl dX8_item_87 ?_
                      skip
                      refine zw_V (As := [.int q_330]) (rest := []) (wr := [(mnu, .inl (cI, 10, .inl gnu)), (mki, .inl (cI, 8, .inl gki)), (mpa, .inl (cI, 8, .inl gpa)), (mta, .inl (cI, 8, .inl gta)), (mla, .inl (cI, 40, .inl gla)), (msl, .inl (cI, 40, .inl gsl)), (mco, .inl (cI, 3, .inl gco)), (mte, .inl (cI, 3, .inl (upd gte (0 : Int32).toNatClampNeg q_331))), (mwo, .inl (cI, 64, .inl gwo)), (mce, .inl (cJ, 1280, .inr (.inl gce)))]) ⟨hx, hb, hml, hown, hts⟩ (c_F_M_wrong l D cI cJ cZ cP cS po m0 mrf mki mpa mta mla msl mco mhe mso msi msh mce mca mwo mnu mte mwa mke mma mth mtr (npu) (nte) (nat_) (nde) (nto) (nse) (nhu) (nga) (nsd) (nfa) (nba) (q_330) (nen) (q_331) (q_332) (nra) (nik) (q_330) hy0 hy1 hy2 hy3 hy4 hy5 hy6 hy7 hy8 hy9 hy10 hy11 hy12 hy13 H.size) (cwV 1 hts gX8_item_X8_wrong rfl rfl rfl ⟨rfl, dh_X8_wrong⟩ ⟨Nat.le_of_ble_eq_true rfl, Nat.le_of_ble_eq_true rfl⟩) hK hN (hZ.kept hS) hP hD hS hA [9] [0, 1, 2, 3, 4, 5, 6, 7, 8, 10] rfl rfl (by decide) (by decide) (by decide) (va_recv (q := (RX8, TX8, 38)) hK hP (ci := 8) (q0 := 9) rfl rfl) rfl hl.1 rfl (Nat.le_of_ble_eq_true rfl) dX8_item_90 ⟨Nat.le_of_ble_eq_true rfl, Nat.le_of_ble_eq_true rfl⟩ (fun r_344 u_345 H locs hr_344 hP hD hS => ?_)
                      obtain ⟨q_346, rfl⟩ : ∃ z, z = u_345 := ⟨_, rfl⟩
                      obtain ⟨hsr_344_0, hr_344⟩ := hr_344
                      have h9R := zRe (ws' := [(mnu, .inl (cI, 10, .inl gnu)), (mki, .inl (cI, 8, .inl gki)), (mpa, .inl (cI, 8, .inl gpa)), (mta, .inl (cI, 8, .inl gta)), (mla, .inl (cI, 40, .inl gla)), (msl, .inl (cI, 40, .inl gsl)), (mco, .inl (cI, 3, .inl gco)), (mte, .inl (cI, 3, .inl (upd gte (0 : Int32).toNatClampNeg q_331))), (mwo, .inl (cI, 64, .inl gwo)), (mce, .inl (cJ, 1280, .inr (.inl gce))), (zMO m0 npu nte nat_ nde nto nse nhu nga nsd nfa mrf mki mpa mta mla msl mco mhe mso msi msh mce mca mwo mnu mte nba q_330 nen q_331 q_346 mwa mke mma mth mtr nra nik)]) hP hD rfl
                      clear hP hD
                      obtain ⟨hP, hD⟩ := h9R
                      obtain rfl := hr_344
                      have hI := zIn_b hn0 (by decide) hn1 (by first | (right; decide) | (left; omega))
                      exact W.zret (v := 0) hx hb hr (by decide) (fun t ht hW => ⟨⟨0, (npu, nte, nat_, nde, nse, nhu, nga, gki, gpa, gta, gla, gsl, gco, (upd gte (0 : Int32).toNatClampNeg q_331), q_330, q_331, q_346), rfl, ⟨(show 0 ≤ npu.toInt ∧ npu.toInt ≤ 8 from ⟨hy0, hy1⟩), (show 4 ≤ nte.toInt ∧ nte.toInt ≤ 40 from ⟨hy2, hy3⟩), (show 0 ≤ nat_.toInt ∧ nat_.toInt ≤ 40 from ⟨hy4, hy5⟩), (show 0 ≤ nde.toInt ∧ nde.toInt ≤ 24 from ⟨hy6, hy7⟩), (show 0 ≤ nhu.toInt ∧ nhu.toInt ≤ 9 from ⟨hy8, hy9⟩), hp_gki, hp_gpa, hp_gta, hp_gla, hp_gsl, hp_gco, (show 0 ≤ q_330.toInt ∧ q_330.toInt ≤ 160 from hbq_330), (show npl.toInt ≤ q_330.toInt ∧ q_330.toInt ≤ nen.toInt from by exact ⟨by omega, by omega⟩), (show ((0 : Int32).toInt = 1 → (zItem (zMF gce nba.toInt) nen.toInt npl.toInt nte.toInt npu.toInt).1 = -1 ∧ q_330.toInt = (zItem (zMF gce nba.toInt) nen.toInt npl.toInt nte.toInt npu.toInt).2.1 ∧ nte.toInt = (zItem (zMF gce nba.toInt) nen.toInt npl.toInt nte.toInt npu.toInt).2.2.1 ∧ npu.toInt = (zItem (zMF gce nba.toInt) nen.toInt npl.toInt nte.toInt npu.toInt).2.2.2) ∧ ((0 : Int32).toInt = 0 → (zItem (zMF gce nba.toInt) nen.toInt npl.toInt nte.toInt npu.toInt).1 = q_346.toInt ∧ 0 ≤ q_346.toInt) from by (have k9 : (0 : Int32).toInt = 0 := (by decide); rw [zItem_w hW1 (by decide) hp8 rfl hI]; dsimp only; exact ⟨fun h => absurd h (by decide), fun _ => ⟨by first | rfl | (show _ = _; omega), by omega⟩⟩)), ⟨by decide, by decide⟩⟩, zRet ht hP hD [10, 8, 0, 9, 1, 2, 3, 4, 5, 6, 7] (by decide) rfl⟩, hS.F ht⟩) hS.2.2 dX8_item_93
                    · have fc_343 : q_330.toInt < nen.toInt := zf_nle c_343 rfl rfl
                      refine lv_aload_n hx hb dX8_item_65 rfl (lv_at hl 3 rfl) ?_
                      refine va_get (D := D) (ci := 8) (v := .ref mce) (C := RX8) (T := TX8) (N := 38) hx hb hts hi_X8_item_8 hown hK hP 9 rfl rfl 21 (by decide) (hts (.fieldLink RX8 59 "TheLiningsInItModel" "cells" "[J") (List.mem_of_getElem? (i := 5) rfl)) (fun _ h9 => h9) rfl dX8_item_66 ?_
                      refine lv_aload_n hx hb dX8_item_69 rfl (lv_at hl 3 rfl) ?_
                      refine va_get (D := D) (ci := 8) (v := .int nba) (C := RX8) (T := TX8) (N := 38) hx hb hts hi_X8_item_8 hown hK hP 9 rfl rfl 26 (by decide) (hts (.fieldLink RX8 158 "TheLiningsInItModel" "base" "I") (List.mem_of_getElem? (i := 6) rfl)) (fun _ h9 => h9) rfl dX8_item_70 ?_
                      refine lv_aload_n hx hb dX8_item_73 rfl (lv_at hl 3 rfl) ?_
                      refine va_get (D := D) (ci := 8) (v := .int q_330) (C := RX8) (T := TX8) (N := 38) hx hb hts hi_X8_item_8 hown hK hP 9 rfl rfl 27 (by decide) (hts (.fieldLink RX8 152 "TheLiningsInItModel" "place" "I") (List.mem_of_getElem? (i := 2) rfl)) (fun _ h9 => h9) rfl dX8_item_74 ?_
                      refine lv_iadd hx hb dX8_item_77 ?_
                      refine lv_topi (fun x_347 ex_347 => ?_)
                      have qx_347 : x_347.toInt = nba.toInt + q_330.toInt := by rw [ex_347]; exact zf_add rfl rfl (by omega) (by omega)
                      refine va_lald hx hb hK hP 10 1 rfl rfl (zf_in (by omega) (by omega)) dX8_item_78 ?_
                      refine lv_topl (fun x_348 ex_348 => ?_)
                      refine lv_l2i hx hb dX8_item_79 rfl ?_
                      refine lv_topi (fun x_349 ex_349 => ?_)
                      have hcx_349 : x_349 = zChX gce (nba.toInt + q_330.toInt).toNat := by rw [ex_349, ex_348]; unfold zChX; congr 2; (show x_347.toInt.toNat = _; omega)
                      have hdx_349 : x_349.toInt = (zChX gce (nba.toInt + q_330.toInt).toNat).toInt := by rw [hcx_349]
                      refine lv_bipush (v := 32) hx hb dX8_item_80 (by decide) ?_
                      refine lv_icmp_eq (tgt := 94) hx hb dX8_item_82 (by decide) (fun c_350 => ?_) (fun c_350 => ?_)
                      · have fc_350 : x_349.toInt = 32 := zf_eq c_350 rfl (by decide)
                        refine lv_aload_n hx hb dX8_item_94 rfl (lv_at hl 3 rfl) ?_
                        refine lv_dup hx hb dX8_item_95 rfl ?_
                        refine va_get (D := D) (ci := 8) (v := .int q_330) (C := RX8) (T := TX8) (N := 38) hx hb hts hi_X8_item_8 hown hK hP 9 rfl rfl 27 (by decide) (hts (.fieldLink RX8 152 "TheLiningsInItModel" "place" "I") (List.mem_of_getElem? (i := 2) rfl)) (fun _ h9 => h9) rfl dX8_item_96 ?_
                        refine lv_iconst (v := 1) hx hb dX8_item_99 (by decide) ?_
                        refine lv_iadd hx hb dX8_item_100 ?_
                        refine lv_topi (fun x_351 ex_351 => ?_)
                        have qx_351 : x_351.toInt = q_330.toInt + 1 := dw_inc ex_351 fc_343
                        refine va_put (D := D) (ci := 8) (v := .int x_351) (ty := .int) (C := RX8) (T := TX8) (N := 38) hx hb hts hi_X8_item_8 tyX8 tyX8_ok nmX8 hown hK hP hD hS 9 rfl rfl 27 (by decide) (hts (.fieldLink RX8 152 "TheLiningsInItModel" "place" "I") (List.mem_of_getElem? (i := 2) rfl)) (fun _ h9 => h9) rfl (tyX8_ok 27 (Nat.le_of_ble_eq_true rfl)) rfl rfl (Nat.le_of_ble_eq_true rfl) dX8_item_101 (fun H locs hP hD hS => ?_)
                        have h9R := zRe (ws' := [(mnu, .inl (cI, 10, .inl gnu)), (mki, .inl (cI, 8, .inl gki)), (mpa, .inl (cI, 8, .inl gpa)), (mta, .inl (cI, 8, .inl gta)), (mla, .inl (cI, 40, .inl gla)), (msl, .inl (cI, 40, .inl gsl)), (mco, .inl (cI, 3, .inl gco)), (mte, .inl (cI, 3, .inl (upd gte (0 : Int32).toNatClampNeg q_331))), (mwo, .inl (cI, 64, .inl gwo)), (zMO m0 npu nte nat_ nde nto nse nhu nga nsd nfa mrf mki mpa mta mla msl mco mhe mso msi msh mce mca mwo mnu mte nba x_351 nen q_331 q_332 mwa mke mma mth mtr nra nik), (mce, .inl (cJ, 1280, .inr (.inl gce)))]) hP hD rfl
                        clear hP hD
                        obtain ⟨hP, hD⟩ := h9R
                        refine lv_aload_n hx hb dX8_item_104 rfl (lv_at hl 3 rfl) ?_
                        refine va_get (D := D) (ci := 8) (v := .int x_351) (C := RX8) (T := TX8) (N := 38) hx hb hts hi_X8_item_8 hown hK hP 9 rfl rfl 27 (by decide) (hts (.fieldLink RX8 152 "TheLiningsInItModel" "place" "I") (List.mem_of_getElem? (i := 2) rfl)) (fun _ h9 => h9) rfl dX8_item_105 ?_
                        refine lv_istore_n (lv' := [(3, .int x_351), (2, .int 1), (1, .int 8), (0, .ref m0)]) hx hb dX8_item_108 rfl hl (by decide) rfl (fun ls hl => ?_)
                        refine lv_aload_n hx hb dX8_item_109 rfl (lv_at hl 3 rfl) ?_
                        skip
                        refine zw_V (As := []) (rest := []) (wr := [(mnu, .inl (cI, 10, .inl gnu)), (mki, .inl (cI, 8, .inl gki)), (mpa, .inl (cI, 8, .inl gpa)), (mta, .inl (cI, 8, .inl gta)), (mla, .inl (cI, 40, .inl gla)), (msl, .inl (cI, 40, .inl gsl)), (mco, .inl (cI, 3, .inl gco)), (mte, .inl (cI, 3, .inl (upd gte (0 : Int32).toNatClampNeg q_331))), (mwo, .inl (cI, 64, .inl gwo))]) ⟨hx, hb, hml, hown, hts⟩ (c_F_M_reads l D cI cJ cZ cP cS po m0 mrf mki mpa mta mla msl mco mhe mso msi msh mce mca mwo mnu mte mwa mke mma mth mtr (npu) (nte) (nat_) (nde) (nto) (nse) (nhu) (nga) (nsd) (nfa) (nba) (x_351) (nen) (q_331) (q_332) (nra) (nik) gce hy0 hy1 hy2 hy3 hy4 hy5 hy6 hy7 hy8 hy9 hy10 hy11 hy12 hy13 hy14 hy15 (by omega) (by omega) hy18 hy19 (by omega) H.size) (cwV 0 hts gX8_item_X8_reads rfl rfl rfl ⟨rfl, dh_X8_reads⟩ ⟨Nat.le_of_ble_eq_true rfl, Nat.le_of_ble_eq_true rfl⟩) hK hN (hZ.kept hS) hP hD hS hA [9, 10] [0, 1, 2, 3, 4, 5, 6, 7, 8] rfl rfl (by decide) (by decide) (by decide) (va_recv (q := (RX8, TX8, 38)) hK hP (ci := 8) (q0 := 9) rfl rfl) rfl hl.1 rfl (Nat.le_of_ble_eq_true rfl) dX8_item_110 ⟨Nat.le_of_ble_eq_true rfl, Nat.le_of_ble_eq_true rfl⟩ (fun r_352 u_353 H locs hr_352 hP hD hS => ?_)
                        obtain ⟨q_354, q_355, q_356⟩ := u_353
                        try dsimp only at hr_352
                        obtain ⟨hbq_354, hsr_352_0, hsr_352_1, hsr_352_2, hr_352⟩ := hr_352
                        have h9R := zRe (ws' := [(mnu, .inl (cI, 10, .inl gnu)), (mki, .inl (cI, 8, .inl gki)), (mpa, .inl (cI, 8, .inl gpa)), (mta, .inl (cI, 8, .inl gta)), (mla, .inl (cI, 40, .inl gla)), (msl, .inl (cI, 40, .inl gsl)), (mco, .inl (cI, 3, .inl gco)), (mte, .inl (cI, 3, .inl (upd gte (0 : Int32).toNatClampNeg q_331))), (mwo, .inl (cI, 64, .inl gwo)), (zMO m0 npu nte nat_ nde nto nse nhu nga nsd nfa mrf mki mpa mta mla msl mco mhe mso msi msh mce mca mwo mnu mte nba q_354 nen q_355 q_356 mwa mke mma mth mtr nra nik), (mce, .inl (cJ, 1280, .inr (.inl gce)))]) hP hD rfl
                        clear hP hD
                        obtain ⟨hP, hD⟩ := h9R
                        obtain ⟨g_357, g_358⟩ := hr_352
                        refine lv_if_ne (tgt := 118) hx hb dX8_item_113 (by decide) (fun c_359 => ?_) (fun c_359 => ?_)
                        · have fc_359 : r_352.toInt ≠ 0 := zf_ne c_359 rfl (by decide)
                          refine lv_aload_n hx hb dX8_item_118 rfl (lv_at hl 3 rfl) ?_
                          refine lv_iload_n hx hb dX8_item_119 rfl (lv_at hl 2 rfl) ?_
                          refine lv_iload_n hx hb dX8_item_120 rfl (lv_at hl 1 rfl) ?_
                          refine zc_V (As := [.int 8, .int 1]) (rest := []) ⟨hx, hb, hml, hown, hts⟩ (c_F_M_isSo_8_1 l D cI cJ cZ cP cS po m0 mrf mki mpa mta mla msl mco mhe mso msi msh mce mca mwo mnu mte mwa mke mma mth mtr (npu) (nte) (nat_) (nde) (nto) (nse) (nhu) (nga) (nsd) (nfa) (nba) (q_354) (nen) (q_355) (q_356) (nra) (nik) hy0 hy1 hy2 hy3 hy4 hy5 hy6 hy7 hy8 hy9 hy10 hy11 hy12 hy13 (by omega) (by omega)) (cwV 2 hts gX8_item_X8_isSo rfl rfl rfl ⟨rfl, dh_X8_isSo⟩ ⟨Nat.le_of_ble_eq_true rfl, Nat.le_of_ble_eq_true rfl⟩) hK hN (hZ.kept hS) hP (hP.sub [9] rfl) (va_recv (q := (RX8, TX8, 38)) hK hP (ci := 8) (q0 := 9) rfl rfl) rfl hl.1 rfl (Nat.le_of_ble_eq_true rfl) dX8_item_121 ⟨Nat.le_of_ble_eq_true rfl, Nat.le_of_ble_eq_true rfl⟩ (fun r_360 hr_360 => ?_)
                          obtain ⟨g_361, g_362, hsr_360_0⟩ := hr_360
                          refine lv_if_ne (tgt := 133) hx hb dX8_item_124 (by decide) (fun c_363 => ?_) (fun c_363 => ?_)
                          · have fc_363 : r_360.toInt ≠ 0 := zf_ne c_363 rfl (by decide)
                            obtain ⟨hy1_1, hy2_1, hy3_1⟩ := hsr_352_2.1 (by omega)
                            have hn1 : zN1 (zMF gce nba.toInt) nen.toInt (q_330 : Int32).toInt (zLo 8 1) (zHi 8 1 nte.toInt) = (-1, (q_354 : Int32).toInt, (q_355 : Int32).toInt) := zN1_yes (p1 := (x_351 : Int32).toInt) (lo2 := 0) (hi2 := (99 : Int)) ⟨by omega, by (rw [zMF_at (by omega), ← hdx_349]; omega)⟩ (by omega) hy1_1 hy2_1 (by decide) (by first | rfl | decide | (show nte.toInt - 1 = _; omega) | (show nte.toInt = _; omega)) (by omega)
                            refine lv_aload_n hx hb dX8_item_133 rfl (lv_at hl 3 rfl) ?_
                            refine va_get (D := D) (ci := 8) (v := .ref mte) (C := RX8) (T := TX8) (N := 38) hx hb hts hi_X8_item_8 hown hK hP 9 rfl rfl 25 (by decide) (hts (.fieldLink RX8 72 "TheLiningsInItModel" "tell" "[I") (List.mem_of_getElem? (i := 7) rfl)) (fun _ h9 => h9) rfl dX8_item_134 ?_
                            refine lv_iload_n hx hb dX8_item_137 rfl (lv_at hl 1 rfl) ?_
                            refine lv_aload_n hx hb dX8_item_138 rfl (lv_at hl 3 rfl) ?_
                            refine va_get (D := D) (ci := 8) (v := .int q_355) (C := RX8) (T := TX8) (N := 38) hx hb hts hi_X8_item_8 hown hK hP 9 rfl rfl 29 (by decide) (hts (.fieldLink RX8 161 "TheLiningsInItModel" "number" "I") (List.mem_of_getElem? (i := 8) rfl)) (fun _ h9 => h9) rfl dX8_item_139 ?_
                            refine va_iast hx hb hK hP hD hS 7 0 rfl rfl (zf_in (by decide) (by decide)) dX8_item_142 (fun H locs hP hD hS => ?_)
                            have h9R := zRe (ws' := [(mnu, .inl (cI, 10, .inl gnu)), (mki, .inl (cI, 8, .inl gki)), (mpa, .inl (cI, 8, .inl gpa)), (mta, .inl (cI, 8, .inl gta)), (mla, .inl (cI, 40, .inl gla)), (msl, .inl (cI, 40, .inl gsl)), (mco, .inl (cI, 3, .inl gco)), (mte, .inl (cI, 3, .inl (upd (upd gte (0 : Int32).toNatClampNeg q_331) (1 : Int32).toNatClampNeg q_355))), (mwo, .inl (cI, 64, .inl gwo)), (zMO m0 npu nte nat_ nde nto nse nhu nga nsd nfa mrf mki mpa mta mla msl mco mhe mso msi msh mce mca mwo mnu mte nba q_354 nen q_355 q_356 mwa mke mma mth mtr nra nik), (mce, .inl (cJ, 1280, .inr (.inl gce)))]) hP hD rfl
                            clear hP hD
                            obtain ⟨hP, hD⟩ := h9R
                            refine lv_iinc (v := 2) (lv' := [(2, .int 2), (3, .int x_351), (1, .int 8), (0, .ref m0)]) hx hb dX8_item_143 hl (k := 1) rfl (by decide) (by decide) rfl (fun ls hl => ?_)
                            refine lv_goto (tgt := 40) hx hb dX8_item_146 (by decide) ?_
                            refine lv_iload_n hx hb dX8_item_40 rfl (lv_at hl 0 rfl) ?_
                            refine lv_aload_n hx hb dX8_item_41 rfl (lv_at hl 3 rfl) ?_
                            refine va_get (D := D) (ci := 8) (v := .ref mnu) (C := RX8) (T := TX8) (N := 38) hx hb hts hi_X8_item_8 hown hK hP 9 rfl rfl 24 (by decide) (hts (.fieldLink RX8 69 "TheLiningsInItModel" "numbers" "[I") (List.mem_of_getElem? (i := 3) rfl)) (fun _ h9 => h9) rfl dX8_item_42 ?_
                            refine lv_iload_n hx hb dX8_item_45 rfl (lv_at hl 2 rfl) ?_
                            refine va_iald hx hb hK hP 0 0 rfl rfl (zf_in (by decide) (by decide)) dX8_item_46 ?_
                            refine lv_topi (fun x_364 ex_364 => ?_)
                            obtain rfl : x_364 = 2 := ex_364.trans ((congrArg gnu (show (8 : Int32).toNatClampNeg = 8 from by decide)).trans ((hnu 8 (by decide)).trans (by decide)))
                            refine lv_icmp_ge (tgt := 149) hx hb dX8_item_47 (by decide) (fun c_365 => ?_) (fun c_365 => ?_)
                            · refine lv_iload_n hx hb dX8_item_149 rfl (lv_at hl 2 rfl) ?_
                              refine lv_tableIn (tgt := 278) hx hb dX8_item_150 (by decide) (by decide) rfl (by decide) ?_
                              refine lv_aload_n hx hb dX8_item_278 rfl (lv_at hl 3 rfl) ?_
                              refine va_get (D := D) (ci := 8) (v := .ref mco) (C := RX8) (T := TX8) (N := 38) hx hb hts hi_X8_item_8 hown hK hP 9 rfl rfl 16 (by decide) (hts (.fieldLink RX8 44 "TheLiningsInItModel" "cost" "[I") (List.mem_of_getElem? (i := 11) rfl)) (fun _ h9 => h9) rfl dX8_item_279 ?_
                              refine lv_aload_n hx hb dX8_item_282 rfl (lv_at hl 3 rfl) ?_
                              refine va_get (D := D) (ci := 8) (v := .ref mte) (C := RX8) (T := TX8) (N := 38) hx hb hts hi_X8_item_8 hown hK hP 9 rfl rfl 25 (by decide) (hts (.fieldLink RX8 72 "TheLiningsInItModel" "tell" "[I") (List.mem_of_getElem? (i := 7) rfl)) (fun _ h9 => h9) rfl dX8_item_283 ?_
                              refine lv_iconst (v := 0) hx hb dX8_item_286 (by decide) ?_
                              refine va_iald hx hb hK hP 7 0 rfl rfl (zf_in (by decide) (by decide)) dX8_item_287 ?_
                              refine lv_topi (fun x_366 ex_366 => ?_)
                              obtain rfl : q_331 = x_366 := (ex_366.trans ((if_neg (by decide)).trans (if_pos rfl))).symm
                              refine lv_aload_n hx hb dX8_item_288 rfl (lv_at hl 3 rfl) ?_
                              refine va_get (D := D) (ci := 8) (v := .ref mte) (C := RX8) (T := TX8) (N := 38) hx hb hts hi_X8_item_8 hown hK hP 9 rfl rfl 25 (by decide) (hts (.fieldLink RX8 72 "TheLiningsInItModel" "tell" "[I") (List.mem_of_getElem? (i := 7) rfl)) (fun _ h9 => h9) rfl dX8_item_289 ?_
                              refine lv_iconst (v := 1) hx hb dX8_item_292 (by decide) ?_
                              refine va_iald hx hb hK hP 7 0 rfl rfl (zf_in (by decide) (by decide)) dX8_item_293 ?_
                              refine lv_topi (fun x_367 ex_367 => ?_)
                              obtain rfl : q_355 = x_367 := (ex_367.trans (if_pos rfl)).symm
                              refine va_iast hx hb hK hP hD hS 6 0 rfl rfl (zf_in (by omega) (by omega)) dX8_item_294 (fun H locs hP hD hS => ?_)
                              have hpg_368 : zRg (upd gco q_331.toNatClampNeg q_355) (0) 99 := zRg_upd hp_gco (by omega) (by omega)
                              obtain ⟨g_368, hg_368⟩ : ∃ g : Nat → Int32, g = upd gco q_331.toNatClampNeg q_355 := ⟨_, rfl⟩
                              rw [← hg_368] at hP hD hpg_368
                              clear hg_368
                              have h9R := zRe (ws' := [(mnu, .inl (cI, 10, .inl gnu)), (mki, .inl (cI, 8, .inl gki)), (mpa, .inl (cI, 8, .inl gpa)), (mta, .inl (cI, 8, .inl gta)), (mla, .inl (cI, 40, .inl gla)), (msl, .inl (cI, 40, .inl gsl)), (mco, .inl (cI, 3, .inl g_368)), (mte, .inl (cI, 3, .inl (upd (upd gte (0 : Int32).toNatClampNeg q_331) (1 : Int32).toNatClampNeg q_355))), (mwo, .inl (cI, 64, .inl gwo)), (zMO m0 npu nte nat_ nde nto nse nhu nga nsd nfa mrf mki mpa mta mla msl mco mhe mso msi msh mce mca mwo mnu mte nba q_354 nen q_355 q_356 mwa mke mma mth mtr nra nik), (mce, .inl (cJ, 1280, .inr (.inl gce)))]) hP hD rfl
                              clear hP hD
                              obtain ⟨hP, hD⟩ := h9R
                              refine lv_goto (tgt := 324) hx hb dX8_item_295 (by decide) ?_
                              refine lv_iconst (v := 1) hx hb dX8_item_324 (by decide) ?_
                              have hI := zIn_b hn0 (by decide) hn1 (by first | (right; decide) | (left; omega))
                              exact W.zret (v := 1) hx hb hr (by decide) (fun t ht hW => ⟨⟨1, (npu, nte, nat_, nde, nse, nhu, nga, gki, gpa, gta, gla, gsl, g_368, (upd (upd gte (0 : Int32).toNatClampNeg q_331) (1 : Int32).toNatClampNeg q_355), q_354, q_355, q_356), rfl, ⟨(show 0 ≤ npu.toInt ∧ npu.toInt ≤ 8 from ⟨hy0, hy1⟩), (show 4 ≤ nte.toInt ∧ nte.toInt ≤ 40 from ⟨hy2, hy3⟩), (show 0 ≤ nat_.toInt ∧ nat_.toInt ≤ 40 from ⟨hy4, hy5⟩), (show 0 ≤ nde.toInt ∧ nde.toInt ≤ 24 from ⟨hy6, hy7⟩), (show 0 ≤ nhu.toInt ∧ nhu.toInt ≤ 9 from ⟨hy8, hy9⟩), hp_gki, hp_gpa, hp_gta, hp_gla, hp_gsl, hpg_368, (show 0 ≤ q_354.toInt ∧ q_354.toInt ≤ 160 from hbq_354), (show npl.toInt ≤ q_354.toInt ∧ q_354.toInt ≤ nen.toInt from by exact ⟨by omega, by omega⟩), (show ((1 : Int32).toInt = 1 → (zItem (zMF gce nba.toInt) nen.toInt npl.toInt nte.toInt npu.toInt).1 = -1 ∧ q_354.toInt = (zItem (zMF gce nba.toInt) nen.toInt npl.toInt nte.toInt npu.toInt).2.1 ∧ nte.toInt = (zItem (zMF gce nba.toInt) nen.toInt npl.toInt nte.toInt npu.toInt).2.2.1 ∧ npu.toInt = (zItem (zMF gce nba.toInt) nen.toInt npl.toInt nte.toInt npu.toInt).2.2.2) ∧ ((1 : Int32).toInt = 0 → (zItem (zMF gce nba.toInt) nen.toInt npl.toInt nte.toInt npu.toInt).1 = q_356.toInt ∧ 0 ≤ q_356.toInt) from by (have k9 : (1 : Int32).toInt = 1 := (by decide); rw [zItem_w hW1 (by decide) hp8 rfl hI]; dsimp only; exact ⟨fun _ => ⟨rfl, by first | rfl | omega, by (show _ = (if (8 : Int) = 0 then _ else _); rw [if_neg (by decide)]), by (show _ = (if (8 : Int) = 3 then _ else _); rw [if_neg (by decide)])⟩, fun h => absurd h (by decide)⟩)), ⟨by decide, by decide⟩⟩, zRet ht hP hD [9, 8, 0, 10, 1, 2, 3, 4, 5, 6, 7] (by decide) rfl⟩, hS.F ht⟩) hS.2.2 dX8_item_325
                            · exact absurd c_365 (by decide)
                          · have fc_363 : r_360.toInt = 0 := zf_eq c_363 rfl (by decide)
                            obtain ⟨hy1_1, hy2_1, hy3_1⟩ := hsr_352_2.1 (by omega)
                            have hn1 : zN1 (zMF gce nba.toInt) nen.toInt (q_330 : Int32).toInt (zLo 8 1) (zHi 8 1 nte.toInt) = ((x_351 : Int32).toInt, (q_354 : Int32).toInt, (q_355 : Int32).toInt) := zN1_yes (p1 := (x_351 : Int32).toInt) (lo2 := 0) (hi2 := (99 : Int)) ⟨by omega, by (rw [zMF_at (by omega), ← hdx_349]; omega)⟩ (by omega) hy1_1 hy2_1 (by decide) (by first | rfl | decide | (show nte.toInt - 1 = _; omega) | (show nte.toInt = _; omega)) (by omega)
                            refine lv_aload_n hx hb dX8_item_127 rfl (lv_at hl 3 rfl) ?_
                            refine lv_iload_n hx hb dX8_item_128 rfl (lv_at hl 0 rfl) ?_
                            skip
                            refine zw_V (As := [.int x_351]) (rest := []) (wr := [(mnu, .inl (cI, 10, .inl gnu)), (mki, .inl (cI, 8, .inl gki)), (mpa, .inl (cI, 8, .inl gpa)), (mta, .inl (cI, 8, .inl gta)), (mla, .inl (cI, 40, .inl gla)), (msl, .inl (cI, 40, .inl gsl)), (mco, .inl (cI, 3, .inl gco)), (mte, .inl (cI, 3, .inl (upd gte (0 : Int32).toNatClampNeg q_331))), (mwo, .inl (cI, 64, .inl gwo)), (mce, .inl (cJ, 1280, .inr (.inl gce)))]) ⟨hx, hb, hml, hown, hts⟩ (c_F_M_wrong l D cI cJ cZ cP cS po m0 mrf mki mpa mta mla msl mco mhe mso msi msh mce mca mwo mnu mte mwa mke mma mth mtr (npu) (nte) (nat_) (nde) (nto) (nse) (nhu) (nga) (nsd) (nfa) (nba) (q_354) (nen) (q_355) (q_356) (nra) (nik) (x_351) hy0 hy1 hy2 hy3 hy4 hy5 hy6 hy7 hy8 hy9 hy10 hy11 hy12 hy13 H.size) (cwV 1 hts gX8_item_X8_wrong rfl rfl rfl ⟨rfl, dh_X8_wrong⟩ ⟨Nat.le_of_ble_eq_true rfl, Nat.le_of_ble_eq_true rfl⟩) hK hN (hZ.kept hS) hP hD hS hA [9] [0, 1, 2, 3, 4, 5, 6, 7, 8, 10] rfl rfl (by decide) (by decide) (by decide) (va_recv (q := (RX8, TX8, 38)) hK hP (ci := 8) (q0 := 9) rfl rfl) rfl hl.1 rfl (Nat.le_of_ble_eq_true rfl) dX8_item_129 ⟨Nat.le_of_ble_eq_true rfl, Nat.le_of_ble_eq_true rfl⟩ (fun r_369 u_370 H locs hr_369 hP hD hS => ?_)
                            obtain ⟨q_371, rfl⟩ : ∃ z, z = u_370 := ⟨_, rfl⟩
                            obtain ⟨hsr_369_0, hr_369⟩ := hr_369
                            have h9R := zRe (ws' := [(mnu, .inl (cI, 10, .inl gnu)), (mki, .inl (cI, 8, .inl gki)), (mpa, .inl (cI, 8, .inl gpa)), (mta, .inl (cI, 8, .inl gta)), (mla, .inl (cI, 40, .inl gla)), (msl, .inl (cI, 40, .inl gsl)), (mco, .inl (cI, 3, .inl gco)), (mte, .inl (cI, 3, .inl (upd gte (0 : Int32).toNatClampNeg q_331))), (mwo, .inl (cI, 64, .inl gwo)), (mce, .inl (cJ, 1280, .inr (.inl gce))), (zMO m0 npu nte nat_ nde nto nse nhu nga nsd nfa mrf mki mpa mta mla msl mco mhe mso msi msh mce mca mwo mnu mte nba q_354 nen q_355 q_371 mwa mke mma mth mtr nra nik)]) hP hD rfl
                            clear hP hD
                            obtain ⟨hP, hD⟩ := h9R
                            obtain rfl := hr_369
                            have hI := zIn_b hn0 (by decide) hn1 (by first | (right; decide) | (left; omega))
                            exact W.zret (v := 0) hx hb hr (by decide) (fun t ht hW => ⟨⟨0, (npu, nte, nat_, nde, nse, nhu, nga, gki, gpa, gta, gla, gsl, gco, (upd gte (0 : Int32).toNatClampNeg q_331), q_354, q_355, q_371), rfl, ⟨(show 0 ≤ npu.toInt ∧ npu.toInt ≤ 8 from ⟨hy0, hy1⟩), (show 4 ≤ nte.toInt ∧ nte.toInt ≤ 40 from ⟨hy2, hy3⟩), (show 0 ≤ nat_.toInt ∧ nat_.toInt ≤ 40 from ⟨hy4, hy5⟩), (show 0 ≤ nde.toInt ∧ nde.toInt ≤ 24 from ⟨hy6, hy7⟩), (show 0 ≤ nhu.toInt ∧ nhu.toInt ≤ 9 from ⟨hy8, hy9⟩), hp_gki, hp_gpa, hp_gta, hp_gla, hp_gsl, hp_gco, (show 0 ≤ q_354.toInt ∧ q_354.toInt ≤ 160 from hbq_354), (show npl.toInt ≤ q_354.toInt ∧ q_354.toInt ≤ nen.toInt from by exact ⟨by omega, by omega⟩), (show ((0 : Int32).toInt = 1 → (zItem (zMF gce nba.toInt) nen.toInt npl.toInt nte.toInt npu.toInt).1 = -1 ∧ q_354.toInt = (zItem (zMF gce nba.toInt) nen.toInt npl.toInt nte.toInt npu.toInt).2.1 ∧ nte.toInt = (zItem (zMF gce nba.toInt) nen.toInt npl.toInt nte.toInt npu.toInt).2.2.1 ∧ npu.toInt = (zItem (zMF gce nba.toInt) nen.toInt npl.toInt nte.toInt npu.toInt).2.2.2) ∧ ((0 : Int32).toInt = 0 → (zItem (zMF gce nba.toInt) nen.toInt npl.toInt nte.toInt npu.toInt).1 = q_371.toInt ∧ 0 ≤ q_371.toInt) from by (have k9 : (0 : Int32).toInt = 0 := (by decide); rw [zItem_w hW1 (by decide) hp8 rfl hI]; dsimp only; exact ⟨fun h => absurd h (by decide), fun _ => ⟨by first | rfl | (show _ = _; omega), by omega⟩⟩)), ⟨by decide, by decide⟩⟩, zRet ht hP hD [10, 8, 0, 9, 1, 2, 3, 4, 5, 6, 7] (by decide) rfl⟩, hS.F ht⟩) hS.2.2 dX8_item_132
                        · have fc_359 : r_352.toInt = 0 := zf_eq c_359 rfl (by decide)
                          have hn1 : zN1 (zMF gce nba.toInt) nen.toInt (q_330 : Int32).toInt (zLo 8 1) (zHi 8 1 nte.toInt) = ((x_351 : Int32).toInt, (x_351 : Int32).toInt, 0) := zN1_yes (p1 := (x_351 : Int32).toInt) (lo2 := 0) (hi2 := (99 : Int)) ⟨by omega, by (rw [zMF_at (by omega), ← hdx_349]; omega)⟩ (by omega) (hsr_352_2.2 (by omega)).1.symm zNv_0.symm (by decide) (by first | rfl | decide | (show nte.toInt - 1 = _; omega) | (show nte.toInt = _; omega)) (Or.inl ⟨rfl, Or.inl rfl⟩)
                          refine lv_iconst (v := 0) hx hb dX8_item_116 (by decide) ?_
                          have hI := zIn_b hn0 (by decide) hn1 (by first | (right; decide) | (left; omega))
                          exact W.zret (v := 0) hx hb hr (by decide) (fun t ht hW => ⟨⟨0, (npu, nte, nat_, nde, nse, nhu, nga, gki, gpa, gta, gla, gsl, gco, (upd gte (0 : Int32).toNatClampNeg q_331), q_354, q_355, q_356), rfl, ⟨(show 0 ≤ npu.toInt ∧ npu.toInt ≤ 8 from ⟨hy0, hy1⟩), (show 4 ≤ nte.toInt ∧ nte.toInt ≤ 40 from ⟨hy2, hy3⟩), (show 0 ≤ nat_.toInt ∧ nat_.toInt ≤ 40 from ⟨hy4, hy5⟩), (show 0 ≤ nde.toInt ∧ nde.toInt ≤ 24 from ⟨hy6, hy7⟩), (show 0 ≤ nhu.toInt ∧ nhu.toInt ≤ 9 from ⟨hy8, hy9⟩), hp_gki, hp_gpa, hp_gta, hp_gla, hp_gsl, hp_gco, (show 0 ≤ q_354.toInt ∧ q_354.toInt ≤ 160 from hbq_354), (show npl.toInt ≤ q_354.toInt ∧ q_354.toInt ≤ nen.toInt from by exact ⟨by omega, by omega⟩), (show ((0 : Int32).toInt = 1 → (zItem (zMF gce nba.toInt) nen.toInt npl.toInt nte.toInt npu.toInt).1 = -1 ∧ q_354.toInt = (zItem (zMF gce nba.toInt) nen.toInt npl.toInt nte.toInt npu.toInt).2.1 ∧ nte.toInt = (zItem (zMF gce nba.toInt) nen.toInt npl.toInt nte.toInt npu.toInt).2.2.1 ∧ npu.toInt = (zItem (zMF gce nba.toInt) nen.toInt npl.toInt nte.toInt npu.toInt).2.2.2) ∧ ((0 : Int32).toInt = 0 → (zItem (zMF gce nba.toInt) nen.toInt npl.toInt nte.toInt npu.toInt).1 = q_356.toInt ∧ 0 ≤ q_356.toInt) from by (have k9 : (0 : Int32).toInt = 0 := (by decide); rw [zItem_w hW1 (by decide) hp8 rfl hI]; dsimp only; exact ⟨fun h => absurd h (by decide), fun _ => ⟨by first | rfl | (show _ = _; omega), by omega⟩⟩)), ⟨by decide, by decide⟩⟩, zRet ht hP hD [9, 8, 0, 10, 1, 2, 3, 4, 5, 6, 7] (by decide) rfl⟩, hS.F ht⟩) hS.2.2 dX8_item_117
                      · have fc_350 : x_349.toInt ≠ 32 := zf_ne c_350 rfl (by decide)
                        have hn1 : zN1 (zMF gce nba.toInt) nen.toInt (q_330 : Int32).toInt (zLo 8 1) (zHi 8 1 nte.toInt) = ((q_330 : Int32).toInt, (q_330 : Int32).toInt, 0) := zN1_no (by first | (intro z; have z1 := z.1; omega) | (intro z; have z2 := z.2; rw [zMF_at (by omega), ← hdx_349] at z2; omega))
                        refine lv_aload_n hx hb dX8_item_85 rfl (lv_at hl 3 rfl) ?_
                        refine lv_aload_n hx hb dX8_item_86 rfl (lv_at hl 3 rfl) ?_
                        refine va_get (D := D) (ci := 8) (v := .int q_330) (C := RX8) (T := TX8) (N := 38) hx hb hts hi_X8_item_8 hown hK hP 9 rfl rfl 27 (by decide) (hts (.fieldLink RX8 152 "TheLiningsInItModel" "place" "I") (List.mem_of_getElem? (i := 2) rfl)) (fun _ h9 => h9) rfl dX8_item_87 ?_
                        skip
                        refine zw_V (As := [.int q_330]) (rest := []) (wr := [(mnu, .inl (cI, 10, .inl gnu)), (mki, .inl (cI, 8, .inl gki)), (mpa, .inl (cI, 8, .inl gpa)), (mta, .inl (cI, 8, .inl gta)), (mla, .inl (cI, 40, .inl gla)), (msl, .inl (cI, 40, .inl gsl)), (mco, .inl (cI, 3, .inl gco)), (mte, .inl (cI, 3, .inl (upd gte (0 : Int32).toNatClampNeg q_331))), (mwo, .inl (cI, 64, .inl gwo)), (mce, .inl (cJ, 1280, .inr (.inl gce)))]) ⟨hx, hb, hml, hown, hts⟩ (c_F_M_wrong l D cI cJ cZ cP cS po m0 mrf mki mpa mta mla msl mco mhe mso msi msh mce mca mwo mnu mte mwa mke mma mth mtr (npu) (nte) (nat_) (nde) (nto) (nse) (nhu) (nga) (nsd) (nfa) (nba) (q_330) (nen) (q_331) (q_332) (nra) (nik) (q_330) hy0 hy1 hy2 hy3 hy4 hy5 hy6 hy7 hy8 hy9 hy10 hy11 hy12 hy13 H.size) (cwV 1 hts gX8_item_X8_wrong rfl rfl rfl ⟨rfl, dh_X8_wrong⟩ ⟨Nat.le_of_ble_eq_true rfl, Nat.le_of_ble_eq_true rfl⟩) hK hN (hZ.kept hS) hP hD hS hA [9] [0, 1, 2, 3, 4, 5, 6, 7, 8, 10] rfl rfl (by decide) (by decide) (by decide) (va_recv (q := (RX8, TX8, 38)) hK hP (ci := 8) (q0 := 9) rfl rfl) rfl hl.1 rfl (Nat.le_of_ble_eq_true rfl) dX8_item_90 ⟨Nat.le_of_ble_eq_true rfl, Nat.le_of_ble_eq_true rfl⟩ (fun r_372 u_373 H locs hr_372 hP hD hS => ?_)
                        obtain ⟨q_374, rfl⟩ : ∃ z, z = u_373 := ⟨_, rfl⟩
                        obtain ⟨hsr_372_0, hr_372⟩ := hr_372
                        have h9R := zRe (ws' := [(mnu, .inl (cI, 10, .inl gnu)), (mki, .inl (cI, 8, .inl gki)), (mpa, .inl (cI, 8, .inl gpa)), (mta, .inl (cI, 8, .inl gta)), (mla, .inl (cI, 40, .inl gla)), (msl, .inl (cI, 40, .inl gsl)), (mco, .inl (cI, 3, .inl gco)), (mte, .inl (cI, 3, .inl (upd gte (0 : Int32).toNatClampNeg q_331))), (mwo, .inl (cI, 64, .inl gwo)), (mce, .inl (cJ, 1280, .inr (.inl gce))), (zMO m0 npu nte nat_ nde nto nse nhu nga nsd nfa mrf mki mpa mta mla msl mco mhe mso msi msh mce mca mwo mnu mte nba q_330 nen q_331 q_374 mwa mke mma mth mtr nra nik)]) hP hD rfl
                        clear hP hD
                        obtain ⟨hP, hD⟩ := h9R
                        obtain rfl := hr_372
                        have hI := zIn_b hn0 (by decide) hn1 (by first | (right; decide) | (left; omega))
                        exact W.zret (v := 0) hx hb hr (by decide) (fun t ht hW => ⟨⟨0, (npu, nte, nat_, nde, nse, nhu, nga, gki, gpa, gta, gla, gsl, gco, (upd gte (0 : Int32).toNatClampNeg q_331), q_330, q_331, q_374), rfl, ⟨(show 0 ≤ npu.toInt ∧ npu.toInt ≤ 8 from ⟨hy0, hy1⟩), (show 4 ≤ nte.toInt ∧ nte.toInt ≤ 40 from ⟨hy2, hy3⟩), (show 0 ≤ nat_.toInt ∧ nat_.toInt ≤ 40 from ⟨hy4, hy5⟩), (show 0 ≤ nde.toInt ∧ nde.toInt ≤ 24 from ⟨hy6, hy7⟩), (show 0 ≤ nhu.toInt ∧ nhu.toInt ≤ 9 from ⟨hy8, hy9⟩), hp_gki, hp_gpa, hp_gta, hp_gla, hp_gsl, hp_gco, (show 0 ≤ q_330.toInt ∧ q_330.toInt ≤ 160 from hbq_330), (show npl.toInt ≤ q_330.toInt ∧ q_330.toInt ≤ nen.toInt from by exact ⟨by omega, by omega⟩), (show ((0 : Int32).toInt = 1 → (zItem (zMF gce nba.toInt) nen.toInt npl.toInt nte.toInt npu.toInt).1 = -1 ∧ q_330.toInt = (zItem (zMF gce nba.toInt) nen.toInt npl.toInt nte.toInt npu.toInt).2.1 ∧ nte.toInt = (zItem (zMF gce nba.toInt) nen.toInt npl.toInt nte.toInt npu.toInt).2.2.1 ∧ npu.toInt = (zItem (zMF gce nba.toInt) nen.toInt npl.toInt nte.toInt npu.toInt).2.2.2) ∧ ((0 : Int32).toInt = 0 → (zItem (zMF gce nba.toInt) nen.toInt npl.toInt nte.toInt npu.toInt).1 = q_374.toInt ∧ 0 ≤ q_374.toInt) from by (have k9 : (0 : Int32).toInt = 0 := (by decide); rw [zItem_w hW1 (by decide) hp8 rfl hI]; dsimp only; exact ⟨fun h => absurd h (by decide), fun _ => ⟨by first | rfl | (show _ = _; omega), by omega⟩⟩)), ⟨by decide, by decide⟩⟩, zRet ht hP hD [10, 8, 0, 9, 1, 2, 3, 4, 5, 6, 7] (by decide) rfl⟩, hS.F ht⟩) hS.2.2 dX8_item_93
              · have fc_339 : r_336.toInt = 0 := zf_eq c_339 rfl (by decide)
                obtain ⟨hy1_0, hy2_0, hy3_0⟩ := hsr_328_2.1 (by omega)
                have hn0 : zN1 (zMF gce nba.toInt) nen.toInt (npl.toInt + ((zWds ((8 : Int)).toNat).length : Int)) (zLo 8 0) (zHi 8 0 nte.toInt) = ((q_7 : Int32).toInt, (q_330 : Int32).toInt, (q_331 : Int32).toInt) := zN1_yes (p1 := (q_7 : Int32).toInt) (lo2 := 0) (hi2 := (2 : Int)) ⟨hW2, hW3⟩ (by omega) hy1_0 hy2_0 (by decide) (by first | rfl | decide | (show nte.toInt - 1 = _; omega) | (show nte.toInt = _; omega)) (by omega)
                refine lv_aload_n hx hb dX8_item_127 rfl (lv_at hl 3 rfl) ?_
                refine lv_iload_n hx hb dX8_item_128 rfl (lv_at hl 0 rfl) ?_
                skip
                refine zw_V (As := [.int q_7]) (rest := []) (wr := [(mnu, .inl (cI, 10, .inl gnu)), (mki, .inl (cI, 8, .inl gki)), (mpa, .inl (cI, 8, .inl gpa)), (mta, .inl (cI, 8, .inl gta)), (mla, .inl (cI, 40, .inl gla)), (msl, .inl (cI, 40, .inl gsl)), (mco, .inl (cI, 3, .inl gco)), (mte, .inl (cI, 3, .inl gte)), (mwo, .inl (cI, 64, .inl gwo)), (mce, .inl (cJ, 1280, .inr (.inl gce)))]) ⟨hx, hb, hml, hown, hts⟩ (c_F_M_wrong l D cI cJ cZ cP cS po m0 mrf mki mpa mta mla msl mco mhe mso msi msh mce mca mwo mnu mte mwa mke mma mth mtr (npu) (nte) (nat_) (nde) (nto) (nse) (nhu) (nga) (nsd) (nfa) (nba) (q_330) (nen) (q_331) (q_332) (nra) (nik) (q_7) hy0 hy1 hy2 hy3 hy4 hy5 hy6 hy7 hy8 hy9 hy10 hy11 hy12 hy13 H.size) (cwV 1 hts gX8_item_X8_wrong rfl rfl rfl ⟨rfl, dh_X8_wrong⟩ ⟨Nat.le_of_ble_eq_true rfl, Nat.le_of_ble_eq_true rfl⟩) hK hN (hZ.kept hS) hP hD hS hA [9] [0, 1, 2, 3, 4, 5, 6, 7, 8, 10] rfl rfl (by decide) (by decide) (by decide) (va_recv (q := (RX8, TX8, 38)) hK hP (ci := 8) (q0 := 9) rfl rfl) rfl hl.1 rfl (Nat.le_of_ble_eq_true rfl) dX8_item_129 ⟨Nat.le_of_ble_eq_true rfl, Nat.le_of_ble_eq_true rfl⟩ (fun r_375 u_376 H locs hr_375 hP hD hS => ?_)
                obtain ⟨q_377, rfl⟩ : ∃ z, z = u_376 := ⟨_, rfl⟩
                obtain ⟨hsr_375_0, hr_375⟩ := hr_375
                have h9R := zRe (ws' := [(mnu, .inl (cI, 10, .inl gnu)), (mki, .inl (cI, 8, .inl gki)), (mpa, .inl (cI, 8, .inl gpa)), (mta, .inl (cI, 8, .inl gta)), (mla, .inl (cI, 40, .inl gla)), (msl, .inl (cI, 40, .inl gsl)), (mco, .inl (cI, 3, .inl gco)), (mte, .inl (cI, 3, .inl gte)), (mwo, .inl (cI, 64, .inl gwo)), (mce, .inl (cJ, 1280, .inr (.inl gce))), (zMO m0 npu nte nat_ nde nto nse nhu nga nsd nfa mrf mki mpa mta mla msl mco mhe mso msi msh mce mca mwo mnu mte nba q_330 nen q_331 q_377 mwa mke mma mth mtr nra nik)]) hP hD rfl
                clear hP hD
                obtain ⟨hP, hD⟩ := h9R
                obtain rfl := hr_375
                have hI := zIn_a hn0 (by first | (right; decide) | (left; omega))
                exact W.zret (v := 0) hx hb hr (by decide) (fun t ht hW => ⟨⟨0, (npu, nte, nat_, nde, nse, nhu, nga, gki, gpa, gta, gla, gsl, gco, gte, q_330, q_331, q_377), rfl, ⟨(show 0 ≤ npu.toInt ∧ npu.toInt ≤ 8 from ⟨hy0, hy1⟩), (show 4 ≤ nte.toInt ∧ nte.toInt ≤ 40 from ⟨hy2, hy3⟩), (show 0 ≤ nat_.toInt ∧ nat_.toInt ≤ 40 from ⟨hy4, hy5⟩), (show 0 ≤ nde.toInt ∧ nde.toInt ≤ 24 from ⟨hy6, hy7⟩), (show 0 ≤ nhu.toInt ∧ nhu.toInt ≤ 9 from ⟨hy8, hy9⟩), hp_gki, hp_gpa, hp_gta, hp_gla, hp_gsl, hp_gco, (show 0 ≤ q_330.toInt ∧ q_330.toInt ≤ 160 from hbq_330), (show npl.toInt ≤ q_330.toInt ∧ q_330.toInt ≤ nen.toInt from by exact ⟨by omega, by omega⟩), (show ((0 : Int32).toInt = 1 → (zItem (zMF gce nba.toInt) nen.toInt npl.toInt nte.toInt npu.toInt).1 = -1 ∧ q_330.toInt = (zItem (zMF gce nba.toInt) nen.toInt npl.toInt nte.toInt npu.toInt).2.1 ∧ nte.toInt = (zItem (zMF gce nba.toInt) nen.toInt npl.toInt nte.toInt npu.toInt).2.2.1 ∧ npu.toInt = (zItem (zMF gce nba.toInt) nen.toInt npl.toInt nte.toInt npu.toInt).2.2.2) ∧ ((0 : Int32).toInt = 0 → (zItem (zMF gce nba.toInt) nen.toInt npl.toInt nte.toInt npu.toInt).1 = q_377.toInt ∧ 0 ≤ q_377.toInt) from by (have k9 : (0 : Int32).toInt = 0 := (by decide); rw [zItem_w hW1 (by decide) hp8 rfl hI]; dsimp only; exact ⟨fun h => absurd h (by decide), fun _ => ⟨by first | rfl | (show _ = _; omega), by omega⟩⟩)), ⟨by decide, by decide⟩⟩, zRet ht hP hD [10, 8, 0, 9, 1, 2, 3, 4, 5, 6, 7] (by decide) rfl⟩, hS.F ht⟩) hS.2.2 dX8_item_132
            · have fc_335 : r_328.toInt = 0 := zf_eq c_335 rfl (by decide)
              have hn0 : zN1 (zMF gce nba.toInt) nen.toInt (npl.toInt + ((zWds ((8 : Int)).toNat).length : Int)) (zLo 8 0) (zHi 8 0 nte.toInt) = ((q_7 : Int32).toInt, (q_7 : Int32).toInt, 0) := zN1_yes (p1 := (q_7 : Int32).toInt) (lo2 := 0) (hi2 := (2 : Int)) ⟨hW2, hW3⟩ (by omega) (hsr_328_2.2 (by omega)).1.symm zNv_0.symm (by decide) (by first | rfl | decide | (show nte.toInt - 1 = _; omega) | (show nte.toInt = _; omega)) (Or.inl ⟨rfl, Or.inl rfl⟩)
              refine lv_iconst (v := 0) hx hb dX8_item_116 (by decide) ?_
              have hI := zIn_a hn0 (by first | (right; decide) | (left; omega))
              exact W.zret (v := 0) hx hb hr (by decide) (fun t ht hW => ⟨⟨0, (npu, nte, nat_, nde, nse, nhu, nga, gki, gpa, gta, gla, gsl, gco, gte, q_330, q_331, q_332), rfl, ⟨(show 0 ≤ npu.toInt ∧ npu.toInt ≤ 8 from ⟨hy0, hy1⟩), (show 4 ≤ nte.toInt ∧ nte.toInt ≤ 40 from ⟨hy2, hy3⟩), (show 0 ≤ nat_.toInt ∧ nat_.toInt ≤ 40 from ⟨hy4, hy5⟩), (show 0 ≤ nde.toInt ∧ nde.toInt ≤ 24 from ⟨hy6, hy7⟩), (show 0 ≤ nhu.toInt ∧ nhu.toInt ≤ 9 from ⟨hy8, hy9⟩), hp_gki, hp_gpa, hp_gta, hp_gla, hp_gsl, hp_gco, (show 0 ≤ q_330.toInt ∧ q_330.toInt ≤ 160 from hbq_330), (show npl.toInt ≤ q_330.toInt ∧ q_330.toInt ≤ nen.toInt from by exact ⟨by omega, by omega⟩), (show ((0 : Int32).toInt = 1 → (zItem (zMF gce nba.toInt) nen.toInt npl.toInt nte.toInt npu.toInt).1 = -1 ∧ q_330.toInt = (zItem (zMF gce nba.toInt) nen.toInt npl.toInt nte.toInt npu.toInt).2.1 ∧ nte.toInt = (zItem (zMF gce nba.toInt) nen.toInt npl.toInt nte.toInt npu.toInt).2.2.1 ∧ npu.toInt = (zItem (zMF gce nba.toInt) nen.toInt npl.toInt nte.toInt npu.toInt).2.2.2) ∧ ((0 : Int32).toInt = 0 → (zItem (zMF gce nba.toInt) nen.toInt npl.toInt nte.toInt npu.toInt).1 = q_332.toInt ∧ 0 ≤ q_332.toInt) from by (have k9 : (0 : Int32).toInt = 0 := (by decide); rw [zItem_w hW1 (by decide) hp8 rfl hI]; dsimp only; exact ⟨fun h => absurd h (by decide), fun _ => ⟨by first | rfl | (show _ = _; omega), by omega⟩⟩)), ⟨by decide, by decide⟩⟩, zRet ht hP hD [9, 8, 0, 10, 1, 2, 3, 4, 5, 6, 7] (by decide) rfl⟩, hS.F ht⟩) hS.2.2 dX8_item_117
          · exact absurd c_327 (by decide)
      · have kc9 : (9 : Int32).toInt = 9 := by decide
        have z9 := hsr_5_1
        rw [kc9] at z9
        obtain ⟨hW1, hW2, hW3, hW4⟩ := zItem_Mw (f := (zMF gce nba.toInt)) (e := nen.toInt) (p := npl.toInt) (w := 9) (by omega) (by decide)
        have hp8 : ¬ ((9 : Int) = 3 ∧ npu.toInt = 8) := fun z => absurd z.1 (by decide)
        refine lv_iconst (v := 0) hx hb dX8_item_38 (by decide) ?_
        refine lv_istore_n (lv' := [(2, .int 0), (1, .int 9), (0, .ref m0)]) hx hb dX8_item_39 rfl hl (by decide) rfl (fun ls hl => ?_)
        refine lv_iload_n hx hb dX8_item_40 rfl (lv_at hl 0 rfl) ?_
        refine lv_aload_n hx hb dX8_item_41 rfl (lv_at hl 2 rfl) ?_
        refine va_get (D := D) (ci := 8) (v := .ref mnu) (C := RX8) (T := TX8) (N := 38) hx hb hts hi_X8_item_8 hown hK hP 8 rfl rfl 24 (by decide) (hts (.fieldLink RX8 69 "TheLiningsInItModel" "numbers" "[I") (List.mem_of_getElem? (i := 3) rfl)) (fun _ h9 => h9) rfl dX8_item_42 ?_
        refine lv_iload_n hx hb dX8_item_45 rfl (lv_at hl 1 rfl) ?_
        refine va_iald hx hb hK hP 0 0 rfl rfl (zf_in (by decide) (by decide)) dX8_item_46 ?_
        refine lv_topi (fun x_378 ex_378 => ?_)
        obtain rfl : x_378 = 1 := ex_378.trans ((congrArg gnu (show (9 : Int32).toNatClampNeg = 9 from by decide)).trans ((hnu 9 (by decide)).trans (by decide)))
        refine lv_icmp_ge (tgt := 149) hx hb dX8_item_47 (by decide) (fun c_379 => ?_) (fun c_379 => ?_)
        · exact absurd c_379 (by decide)
        · refine lv_iload_n hx hb dX8_item_50 rfl (lv_at hl 0 rfl) ?_
          refine lv_if_le (tgt := 104) hx hb dX8_item_51 (by decide) (fun c_380 => ?_) (fun c_380 => ?_)
          · refine lv_aload_n hx hb dX8_item_104 rfl (lv_at hl 2 rfl) ?_
            refine va_get (D := D) (ci := 8) (v := .int q_7) (C := RX8) (T := TX8) (N := 38) hx hb hts hi_X8_item_8 hown hK hP 8 rfl rfl 27 (by decide) (hts (.fieldLink RX8 152 "TheLiningsInItModel" "place" "I") (List.mem_of_getElem? (i := 2) rfl)) (fun _ h9 => h9) rfl dX8_item_105 ?_
            refine lv_istore_n (lv' := [(3, .int q_7), (2, .int 0), (1, .int 9), (0, .ref m0)]) hx hb dX8_item_108 rfl hl (by decide) rfl (fun ls hl => ?_)
            refine lv_aload_n hx hb dX8_item_109 rfl (lv_at hl 3 rfl) ?_
            skip
            refine zw_V (As := []) (rest := []) (wr := [(mnu, .inl (cI, 10, .inl gnu)), (mki, .inl (cI, 8, .inl gki)), (mpa, .inl (cI, 8, .inl gpa)), (mta, .inl (cI, 8, .inl gta)), (mla, .inl (cI, 40, .inl gla)), (msl, .inl (cI, 40, .inl gsl)), (mco, .inl (cI, 3, .inl gco)), (mte, .inl (cI, 3, .inl gte)), (mwo, .inl (cI, 64, .inl gwo))]) ⟨hx, hb, hml, hown, hts⟩ (c_F_M_reads l D cI cJ cZ cP cS po m0 mrf mki mpa mta mla msl mco mhe mso msi msh mce mca mwo mnu mte mwa mke mma mth mtr (npu) (nte) (nat_) (nde) (nto) (nse) (nhu) (nga) (nsd) (nfa) (nba) (q_7) (nen) (nnu) (q_8) (nra) (nik) gce hy0 hy1 hy2 hy3 hy4 hy5 hy6 hy7 hy8 hy9 hy10 hy11 hy12 hy13 hy14 hy15 hbq_7.1 hbq_7.2 hy18 hy19 (by omega) H.size) (cwV 0 hts gX8_item_X8_reads rfl rfl rfl ⟨rfl, dh_X8_reads⟩ ⟨Nat.le_of_ble_eq_true rfl, Nat.le_of_ble_eq_true rfl⟩) hK hN (hZ.kept hS) hP hD hS hA [8, 10] [0, 1, 2, 3, 4, 5, 6, 7, 9] rfl rfl (by decide) (by decide) (by decide) (va_recv (q := (RX8, TX8, 38)) hK hP (ci := 8) (q0 := 8) rfl rfl) rfl hl.1 rfl (Nat.le_of_ble_eq_true rfl) dX8_item_110 ⟨Nat.le_of_ble_eq_true rfl, Nat.le_of_ble_eq_true rfl⟩ (fun r_381 u_382 H locs hr_381 hP hD hS => ?_)
            obtain ⟨q_383, q_384, q_385⟩ := u_382
            try dsimp only at hr_381
            obtain ⟨hbq_383, hsr_381_0, hsr_381_1, hsr_381_2, hr_381⟩ := hr_381
            have h9R := zRe (ws' := [(mnu, .inl (cI, 10, .inl gnu)), (mki, .inl (cI, 8, .inl gki)), (mpa, .inl (cI, 8, .inl gpa)), (mta, .inl (cI, 8, .inl gta)), (mla, .inl (cI, 40, .inl gla)), (msl, .inl (cI, 40, .inl gsl)), (mco, .inl (cI, 3, .inl gco)), (mte, .inl (cI, 3, .inl gte)), (mwo, .inl (cI, 64, .inl gwo)), (zMO m0 npu nte nat_ nde nto nse nhu nga nsd nfa mrf mki mpa mta mla msl mco mhe mso msi msh mce mca mwo mnu mte nba q_383 nen q_384 q_385 mwa mke mma mth mtr nra nik), (mce, .inl (cJ, 1280, .inr (.inl gce)))]) hP hD rfl
            clear hP hD
            obtain ⟨hP, hD⟩ := h9R
            obtain ⟨g_386, g_387⟩ := hr_381
            refine lv_if_ne (tgt := 118) hx hb dX8_item_113 (by decide) (fun c_388 => ?_) (fun c_388 => ?_)
            · have fc_388 : r_381.toInt ≠ 0 := zf_ne c_388 rfl (by decide)
              refine lv_aload_n hx hb dX8_item_118 rfl (lv_at hl 3 rfl) ?_
              refine lv_iload_n hx hb dX8_item_119 rfl (lv_at hl 2 rfl) ?_
              refine lv_iload_n hx hb dX8_item_120 rfl (lv_at hl 1 rfl) ?_
              refine zc_V (As := [.int 9, .int 0]) (rest := []) ⟨hx, hb, hml, hown, hts⟩ (c_F_M_isSo_9_0 l D cI cJ cZ cP cS po m0 mrf mki mpa mta mla msl mco mhe mso msi msh mce mca mwo mnu mte mwa mke mma mth mtr (npu) (nte) (nat_) (nde) (nto) (nse) (nhu) (nga) (nsd) (nfa) (nba) (q_383) (nen) (q_384) (q_385) (nra) (nik) hy0 hy1 hy2 hy3 hy4 hy5 hy6 hy7 hy8 hy9 hy10 hy11 hy12 hy13 (by omega) (by omega)) (cwV 2 hts gX8_item_X8_isSo rfl rfl rfl ⟨rfl, dh_X8_isSo⟩ ⟨Nat.le_of_ble_eq_true rfl, Nat.le_of_ble_eq_true rfl⟩) hK hN (hZ.kept hS) hP (hP.sub [9] rfl) (va_recv (q := (RX8, TX8, 38)) hK hP (ci := 8) (q0 := 9) rfl rfl) rfl hl.1 rfl (Nat.le_of_ble_eq_true rfl) dX8_item_121 ⟨Nat.le_of_ble_eq_true rfl, Nat.le_of_ble_eq_true rfl⟩ (fun r_389 hr_389 => ?_)
              obtain ⟨g_390, g_391, hsr_389_0⟩ := hr_389
              refine lv_if_ne (tgt := 133) hx hb dX8_item_124 (by decide) (fun c_392 => ?_) (fun c_392 => ?_)
              · have fc_392 : r_389.toInt ≠ 0 := zf_ne c_392 rfl (by decide)
                obtain ⟨hy1_0, hy2_0, hy3_0⟩ := hsr_381_2.1 (by omega)
                have hn0 : zN1 (zMF gce nba.toInt) nen.toInt (npl.toInt + ((zWds ((9 : Int)).toNat).length : Int)) (zLo 9 0) (zHi 9 0 nte.toInt) = (-1, (q_383 : Int32).toInt, (q_384 : Int32).toInt) := zN1_yes (p1 := (q_7 : Int32).toInt) (lo2 := 0) (hi2 := (nte.toInt : Int)) ⟨hW2, hW3⟩ (by omega) hy1_0 hy2_0 (by decide) (by first | rfl | decide | (show nte.toInt - 1 = _; omega) | (show nte.toInt = _; omega)) (by omega)
                refine lv_aload_n hx hb dX8_item_133 rfl (lv_at hl 3 rfl) ?_
                refine va_get (D := D) (ci := 8) (v := .ref mte) (C := RX8) (T := TX8) (N := 38) hx hb hts hi_X8_item_8 hown hK hP 9 rfl rfl 25 (by decide) (hts (.fieldLink RX8 72 "TheLiningsInItModel" "tell" "[I") (List.mem_of_getElem? (i := 7) rfl)) (fun _ h9 => h9) rfl dX8_item_134 ?_
                refine lv_iload_n hx hb dX8_item_137 rfl (lv_at hl 1 rfl) ?_
                refine lv_aload_n hx hb dX8_item_138 rfl (lv_at hl 3 rfl) ?_
                refine va_get (D := D) (ci := 8) (v := .int q_384) (C := RX8) (T := TX8) (N := 38) hx hb hts hi_X8_item_8 hown hK hP 9 rfl rfl 29 (by decide) (hts (.fieldLink RX8 161 "TheLiningsInItModel" "number" "I") (List.mem_of_getElem? (i := 8) rfl)) (fun _ h9 => h9) rfl dX8_item_139 ?_
                refine va_iast hx hb hK hP hD hS 7 0 rfl rfl (zf_in (by decide) (by decide)) dX8_item_142 (fun H locs hP hD hS => ?_)
                have h9R := zRe (ws' := [(mnu, .inl (cI, 10, .inl gnu)), (mki, .inl (cI, 8, .inl gki)), (mpa, .inl (cI, 8, .inl gpa)), (mta, .inl (cI, 8, .inl gta)), (mla, .inl (cI, 40, .inl gla)), (msl, .inl (cI, 40, .inl gsl)), (mco, .inl (cI, 3, .inl gco)), (mte, .inl (cI, 3, .inl (upd gte (0 : Int32).toNatClampNeg q_384))), (mwo, .inl (cI, 64, .inl gwo)), (zMO m0 npu nte nat_ nde nto nse nhu nga nsd nfa mrf mki mpa mta mla msl mco mhe mso msi msh mce mca mwo mnu mte nba q_383 nen q_384 q_385 mwa mke mma mth mtr nra nik), (mce, .inl (cJ, 1280, .inr (.inl gce)))]) hP hD rfl
                clear hP hD
                obtain ⟨hP, hD⟩ := h9R
                refine lv_iinc (v := 1) (lv' := [(2, .int 1), (3, .int q_7), (1, .int 9), (0, .ref m0)]) hx hb dX8_item_143 hl (k := 1) rfl (by decide) (by decide) rfl (fun ls hl => ?_)
                refine lv_goto (tgt := 40) hx hb dX8_item_146 (by decide) ?_
                refine lv_iload_n hx hb dX8_item_40 rfl (lv_at hl 0 rfl) ?_
                refine lv_aload_n hx hb dX8_item_41 rfl (lv_at hl 3 rfl) ?_
                refine va_get (D := D) (ci := 8) (v := .ref mnu) (C := RX8) (T := TX8) (N := 38) hx hb hts hi_X8_item_8 hown hK hP 9 rfl rfl 24 (by decide) (hts (.fieldLink RX8 69 "TheLiningsInItModel" "numbers" "[I") (List.mem_of_getElem? (i := 3) rfl)) (fun _ h9 => h9) rfl dX8_item_42 ?_
                refine lv_iload_n hx hb dX8_item_45 rfl (lv_at hl 2 rfl) ?_
                refine va_iald hx hb hK hP 0 0 rfl rfl (zf_in (by decide) (by decide)) dX8_item_46 ?_
                refine lv_topi (fun x_393 ex_393 => ?_)
                obtain rfl : x_393 = 1 := ex_393.trans ((congrArg gnu (show (9 : Int32).toNatClampNeg = 9 from by decide)).trans ((hnu 9 (by decide)).trans (by decide)))
                refine lv_icmp_ge (tgt := 149) hx hb dX8_item_47 (by decide) (fun c_394 => ?_) (fun c_394 => ?_)
                · refine lv_iload_n hx hb dX8_item_149 rfl (lv_at hl 2 rfl) ?_
                  refine lv_tableIn (tgt := 298) hx hb dX8_item_150 (by decide) (by decide) rfl (by decide) ?_
                  refine lv_aload_n hx hb dX8_item_298 rfl (lv_at hl 3 rfl) ?_
                  refine lv_aload_n hx hb dX8_item_299 rfl (lv_at hl 3 rfl) ?_
                  refine va_get (D := D) (ci := 8) (v := .ref mte) (C := RX8) (T := TX8) (N := 38) hx hb hts hi_X8_item_8 hown hK hP 9 rfl rfl 25 (by decide) (hts (.fieldLink RX8 72 "TheLiningsInItModel" "tell" "[I") (List.mem_of_getElem? (i := 7) rfl)) (fun _ h9 => h9) rfl dX8_item_300 ?_
                  refine lv_iconst (v := 0) hx hb dX8_item_303 (by decide) ?_
                  refine va_iald hx hb hK hP 7 0 rfl rfl (zf_in (by decide) (by decide)) dX8_item_304 ?_
                  refine lv_topi (fun x_395 ex_395 => ?_)
                  obtain rfl : q_384 = x_395 := (ex_395.trans (if_pos rfl)).symm
                  refine va_put (D := D) (ci := 8) (v := .int q_384) (ty := .int) (C := RX8) (T := TX8) (N := 38) hx hb hts hi_X8_item_8 tyX8 tyX8_ok nmX8 hown hK hP hD hS 9 rfl rfl 2 (by decide) (hts (.fieldLink RX8 122 "TheLiningsInItModel" "at" "I") (List.mem_of_getElem? (i := 12) rfl)) (fun _ h9 => h9) rfl (tyX8_ok 2 (Nat.le_of_ble_eq_true rfl)) rfl rfl (Nat.le_of_ble_eq_true rfl) dX8_item_305 (fun H locs hP hD hS => ?_)
                  have h9R := zRe (ws' := [(mnu, .inl (cI, 10, .inl gnu)), (mki, .inl (cI, 8, .inl gki)), (mpa, .inl (cI, 8, .inl gpa)), (mta, .inl (cI, 8, .inl gta)), (mla, .inl (cI, 40, .inl gla)), (msl, .inl (cI, 40, .inl gsl)), (mco, .inl (cI, 3, .inl gco)), (mte, .inl (cI, 3, .inl (upd gte (0 : Int32).toNatClampNeg q_384))), (mwo, .inl (cI, 64, .inl gwo)), (zMO m0 npu nte q_384 nde nto nse nhu nga nsd nfa mrf mki mpa mta mla msl mco mhe mso msi msh mce mca mwo mnu mte nba q_383 nen q_384 q_385 mwa mke mma mth mtr nra nik), (mce, .inl (cJ, 1280, .inr (.inl gce)))]) hP hD rfl
                  clear hP hD
                  obtain ⟨hP, hD⟩ := h9R
                  refine lv_goto (tgt := 324) hx hb dX8_item_308 (by decide) ?_
                  refine lv_iconst (v := 1) hx hb dX8_item_324 (by decide) ?_
                  have hI := zIn_a hn0 (by first | (right; decide) | (left; omega))
                  exact W.zret (v := 1) hx hb hr (by decide) (fun t ht hW => ⟨⟨1, (npu, nte, q_384, nde, nse, nhu, nga, gki, gpa, gta, gla, gsl, gco, (upd gte (0 : Int32).toNatClampNeg q_384), q_383, q_384, q_385), rfl, ⟨(show 0 ≤ npu.toInt ∧ npu.toInt ≤ 8 from ⟨hy0, hy1⟩), (show 4 ≤ nte.toInt ∧ nte.toInt ≤ 40 from ⟨hy2, hy3⟩), (show 0 ≤ q_384.toInt ∧ q_384.toInt ≤ 40 from ⟨by omega, by omega⟩), (show 0 ≤ nde.toInt ∧ nde.toInt ≤ 24 from ⟨hy6, hy7⟩), (show 0 ≤ nhu.toInt ∧ nhu.toInt ≤ 9 from ⟨hy8, hy9⟩), hp_gki, hp_gpa, hp_gta, hp_gla, hp_gsl, hp_gco, (show 0 ≤ q_383.toInt ∧ q_383.toInt ≤ 160 from hbq_383), (show npl.toInt ≤ q_383.toInt ∧ q_383.toInt ≤ nen.toInt from by exact ⟨by omega, by omega⟩), (show ((1 : Int32).toInt = 1 → (zItem (zMF gce nba.toInt) nen.toInt npl.toInt nte.toInt npu.toInt).1 = -1 ∧ q_383.toInt = (zItem (zMF gce nba.toInt) nen.toInt npl.toInt nte.toInt npu.toInt).2.1 ∧ nte.toInt = (zItem (zMF gce nba.toInt) nen.toInt npl.toInt nte.toInt npu.toInt).2.2.1 ∧ npu.toInt = (zItem (zMF gce nba.toInt) nen.toInt npl.toInt nte.toInt npu.toInt).2.2.2) ∧ ((1 : Int32).toInt = 0 → (zItem (zMF gce nba.toInt) nen.toInt npl.toInt nte.toInt npu.toInt).1 = q_385.toInt ∧ 0 ≤ q_385.toInt) from by (have k9 : (1 : Int32).toInt = 1 := (by decide); rw [zItem_w hW1 (by decide) hp8 rfl hI]; dsimp only; exact ⟨fun _ => ⟨rfl, by first | rfl | omega, by (show _ = (if (9 : Int) = 0 then _ else _); rw [if_neg (by decide)]), by (show _ = (if (9 : Int) = 3 then _ else _); rw [if_neg (by decide)])⟩, fun h => absurd h (by decide)⟩)), ⟨by decide, by decide⟩⟩, zRet ht hP hD [9, 8, 0, 10, 1, 2, 3, 4, 5, 6, 7] (by decide) rfl⟩, hS.F ht⟩) hS.2.2 dX8_item_325
                · exact absurd c_394 (by decide)
              · have fc_392 : r_389.toInt = 0 := zf_eq c_392 rfl (by decide)
                obtain ⟨hy1_0, hy2_0, hy3_0⟩ := hsr_381_2.1 (by omega)
                have hn0 : zN1 (zMF gce nba.toInt) nen.toInt (npl.toInt + ((zWds ((9 : Int)).toNat).length : Int)) (zLo 9 0) (zHi 9 0 nte.toInt) = ((q_7 : Int32).toInt, (q_383 : Int32).toInt, (q_384 : Int32).toInt) := zN1_yes (p1 := (q_7 : Int32).toInt) (lo2 := 0) (hi2 := (nte.toInt : Int)) ⟨hW2, hW3⟩ (by omega) hy1_0 hy2_0 (by decide) (by first | rfl | decide | (show nte.toInt - 1 = _; omega) | (show nte.toInt = _; omega)) (by omega)
                refine lv_aload_n hx hb dX8_item_127 rfl (lv_at hl 3 rfl) ?_
                refine lv_iload_n hx hb dX8_item_128 rfl (lv_at hl 0 rfl) ?_
                skip
                refine zw_V (As := [.int q_7]) (rest := []) (wr := [(mnu, .inl (cI, 10, .inl gnu)), (mki, .inl (cI, 8, .inl gki)), (mpa, .inl (cI, 8, .inl gpa)), (mta, .inl (cI, 8, .inl gta)), (mla, .inl (cI, 40, .inl gla)), (msl, .inl (cI, 40, .inl gsl)), (mco, .inl (cI, 3, .inl gco)), (mte, .inl (cI, 3, .inl gte)), (mwo, .inl (cI, 64, .inl gwo)), (mce, .inl (cJ, 1280, .inr (.inl gce)))]) ⟨hx, hb, hml, hown, hts⟩ (c_F_M_wrong l D cI cJ cZ cP cS po m0 mrf mki mpa mta mla msl mco mhe mso msi msh mce mca mwo mnu mte mwa mke mma mth mtr (npu) (nte) (nat_) (nde) (nto) (nse) (nhu) (nga) (nsd) (nfa) (nba) (q_383) (nen) (q_384) (q_385) (nra) (nik) (q_7) hy0 hy1 hy2 hy3 hy4 hy5 hy6 hy7 hy8 hy9 hy10 hy11 hy12 hy13 H.size) (cwV 1 hts gX8_item_X8_wrong rfl rfl rfl ⟨rfl, dh_X8_wrong⟩ ⟨Nat.le_of_ble_eq_true rfl, Nat.le_of_ble_eq_true rfl⟩) hK hN (hZ.kept hS) hP hD hS hA [9] [0, 1, 2, 3, 4, 5, 6, 7, 8, 10] rfl rfl (by decide) (by decide) (by decide) (va_recv (q := (RX8, TX8, 38)) hK hP (ci := 8) (q0 := 9) rfl rfl) rfl hl.1 rfl (Nat.le_of_ble_eq_true rfl) dX8_item_129 ⟨Nat.le_of_ble_eq_true rfl, Nat.le_of_ble_eq_true rfl⟩ (fun r_396 u_397 H locs hr_396 hP hD hS => ?_)
                obtain ⟨q_398, rfl⟩ : ∃ z, z = u_397 := ⟨_, rfl⟩
                obtain ⟨hsr_396_0, hr_396⟩ := hr_396
                have h9R := zRe (ws' := [(mnu, .inl (cI, 10, .inl gnu)), (mki, .inl (cI, 8, .inl gki)), (mpa, .inl (cI, 8, .inl gpa)), (mta, .inl (cI, 8, .inl gta)), (mla, .inl (cI, 40, .inl gla)), (msl, .inl (cI, 40, .inl gsl)), (mco, .inl (cI, 3, .inl gco)), (mte, .inl (cI, 3, .inl gte)), (mwo, .inl (cI, 64, .inl gwo)), (mce, .inl (cJ, 1280, .inr (.inl gce))), (zMO m0 npu nte nat_ nde nto nse nhu nga nsd nfa mrf mki mpa mta mla msl mco mhe mso msi msh mce mca mwo mnu mte nba q_383 nen q_384 q_398 mwa mke mma mth mtr nra nik)]) hP hD rfl
                clear hP hD
                obtain ⟨hP, hD⟩ := h9R
                obtain rfl := hr_396
                have hI := zIn_a hn0 (by first | (right; decide) | (left; omega))
                exact W.zret (v := 0) hx hb hr (by decide) (fun t ht hW => ⟨⟨0, (npu, nte, nat_, nde, nse, nhu, nga, gki, gpa, gta, gla, gsl, gco, gte, q_383, q_384, q_398), rfl, ⟨(show 0 ≤ npu.toInt ∧ npu.toInt ≤ 8 from ⟨hy0, hy1⟩), (show 4 ≤ nte.toInt ∧ nte.toInt ≤ 40 from ⟨hy2, hy3⟩), (show 0 ≤ nat_.toInt ∧ nat_.toInt ≤ 40 from ⟨hy4, hy5⟩), (show 0 ≤ nde.toInt ∧ nde.toInt ≤ 24 from ⟨hy6, hy7⟩), (show 0 ≤ nhu.toInt ∧ nhu.toInt ≤ 9 from ⟨hy8, hy9⟩), hp_gki, hp_gpa, hp_gta, hp_gla, hp_gsl, hp_gco, (show 0 ≤ q_383.toInt ∧ q_383.toInt ≤ 160 from hbq_383), (show npl.toInt ≤ q_383.toInt ∧ q_383.toInt ≤ nen.toInt from by exact ⟨by omega, by omega⟩), (show ((0 : Int32).toInt = 1 → (zItem (zMF gce nba.toInt) nen.toInt npl.toInt nte.toInt npu.toInt).1 = -1 ∧ q_383.toInt = (zItem (zMF gce nba.toInt) nen.toInt npl.toInt nte.toInt npu.toInt).2.1 ∧ nte.toInt = (zItem (zMF gce nba.toInt) nen.toInt npl.toInt nte.toInt npu.toInt).2.2.1 ∧ npu.toInt = (zItem (zMF gce nba.toInt) nen.toInt npl.toInt nte.toInt npu.toInt).2.2.2) ∧ ((0 : Int32).toInt = 0 → (zItem (zMF gce nba.toInt) nen.toInt npl.toInt nte.toInt npu.toInt).1 = q_398.toInt ∧ 0 ≤ q_398.toInt) from by (have k9 : (0 : Int32).toInt = 0 := (by decide); rw [zItem_w hW1 (by decide) hp8 rfl hI]; dsimp only; exact ⟨fun h => absurd h (by decide), fun _ => ⟨by first | rfl | (show _ = _; omega), by omega⟩⟩)), ⟨by decide, by decide⟩⟩, zRet ht hP hD [10, 8, 0, 9, 1, 2, 3, 4, 5, 6, 7] (by decide) rfl⟩, hS.F ht⟩) hS.2.2 dX8_item_132
            · have fc_388 : r_381.toInt = 0 := zf_eq c_388 rfl (by decide)
              have hn0 : zN1 (zMF gce nba.toInt) nen.toInt (npl.toInt + ((zWds ((9 : Int)).toNat).length : Int)) (zLo 9 0) (zHi 9 0 nte.toInt) = ((q_7 : Int32).toInt, (q_7 : Int32).toInt, 0) := zN1_yes (p1 := (q_7 : Int32).toInt) (lo2 := 0) (hi2 := (nte.toInt : Int)) ⟨hW2, hW3⟩ (by omega) (hsr_381_2.2 (by omega)).1.symm zNv_0.symm (by decide) (by first | rfl | decide | (show nte.toInt - 1 = _; omega) | (show nte.toInt = _; omega)) (Or.inl ⟨rfl, Or.inl rfl⟩)
              refine lv_iconst (v := 0) hx hb dX8_item_116 (by decide) ?_
              have hI := zIn_a hn0 (by first | (right; decide) | (left; omega))
              exact W.zret (v := 0) hx hb hr (by decide) (fun t ht hW => ⟨⟨0, (npu, nte, nat_, nde, nse, nhu, nga, gki, gpa, gta, gla, gsl, gco, gte, q_383, q_384, q_385), rfl, ⟨(show 0 ≤ npu.toInt ∧ npu.toInt ≤ 8 from ⟨hy0, hy1⟩), (show 4 ≤ nte.toInt ∧ nte.toInt ≤ 40 from ⟨hy2, hy3⟩), (show 0 ≤ nat_.toInt ∧ nat_.toInt ≤ 40 from ⟨hy4, hy5⟩), (show 0 ≤ nde.toInt ∧ nde.toInt ≤ 24 from ⟨hy6, hy7⟩), (show 0 ≤ nhu.toInt ∧ nhu.toInt ≤ 9 from ⟨hy8, hy9⟩), hp_gki, hp_gpa, hp_gta, hp_gla, hp_gsl, hp_gco, (show 0 ≤ q_383.toInt ∧ q_383.toInt ≤ 160 from hbq_383), (show npl.toInt ≤ q_383.toInt ∧ q_383.toInt ≤ nen.toInt from by exact ⟨by omega, by omega⟩), (show ((0 : Int32).toInt = 1 → (zItem (zMF gce nba.toInt) nen.toInt npl.toInt nte.toInt npu.toInt).1 = -1 ∧ q_383.toInt = (zItem (zMF gce nba.toInt) nen.toInt npl.toInt nte.toInt npu.toInt).2.1 ∧ nte.toInt = (zItem (zMF gce nba.toInt) nen.toInt npl.toInt nte.toInt npu.toInt).2.2.1 ∧ npu.toInt = (zItem (zMF gce nba.toInt) nen.toInt npl.toInt nte.toInt npu.toInt).2.2.2) ∧ ((0 : Int32).toInt = 0 → (zItem (zMF gce nba.toInt) nen.toInt npl.toInt nte.toInt npu.toInt).1 = q_385.toInt ∧ 0 ≤ q_385.toInt) from by (have k9 : (0 : Int32).toInt = 0 := (by decide); rw [zItem_w hW1 (by decide) hp8 rfl hI]; dsimp only; exact ⟨fun h => absurd h (by decide), fun _ => ⟨by first | rfl | (show _ = _; omega), by omega⟩⟩)), ⟨by decide, by decide⟩⟩, zRet ht hP hD [9, 8, 0, 10, 1, 2, 3, 4, 5, 6, 7] (by decide) rfl⟩, hS.F ht⟩) hS.2.2 dX8_item_117
          · exact absurd c_380 (by decide)
    · have fc_11 : r_5.toInt = (-1) := zf_eq c_11 rfl (by decide)
      refine lv_iconst (v := 0) hx hb dX8_item_36 (by decide) ?_
      exact W.zret (v := 0) hx hb hr (by decide) (fun t ht hW => ⟨⟨0, (npu, nte, nat_, nde, nse, nhu, nga, gki, gpa, gta, gla, gsl, gco, gte, q_7, nnu, q_8), rfl, ⟨(show 0 ≤ npu.toInt ∧ npu.toInt ≤ 8 from ⟨hy0, hy1⟩), (show 4 ≤ nte.toInt ∧ nte.toInt ≤ 40 from ⟨hy2, hy3⟩), (show 0 ≤ nat_.toInt ∧ nat_.toInt ≤ 40 from ⟨hy4, hy5⟩), (show 0 ≤ nde.toInt ∧ nde.toInt ≤ 24 from ⟨hy6, hy7⟩), (show 0 ≤ nhu.toInt ∧ nhu.toInt ≤ 9 from ⟨hy8, hy9⟩), hp_gki, hp_gpa, hp_gta, hp_gla, hp_gsl, hp_gco, (show 0 ≤ q_7.toInt ∧ q_7.toInt ≤ 160 from hbq_7), (show npl.toInt ≤ q_7.toInt ∧ q_7.toInt ≤ nen.toInt from by exact ⟨by omega, by omega⟩), (show ((0 : Int32).toInt = 1 → (zItem (zMF gce nba.toInt) nen.toInt npl.toInt nte.toInt npu.toInt).1 = -1 ∧ q_7.toInt = (zItem (zMF gce nba.toInt) nen.toInt npl.toInt nte.toInt npu.toInt).2.1 ∧ nte.toInt = (zItem (zMF gce nba.toInt) nen.toInt npl.toInt nte.toInt npu.toInt).2.2.1 ∧ npu.toInt = (zItem (zMF gce nba.toInt) nen.toInt npl.toInt nte.toInt npu.toInt).2.2.2) ∧ ((0 : Int32).toInt = 0 → (zItem (zMF gce nba.toInt) nen.toInt npl.toInt nte.toInt npu.toInt).1 = q_8.toInt ∧ 0 ≤ q_8.toInt) from by (have k9 : (0 : Int32).toInt = 0 := (by decide); have z := zItem_M (te := nte.toInt) (pu := npu.toInt) (w := (q_8 : Int32).toInt) (show zFst (zMF gce nba.toInt) nen.toInt npl.toInt zBls 10 = -1 from by omega) (by omega) (fun z => by (have h5 := (zPul_iff (by omega)).mp z.1; first | exact absurd h5 (hsr_1_0.1 (by omega)) | omega)) (by omega); exact ⟨fun h => absurd h (by decide), fun _ => ⟨z, by omega⟩⟩)), ⟨by decide, by decide⟩⟩, zRet ht hP hD [8, 9, 0, 10, 1, 2, 3, 4, 5, 6, 7] (by decide) rfl⟩, hS.F ht⟩) hS.2.2 dX8_item_37
  · have fc_4 : r_1.toInt ≠ 0 := zf_ne c_4 rfl (by decide)
    refine lv_aload_n hx hb dX8_item_8 rfl (lv_at hl 0 rfl) ?_
    refine va_get (D := D) (ci := 8) (v := .int npu) (C := RX8) (T := TX8) (N := 38) hx hb hts hi_X8_item_8 hown hK hP 0 rfl rfl 0 (by decide) (hts (.fieldLink RX8 90 "TheLiningsInItModel" "pulls" "I") (List.mem_of_getElem? (i := 1) rfl)) (fun _ h9 => h9) rfl dX8_item_9 ?_
    refine lv_bipush (v := 8) hx hb dX8_item_12 (by decide) ?_
    refine lv_icmp_ne (tgt := 26) hx hb dX8_item_14 (by decide) (fun c_399 => ?_) (fun c_399 => ?_)
    · have fc_399 : npu.toInt ≠ 8 := zf_ne c_399 rfl (by decide)
      refine lv_aload_n hx hb dX8_item_26 rfl (lv_at hl 0 rfl) ?_
      skip
      refine zw_V (As := []) (rest := []) (wr := [(mnu, .inl (cI, 10, .inl gnu)), (mki, .inl (cI, 8, .inl gki)), (mpa, .inl (cI, 8, .inl gpa)), (mta, .inl (cI, 8, .inl gta)), (mla, .inl (cI, 40, .inl gla)), (msl, .inl (cI, 40, .inl gsl)), (mco, .inl (cI, 3, .inl gco)), (mte, .inl (cI, 3, .inl gte))]) ⟨hx, hb, hml, hown, hts⟩ (c_F_M_word l D cI cJ cZ cP cS po m0 mrf mki mpa mta mla msl mco mhe mso msi msh mce mca mwo mnu mte mwa mke mma mth mtr (npu) (nte) (nat_) (nde) (nto) (nse) (nhu) (nga) (nsd) (nfa) (nba) (npl) (nen) (nnu) (nwr) (nra) (nik) gwo gce hy0 hy1 hy2 hy3 hy4 hy5 hy6 hy7 hy8 hy9 hy10 hy11 hy12 hy13 hy14 hy15 hy16 hy17 hy18 hy19 (by omega) hwo H.size) (cwV 0 hts gX8_item_X8_word rfl rfl rfl ⟨rfl, dh_X8_word⟩ ⟨Nat.le_of_ble_eq_true rfl, Nat.le_of_ble_eq_true rfl⟩) hK hN (hZ.kept hS) hP hD hS hA [0, 1, 3] [2, 4, 5, 6, 7, 8, 9, 10] rfl rfl (by decide) (by decide) (by decide) (va_recv (q := (RX8, TX8, 38)) hK hP (ci := 8) (q0 := 0) rfl rfl) rfl hl.1 rfl (Nat.le_of_ble_eq_true rfl) dX8_item_27 ⟨Nat.le_of_ble_eq_true rfl, Nat.le_of_ble_eq_true rfl⟩ (fun r_400 u_401 H locs hr_400 hP hD hS => ?_)
      obtain ⟨q_402, q_403⟩ := u_401
      try dsimp only at hr_400
      obtain ⟨hbq_402, hsr_400_0, hsr_400_1, hr_400⟩ := hr_400
      have h9R := zRe (ws' := [(mnu, .inl (cI, 10, .inl gnu)), (mki, .inl (cI, 8, .inl gki)), (mpa, .inl (cI, 8, .inl gpa)), (mta, .inl (cI, 8, .inl gta)), (mla, .inl (cI, 40, .inl gla)), (msl, .inl (cI, 40, .inl gsl)), (mco, .inl (cI, 3, .inl gco)), (mte, .inl (cI, 3, .inl gte)), (zMO m0 npu nte nat_ nde nto nse nhu nga nsd nfa mrf mki mpa mta mla msl mco mhe mso msi msh mce mca mwo mnu mte nba q_402 nen nnu q_403 mwa mke mma mth mtr nra nik), (mwo, .inl (cI, 64, .inl gwo)), (mce, .inl (cJ, 1280, .inr (.inl gce)))]) hP hD rfl
      clear hP hD
      obtain ⟨hP, hD⟩ := h9R
      obtain ⟨g_404, g_405⟩ := hr_400
      refine lv_istore_n (lv' := [(1, .int r_400), (0, .ref m0)]) hx hb dX8_item_30 rfl hl (by decide) rfl (fun ls hl => ?_)
      refine lv_iload_n hx hb dX8_item_31 rfl (lv_at hl 0 rfl) ?_
      refine lv_iconst (v := (-1)) hx hb dX8_item_32 (by decide) ?_
      refine lv_icmp_ne (tgt := 38) hx hb dX8_item_33 (by decide) (fun c_406 => ?_) (fun c_406 => ?_)
      · have fc_406 : r_400.toInt ≠ (-1) := zf_ne c_406 rfl (by decide)
        have hsp : r_400 = 0 ∨ r_400 = 1 ∨ r_400 = 2 ∨ r_400 = 3 ∨ r_400 = 4 ∨ r_400 = 5 ∨ r_400 = 6 ∨ r_400 = 7 ∨ r_400 = 8 ∨ r_400 = 9 := by
          rcases (show r_400.toInt = 0 ∨ r_400.toInt = 1 ∨ r_400.toInt = 2 ∨ r_400.toInt = 3 ∨ r_400.toInt = 4 ∨ r_400.toInt = 5 ∨ r_400.toInt = 6 ∨ r_400.toInt = 7 ∨ r_400.toInt = 8 ∨ r_400.toInt = 9 by omega) with h9 | h9 | h9 | h9 | h9 | h9 | h9 | h9 | h9 | h9
          · refine Or.inl ?_; exact zf_val h9 (by decide)
          · refine Or.inr (Or.inl ?_); exact zf_val h9 (by decide)
          · refine Or.inr (Or.inr (Or.inl ?_)); exact zf_val h9 (by decide)
          · refine Or.inr (Or.inr (Or.inr (Or.inl ?_))); exact zf_val h9 (by decide)
          · refine Or.inr (Or.inr (Or.inr (Or.inr (Or.inl ?_)))); exact zf_val h9 (by decide)
          · refine Or.inr (Or.inr (Or.inr (Or.inr (Or.inr (Or.inl ?_))))); exact zf_val h9 (by decide)
          · refine Or.inr (Or.inr (Or.inr (Or.inr (Or.inr (Or.inr (Or.inl ?_)))))); exact zf_val h9 (by decide)
          · refine Or.inr (Or.inr (Or.inr (Or.inr (Or.inr (Or.inr (Or.inr (Or.inl ?_))))))); exact zf_val h9 (by decide)
          · refine Or.inr (Or.inr (Or.inr (Or.inr (Or.inr (Or.inr (Or.inr (Or.inr (Or.inl ?_)))))))); exact zf_val h9 (by decide)
          · refine Or.inr (Or.inr (Or.inr (Or.inr (Or.inr (Or.inr (Or.inr (Or.inr (Or.inr (?_))))))))); exact zf_val h9 (by decide)
        rcases hsp with rfl | rfl | rfl | rfl | rfl | rfl | rfl | rfl | rfl | rfl
        · have kc0 : (0 : Int32).toInt = 0 := by decide
          have z9 := hsr_400_1
          rw [kc0] at z9
          obtain ⟨hW1, hW2, hW3, hW4⟩ := zItem_Mw (f := (zMF gce nba.toInt)) (e := nen.toInt) (p := npl.toInt) (w := 0) (by omega) (by decide)
          have hp8 : ¬ ((0 : Int) = 3 ∧ npu.toInt = 8) := fun z => absurd z.1 (by decide)
          refine lv_iconst (v := 0) hx hb dX8_item_38 (by decide) ?_
          refine lv_istore_n (lv' := [(2, .int 0), (1, .int 0), (0, .ref m0)]) hx hb dX8_item_39 rfl hl (by decide) rfl (fun ls hl => ?_)
          refine lv_iload_n hx hb dX8_item_40 rfl (lv_at hl 0 rfl) ?_
          refine lv_aload_n hx hb dX8_item_41 rfl (lv_at hl 2 rfl) ?_
          refine va_get (D := D) (ci := 8) (v := .ref mnu) (C := RX8) (T := TX8) (N := 38) hx hb hts hi_X8_item_8 hown hK hP 8 rfl rfl 24 (by decide) (hts (.fieldLink RX8 69 "TheLiningsInItModel" "numbers" "[I") (List.mem_of_getElem? (i := 3) rfl)) (fun _ h9 => h9) rfl dX8_item_42 ?_
          refine lv_iload_n hx hb dX8_item_45 rfl (lv_at hl 1 rfl) ?_
          refine va_iald hx hb hK hP 0 0 rfl rfl (zf_in (by decide) (by decide)) dX8_item_46 ?_
          refine lv_topi (fun x_407 ex_407 => ?_)
          obtain rfl : x_407 = 1 := ex_407.trans ((congrArg gnu (show (0 : Int32).toNatClampNeg = 0 from by decide)).trans ((hnu 0 (by decide)).trans (by decide)))
          refine lv_icmp_ge (tgt := 149) hx hb dX8_item_47 (by decide) (fun c_408 => ?_) (fun c_408 => ?_)
          · exact absurd c_408 (by decide)
          · refine lv_iload_n hx hb dX8_item_50 rfl (lv_at hl 0 rfl) ?_
            refine lv_if_le (tgt := 104) hx hb dX8_item_51 (by decide) (fun c_409 => ?_) (fun c_409 => ?_)
            · refine lv_aload_n hx hb dX8_item_104 rfl (lv_at hl 2 rfl) ?_
              refine va_get (D := D) (ci := 8) (v := .int q_402) (C := RX8) (T := TX8) (N := 38) hx hb hts hi_X8_item_8 hown hK hP 8 rfl rfl 27 (by decide) (hts (.fieldLink RX8 152 "TheLiningsInItModel" "place" "I") (List.mem_of_getElem? (i := 2) rfl)) (fun _ h9 => h9) rfl dX8_item_105 ?_
              refine lv_istore_n (lv' := [(3, .int q_402), (2, .int 0), (1, .int 0), (0, .ref m0)]) hx hb dX8_item_108 rfl hl (by decide) rfl (fun ls hl => ?_)
              refine lv_aload_n hx hb dX8_item_109 rfl (lv_at hl 3 rfl) ?_
              skip
              refine zw_V (As := []) (rest := []) (wr := [(mnu, .inl (cI, 10, .inl gnu)), (mki, .inl (cI, 8, .inl gki)), (mpa, .inl (cI, 8, .inl gpa)), (mta, .inl (cI, 8, .inl gta)), (mla, .inl (cI, 40, .inl gla)), (msl, .inl (cI, 40, .inl gsl)), (mco, .inl (cI, 3, .inl gco)), (mte, .inl (cI, 3, .inl gte)), (mwo, .inl (cI, 64, .inl gwo))]) ⟨hx, hb, hml, hown, hts⟩ (c_F_M_reads l D cI cJ cZ cP cS po m0 mrf mki mpa mta mla msl mco mhe mso msi msh mce mca mwo mnu mte mwa mke mma mth mtr (npu) (nte) (nat_) (nde) (nto) (nse) (nhu) (nga) (nsd) (nfa) (nba) (q_402) (nen) (nnu) (q_403) (nra) (nik) gce hy0 hy1 hy2 hy3 hy4 hy5 hy6 hy7 hy8 hy9 hy10 hy11 hy12 hy13 hy14 hy15 hbq_402.1 hbq_402.2 hy18 hy19 (by omega) H.size) (cwV 0 hts gX8_item_X8_reads rfl rfl rfl ⟨rfl, dh_X8_reads⟩ ⟨Nat.le_of_ble_eq_true rfl, Nat.le_of_ble_eq_true rfl⟩) hK hN (hZ.kept hS) hP hD hS hA [8, 10] [0, 1, 2, 3, 4, 5, 6, 7, 9] rfl rfl (by decide) (by decide) (by decide) (va_recv (q := (RX8, TX8, 38)) hK hP (ci := 8) (q0 := 8) rfl rfl) rfl hl.1 rfl (Nat.le_of_ble_eq_true rfl) dX8_item_110 ⟨Nat.le_of_ble_eq_true rfl, Nat.le_of_ble_eq_true rfl⟩ (fun r_410 u_411 H locs hr_410 hP hD hS => ?_)
              obtain ⟨q_412, q_413, q_414⟩ := u_411
              try dsimp only at hr_410
              obtain ⟨hbq_412, hsr_410_0, hsr_410_1, hsr_410_2, hr_410⟩ := hr_410
              have h9R := zRe (ws' := [(mnu, .inl (cI, 10, .inl gnu)), (mki, .inl (cI, 8, .inl gki)), (mpa, .inl (cI, 8, .inl gpa)), (mta, .inl (cI, 8, .inl gta)), (mla, .inl (cI, 40, .inl gla)), (msl, .inl (cI, 40, .inl gsl)), (mco, .inl (cI, 3, .inl gco)), (mte, .inl (cI, 3, .inl gte)), (mwo, .inl (cI, 64, .inl gwo)), (zMO m0 npu nte nat_ nde nto nse nhu nga nsd nfa mrf mki mpa mta mla msl mco mhe mso msi msh mce mca mwo mnu mte nba q_412 nen q_413 q_414 mwa mke mma mth mtr nra nik), (mce, .inl (cJ, 1280, .inr (.inl gce)))]) hP hD rfl
              clear hP hD
              obtain ⟨hP, hD⟩ := h9R
              obtain ⟨g_415, g_416⟩ := hr_410
              refine lv_if_ne (tgt := 118) hx hb dX8_item_113 (by decide) (fun c_417 => ?_) (fun c_417 => ?_)
              · have fc_417 : r_410.toInt ≠ 0 := zf_ne c_417 rfl (by decide)
                refine lv_aload_n hx hb dX8_item_118 rfl (lv_at hl 3 rfl) ?_
                refine lv_iload_n hx hb dX8_item_119 rfl (lv_at hl 2 rfl) ?_
                refine lv_iload_n hx hb dX8_item_120 rfl (lv_at hl 1 rfl) ?_
                refine zc_V (As := [.int 0, .int 0]) (rest := []) ⟨hx, hb, hml, hown, hts⟩ (c_F_M_isSo_0_0 l D cI cJ cZ cP cS po m0 mrf mki mpa mta mla msl mco mhe mso msi msh mce mca mwo mnu mte mwa mke mma mth mtr (npu) (nte) (nat_) (nde) (nto) (nse) (nhu) (nga) (nsd) (nfa) (nba) (q_412) (nen) (q_413) (q_414) (nra) (nik) hy0 hy1 hy2 hy3 hy4 hy5 hy6 hy7 hy8 hy9 hy10 hy11 hy12 hy13 (by omega) (by omega)) (cwV 2 hts gX8_item_X8_isSo rfl rfl rfl ⟨rfl, dh_X8_isSo⟩ ⟨Nat.le_of_ble_eq_true rfl, Nat.le_of_ble_eq_true rfl⟩) hK hN (hZ.kept hS) hP (hP.sub [9] rfl) (va_recv (q := (RX8, TX8, 38)) hK hP (ci := 8) (q0 := 9) rfl rfl) rfl hl.1 rfl (Nat.le_of_ble_eq_true rfl) dX8_item_121 ⟨Nat.le_of_ble_eq_true rfl, Nat.le_of_ble_eq_true rfl⟩ (fun r_418 hr_418 => ?_)
                obtain ⟨g_419, g_420, hsr_418_0⟩ := hr_418
                refine lv_if_ne (tgt := 133) hx hb dX8_item_124 (by decide) (fun c_421 => ?_) (fun c_421 => ?_)
                · have fc_421 : r_418.toInt ≠ 0 := zf_ne c_421 rfl (by decide)
                  obtain ⟨hy1_0, hy2_0, hy3_0⟩ := hsr_410_2.1 (by omega)
                  have hn0 : zN1 (zMF gce nba.toInt) nen.toInt (npl.toInt + ((zWds ((0 : Int)).toNat).length : Int)) (zLo 0 0) (zHi 0 0 nte.toInt) = (-1, (q_412 : Int32).toInt, (q_413 : Int32).toInt) := zN1_yes (p1 := (q_402 : Int32).toInt) (lo2 := 4) (hi2 := (40 : Int)) ⟨hW2, hW3⟩ (by omega) hy1_0 hy2_0 (by decide) (by first | rfl | decide | (show nte.toInt - 1 = _; omega) | (show nte.toInt = _; omega)) (by omega)
                  refine lv_aload_n hx hb dX8_item_133 rfl (lv_at hl 3 rfl) ?_
                  refine va_get (D := D) (ci := 8) (v := .ref mte) (C := RX8) (T := TX8) (N := 38) hx hb hts hi_X8_item_8 hown hK hP 9 rfl rfl 25 (by decide) (hts (.fieldLink RX8 72 "TheLiningsInItModel" "tell" "[I") (List.mem_of_getElem? (i := 7) rfl)) (fun _ h9 => h9) rfl dX8_item_134 ?_
                  refine lv_iload_n hx hb dX8_item_137 rfl (lv_at hl 1 rfl) ?_
                  refine lv_aload_n hx hb dX8_item_138 rfl (lv_at hl 3 rfl) ?_
                  refine va_get (D := D) (ci := 8) (v := .int q_413) (C := RX8) (T := TX8) (N := 38) hx hb hts hi_X8_item_8 hown hK hP 9 rfl rfl 29 (by decide) (hts (.fieldLink RX8 161 "TheLiningsInItModel" "number" "I") (List.mem_of_getElem? (i := 8) rfl)) (fun _ h9 => h9) rfl dX8_item_139 ?_
                  refine va_iast hx hb hK hP hD hS 7 0 rfl rfl (zf_in (by decide) (by decide)) dX8_item_142 (fun H locs hP hD hS => ?_)
                  have h9R := zRe (ws' := [(mnu, .inl (cI, 10, .inl gnu)), (mki, .inl (cI, 8, .inl gki)), (mpa, .inl (cI, 8, .inl gpa)), (mta, .inl (cI, 8, .inl gta)), (mla, .inl (cI, 40, .inl gla)), (msl, .inl (cI, 40, .inl gsl)), (mco, .inl (cI, 3, .inl gco)), (mte, .inl (cI, 3, .inl (upd gte (0 : Int32).toNatClampNeg q_413))), (mwo, .inl (cI, 64, .inl gwo)), (zMO m0 npu nte nat_ nde nto nse nhu nga nsd nfa mrf mki mpa mta mla msl mco mhe mso msi msh mce mca mwo mnu mte nba q_412 nen q_413 q_414 mwa mke mma mth mtr nra nik), (mce, .inl (cJ, 1280, .inr (.inl gce)))]) hP hD rfl
                  clear hP hD
                  obtain ⟨hP, hD⟩ := h9R
                  refine lv_iinc (v := 1) (lv' := [(2, .int 1), (3, .int q_402), (1, .int 0), (0, .ref m0)]) hx hb dX8_item_143 hl (k := 1) rfl (by decide) (by decide) rfl (fun ls hl => ?_)
                  refine lv_goto (tgt := 40) hx hb dX8_item_146 (by decide) ?_
                  refine lv_iload_n hx hb dX8_item_40 rfl (lv_at hl 0 rfl) ?_
                  refine lv_aload_n hx hb dX8_item_41 rfl (lv_at hl 3 rfl) ?_
                  refine va_get (D := D) (ci := 8) (v := .ref mnu) (C := RX8) (T := TX8) (N := 38) hx hb hts hi_X8_item_8 hown hK hP 9 rfl rfl 24 (by decide) (hts (.fieldLink RX8 69 "TheLiningsInItModel" "numbers" "[I") (List.mem_of_getElem? (i := 3) rfl)) (fun _ h9 => h9) rfl dX8_item_42 ?_
                  refine lv_iload_n hx hb dX8_item_45 rfl (lv_at hl 2 rfl) ?_
                  refine va_iald hx hb hK hP 0 0 rfl rfl (zf_in (by decide) (by decide)) dX8_item_46 ?_
                  refine lv_topi (fun x_422 ex_422 => ?_)
                  obtain rfl : x_422 = 1 := ex_422.trans ((congrArg gnu (show (0 : Int32).toNatClampNeg = 0 from by decide)).trans ((hnu 0 (by decide)).trans (by decide)))
                  refine lv_icmp_ge (tgt := 149) hx hb dX8_item_47 (by decide) (fun c_423 => ?_) (fun c_423 => ?_)
                  · refine lv_iload_n hx hb dX8_item_149 rfl (lv_at hl 2 rfl) ?_
                    refine lv_tableIn (tgt := 204) hx hb dX8_item_150 (by decide) (by decide) rfl (by decide) ?_
                    refine lv_aload_n hx hb dX8_item_204 rfl (lv_at hl 3 rfl) ?_
                    refine lv_aload_n hx hb dX8_item_205 rfl (lv_at hl 3 rfl) ?_
                    refine va_get (D := D) (ci := 8) (v := .ref mte) (C := RX8) (T := TX8) (N := 38) hx hb hts hi_X8_item_8 hown hK hP 9 rfl rfl 25 (by decide) (hts (.fieldLink RX8 72 "TheLiningsInItModel" "tell" "[I") (List.mem_of_getElem? (i := 7) rfl)) (fun _ h9 => h9) rfl dX8_item_206 ?_
                    refine lv_iconst (v := 0) hx hb dX8_item_209 (by decide) ?_
                    refine va_iald hx hb hK hP 7 0 rfl rfl (zf_in (by decide) (by decide)) dX8_item_210 ?_
                    refine lv_topi (fun x_424 ex_424 => ?_)
                    obtain rfl : q_413 = x_424 := (ex_424.trans (if_pos rfl)).symm
                    skip
                    refine zw_Vv (As := [.int q_413]) (rest := []) (wr := [(mnu, .inl (cI, 10, .inl gnu)), (mki, .inl (cI, 8, .inl gki)), (mpa, .inl (cI, 8, .inl gpa)), (mta, .inl (cI, 8, .inl gta)), (mco, .inl (cI, 3, .inl gco)), (mte, .inl (cI, 3, .inl (upd gte (0 : Int32).toNatClampNeg q_413))), (mwo, .inl (cI, 64, .inl gwo)), (mce, .inl (cJ, 1280, .inr (.inl gce)))]) ⟨hx, hb, hml, hown, hts⟩ (c_F_M_sews l D cI cJ cZ cP cS po m0 mrf mki mpa mta mla msl mco mhe mso msi msh mce mca mwo mnu mte mwa mke mma mth mtr (npu) (nte) (nat_) (nde) (nto) (nse) (nhu) (nga) (nsd) (nfa) (nba) (q_412) (nen) (q_413) (q_414) (nra) (nik) gla gsl (q_413) hy0 hy1 hy2 hy3 hy4 hy5 hy6 hy7 hy8 hy9 hy10 hy11 hy12 hy13 (by omega) (by omega) hp_gla hp_gsl H.size) (cwV 1 hts gX8_item_X8_sews rfl rfl rfl ⟨rfl, dh_X8_sews⟩ ⟨Nat.le_of_ble_eq_true rfl, Nat.le_of_ble_eq_true rfl⟩) hK hN (hZ.kept hS) hP hD hS hA [9, 4, 5] [0, 1, 2, 3, 6, 7, 8, 10] rfl rfl (by decide) (by decide) (by decide) (va_recv (q := (RX8, TX8, 38)) hK hP (ci := 8) (q0 := 9) rfl rfl) rfl hl.1 rfl (Nat.le_of_ble_eq_true rfl) dX8_item_211 ⟨Nat.le_of_ble_eq_true rfl, Nat.le_of_ble_eq_true rfl⟩ (fun u_426 H locs hr_425 hP hD hS => ?_)
                    obtain ⟨q_427, q_428, q_429, q_430⟩ := u_426
                    try dsimp only at hr_425
                    obtain ⟨hbq_427, hbq_428, hpq_429, hpq_430, hsr_425_0, hr_425⟩ := hr_425
                    have h9R := zRe (ws' := [(mnu, .inl (cI, 10, .inl gnu)), (mki, .inl (cI, 8, .inl gki)), (mpa, .inl (cI, 8, .inl gpa)), (mta, .inl (cI, 8, .inl gta)), (mco, .inl (cI, 3, .inl gco)), (mte, .inl (cI, 3, .inl (upd gte (0 : Int32).toNatClampNeg q_413))), (mwo, .inl (cI, 64, .inl gwo)), (mce, .inl (cJ, 1280, .inr (.inl gce))), (zMO m0 npu q_427 q_428 nde nto nse nhu nga nsd nfa mrf mki mpa mta mla msl mco mhe mso msi msh mce mca mwo mnu mte nba q_412 nen q_413 q_414 mwa mke mma mth mtr nra nik), (mla, .inl (cI, 40, .inl q_429)), (msl, .inl (cI, 40, .inl q_430))]) hP hD rfl
                    clear hP hD
                    obtain ⟨hP, hD⟩ := h9R
                    refine lv_goto (tgt := 324) hx hb dX8_item_214 (by decide) ?_
                    refine lv_iconst (v := 1) hx hb dX8_item_324 (by decide) ?_
                    have hI := zIn_a hn0 (by first | (right; decide) | (left; omega))
                    exact W.zret (v := 1) hx hb hr (by decide) (fun t ht hW => ⟨⟨1, (npu, q_427, q_428, nde, nse, nhu, nga, gki, gpa, gta, q_429, q_430, gco, (upd gte (0 : Int32).toNatClampNeg q_413), q_412, q_413, q_414), rfl, ⟨(show 0 ≤ npu.toInt ∧ npu.toInt ≤ 8 from ⟨hy0, hy1⟩), (show 4 ≤ q_427.toInt ∧ q_427.toInt ≤ 40 from hbq_427), (show 0 ≤ q_428.toInt ∧ q_428.toInt ≤ 40 from hbq_428), (show 0 ≤ nde.toInt ∧ nde.toInt ≤ 24 from ⟨hy6, hy7⟩), (show 0 ≤ nhu.toInt ∧ nhu.toInt ≤ 9 from ⟨hy8, hy9⟩), hp_gki, hp_gpa, hp_gta, hpq_429, hpq_430, hp_gco, (show 0 ≤ q_412.toInt ∧ q_412.toInt ≤ 160 from hbq_412), (show npl.toInt ≤ q_412.toInt ∧ q_412.toInt ≤ nen.toInt from by exact ⟨by omega, by omega⟩), (show ((1 : Int32).toInt = 1 → (zItem (zMF gce nba.toInt) nen.toInt npl.toInt nte.toInt npu.toInt).1 = -1 ∧ q_412.toInt = (zItem (zMF gce nba.toInt) nen.toInt npl.toInt nte.toInt npu.toInt).2.1 ∧ q_427.toInt = (zItem (zMF gce nba.toInt) nen.toInt npl.toInt nte.toInt npu.toInt).2.2.1 ∧ npu.toInt = (zItem (zMF gce nba.toInt) nen.toInt npl.toInt nte.toInt npu.toInt).2.2.2) ∧ ((1 : Int32).toInt = 0 → (zItem (zMF gce nba.toInt) nen.toInt npl.toInt nte.toInt npu.toInt).1 = q_414.toInt ∧ 0 ≤ q_414.toInt) from by (have k9 : (1 : Int32).toInt = 1 := (by decide); rw [zItem_w hW1 (by decide) hp8 rfl hI]; dsimp only; exact ⟨fun _ => ⟨rfl, by first | rfl | omega, by (show _ = (if (0 : Int) = 0 then _ else _); rw [if_pos rfl]; exact congrArg Int32.toInt hsr_425_0), by (show _ = (if (0 : Int) = 3 then _ else _); rw [if_neg (by decide)])⟩, fun h => absurd h (by decide)⟩)), ⟨by decide, by decide⟩⟩, zRet ht hP hD [8, 6, 0, 7, 1, 2, 3, 9, 10, 4, 5] (by decide) rfl⟩, hS.F ht⟩) hS.2.2 dX8_item_325
                  · exact absurd c_423 (by decide)
                · have fc_421 : r_418.toInt = 0 := zf_eq c_421 rfl (by decide)
                  obtain ⟨hy1_0, hy2_0, hy3_0⟩ := hsr_410_2.1 (by omega)
                  have hn0 : zN1 (zMF gce nba.toInt) nen.toInt (npl.toInt + ((zWds ((0 : Int)).toNat).length : Int)) (zLo 0 0) (zHi 0 0 nte.toInt) = ((q_402 : Int32).toInt, (q_412 : Int32).toInt, (q_413 : Int32).toInt) := zN1_yes (p1 := (q_402 : Int32).toInt) (lo2 := 4) (hi2 := (40 : Int)) ⟨hW2, hW3⟩ (by omega) hy1_0 hy2_0 (by decide) (by first | rfl | decide | (show nte.toInt - 1 = _; omega) | (show nte.toInt = _; omega)) (by omega)
                  refine lv_aload_n hx hb dX8_item_127 rfl (lv_at hl 3 rfl) ?_
                  refine lv_iload_n hx hb dX8_item_128 rfl (lv_at hl 0 rfl) ?_
                  skip
                  refine zw_V (As := [.int q_402]) (rest := []) (wr := [(mnu, .inl (cI, 10, .inl gnu)), (mki, .inl (cI, 8, .inl gki)), (mpa, .inl (cI, 8, .inl gpa)), (mta, .inl (cI, 8, .inl gta)), (mla, .inl (cI, 40, .inl gla)), (msl, .inl (cI, 40, .inl gsl)), (mco, .inl (cI, 3, .inl gco)), (mte, .inl (cI, 3, .inl gte)), (mwo, .inl (cI, 64, .inl gwo)), (mce, .inl (cJ, 1280, .inr (.inl gce)))]) ⟨hx, hb, hml, hown, hts⟩ (c_F_M_wrong l D cI cJ cZ cP cS po m0 mrf mki mpa mta mla msl mco mhe mso msi msh mce mca mwo mnu mte mwa mke mma mth mtr (npu) (nte) (nat_) (nde) (nto) (nse) (nhu) (nga) (nsd) (nfa) (nba) (q_412) (nen) (q_413) (q_414) (nra) (nik) (q_402) hy0 hy1 hy2 hy3 hy4 hy5 hy6 hy7 hy8 hy9 hy10 hy11 hy12 hy13 H.size) (cwV 1 hts gX8_item_X8_wrong rfl rfl rfl ⟨rfl, dh_X8_wrong⟩ ⟨Nat.le_of_ble_eq_true rfl, Nat.le_of_ble_eq_true rfl⟩) hK hN (hZ.kept hS) hP hD hS hA [9] [0, 1, 2, 3, 4, 5, 6, 7, 8, 10] rfl rfl (by decide) (by decide) (by decide) (va_recv (q := (RX8, TX8, 38)) hK hP (ci := 8) (q0 := 9) rfl rfl) rfl hl.1 rfl (Nat.le_of_ble_eq_true rfl) dX8_item_129 ⟨Nat.le_of_ble_eq_true rfl, Nat.le_of_ble_eq_true rfl⟩ (fun r_431 u_432 H locs hr_431 hP hD hS => ?_)
                  obtain ⟨q_433, rfl⟩ : ∃ z, z = u_432 := ⟨_, rfl⟩
                  obtain ⟨hsr_431_0, hr_431⟩ := hr_431
                  have h9R := zRe (ws' := [(mnu, .inl (cI, 10, .inl gnu)), (mki, .inl (cI, 8, .inl gki)), (mpa, .inl (cI, 8, .inl gpa)), (mta, .inl (cI, 8, .inl gta)), (mla, .inl (cI, 40, .inl gla)), (msl, .inl (cI, 40, .inl gsl)), (mco, .inl (cI, 3, .inl gco)), (mte, .inl (cI, 3, .inl gte)), (mwo, .inl (cI, 64, .inl gwo)), (mce, .inl (cJ, 1280, .inr (.inl gce))), (zMO m0 npu nte nat_ nde nto nse nhu nga nsd nfa mrf mki mpa mta mla msl mco mhe mso msi msh mce mca mwo mnu mte nba q_412 nen q_413 q_433 mwa mke mma mth mtr nra nik)]) hP hD rfl
                  clear hP hD
                  obtain ⟨hP, hD⟩ := h9R
                  obtain rfl := hr_431
                  have hI := zIn_a hn0 (by first | (right; decide) | (left; omega))
                  exact W.zret (v := 0) hx hb hr (by decide) (fun t ht hW => ⟨⟨0, (npu, nte, nat_, nde, nse, nhu, nga, gki, gpa, gta, gla, gsl, gco, gte, q_412, q_413, q_433), rfl, ⟨(show 0 ≤ npu.toInt ∧ npu.toInt ≤ 8 from ⟨hy0, hy1⟩), (show 4 ≤ nte.toInt ∧ nte.toInt ≤ 40 from ⟨hy2, hy3⟩), (show 0 ≤ nat_.toInt ∧ nat_.toInt ≤ 40 from ⟨hy4, hy5⟩), (show 0 ≤ nde.toInt ∧ nde.toInt ≤ 24 from ⟨hy6, hy7⟩), (show 0 ≤ nhu.toInt ∧ nhu.toInt ≤ 9 from ⟨hy8, hy9⟩), hp_gki, hp_gpa, hp_gta, hp_gla, hp_gsl, hp_gco, (show 0 ≤ q_412.toInt ∧ q_412.toInt ≤ 160 from hbq_412), (show npl.toInt ≤ q_412.toInt ∧ q_412.toInt ≤ nen.toInt from by exact ⟨by omega, by omega⟩), (show ((0 : Int32).toInt = 1 → (zItem (zMF gce nba.toInt) nen.toInt npl.toInt nte.toInt npu.toInt).1 = -1 ∧ q_412.toInt = (zItem (zMF gce nba.toInt) nen.toInt npl.toInt nte.toInt npu.toInt).2.1 ∧ nte.toInt = (zItem (zMF gce nba.toInt) nen.toInt npl.toInt nte.toInt npu.toInt).2.2.1 ∧ npu.toInt = (zItem (zMF gce nba.toInt) nen.toInt npl.toInt nte.toInt npu.toInt).2.2.2) ∧ ((0 : Int32).toInt = 0 → (zItem (zMF gce nba.toInt) nen.toInt npl.toInt nte.toInt npu.toInt).1 = q_433.toInt ∧ 0 ≤ q_433.toInt) from by (have k9 : (0 : Int32).toInt = 0 := (by decide); rw [zItem_w hW1 (by decide) hp8 rfl hI]; dsimp only; exact ⟨fun h => absurd h (by decide), fun _ => ⟨by first | rfl | (show _ = _; omega), by omega⟩⟩)), ⟨by decide, by decide⟩⟩, zRet ht hP hD [10, 8, 0, 9, 1, 2, 3, 4, 5, 6, 7] (by decide) rfl⟩, hS.F ht⟩) hS.2.2 dX8_item_132
              · have fc_417 : r_410.toInt = 0 := zf_eq c_417 rfl (by decide)
                have hn0 : zN1 (zMF gce nba.toInt) nen.toInt (npl.toInt + ((zWds ((0 : Int)).toNat).length : Int)) (zLo 0 0) (zHi 0 0 nte.toInt) = ((q_402 : Int32).toInt, (q_402 : Int32).toInt, 0) := zN1_yes (p1 := (q_402 : Int32).toInt) (lo2 := 4) (hi2 := (40 : Int)) ⟨hW2, hW3⟩ (by omega) (hsr_410_2.2 (by omega)).1.symm zNv_0.symm (by decide) (by first | rfl | decide | (show nte.toInt - 1 = _; omega) | (show nte.toInt = _; omega)) (Or.inl ⟨rfl, Or.inl rfl⟩)
                refine lv_iconst (v := 0) hx hb dX8_item_116 (by decide) ?_
                have hI := zIn_a hn0 (by first | (right; decide) | (left; omega))
                exact W.zret (v := 0) hx hb hr (by decide) (fun t ht hW => ⟨⟨0, (npu, nte, nat_, nde, nse, nhu, nga, gki, gpa, gta, gla, gsl, gco, gte, q_412, q_413, q_414), rfl, ⟨(show 0 ≤ npu.toInt ∧ npu.toInt ≤ 8 from ⟨hy0, hy1⟩), (show 4 ≤ nte.toInt ∧ nte.toInt ≤ 40 from ⟨hy2, hy3⟩), (show 0 ≤ nat_.toInt ∧ nat_.toInt ≤ 40 from ⟨hy4, hy5⟩), (show 0 ≤ nde.toInt ∧ nde.toInt ≤ 24 from ⟨hy6, hy7⟩), (show 0 ≤ nhu.toInt ∧ nhu.toInt ≤ 9 from ⟨hy8, hy9⟩), hp_gki, hp_gpa, hp_gta, hp_gla, hp_gsl, hp_gco, (show 0 ≤ q_412.toInt ∧ q_412.toInt ≤ 160 from hbq_412), (show npl.toInt ≤ q_412.toInt ∧ q_412.toInt ≤ nen.toInt from by exact ⟨by omega, by omega⟩), (show ((0 : Int32).toInt = 1 → (zItem (zMF gce nba.toInt) nen.toInt npl.toInt nte.toInt npu.toInt).1 = -1 ∧ q_412.toInt = (zItem (zMF gce nba.toInt) nen.toInt npl.toInt nte.toInt npu.toInt).2.1 ∧ nte.toInt = (zItem (zMF gce nba.toInt) nen.toInt npl.toInt nte.toInt npu.toInt).2.2.1 ∧ npu.toInt = (zItem (zMF gce nba.toInt) nen.toInt npl.toInt nte.toInt npu.toInt).2.2.2) ∧ ((0 : Int32).toInt = 0 → (zItem (zMF gce nba.toInt) nen.toInt npl.toInt nte.toInt npu.toInt).1 = q_414.toInt ∧ 0 ≤ q_414.toInt) from by (have k9 : (0 : Int32).toInt = 0 := (by decide); rw [zItem_w hW1 (by decide) hp8 rfl hI]; dsimp only; exact ⟨fun h => absurd h (by decide), fun _ => ⟨by first | rfl | (show _ = _; omega), by omega⟩⟩)), ⟨by decide, by decide⟩⟩, zRet ht hP hD [9, 8, 0, 10, 1, 2, 3, 4, 5, 6, 7] (by decide) rfl⟩, hS.F ht⟩) hS.2.2 dX8_item_117
            · exact absurd c_409 (by decide)
        · have kc1 : (1 : Int32).toInt = 1 := by decide
          have z9 := hsr_400_1
          rw [kc1] at z9
          obtain ⟨hW1, hW2, hW3, hW4⟩ := zItem_Mw (f := (zMF gce nba.toInt)) (e := nen.toInt) (p := npl.toInt) (w := 1) (by omega) (by decide)
          have hp8 : ¬ ((1 : Int) = 3 ∧ npu.toInt = 8) := fun z => absurd z.1 (by decide)
          refine lv_iconst (v := 0) hx hb dX8_item_38 (by decide) ?_
          refine lv_istore_n (lv' := [(2, .int 0), (1, .int 1), (0, .ref m0)]) hx hb dX8_item_39 rfl hl (by decide) rfl (fun ls hl => ?_)
          refine lv_iload_n hx hb dX8_item_40 rfl (lv_at hl 0 rfl) ?_
          refine lv_aload_n hx hb dX8_item_41 rfl (lv_at hl 2 rfl) ?_
          refine va_get (D := D) (ci := 8) (v := .ref mnu) (C := RX8) (T := TX8) (N := 38) hx hb hts hi_X8_item_8 hown hK hP 8 rfl rfl 24 (by decide) (hts (.fieldLink RX8 69 "TheLiningsInItModel" "numbers" "[I") (List.mem_of_getElem? (i := 3) rfl)) (fun _ h9 => h9) rfl dX8_item_42 ?_
          refine lv_iload_n hx hb dX8_item_45 rfl (lv_at hl 1 rfl) ?_
          refine va_iald hx hb hK hP 0 0 rfl rfl (zf_in (by decide) (by decide)) dX8_item_46 ?_
          refine lv_topi (fun x_434 ex_434 => ?_)
          obtain rfl : x_434 = 1 := ex_434.trans ((congrArg gnu (show (1 : Int32).toNatClampNeg = 1 from by decide)).trans ((hnu 1 (by decide)).trans (by decide)))
          refine lv_icmp_ge (tgt := 149) hx hb dX8_item_47 (by decide) (fun c_435 => ?_) (fun c_435 => ?_)
          · exact absurd c_435 (by decide)
          · refine lv_iload_n hx hb dX8_item_50 rfl (lv_at hl 0 rfl) ?_
            refine lv_if_le (tgt := 104) hx hb dX8_item_51 (by decide) (fun c_436 => ?_) (fun c_436 => ?_)
            · refine lv_aload_n hx hb dX8_item_104 rfl (lv_at hl 2 rfl) ?_
              refine va_get (D := D) (ci := 8) (v := .int q_402) (C := RX8) (T := TX8) (N := 38) hx hb hts hi_X8_item_8 hown hK hP 8 rfl rfl 27 (by decide) (hts (.fieldLink RX8 152 "TheLiningsInItModel" "place" "I") (List.mem_of_getElem? (i := 2) rfl)) (fun _ h9 => h9) rfl dX8_item_105 ?_
              refine lv_istore_n (lv' := [(3, .int q_402), (2, .int 0), (1, .int 1), (0, .ref m0)]) hx hb dX8_item_108 rfl hl (by decide) rfl (fun ls hl => ?_)
              refine lv_aload_n hx hb dX8_item_109 rfl (lv_at hl 3 rfl) ?_
              skip
              refine zw_V (As := []) (rest := []) (wr := [(mnu, .inl (cI, 10, .inl gnu)), (mki, .inl (cI, 8, .inl gki)), (mpa, .inl (cI, 8, .inl gpa)), (mta, .inl (cI, 8, .inl gta)), (mla, .inl (cI, 40, .inl gla)), (msl, .inl (cI, 40, .inl gsl)), (mco, .inl (cI, 3, .inl gco)), (mte, .inl (cI, 3, .inl gte)), (mwo, .inl (cI, 64, .inl gwo))]) ⟨hx, hb, hml, hown, hts⟩ (c_F_M_reads l D cI cJ cZ cP cS po m0 mrf mki mpa mta mla msl mco mhe mso msi msh mce mca mwo mnu mte mwa mke mma mth mtr (npu) (nte) (nat_) (nde) (nto) (nse) (nhu) (nga) (nsd) (nfa) (nba) (q_402) (nen) (nnu) (q_403) (nra) (nik) gce hy0 hy1 hy2 hy3 hy4 hy5 hy6 hy7 hy8 hy9 hy10 hy11 hy12 hy13 hy14 hy15 hbq_402.1 hbq_402.2 hy18 hy19 (by omega) H.size) (cwV 0 hts gX8_item_X8_reads rfl rfl rfl ⟨rfl, dh_X8_reads⟩ ⟨Nat.le_of_ble_eq_true rfl, Nat.le_of_ble_eq_true rfl⟩) hK hN (hZ.kept hS) hP hD hS hA [8, 10] [0, 1, 2, 3, 4, 5, 6, 7, 9] rfl rfl (by decide) (by decide) (by decide) (va_recv (q := (RX8, TX8, 38)) hK hP (ci := 8) (q0 := 8) rfl rfl) rfl hl.1 rfl (Nat.le_of_ble_eq_true rfl) dX8_item_110 ⟨Nat.le_of_ble_eq_true rfl, Nat.le_of_ble_eq_true rfl⟩ (fun r_437 u_438 H locs hr_437 hP hD hS => ?_)
              obtain ⟨q_439, q_440, q_441⟩ := u_438
              try dsimp only at hr_437
              obtain ⟨hbq_439, hsr_437_0, hsr_437_1, hsr_437_2, hr_437⟩ := hr_437
              have h9R := zRe (ws' := [(mnu, .inl (cI, 10, .inl gnu)), (mki, .inl (cI, 8, .inl gki)), (mpa, .inl (cI, 8, .inl gpa)), (mta, .inl (cI, 8, .inl gta)), (mla, .inl (cI, 40, .inl gla)), (msl, .inl (cI, 40, .inl gsl)), (mco, .inl (cI, 3, .inl gco)), (mte, .inl (cI, 3, .inl gte)), (mwo, .inl (cI, 64, .inl gwo)), (zMO m0 npu nte nat_ nde nto nse nhu nga nsd nfa mrf mki mpa mta mla msl mco mhe mso msi msh mce mca mwo mnu mte nba q_439 nen q_440 q_441 mwa mke mma mth mtr nra nik), (mce, .inl (cJ, 1280, .inr (.inl gce)))]) hP hD rfl
              clear hP hD
              obtain ⟨hP, hD⟩ := h9R
              obtain ⟨g_442, g_443⟩ := hr_437
              refine lv_if_ne (tgt := 118) hx hb dX8_item_113 (by decide) (fun c_444 => ?_) (fun c_444 => ?_)
              · have fc_444 : r_437.toInt ≠ 0 := zf_ne c_444 rfl (by decide)
                refine lv_aload_n hx hb dX8_item_118 rfl (lv_at hl 3 rfl) ?_
                refine lv_iload_n hx hb dX8_item_119 rfl (lv_at hl 2 rfl) ?_
                refine lv_iload_n hx hb dX8_item_120 rfl (lv_at hl 1 rfl) ?_
                refine zc_V (As := [.int 1, .int 0]) (rest := []) ⟨hx, hb, hml, hown, hts⟩ (c_F_M_isSo_1_0 l D cI cJ cZ cP cS po m0 mrf mki mpa mta mla msl mco mhe mso msi msh mce mca mwo mnu mte mwa mke mma mth mtr (npu) (nte) (nat_) (nde) (nto) (nse) (nhu) (nga) (nsd) (nfa) (nba) (q_439) (nen) (q_440) (q_441) (nra) (nik) hy0 hy1 hy2 hy3 hy4 hy5 hy6 hy7 hy8 hy9 hy10 hy11 hy12 hy13 (by omega) (by omega)) (cwV 2 hts gX8_item_X8_isSo rfl rfl rfl ⟨rfl, dh_X8_isSo⟩ ⟨Nat.le_of_ble_eq_true rfl, Nat.le_of_ble_eq_true rfl⟩) hK hN (hZ.kept hS) hP (hP.sub [9] rfl) (va_recv (q := (RX8, TX8, 38)) hK hP (ci := 8) (q0 := 9) rfl rfl) rfl hl.1 rfl (Nat.le_of_ble_eq_true rfl) dX8_item_121 ⟨Nat.le_of_ble_eq_true rfl, Nat.le_of_ble_eq_true rfl⟩ (fun r_445 hr_445 => ?_)
                obtain ⟨g_446, g_447, hsr_445_0⟩ := hr_445
                refine lv_if_ne (tgt := 133) hx hb dX8_item_124 (by decide) (fun c_448 => ?_) (fun c_448 => ?_)
                · have fc_448 : r_445.toInt ≠ 0 := zf_ne c_448 rfl (by decide)
                  obtain ⟨hy1_0, hy2_0, hy3_0⟩ := hsr_437_2.1 (by omega)
                  have hn0 : zN1 (zMF gce nba.toInt) nen.toInt (npl.toInt + ((zWds ((1 : Int)).toNat).length : Int)) (zLo 1 0) (zHi 1 0 nte.toInt) = (-1, (q_439 : Int32).toInt, (q_440 : Int32).toInt) := zN1_yes (p1 := (q_402 : Int32).toInt) (lo2 := 0) (hi2 := (nte.toInt - 1 : Int)) ⟨hW2, hW3⟩ (by omega) hy1_0 hy2_0 (by decide) (by first | rfl | decide | (show nte.toInt - 1 = _; omega) | (show nte.toInt = _; omega)) (by omega)
                  refine lv_aload_n hx hb dX8_item_133 rfl (lv_at hl 3 rfl) ?_
                  refine va_get (D := D) (ci := 8) (v := .ref mte) (C := RX8) (T := TX8) (N := 38) hx hb hts hi_X8_item_8 hown hK hP 9 rfl rfl 25 (by decide) (hts (.fieldLink RX8 72 "TheLiningsInItModel" "tell" "[I") (List.mem_of_getElem? (i := 7) rfl)) (fun _ h9 => h9) rfl dX8_item_134 ?_
                  refine lv_iload_n hx hb dX8_item_137 rfl (lv_at hl 1 rfl) ?_
                  refine lv_aload_n hx hb dX8_item_138 rfl (lv_at hl 3 rfl) ?_
                  refine va_get (D := D) (ci := 8) (v := .int q_440) (C := RX8) (T := TX8) (N := 38) hx hb hts hi_X8_item_8 hown hK hP 9 rfl rfl 29 (by decide) (hts (.fieldLink RX8 161 "TheLiningsInItModel" "number" "I") (List.mem_of_getElem? (i := 8) rfl)) (fun _ h9 => h9) rfl dX8_item_139 ?_
                  refine va_iast hx hb hK hP hD hS 7 0 rfl rfl (zf_in (by decide) (by decide)) dX8_item_142 (fun H locs hP hD hS => ?_)
                  have h9R := zRe (ws' := [(mnu, .inl (cI, 10, .inl gnu)), (mki, .inl (cI, 8, .inl gki)), (mpa, .inl (cI, 8, .inl gpa)), (mta, .inl (cI, 8, .inl gta)), (mla, .inl (cI, 40, .inl gla)), (msl, .inl (cI, 40, .inl gsl)), (mco, .inl (cI, 3, .inl gco)), (mte, .inl (cI, 3, .inl (upd gte (0 : Int32).toNatClampNeg q_440))), (mwo, .inl (cI, 64, .inl gwo)), (zMO m0 npu nte nat_ nde nto nse nhu nga nsd nfa mrf mki mpa mta mla msl mco mhe mso msi msh mce mca mwo mnu mte nba q_439 nen q_440 q_441 mwa mke mma mth mtr nra nik), (mce, .inl (cJ, 1280, .inr (.inl gce)))]) hP hD rfl
                  clear hP hD
                  obtain ⟨hP, hD⟩ := h9R
                  refine lv_iinc (v := 1) (lv' := [(2, .int 1), (3, .int q_402), (1, .int 1), (0, .ref m0)]) hx hb dX8_item_143 hl (k := 1) rfl (by decide) (by decide) rfl (fun ls hl => ?_)
                  refine lv_goto (tgt := 40) hx hb dX8_item_146 (by decide) ?_
                  refine lv_iload_n hx hb dX8_item_40 rfl (lv_at hl 0 rfl) ?_
                  refine lv_aload_n hx hb dX8_item_41 rfl (lv_at hl 3 rfl) ?_
                  refine va_get (D := D) (ci := 8) (v := .ref mnu) (C := RX8) (T := TX8) (N := 38) hx hb hts hi_X8_item_8 hown hK hP 9 rfl rfl 24 (by decide) (hts (.fieldLink RX8 69 "TheLiningsInItModel" "numbers" "[I") (List.mem_of_getElem? (i := 3) rfl)) (fun _ h9 => h9) rfl dX8_item_42 ?_
                  refine lv_iload_n hx hb dX8_item_45 rfl (lv_at hl 2 rfl) ?_
                  refine va_iald hx hb hK hP 0 0 rfl rfl (zf_in (by decide) (by decide)) dX8_item_46 ?_
                  refine lv_topi (fun x_449 ex_449 => ?_)
                  obtain rfl : x_449 = 1 := ex_449.trans ((congrArg gnu (show (1 : Int32).toNatClampNeg = 1 from by decide)).trans ((hnu 1 (by decide)).trans (by decide)))
                  refine lv_icmp_ge (tgt := 149) hx hb dX8_item_47 (by decide) (fun c_450 => ?_) (fun c_450 => ?_)
                  · refine lv_iload_n hx hb dX8_item_149 rfl (lv_at hl 2 rfl) ?_
                    refine lv_tableIn (tgt := 217) hx hb dX8_item_150 (by decide) (by decide) rfl (by decide) ?_
                    refine lv_aload_n hx hb dX8_item_217 rfl (lv_at hl 3 rfl) ?_
                    refine va_get (D := D) (ci := 8) (v := .ref mla) (C := RX8) (T := TX8) (N := 38) hx hb hts hi_X8_item_8 hown hK hP 9 rfl rfl 14 (by decide) (hts (.fieldLink RX8 38 "TheLiningsInItModel" "lacks" "[I") (List.mem_of_getElem? (i := 9) rfl)) (fun _ h9 => h9) rfl dX8_item_218 ?_
                    refine lv_aload_n hx hb dX8_item_221 rfl (lv_at hl 3 rfl) ?_
                    refine va_get (D := D) (ci := 8) (v := .ref mte) (C := RX8) (T := TX8) (N := 38) hx hb hts hi_X8_item_8 hown hK hP 9 rfl rfl 25 (by decide) (hts (.fieldLink RX8 72 "TheLiningsInItModel" "tell" "[I") (List.mem_of_getElem? (i := 7) rfl)) (fun _ h9 => h9) rfl dX8_item_222 ?_
                    refine lv_iconst (v := 0) hx hb dX8_item_225 (by decide) ?_
                    refine va_iald hx hb hK hP 7 0 rfl rfl (zf_in (by decide) (by decide)) dX8_item_226 ?_
                    refine lv_topi (fun x_451 ex_451 => ?_)
                    obtain rfl : q_440 = x_451 := (ex_451.trans (if_pos rfl)).symm
                    refine lv_iconst (v := 1) hx hb dX8_item_227 (by decide) ?_
                    refine va_iast hx hb hK hP hD hS 4 0 rfl rfl (zf_in (by omega) (by omega)) dX8_item_228 (fun H locs hP hD hS => ?_)
                    have hpg_452 : zRg (upd gla q_440.toNatClampNeg 1) (0) 1 := zRg_upd hp_gla (by decide) (by decide)
                    obtain ⟨g_452, hg_452⟩ : ∃ g : Nat → Int32, g = upd gla q_440.toNatClampNeg 1 := ⟨_, rfl⟩
                    rw [← hg_452] at hP hD hpg_452
                    clear hg_452
                    have h9R := zRe (ws' := [(mnu, .inl (cI, 10, .inl gnu)), (mki, .inl (cI, 8, .inl gki)), (mpa, .inl (cI, 8, .inl gpa)), (mta, .inl (cI, 8, .inl gta)), (mla, .inl (cI, 40, .inl g_452)), (msl, .inl (cI, 40, .inl gsl)), (mco, .inl (cI, 3, .inl gco)), (mte, .inl (cI, 3, .inl (upd gte (0 : Int32).toNatClampNeg q_440))), (mwo, .inl (cI, 64, .inl gwo)), (zMO m0 npu nte nat_ nde nto nse nhu nga nsd nfa mrf mki mpa mta mla msl mco mhe mso msi msh mce mca mwo mnu mte nba q_439 nen q_440 q_441 mwa mke mma mth mtr nra nik), (mce, .inl (cJ, 1280, .inr (.inl gce)))]) hP hD rfl
                    clear hP hD
                    obtain ⟨hP, hD⟩ := h9R
                    refine lv_goto (tgt := 324) hx hb dX8_item_229 (by decide) ?_
                    refine lv_iconst (v := 1) hx hb dX8_item_324 (by decide) ?_
                    have hI := zIn_a hn0 (by first | (right; decide) | (left; omega))
                    exact W.zret (v := 1) hx hb hr (by decide) (fun t ht hW => ⟨⟨1, (npu, nte, nat_, nde, nse, nhu, nga, gki, gpa, gta, g_452, gsl, gco, (upd gte (0 : Int32).toNatClampNeg q_440), q_439, q_440, q_441), rfl, ⟨(show 0 ≤ npu.toInt ∧ npu.toInt ≤ 8 from ⟨hy0, hy1⟩), (show 4 ≤ nte.toInt ∧ nte.toInt ≤ 40 from ⟨hy2, hy3⟩), (show 0 ≤ nat_.toInt ∧ nat_.toInt ≤ 40 from ⟨hy4, hy5⟩), (show 0 ≤ nde.toInt ∧ nde.toInt ≤ 24 from ⟨hy6, hy7⟩), (show 0 ≤ nhu.toInt ∧ nhu.toInt ≤ 9 from ⟨hy8, hy9⟩), hp_gki, hp_gpa, hp_gta, hpg_452, hp_gsl, hp_gco, (show 0 ≤ q_439.toInt ∧ q_439.toInt ≤ 160 from hbq_439), (show npl.toInt ≤ q_439.toInt ∧ q_439.toInt ≤ nen.toInt from by exact ⟨by omega, by omega⟩), (show ((1 : Int32).toInt = 1 → (zItem (zMF gce nba.toInt) nen.toInt npl.toInt nte.toInt npu.toInt).1 = -1 ∧ q_439.toInt = (zItem (zMF gce nba.toInt) nen.toInt npl.toInt nte.toInt npu.toInt).2.1 ∧ nte.toInt = (zItem (zMF gce nba.toInt) nen.toInt npl.toInt nte.toInt npu.toInt).2.2.1 ∧ npu.toInt = (zItem (zMF gce nba.toInt) nen.toInt npl.toInt nte.toInt npu.toInt).2.2.2) ∧ ((1 : Int32).toInt = 0 → (zItem (zMF gce nba.toInt) nen.toInt npl.toInt nte.toInt npu.toInt).1 = q_441.toInt ∧ 0 ≤ q_441.toInt) from by (have k9 : (1 : Int32).toInt = 1 := (by decide); rw [zItem_w hW1 (by decide) hp8 rfl hI]; dsimp only; exact ⟨fun _ => ⟨rfl, by first | rfl | omega, by (show _ = (if (1 : Int) = 0 then _ else _); rw [if_neg (by decide)]), by (show _ = (if (1 : Int) = 3 then _ else _); rw [if_neg (by decide)])⟩, fun h => absurd h (by decide)⟩)), ⟨by decide, by decide⟩⟩, zRet ht hP hD [9, 8, 0, 10, 1, 2, 3, 4, 5, 6, 7] (by decide) rfl⟩, hS.F ht⟩) hS.2.2 dX8_item_325
                  · exact absurd c_450 (by decide)
                · have fc_448 : r_445.toInt = 0 := zf_eq c_448 rfl (by decide)
                  obtain ⟨hy1_0, hy2_0, hy3_0⟩ := hsr_437_2.1 (by omega)
                  have hn0 : zN1 (zMF gce nba.toInt) nen.toInt (npl.toInt + ((zWds ((1 : Int)).toNat).length : Int)) (zLo 1 0) (zHi 1 0 nte.toInt) = ((q_402 : Int32).toInt, (q_439 : Int32).toInt, (q_440 : Int32).toInt) := zN1_yes (p1 := (q_402 : Int32).toInt) (lo2 := 0) (hi2 := (nte.toInt - 1 : Int)) ⟨hW2, hW3⟩ (by omega) hy1_0 hy2_0 (by decide) (by first | rfl | decide | (show nte.toInt - 1 = _; omega) | (show nte.toInt = _; omega)) (by omega)
                  refine lv_aload_n hx hb dX8_item_127 rfl (lv_at hl 3 rfl) ?_
                  refine lv_iload_n hx hb dX8_item_128 rfl (lv_at hl 0 rfl) ?_
                  skip
                  refine zw_V (As := [.int q_402]) (rest := []) (wr := [(mnu, .inl (cI, 10, .inl gnu)), (mki, .inl (cI, 8, .inl gki)), (mpa, .inl (cI, 8, .inl gpa)), (mta, .inl (cI, 8, .inl gta)), (mla, .inl (cI, 40, .inl gla)), (msl, .inl (cI, 40, .inl gsl)), (mco, .inl (cI, 3, .inl gco)), (mte, .inl (cI, 3, .inl gte)), (mwo, .inl (cI, 64, .inl gwo)), (mce, .inl (cJ, 1280, .inr (.inl gce)))]) ⟨hx, hb, hml, hown, hts⟩ (c_F_M_wrong l D cI cJ cZ cP cS po m0 mrf mki mpa mta mla msl mco mhe mso msi msh mce mca mwo mnu mte mwa mke mma mth mtr (npu) (nte) (nat_) (nde) (nto) (nse) (nhu) (nga) (nsd) (nfa) (nba) (q_439) (nen) (q_440) (q_441) (nra) (nik) (q_402) hy0 hy1 hy2 hy3 hy4 hy5 hy6 hy7 hy8 hy9 hy10 hy11 hy12 hy13 H.size) (cwV 1 hts gX8_item_X8_wrong rfl rfl rfl ⟨rfl, dh_X8_wrong⟩ ⟨Nat.le_of_ble_eq_true rfl, Nat.le_of_ble_eq_true rfl⟩) hK hN (hZ.kept hS) hP hD hS hA [9] [0, 1, 2, 3, 4, 5, 6, 7, 8, 10] rfl rfl (by decide) (by decide) (by decide) (va_recv (q := (RX8, TX8, 38)) hK hP (ci := 8) (q0 := 9) rfl rfl) rfl hl.1 rfl (Nat.le_of_ble_eq_true rfl) dX8_item_129 ⟨Nat.le_of_ble_eq_true rfl, Nat.le_of_ble_eq_true rfl⟩ (fun r_453 u_454 H locs hr_453 hP hD hS => ?_)
                  obtain ⟨q_455, rfl⟩ : ∃ z, z = u_454 := ⟨_, rfl⟩
                  obtain ⟨hsr_453_0, hr_453⟩ := hr_453
                  have h9R := zRe (ws' := [(mnu, .inl (cI, 10, .inl gnu)), (mki, .inl (cI, 8, .inl gki)), (mpa, .inl (cI, 8, .inl gpa)), (mta, .inl (cI, 8, .inl gta)), (mla, .inl (cI, 40, .inl gla)), (msl, .inl (cI, 40, .inl gsl)), (mco, .inl (cI, 3, .inl gco)), (mte, .inl (cI, 3, .inl gte)), (mwo, .inl (cI, 64, .inl gwo)), (mce, .inl (cJ, 1280, .inr (.inl gce))), (zMO m0 npu nte nat_ nde nto nse nhu nga nsd nfa mrf mki mpa mta mla msl mco mhe mso msi msh mce mca mwo mnu mte nba q_439 nen q_440 q_455 mwa mke mma mth mtr nra nik)]) hP hD rfl
                  clear hP hD
                  obtain ⟨hP, hD⟩ := h9R
                  obtain rfl := hr_453
                  have hI := zIn_a hn0 (by first | (right; decide) | (left; omega))
                  exact W.zret (v := 0) hx hb hr (by decide) (fun t ht hW => ⟨⟨0, (npu, nte, nat_, nde, nse, nhu, nga, gki, gpa, gta, gla, gsl, gco, gte, q_439, q_440, q_455), rfl, ⟨(show 0 ≤ npu.toInt ∧ npu.toInt ≤ 8 from ⟨hy0, hy1⟩), (show 4 ≤ nte.toInt ∧ nte.toInt ≤ 40 from ⟨hy2, hy3⟩), (show 0 ≤ nat_.toInt ∧ nat_.toInt ≤ 40 from ⟨hy4, hy5⟩), (show 0 ≤ nde.toInt ∧ nde.toInt ≤ 24 from ⟨hy6, hy7⟩), (show 0 ≤ nhu.toInt ∧ nhu.toInt ≤ 9 from ⟨hy8, hy9⟩), hp_gki, hp_gpa, hp_gta, hp_gla, hp_gsl, hp_gco, (show 0 ≤ q_439.toInt ∧ q_439.toInt ≤ 160 from hbq_439), (show npl.toInt ≤ q_439.toInt ∧ q_439.toInt ≤ nen.toInt from by exact ⟨by omega, by omega⟩), (show ((0 : Int32).toInt = 1 → (zItem (zMF gce nba.toInt) nen.toInt npl.toInt nte.toInt npu.toInt).1 = -1 ∧ q_439.toInt = (zItem (zMF gce nba.toInt) nen.toInt npl.toInt nte.toInt npu.toInt).2.1 ∧ nte.toInt = (zItem (zMF gce nba.toInt) nen.toInt npl.toInt nte.toInt npu.toInt).2.2.1 ∧ npu.toInt = (zItem (zMF gce nba.toInt) nen.toInt npl.toInt nte.toInt npu.toInt).2.2.2) ∧ ((0 : Int32).toInt = 0 → (zItem (zMF gce nba.toInt) nen.toInt npl.toInt nte.toInt npu.toInt).1 = q_455.toInt ∧ 0 ≤ q_455.toInt) from by (have k9 : (0 : Int32).toInt = 0 := (by decide); rw [zItem_w hW1 (by decide) hp8 rfl hI]; dsimp only; exact ⟨fun h => absurd h (by decide), fun _ => ⟨by first | rfl | (show _ = _; omega), by omega⟩⟩)), ⟨by decide, by decide⟩⟩, zRet ht hP hD [10, 8, 0, 9, 1, 2, 3, 4, 5, 6, 7] (by decide) rfl⟩, hS.F ht⟩) hS.2.2 dX8_item_132
              · have fc_444 : r_437.toInt = 0 := zf_eq c_444 rfl (by decide)
                have hn0 : zN1 (zMF gce nba.toInt) nen.toInt (npl.toInt + ((zWds ((1 : Int)).toNat).length : Int)) (zLo 1 0) (zHi 1 0 nte.toInt) = ((q_402 : Int32).toInt, (q_402 : Int32).toInt, 0) := zN1_yes (p1 := (q_402 : Int32).toInt) (lo2 := 0) (hi2 := (nte.toInt - 1 : Int)) ⟨hW2, hW3⟩ (by omega) (hsr_437_2.2 (by omega)).1.symm zNv_0.symm (by decide) (by first | rfl | decide | (show nte.toInt - 1 = _; omega) | (show nte.toInt = _; omega)) (Or.inl ⟨rfl, Or.inl rfl⟩)
                refine lv_iconst (v := 0) hx hb dX8_item_116 (by decide) ?_
                have hI := zIn_a hn0 (by first | (right; decide) | (left; omega))
                exact W.zret (v := 0) hx hb hr (by decide) (fun t ht hW => ⟨⟨0, (npu, nte, nat_, nde, nse, nhu, nga, gki, gpa, gta, gla, gsl, gco, gte, q_439, q_440, q_441), rfl, ⟨(show 0 ≤ npu.toInt ∧ npu.toInt ≤ 8 from ⟨hy0, hy1⟩), (show 4 ≤ nte.toInt ∧ nte.toInt ≤ 40 from ⟨hy2, hy3⟩), (show 0 ≤ nat_.toInt ∧ nat_.toInt ≤ 40 from ⟨hy4, hy5⟩), (show 0 ≤ nde.toInt ∧ nde.toInt ≤ 24 from ⟨hy6, hy7⟩), (show 0 ≤ nhu.toInt ∧ nhu.toInt ≤ 9 from ⟨hy8, hy9⟩), hp_gki, hp_gpa, hp_gta, hp_gla, hp_gsl, hp_gco, (show 0 ≤ q_439.toInt ∧ q_439.toInt ≤ 160 from hbq_439), (show npl.toInt ≤ q_439.toInt ∧ q_439.toInt ≤ nen.toInt from by exact ⟨by omega, by omega⟩), (show ((0 : Int32).toInt = 1 → (zItem (zMF gce nba.toInt) nen.toInt npl.toInt nte.toInt npu.toInt).1 = -1 ∧ q_439.toInt = (zItem (zMF gce nba.toInt) nen.toInt npl.toInt nte.toInt npu.toInt).2.1 ∧ nte.toInt = (zItem (zMF gce nba.toInt) nen.toInt npl.toInt nte.toInt npu.toInt).2.2.1 ∧ npu.toInt = (zItem (zMF gce nba.toInt) nen.toInt npl.toInt nte.toInt npu.toInt).2.2.2) ∧ ((0 : Int32).toInt = 0 → (zItem (zMF gce nba.toInt) nen.toInt npl.toInt nte.toInt npu.toInt).1 = q_441.toInt ∧ 0 ≤ q_441.toInt) from by (have k9 : (0 : Int32).toInt = 0 := (by decide); rw [zItem_w hW1 (by decide) hp8 rfl hI]; dsimp only; exact ⟨fun h => absurd h (by decide), fun _ => ⟨by first | rfl | (show _ = _; omega), by omega⟩⟩)), ⟨by decide, by decide⟩⟩, zRet ht hP hD [9, 8, 0, 10, 1, 2, 3, 4, 5, 6, 7] (by decide) rfl⟩, hS.F ht⟩) hS.2.2 dX8_item_117
            · exact absurd c_436 (by decide)
        · have kc2 : (2 : Int32).toInt = 2 := by decide
          have z9 := hsr_400_1
          rw [kc2] at z9
          obtain ⟨hW1, hW2, hW3, hW4⟩ := zItem_Mw (f := (zMF gce nba.toInt)) (e := nen.toInt) (p := npl.toInt) (w := 2) (by omega) (by decide)
          have hp8 : ¬ ((2 : Int) = 3 ∧ npu.toInt = 8) := fun z => absurd z.1 (by decide)
          refine lv_iconst (v := 0) hx hb dX8_item_38 (by decide) ?_
          refine lv_istore_n (lv' := [(2, .int 0), (1, .int 2), (0, .ref m0)]) hx hb dX8_item_39 rfl hl (by decide) rfl (fun ls hl => ?_)
          refine lv_iload_n hx hb dX8_item_40 rfl (lv_at hl 0 rfl) ?_
          refine lv_aload_n hx hb dX8_item_41 rfl (lv_at hl 2 rfl) ?_
          refine va_get (D := D) (ci := 8) (v := .ref mnu) (C := RX8) (T := TX8) (N := 38) hx hb hts hi_X8_item_8 hown hK hP 8 rfl rfl 24 (by decide) (hts (.fieldLink RX8 69 "TheLiningsInItModel" "numbers" "[I") (List.mem_of_getElem? (i := 3) rfl)) (fun _ h9 => h9) rfl dX8_item_42 ?_
          refine lv_iload_n hx hb dX8_item_45 rfl (lv_at hl 1 rfl) ?_
          refine va_iald hx hb hK hP 0 0 rfl rfl (zf_in (by decide) (by decide)) dX8_item_46 ?_
          refine lv_topi (fun x_456 ex_456 => ?_)
          obtain rfl : x_456 = 2 := ex_456.trans ((congrArg gnu (show (2 : Int32).toNatClampNeg = 2 from by decide)).trans ((hnu 2 (by decide)).trans (by decide)))
          refine lv_icmp_ge (tgt := 149) hx hb dX8_item_47 (by decide) (fun c_457 => ?_) (fun c_457 => ?_)
          · exact absurd c_457 (by decide)
          · refine lv_iload_n hx hb dX8_item_50 rfl (lv_at hl 0 rfl) ?_
            refine lv_if_le (tgt := 104) hx hb dX8_item_51 (by decide) (fun c_458 => ?_) (fun c_458 => ?_)
            · refine lv_aload_n hx hb dX8_item_104 rfl (lv_at hl 2 rfl) ?_
              refine va_get (D := D) (ci := 8) (v := .int q_402) (C := RX8) (T := TX8) (N := 38) hx hb hts hi_X8_item_8 hown hK hP 8 rfl rfl 27 (by decide) (hts (.fieldLink RX8 152 "TheLiningsInItModel" "place" "I") (List.mem_of_getElem? (i := 2) rfl)) (fun _ h9 => h9) rfl dX8_item_105 ?_
              refine lv_istore_n (lv' := [(3, .int q_402), (2, .int 0), (1, .int 2), (0, .ref m0)]) hx hb dX8_item_108 rfl hl (by decide) rfl (fun ls hl => ?_)
              refine lv_aload_n hx hb dX8_item_109 rfl (lv_at hl 3 rfl) ?_
              skip
              refine zw_V (As := []) (rest := []) (wr := [(mnu, .inl (cI, 10, .inl gnu)), (mki, .inl (cI, 8, .inl gki)), (mpa, .inl (cI, 8, .inl gpa)), (mta, .inl (cI, 8, .inl gta)), (mla, .inl (cI, 40, .inl gla)), (msl, .inl (cI, 40, .inl gsl)), (mco, .inl (cI, 3, .inl gco)), (mte, .inl (cI, 3, .inl gte)), (mwo, .inl (cI, 64, .inl gwo))]) ⟨hx, hb, hml, hown, hts⟩ (c_F_M_reads l D cI cJ cZ cP cS po m0 mrf mki mpa mta mla msl mco mhe mso msi msh mce mca mwo mnu mte mwa mke mma mth mtr (npu) (nte) (nat_) (nde) (nto) (nse) (nhu) (nga) (nsd) (nfa) (nba) (q_402) (nen) (nnu) (q_403) (nra) (nik) gce hy0 hy1 hy2 hy3 hy4 hy5 hy6 hy7 hy8 hy9 hy10 hy11 hy12 hy13 hy14 hy15 hbq_402.1 hbq_402.2 hy18 hy19 (by omega) H.size) (cwV 0 hts gX8_item_X8_reads rfl rfl rfl ⟨rfl, dh_X8_reads⟩ ⟨Nat.le_of_ble_eq_true rfl, Nat.le_of_ble_eq_true rfl⟩) hK hN (hZ.kept hS) hP hD hS hA [8, 10] [0, 1, 2, 3, 4, 5, 6, 7, 9] rfl rfl (by decide) (by decide) (by decide) (va_recv (q := (RX8, TX8, 38)) hK hP (ci := 8) (q0 := 8) rfl rfl) rfl hl.1 rfl (Nat.le_of_ble_eq_true rfl) dX8_item_110 ⟨Nat.le_of_ble_eq_true rfl, Nat.le_of_ble_eq_true rfl⟩ (fun r_459 u_460 H locs hr_459 hP hD hS => ?_)
              obtain ⟨q_461, q_462, q_463⟩ := u_460
              try dsimp only at hr_459
              obtain ⟨hbq_461, hsr_459_0, hsr_459_1, hsr_459_2, hr_459⟩ := hr_459
              have h9R := zRe (ws' := [(mnu, .inl (cI, 10, .inl gnu)), (mki, .inl (cI, 8, .inl gki)), (mpa, .inl (cI, 8, .inl gpa)), (mta, .inl (cI, 8, .inl gta)), (mla, .inl (cI, 40, .inl gla)), (msl, .inl (cI, 40, .inl gsl)), (mco, .inl (cI, 3, .inl gco)), (mte, .inl (cI, 3, .inl gte)), (mwo, .inl (cI, 64, .inl gwo)), (zMO m0 npu nte nat_ nde nto nse nhu nga nsd nfa mrf mki mpa mta mla msl mco mhe mso msi msh mce mca mwo mnu mte nba q_461 nen q_462 q_463 mwa mke mma mth mtr nra nik), (mce, .inl (cJ, 1280, .inr (.inl gce)))]) hP hD rfl
              clear hP hD
              obtain ⟨hP, hD⟩ := h9R
              obtain ⟨g_464, g_465⟩ := hr_459
              refine lv_if_ne (tgt := 118) hx hb dX8_item_113 (by decide) (fun c_466 => ?_) (fun c_466 => ?_)
              · have fc_466 : r_459.toInt ≠ 0 := zf_ne c_466 rfl (by decide)
                refine lv_aload_n hx hb dX8_item_118 rfl (lv_at hl 3 rfl) ?_
                refine lv_iload_n hx hb dX8_item_119 rfl (lv_at hl 2 rfl) ?_
                refine lv_iload_n hx hb dX8_item_120 rfl (lv_at hl 1 rfl) ?_
                refine zc_V (As := [.int 2, .int 0]) (rest := []) ⟨hx, hb, hml, hown, hts⟩ (c_F_M_isSo_2_0 l D cI cJ cZ cP cS po m0 mrf mki mpa mta mla msl mco mhe mso msi msh mce mca mwo mnu mte mwa mke mma mth mtr (npu) (nte) (nat_) (nde) (nto) (nse) (nhu) (nga) (nsd) (nfa) (nba) (q_461) (nen) (q_462) (q_463) (nra) (nik) hy0 hy1 hy2 hy3 hy4 hy5 hy6 hy7 hy8 hy9 hy10 hy11 hy12 hy13 (by omega) (by omega)) (cwV 2 hts gX8_item_X8_isSo rfl rfl rfl ⟨rfl, dh_X8_isSo⟩ ⟨Nat.le_of_ble_eq_true rfl, Nat.le_of_ble_eq_true rfl⟩) hK hN (hZ.kept hS) hP (hP.sub [9] rfl) (va_recv (q := (RX8, TX8, 38)) hK hP (ci := 8) (q0 := 9) rfl rfl) rfl hl.1 rfl (Nat.le_of_ble_eq_true rfl) dX8_item_121 ⟨Nat.le_of_ble_eq_true rfl, Nat.le_of_ble_eq_true rfl⟩ (fun r_467 hr_467 => ?_)
                obtain ⟨g_468, g_469, hsr_467_0⟩ := hr_467
                refine lv_if_ne (tgt := 133) hx hb dX8_item_124 (by decide) (fun c_470 => ?_) (fun c_470 => ?_)
                · have fc_470 : r_467.toInt ≠ 0 := zf_ne c_470 rfl (by decide)
                  obtain ⟨hy1_0, hy2_0, hy3_0⟩ := hsr_459_2.1 (by omega)
                  have hn0 : zN1 (zMF gce nba.toInt) nen.toInt (npl.toInt + ((zWds ((2 : Int)).toNat).length : Int)) (zLo 2 0) (zHi 2 0 nte.toInt) = (-1, (q_461 : Int32).toInt, (q_462 : Int32).toInt) := zN1_yes (p1 := (q_402 : Int32).toInt) (lo2 := 0) (hi2 := (nte.toInt - 1 : Int)) ⟨hW2, hW3⟩ (by omega) hy1_0 hy2_0 (by decide) (by first | rfl | decide | (show nte.toInt - 1 = _; omega) | (show nte.toInt = _; omega)) (by omega)
                  refine lv_aload_n hx hb dX8_item_133 rfl (lv_at hl 3 rfl) ?_
                  refine va_get (D := D) (ci := 8) (v := .ref mte) (C := RX8) (T := TX8) (N := 38) hx hb hts hi_X8_item_8 hown hK hP 9 rfl rfl 25 (by decide) (hts (.fieldLink RX8 72 "TheLiningsInItModel" "tell" "[I") (List.mem_of_getElem? (i := 7) rfl)) (fun _ h9 => h9) rfl dX8_item_134 ?_
                  refine lv_iload_n hx hb dX8_item_137 rfl (lv_at hl 1 rfl) ?_
                  refine lv_aload_n hx hb dX8_item_138 rfl (lv_at hl 3 rfl) ?_
                  refine va_get (D := D) (ci := 8) (v := .int q_462) (C := RX8) (T := TX8) (N := 38) hx hb hts hi_X8_item_8 hown hK hP 9 rfl rfl 29 (by decide) (hts (.fieldLink RX8 161 "TheLiningsInItModel" "number" "I") (List.mem_of_getElem? (i := 8) rfl)) (fun _ h9 => h9) rfl dX8_item_139 ?_
                  refine va_iast hx hb hK hP hD hS 7 0 rfl rfl (zf_in (by decide) (by decide)) dX8_item_142 (fun H locs hP hD hS => ?_)
                  have h9R := zRe (ws' := [(mnu, .inl (cI, 10, .inl gnu)), (mki, .inl (cI, 8, .inl gki)), (mpa, .inl (cI, 8, .inl gpa)), (mta, .inl (cI, 8, .inl gta)), (mla, .inl (cI, 40, .inl gla)), (msl, .inl (cI, 40, .inl gsl)), (mco, .inl (cI, 3, .inl gco)), (mte, .inl (cI, 3, .inl (upd gte (0 : Int32).toNatClampNeg q_462))), (mwo, .inl (cI, 64, .inl gwo)), (zMO m0 npu nte nat_ nde nto nse nhu nga nsd nfa mrf mki mpa mta mla msl mco mhe mso msi msh mce mca mwo mnu mte nba q_461 nen q_462 q_463 mwa mke mma mth mtr nra nik), (mce, .inl (cJ, 1280, .inr (.inl gce)))]) hP hD rfl
                  clear hP hD
                  obtain ⟨hP, hD⟩ := h9R
                  refine lv_iinc (v := 1) (lv' := [(2, .int 1), (3, .int q_402), (1, .int 2), (0, .ref m0)]) hx hb dX8_item_143 hl (k := 1) rfl (by decide) (by decide) rfl (fun ls hl => ?_)
                  refine lv_goto (tgt := 40) hx hb dX8_item_146 (by decide) ?_
                  refine lv_iload_n hx hb dX8_item_40 rfl (lv_at hl 0 rfl) ?_
                  refine lv_aload_n hx hb dX8_item_41 rfl (lv_at hl 3 rfl) ?_
                  refine va_get (D := D) (ci := 8) (v := .ref mnu) (C := RX8) (T := TX8) (N := 38) hx hb hts hi_X8_item_8 hown hK hP 9 rfl rfl 24 (by decide) (hts (.fieldLink RX8 69 "TheLiningsInItModel" "numbers" "[I") (List.mem_of_getElem? (i := 3) rfl)) (fun _ h9 => h9) rfl dX8_item_42 ?_
                  refine lv_iload_n hx hb dX8_item_45 rfl (lv_at hl 2 rfl) ?_
                  refine va_iald hx hb hK hP 0 0 rfl rfl (zf_in (by decide) (by decide)) dX8_item_46 ?_
                  refine lv_topi (fun x_471 ex_471 => ?_)
                  obtain rfl : x_471 = 2 := ex_471.trans ((congrArg gnu (show (2 : Int32).toNatClampNeg = 2 from by decide)).trans ((hnu 2 (by decide)).trans (by decide)))
                  refine lv_icmp_ge (tgt := 149) hx hb dX8_item_47 (by decide) (fun c_472 => ?_) (fun c_472 => ?_)
                  · exact absurd c_472 (by decide)
                  · refine lv_iload_n hx hb dX8_item_50 rfl (lv_at hl 0 rfl) ?_
                    refine lv_if_le (tgt := 104) hx hb dX8_item_51 (by decide) (fun c_473 => ?_) (fun c_473 => ?_)
                    · exact absurd c_473 (by decide)
                    · refine lv_aload_n hx hb dX8_item_54 rfl (lv_at hl 3 rfl) ?_
                      refine va_get (D := D) (ci := 8) (v := .int q_461) (C := RX8) (T := TX8) (N := 38) hx hb hts hi_X8_item_8 hown hK hP 9 rfl rfl 27 (by decide) (hts (.fieldLink RX8 152 "TheLiningsInItModel" "place" "I") (List.mem_of_getElem? (i := 2) rfl)) (fun _ h9 => h9) rfl dX8_item_55 ?_
                      refine lv_aload_n hx hb dX8_item_58 rfl (lv_at hl 3 rfl) ?_
                      refine va_get (D := D) (ci := 8) (v := .int nen) (C := RX8) (T := TX8) (N := 38) hx hb hts hi_X8_item_8 hown hK hP 9 rfl rfl 28 (by decide) (hts (.fieldLink RX8 155 "TheLiningsInItModel" "end" "I") (List.mem_of_getElem? (i := 4) rfl)) (fun _ h9 => h9) rfl dX8_item_59 ?_
                      refine lv_icmp_ge (tgt := 85) hx hb dX8_item_62 (by decide) (fun c_474 => ?_) (fun c_474 => ?_)
                      · have fc_474 : nen.toInt ≤ q_461.toInt := zf_le c_474 rfl rfl
                        have hn1 : zN1 (zMF gce nba.toInt) nen.toInt (q_461 : Int32).toInt (zLo 2 1) (zHi 2 1 nte.toInt) = ((q_461 : Int32).toInt, (q_461 : Int32).toInt, 0) := zN1_no (by first | (intro z; have z1 := z.1; omega))
                        refine lv_aload_n hx hb dX8_item_85 rfl (lv_at hl 3 rfl) ?_
                        refine lv_aload_n hx hb dX8_item_86 rfl (lv_at hl 3 rfl) ?_
                        refine va_get (D := D) (ci := 8) (v := .int q_461) (C := RX8) (T := TX8) (N := 38) hx hb hts hi_X8_item_8 hown hK hP 9 rfl rfl 27 (by decide) (hts (.fieldLink RX8 152 "TheLiningsInItModel" "place" "I") (List.mem_of_getElem? (i := 2) rfl)) (fun _ h9 => h9) rfl dX8_item_87 ?_
                        skip
                        refine zw_V (As := [.int q_461]) (rest := []) (wr := [(mnu, .inl (cI, 10, .inl gnu)), (mki, .inl (cI, 8, .inl gki)), (mpa, .inl (cI, 8, .inl gpa)), (mta, .inl (cI, 8, .inl gta)), (mla, .inl (cI, 40, .inl gla)), (msl, .inl (cI, 40, .inl gsl)), (mco, .inl (cI, 3, .inl gco)), (mte, .inl (cI, 3, .inl (upd gte (0 : Int32).toNatClampNeg q_462))), (mwo, .inl (cI, 64, .inl gwo)), (mce, .inl (cJ, 1280, .inr (.inl gce)))]) ⟨hx, hb, hml, hown, hts⟩ (c_F_M_wrong l D cI cJ cZ cP cS po m0 mrf mki mpa mta mla msl mco mhe mso msi msh mce mca mwo mnu mte mwa mke mma mth mtr (npu) (nte) (nat_) (nde) (nto) (nse) (nhu) (nga) (nsd) (nfa) (nba) (q_461) (nen) (q_462) (q_463) (nra) (nik) (q_461) hy0 hy1 hy2 hy3 hy4 hy5 hy6 hy7 hy8 hy9 hy10 hy11 hy12 hy13 H.size) (cwV 1 hts gX8_item_X8_wrong rfl rfl rfl ⟨rfl, dh_X8_wrong⟩ ⟨Nat.le_of_ble_eq_true rfl, Nat.le_of_ble_eq_true rfl⟩) hK hN (hZ.kept hS) hP hD hS hA [9] [0, 1, 2, 3, 4, 5, 6, 7, 8, 10] rfl rfl (by decide) (by decide) (by decide) (va_recv (q := (RX8, TX8, 38)) hK hP (ci := 8) (q0 := 9) rfl rfl) rfl hl.1 rfl (Nat.le_of_ble_eq_true rfl) dX8_item_90 ⟨Nat.le_of_ble_eq_true rfl, Nat.le_of_ble_eq_true rfl⟩ (fun r_475 u_476 H locs hr_475 hP hD hS => ?_)
                        obtain ⟨q_477, rfl⟩ : ∃ z, z = u_476 := ⟨_, rfl⟩
                        obtain ⟨hsr_475_0, hr_475⟩ := hr_475
                        have h9R := zRe (ws' := [(mnu, .inl (cI, 10, .inl gnu)), (mki, .inl (cI, 8, .inl gki)), (mpa, .inl (cI, 8, .inl gpa)), (mta, .inl (cI, 8, .inl gta)), (mla, .inl (cI, 40, .inl gla)), (msl, .inl (cI, 40, .inl gsl)), (mco, .inl (cI, 3, .inl gco)), (mte, .inl (cI, 3, .inl (upd gte (0 : Int32).toNatClampNeg q_462))), (mwo, .inl (cI, 64, .inl gwo)), (mce, .inl (cJ, 1280, .inr (.inl gce))), (zMO m0 npu nte nat_ nde nto nse nhu nga nsd nfa mrf mki mpa mta mla msl mco mhe mso msi msh mce mca mwo mnu mte nba q_461 nen q_462 q_477 mwa mke mma mth mtr nra nik)]) hP hD rfl
                        clear hP hD
                        obtain ⟨hP, hD⟩ := h9R
                        obtain rfl := hr_475
                        have hI := zIn_b hn0 (by decide) hn1 (by first | (right; decide) | (left; omega))
                        exact W.zret (v := 0) hx hb hr (by decide) (fun t ht hW => ⟨⟨0, (npu, nte, nat_, nde, nse, nhu, nga, gki, gpa, gta, gla, gsl, gco, (upd gte (0 : Int32).toNatClampNeg q_462), q_461, q_462, q_477), rfl, ⟨(show 0 ≤ npu.toInt ∧ npu.toInt ≤ 8 from ⟨hy0, hy1⟩), (show 4 ≤ nte.toInt ∧ nte.toInt ≤ 40 from ⟨hy2, hy3⟩), (show 0 ≤ nat_.toInt ∧ nat_.toInt ≤ 40 from ⟨hy4, hy5⟩), (show 0 ≤ nde.toInt ∧ nde.toInt ≤ 24 from ⟨hy6, hy7⟩), (show 0 ≤ nhu.toInt ∧ nhu.toInt ≤ 9 from ⟨hy8, hy9⟩), hp_gki, hp_gpa, hp_gta, hp_gla, hp_gsl, hp_gco, (show 0 ≤ q_461.toInt ∧ q_461.toInt ≤ 160 from hbq_461), (show npl.toInt ≤ q_461.toInt ∧ q_461.toInt ≤ nen.toInt from by exact ⟨by omega, by omega⟩), (show ((0 : Int32).toInt = 1 → (zItem (zMF gce nba.toInt) nen.toInt npl.toInt nte.toInt npu.toInt).1 = -1 ∧ q_461.toInt = (zItem (zMF gce nba.toInt) nen.toInt npl.toInt nte.toInt npu.toInt).2.1 ∧ nte.toInt = (zItem (zMF gce nba.toInt) nen.toInt npl.toInt nte.toInt npu.toInt).2.2.1 ∧ npu.toInt = (zItem (zMF gce nba.toInt) nen.toInt npl.toInt nte.toInt npu.toInt).2.2.2) ∧ ((0 : Int32).toInt = 0 → (zItem (zMF gce nba.toInt) nen.toInt npl.toInt nte.toInt npu.toInt).1 = q_477.toInt ∧ 0 ≤ q_477.toInt) from by (have k9 : (0 : Int32).toInt = 0 := (by decide); rw [zItem_w hW1 (by decide) hp8 rfl hI]; dsimp only; exact ⟨fun h => absurd h (by decide), fun _ => ⟨by first | rfl | (show _ = _; omega), by omega⟩⟩)), ⟨by decide, by decide⟩⟩, zRet ht hP hD [10, 8, 0, 9, 1, 2, 3, 4, 5, 6, 7] (by decide) rfl⟩, hS.F ht⟩) hS.2.2 dX8_item_93
                      · have fc_474 : q_461.toInt < nen.toInt := zf_nle c_474 rfl rfl
                        refine lv_aload_n hx hb dX8_item_65 rfl (lv_at hl 3 rfl) ?_
                        refine va_get (D := D) (ci := 8) (v := .ref mce) (C := RX8) (T := TX8) (N := 38) hx hb hts hi_X8_item_8 hown hK hP 9 rfl rfl 21 (by decide) (hts (.fieldLink RX8 59 "TheLiningsInItModel" "cells" "[J") (List.mem_of_getElem? (i := 5) rfl)) (fun _ h9 => h9) rfl dX8_item_66 ?_
                        refine lv_aload_n hx hb dX8_item_69 rfl (lv_at hl 3 rfl) ?_
                        refine va_get (D := D) (ci := 8) (v := .int nba) (C := RX8) (T := TX8) (N := 38) hx hb hts hi_X8_item_8 hown hK hP 9 rfl rfl 26 (by decide) (hts (.fieldLink RX8 158 "TheLiningsInItModel" "base" "I") (List.mem_of_getElem? (i := 6) rfl)) (fun _ h9 => h9) rfl dX8_item_70 ?_
                        refine lv_aload_n hx hb dX8_item_73 rfl (lv_at hl 3 rfl) ?_
                        refine va_get (D := D) (ci := 8) (v := .int q_461) (C := RX8) (T := TX8) (N := 38) hx hb hts hi_X8_item_8 hown hK hP 9 rfl rfl 27 (by decide) (hts (.fieldLink RX8 152 "TheLiningsInItModel" "place" "I") (List.mem_of_getElem? (i := 2) rfl)) (fun _ h9 => h9) rfl dX8_item_74 ?_
                        refine lv_iadd hx hb dX8_item_77 ?_
                        refine lv_topi (fun x_478 ex_478 => ?_)
                        have qx_478 : x_478.toInt = nba.toInt + q_461.toInt := by rw [ex_478]; exact zf_add rfl rfl (by omega) (by omega)
                        refine va_lald hx hb hK hP 10 1 rfl rfl (zf_in (by omega) (by omega)) dX8_item_78 ?_
                        refine lv_topl (fun x_479 ex_479 => ?_)
                        refine lv_l2i hx hb dX8_item_79 rfl ?_
                        refine lv_topi (fun x_480 ex_480 => ?_)
                        have hcx_480 : x_480 = zChX gce (nba.toInt + q_461.toInt).toNat := by rw [ex_480, ex_479]; unfold zChX; congr 2; (show x_478.toInt.toNat = _; omega)
                        have hdx_480 : x_480.toInt = (zChX gce (nba.toInt + q_461.toInt).toNat).toInt := by rw [hcx_480]
                        refine lv_bipush (v := 32) hx hb dX8_item_80 (by decide) ?_
                        refine lv_icmp_eq (tgt := 94) hx hb dX8_item_82 (by decide) (fun c_481 => ?_) (fun c_481 => ?_)
                        · have fc_481 : x_480.toInt = 32 := zf_eq c_481 rfl (by decide)
                          refine lv_aload_n hx hb dX8_item_94 rfl (lv_at hl 3 rfl) ?_
                          refine lv_dup hx hb dX8_item_95 rfl ?_
                          refine va_get (D := D) (ci := 8) (v := .int q_461) (C := RX8) (T := TX8) (N := 38) hx hb hts hi_X8_item_8 hown hK hP 9 rfl rfl 27 (by decide) (hts (.fieldLink RX8 152 "TheLiningsInItModel" "place" "I") (List.mem_of_getElem? (i := 2) rfl)) (fun _ h9 => h9) rfl dX8_item_96 ?_
                          refine lv_iconst (v := 1) hx hb dX8_item_99 (by decide) ?_
                          refine lv_iadd hx hb dX8_item_100 ?_
                          refine lv_topi (fun x_482 ex_482 => ?_)
                          have qx_482 : x_482.toInt = q_461.toInt + 1 := dw_inc ex_482 fc_474
                          refine va_put (D := D) (ci := 8) (v := .int x_482) (ty := .int) (C := RX8) (T := TX8) (N := 38) hx hb hts hi_X8_item_8 tyX8 tyX8_ok nmX8 hown hK hP hD hS 9 rfl rfl 27 (by decide) (hts (.fieldLink RX8 152 "TheLiningsInItModel" "place" "I") (List.mem_of_getElem? (i := 2) rfl)) (fun _ h9 => h9) rfl (tyX8_ok 27 (Nat.le_of_ble_eq_true rfl)) rfl rfl (Nat.le_of_ble_eq_true rfl) dX8_item_101 (fun H locs hP hD hS => ?_)
                          have h9R := zRe (ws' := [(mnu, .inl (cI, 10, .inl gnu)), (mki, .inl (cI, 8, .inl gki)), (mpa, .inl (cI, 8, .inl gpa)), (mta, .inl (cI, 8, .inl gta)), (mla, .inl (cI, 40, .inl gla)), (msl, .inl (cI, 40, .inl gsl)), (mco, .inl (cI, 3, .inl gco)), (mte, .inl (cI, 3, .inl (upd gte (0 : Int32).toNatClampNeg q_462))), (mwo, .inl (cI, 64, .inl gwo)), (zMO m0 npu nte nat_ nde nto nse nhu nga nsd nfa mrf mki mpa mta mla msl mco mhe mso msi msh mce mca mwo mnu mte nba x_482 nen q_462 q_463 mwa mke mma mth mtr nra nik), (mce, .inl (cJ, 1280, .inr (.inl gce)))]) hP hD rfl
                          clear hP hD
                          obtain ⟨hP, hD⟩ := h9R
                          refine lv_aload_n hx hb dX8_item_104 rfl (lv_at hl 3 rfl) ?_
                          refine va_get (D := D) (ci := 8) (v := .int x_482) (C := RX8) (T := TX8) (N := 38) hx hb hts hi_X8_item_8 hown hK hP 9 rfl rfl 27 (by decide) (hts (.fieldLink RX8 152 "TheLiningsInItModel" "place" "I") (List.mem_of_getElem? (i := 2) rfl)) (fun _ h9 => h9) rfl dX8_item_105 ?_
                          refine lv_istore_n (lv' := [(3, .int x_482), (2, .int 1), (1, .int 2), (0, .ref m0)]) hx hb dX8_item_108 rfl hl (by decide) rfl (fun ls hl => ?_)
                          refine lv_aload_n hx hb dX8_item_109 rfl (lv_at hl 3 rfl) ?_
                          skip
                          refine zw_V (As := []) (rest := []) (wr := [(mnu, .inl (cI, 10, .inl gnu)), (mki, .inl (cI, 8, .inl gki)), (mpa, .inl (cI, 8, .inl gpa)), (mta, .inl (cI, 8, .inl gta)), (mla, .inl (cI, 40, .inl gla)), (msl, .inl (cI, 40, .inl gsl)), (mco, .inl (cI, 3, .inl gco)), (mte, .inl (cI, 3, .inl (upd gte (0 : Int32).toNatClampNeg q_462))), (mwo, .inl (cI, 64, .inl gwo))]) ⟨hx, hb, hml, hown, hts⟩ (c_F_M_reads l D cI cJ cZ cP cS po m0 mrf mki mpa mta mla msl mco mhe mso msi msh mce mca mwo mnu mte mwa mke mma mth mtr (npu) (nte) (nat_) (nde) (nto) (nse) (nhu) (nga) (nsd) (nfa) (nba) (x_482) (nen) (q_462) (q_463) (nra) (nik) gce hy0 hy1 hy2 hy3 hy4 hy5 hy6 hy7 hy8 hy9 hy10 hy11 hy12 hy13 hy14 hy15 (by omega) (by omega) hy18 hy19 (by omega) H.size) (cwV 0 hts gX8_item_X8_reads rfl rfl rfl ⟨rfl, dh_X8_reads⟩ ⟨Nat.le_of_ble_eq_true rfl, Nat.le_of_ble_eq_true rfl⟩) hK hN (hZ.kept hS) hP hD hS hA [9, 10] [0, 1, 2, 3, 4, 5, 6, 7, 8] rfl rfl (by decide) (by decide) (by decide) (va_recv (q := (RX8, TX8, 38)) hK hP (ci := 8) (q0 := 9) rfl rfl) rfl hl.1 rfl (Nat.le_of_ble_eq_true rfl) dX8_item_110 ⟨Nat.le_of_ble_eq_true rfl, Nat.le_of_ble_eq_true rfl⟩ (fun r_483 u_484 H locs hr_483 hP hD hS => ?_)
                          obtain ⟨q_485, q_486, q_487⟩ := u_484
                          try dsimp only at hr_483
                          obtain ⟨hbq_485, hsr_483_0, hsr_483_1, hsr_483_2, hr_483⟩ := hr_483
                          have h9R := zRe (ws' := [(mnu, .inl (cI, 10, .inl gnu)), (mki, .inl (cI, 8, .inl gki)), (mpa, .inl (cI, 8, .inl gpa)), (mta, .inl (cI, 8, .inl gta)), (mla, .inl (cI, 40, .inl gla)), (msl, .inl (cI, 40, .inl gsl)), (mco, .inl (cI, 3, .inl gco)), (mte, .inl (cI, 3, .inl (upd gte (0 : Int32).toNatClampNeg q_462))), (mwo, .inl (cI, 64, .inl gwo)), (zMO m0 npu nte nat_ nde nto nse nhu nga nsd nfa mrf mki mpa mta mla msl mco mhe mso msi msh mce mca mwo mnu mte nba q_485 nen q_486 q_487 mwa mke mma mth mtr nra nik), (mce, .inl (cJ, 1280, .inr (.inl gce)))]) hP hD rfl
                          clear hP hD
                          obtain ⟨hP, hD⟩ := h9R
                          obtain ⟨g_488, g_489⟩ := hr_483
                          refine lv_if_ne (tgt := 118) hx hb dX8_item_113 (by decide) (fun c_490 => ?_) (fun c_490 => ?_)
                          · have fc_490 : r_483.toInt ≠ 0 := zf_ne c_490 rfl (by decide)
                            refine lv_aload_n hx hb dX8_item_118 rfl (lv_at hl 3 rfl) ?_
                            refine lv_iload_n hx hb dX8_item_119 rfl (lv_at hl 2 rfl) ?_
                            refine lv_iload_n hx hb dX8_item_120 rfl (lv_at hl 1 rfl) ?_
                            refine zc_V (As := [.int 2, .int 1]) (rest := []) ⟨hx, hb, hml, hown, hts⟩ (c_F_M_isSo_2_1 l D cI cJ cZ cP cS po m0 mrf mki mpa mta mla msl mco mhe mso msi msh mce mca mwo mnu mte mwa mke mma mth mtr (npu) (nte) (nat_) (nde) (nto) (nse) (nhu) (nga) (nsd) (nfa) (nba) (q_485) (nen) (q_486) (q_487) (nra) (nik) hy0 hy1 hy2 hy3 hy4 hy5 hy6 hy7 hy8 hy9 hy10 hy11 hy12 hy13 (by omega) (by omega)) (cwV 2 hts gX8_item_X8_isSo rfl rfl rfl ⟨rfl, dh_X8_isSo⟩ ⟨Nat.le_of_ble_eq_true rfl, Nat.le_of_ble_eq_true rfl⟩) hK hN (hZ.kept hS) hP (hP.sub [9] rfl) (va_recv (q := (RX8, TX8, 38)) hK hP (ci := 8) (q0 := 9) rfl rfl) rfl hl.1 rfl (Nat.le_of_ble_eq_true rfl) dX8_item_121 ⟨Nat.le_of_ble_eq_true rfl, Nat.le_of_ble_eq_true rfl⟩ (fun r_491 hr_491 => ?_)
                            obtain ⟨g_492, g_493, hsr_491_0⟩ := hr_491
                            refine lv_if_ne (tgt := 133) hx hb dX8_item_124 (by decide) (fun c_494 => ?_) (fun c_494 => ?_)
                            · have fc_494 : r_491.toInt ≠ 0 := zf_ne c_494 rfl (by decide)
                              obtain ⟨hy1_1, hy2_1, hy3_1⟩ := hsr_483_2.1 (by omega)
                              have hn1 : zN1 (zMF gce nba.toInt) nen.toInt (q_461 : Int32).toInt (zLo 2 1) (zHi 2 1 nte.toInt) = (-1, (q_485 : Int32).toInt, (q_486 : Int32).toInt) := zN1_yes (p1 := (x_482 : Int32).toInt) (lo2 := 0) (hi2 := (9 : Int)) ⟨by omega, by (rw [zMF_at (by omega), ← hdx_480]; omega)⟩ (by omega) hy1_1 hy2_1 (by decide) (by first | rfl | decide | (show nte.toInt - 1 = _; omega) | (show nte.toInt = _; omega)) (by omega)
                              refine lv_aload_n hx hb dX8_item_133 rfl (lv_at hl 3 rfl) ?_
                              refine va_get (D := D) (ci := 8) (v := .ref mte) (C := RX8) (T := TX8) (N := 38) hx hb hts hi_X8_item_8 hown hK hP 9 rfl rfl 25 (by decide) (hts (.fieldLink RX8 72 "TheLiningsInItModel" "tell" "[I") (List.mem_of_getElem? (i := 7) rfl)) (fun _ h9 => h9) rfl dX8_item_134 ?_
                              refine lv_iload_n hx hb dX8_item_137 rfl (lv_at hl 1 rfl) ?_
                              refine lv_aload_n hx hb dX8_item_138 rfl (lv_at hl 3 rfl) ?_
                              refine va_get (D := D) (ci := 8) (v := .int q_486) (C := RX8) (T := TX8) (N := 38) hx hb hts hi_X8_item_8 hown hK hP 9 rfl rfl 29 (by decide) (hts (.fieldLink RX8 161 "TheLiningsInItModel" "number" "I") (List.mem_of_getElem? (i := 8) rfl)) (fun _ h9 => h9) rfl dX8_item_139 ?_
                              refine va_iast hx hb hK hP hD hS 7 0 rfl rfl (zf_in (by decide) (by decide)) dX8_item_142 (fun H locs hP hD hS => ?_)
                              have h9R := zRe (ws' := [(mnu, .inl (cI, 10, .inl gnu)), (mki, .inl (cI, 8, .inl gki)), (mpa, .inl (cI, 8, .inl gpa)), (mta, .inl (cI, 8, .inl gta)), (mla, .inl (cI, 40, .inl gla)), (msl, .inl (cI, 40, .inl gsl)), (mco, .inl (cI, 3, .inl gco)), (mte, .inl (cI, 3, .inl (upd (upd gte (0 : Int32).toNatClampNeg q_462) (1 : Int32).toNatClampNeg q_486))), (mwo, .inl (cI, 64, .inl gwo)), (zMO m0 npu nte nat_ nde nto nse nhu nga nsd nfa mrf mki mpa mta mla msl mco mhe mso msi msh mce mca mwo mnu mte nba q_485 nen q_486 q_487 mwa mke mma mth mtr nra nik), (mce, .inl (cJ, 1280, .inr (.inl gce)))]) hP hD rfl
                              clear hP hD
                              obtain ⟨hP, hD⟩ := h9R
                              refine lv_iinc (v := 2) (lv' := [(2, .int 2), (3, .int x_482), (1, .int 2), (0, .ref m0)]) hx hb dX8_item_143 hl (k := 1) rfl (by decide) (by decide) rfl (fun ls hl => ?_)
                              refine lv_goto (tgt := 40) hx hb dX8_item_146 (by decide) ?_
                              refine lv_iload_n hx hb dX8_item_40 rfl (lv_at hl 0 rfl) ?_
                              refine lv_aload_n hx hb dX8_item_41 rfl (lv_at hl 3 rfl) ?_
                              refine va_get (D := D) (ci := 8) (v := .ref mnu) (C := RX8) (T := TX8) (N := 38) hx hb hts hi_X8_item_8 hown hK hP 9 rfl rfl 24 (by decide) (hts (.fieldLink RX8 69 "TheLiningsInItModel" "numbers" "[I") (List.mem_of_getElem? (i := 3) rfl)) (fun _ h9 => h9) rfl dX8_item_42 ?_
                              refine lv_iload_n hx hb dX8_item_45 rfl (lv_at hl 2 rfl) ?_
                              refine va_iald hx hb hK hP 0 0 rfl rfl (zf_in (by decide) (by decide)) dX8_item_46 ?_
                              refine lv_topi (fun x_495 ex_495 => ?_)
                              obtain rfl : x_495 = 2 := ex_495.trans ((congrArg gnu (show (2 : Int32).toNatClampNeg = 2 from by decide)).trans ((hnu 2 (by decide)).trans (by decide)))
                              refine lv_icmp_ge (tgt := 149) hx hb dX8_item_47 (by decide) (fun c_496 => ?_) (fun c_496 => ?_)
                              · refine lv_iload_n hx hb dX8_item_149 rfl (lv_at hl 2 rfl) ?_
                                refine lv_tableIn (tgt := 232) hx hb dX8_item_150 (by decide) (by decide) rfl (by decide) ?_
                                refine lv_aload_n hx hb dX8_item_232 rfl (lv_at hl 3 rfl) ?_
                                refine va_get (D := D) (ci := 8) (v := .ref msl) (C := RX8) (T := TX8) (N := 38) hx hb hts hi_X8_item_8 hown hK hP 9 rfl rfl 15 (by decide) (hts (.fieldLink RX8 41 "TheLiningsInItModel" "slack" "[I") (List.mem_of_getElem? (i := 10) rfl)) (fun _ h9 => h9) rfl dX8_item_233 ?_
                                refine lv_aload_n hx hb dX8_item_236 rfl (lv_at hl 3 rfl) ?_
                                refine va_get (D := D) (ci := 8) (v := .ref mte) (C := RX8) (T := TX8) (N := 38) hx hb hts hi_X8_item_8 hown hK hP 9 rfl rfl 25 (by decide) (hts (.fieldLink RX8 72 "TheLiningsInItModel" "tell" "[I") (List.mem_of_getElem? (i := 7) rfl)) (fun _ h9 => h9) rfl dX8_item_237 ?_
                                refine lv_iconst (v := 0) hx hb dX8_item_240 (by decide) ?_
                                refine va_iald hx hb hK hP 7 0 rfl rfl (zf_in (by decide) (by decide)) dX8_item_241 ?_
                                refine lv_topi (fun x_497 ex_497 => ?_)
                                obtain rfl : q_462 = x_497 := (ex_497.trans ((if_neg (by decide)).trans (if_pos rfl))).symm
                                refine lv_aload_n hx hb dX8_item_242 rfl (lv_at hl 3 rfl) ?_
                                refine va_get (D := D) (ci := 8) (v := .ref mte) (C := RX8) (T := TX8) (N := 38) hx hb hts hi_X8_item_8 hown hK hP 9 rfl rfl 25 (by decide) (hts (.fieldLink RX8 72 "TheLiningsInItModel" "tell" "[I") (List.mem_of_getElem? (i := 7) rfl)) (fun _ h9 => h9) rfl dX8_item_243 ?_
                                refine lv_iconst (v := 1) hx hb dX8_item_246 (by decide) ?_
                                refine va_iald hx hb hK hP 7 0 rfl rfl (zf_in (by decide) (by decide)) dX8_item_247 ?_
                                refine lv_topi (fun x_498 ex_498 => ?_)
                                obtain rfl : q_486 = x_498 := (ex_498.trans (if_pos rfl)).symm
                                refine va_iast hx hb hK hP hD hS 5 0 rfl rfl (zf_in (by omega) (by omega)) dX8_item_248 (fun H locs hP hD hS => ?_)
                                have hpg_499 : zRg (upd gsl q_462.toNatClampNeg q_486) (0) 9 := zRg_upd hp_gsl (by omega) (by omega)
                                obtain ⟨g_499, hg_499⟩ : ∃ g : Nat → Int32, g = upd gsl q_462.toNatClampNeg q_486 := ⟨_, rfl⟩
                                rw [← hg_499] at hP hD hpg_499
                                clear hg_499
                                have h9R := zRe (ws' := [(mnu, .inl (cI, 10, .inl gnu)), (mki, .inl (cI, 8, .inl gki)), (mpa, .inl (cI, 8, .inl gpa)), (mta, .inl (cI, 8, .inl gta)), (mla, .inl (cI, 40, .inl gla)), (msl, .inl (cI, 40, .inl g_499)), (mco, .inl (cI, 3, .inl gco)), (mte, .inl (cI, 3, .inl (upd (upd gte (0 : Int32).toNatClampNeg q_462) (1 : Int32).toNatClampNeg q_486))), (mwo, .inl (cI, 64, .inl gwo)), (zMO m0 npu nte nat_ nde nto nse nhu nga nsd nfa mrf mki mpa mta mla msl mco mhe mso msi msh mce mca mwo mnu mte nba q_485 nen q_486 q_487 mwa mke mma mth mtr nra nik), (mce, .inl (cJ, 1280, .inr (.inl gce)))]) hP hD rfl
                                clear hP hD
                                obtain ⟨hP, hD⟩ := h9R
                                refine lv_goto (tgt := 324) hx hb dX8_item_249 (by decide) ?_
                                refine lv_iconst (v := 1) hx hb dX8_item_324 (by decide) ?_
                                have hI := zIn_b hn0 (by decide) hn1 (by first | (right; decide) | (left; omega))
                                exact W.zret (v := 1) hx hb hr (by decide) (fun t ht hW => ⟨⟨1, (npu, nte, nat_, nde, nse, nhu, nga, gki, gpa, gta, gla, g_499, gco, (upd (upd gte (0 : Int32).toNatClampNeg q_462) (1 : Int32).toNatClampNeg q_486), q_485, q_486, q_487), rfl, ⟨(show 0 ≤ npu.toInt ∧ npu.toInt ≤ 8 from ⟨hy0, hy1⟩), (show 4 ≤ nte.toInt ∧ nte.toInt ≤ 40 from ⟨hy2, hy3⟩), (show 0 ≤ nat_.toInt ∧ nat_.toInt ≤ 40 from ⟨hy4, hy5⟩), (show 0 ≤ nde.toInt ∧ nde.toInt ≤ 24 from ⟨hy6, hy7⟩), (show 0 ≤ nhu.toInt ∧ nhu.toInt ≤ 9 from ⟨hy8, hy9⟩), hp_gki, hp_gpa, hp_gta, hp_gla, hpg_499, hp_gco, (show 0 ≤ q_485.toInt ∧ q_485.toInt ≤ 160 from hbq_485), (show npl.toInt ≤ q_485.toInt ∧ q_485.toInt ≤ nen.toInt from by exact ⟨by omega, by omega⟩), (show ((1 : Int32).toInt = 1 → (zItem (zMF gce nba.toInt) nen.toInt npl.toInt nte.toInt npu.toInt).1 = -1 ∧ q_485.toInt = (zItem (zMF gce nba.toInt) nen.toInt npl.toInt nte.toInt npu.toInt).2.1 ∧ nte.toInt = (zItem (zMF gce nba.toInt) nen.toInt npl.toInt nte.toInt npu.toInt).2.2.1 ∧ npu.toInt = (zItem (zMF gce nba.toInt) nen.toInt npl.toInt nte.toInt npu.toInt).2.2.2) ∧ ((1 : Int32).toInt = 0 → (zItem (zMF gce nba.toInt) nen.toInt npl.toInt nte.toInt npu.toInt).1 = q_487.toInt ∧ 0 ≤ q_487.toInt) from by (have k9 : (1 : Int32).toInt = 1 := (by decide); rw [zItem_w hW1 (by decide) hp8 rfl hI]; dsimp only; exact ⟨fun _ => ⟨rfl, by first | rfl | omega, by (show _ = (if (2 : Int) = 0 then _ else _); rw [if_neg (by decide)]), by (show _ = (if (2 : Int) = 3 then _ else _); rw [if_neg (by decide)])⟩, fun h => absurd h (by decide)⟩)), ⟨by decide, by decide⟩⟩, zRet ht hP hD [9, 8, 0, 10, 1, 2, 3, 4, 5, 6, 7] (by decide) rfl⟩, hS.F ht⟩) hS.2.2 dX8_item_325
                              · exact absurd c_496 (by decide)
                            · have fc_494 : r_491.toInt = 0 := zf_eq c_494 rfl (by decide)
                              obtain ⟨hy1_1, hy2_1, hy3_1⟩ := hsr_483_2.1 (by omega)
                              have hn1 : zN1 (zMF gce nba.toInt) nen.toInt (q_461 : Int32).toInt (zLo 2 1) (zHi 2 1 nte.toInt) = ((x_482 : Int32).toInt, (q_485 : Int32).toInt, (q_486 : Int32).toInt) := zN1_yes (p1 := (x_482 : Int32).toInt) (lo2 := 0) (hi2 := (9 : Int)) ⟨by omega, by (rw [zMF_at (by omega), ← hdx_480]; omega)⟩ (by omega) hy1_1 hy2_1 (by decide) (by first | rfl | decide | (show nte.toInt - 1 = _; omega) | (show nte.toInt = _; omega)) (by omega)
                              refine lv_aload_n hx hb dX8_item_127 rfl (lv_at hl 3 rfl) ?_
                              refine lv_iload_n hx hb dX8_item_128 rfl (lv_at hl 0 rfl) ?_
                              skip
                              refine zw_V (As := [.int x_482]) (rest := []) (wr := [(mnu, .inl (cI, 10, .inl gnu)), (mki, .inl (cI, 8, .inl gki)), (mpa, .inl (cI, 8, .inl gpa)), (mta, .inl (cI, 8, .inl gta)), (mla, .inl (cI, 40, .inl gla)), (msl, .inl (cI, 40, .inl gsl)), (mco, .inl (cI, 3, .inl gco)), (mte, .inl (cI, 3, .inl (upd gte (0 : Int32).toNatClampNeg q_462))), (mwo, .inl (cI, 64, .inl gwo)), (mce, .inl (cJ, 1280, .inr (.inl gce)))]) ⟨hx, hb, hml, hown, hts⟩ (c_F_M_wrong l D cI cJ cZ cP cS po m0 mrf mki mpa mta mla msl mco mhe mso msi msh mce mca mwo mnu mte mwa mke mma mth mtr (npu) (nte) (nat_) (nde) (nto) (nse) (nhu) (nga) (nsd) (nfa) (nba) (q_485) (nen) (q_486) (q_487) (nra) (nik) (x_482) hy0 hy1 hy2 hy3 hy4 hy5 hy6 hy7 hy8 hy9 hy10 hy11 hy12 hy13 H.size) (cwV 1 hts gX8_item_X8_wrong rfl rfl rfl ⟨rfl, dh_X8_wrong⟩ ⟨Nat.le_of_ble_eq_true rfl, Nat.le_of_ble_eq_true rfl⟩) hK hN (hZ.kept hS) hP hD hS hA [9] [0, 1, 2, 3, 4, 5, 6, 7, 8, 10] rfl rfl (by decide) (by decide) (by decide) (va_recv (q := (RX8, TX8, 38)) hK hP (ci := 8) (q0 := 9) rfl rfl) rfl hl.1 rfl (Nat.le_of_ble_eq_true rfl) dX8_item_129 ⟨Nat.le_of_ble_eq_true rfl, Nat.le_of_ble_eq_true rfl⟩ (fun r_500 u_501 H locs hr_500 hP hD hS => ?_)
                              obtain ⟨q_502, rfl⟩ : ∃ z, z = u_501 := ⟨_, rfl⟩
                              obtain ⟨hsr_500_0, hr_500⟩ := hr_500
                              have h9R := zRe (ws' := [(mnu, .inl (cI, 10, .inl gnu)), (mki, .inl (cI, 8, .inl gki)), (mpa, .inl (cI, 8, .inl gpa)), (mta, .inl (cI, 8, .inl gta)), (mla, .inl (cI, 40, .inl gla)), (msl, .inl (cI, 40, .inl gsl)), (mco, .inl (cI, 3, .inl gco)), (mte, .inl (cI, 3, .inl (upd gte (0 : Int32).toNatClampNeg q_462))), (mwo, .inl (cI, 64, .inl gwo)), (mce, .inl (cJ, 1280, .inr (.inl gce))), (zMO m0 npu nte nat_ nde nto nse nhu nga nsd nfa mrf mki mpa mta mla msl mco mhe mso msi msh mce mca mwo mnu mte nba q_485 nen q_486 q_502 mwa mke mma mth mtr nra nik)]) hP hD rfl
                              clear hP hD
                              obtain ⟨hP, hD⟩ := h9R
                              obtain rfl := hr_500
                              have hI := zIn_b hn0 (by decide) hn1 (by first | (right; decide) | (left; omega))
                              exact W.zret (v := 0) hx hb hr (by decide) (fun t ht hW => ⟨⟨0, (npu, nte, nat_, nde, nse, nhu, nga, gki, gpa, gta, gla, gsl, gco, (upd gte (0 : Int32).toNatClampNeg q_462), q_485, q_486, q_502), rfl, ⟨(show 0 ≤ npu.toInt ∧ npu.toInt ≤ 8 from ⟨hy0, hy1⟩), (show 4 ≤ nte.toInt ∧ nte.toInt ≤ 40 from ⟨hy2, hy3⟩), (show 0 ≤ nat_.toInt ∧ nat_.toInt ≤ 40 from ⟨hy4, hy5⟩), (show 0 ≤ nde.toInt ∧ nde.toInt ≤ 24 from ⟨hy6, hy7⟩), (show 0 ≤ nhu.toInt ∧ nhu.toInt ≤ 9 from ⟨hy8, hy9⟩), hp_gki, hp_gpa, hp_gta, hp_gla, hp_gsl, hp_gco, (show 0 ≤ q_485.toInt ∧ q_485.toInt ≤ 160 from hbq_485), (show npl.toInt ≤ q_485.toInt ∧ q_485.toInt ≤ nen.toInt from by exact ⟨by omega, by omega⟩), (show ((0 : Int32).toInt = 1 → (zItem (zMF gce nba.toInt) nen.toInt npl.toInt nte.toInt npu.toInt).1 = -1 ∧ q_485.toInt = (zItem (zMF gce nba.toInt) nen.toInt npl.toInt nte.toInt npu.toInt).2.1 ∧ nte.toInt = (zItem (zMF gce nba.toInt) nen.toInt npl.toInt nte.toInt npu.toInt).2.2.1 ∧ npu.toInt = (zItem (zMF gce nba.toInt) nen.toInt npl.toInt nte.toInt npu.toInt).2.2.2) ∧ ((0 : Int32).toInt = 0 → (zItem (zMF gce nba.toInt) nen.toInt npl.toInt nte.toInt npu.toInt).1 = q_502.toInt ∧ 0 ≤ q_502.toInt) from by (have k9 : (0 : Int32).toInt = 0 := (by decide); rw [zItem_w hW1 (by decide) hp8 rfl hI]; dsimp only; exact ⟨fun h => absurd h (by decide), fun _ => ⟨by first | rfl | (show _ = _; omega), by omega⟩⟩)), ⟨by decide, by decide⟩⟩, zRet ht hP hD [10, 8, 0, 9, 1, 2, 3, 4, 5, 6, 7] (by decide) rfl⟩, hS.F ht⟩) hS.2.2 dX8_item_132
                          · have fc_490 : r_483.toInt = 0 := zf_eq c_490 rfl (by decide)
                            have hn1 : zN1 (zMF gce nba.toInt) nen.toInt (q_461 : Int32).toInt (zLo 2 1) (zHi 2 1 nte.toInt) = ((x_482 : Int32).toInt, (x_482 : Int32).toInt, 0) := zN1_yes (p1 := (x_482 : Int32).toInt) (lo2 := 0) (hi2 := (9 : Int)) ⟨by omega, by (rw [zMF_at (by omega), ← hdx_480]; omega)⟩ (by omega) (hsr_483_2.2 (by omega)).1.symm zNv_0.symm (by decide) (by first | rfl | decide | (show nte.toInt - 1 = _; omega) | (show nte.toInt = _; omega)) (Or.inl ⟨rfl, Or.inl rfl⟩)
                            refine lv_iconst (v := 0) hx hb dX8_item_116 (by decide) ?_
                            have hI := zIn_b hn0 (by decide) hn1 (by first | (right; decide) | (left; omega))
                            exact W.zret (v := 0) hx hb hr (by decide) (fun t ht hW => ⟨⟨0, (npu, nte, nat_, nde, nse, nhu, nga, gki, gpa, gta, gla, gsl, gco, (upd gte (0 : Int32).toNatClampNeg q_462), q_485, q_486, q_487), rfl, ⟨(show 0 ≤ npu.toInt ∧ npu.toInt ≤ 8 from ⟨hy0, hy1⟩), (show 4 ≤ nte.toInt ∧ nte.toInt ≤ 40 from ⟨hy2, hy3⟩), (show 0 ≤ nat_.toInt ∧ nat_.toInt ≤ 40 from ⟨hy4, hy5⟩), (show 0 ≤ nde.toInt ∧ nde.toInt ≤ 24 from ⟨hy6, hy7⟩), (show 0 ≤ nhu.toInt ∧ nhu.toInt ≤ 9 from ⟨hy8, hy9⟩), hp_gki, hp_gpa, hp_gta, hp_gla, hp_gsl, hp_gco, (show 0 ≤ q_485.toInt ∧ q_485.toInt ≤ 160 from hbq_485), (show npl.toInt ≤ q_485.toInt ∧ q_485.toInt ≤ nen.toInt from by exact ⟨by omega, by omega⟩), (show ((0 : Int32).toInt = 1 → (zItem (zMF gce nba.toInt) nen.toInt npl.toInt nte.toInt npu.toInt).1 = -1 ∧ q_485.toInt = (zItem (zMF gce nba.toInt) nen.toInt npl.toInt nte.toInt npu.toInt).2.1 ∧ nte.toInt = (zItem (zMF gce nba.toInt) nen.toInt npl.toInt nte.toInt npu.toInt).2.2.1 ∧ npu.toInt = (zItem (zMF gce nba.toInt) nen.toInt npl.toInt nte.toInt npu.toInt).2.2.2) ∧ ((0 : Int32).toInt = 0 → (zItem (zMF gce nba.toInt) nen.toInt npl.toInt nte.toInt npu.toInt).1 = q_487.toInt ∧ 0 ≤ q_487.toInt) from by (have k9 : (0 : Int32).toInt = 0 := (by decide); rw [zItem_w hW1 (by decide) hp8 rfl hI]; dsimp only; exact ⟨fun h => absurd h (by decide), fun _ => ⟨by first | rfl | (show _ = _; omega), by omega⟩⟩)), ⟨by decide, by decide⟩⟩, zRet ht hP hD [9, 8, 0, 10, 1, 2, 3, 4, 5, 6, 7] (by decide) rfl⟩, hS.F ht⟩) hS.2.2 dX8_item_117
                        · have fc_481 : x_480.toInt ≠ 32 := zf_ne c_481 rfl (by decide)
                          have hn1 : zN1 (zMF gce nba.toInt) nen.toInt (q_461 : Int32).toInt (zLo 2 1) (zHi 2 1 nte.toInt) = ((q_461 : Int32).toInt, (q_461 : Int32).toInt, 0) := zN1_no (by first | (intro z; have z1 := z.1; omega) | (intro z; have z2 := z.2; rw [zMF_at (by omega), ← hdx_480] at z2; omega))
                          refine lv_aload_n hx hb dX8_item_85 rfl (lv_at hl 3 rfl) ?_
                          refine lv_aload_n hx hb dX8_item_86 rfl (lv_at hl 3 rfl) ?_
                          refine va_get (D := D) (ci := 8) (v := .int q_461) (C := RX8) (T := TX8) (N := 38) hx hb hts hi_X8_item_8 hown hK hP 9 rfl rfl 27 (by decide) (hts (.fieldLink RX8 152 "TheLiningsInItModel" "place" "I") (List.mem_of_getElem? (i := 2) rfl)) (fun _ h9 => h9) rfl dX8_item_87 ?_
                          skip
                          refine zw_V (As := [.int q_461]) (rest := []) (wr := [(mnu, .inl (cI, 10, .inl gnu)), (mki, .inl (cI, 8, .inl gki)), (mpa, .inl (cI, 8, .inl gpa)), (mta, .inl (cI, 8, .inl gta)), (mla, .inl (cI, 40, .inl gla)), (msl, .inl (cI, 40, .inl gsl)), (mco, .inl (cI, 3, .inl gco)), (mte, .inl (cI, 3, .inl (upd gte (0 : Int32).toNatClampNeg q_462))), (mwo, .inl (cI, 64, .inl gwo)), (mce, .inl (cJ, 1280, .inr (.inl gce)))]) ⟨hx, hb, hml, hown, hts⟩ (c_F_M_wrong l D cI cJ cZ cP cS po m0 mrf mki mpa mta mla msl mco mhe mso msi msh mce mca mwo mnu mte mwa mke mma mth mtr (npu) (nte) (nat_) (nde) (nto) (nse) (nhu) (nga) (nsd) (nfa) (nba) (q_461) (nen) (q_462) (q_463) (nra) (nik) (q_461) hy0 hy1 hy2 hy3 hy4 hy5 hy6 hy7 hy8 hy9 hy10 hy11 hy12 hy13 H.size) (cwV 1 hts gX8_item_X8_wrong rfl rfl rfl ⟨rfl, dh_X8_wrong⟩ ⟨Nat.le_of_ble_eq_true rfl, Nat.le_of_ble_eq_true rfl⟩) hK hN (hZ.kept hS) hP hD hS hA [9] [0, 1, 2, 3, 4, 5, 6, 7, 8, 10] rfl rfl (by decide) (by decide) (by decide) (va_recv (q := (RX8, TX8, 38)) hK hP (ci := 8) (q0 := 9) rfl rfl) rfl hl.1 rfl (Nat.le_of_ble_eq_true rfl) dX8_item_90 ⟨Nat.le_of_ble_eq_true rfl, Nat.le_of_ble_eq_true rfl⟩ (fun r_503 u_504 H locs hr_503 hP hD hS => ?_)
                          obtain ⟨q_505, rfl⟩ : ∃ z, z = u_504 := ⟨_, rfl⟩
                          obtain ⟨hsr_503_0, hr_503⟩ := hr_503
                          have h9R := zRe (ws' := [(mnu, .inl (cI, 10, .inl gnu)), (mki, .inl (cI, 8, .inl gki)), (mpa, .inl (cI, 8, .inl gpa)), (mta, .inl (cI, 8, .inl gta)), (mla, .inl (cI, 40, .inl gla)), (msl, .inl (cI, 40, .inl gsl)), (mco, .inl (cI, 3, .inl gco)), (mte, .inl (cI, 3, .inl (upd gte (0 : Int32).toNatClampNeg q_462))), (mwo, .inl (cI, 64, .inl gwo)), (mce, .inl (cJ, 1280, .inr (.inl gce))), (zMO m0 npu nte nat_ nde nto nse nhu nga nsd nfa mrf mki mpa mta mla msl mco mhe mso msi msh mce mca mwo mnu mte nba q_461 nen q_462 q_505 mwa mke mma mth mtr nra nik)]) hP hD rfl
                          clear hP hD
                          obtain ⟨hP, hD⟩ := h9R
                          obtain rfl := hr_503
                          have hI := zIn_b hn0 (by decide) hn1 (by first | (right; decide) | (left; omega))
                          exact W.zret (v := 0) hx hb hr (by decide) (fun t ht hW => ⟨⟨0, (npu, nte, nat_, nde, nse, nhu, nga, gki, gpa, gta, gla, gsl, gco, (upd gte (0 : Int32).toNatClampNeg q_462), q_461, q_462, q_505), rfl, ⟨(show 0 ≤ npu.toInt ∧ npu.toInt ≤ 8 from ⟨hy0, hy1⟩), (show 4 ≤ nte.toInt ∧ nte.toInt ≤ 40 from ⟨hy2, hy3⟩), (show 0 ≤ nat_.toInt ∧ nat_.toInt ≤ 40 from ⟨hy4, hy5⟩), (show 0 ≤ nde.toInt ∧ nde.toInt ≤ 24 from ⟨hy6, hy7⟩), (show 0 ≤ nhu.toInt ∧ nhu.toInt ≤ 9 from ⟨hy8, hy9⟩), hp_gki, hp_gpa, hp_gta, hp_gla, hp_gsl, hp_gco, (show 0 ≤ q_461.toInt ∧ q_461.toInt ≤ 160 from hbq_461), (show npl.toInt ≤ q_461.toInt ∧ q_461.toInt ≤ nen.toInt from by exact ⟨by omega, by omega⟩), (show ((0 : Int32).toInt = 1 → (zItem (zMF gce nba.toInt) nen.toInt npl.toInt nte.toInt npu.toInt).1 = -1 ∧ q_461.toInt = (zItem (zMF gce nba.toInt) nen.toInt npl.toInt nte.toInt npu.toInt).2.1 ∧ nte.toInt = (zItem (zMF gce nba.toInt) nen.toInt npl.toInt nte.toInt npu.toInt).2.2.1 ∧ npu.toInt = (zItem (zMF gce nba.toInt) nen.toInt npl.toInt nte.toInt npu.toInt).2.2.2) ∧ ((0 : Int32).toInt = 0 → (zItem (zMF gce nba.toInt) nen.toInt npl.toInt nte.toInt npu.toInt).1 = q_505.toInt ∧ 0 ≤ q_505.toInt) from by (have k9 : (0 : Int32).toInt = 0 := (by decide); rw [zItem_w hW1 (by decide) hp8 rfl hI]; dsimp only; exact ⟨fun h => absurd h (by decide), fun _ => ⟨by first | rfl | (show _ = _; omega), by omega⟩⟩)), ⟨by decide, by decide⟩⟩, zRet ht hP hD [10, 8, 0, 9, 1, 2, 3, 4, 5, 6, 7] (by decide) rfl⟩, hS.F ht⟩) hS.2.2 dX8_item_93
                · have fc_470 : r_467.toInt = 0 := zf_eq c_470 rfl (by decide)
                  obtain ⟨hy1_0, hy2_0, hy3_0⟩ := hsr_459_2.1 (by omega)
                  have hn0 : zN1 (zMF gce nba.toInt) nen.toInt (npl.toInt + ((zWds ((2 : Int)).toNat).length : Int)) (zLo 2 0) (zHi 2 0 nte.toInt) = ((q_402 : Int32).toInt, (q_461 : Int32).toInt, (q_462 : Int32).toInt) := zN1_yes (p1 := (q_402 : Int32).toInt) (lo2 := 0) (hi2 := (nte.toInt - 1 : Int)) ⟨hW2, hW3⟩ (by omega) hy1_0 hy2_0 (by decide) (by first | rfl | decide | (show nte.toInt - 1 = _; omega) | (show nte.toInt = _; omega)) (by omega)
                  refine lv_aload_n hx hb dX8_item_127 rfl (lv_at hl 3 rfl) ?_
                  refine lv_iload_n hx hb dX8_item_128 rfl (lv_at hl 0 rfl) ?_
                  skip
                  refine zw_V (As := [.int q_402]) (rest := []) (wr := [(mnu, .inl (cI, 10, .inl gnu)), (mki, .inl (cI, 8, .inl gki)), (mpa, .inl (cI, 8, .inl gpa)), (mta, .inl (cI, 8, .inl gta)), (mla, .inl (cI, 40, .inl gla)), (msl, .inl (cI, 40, .inl gsl)), (mco, .inl (cI, 3, .inl gco)), (mte, .inl (cI, 3, .inl gte)), (mwo, .inl (cI, 64, .inl gwo)), (mce, .inl (cJ, 1280, .inr (.inl gce)))]) ⟨hx, hb, hml, hown, hts⟩ (c_F_M_wrong l D cI cJ cZ cP cS po m0 mrf mki mpa mta mla msl mco mhe mso msi msh mce mca mwo mnu mte mwa mke mma mth mtr (npu) (nte) (nat_) (nde) (nto) (nse) (nhu) (nga) (nsd) (nfa) (nba) (q_461) (nen) (q_462) (q_463) (nra) (nik) (q_402) hy0 hy1 hy2 hy3 hy4 hy5 hy6 hy7 hy8 hy9 hy10 hy11 hy12 hy13 H.size) (cwV 1 hts gX8_item_X8_wrong rfl rfl rfl ⟨rfl, dh_X8_wrong⟩ ⟨Nat.le_of_ble_eq_true rfl, Nat.le_of_ble_eq_true rfl⟩) hK hN (hZ.kept hS) hP hD hS hA [9] [0, 1, 2, 3, 4, 5, 6, 7, 8, 10] rfl rfl (by decide) (by decide) (by decide) (va_recv (q := (RX8, TX8, 38)) hK hP (ci := 8) (q0 := 9) rfl rfl) rfl hl.1 rfl (Nat.le_of_ble_eq_true rfl) dX8_item_129 ⟨Nat.le_of_ble_eq_true rfl, Nat.le_of_ble_eq_true rfl⟩ (fun r_506 u_507 H locs hr_506 hP hD hS => ?_)
                  obtain ⟨q_508, rfl⟩ : ∃ z, z = u_507 := ⟨_, rfl⟩
                  obtain ⟨hsr_506_0, hr_506⟩ := hr_506
                  have h9R := zRe (ws' := [(mnu, .inl (cI, 10, .inl gnu)), (mki, .inl (cI, 8, .inl gki)), (mpa, .inl (cI, 8, .inl gpa)), (mta, .inl (cI, 8, .inl gta)), (mla, .inl (cI, 40, .inl gla)), (msl, .inl (cI, 40, .inl gsl)), (mco, .inl (cI, 3, .inl gco)), (mte, .inl (cI, 3, .inl gte)), (mwo, .inl (cI, 64, .inl gwo)), (mce, .inl (cJ, 1280, .inr (.inl gce))), (zMO m0 npu nte nat_ nde nto nse nhu nga nsd nfa mrf mki mpa mta mla msl mco mhe mso msi msh mce mca mwo mnu mte nba q_461 nen q_462 q_508 mwa mke mma mth mtr nra nik)]) hP hD rfl
                  clear hP hD
                  obtain ⟨hP, hD⟩ := h9R
                  obtain rfl := hr_506
                  have hI := zIn_a hn0 (by first | (right; decide) | (left; omega))
                  exact W.zret (v := 0) hx hb hr (by decide) (fun t ht hW => ⟨⟨0, (npu, nte, nat_, nde, nse, nhu, nga, gki, gpa, gta, gla, gsl, gco, gte, q_461, q_462, q_508), rfl, ⟨(show 0 ≤ npu.toInt ∧ npu.toInt ≤ 8 from ⟨hy0, hy1⟩), (show 4 ≤ nte.toInt ∧ nte.toInt ≤ 40 from ⟨hy2, hy3⟩), (show 0 ≤ nat_.toInt ∧ nat_.toInt ≤ 40 from ⟨hy4, hy5⟩), (show 0 ≤ nde.toInt ∧ nde.toInt ≤ 24 from ⟨hy6, hy7⟩), (show 0 ≤ nhu.toInt ∧ nhu.toInt ≤ 9 from ⟨hy8, hy9⟩), hp_gki, hp_gpa, hp_gta, hp_gla, hp_gsl, hp_gco, (show 0 ≤ q_461.toInt ∧ q_461.toInt ≤ 160 from hbq_461), (show npl.toInt ≤ q_461.toInt ∧ q_461.toInt ≤ nen.toInt from by exact ⟨by omega, by omega⟩), (show ((0 : Int32).toInt = 1 → (zItem (zMF gce nba.toInt) nen.toInt npl.toInt nte.toInt npu.toInt).1 = -1 ∧ q_461.toInt = (zItem (zMF gce nba.toInt) nen.toInt npl.toInt nte.toInt npu.toInt).2.1 ∧ nte.toInt = (zItem (zMF gce nba.toInt) nen.toInt npl.toInt nte.toInt npu.toInt).2.2.1 ∧ npu.toInt = (zItem (zMF gce nba.toInt) nen.toInt npl.toInt nte.toInt npu.toInt).2.2.2) ∧ ((0 : Int32).toInt = 0 → (zItem (zMF gce nba.toInt) nen.toInt npl.toInt nte.toInt npu.toInt).1 = q_508.toInt ∧ 0 ≤ q_508.toInt) from by (have k9 : (0 : Int32).toInt = 0 := (by decide); rw [zItem_w hW1 (by decide) hp8 rfl hI]; dsimp only; exact ⟨fun h => absurd h (by decide), fun _ => ⟨by first | rfl | (show _ = _; omega), by omega⟩⟩)), ⟨by decide, by decide⟩⟩, zRet ht hP hD [10, 8, 0, 9, 1, 2, 3, 4, 5, 6, 7] (by decide) rfl⟩, hS.F ht⟩) hS.2.2 dX8_item_132
              · have fc_466 : r_459.toInt = 0 := zf_eq c_466 rfl (by decide)
                have hn0 : zN1 (zMF gce nba.toInt) nen.toInt (npl.toInt + ((zWds ((2 : Int)).toNat).length : Int)) (zLo 2 0) (zHi 2 0 nte.toInt) = ((q_402 : Int32).toInt, (q_402 : Int32).toInt, 0) := zN1_yes (p1 := (q_402 : Int32).toInt) (lo2 := 0) (hi2 := (nte.toInt - 1 : Int)) ⟨hW2, hW3⟩ (by omega) (hsr_459_2.2 (by omega)).1.symm zNv_0.symm (by decide) (by first | rfl | decide | (show nte.toInt - 1 = _; omega) | (show nte.toInt = _; omega)) (Or.inl ⟨rfl, Or.inl rfl⟩)
                refine lv_iconst (v := 0) hx hb dX8_item_116 (by decide) ?_
                have hI := zIn_a hn0 (by first | (right; decide) | (left; omega))
                exact W.zret (v := 0) hx hb hr (by decide) (fun t ht hW => ⟨⟨0, (npu, nte, nat_, nde, nse, nhu, nga, gki, gpa, gta, gla, gsl, gco, gte, q_461, q_462, q_463), rfl, ⟨(show 0 ≤ npu.toInt ∧ npu.toInt ≤ 8 from ⟨hy0, hy1⟩), (show 4 ≤ nte.toInt ∧ nte.toInt ≤ 40 from ⟨hy2, hy3⟩), (show 0 ≤ nat_.toInt ∧ nat_.toInt ≤ 40 from ⟨hy4, hy5⟩), (show 0 ≤ nde.toInt ∧ nde.toInt ≤ 24 from ⟨hy6, hy7⟩), (show 0 ≤ nhu.toInt ∧ nhu.toInt ≤ 9 from ⟨hy8, hy9⟩), hp_gki, hp_gpa, hp_gta, hp_gla, hp_gsl, hp_gco, (show 0 ≤ q_461.toInt ∧ q_461.toInt ≤ 160 from hbq_461), (show npl.toInt ≤ q_461.toInt ∧ q_461.toInt ≤ nen.toInt from by exact ⟨by omega, by omega⟩), (show ((0 : Int32).toInt = 1 → (zItem (zMF gce nba.toInt) nen.toInt npl.toInt nte.toInt npu.toInt).1 = -1 ∧ q_461.toInt = (zItem (zMF gce nba.toInt) nen.toInt npl.toInt nte.toInt npu.toInt).2.1 ∧ nte.toInt = (zItem (zMF gce nba.toInt) nen.toInt npl.toInt nte.toInt npu.toInt).2.2.1 ∧ npu.toInt = (zItem (zMF gce nba.toInt) nen.toInt npl.toInt nte.toInt npu.toInt).2.2.2) ∧ ((0 : Int32).toInt = 0 → (zItem (zMF gce nba.toInt) nen.toInt npl.toInt nte.toInt npu.toInt).1 = q_463.toInt ∧ 0 ≤ q_463.toInt) from by (have k9 : (0 : Int32).toInt = 0 := (by decide); rw [zItem_w hW1 (by decide) hp8 rfl hI]; dsimp only; exact ⟨fun h => absurd h (by decide), fun _ => ⟨by first | rfl | (show _ = _; omega), by omega⟩⟩)), ⟨by decide, by decide⟩⟩, zRet ht hP hD [9, 8, 0, 10, 1, 2, 3, 4, 5, 6, 7] (by decide) rfl⟩, hS.F ht⟩) hS.2.2 dX8_item_117
            · exact absurd c_458 (by decide)
        · have kc3 : (3 : Int32).toInt = 3 := by decide
          have z9 := hsr_400_1
          rw [kc3] at z9
          obtain ⟨hW1, hW2, hW3, hW4⟩ := zItem_Mw (f := (zMF gce nba.toInt)) (e := nen.toInt) (p := npl.toInt) (w := 3) (by omega) (by decide)
          have hp8 : ¬ ((3 : Int) = 3 ∧ npu.toInt = 8) := fun z => by (have h5 := (zPul_iff (g := gce) (b := nba.toInt) (e := nen.toInt) (pl := npl.toInt) (by omega)).mp ((zFst_w (f := (zMF gce nba.toInt)) (e := nen.toInt) (p := npl.toInt) (w := 3) (by decide) (by first | exact hW1 | (rw [hW1]; rfl))).trans (by decide)); first | exact absurd h5 (hsr_1_0.1 (by omega)) | omega)
          have hp7 : npu.toInt ≤ 7 := by omega
          refine lv_iconst (v := 0) hx hb dX8_item_38 (by decide) ?_
          refine lv_istore_n (lv' := [(2, .int 0), (1, .int 3), (0, .ref m0)]) hx hb dX8_item_39 rfl hl (by decide) rfl (fun ls hl => ?_)
          refine lv_iload_n hx hb dX8_item_40 rfl (lv_at hl 0 rfl) ?_
          refine lv_aload_n hx hb dX8_item_41 rfl (lv_at hl 2 rfl) ?_
          refine va_get (D := D) (ci := 8) (v := .ref mnu) (C := RX8) (T := TX8) (N := 38) hx hb hts hi_X8_item_8 hown hK hP 8 rfl rfl 24 (by decide) (hts (.fieldLink RX8 69 "TheLiningsInItModel" "numbers" "[I") (List.mem_of_getElem? (i := 3) rfl)) (fun _ h9 => h9) rfl dX8_item_42 ?_
          refine lv_iload_n hx hb dX8_item_45 rfl (lv_at hl 1 rfl) ?_
          refine va_iald hx hb hK hP 0 0 rfl rfl (zf_in (by decide) (by decide)) dX8_item_46 ?_
          refine lv_topi (fun x_509 ex_509 => ?_)
          obtain rfl : x_509 = 3 := ex_509.trans ((congrArg gnu (show (3 : Int32).toNatClampNeg = 3 from by decide)).trans ((hnu 3 (by decide)).trans (by decide)))
          refine lv_icmp_ge (tgt := 149) hx hb dX8_item_47 (by decide) (fun c_510 => ?_) (fun c_510 => ?_)
          · exact absurd c_510 (by decide)
          · refine lv_iload_n hx hb dX8_item_50 rfl (lv_at hl 0 rfl) ?_
            refine lv_if_le (tgt := 104) hx hb dX8_item_51 (by decide) (fun c_511 => ?_) (fun c_511 => ?_)
            · refine lv_aload_n hx hb dX8_item_104 rfl (lv_at hl 2 rfl) ?_
              refine va_get (D := D) (ci := 8) (v := .int q_402) (C := RX8) (T := TX8) (N := 38) hx hb hts hi_X8_item_8 hown hK hP 8 rfl rfl 27 (by decide) (hts (.fieldLink RX8 152 "TheLiningsInItModel" "place" "I") (List.mem_of_getElem? (i := 2) rfl)) (fun _ h9 => h9) rfl dX8_item_105 ?_
              refine lv_istore_n (lv' := [(3, .int q_402), (2, .int 0), (1, .int 3), (0, .ref m0)]) hx hb dX8_item_108 rfl hl (by decide) rfl (fun ls hl => ?_)
              refine lv_aload_n hx hb dX8_item_109 rfl (lv_at hl 3 rfl) ?_
              skip
              refine zw_V (As := []) (rest := []) (wr := [(mnu, .inl (cI, 10, .inl gnu)), (mki, .inl (cI, 8, .inl gki)), (mpa, .inl (cI, 8, .inl gpa)), (mta, .inl (cI, 8, .inl gta)), (mla, .inl (cI, 40, .inl gla)), (msl, .inl (cI, 40, .inl gsl)), (mco, .inl (cI, 3, .inl gco)), (mte, .inl (cI, 3, .inl gte)), (mwo, .inl (cI, 64, .inl gwo))]) ⟨hx, hb, hml, hown, hts⟩ (c_F_M_reads l D cI cJ cZ cP cS po m0 mrf mki mpa mta mla msl mco mhe mso msi msh mce mca mwo mnu mte mwa mke mma mth mtr (npu) (nte) (nat_) (nde) (nto) (nse) (nhu) (nga) (nsd) (nfa) (nba) (q_402) (nen) (nnu) (q_403) (nra) (nik) gce hy0 hy1 hy2 hy3 hy4 hy5 hy6 hy7 hy8 hy9 hy10 hy11 hy12 hy13 hy14 hy15 hbq_402.1 hbq_402.2 hy18 hy19 (by omega) H.size) (cwV 0 hts gX8_item_X8_reads rfl rfl rfl ⟨rfl, dh_X8_reads⟩ ⟨Nat.le_of_ble_eq_true rfl, Nat.le_of_ble_eq_true rfl⟩) hK hN (hZ.kept hS) hP hD hS hA [8, 10] [0, 1, 2, 3, 4, 5, 6, 7, 9] rfl rfl (by decide) (by decide) (by decide) (va_recv (q := (RX8, TX8, 38)) hK hP (ci := 8) (q0 := 8) rfl rfl) rfl hl.1 rfl (Nat.le_of_ble_eq_true rfl) dX8_item_110 ⟨Nat.le_of_ble_eq_true rfl, Nat.le_of_ble_eq_true rfl⟩ (fun r_512 u_513 H locs hr_512 hP hD hS => ?_)
              obtain ⟨q_514, q_515, q_516⟩ := u_513
              try dsimp only at hr_512
              obtain ⟨hbq_514, hsr_512_0, hsr_512_1, hsr_512_2, hr_512⟩ := hr_512
              have h9R := zRe (ws' := [(mnu, .inl (cI, 10, .inl gnu)), (mki, .inl (cI, 8, .inl gki)), (mpa, .inl (cI, 8, .inl gpa)), (mta, .inl (cI, 8, .inl gta)), (mla, .inl (cI, 40, .inl gla)), (msl, .inl (cI, 40, .inl gsl)), (mco, .inl (cI, 3, .inl gco)), (mte, .inl (cI, 3, .inl gte)), (mwo, .inl (cI, 64, .inl gwo)), (zMO m0 npu nte nat_ nde nto nse nhu nga nsd nfa mrf mki mpa mta mla msl mco mhe mso msi msh mce mca mwo mnu mte nba q_514 nen q_515 q_516 mwa mke mma mth mtr nra nik), (mce, .inl (cJ, 1280, .inr (.inl gce)))]) hP hD rfl
              clear hP hD
              obtain ⟨hP, hD⟩ := h9R
              obtain ⟨g_517, g_518⟩ := hr_512
              refine lv_if_ne (tgt := 118) hx hb dX8_item_113 (by decide) (fun c_519 => ?_) (fun c_519 => ?_)
              · have fc_519 : r_512.toInt ≠ 0 := zf_ne c_519 rfl (by decide)
                refine lv_aload_n hx hb dX8_item_118 rfl (lv_at hl 3 rfl) ?_
                refine lv_iload_n hx hb dX8_item_119 rfl (lv_at hl 2 rfl) ?_
                refine lv_iload_n hx hb dX8_item_120 rfl (lv_at hl 1 rfl) ?_
                refine zc_V (As := [.int 3, .int 0]) (rest := []) ⟨hx, hb, hml, hown, hts⟩ (c_F_M_isSo_3_0 l D cI cJ cZ cP cS po m0 mrf mki mpa mta mla msl mco mhe mso msi msh mce mca mwo mnu mte mwa mke mma mth mtr (npu) (nte) (nat_) (nde) (nto) (nse) (nhu) (nga) (nsd) (nfa) (nba) (q_514) (nen) (q_515) (q_516) (nra) (nik) hy0 hy1 hy2 hy3 hy4 hy5 hy6 hy7 hy8 hy9 hy10 hy11 hy12 hy13 (by omega) (by omega)) (cwV 2 hts gX8_item_X8_isSo rfl rfl rfl ⟨rfl, dh_X8_isSo⟩ ⟨Nat.le_of_ble_eq_true rfl, Nat.le_of_ble_eq_true rfl⟩) hK hN (hZ.kept hS) hP (hP.sub [9] rfl) (va_recv (q := (RX8, TX8, 38)) hK hP (ci := 8) (q0 := 9) rfl rfl) rfl hl.1 rfl (Nat.le_of_ble_eq_true rfl) dX8_item_121 ⟨Nat.le_of_ble_eq_true rfl, Nat.le_of_ble_eq_true rfl⟩ (fun r_520 hr_520 => ?_)
                obtain ⟨g_521, g_522, hsr_520_0⟩ := hr_520
                refine lv_if_ne (tgt := 133) hx hb dX8_item_124 (by decide) (fun c_523 => ?_) (fun c_523 => ?_)
                · have fc_523 : r_520.toInt ≠ 0 := zf_ne c_523 rfl (by decide)
                  obtain ⟨hy1_0, hy2_0, hy3_0⟩ := hsr_512_2.1 (by omega)
                  have hn0 : zN1 (zMF gce nba.toInt) nen.toInt (npl.toInt + ((zWds ((3 : Int)).toNat).length : Int)) (zLo 3 0) (zHi 3 0 nte.toInt) = (-1, (q_514 : Int32).toInt, (q_515 : Int32).toInt) := zN1_yes (p1 := (q_402 : Int32).toInt) (lo2 := 0) (hi2 := (6 : Int)) ⟨hW2, hW3⟩ (by omega) hy1_0 hy2_0 (by decide) (by first | rfl | decide | (show nte.toInt - 1 = _; omega) | (show nte.toInt = _; omega)) (by omega)
                  refine lv_aload_n hx hb dX8_item_133 rfl (lv_at hl 3 rfl) ?_
                  refine va_get (D := D) (ci := 8) (v := .ref mte) (C := RX8) (T := TX8) (N := 38) hx hb hts hi_X8_item_8 hown hK hP 9 rfl rfl 25 (by decide) (hts (.fieldLink RX8 72 "TheLiningsInItModel" "tell" "[I") (List.mem_of_getElem? (i := 7) rfl)) (fun _ h9 => h9) rfl dX8_item_134 ?_
                  refine lv_iload_n hx hb dX8_item_137 rfl (lv_at hl 1 rfl) ?_
                  refine lv_aload_n hx hb dX8_item_138 rfl (lv_at hl 3 rfl) ?_
                  refine va_get (D := D) (ci := 8) (v := .int q_515) (C := RX8) (T := TX8) (N := 38) hx hb hts hi_X8_item_8 hown hK hP 9 rfl rfl 29 (by decide) (hts (.fieldLink RX8 161 "TheLiningsInItModel" "number" "I") (List.mem_of_getElem? (i := 8) rfl)) (fun _ h9 => h9) rfl dX8_item_139 ?_
                  refine va_iast hx hb hK hP hD hS 7 0 rfl rfl (zf_in (by decide) (by decide)) dX8_item_142 (fun H locs hP hD hS => ?_)
                  have h9R := zRe (ws' := [(mnu, .inl (cI, 10, .inl gnu)), (mki, .inl (cI, 8, .inl gki)), (mpa, .inl (cI, 8, .inl gpa)), (mta, .inl (cI, 8, .inl gta)), (mla, .inl (cI, 40, .inl gla)), (msl, .inl (cI, 40, .inl gsl)), (mco, .inl (cI, 3, .inl gco)), (mte, .inl (cI, 3, .inl (upd gte (0 : Int32).toNatClampNeg q_515))), (mwo, .inl (cI, 64, .inl gwo)), (zMO m0 npu nte nat_ nde nto nse nhu nga nsd nfa mrf mki mpa mta mla msl mco mhe mso msi msh mce mca mwo mnu mte nba q_514 nen q_515 q_516 mwa mke mma mth mtr nra nik), (mce, .inl (cJ, 1280, .inr (.inl gce)))]) hP hD rfl
                  clear hP hD
                  obtain ⟨hP, hD⟩ := h9R
                  refine lv_iinc (v := 1) (lv' := [(2, .int 1), (3, .int q_402), (1, .int 3), (0, .ref m0)]) hx hb dX8_item_143 hl (k := 1) rfl (by decide) (by decide) rfl (fun ls hl => ?_)
                  refine lv_goto (tgt := 40) hx hb dX8_item_146 (by decide) ?_
                  refine lv_iload_n hx hb dX8_item_40 rfl (lv_at hl 0 rfl) ?_
                  refine lv_aload_n hx hb dX8_item_41 rfl (lv_at hl 3 rfl) ?_
                  refine va_get (D := D) (ci := 8) (v := .ref mnu) (C := RX8) (T := TX8) (N := 38) hx hb hts hi_X8_item_8 hown hK hP 9 rfl rfl 24 (by decide) (hts (.fieldLink RX8 69 "TheLiningsInItModel" "numbers" "[I") (List.mem_of_getElem? (i := 3) rfl)) (fun _ h9 => h9) rfl dX8_item_42 ?_
                  refine lv_iload_n hx hb dX8_item_45 rfl (lv_at hl 2 rfl) ?_
                  refine va_iald hx hb hK hP 0 0 rfl rfl (zf_in (by decide) (by decide)) dX8_item_46 ?_
                  refine lv_topi (fun x_524 ex_524 => ?_)
                  obtain rfl : x_524 = 3 := ex_524.trans ((congrArg gnu (show (3 : Int32).toNatClampNeg = 3 from by decide)).trans ((hnu 3 (by decide)).trans (by decide)))
                  refine lv_icmp_ge (tgt := 149) hx hb dX8_item_47 (by decide) (fun c_525 => ?_) (fun c_525 => ?_)
                  · exact absurd c_525 (by decide)
                  · refine lv_iload_n hx hb dX8_item_50 rfl (lv_at hl 0 rfl) ?_
                    refine lv_if_le (tgt := 104) hx hb dX8_item_51 (by decide) (fun c_526 => ?_) (fun c_526 => ?_)
                    · exact absurd c_526 (by decide)
                    · refine lv_aload_n hx hb dX8_item_54 rfl (lv_at hl 3 rfl) ?_
                      refine va_get (D := D) (ci := 8) (v := .int q_514) (C := RX8) (T := TX8) (N := 38) hx hb hts hi_X8_item_8 hown hK hP 9 rfl rfl 27 (by decide) (hts (.fieldLink RX8 152 "TheLiningsInItModel" "place" "I") (List.mem_of_getElem? (i := 2) rfl)) (fun _ h9 => h9) rfl dX8_item_55 ?_
                      refine lv_aload_n hx hb dX8_item_58 rfl (lv_at hl 3 rfl) ?_
                      refine va_get (D := D) (ci := 8) (v := .int nen) (C := RX8) (T := TX8) (N := 38) hx hb hts hi_X8_item_8 hown hK hP 9 rfl rfl 28 (by decide) (hts (.fieldLink RX8 155 "TheLiningsInItModel" "end" "I") (List.mem_of_getElem? (i := 4) rfl)) (fun _ h9 => h9) rfl dX8_item_59 ?_
                      refine lv_icmp_ge (tgt := 85) hx hb dX8_item_62 (by decide) (fun c_527 => ?_) (fun c_527 => ?_)
                      · have fc_527 : nen.toInt ≤ q_514.toInt := zf_le c_527 rfl rfl
                        have hn1 : zN1 (zMF gce nba.toInt) nen.toInt (q_514 : Int32).toInt (zLo 3 1) (zHi 3 1 nte.toInt) = ((q_514 : Int32).toInt, (q_514 : Int32).toInt, 0) := zN1_no (by first | (intro z; have z1 := z.1; omega))
                        refine lv_aload_n hx hb dX8_item_85 rfl (lv_at hl 3 rfl) ?_
                        refine lv_aload_n hx hb dX8_item_86 rfl (lv_at hl 3 rfl) ?_
                        refine va_get (D := D) (ci := 8) (v := .int q_514) (C := RX8) (T := TX8) (N := 38) hx hb hts hi_X8_item_8 hown hK hP 9 rfl rfl 27 (by decide) (hts (.fieldLink RX8 152 "TheLiningsInItModel" "place" "I") (List.mem_of_getElem? (i := 2) rfl)) (fun _ h9 => h9) rfl dX8_item_87 ?_
                        skip
                        refine zw_V (As := [.int q_514]) (rest := []) (wr := [(mnu, .inl (cI, 10, .inl gnu)), (mki, .inl (cI, 8, .inl gki)), (mpa, .inl (cI, 8, .inl gpa)), (mta, .inl (cI, 8, .inl gta)), (mla, .inl (cI, 40, .inl gla)), (msl, .inl (cI, 40, .inl gsl)), (mco, .inl (cI, 3, .inl gco)), (mte, .inl (cI, 3, .inl (upd gte (0 : Int32).toNatClampNeg q_515))), (mwo, .inl (cI, 64, .inl gwo)), (mce, .inl (cJ, 1280, .inr (.inl gce)))]) ⟨hx, hb, hml, hown, hts⟩ (c_F_M_wrong l D cI cJ cZ cP cS po m0 mrf mki mpa mta mla msl mco mhe mso msi msh mce mca mwo mnu mte mwa mke mma mth mtr (npu) (nte) (nat_) (nde) (nto) (nse) (nhu) (nga) (nsd) (nfa) (nba) (q_514) (nen) (q_515) (q_516) (nra) (nik) (q_514) hy0 hy1 hy2 hy3 hy4 hy5 hy6 hy7 hy8 hy9 hy10 hy11 hy12 hy13 H.size) (cwV 1 hts gX8_item_X8_wrong rfl rfl rfl ⟨rfl, dh_X8_wrong⟩ ⟨Nat.le_of_ble_eq_true rfl, Nat.le_of_ble_eq_true rfl⟩) hK hN (hZ.kept hS) hP hD hS hA [9] [0, 1, 2, 3, 4, 5, 6, 7, 8, 10] rfl rfl (by decide) (by decide) (by decide) (va_recv (q := (RX8, TX8, 38)) hK hP (ci := 8) (q0 := 9) rfl rfl) rfl hl.1 rfl (Nat.le_of_ble_eq_true rfl) dX8_item_90 ⟨Nat.le_of_ble_eq_true rfl, Nat.le_of_ble_eq_true rfl⟩ (fun r_528 u_529 H locs hr_528 hP hD hS => ?_)
                        obtain ⟨q_530, rfl⟩ : ∃ z, z = u_529 := ⟨_, rfl⟩
                        obtain ⟨hsr_528_0, hr_528⟩ := hr_528
                        have h9R := zRe (ws' := [(mnu, .inl (cI, 10, .inl gnu)), (mki, .inl (cI, 8, .inl gki)), (mpa, .inl (cI, 8, .inl gpa)), (mta, .inl (cI, 8, .inl gta)), (mla, .inl (cI, 40, .inl gla)), (msl, .inl (cI, 40, .inl gsl)), (mco, .inl (cI, 3, .inl gco)), (mte, .inl (cI, 3, .inl (upd gte (0 : Int32).toNatClampNeg q_515))), (mwo, .inl (cI, 64, .inl gwo)), (mce, .inl (cJ, 1280, .inr (.inl gce))), (zMO m0 npu nte nat_ nde nto nse nhu nga nsd nfa mrf mki mpa mta mla msl mco mhe mso msi msh mce mca mwo mnu mte nba q_514 nen q_515 q_530 mwa mke mma mth mtr nra nik)]) hP hD rfl
                        clear hP hD
                        obtain ⟨hP, hD⟩ := h9R
                        obtain rfl := hr_528
                        have hI := zIn_b hn0 (by decide) hn1 (by first | (right; decide) | (left; omega))
                        exact W.zret (v := 0) hx hb hr (by decide) (fun t ht hW => ⟨⟨0, (npu, nte, nat_, nde, nse, nhu, nga, gki, gpa, gta, gla, gsl, gco, (upd gte (0 : Int32).toNatClampNeg q_515), q_514, q_515, q_530), rfl, ⟨(show 0 ≤ npu.toInt ∧ npu.toInt ≤ 8 from ⟨hy0, hy1⟩), (show 4 ≤ nte.toInt ∧ nte.toInt ≤ 40 from ⟨hy2, hy3⟩), (show 0 ≤ nat_.toInt ∧ nat_.toInt ≤ 40 from ⟨hy4, hy5⟩), (show 0 ≤ nde.toInt ∧ nde.toInt ≤ 24 from ⟨hy6, hy7⟩), (show 0 ≤ nhu.toInt ∧ nhu.toInt ≤ 9 from ⟨hy8, hy9⟩), hp_gki, hp_gpa, hp_gta, hp_gla, hp_gsl, hp_gco, (show 0 ≤ q_514.toInt ∧ q_514.toInt ≤ 160 from hbq_514), (show npl.toInt ≤ q_514.toInt ∧ q_514.toInt ≤ nen.toInt from by exact ⟨by omega, by omega⟩), (show ((0 : Int32).toInt = 1 → (zItem (zMF gce nba.toInt) nen.toInt npl.toInt nte.toInt npu.toInt).1 = -1 ∧ q_514.toInt = (zItem (zMF gce nba.toInt) nen.toInt npl.toInt nte.toInt npu.toInt).2.1 ∧ nte.toInt = (zItem (zMF gce nba.toInt) nen.toInt npl.toInt nte.toInt npu.toInt).2.2.1 ∧ npu.toInt = (zItem (zMF gce nba.toInt) nen.toInt npl.toInt nte.toInt npu.toInt).2.2.2) ∧ ((0 : Int32).toInt = 0 → (zItem (zMF gce nba.toInt) nen.toInt npl.toInt nte.toInt npu.toInt).1 = q_530.toInt ∧ 0 ≤ q_530.toInt) from by (have k9 : (0 : Int32).toInt = 0 := (by decide); rw [zItem_w hW1 (by decide) hp8 rfl hI]; dsimp only; exact ⟨fun h => absurd h (by decide), fun _ => ⟨by first | rfl | (show _ = _; omega), by omega⟩⟩)), ⟨by decide, by decide⟩⟩, zRet ht hP hD [10, 8, 0, 9, 1, 2, 3, 4, 5, 6, 7] (by decide) rfl⟩, hS.F ht⟩) hS.2.2 dX8_item_93
                      · have fc_527 : q_514.toInt < nen.toInt := zf_nle c_527 rfl rfl
                        refine lv_aload_n hx hb dX8_item_65 rfl (lv_at hl 3 rfl) ?_
                        refine va_get (D := D) (ci := 8) (v := .ref mce) (C := RX8) (T := TX8) (N := 38) hx hb hts hi_X8_item_8 hown hK hP 9 rfl rfl 21 (by decide) (hts (.fieldLink RX8 59 "TheLiningsInItModel" "cells" "[J") (List.mem_of_getElem? (i := 5) rfl)) (fun _ h9 => h9) rfl dX8_item_66 ?_
                        refine lv_aload_n hx hb dX8_item_69 rfl (lv_at hl 3 rfl) ?_
                        refine va_get (D := D) (ci := 8) (v := .int nba) (C := RX8) (T := TX8) (N := 38) hx hb hts hi_X8_item_8 hown hK hP 9 rfl rfl 26 (by decide) (hts (.fieldLink RX8 158 "TheLiningsInItModel" "base" "I") (List.mem_of_getElem? (i := 6) rfl)) (fun _ h9 => h9) rfl dX8_item_70 ?_
                        refine lv_aload_n hx hb dX8_item_73 rfl (lv_at hl 3 rfl) ?_
                        refine va_get (D := D) (ci := 8) (v := .int q_514) (C := RX8) (T := TX8) (N := 38) hx hb hts hi_X8_item_8 hown hK hP 9 rfl rfl 27 (by decide) (hts (.fieldLink RX8 152 "TheLiningsInItModel" "place" "I") (List.mem_of_getElem? (i := 2) rfl)) (fun _ h9 => h9) rfl dX8_item_74 ?_
                        refine lv_iadd hx hb dX8_item_77 ?_
                        refine lv_topi (fun x_531 ex_531 => ?_)
                        have qx_531 : x_531.toInt = nba.toInt + q_514.toInt := by rw [ex_531]; exact zf_add rfl rfl (by omega) (by omega)
                        refine va_lald hx hb hK hP 10 1 rfl rfl (zf_in (by omega) (by omega)) dX8_item_78 ?_
                        refine lv_topl (fun x_532 ex_532 => ?_)
                        refine lv_l2i hx hb dX8_item_79 rfl ?_
                        refine lv_topi (fun x_533 ex_533 => ?_)
                        have hcx_533 : x_533 = zChX gce (nba.toInt + q_514.toInt).toNat := by rw [ex_533, ex_532]; unfold zChX; congr 2; (show x_531.toInt.toNat = _; omega)
                        have hdx_533 : x_533.toInt = (zChX gce (nba.toInt + q_514.toInt).toNat).toInt := by rw [hcx_533]
                        refine lv_bipush (v := 32) hx hb dX8_item_80 (by decide) ?_
                        refine lv_icmp_eq (tgt := 94) hx hb dX8_item_82 (by decide) (fun c_534 => ?_) (fun c_534 => ?_)
                        · have fc_534 : x_533.toInt = 32 := zf_eq c_534 rfl (by decide)
                          refine lv_aload_n hx hb dX8_item_94 rfl (lv_at hl 3 rfl) ?_
                          refine lv_dup hx hb dX8_item_95 rfl ?_
                          refine va_get (D := D) (ci := 8) (v := .int q_514) (C := RX8) (T := TX8) (N := 38) hx hb hts hi_X8_item_8 hown hK hP 9 rfl rfl 27 (by decide) (hts (.fieldLink RX8 152 "TheLiningsInItModel" "place" "I") (List.mem_of_getElem? (i := 2) rfl)) (fun _ h9 => h9) rfl dX8_item_96 ?_
                          refine lv_iconst (v := 1) hx hb dX8_item_99 (by decide) ?_
                          refine lv_iadd hx hb dX8_item_100 ?_
                          refine lv_topi (fun x_535 ex_535 => ?_)
                          have qx_535 : x_535.toInt = q_514.toInt + 1 := dw_inc ex_535 fc_527
                          refine va_put (D := D) (ci := 8) (v := .int x_535) (ty := .int) (C := RX8) (T := TX8) (N := 38) hx hb hts hi_X8_item_8 tyX8 tyX8_ok nmX8 hown hK hP hD hS 9 rfl rfl 27 (by decide) (hts (.fieldLink RX8 152 "TheLiningsInItModel" "place" "I") (List.mem_of_getElem? (i := 2) rfl)) (fun _ h9 => h9) rfl (tyX8_ok 27 (Nat.le_of_ble_eq_true rfl)) rfl rfl (Nat.le_of_ble_eq_true rfl) dX8_item_101 (fun H locs hP hD hS => ?_)
                          have h9R := zRe (ws' := [(mnu, .inl (cI, 10, .inl gnu)), (mki, .inl (cI, 8, .inl gki)), (mpa, .inl (cI, 8, .inl gpa)), (mta, .inl (cI, 8, .inl gta)), (mla, .inl (cI, 40, .inl gla)), (msl, .inl (cI, 40, .inl gsl)), (mco, .inl (cI, 3, .inl gco)), (mte, .inl (cI, 3, .inl (upd gte (0 : Int32).toNatClampNeg q_515))), (mwo, .inl (cI, 64, .inl gwo)), (zMO m0 npu nte nat_ nde nto nse nhu nga nsd nfa mrf mki mpa mta mla msl mco mhe mso msi msh mce mca mwo mnu mte nba x_535 nen q_515 q_516 mwa mke mma mth mtr nra nik), (mce, .inl (cJ, 1280, .inr (.inl gce)))]) hP hD rfl
                          clear hP hD
                          obtain ⟨hP, hD⟩ := h9R
                          refine lv_aload_n hx hb dX8_item_104 rfl (lv_at hl 3 rfl) ?_
                          refine va_get (D := D) (ci := 8) (v := .int x_535) (C := RX8) (T := TX8) (N := 38) hx hb hts hi_X8_item_8 hown hK hP 9 rfl rfl 27 (by decide) (hts (.fieldLink RX8 152 "TheLiningsInItModel" "place" "I") (List.mem_of_getElem? (i := 2) rfl)) (fun _ h9 => h9) rfl dX8_item_105 ?_
                          refine lv_istore_n (lv' := [(3, .int x_535), (2, .int 1), (1, .int 3), (0, .ref m0)]) hx hb dX8_item_108 rfl hl (by decide) rfl (fun ls hl => ?_)
                          refine lv_aload_n hx hb dX8_item_109 rfl (lv_at hl 3 rfl) ?_
                          skip
                          refine zw_V (As := []) (rest := []) (wr := [(mnu, .inl (cI, 10, .inl gnu)), (mki, .inl (cI, 8, .inl gki)), (mpa, .inl (cI, 8, .inl gpa)), (mta, .inl (cI, 8, .inl gta)), (mla, .inl (cI, 40, .inl gla)), (msl, .inl (cI, 40, .inl gsl)), (mco, .inl (cI, 3, .inl gco)), (mte, .inl (cI, 3, .inl (upd gte (0 : Int32).toNatClampNeg q_515))), (mwo, .inl (cI, 64, .inl gwo))]) ⟨hx, hb, hml, hown, hts⟩ (c_F_M_reads l D cI cJ cZ cP cS po m0 mrf mki mpa mta mla msl mco mhe mso msi msh mce mca mwo mnu mte mwa mke mma mth mtr (npu) (nte) (nat_) (nde) (nto) (nse) (nhu) (nga) (nsd) (nfa) (nba) (x_535) (nen) (q_515) (q_516) (nra) (nik) gce hy0 hy1 hy2 hy3 hy4 hy5 hy6 hy7 hy8 hy9 hy10 hy11 hy12 hy13 hy14 hy15 (by omega) (by omega) hy18 hy19 (by omega) H.size) (cwV 0 hts gX8_item_X8_reads rfl rfl rfl ⟨rfl, dh_X8_reads⟩ ⟨Nat.le_of_ble_eq_true rfl, Nat.le_of_ble_eq_true rfl⟩) hK hN (hZ.kept hS) hP hD hS hA [9, 10] [0, 1, 2, 3, 4, 5, 6, 7, 8] rfl rfl (by decide) (by decide) (by decide) (va_recv (q := (RX8, TX8, 38)) hK hP (ci := 8) (q0 := 9) rfl rfl) rfl hl.1 rfl (Nat.le_of_ble_eq_true rfl) dX8_item_110 ⟨Nat.le_of_ble_eq_true rfl, Nat.le_of_ble_eq_true rfl⟩ (fun r_536 u_537 H locs hr_536 hP hD hS => ?_)
                          obtain ⟨q_538, q_539, q_540⟩ := u_537
                          try dsimp only at hr_536
                          obtain ⟨hbq_538, hsr_536_0, hsr_536_1, hsr_536_2, hr_536⟩ := hr_536
                          have h9R := zRe (ws' := [(mnu, .inl (cI, 10, .inl gnu)), (mki, .inl (cI, 8, .inl gki)), (mpa, .inl (cI, 8, .inl gpa)), (mta, .inl (cI, 8, .inl gta)), (mla, .inl (cI, 40, .inl gla)), (msl, .inl (cI, 40, .inl gsl)), (mco, .inl (cI, 3, .inl gco)), (mte, .inl (cI, 3, .inl (upd gte (0 : Int32).toNatClampNeg q_515))), (mwo, .inl (cI, 64, .inl gwo)), (zMO m0 npu nte nat_ nde nto nse nhu nga nsd nfa mrf mki mpa mta mla msl mco mhe mso msi msh mce mca mwo mnu mte nba q_538 nen q_539 q_540 mwa mke mma mth mtr nra nik), (mce, .inl (cJ, 1280, .inr (.inl gce)))]) hP hD rfl
                          clear hP hD
                          obtain ⟨hP, hD⟩ := h9R
                          obtain ⟨g_541, g_542⟩ := hr_536
                          refine lv_if_ne (tgt := 118) hx hb dX8_item_113 (by decide) (fun c_543 => ?_) (fun c_543 => ?_)
                          · have fc_543 : r_536.toInt ≠ 0 := zf_ne c_543 rfl (by decide)
                            refine lv_aload_n hx hb dX8_item_118 rfl (lv_at hl 3 rfl) ?_
                            refine lv_iload_n hx hb dX8_item_119 rfl (lv_at hl 2 rfl) ?_
                            refine lv_iload_n hx hb dX8_item_120 rfl (lv_at hl 1 rfl) ?_
                            refine zc_V (As := [.int 3, .int 1]) (rest := []) ⟨hx, hb, hml, hown, hts⟩ (c_F_M_isSo_3_1 l D cI cJ cZ cP cS po m0 mrf mki mpa mta mla msl mco mhe mso msi msh mce mca mwo mnu mte mwa mke mma mth mtr (npu) (nte) (nat_) (nde) (nto) (nse) (nhu) (nga) (nsd) (nfa) (nba) (q_538) (nen) (q_539) (q_540) (nra) (nik) hy0 hy1 hy2 hy3 hy4 hy5 hy6 hy7 hy8 hy9 hy10 hy11 hy12 hy13 (by omega) (by omega)) (cwV 2 hts gX8_item_X8_isSo rfl rfl rfl ⟨rfl, dh_X8_isSo⟩ ⟨Nat.le_of_ble_eq_true rfl, Nat.le_of_ble_eq_true rfl⟩) hK hN (hZ.kept hS) hP (hP.sub [9] rfl) (va_recv (q := (RX8, TX8, 38)) hK hP (ci := 8) (q0 := 9) rfl rfl) rfl hl.1 rfl (Nat.le_of_ble_eq_true rfl) dX8_item_121 ⟨Nat.le_of_ble_eq_true rfl, Nat.le_of_ble_eq_true rfl⟩ (fun r_544 hr_544 => ?_)
                            obtain ⟨g_545, g_546, hsr_544_0⟩ := hr_544
                            refine lv_if_ne (tgt := 133) hx hb dX8_item_124 (by decide) (fun c_547 => ?_) (fun c_547 => ?_)
                            · have fc_547 : r_544.toInt ≠ 0 := zf_ne c_547 rfl (by decide)
                              obtain ⟨hy1_1, hy2_1, hy3_1⟩ := hsr_536_2.1 (by omega)
                              have hn1 : zN1 (zMF gce nba.toInt) nen.toInt (q_514 : Int32).toInt (zLo 3 1) (zHi 3 1 nte.toInt) = (-1, (q_538 : Int32).toInt, (q_539 : Int32).toInt) := zN1_yes (p1 := (x_535 : Int32).toInt) (lo2 := 0) (hi2 := (9 : Int)) ⟨by omega, by (rw [zMF_at (by omega), ← hdx_533]; omega)⟩ (by omega) hy1_1 hy2_1 (by decide) (by first | rfl | decide | (show nte.toInt - 1 = _; omega) | (show nte.toInt = _; omega)) (by omega)
                              refine lv_aload_n hx hb dX8_item_133 rfl (lv_at hl 3 rfl) ?_
                              refine va_get (D := D) (ci := 8) (v := .ref mte) (C := RX8) (T := TX8) (N := 38) hx hb hts hi_X8_item_8 hown hK hP 9 rfl rfl 25 (by decide) (hts (.fieldLink RX8 72 "TheLiningsInItModel" "tell" "[I") (List.mem_of_getElem? (i := 7) rfl)) (fun _ h9 => h9) rfl dX8_item_134 ?_
                              refine lv_iload_n hx hb dX8_item_137 rfl (lv_at hl 1 rfl) ?_
                              refine lv_aload_n hx hb dX8_item_138 rfl (lv_at hl 3 rfl) ?_
                              refine va_get (D := D) (ci := 8) (v := .int q_539) (C := RX8) (T := TX8) (N := 38) hx hb hts hi_X8_item_8 hown hK hP 9 rfl rfl 29 (by decide) (hts (.fieldLink RX8 161 "TheLiningsInItModel" "number" "I") (List.mem_of_getElem? (i := 8) rfl)) (fun _ h9 => h9) rfl dX8_item_139 ?_
                              refine va_iast hx hb hK hP hD hS 7 0 rfl rfl (zf_in (by decide) (by decide)) dX8_item_142 (fun H locs hP hD hS => ?_)
                              have h9R := zRe (ws' := [(mnu, .inl (cI, 10, .inl gnu)), (mki, .inl (cI, 8, .inl gki)), (mpa, .inl (cI, 8, .inl gpa)), (mta, .inl (cI, 8, .inl gta)), (mla, .inl (cI, 40, .inl gla)), (msl, .inl (cI, 40, .inl gsl)), (mco, .inl (cI, 3, .inl gco)), (mte, .inl (cI, 3, .inl (upd (upd gte (0 : Int32).toNatClampNeg q_515) (1 : Int32).toNatClampNeg q_539))), (mwo, .inl (cI, 64, .inl gwo)), (zMO m0 npu nte nat_ nde nto nse nhu nga nsd nfa mrf mki mpa mta mla msl mco mhe mso msi msh mce mca mwo mnu mte nba q_538 nen q_539 q_540 mwa mke mma mth mtr nra nik), (mce, .inl (cJ, 1280, .inr (.inl gce)))]) hP hD rfl
                              clear hP hD
                              obtain ⟨hP, hD⟩ := h9R
                              refine lv_iinc (v := 2) (lv' := [(2, .int 2), (3, .int x_535), (1, .int 3), (0, .ref m0)]) hx hb dX8_item_143 hl (k := 1) rfl (by decide) (by decide) rfl (fun ls hl => ?_)
                              refine lv_goto (tgt := 40) hx hb dX8_item_146 (by decide) ?_
                              refine lv_iload_n hx hb dX8_item_40 rfl (lv_at hl 0 rfl) ?_
                              refine lv_aload_n hx hb dX8_item_41 rfl (lv_at hl 3 rfl) ?_
                              refine va_get (D := D) (ci := 8) (v := .ref mnu) (C := RX8) (T := TX8) (N := 38) hx hb hts hi_X8_item_8 hown hK hP 9 rfl rfl 24 (by decide) (hts (.fieldLink RX8 69 "TheLiningsInItModel" "numbers" "[I") (List.mem_of_getElem? (i := 3) rfl)) (fun _ h9 => h9) rfl dX8_item_42 ?_
                              refine lv_iload_n hx hb dX8_item_45 rfl (lv_at hl 2 rfl) ?_
                              refine va_iald hx hb hK hP 0 0 rfl rfl (zf_in (by decide) (by decide)) dX8_item_46 ?_
                              refine lv_topi (fun x_548 ex_548 => ?_)
                              obtain rfl : x_548 = 3 := ex_548.trans ((congrArg gnu (show (3 : Int32).toNatClampNeg = 3 from by decide)).trans ((hnu 3 (by decide)).trans (by decide)))
                              refine lv_icmp_ge (tgt := 149) hx hb dX8_item_47 (by decide) (fun c_549 => ?_) (fun c_549 => ?_)
                              · exact absurd c_549 (by decide)
                              · refine lv_iload_n hx hb dX8_item_50 rfl (lv_at hl 0 rfl) ?_
                                refine lv_if_le (tgt := 104) hx hb dX8_item_51 (by decide) (fun c_550 => ?_) (fun c_550 => ?_)
                                · exact absurd c_550 (by decide)
                                · refine lv_aload_n hx hb dX8_item_54 rfl (lv_at hl 3 rfl) ?_
                                  refine va_get (D := D) (ci := 8) (v := .int q_538) (C := RX8) (T := TX8) (N := 38) hx hb hts hi_X8_item_8 hown hK hP 9 rfl rfl 27 (by decide) (hts (.fieldLink RX8 152 "TheLiningsInItModel" "place" "I") (List.mem_of_getElem? (i := 2) rfl)) (fun _ h9 => h9) rfl dX8_item_55 ?_
                                  refine lv_aload_n hx hb dX8_item_58 rfl (lv_at hl 3 rfl) ?_
                                  refine va_get (D := D) (ci := 8) (v := .int nen) (C := RX8) (T := TX8) (N := 38) hx hb hts hi_X8_item_8 hown hK hP 9 rfl rfl 28 (by decide) (hts (.fieldLink RX8 155 "TheLiningsInItModel" "end" "I") (List.mem_of_getElem? (i := 4) rfl)) (fun _ h9 => h9) rfl dX8_item_59 ?_
                                  refine lv_icmp_ge (tgt := 85) hx hb dX8_item_62 (by decide) (fun c_551 => ?_) (fun c_551 => ?_)
                                  · have fc_551 : nen.toInt ≤ q_538.toInt := zf_le c_551 rfl rfl
                                    have hn2 : zN1 (zMF gce nba.toInt) nen.toInt (q_538 : Int32).toInt (zLo 3 2) (zHi 3 2 nte.toInt) = ((q_538 : Int32).toInt, (q_538 : Int32).toInt, 0) := zN1_no (by first | (intro z; have z1 := z.1; omega) | (intro z; have z2 := z.2; rw [zMF_at (by omega), ← hdx_533] at z2; omega))
                                    refine lv_aload_n hx hb dX8_item_85 rfl (lv_at hl 3 rfl) ?_
                                    refine lv_aload_n hx hb dX8_item_86 rfl (lv_at hl 3 rfl) ?_
                                    refine va_get (D := D) (ci := 8) (v := .int q_538) (C := RX8) (T := TX8) (N := 38) hx hb hts hi_X8_item_8 hown hK hP 9 rfl rfl 27 (by decide) (hts (.fieldLink RX8 152 "TheLiningsInItModel" "place" "I") (List.mem_of_getElem? (i := 2) rfl)) (fun _ h9 => h9) rfl dX8_item_87 ?_
                                    skip
                                    refine zw_V (As := [.int q_538]) (rest := []) (wr := [(mnu, .inl (cI, 10, .inl gnu)), (mki, .inl (cI, 8, .inl gki)), (mpa, .inl (cI, 8, .inl gpa)), (mta, .inl (cI, 8, .inl gta)), (mla, .inl (cI, 40, .inl gla)), (msl, .inl (cI, 40, .inl gsl)), (mco, .inl (cI, 3, .inl gco)), (mte, .inl (cI, 3, .inl (upd (upd gte (0 : Int32).toNatClampNeg q_515) (1 : Int32).toNatClampNeg q_539))), (mwo, .inl (cI, 64, .inl gwo)), (mce, .inl (cJ, 1280, .inr (.inl gce)))]) ⟨hx, hb, hml, hown, hts⟩ (c_F_M_wrong l D cI cJ cZ cP cS po m0 mrf mki mpa mta mla msl mco mhe mso msi msh mce mca mwo mnu mte mwa mke mma mth mtr (npu) (nte) (nat_) (nde) (nto) (nse) (nhu) (nga) (nsd) (nfa) (nba) (q_538) (nen) (q_539) (q_540) (nra) (nik) (q_538) hy0 hy1 hy2 hy3 hy4 hy5 hy6 hy7 hy8 hy9 hy10 hy11 hy12 hy13 H.size) (cwV 1 hts gX8_item_X8_wrong rfl rfl rfl ⟨rfl, dh_X8_wrong⟩ ⟨Nat.le_of_ble_eq_true rfl, Nat.le_of_ble_eq_true rfl⟩) hK hN (hZ.kept hS) hP hD hS hA [9] [0, 1, 2, 3, 4, 5, 6, 7, 8, 10] rfl rfl (by decide) (by decide) (by decide) (va_recv (q := (RX8, TX8, 38)) hK hP (ci := 8) (q0 := 9) rfl rfl) rfl hl.1 rfl (Nat.le_of_ble_eq_true rfl) dX8_item_90 ⟨Nat.le_of_ble_eq_true rfl, Nat.le_of_ble_eq_true rfl⟩ (fun r_552 u_553 H locs hr_552 hP hD hS => ?_)
                                    obtain ⟨q_554, rfl⟩ : ∃ z, z = u_553 := ⟨_, rfl⟩
                                    obtain ⟨hsr_552_0, hr_552⟩ := hr_552
                                    have h9R := zRe (ws' := [(mnu, .inl (cI, 10, .inl gnu)), (mki, .inl (cI, 8, .inl gki)), (mpa, .inl (cI, 8, .inl gpa)), (mta, .inl (cI, 8, .inl gta)), (mla, .inl (cI, 40, .inl gla)), (msl, .inl (cI, 40, .inl gsl)), (mco, .inl (cI, 3, .inl gco)), (mte, .inl (cI, 3, .inl (upd (upd gte (0 : Int32).toNatClampNeg q_515) (1 : Int32).toNatClampNeg q_539))), (mwo, .inl (cI, 64, .inl gwo)), (mce, .inl (cJ, 1280, .inr (.inl gce))), (zMO m0 npu nte nat_ nde nto nse nhu nga nsd nfa mrf mki mpa mta mla msl mco mhe mso msi msh mce mca mwo mnu mte nba q_538 nen q_539 q_554 mwa mke mma mth mtr nra nik)]) hP hD rfl
                                    clear hP hD
                                    obtain ⟨hP, hD⟩ := h9R
                                    obtain rfl := hr_552
                                    have hI := zIn_c hn0 (by decide) hn1 (by decide) hn2
                                    exact W.zret (v := 0) hx hb hr (by decide) (fun t ht hW => ⟨⟨0, (npu, nte, nat_, nde, nse, nhu, nga, gki, gpa, gta, gla, gsl, gco, (upd (upd gte (0 : Int32).toNatClampNeg q_515) (1 : Int32).toNatClampNeg q_539), q_538, q_539, q_554), rfl, ⟨(show 0 ≤ npu.toInt ∧ npu.toInt ≤ 8 from ⟨hy0, hy1⟩), (show 4 ≤ nte.toInt ∧ nte.toInt ≤ 40 from ⟨hy2, hy3⟩), (show 0 ≤ nat_.toInt ∧ nat_.toInt ≤ 40 from ⟨hy4, hy5⟩), (show 0 ≤ nde.toInt ∧ nde.toInt ≤ 24 from ⟨hy6, hy7⟩), (show 0 ≤ nhu.toInt ∧ nhu.toInt ≤ 9 from ⟨hy8, hy9⟩), hp_gki, hp_gpa, hp_gta, hp_gla, hp_gsl, hp_gco, (show 0 ≤ q_538.toInt ∧ q_538.toInt ≤ 160 from hbq_538), (show npl.toInt ≤ q_538.toInt ∧ q_538.toInt ≤ nen.toInt from by exact ⟨by omega, by omega⟩), (show ((0 : Int32).toInt = 1 → (zItem (zMF gce nba.toInt) nen.toInt npl.toInt nte.toInt npu.toInt).1 = -1 ∧ q_538.toInt = (zItem (zMF gce nba.toInt) nen.toInt npl.toInt nte.toInt npu.toInt).2.1 ∧ nte.toInt = (zItem (zMF gce nba.toInt) nen.toInt npl.toInt nte.toInt npu.toInt).2.2.1 ∧ npu.toInt = (zItem (zMF gce nba.toInt) nen.toInt npl.toInt nte.toInt npu.toInt).2.2.2) ∧ ((0 : Int32).toInt = 0 → (zItem (zMF gce nba.toInt) nen.toInt npl.toInt nte.toInt npu.toInt).1 = q_554.toInt ∧ 0 ≤ q_554.toInt) from by (have k9 : (0 : Int32).toInt = 0 := (by decide); rw [zItem_w hW1 (by decide) hp8 rfl hI]; dsimp only; exact ⟨fun h => absurd h (by decide), fun _ => ⟨by first | rfl | (show _ = _; omega), by omega⟩⟩)), ⟨by decide, by decide⟩⟩, zRet ht hP hD [10, 8, 0, 9, 1, 2, 3, 4, 5, 6, 7] (by decide) rfl⟩, hS.F ht⟩) hS.2.2 dX8_item_93
                                  · have fc_551 : q_538.toInt < nen.toInt := zf_nle c_551 rfl rfl
                                    refine lv_aload_n hx hb dX8_item_65 rfl (lv_at hl 3 rfl) ?_
                                    refine va_get (D := D) (ci := 8) (v := .ref mce) (C := RX8) (T := TX8) (N := 38) hx hb hts hi_X8_item_8 hown hK hP 9 rfl rfl 21 (by decide) (hts (.fieldLink RX8 59 "TheLiningsInItModel" "cells" "[J") (List.mem_of_getElem? (i := 5) rfl)) (fun _ h9 => h9) rfl dX8_item_66 ?_
                                    refine lv_aload_n hx hb dX8_item_69 rfl (lv_at hl 3 rfl) ?_
                                    refine va_get (D := D) (ci := 8) (v := .int nba) (C := RX8) (T := TX8) (N := 38) hx hb hts hi_X8_item_8 hown hK hP 9 rfl rfl 26 (by decide) (hts (.fieldLink RX8 158 "TheLiningsInItModel" "base" "I") (List.mem_of_getElem? (i := 6) rfl)) (fun _ h9 => h9) rfl dX8_item_70 ?_
                                    refine lv_aload_n hx hb dX8_item_73 rfl (lv_at hl 3 rfl) ?_
                                    refine va_get (D := D) (ci := 8) (v := .int q_538) (C := RX8) (T := TX8) (N := 38) hx hb hts hi_X8_item_8 hown hK hP 9 rfl rfl 27 (by decide) (hts (.fieldLink RX8 152 "TheLiningsInItModel" "place" "I") (List.mem_of_getElem? (i := 2) rfl)) (fun _ h9 => h9) rfl dX8_item_74 ?_
                                    refine lv_iadd hx hb dX8_item_77 ?_
                                    refine lv_topi (fun x_555 ex_555 => ?_)
                                    have qx_555 : x_555.toInt = nba.toInt + q_538.toInt := by rw [ex_555]; exact zf_add rfl rfl (by omega) (by omega)
                                    refine va_lald hx hb hK hP 10 1 rfl rfl (zf_in (by omega) (by omega)) dX8_item_78 ?_
                                    refine lv_topl (fun x_556 ex_556 => ?_)
                                    refine lv_l2i hx hb dX8_item_79 rfl ?_
                                    refine lv_topi (fun x_557 ex_557 => ?_)
                                    have hcx_557 : x_557 = zChX gce (nba.toInt + q_538.toInt).toNat := by rw [ex_557, ex_556]; unfold zChX; congr 2; (show x_555.toInt.toNat = _; omega)
                                    have hdx_557 : x_557.toInt = (zChX gce (nba.toInt + q_538.toInt).toNat).toInt := by rw [hcx_557]
                                    refine lv_bipush (v := 32) hx hb dX8_item_80 (by decide) ?_
                                    refine lv_icmp_eq (tgt := 94) hx hb dX8_item_82 (by decide) (fun c_558 => ?_) (fun c_558 => ?_)
                                    · have fc_558 : x_557.toInt = 32 := zf_eq c_558 rfl (by decide)
                                      refine lv_aload_n hx hb dX8_item_94 rfl (lv_at hl 3 rfl) ?_
                                      refine lv_dup hx hb dX8_item_95 rfl ?_
                                      refine va_get (D := D) (ci := 8) (v := .int q_538) (C := RX8) (T := TX8) (N := 38) hx hb hts hi_X8_item_8 hown hK hP 9 rfl rfl 27 (by decide) (hts (.fieldLink RX8 152 "TheLiningsInItModel" "place" "I") (List.mem_of_getElem? (i := 2) rfl)) (fun _ h9 => h9) rfl dX8_item_96 ?_
                                      refine lv_iconst (v := 1) hx hb dX8_item_99 (by decide) ?_
                                      refine lv_iadd hx hb dX8_item_100 ?_
                                      refine lv_topi (fun x_559 ex_559 => ?_)
                                      have qx_559 : x_559.toInt = q_538.toInt + 1 := dw_inc ex_559 fc_551
                                      refine va_put (D := D) (ci := 8) (v := .int x_559) (ty := .int) (C := RX8) (T := TX8) (N := 38) hx hb hts hi_X8_item_8 tyX8 tyX8_ok nmX8 hown hK hP hD hS 9 rfl rfl 27 (by decide) (hts (.fieldLink RX8 152 "TheLiningsInItModel" "place" "I") (List.mem_of_getElem? (i := 2) rfl)) (fun _ h9 => h9) rfl (tyX8_ok 27 (Nat.le_of_ble_eq_true rfl)) rfl rfl (Nat.le_of_ble_eq_true rfl) dX8_item_101 (fun H locs hP hD hS => ?_)
                                      have h9R := zRe (ws' := [(mnu, .inl (cI, 10, .inl gnu)), (mki, .inl (cI, 8, .inl gki)), (mpa, .inl (cI, 8, .inl gpa)), (mta, .inl (cI, 8, .inl gta)), (mla, .inl (cI, 40, .inl gla)), (msl, .inl (cI, 40, .inl gsl)), (mco, .inl (cI, 3, .inl gco)), (mte, .inl (cI, 3, .inl (upd (upd gte (0 : Int32).toNatClampNeg q_515) (1 : Int32).toNatClampNeg q_539))), (mwo, .inl (cI, 64, .inl gwo)), (zMO m0 npu nte nat_ nde nto nse nhu nga nsd nfa mrf mki mpa mta mla msl mco mhe mso msi msh mce mca mwo mnu mte nba x_559 nen q_539 q_540 mwa mke mma mth mtr nra nik), (mce, .inl (cJ, 1280, .inr (.inl gce)))]) hP hD rfl
                                      clear hP hD
                                      obtain ⟨hP, hD⟩ := h9R
                                      refine lv_aload_n hx hb dX8_item_104 rfl (lv_at hl 3 rfl) ?_
                                      refine va_get (D := D) (ci := 8) (v := .int x_559) (C := RX8) (T := TX8) (N := 38) hx hb hts hi_X8_item_8 hown hK hP 9 rfl rfl 27 (by decide) (hts (.fieldLink RX8 152 "TheLiningsInItModel" "place" "I") (List.mem_of_getElem? (i := 2) rfl)) (fun _ h9 => h9) rfl dX8_item_105 ?_
                                      refine lv_istore_n (lv' := [(3, .int x_559), (2, .int 2), (1, .int 3), (0, .ref m0)]) hx hb dX8_item_108 rfl hl (by decide) rfl (fun ls hl => ?_)
                                      refine lv_aload_n hx hb dX8_item_109 rfl (lv_at hl 3 rfl) ?_
                                      skip
                                      refine zw_V (As := []) (rest := []) (wr := [(mnu, .inl (cI, 10, .inl gnu)), (mki, .inl (cI, 8, .inl gki)), (mpa, .inl (cI, 8, .inl gpa)), (mta, .inl (cI, 8, .inl gta)), (mla, .inl (cI, 40, .inl gla)), (msl, .inl (cI, 40, .inl gsl)), (mco, .inl (cI, 3, .inl gco)), (mte, .inl (cI, 3, .inl (upd (upd gte (0 : Int32).toNatClampNeg q_515) (1 : Int32).toNatClampNeg q_539))), (mwo, .inl (cI, 64, .inl gwo))]) ⟨hx, hb, hml, hown, hts⟩ (c_F_M_reads l D cI cJ cZ cP cS po m0 mrf mki mpa mta mla msl mco mhe mso msi msh mce mca mwo mnu mte mwa mke mma mth mtr (npu) (nte) (nat_) (nde) (nto) (nse) (nhu) (nga) (nsd) (nfa) (nba) (x_559) (nen) (q_539) (q_540) (nra) (nik) gce hy0 hy1 hy2 hy3 hy4 hy5 hy6 hy7 hy8 hy9 hy10 hy11 hy12 hy13 hy14 hy15 (by omega) (by omega) hy18 hy19 (by omega) H.size) (cwV 0 hts gX8_item_X8_reads rfl rfl rfl ⟨rfl, dh_X8_reads⟩ ⟨Nat.le_of_ble_eq_true rfl, Nat.le_of_ble_eq_true rfl⟩) hK hN (hZ.kept hS) hP hD hS hA [9, 10] [0, 1, 2, 3, 4, 5, 6, 7, 8] rfl rfl (by decide) (by decide) (by decide) (va_recv (q := (RX8, TX8, 38)) hK hP (ci := 8) (q0 := 9) rfl rfl) rfl hl.1 rfl (Nat.le_of_ble_eq_true rfl) dX8_item_110 ⟨Nat.le_of_ble_eq_true rfl, Nat.le_of_ble_eq_true rfl⟩ (fun r_560 u_561 H locs hr_560 hP hD hS => ?_)
                                      obtain ⟨q_562, q_563, q_564⟩ := u_561
                                      try dsimp only at hr_560
                                      obtain ⟨hbq_562, hsr_560_0, hsr_560_1, hsr_560_2, hr_560⟩ := hr_560
                                      have h9R := zRe (ws' := [(mnu, .inl (cI, 10, .inl gnu)), (mki, .inl (cI, 8, .inl gki)), (mpa, .inl (cI, 8, .inl gpa)), (mta, .inl (cI, 8, .inl gta)), (mla, .inl (cI, 40, .inl gla)), (msl, .inl (cI, 40, .inl gsl)), (mco, .inl (cI, 3, .inl gco)), (mte, .inl (cI, 3, .inl (upd (upd gte (0 : Int32).toNatClampNeg q_515) (1 : Int32).toNatClampNeg q_539))), (mwo, .inl (cI, 64, .inl gwo)), (zMO m0 npu nte nat_ nde nto nse nhu nga nsd nfa mrf mki mpa mta mla msl mco mhe mso msi msh mce mca mwo mnu mte nba q_562 nen q_563 q_564 mwa mke mma mth mtr nra nik), (mce, .inl (cJ, 1280, .inr (.inl gce)))]) hP hD rfl
                                      clear hP hD
                                      obtain ⟨hP, hD⟩ := h9R
                                      obtain ⟨g_565, g_566⟩ := hr_560
                                      refine lv_if_ne (tgt := 118) hx hb dX8_item_113 (by decide) (fun c_567 => ?_) (fun c_567 => ?_)
                                      · have fc_567 : r_560.toInt ≠ 0 := zf_ne c_567 rfl (by decide)
                                        refine lv_aload_n hx hb dX8_item_118 rfl (lv_at hl 3 rfl) ?_
                                        refine lv_iload_n hx hb dX8_item_119 rfl (lv_at hl 2 rfl) ?_
                                        refine lv_iload_n hx hb dX8_item_120 rfl (lv_at hl 1 rfl) ?_
                                        refine zc_V (As := [.int 3, .int 2]) (rest := []) ⟨hx, hb, hml, hown, hts⟩ (c_F_M_isSo_3_2 l D cI cJ cZ cP cS po m0 mrf mki mpa mta mla msl mco mhe mso msi msh mce mca mwo mnu mte mwa mke mma mth mtr (npu) (nte) (nat_) (nde) (nto) (nse) (nhu) (nga) (nsd) (nfa) (nba) (q_562) (nen) (q_563) (q_564) (nra) (nik) hy0 hy1 hy2 hy3 hy4 hy5 hy6 hy7 hy8 hy9 hy10 hy11 hy12 hy13 (by omega) (by omega)) (cwV 2 hts gX8_item_X8_isSo rfl rfl rfl ⟨rfl, dh_X8_isSo⟩ ⟨Nat.le_of_ble_eq_true rfl, Nat.le_of_ble_eq_true rfl⟩) hK hN (hZ.kept hS) hP (hP.sub [9] rfl) (va_recv (q := (RX8, TX8, 38)) hK hP (ci := 8) (q0 := 9) rfl rfl) rfl hl.1 rfl (Nat.le_of_ble_eq_true rfl) dX8_item_121 ⟨Nat.le_of_ble_eq_true rfl, Nat.le_of_ble_eq_true rfl⟩ (fun r_568 hr_568 => ?_)
                                        obtain ⟨g_569, g_570, hsr_568_0⟩ := hr_568
                                        refine lv_if_ne (tgt := 133) hx hb dX8_item_124 (by decide) (fun c_571 => ?_) (fun c_571 => ?_)
                                        · have fc_571 : r_568.toInt ≠ 0 := zf_ne c_571 rfl (by decide)
                                          obtain ⟨hy1_2, hy2_2, hy3_2⟩ := hsr_560_2.1 (by omega)
                                          have hn2 : zN1 (zMF gce nba.toInt) nen.toInt (q_538 : Int32).toInt (zLo 3 2) (zHi 3 2 nte.toInt) = (-1, (q_562 : Int32).toInt, (q_563 : Int32).toInt) := zN1_yes (p1 := (x_559 : Int32).toInt) (lo2 := 1) (hi2 := (60 : Int)) ⟨by omega, by (rw [zMF_at (by omega), ← hdx_557]; omega)⟩ (by omega) hy1_2 hy2_2 (by decide) (by first | rfl | decide | (show nte.toInt - 1 = _; omega) | (show nte.toInt = _; omega)) (by omega)
                                          refine lv_aload_n hx hb dX8_item_133 rfl (lv_at hl 3 rfl) ?_
                                          refine va_get (D := D) (ci := 8) (v := .ref mte) (C := RX8) (T := TX8) (N := 38) hx hb hts hi_X8_item_8 hown hK hP 9 rfl rfl 25 (by decide) (hts (.fieldLink RX8 72 "TheLiningsInItModel" "tell" "[I") (List.mem_of_getElem? (i := 7) rfl)) (fun _ h9 => h9) rfl dX8_item_134 ?_
                                          refine lv_iload_n hx hb dX8_item_137 rfl (lv_at hl 1 rfl) ?_
                                          refine lv_aload_n hx hb dX8_item_138 rfl (lv_at hl 3 rfl) ?_
                                          refine va_get (D := D) (ci := 8) (v := .int q_563) (C := RX8) (T := TX8) (N := 38) hx hb hts hi_X8_item_8 hown hK hP 9 rfl rfl 29 (by decide) (hts (.fieldLink RX8 161 "TheLiningsInItModel" "number" "I") (List.mem_of_getElem? (i := 8) rfl)) (fun _ h9 => h9) rfl dX8_item_139 ?_
                                          refine va_iast hx hb hK hP hD hS 7 0 rfl rfl (zf_in (by decide) (by decide)) dX8_item_142 (fun H locs hP hD hS => ?_)
                                          have h9R := zRe (ws' := [(mnu, .inl (cI, 10, .inl gnu)), (mki, .inl (cI, 8, .inl gki)), (mpa, .inl (cI, 8, .inl gpa)), (mta, .inl (cI, 8, .inl gta)), (mla, .inl (cI, 40, .inl gla)), (msl, .inl (cI, 40, .inl gsl)), (mco, .inl (cI, 3, .inl gco)), (mte, .inl (cI, 3, .inl (upd (upd (upd gte (0 : Int32).toNatClampNeg q_515) (1 : Int32).toNatClampNeg q_539) (2 : Int32).toNatClampNeg q_563))), (mwo, .inl (cI, 64, .inl gwo)), (zMO m0 npu nte nat_ nde nto nse nhu nga nsd nfa mrf mki mpa mta mla msl mco mhe mso msi msh mce mca mwo mnu mte nba q_562 nen q_563 q_564 mwa mke mma mth mtr nra nik), (mce, .inl (cJ, 1280, .inr (.inl gce)))]) hP hD rfl
                                          clear hP hD
                                          obtain ⟨hP, hD⟩ := h9R
                                          refine lv_iinc (v := 3) (lv' := [(2, .int 3), (3, .int x_559), (1, .int 3), (0, .ref m0)]) hx hb dX8_item_143 hl (k := 1) rfl (by decide) (by decide) rfl (fun ls hl => ?_)
                                          refine lv_goto (tgt := 40) hx hb dX8_item_146 (by decide) ?_
                                          refine lv_iload_n hx hb dX8_item_40 rfl (lv_at hl 0 rfl) ?_
                                          refine lv_aload_n hx hb dX8_item_41 rfl (lv_at hl 3 rfl) ?_
                                          refine va_get (D := D) (ci := 8) (v := .ref mnu) (C := RX8) (T := TX8) (N := 38) hx hb hts hi_X8_item_8 hown hK hP 9 rfl rfl 24 (by decide) (hts (.fieldLink RX8 69 "TheLiningsInItModel" "numbers" "[I") (List.mem_of_getElem? (i := 3) rfl)) (fun _ h9 => h9) rfl dX8_item_42 ?_
                                          refine lv_iload_n hx hb dX8_item_45 rfl (lv_at hl 2 rfl) ?_
                                          refine va_iald hx hb hK hP 0 0 rfl rfl (zf_in (by decide) (by decide)) dX8_item_46 ?_
                                          refine lv_topi (fun x_572 ex_572 => ?_)
                                          obtain rfl : x_572 = 3 := ex_572.trans ((congrArg gnu (show (3 : Int32).toNatClampNeg = 3 from by decide)).trans ((hnu 3 (by decide)).trans (by decide)))
                                          refine lv_icmp_ge (tgt := 149) hx hb dX8_item_47 (by decide) (fun c_573 => ?_) (fun c_573 => ?_)
                                          · refine lv_iload_n hx hb dX8_item_149 rfl (lv_at hl 2 rfl) ?_
                                            refine lv_tableIn (tgt := 252) hx hb dX8_item_150 (by decide) (by decide) rfl (by decide) ?_
                                            refine lv_aload_n hx hb dX8_item_252 rfl (lv_at hl 3 rfl) ?_
                                            refine lv_aload_n hx hb dX8_item_253 rfl (lv_at hl 3 rfl) ?_
                                            refine va_get (D := D) (ci := 8) (v := .ref mte) (C := RX8) (T := TX8) (N := 38) hx hb hts hi_X8_item_8 hown hK hP 9 rfl rfl 25 (by decide) (hts (.fieldLink RX8 72 "TheLiningsInItModel" "tell" "[I") (List.mem_of_getElem? (i := 7) rfl)) (fun _ h9 => h9) rfl dX8_item_254 ?_
                                            refine lv_iconst (v := 0) hx hb dX8_item_257 (by decide) ?_
                                            refine va_iald hx hb hK hP 7 0 rfl rfl (zf_in (by decide) (by decide)) dX8_item_258 ?_
                                            refine lv_topi (fun x_574 ex_574 => ?_)
                                            obtain rfl : q_515 = x_574 := (ex_574.trans ((if_neg (by decide)).trans ((if_neg (by decide)).trans (if_pos rfl)))).symm
                                            refine lv_aload_n hx hb dX8_item_259 rfl (lv_at hl 3 rfl) ?_
                                            refine va_get (D := D) (ci := 8) (v := .ref mte) (C := RX8) (T := TX8) (N := 38) hx hb hts hi_X8_item_8 hown hK hP 9 rfl rfl 25 (by decide) (hts (.fieldLink RX8 72 "TheLiningsInItModel" "tell" "[I") (List.mem_of_getElem? (i := 7) rfl)) (fun _ h9 => h9) rfl dX8_item_260 ?_
                                            refine lv_iconst (v := 1) hx hb dX8_item_263 (by decide) ?_
                                            refine va_iald hx hb hK hP 7 0 rfl rfl (zf_in (by decide) (by decide)) dX8_item_264 ?_
                                            refine lv_topi (fun x_575 ex_575 => ?_)
                                            obtain rfl : q_539 = x_575 := (ex_575.trans ((if_neg (by decide)).trans (if_pos rfl))).symm
                                            refine lv_aload_n hx hb dX8_item_265 rfl (lv_at hl 3 rfl) ?_
                                            refine va_get (D := D) (ci := 8) (v := .ref mte) (C := RX8) (T := TX8) (N := 38) hx hb hts hi_X8_item_8 hown hK hP 9 rfl rfl 25 (by decide) (hts (.fieldLink RX8 72 "TheLiningsInItModel" "tell" "[I") (List.mem_of_getElem? (i := 7) rfl)) (fun _ h9 => h9) rfl dX8_item_266 ?_
                                            refine lv_iconst (v := 2) hx hb dX8_item_269 (by decide) ?_
                                            refine va_iald hx hb hK hP 7 0 rfl rfl (zf_in (by decide) (by decide)) dX8_item_270 ?_
                                            refine lv_topi (fun x_576 ex_576 => ?_)
                                            obtain rfl : q_563 = x_576 := (ex_576.trans (if_pos rfl)).symm
                                            skip
                                            refine zw_V (As := [.int q_515, .int q_539, .int q_563]) (rest := []) (wr := [(mnu, .inl (cI, 10, .inl gnu)), (mla, .inl (cI, 40, .inl gla)), (msl, .inl (cI, 40, .inl gsl)), (mco, .inl (cI, 3, .inl gco)), (mte, .inl (cI, 3, .inl (upd (upd (upd gte (0 : Int32).toNatClampNeg q_515) (1 : Int32).toNatClampNeg q_539) (2 : Int32).toNatClampNeg q_563))), (mwo, .inl (cI, 64, .inl gwo)), (mce, .inl (cJ, 1280, .inr (.inl gce)))]) ⟨hx, hb, hml, hown, hts⟩ (c_F_M_addsPull l D cI cJ cZ cP cS po m0 mrf mki mpa mta mla msl mco mhe mso msi msh mce mca mwo mnu mte mwa mke mma mth mtr (npu) (nte) (nat_) (nde) (nto) (nse) (nhu) (nga) (nsd) (nfa) (nba) (q_562) (nen) (q_563) (q_564) (nra) (nik) gki gpa gta (q_515) (q_539) (q_563) hy0 hy1 hy2 hy3 hy4 hy5 hy6 hy7 hy8 hy9 hy10 hy11 hy12 hy13 (by omega) (by omega) (by omega) (by omega) (by omega) (by omega) hy0 (by omega) hp_gki hp_gpa hp_gta H.size) (cwV 3 hts gX8_item_X8_addsPull rfl rfl rfl ⟨rfl, dh_X8_addsPull⟩ ⟨Nat.le_of_ble_eq_true rfl, Nat.le_of_ble_eq_true rfl⟩) hK hN (hZ.kept hS) hP hD hS hA [9, 1, 2, 3] [0, 4, 5, 6, 7, 8, 10] rfl rfl (by decide) (by decide) (by decide) (va_recv (q := (RX8, TX8, 38)) hK hP (ci := 8) (q0 := 9) rfl rfl) rfl hl.1 rfl (Nat.le_of_ble_eq_true rfl) dX8_item_271 ⟨Nat.le_of_ble_eq_true rfl, Nat.le_of_ble_eq_true rfl⟩ (fun r_577 u_578 H locs hr_577 hP hD hS => ?_)
                                            obtain ⟨q_579, q_580, q_581, q_582⟩ := u_578
                                            try dsimp only at hr_577
                                            obtain ⟨hbq_579, hpq_580, hpq_581, hpq_582, hsr_577_0, hsr_577_1, hr_577⟩ := hr_577
                                            have h9R := zRe (ws' := [(mnu, .inl (cI, 10, .inl gnu)), (mla, .inl (cI, 40, .inl gla)), (msl, .inl (cI, 40, .inl gsl)), (mco, .inl (cI, 3, .inl gco)), (mte, .inl (cI, 3, .inl (upd (upd (upd gte (0 : Int32).toNatClampNeg q_515) (1 : Int32).toNatClampNeg q_539) (2 : Int32).toNatClampNeg q_563))), (mwo, .inl (cI, 64, .inl gwo)), (mce, .inl (cJ, 1280, .inr (.inl gce))), (zMO m0 q_579 nte nat_ nde nto nse nhu nga nsd nfa mrf mki mpa mta mla msl mco mhe mso msi msh mce mca mwo mnu mte nba q_562 nen q_563 q_564 mwa mke mma mth mtr nra nik), (mki, .inl (cI, 8, .inl q_580)), (mpa, .inl (cI, 8, .inl q_581)), (mta, .inl (cI, 8, .inl q_582))]) hP hD rfl
                                            clear hP hD
                                            obtain ⟨hP, hD⟩ := h9R
                                            obtain ⟨g_583, g_584⟩ := hr_577
                                            refine lv_pop hx hb dX8_item_274 rfl ?_
                                            refine lv_goto (tgt := 324) hx hb dX8_item_275 (by decide) ?_
                                            refine lv_iconst (v := 1) hx hb dX8_item_324 (by decide) ?_
                                            have hI := zIn_c hn0 (by decide) hn1 (by decide) hn2
                                            exact W.zret (v := 1) hx hb hr (by decide) (fun t ht hW => ⟨⟨1, (q_579, nte, nat_, nde, nse, nhu, nga, q_580, q_581, q_582, gla, gsl, gco, (upd (upd (upd gte (0 : Int32).toNatClampNeg q_515) (1 : Int32).toNatClampNeg q_539) (2 : Int32).toNatClampNeg q_563), q_562, q_563, q_564), rfl, ⟨(show 0 ≤ q_579.toInt ∧ q_579.toInt ≤ 8 from hbq_579), (show 4 ≤ nte.toInt ∧ nte.toInt ≤ 40 from ⟨hy2, hy3⟩), (show 0 ≤ nat_.toInt ∧ nat_.toInt ≤ 40 from ⟨hy4, hy5⟩), (show 0 ≤ nde.toInt ∧ nde.toInt ≤ 24 from ⟨hy6, hy7⟩), (show 0 ≤ nhu.toInt ∧ nhu.toInt ≤ 9 from ⟨hy8, hy9⟩), hpq_580, hpq_581, hpq_582, hp_gla, hp_gsl, hp_gco, (show 0 ≤ q_562.toInt ∧ q_562.toInt ≤ 160 from hbq_562), (show npl.toInt ≤ q_562.toInt ∧ q_562.toInt ≤ nen.toInt from by exact ⟨by omega, by omega⟩), (show ((1 : Int32).toInt = 1 → (zItem (zMF gce nba.toInt) nen.toInt npl.toInt nte.toInt npu.toInt).1 = -1 ∧ q_562.toInt = (zItem (zMF gce nba.toInt) nen.toInt npl.toInt nte.toInt npu.toInt).2.1 ∧ nte.toInt = (zItem (zMF gce nba.toInt) nen.toInt npl.toInt nte.toInt npu.toInt).2.2.1 ∧ q_579.toInt = (zItem (zMF gce nba.toInt) nen.toInt npl.toInt nte.toInt npu.toInt).2.2.2) ∧ ((1 : Int32).toInt = 0 → (zItem (zMF gce nba.toInt) nen.toInt npl.toInt nte.toInt npu.toInt).1 = q_564.toInt ∧ 0 ≤ q_564.toInt) from by (have k9 : (1 : Int32).toInt = 1 := (by decide); rw [zItem_w hW1 (by decide) hp8 rfl hI]; dsimp only; exact ⟨fun _ => ⟨rfl, by first | rfl | omega, by (show _ = (if (3 : Int) = 0 then _ else _); rw [if_neg (by decide)]), by (show _ = (if (3 : Int) = 3 then _ else _); first | (rw [if_pos rfl]; done) | (rw [if_pos rfl]; omega))⟩, fun h => absurd h (by decide)⟩)), ⟨by decide, by decide⟩⟩, zRet ht hP hD [7, 5, 0, 6, 8, 9, 10, 1, 2, 3, 4] (by decide) rfl⟩, hS.F ht⟩) hS.2.2 dX8_item_325
                                          · exact absurd c_573 (by decide)
                                        · have fc_571 : r_568.toInt = 0 := zf_eq c_571 rfl (by decide)
                                          obtain ⟨hy1_2, hy2_2, hy3_2⟩ := hsr_560_2.1 (by omega)
                                          have hn2 : zN1 (zMF gce nba.toInt) nen.toInt (q_538 : Int32).toInt (zLo 3 2) (zHi 3 2 nte.toInt) = ((x_559 : Int32).toInt, (q_562 : Int32).toInt, (q_563 : Int32).toInt) := zN1_yes (p1 := (x_559 : Int32).toInt) (lo2 := 1) (hi2 := (60 : Int)) ⟨by omega, by (rw [zMF_at (by omega), ← hdx_557]; omega)⟩ (by omega) hy1_2 hy2_2 (by decide) (by first | rfl | decide | (show nte.toInt - 1 = _; omega) | (show nte.toInt = _; omega)) (by omega)
                                          refine lv_aload_n hx hb dX8_item_127 rfl (lv_at hl 3 rfl) ?_
                                          refine lv_iload_n hx hb dX8_item_128 rfl (lv_at hl 0 rfl) ?_
                                          skip
                                          refine zw_V (As := [.int x_559]) (rest := []) (wr := [(mnu, .inl (cI, 10, .inl gnu)), (mki, .inl (cI, 8, .inl gki)), (mpa, .inl (cI, 8, .inl gpa)), (mta, .inl (cI, 8, .inl gta)), (mla, .inl (cI, 40, .inl gla)), (msl, .inl (cI, 40, .inl gsl)), (mco, .inl (cI, 3, .inl gco)), (mte, .inl (cI, 3, .inl (upd (upd gte (0 : Int32).toNatClampNeg q_515) (1 : Int32).toNatClampNeg q_539))), (mwo, .inl (cI, 64, .inl gwo)), (mce, .inl (cJ, 1280, .inr (.inl gce)))]) ⟨hx, hb, hml, hown, hts⟩ (c_F_M_wrong l D cI cJ cZ cP cS po m0 mrf mki mpa mta mla msl mco mhe mso msi msh mce mca mwo mnu mte mwa mke mma mth mtr (npu) (nte) (nat_) (nde) (nto) (nse) (nhu) (nga) (nsd) (nfa) (nba) (q_562) (nen) (q_563) (q_564) (nra) (nik) (x_559) hy0 hy1 hy2 hy3 hy4 hy5 hy6 hy7 hy8 hy9 hy10 hy11 hy12 hy13 H.size) (cwV 1 hts gX8_item_X8_wrong rfl rfl rfl ⟨rfl, dh_X8_wrong⟩ ⟨Nat.le_of_ble_eq_true rfl, Nat.le_of_ble_eq_true rfl⟩) hK hN (hZ.kept hS) hP hD hS hA [9] [0, 1, 2, 3, 4, 5, 6, 7, 8, 10] rfl rfl (by decide) (by decide) (by decide) (va_recv (q := (RX8, TX8, 38)) hK hP (ci := 8) (q0 := 9) rfl rfl) rfl hl.1 rfl (Nat.le_of_ble_eq_true rfl) dX8_item_129 ⟨Nat.le_of_ble_eq_true rfl, Nat.le_of_ble_eq_true rfl⟩ (fun r_585 u_586 H locs hr_585 hP hD hS => ?_)
                                          obtain ⟨q_587, rfl⟩ : ∃ z, z = u_586 := ⟨_, rfl⟩
                                          obtain ⟨hsr_585_0, hr_585⟩ := hr_585
                                          have h9R := zRe (ws' := [(mnu, .inl (cI, 10, .inl gnu)), (mki, .inl (cI, 8, .inl gki)), (mpa, .inl (cI, 8, .inl gpa)), (mta, .inl (cI, 8, .inl gta)), (mla, .inl (cI, 40, .inl gla)), (msl, .inl (cI, 40, .inl gsl)), (mco, .inl (cI, 3, .inl gco)), (mte, .inl (cI, 3, .inl (upd (upd gte (0 : Int32).toNatClampNeg q_515) (1 : Int32).toNatClampNeg q_539))), (mwo, .inl (cI, 64, .inl gwo)), (mce, .inl (cJ, 1280, .inr (.inl gce))), (zMO m0 npu nte nat_ nde nto nse nhu nga nsd nfa mrf mki mpa mta mla msl mco mhe mso msi msh mce mca mwo mnu mte nba q_562 nen q_563 q_587 mwa mke mma mth mtr nra nik)]) hP hD rfl
                                          clear hP hD
                                          obtain ⟨hP, hD⟩ := h9R
                                          obtain rfl := hr_585
                                          have hI := zIn_c hn0 (by decide) hn1 (by decide) hn2
                                          exact W.zret (v := 0) hx hb hr (by decide) (fun t ht hW => ⟨⟨0, (npu, nte, nat_, nde, nse, nhu, nga, gki, gpa, gta, gla, gsl, gco, (upd (upd gte (0 : Int32).toNatClampNeg q_515) (1 : Int32).toNatClampNeg q_539), q_562, q_563, q_587), rfl, ⟨(show 0 ≤ npu.toInt ∧ npu.toInt ≤ 8 from ⟨hy0, hy1⟩), (show 4 ≤ nte.toInt ∧ nte.toInt ≤ 40 from ⟨hy2, hy3⟩), (show 0 ≤ nat_.toInt ∧ nat_.toInt ≤ 40 from ⟨hy4, hy5⟩), (show 0 ≤ nde.toInt ∧ nde.toInt ≤ 24 from ⟨hy6, hy7⟩), (show 0 ≤ nhu.toInt ∧ nhu.toInt ≤ 9 from ⟨hy8, hy9⟩), hp_gki, hp_gpa, hp_gta, hp_gla, hp_gsl, hp_gco, (show 0 ≤ q_562.toInt ∧ q_562.toInt ≤ 160 from hbq_562), (show npl.toInt ≤ q_562.toInt ∧ q_562.toInt ≤ nen.toInt from by exact ⟨by omega, by omega⟩), (show ((0 : Int32).toInt = 1 → (zItem (zMF gce nba.toInt) nen.toInt npl.toInt nte.toInt npu.toInt).1 = -1 ∧ q_562.toInt = (zItem (zMF gce nba.toInt) nen.toInt npl.toInt nte.toInt npu.toInt).2.1 ∧ nte.toInt = (zItem (zMF gce nba.toInt) nen.toInt npl.toInt nte.toInt npu.toInt).2.2.1 ∧ npu.toInt = (zItem (zMF gce nba.toInt) nen.toInt npl.toInt nte.toInt npu.toInt).2.2.2) ∧ ((0 : Int32).toInt = 0 → (zItem (zMF gce nba.toInt) nen.toInt npl.toInt nte.toInt npu.toInt).1 = q_587.toInt ∧ 0 ≤ q_587.toInt) from by (have k9 : (0 : Int32).toInt = 0 := (by decide); rw [zItem_w hW1 (by decide) hp8 rfl hI]; dsimp only; exact ⟨fun h => absurd h (by decide), fun _ => ⟨by first | rfl | (show _ = _; omega), by omega⟩⟩)), ⟨by decide, by decide⟩⟩, zRet ht hP hD [10, 8, 0, 9, 1, 2, 3, 4, 5, 6, 7] (by decide) rfl⟩, hS.F ht⟩) hS.2.2 dX8_item_132
                                      · have fc_567 : r_560.toInt = 0 := zf_eq c_567 rfl (by decide)
                                        have hn2 : zN1 (zMF gce nba.toInt) nen.toInt (q_538 : Int32).toInt (zLo 3 2) (zHi 3 2 nte.toInt) = ((x_559 : Int32).toInt, (x_559 : Int32).toInt, 0) := zN1_yes (p1 := (x_559 : Int32).toInt) (lo2 := 1) (hi2 := (60 : Int)) ⟨by omega, by (rw [zMF_at (by omega), ← hdx_557]; omega)⟩ (by omega) (hsr_560_2.2 (by omega)).1.symm zNv_0.symm (by decide) (by first | rfl | decide | (show nte.toInt - 1 = _; omega) | (show nte.toInt = _; omega)) (Or.inl ⟨rfl, Or.inl rfl⟩)
                                        refine lv_iconst (v := 0) hx hb dX8_item_116 (by decide) ?_
                                        have hI := zIn_c hn0 (by decide) hn1 (by decide) hn2
                                        exact W.zret (v := 0) hx hb hr (by decide) (fun t ht hW => ⟨⟨0, (npu, nte, nat_, nde, nse, nhu, nga, gki, gpa, gta, gla, gsl, gco, (upd (upd gte (0 : Int32).toNatClampNeg q_515) (1 : Int32).toNatClampNeg q_539), q_562, q_563, q_564), rfl, ⟨(show 0 ≤ npu.toInt ∧ npu.toInt ≤ 8 from ⟨hy0, hy1⟩), (show 4 ≤ nte.toInt ∧ nte.toInt ≤ 40 from ⟨hy2, hy3⟩), (show 0 ≤ nat_.toInt ∧ nat_.toInt ≤ 40 from ⟨hy4, hy5⟩), (show 0 ≤ nde.toInt ∧ nde.toInt ≤ 24 from ⟨hy6, hy7⟩), (show 0 ≤ nhu.toInt ∧ nhu.toInt ≤ 9 from ⟨hy8, hy9⟩), hp_gki, hp_gpa, hp_gta, hp_gla, hp_gsl, hp_gco, (show 0 ≤ q_562.toInt ∧ q_562.toInt ≤ 160 from hbq_562), (show npl.toInt ≤ q_562.toInt ∧ q_562.toInt ≤ nen.toInt from by exact ⟨by omega, by omega⟩), (show ((0 : Int32).toInt = 1 → (zItem (zMF gce nba.toInt) nen.toInt npl.toInt nte.toInt npu.toInt).1 = -1 ∧ q_562.toInt = (zItem (zMF gce nba.toInt) nen.toInt npl.toInt nte.toInt npu.toInt).2.1 ∧ nte.toInt = (zItem (zMF gce nba.toInt) nen.toInt npl.toInt nte.toInt npu.toInt).2.2.1 ∧ npu.toInt = (zItem (zMF gce nba.toInt) nen.toInt npl.toInt nte.toInt npu.toInt).2.2.2) ∧ ((0 : Int32).toInt = 0 → (zItem (zMF gce nba.toInt) nen.toInt npl.toInt nte.toInt npu.toInt).1 = q_564.toInt ∧ 0 ≤ q_564.toInt) from by (have k9 : (0 : Int32).toInt = 0 := (by decide); rw [zItem_w hW1 (by decide) hp8 rfl hI]; dsimp only; exact ⟨fun h => absurd h (by decide), fun _ => ⟨by first | rfl | (show _ = _; omega), by omega⟩⟩)), ⟨by decide, by decide⟩⟩, zRet ht hP hD [9, 8, 0, 10, 1, 2, 3, 4, 5, 6, 7] (by decide) rfl⟩, hS.F ht⟩) hS.2.2 dX8_item_117
                                    · have fc_558 : x_557.toInt ≠ 32 := zf_ne c_558 rfl (by decide)
                                      have hn2 : zN1 (zMF gce nba.toInt) nen.toInt (q_538 : Int32).toInt (zLo 3 2) (zHi 3 2 nte.toInt) = ((q_538 : Int32).toInt, (q_538 : Int32).toInt, 0) := zN1_no (by first | (intro z; have z1 := z.1; omega) | (intro z; have z2 := z.2; rw [zMF_at (by omega), ← hdx_557] at z2; omega))
                                      refine lv_aload_n hx hb dX8_item_85 rfl (lv_at hl 3 rfl) ?_
                                      refine lv_aload_n hx hb dX8_item_86 rfl (lv_at hl 3 rfl) ?_
                                      refine va_get (D := D) (ci := 8) (v := .int q_538) (C := RX8) (T := TX8) (N := 38) hx hb hts hi_X8_item_8 hown hK hP 9 rfl rfl 27 (by decide) (hts (.fieldLink RX8 152 "TheLiningsInItModel" "place" "I") (List.mem_of_getElem? (i := 2) rfl)) (fun _ h9 => h9) rfl dX8_item_87 ?_
                                      skip
                                      refine zw_V (As := [.int q_538]) (rest := []) (wr := [(mnu, .inl (cI, 10, .inl gnu)), (mki, .inl (cI, 8, .inl gki)), (mpa, .inl (cI, 8, .inl gpa)), (mta, .inl (cI, 8, .inl gta)), (mla, .inl (cI, 40, .inl gla)), (msl, .inl (cI, 40, .inl gsl)), (mco, .inl (cI, 3, .inl gco)), (mte, .inl (cI, 3, .inl (upd (upd gte (0 : Int32).toNatClampNeg q_515) (1 : Int32).toNatClampNeg q_539))), (mwo, .inl (cI, 64, .inl gwo)), (mce, .inl (cJ, 1280, .inr (.inl gce)))]) ⟨hx, hb, hml, hown, hts⟩ (c_F_M_wrong l D cI cJ cZ cP cS po m0 mrf mki mpa mta mla msl mco mhe mso msi msh mce mca mwo mnu mte mwa mke mma mth mtr (npu) (nte) (nat_) (nde) (nto) (nse) (nhu) (nga) (nsd) (nfa) (nba) (q_538) (nen) (q_539) (q_540) (nra) (nik) (q_538) hy0 hy1 hy2 hy3 hy4 hy5 hy6 hy7 hy8 hy9 hy10 hy11 hy12 hy13 H.size) (cwV 1 hts gX8_item_X8_wrong rfl rfl rfl ⟨rfl, dh_X8_wrong⟩ ⟨Nat.le_of_ble_eq_true rfl, Nat.le_of_ble_eq_true rfl⟩) hK hN (hZ.kept hS) hP hD hS hA [9] [0, 1, 2, 3, 4, 5, 6, 7, 8, 10] rfl rfl (by decide) (by decide) (by decide) (va_recv (q := (RX8, TX8, 38)) hK hP (ci := 8) (q0 := 9) rfl rfl) rfl hl.1 rfl (Nat.le_of_ble_eq_true rfl) dX8_item_90 ⟨Nat.le_of_ble_eq_true rfl, Nat.le_of_ble_eq_true rfl⟩ (fun r_588 u_589 H locs hr_588 hP hD hS => ?_)
                                      obtain ⟨q_590, rfl⟩ : ∃ z, z = u_589 := ⟨_, rfl⟩
                                      obtain ⟨hsr_588_0, hr_588⟩ := hr_588
                                      have h9R := zRe (ws' := [(mnu, .inl (cI, 10, .inl gnu)), (mki, .inl (cI, 8, .inl gki)), (mpa, .inl (cI, 8, .inl gpa)), (mta, .inl (cI, 8, .inl gta)), (mla, .inl (cI, 40, .inl gla)), (msl, .inl (cI, 40, .inl gsl)), (mco, .inl (cI, 3, .inl gco)), (mte, .inl (cI, 3, .inl (upd (upd gte (0 : Int32).toNatClampNeg q_515) (1 : Int32).toNatClampNeg q_539))), (mwo, .inl (cI, 64, .inl gwo)), (mce, .inl (cJ, 1280, .inr (.inl gce))), (zMO m0 npu nte nat_ nde nto nse nhu nga nsd nfa mrf mki mpa mta mla msl mco mhe mso msi msh mce mca mwo mnu mte nba q_538 nen q_539 q_590 mwa mke mma mth mtr nra nik)]) hP hD rfl
                                      clear hP hD
                                      obtain ⟨hP, hD⟩ := h9R
                                      obtain rfl := hr_588
                                      have hI := zIn_c hn0 (by decide) hn1 (by decide) hn2
                                      exact W.zret (v := 0) hx hb hr (by decide) (fun t ht hW => ⟨⟨0, (npu, nte, nat_, nde, nse, nhu, nga, gki, gpa, gta, gla, gsl, gco, (upd (upd gte (0 : Int32).toNatClampNeg q_515) (1 : Int32).toNatClampNeg q_539), q_538, q_539, q_590), rfl, ⟨(show 0 ≤ npu.toInt ∧ npu.toInt ≤ 8 from ⟨hy0, hy1⟩), (show 4 ≤ nte.toInt ∧ nte.toInt ≤ 40 from ⟨hy2, hy3⟩), (show 0 ≤ nat_.toInt ∧ nat_.toInt ≤ 40 from ⟨hy4, hy5⟩), (show 0 ≤ nde.toInt ∧ nde.toInt ≤ 24 from ⟨hy6, hy7⟩), (show 0 ≤ nhu.toInt ∧ nhu.toInt ≤ 9 from ⟨hy8, hy9⟩), hp_gki, hp_gpa, hp_gta, hp_gla, hp_gsl, hp_gco, (show 0 ≤ q_538.toInt ∧ q_538.toInt ≤ 160 from hbq_538), (show npl.toInt ≤ q_538.toInt ∧ q_538.toInt ≤ nen.toInt from by exact ⟨by omega, by omega⟩), (show ((0 : Int32).toInt = 1 → (zItem (zMF gce nba.toInt) nen.toInt npl.toInt nte.toInt npu.toInt).1 = -1 ∧ q_538.toInt = (zItem (zMF gce nba.toInt) nen.toInt npl.toInt nte.toInt npu.toInt).2.1 ∧ nte.toInt = (zItem (zMF gce nba.toInt) nen.toInt npl.toInt nte.toInt npu.toInt).2.2.1 ∧ npu.toInt = (zItem (zMF gce nba.toInt) nen.toInt npl.toInt nte.toInt npu.toInt).2.2.2) ∧ ((0 : Int32).toInt = 0 → (zItem (zMF gce nba.toInt) nen.toInt npl.toInt nte.toInt npu.toInt).1 = q_590.toInt ∧ 0 ≤ q_590.toInt) from by (have k9 : (0 : Int32).toInt = 0 := (by decide); rw [zItem_w hW1 (by decide) hp8 rfl hI]; dsimp only; exact ⟨fun h => absurd h (by decide), fun _ => ⟨by first | rfl | (show _ = _; omega), by omega⟩⟩)), ⟨by decide, by decide⟩⟩, zRet ht hP hD [10, 8, 0, 9, 1, 2, 3, 4, 5, 6, 7] (by decide) rfl⟩, hS.F ht⟩) hS.2.2 dX8_item_93
                            · have fc_547 : r_544.toInt = 0 := zf_eq c_547 rfl (by decide)
                              obtain ⟨hy1_1, hy2_1, hy3_1⟩ := hsr_536_2.1 (by omega)
                              have hn1 : zN1 (zMF gce nba.toInt) nen.toInt (q_514 : Int32).toInt (zLo 3 1) (zHi 3 1 nte.toInt) = ((x_535 : Int32).toInt, (q_538 : Int32).toInt, (q_539 : Int32).toInt) := zN1_yes (p1 := (x_535 : Int32).toInt) (lo2 := 0) (hi2 := (9 : Int)) ⟨by omega, by (rw [zMF_at (by omega), ← hdx_533]; omega)⟩ (by omega) hy1_1 hy2_1 (by decide) (by first | rfl | decide | (show nte.toInt - 1 = _; omega) | (show nte.toInt = _; omega)) (by omega)
                              refine lv_aload_n hx hb dX8_item_127 rfl (lv_at hl 3 rfl) ?_
                              refine lv_iload_n hx hb dX8_item_128 rfl (lv_at hl 0 rfl) ?_
                              skip
                              refine zw_V (As := [.int x_535]) (rest := []) (wr := [(mnu, .inl (cI, 10, .inl gnu)), (mki, .inl (cI, 8, .inl gki)), (mpa, .inl (cI, 8, .inl gpa)), (mta, .inl (cI, 8, .inl gta)), (mla, .inl (cI, 40, .inl gla)), (msl, .inl (cI, 40, .inl gsl)), (mco, .inl (cI, 3, .inl gco)), (mte, .inl (cI, 3, .inl (upd gte (0 : Int32).toNatClampNeg q_515))), (mwo, .inl (cI, 64, .inl gwo)), (mce, .inl (cJ, 1280, .inr (.inl gce)))]) ⟨hx, hb, hml, hown, hts⟩ (c_F_M_wrong l D cI cJ cZ cP cS po m0 mrf mki mpa mta mla msl mco mhe mso msi msh mce mca mwo mnu mte mwa mke mma mth mtr (npu) (nte) (nat_) (nde) (nto) (nse) (nhu) (nga) (nsd) (nfa) (nba) (q_538) (nen) (q_539) (q_540) (nra) (nik) (x_535) hy0 hy1 hy2 hy3 hy4 hy5 hy6 hy7 hy8 hy9 hy10 hy11 hy12 hy13 H.size) (cwV 1 hts gX8_item_X8_wrong rfl rfl rfl ⟨rfl, dh_X8_wrong⟩ ⟨Nat.le_of_ble_eq_true rfl, Nat.le_of_ble_eq_true rfl⟩) hK hN (hZ.kept hS) hP hD hS hA [9] [0, 1, 2, 3, 4, 5, 6, 7, 8, 10] rfl rfl (by decide) (by decide) (by decide) (va_recv (q := (RX8, TX8, 38)) hK hP (ci := 8) (q0 := 9) rfl rfl) rfl hl.1 rfl (Nat.le_of_ble_eq_true rfl) dX8_item_129 ⟨Nat.le_of_ble_eq_true rfl, Nat.le_of_ble_eq_true rfl⟩ (fun r_591 u_592 H locs hr_591 hP hD hS => ?_)
                              obtain ⟨q_593, rfl⟩ : ∃ z, z = u_592 := ⟨_, rfl⟩
                              obtain ⟨hsr_591_0, hr_591⟩ := hr_591
                              have h9R := zRe (ws' := [(mnu, .inl (cI, 10, .inl gnu)), (mki, .inl (cI, 8, .inl gki)), (mpa, .inl (cI, 8, .inl gpa)), (mta, .inl (cI, 8, .inl gta)), (mla, .inl (cI, 40, .inl gla)), (msl, .inl (cI, 40, .inl gsl)), (mco, .inl (cI, 3, .inl gco)), (mte, .inl (cI, 3, .inl (upd gte (0 : Int32).toNatClampNeg q_515))), (mwo, .inl (cI, 64, .inl gwo)), (mce, .inl (cJ, 1280, .inr (.inl gce))), (zMO m0 npu nte nat_ nde nto nse nhu nga nsd nfa mrf mki mpa mta mla msl mco mhe mso msi msh mce mca mwo mnu mte nba q_538 nen q_539 q_593 mwa mke mma mth mtr nra nik)]) hP hD rfl
                              clear hP hD
                              obtain ⟨hP, hD⟩ := h9R
                              obtain rfl := hr_591
                              have hI := zIn_b hn0 (by decide) hn1 (by first | (right; decide) | (left; omega))
                              exact W.zret (v := 0) hx hb hr (by decide) (fun t ht hW => ⟨⟨0, (npu, nte, nat_, nde, nse, nhu, nga, gki, gpa, gta, gla, gsl, gco, (upd gte (0 : Int32).toNatClampNeg q_515), q_538, q_539, q_593), rfl, ⟨(show 0 ≤ npu.toInt ∧ npu.toInt ≤ 8 from ⟨hy0, hy1⟩), (show 4 ≤ nte.toInt ∧ nte.toInt ≤ 40 from ⟨hy2, hy3⟩), (show 0 ≤ nat_.toInt ∧ nat_.toInt ≤ 40 from ⟨hy4, hy5⟩), (show 0 ≤ nde.toInt ∧ nde.toInt ≤ 24 from ⟨hy6, hy7⟩), (show 0 ≤ nhu.toInt ∧ nhu.toInt ≤ 9 from ⟨hy8, hy9⟩), hp_gki, hp_gpa, hp_gta, hp_gla, hp_gsl, hp_gco, (show 0 ≤ q_538.toInt ∧ q_538.toInt ≤ 160 from hbq_538), (show npl.toInt ≤ q_538.toInt ∧ q_538.toInt ≤ nen.toInt from by exact ⟨by omega, by omega⟩), (show ((0 : Int32).toInt = 1 → (zItem (zMF gce nba.toInt) nen.toInt npl.toInt nte.toInt npu.toInt).1 = -1 ∧ q_538.toInt = (zItem (zMF gce nba.toInt) nen.toInt npl.toInt nte.toInt npu.toInt).2.1 ∧ nte.toInt = (zItem (zMF gce nba.toInt) nen.toInt npl.toInt nte.toInt npu.toInt).2.2.1 ∧ npu.toInt = (zItem (zMF gce nba.toInt) nen.toInt npl.toInt nte.toInt npu.toInt).2.2.2) ∧ ((0 : Int32).toInt = 0 → (zItem (zMF gce nba.toInt) nen.toInt npl.toInt nte.toInt npu.toInt).1 = q_593.toInt ∧ 0 ≤ q_593.toInt) from by (have k9 : (0 : Int32).toInt = 0 := (by decide); rw [zItem_w hW1 (by decide) hp8 rfl hI]; dsimp only; exact ⟨fun h => absurd h (by decide), fun _ => ⟨by first | rfl | (show _ = _; omega), by omega⟩⟩)), ⟨by decide, by decide⟩⟩, zRet ht hP hD [10, 8, 0, 9, 1, 2, 3, 4, 5, 6, 7] (by decide) rfl⟩, hS.F ht⟩) hS.2.2 dX8_item_132
                          · have fc_543 : r_536.toInt = 0 := zf_eq c_543 rfl (by decide)
                            have hn1 : zN1 (zMF gce nba.toInt) nen.toInt (q_514 : Int32).toInt (zLo 3 1) (zHi 3 1 nte.toInt) = ((x_535 : Int32).toInt, (x_535 : Int32).toInt, 0) := zN1_yes (p1 := (x_535 : Int32).toInt) (lo2 := 0) (hi2 := (9 : Int)) ⟨by omega, by (rw [zMF_at (by omega), ← hdx_533]; omega)⟩ (by omega) (hsr_536_2.2 (by omega)).1.symm zNv_0.symm (by decide) (by first | rfl | decide | (show nte.toInt - 1 = _; omega) | (show nte.toInt = _; omega)) (Or.inl ⟨rfl, Or.inl rfl⟩)
                            refine lv_iconst (v := 0) hx hb dX8_item_116 (by decide) ?_
                            have hI := zIn_b hn0 (by decide) hn1 (by first | (right; decide) | (left; omega))
                            exact W.zret (v := 0) hx hb hr (by decide) (fun t ht hW => ⟨⟨0, (npu, nte, nat_, nde, nse, nhu, nga, gki, gpa, gta, gla, gsl, gco, (upd gte (0 : Int32).toNatClampNeg q_515), q_538, q_539, q_540), rfl, ⟨(show 0 ≤ npu.toInt ∧ npu.toInt ≤ 8 from ⟨hy0, hy1⟩), (show 4 ≤ nte.toInt ∧ nte.toInt ≤ 40 from ⟨hy2, hy3⟩), (show 0 ≤ nat_.toInt ∧ nat_.toInt ≤ 40 from ⟨hy4, hy5⟩), (show 0 ≤ nde.toInt ∧ nde.toInt ≤ 24 from ⟨hy6, hy7⟩), (show 0 ≤ nhu.toInt ∧ nhu.toInt ≤ 9 from ⟨hy8, hy9⟩), hp_gki, hp_gpa, hp_gta, hp_gla, hp_gsl, hp_gco, (show 0 ≤ q_538.toInt ∧ q_538.toInt ≤ 160 from hbq_538), (show npl.toInt ≤ q_538.toInt ∧ q_538.toInt ≤ nen.toInt from by exact ⟨by omega, by omega⟩), (show ((0 : Int32).toInt = 1 → (zItem (zMF gce nba.toInt) nen.toInt npl.toInt nte.toInt npu.toInt).1 = -1 ∧ q_538.toInt = (zItem (zMF gce nba.toInt) nen.toInt npl.toInt nte.toInt npu.toInt).2.1 ∧ nte.toInt = (zItem (zMF gce nba.toInt) nen.toInt npl.toInt nte.toInt npu.toInt).2.2.1 ∧ npu.toInt = (zItem (zMF gce nba.toInt) nen.toInt npl.toInt nte.toInt npu.toInt).2.2.2) ∧ ((0 : Int32).toInt = 0 → (zItem (zMF gce nba.toInt) nen.toInt npl.toInt nte.toInt npu.toInt).1 = q_540.toInt ∧ 0 ≤ q_540.toInt) from by (have k9 : (0 : Int32).toInt = 0 := (by decide); rw [zItem_w hW1 (by decide) hp8 rfl hI]; dsimp only; exact ⟨fun h => absurd h (by decide), fun _ => ⟨by first | rfl | (show _ = _; omega), by omega⟩⟩)), ⟨by decide, by decide⟩⟩, zRet ht hP hD [9, 8, 0, 10, 1, 2, 3, 4, 5, 6, 7] (by decide) rfl⟩, hS.F ht⟩) hS.2.2 dX8_item_117
                        · have fc_534 : x_533.toInt ≠ 32 := zf_ne c_534 rfl (by decide)
                          have hn1 : zN1 (zMF gce nba.toInt) nen.toInt (q_514 : Int32).toInt (zLo 3 1) (zHi 3 1 nte.toInt) = ((q_514 : Int32).toInt, (q_514 : Int32).toInt, 0) := zN1_no (by first | (intro z; have z1 := z.1; omega) | (intro z; have z2 := z.2; rw [zMF_at (by omega), ← hdx_533] at z2; omega))
                          refine lv_aload_n hx hb dX8_item_85 rfl (lv_at hl 3 rfl) ?_
                          refine lv_aload_n hx hb dX8_item_86 rfl (lv_at hl 3 rfl) ?_
                          refine va_get (D := D) (ci := 8) (v := .int q_514) (C := RX8) (T := TX8) (N := 38) hx hb hts hi_X8_item_8 hown hK hP 9 rfl rfl 27 (by decide) (hts (.fieldLink RX8 152 "TheLiningsInItModel" "place" "I") (List.mem_of_getElem? (i := 2) rfl)) (fun _ h9 => h9) rfl dX8_item_87 ?_
                          skip
                          refine zw_V (As := [.int q_514]) (rest := []) (wr := [(mnu, .inl (cI, 10, .inl gnu)), (mki, .inl (cI, 8, .inl gki)), (mpa, .inl (cI, 8, .inl gpa)), (mta, .inl (cI, 8, .inl gta)), (mla, .inl (cI, 40, .inl gla)), (msl, .inl (cI, 40, .inl gsl)), (mco, .inl (cI, 3, .inl gco)), (mte, .inl (cI, 3, .inl (upd gte (0 : Int32).toNatClampNeg q_515))), (mwo, .inl (cI, 64, .inl gwo)), (mce, .inl (cJ, 1280, .inr (.inl gce)))]) ⟨hx, hb, hml, hown, hts⟩ (c_F_M_wrong l D cI cJ cZ cP cS po m0 mrf mki mpa mta mla msl mco mhe mso msi msh mce mca mwo mnu mte mwa mke mma mth mtr (npu) (nte) (nat_) (nde) (nto) (nse) (nhu) (nga) (nsd) (nfa) (nba) (q_514) (nen) (q_515) (q_516) (nra) (nik) (q_514) hy0 hy1 hy2 hy3 hy4 hy5 hy6 hy7 hy8 hy9 hy10 hy11 hy12 hy13 H.size) (cwV 1 hts gX8_item_X8_wrong rfl rfl rfl ⟨rfl, dh_X8_wrong⟩ ⟨Nat.le_of_ble_eq_true rfl, Nat.le_of_ble_eq_true rfl⟩) hK hN (hZ.kept hS) hP hD hS hA [9] [0, 1, 2, 3, 4, 5, 6, 7, 8, 10] rfl rfl (by decide) (by decide) (by decide) (va_recv (q := (RX8, TX8, 38)) hK hP (ci := 8) (q0 := 9) rfl rfl) rfl hl.1 rfl (Nat.le_of_ble_eq_true rfl) dX8_item_90 ⟨Nat.le_of_ble_eq_true rfl, Nat.le_of_ble_eq_true rfl⟩ (fun r_594 u_595 H locs hr_594 hP hD hS => ?_)
                          obtain ⟨q_596, rfl⟩ : ∃ z, z = u_595 := ⟨_, rfl⟩
                          obtain ⟨hsr_594_0, hr_594⟩ := hr_594
                          have h9R := zRe (ws' := [(mnu, .inl (cI, 10, .inl gnu)), (mki, .inl (cI, 8, .inl gki)), (mpa, .inl (cI, 8, .inl gpa)), (mta, .inl (cI, 8, .inl gta)), (mla, .inl (cI, 40, .inl gla)), (msl, .inl (cI, 40, .inl gsl)), (mco, .inl (cI, 3, .inl gco)), (mte, .inl (cI, 3, .inl (upd gte (0 : Int32).toNatClampNeg q_515))), (mwo, .inl (cI, 64, .inl gwo)), (mce, .inl (cJ, 1280, .inr (.inl gce))), (zMO m0 npu nte nat_ nde nto nse nhu nga nsd nfa mrf mki mpa mta mla msl mco mhe mso msi msh mce mca mwo mnu mte nba q_514 nen q_515 q_596 mwa mke mma mth mtr nra nik)]) hP hD rfl
                          clear hP hD
                          obtain ⟨hP, hD⟩ := h9R
                          obtain rfl := hr_594
                          have hI := zIn_b hn0 (by decide) hn1 (by first | (right; decide) | (left; omega))
                          exact W.zret (v := 0) hx hb hr (by decide) (fun t ht hW => ⟨⟨0, (npu, nte, nat_, nde, nse, nhu, nga, gki, gpa, gta, gla, gsl, gco, (upd gte (0 : Int32).toNatClampNeg q_515), q_514, q_515, q_596), rfl, ⟨(show 0 ≤ npu.toInt ∧ npu.toInt ≤ 8 from ⟨hy0, hy1⟩), (show 4 ≤ nte.toInt ∧ nte.toInt ≤ 40 from ⟨hy2, hy3⟩), (show 0 ≤ nat_.toInt ∧ nat_.toInt ≤ 40 from ⟨hy4, hy5⟩), (show 0 ≤ nde.toInt ∧ nde.toInt ≤ 24 from ⟨hy6, hy7⟩), (show 0 ≤ nhu.toInt ∧ nhu.toInt ≤ 9 from ⟨hy8, hy9⟩), hp_gki, hp_gpa, hp_gta, hp_gla, hp_gsl, hp_gco, (show 0 ≤ q_514.toInt ∧ q_514.toInt ≤ 160 from hbq_514), (show npl.toInt ≤ q_514.toInt ∧ q_514.toInt ≤ nen.toInt from by exact ⟨by omega, by omega⟩), (show ((0 : Int32).toInt = 1 → (zItem (zMF gce nba.toInt) nen.toInt npl.toInt nte.toInt npu.toInt).1 = -1 ∧ q_514.toInt = (zItem (zMF gce nba.toInt) nen.toInt npl.toInt nte.toInt npu.toInt).2.1 ∧ nte.toInt = (zItem (zMF gce nba.toInt) nen.toInt npl.toInt nte.toInt npu.toInt).2.2.1 ∧ npu.toInt = (zItem (zMF gce nba.toInt) nen.toInt npl.toInt nte.toInt npu.toInt).2.2.2) ∧ ((0 : Int32).toInt = 0 → (zItem (zMF gce nba.toInt) nen.toInt npl.toInt nte.toInt npu.toInt).1 = q_596.toInt ∧ 0 ≤ q_596.toInt) from by (have k9 : (0 : Int32).toInt = 0 := (by decide); rw [zItem_w hW1 (by decide) hp8 rfl hI]; dsimp only; exact ⟨fun h => absurd h (by decide), fun _ => ⟨by first | rfl | (show _ = _; omega), by omega⟩⟩)), ⟨by decide, by decide⟩⟩, zRet ht hP hD [10, 8, 0, 9, 1, 2, 3, 4, 5, 6, 7] (by decide) rfl⟩, hS.F ht⟩) hS.2.2 dX8_item_93
                · have fc_523 : r_520.toInt = 0 := zf_eq c_523 rfl (by decide)
                  obtain ⟨hy1_0, hy2_0, hy3_0⟩ := hsr_512_2.1 (by omega)
                  have hn0 : zN1 (zMF gce nba.toInt) nen.toInt (npl.toInt + ((zWds ((3 : Int)).toNat).length : Int)) (zLo 3 0) (zHi 3 0 nte.toInt) = ((q_402 : Int32).toInt, (q_514 : Int32).toInt, (q_515 : Int32).toInt) := zN1_yes (p1 := (q_402 : Int32).toInt) (lo2 := 0) (hi2 := (6 : Int)) ⟨hW2, hW3⟩ (by omega) hy1_0 hy2_0 (by decide) (by first | rfl | decide | (show nte.toInt - 1 = _; omega) | (show nte.toInt = _; omega)) (by omega)
                  refine lv_aload_n hx hb dX8_item_127 rfl (lv_at hl 3 rfl) ?_
                  refine lv_iload_n hx hb dX8_item_128 rfl (lv_at hl 0 rfl) ?_
                  skip
                  refine zw_V (As := [.int q_402]) (rest := []) (wr := [(mnu, .inl (cI, 10, .inl gnu)), (mki, .inl (cI, 8, .inl gki)), (mpa, .inl (cI, 8, .inl gpa)), (mta, .inl (cI, 8, .inl gta)), (mla, .inl (cI, 40, .inl gla)), (msl, .inl (cI, 40, .inl gsl)), (mco, .inl (cI, 3, .inl gco)), (mte, .inl (cI, 3, .inl gte)), (mwo, .inl (cI, 64, .inl gwo)), (mce, .inl (cJ, 1280, .inr (.inl gce)))]) ⟨hx, hb, hml, hown, hts⟩ (c_F_M_wrong l D cI cJ cZ cP cS po m0 mrf mki mpa mta mla msl mco mhe mso msi msh mce mca mwo mnu mte mwa mke mma mth mtr (npu) (nte) (nat_) (nde) (nto) (nse) (nhu) (nga) (nsd) (nfa) (nba) (q_514) (nen) (q_515) (q_516) (nra) (nik) (q_402) hy0 hy1 hy2 hy3 hy4 hy5 hy6 hy7 hy8 hy9 hy10 hy11 hy12 hy13 H.size) (cwV 1 hts gX8_item_X8_wrong rfl rfl rfl ⟨rfl, dh_X8_wrong⟩ ⟨Nat.le_of_ble_eq_true rfl, Nat.le_of_ble_eq_true rfl⟩) hK hN (hZ.kept hS) hP hD hS hA [9] [0, 1, 2, 3, 4, 5, 6, 7, 8, 10] rfl rfl (by decide) (by decide) (by decide) (va_recv (q := (RX8, TX8, 38)) hK hP (ci := 8) (q0 := 9) rfl rfl) rfl hl.1 rfl (Nat.le_of_ble_eq_true rfl) dX8_item_129 ⟨Nat.le_of_ble_eq_true rfl, Nat.le_of_ble_eq_true rfl⟩ (fun r_597 u_598 H locs hr_597 hP hD hS => ?_)
                  obtain ⟨q_599, rfl⟩ : ∃ z, z = u_598 := ⟨_, rfl⟩
                  obtain ⟨hsr_597_0, hr_597⟩ := hr_597
                  have h9R := zRe (ws' := [(mnu, .inl (cI, 10, .inl gnu)), (mki, .inl (cI, 8, .inl gki)), (mpa, .inl (cI, 8, .inl gpa)), (mta, .inl (cI, 8, .inl gta)), (mla, .inl (cI, 40, .inl gla)), (msl, .inl (cI, 40, .inl gsl)), (mco, .inl (cI, 3, .inl gco)), (mte, .inl (cI, 3, .inl gte)), (mwo, .inl (cI, 64, .inl gwo)), (mce, .inl (cJ, 1280, .inr (.inl gce))), (zMO m0 npu nte nat_ nde nto nse nhu nga nsd nfa mrf mki mpa mta mla msl mco mhe mso msi msh mce mca mwo mnu mte nba q_514 nen q_515 q_599 mwa mke mma mth mtr nra nik)]) hP hD rfl
                  clear hP hD
                  obtain ⟨hP, hD⟩ := h9R
                  obtain rfl := hr_597
                  have hI := zIn_a hn0 (by first | (right; decide) | (left; omega))
                  exact W.zret (v := 0) hx hb hr (by decide) (fun t ht hW => ⟨⟨0, (npu, nte, nat_, nde, nse, nhu, nga, gki, gpa, gta, gla, gsl, gco, gte, q_514, q_515, q_599), rfl, ⟨(show 0 ≤ npu.toInt ∧ npu.toInt ≤ 8 from ⟨hy0, hy1⟩), (show 4 ≤ nte.toInt ∧ nte.toInt ≤ 40 from ⟨hy2, hy3⟩), (show 0 ≤ nat_.toInt ∧ nat_.toInt ≤ 40 from ⟨hy4, hy5⟩), (show 0 ≤ nde.toInt ∧ nde.toInt ≤ 24 from ⟨hy6, hy7⟩), (show 0 ≤ nhu.toInt ∧ nhu.toInt ≤ 9 from ⟨hy8, hy9⟩), hp_gki, hp_gpa, hp_gta, hp_gla, hp_gsl, hp_gco, (show 0 ≤ q_514.toInt ∧ q_514.toInt ≤ 160 from hbq_514), (show npl.toInt ≤ q_514.toInt ∧ q_514.toInt ≤ nen.toInt from by exact ⟨by omega, by omega⟩), (show ((0 : Int32).toInt = 1 → (zItem (zMF gce nba.toInt) nen.toInt npl.toInt nte.toInt npu.toInt).1 = -1 ∧ q_514.toInt = (zItem (zMF gce nba.toInt) nen.toInt npl.toInt nte.toInt npu.toInt).2.1 ∧ nte.toInt = (zItem (zMF gce nba.toInt) nen.toInt npl.toInt nte.toInt npu.toInt).2.2.1 ∧ npu.toInt = (zItem (zMF gce nba.toInt) nen.toInt npl.toInt nte.toInt npu.toInt).2.2.2) ∧ ((0 : Int32).toInt = 0 → (zItem (zMF gce nba.toInt) nen.toInt npl.toInt nte.toInt npu.toInt).1 = q_599.toInt ∧ 0 ≤ q_599.toInt) from by (have k9 : (0 : Int32).toInt = 0 := (by decide); rw [zItem_w hW1 (by decide) hp8 rfl hI]; dsimp only; exact ⟨fun h => absurd h (by decide), fun _ => ⟨by first | rfl | (show _ = _; omega), by omega⟩⟩)), ⟨by decide, by decide⟩⟩, zRet ht hP hD [10, 8, 0, 9, 1, 2, 3, 4, 5, 6, 7] (by decide) rfl⟩, hS.F ht⟩) hS.2.2 dX8_item_132
              · have fc_519 : r_512.toInt = 0 := zf_eq c_519 rfl (by decide)
                have hn0 : zN1 (zMF gce nba.toInt) nen.toInt (npl.toInt + ((zWds ((3 : Int)).toNat).length : Int)) (zLo 3 0) (zHi 3 0 nte.toInt) = ((q_402 : Int32).toInt, (q_402 : Int32).toInt, 0) := zN1_yes (p1 := (q_402 : Int32).toInt) (lo2 := 0) (hi2 := (6 : Int)) ⟨hW2, hW3⟩ (by omega) (hsr_512_2.2 (by omega)).1.symm zNv_0.symm (by decide) (by first | rfl | decide | (show nte.toInt - 1 = _; omega) | (show nte.toInt = _; omega)) (Or.inl ⟨rfl, Or.inl rfl⟩)
                refine lv_iconst (v := 0) hx hb dX8_item_116 (by decide) ?_
                have hI := zIn_a hn0 (by first | (right; decide) | (left; omega))
                exact W.zret (v := 0) hx hb hr (by decide) (fun t ht hW => ⟨⟨0, (npu, nte, nat_, nde, nse, nhu, nga, gki, gpa, gta, gla, gsl, gco, gte, q_514, q_515, q_516), rfl, ⟨(show 0 ≤ npu.toInt ∧ npu.toInt ≤ 8 from ⟨hy0, hy1⟩), (show 4 ≤ nte.toInt ∧ nte.toInt ≤ 40 from ⟨hy2, hy3⟩), (show 0 ≤ nat_.toInt ∧ nat_.toInt ≤ 40 from ⟨hy4, hy5⟩), (show 0 ≤ nde.toInt ∧ nde.toInt ≤ 24 from ⟨hy6, hy7⟩), (show 0 ≤ nhu.toInt ∧ nhu.toInt ≤ 9 from ⟨hy8, hy9⟩), hp_gki, hp_gpa, hp_gta, hp_gla, hp_gsl, hp_gco, (show 0 ≤ q_514.toInt ∧ q_514.toInt ≤ 160 from hbq_514), (show npl.toInt ≤ q_514.toInt ∧ q_514.toInt ≤ nen.toInt from by exact ⟨by omega, by omega⟩), (show ((0 : Int32).toInt = 1 → (zItem (zMF gce nba.toInt) nen.toInt npl.toInt nte.toInt npu.toInt).1 = -1 ∧ q_514.toInt = (zItem (zMF gce nba.toInt) nen.toInt npl.toInt nte.toInt npu.toInt).2.1 ∧ nte.toInt = (zItem (zMF gce nba.toInt) nen.toInt npl.toInt nte.toInt npu.toInt).2.2.1 ∧ npu.toInt = (zItem (zMF gce nba.toInt) nen.toInt npl.toInt nte.toInt npu.toInt).2.2.2) ∧ ((0 : Int32).toInt = 0 → (zItem (zMF gce nba.toInt) nen.toInt npl.toInt nte.toInt npu.toInt).1 = q_516.toInt ∧ 0 ≤ q_516.toInt) from by (have k9 : (0 : Int32).toInt = 0 := (by decide); rw [zItem_w hW1 (by decide) hp8 rfl hI]; dsimp only; exact ⟨fun h => absurd h (by decide), fun _ => ⟨by first | rfl | (show _ = _; omega), by omega⟩⟩)), ⟨by decide, by decide⟩⟩, zRet ht hP hD [9, 8, 0, 10, 1, 2, 3, 4, 5, 6, 7] (by decide) rfl⟩, hS.F ht⟩) hS.2.2 dX8_item_117
            · exact absurd c_511 (by decide)
        · have kc4 : (4 : Int32).toInt = 4 := by decide
          have z9 := hsr_400_1
          rw [kc4] at z9
          obtain ⟨hW1, hW2, hW3, hW4⟩ := zItem_Mw (f := (zMF gce nba.toInt)) (e := nen.toInt) (p := npl.toInt) (w := 4) (by omega) (by decide)
          have hp8 : ¬ ((4 : Int) = 3 ∧ npu.toInt = 8) := fun z => absurd z.1 (by decide)
          refine lv_iconst (v := 0) hx hb dX8_item_38 (by decide) ?_
          refine lv_istore_n (lv' := [(2, .int 0), (1, .int 4), (0, .ref m0)]) hx hb dX8_item_39 rfl hl (by decide) rfl (fun ls hl => ?_)
          refine lv_iload_n hx hb dX8_item_40 rfl (lv_at hl 0 rfl) ?_
          refine lv_aload_n hx hb dX8_item_41 rfl (lv_at hl 2 rfl) ?_
          refine va_get (D := D) (ci := 8) (v := .ref mnu) (C := RX8) (T := TX8) (N := 38) hx hb hts hi_X8_item_8 hown hK hP 8 rfl rfl 24 (by decide) (hts (.fieldLink RX8 69 "TheLiningsInItModel" "numbers" "[I") (List.mem_of_getElem? (i := 3) rfl)) (fun _ h9 => h9) rfl dX8_item_42 ?_
          refine lv_iload_n hx hb dX8_item_45 rfl (lv_at hl 1 rfl) ?_
          refine va_iald hx hb hK hP 0 0 rfl rfl (zf_in (by decide) (by decide)) dX8_item_46 ?_
          refine lv_topi (fun x_600 ex_600 => ?_)
          obtain rfl : x_600 = 1 := ex_600.trans ((congrArg gnu (show (4 : Int32).toNatClampNeg = 4 from by decide)).trans ((hnu 4 (by decide)).trans (by decide)))
          refine lv_icmp_ge (tgt := 149) hx hb dX8_item_47 (by decide) (fun c_601 => ?_) (fun c_601 => ?_)
          · exact absurd c_601 (by decide)
          · refine lv_iload_n hx hb dX8_item_50 rfl (lv_at hl 0 rfl) ?_
            refine lv_if_le (tgt := 104) hx hb dX8_item_51 (by decide) (fun c_602 => ?_) (fun c_602 => ?_)
            · refine lv_aload_n hx hb dX8_item_104 rfl (lv_at hl 2 rfl) ?_
              refine va_get (D := D) (ci := 8) (v := .int q_402) (C := RX8) (T := TX8) (N := 38) hx hb hts hi_X8_item_8 hown hK hP 8 rfl rfl 27 (by decide) (hts (.fieldLink RX8 152 "TheLiningsInItModel" "place" "I") (List.mem_of_getElem? (i := 2) rfl)) (fun _ h9 => h9) rfl dX8_item_105 ?_
              refine lv_istore_n (lv' := [(3, .int q_402), (2, .int 0), (1, .int 4), (0, .ref m0)]) hx hb dX8_item_108 rfl hl (by decide) rfl (fun ls hl => ?_)
              refine lv_aload_n hx hb dX8_item_109 rfl (lv_at hl 3 rfl) ?_
              skip
              refine zw_V (As := []) (rest := []) (wr := [(mnu, .inl (cI, 10, .inl gnu)), (mki, .inl (cI, 8, .inl gki)), (mpa, .inl (cI, 8, .inl gpa)), (mta, .inl (cI, 8, .inl gta)), (mla, .inl (cI, 40, .inl gla)), (msl, .inl (cI, 40, .inl gsl)), (mco, .inl (cI, 3, .inl gco)), (mte, .inl (cI, 3, .inl gte)), (mwo, .inl (cI, 64, .inl gwo))]) ⟨hx, hb, hml, hown, hts⟩ (c_F_M_reads l D cI cJ cZ cP cS po m0 mrf mki mpa mta mla msl mco mhe mso msi msh mce mca mwo mnu mte mwa mke mma mth mtr (npu) (nte) (nat_) (nde) (nto) (nse) (nhu) (nga) (nsd) (nfa) (nba) (q_402) (nen) (nnu) (q_403) (nra) (nik) gce hy0 hy1 hy2 hy3 hy4 hy5 hy6 hy7 hy8 hy9 hy10 hy11 hy12 hy13 hy14 hy15 hbq_402.1 hbq_402.2 hy18 hy19 (by omega) H.size) (cwV 0 hts gX8_item_X8_reads rfl rfl rfl ⟨rfl, dh_X8_reads⟩ ⟨Nat.le_of_ble_eq_true rfl, Nat.le_of_ble_eq_true rfl⟩) hK hN (hZ.kept hS) hP hD hS hA [8, 10] [0, 1, 2, 3, 4, 5, 6, 7, 9] rfl rfl (by decide) (by decide) (by decide) (va_recv (q := (RX8, TX8, 38)) hK hP (ci := 8) (q0 := 8) rfl rfl) rfl hl.1 rfl (Nat.le_of_ble_eq_true rfl) dX8_item_110 ⟨Nat.le_of_ble_eq_true rfl, Nat.le_of_ble_eq_true rfl⟩ (fun r_603 u_604 H locs hr_603 hP hD hS => ?_)
              obtain ⟨q_605, q_606, q_607⟩ := u_604
              try dsimp only at hr_603
              obtain ⟨hbq_605, hsr_603_0, hsr_603_1, hsr_603_2, hr_603⟩ := hr_603
              have h9R := zRe (ws' := [(mnu, .inl (cI, 10, .inl gnu)), (mki, .inl (cI, 8, .inl gki)), (mpa, .inl (cI, 8, .inl gpa)), (mta, .inl (cI, 8, .inl gta)), (mla, .inl (cI, 40, .inl gla)), (msl, .inl (cI, 40, .inl gsl)), (mco, .inl (cI, 3, .inl gco)), (mte, .inl (cI, 3, .inl gte)), (mwo, .inl (cI, 64, .inl gwo)), (zMO m0 npu nte nat_ nde nto nse nhu nga nsd nfa mrf mki mpa mta mla msl mco mhe mso msi msh mce mca mwo mnu mte nba q_605 nen q_606 q_607 mwa mke mma mth mtr nra nik), (mce, .inl (cJ, 1280, .inr (.inl gce)))]) hP hD rfl
              clear hP hD
              obtain ⟨hP, hD⟩ := h9R
              obtain ⟨g_608, g_609⟩ := hr_603
              refine lv_if_ne (tgt := 118) hx hb dX8_item_113 (by decide) (fun c_610 => ?_) (fun c_610 => ?_)
              · have fc_610 : r_603.toInt ≠ 0 := zf_ne c_610 rfl (by decide)
                refine lv_aload_n hx hb dX8_item_118 rfl (lv_at hl 3 rfl) ?_
                refine lv_iload_n hx hb dX8_item_119 rfl (lv_at hl 2 rfl) ?_
                refine lv_iload_n hx hb dX8_item_120 rfl (lv_at hl 1 rfl) ?_
                refine zc_V (As := [.int 4, .int 0]) (rest := []) ⟨hx, hb, hml, hown, hts⟩ (c_F_M_isSo_4_0 l D cI cJ cZ cP cS po m0 mrf mki mpa mta mla msl mco mhe mso msi msh mce mca mwo mnu mte mwa mke mma mth mtr (npu) (nte) (nat_) (nde) (nto) (nse) (nhu) (nga) (nsd) (nfa) (nba) (q_605) (nen) (q_606) (q_607) (nra) (nik) hy0 hy1 hy2 hy3 hy4 hy5 hy6 hy7 hy8 hy9 hy10 hy11 hy12 hy13 (by omega) (by omega)) (cwV 2 hts gX8_item_X8_isSo rfl rfl rfl ⟨rfl, dh_X8_isSo⟩ ⟨Nat.le_of_ble_eq_true rfl, Nat.le_of_ble_eq_true rfl⟩) hK hN (hZ.kept hS) hP (hP.sub [9] rfl) (va_recv (q := (RX8, TX8, 38)) hK hP (ci := 8) (q0 := 9) rfl rfl) rfl hl.1 rfl (Nat.le_of_ble_eq_true rfl) dX8_item_121 ⟨Nat.le_of_ble_eq_true rfl, Nat.le_of_ble_eq_true rfl⟩ (fun r_611 hr_611 => ?_)
                obtain ⟨g_612, g_613, hsr_611_0⟩ := hr_611
                refine lv_if_ne (tgt := 133) hx hb dX8_item_124 (by decide) (fun c_614 => ?_) (fun c_614 => ?_)
                · have fc_614 : r_611.toInt ≠ 0 := zf_ne c_614 rfl (by decide)
                  obtain ⟨hy1_0, hy2_0, hy3_0⟩ := hsr_603_2.1 (by omega)
                  have hn0 : zN1 (zMF gce nba.toInt) nen.toInt (npl.toInt + ((zWds ((4 : Int)).toNat).length : Int)) (zLo 4 0) (zHi 4 0 nte.toInt) = (-1, (q_605 : Int32).toInt, (q_606 : Int32).toInt) := zN1_yes (p1 := (q_402 : Int32).toInt) (lo2 := 0) (hi2 := (24 : Int)) ⟨hW2, hW3⟩ (by omega) hy1_0 hy2_0 (by decide) (by first | rfl | decide | (show nte.toInt - 1 = _; omega) | (show nte.toInt = _; omega)) (by omega)
                  refine lv_aload_n hx hb dX8_item_133 rfl (lv_at hl 3 rfl) ?_
                  refine va_get (D := D) (ci := 8) (v := .ref mte) (C := RX8) (T := TX8) (N := 38) hx hb hts hi_X8_item_8 hown hK hP 9 rfl rfl 25 (by decide) (hts (.fieldLink RX8 72 "TheLiningsInItModel" "tell" "[I") (List.mem_of_getElem? (i := 7) rfl)) (fun _ h9 => h9) rfl dX8_item_134 ?_
                  refine lv_iload_n hx hb dX8_item_137 rfl (lv_at hl 1 rfl) ?_
                  refine lv_aload_n hx hb dX8_item_138 rfl (lv_at hl 3 rfl) ?_
                  refine va_get (D := D) (ci := 8) (v := .int q_606) (C := RX8) (T := TX8) (N := 38) hx hb hts hi_X8_item_8 hown hK hP 9 rfl rfl 29 (by decide) (hts (.fieldLink RX8 161 "TheLiningsInItModel" "number" "I") (List.mem_of_getElem? (i := 8) rfl)) (fun _ h9 => h9) rfl dX8_item_139 ?_
                  refine va_iast hx hb hK hP hD hS 7 0 rfl rfl (zf_in (by decide) (by decide)) dX8_item_142 (fun H locs hP hD hS => ?_)
                  have h9R := zRe (ws' := [(mnu, .inl (cI, 10, .inl gnu)), (mki, .inl (cI, 8, .inl gki)), (mpa, .inl (cI, 8, .inl gpa)), (mta, .inl (cI, 8, .inl gta)), (mla, .inl (cI, 40, .inl gla)), (msl, .inl (cI, 40, .inl gsl)), (mco, .inl (cI, 3, .inl gco)), (mte, .inl (cI, 3, .inl (upd gte (0 : Int32).toNatClampNeg q_606))), (mwo, .inl (cI, 64, .inl gwo)), (zMO m0 npu nte nat_ nde nto nse nhu nga nsd nfa mrf mki mpa mta mla msl mco mhe mso msi msh mce mca mwo mnu mte nba q_605 nen q_606 q_607 mwa mke mma mth mtr nra nik), (mce, .inl (cJ, 1280, .inr (.inl gce)))]) hP hD rfl
                  clear hP hD
                  obtain ⟨hP, hD⟩ := h9R
                  refine lv_iinc (v := 1) (lv' := [(2, .int 1), (3, .int q_402), (1, .int 4), (0, .ref m0)]) hx hb dX8_item_143 hl (k := 1) rfl (by decide) (by decide) rfl (fun ls hl => ?_)
                  refine lv_goto (tgt := 40) hx hb dX8_item_146 (by decide) ?_
                  refine lv_iload_n hx hb dX8_item_40 rfl (lv_at hl 0 rfl) ?_
                  refine lv_aload_n hx hb dX8_item_41 rfl (lv_at hl 3 rfl) ?_
                  refine va_get (D := D) (ci := 8) (v := .ref mnu) (C := RX8) (T := TX8) (N := 38) hx hb hts hi_X8_item_8 hown hK hP 9 rfl rfl 24 (by decide) (hts (.fieldLink RX8 69 "TheLiningsInItModel" "numbers" "[I") (List.mem_of_getElem? (i := 3) rfl)) (fun _ h9 => h9) rfl dX8_item_42 ?_
                  refine lv_iload_n hx hb dX8_item_45 rfl (lv_at hl 2 rfl) ?_
                  refine va_iald hx hb hK hP 0 0 rfl rfl (zf_in (by decide) (by decide)) dX8_item_46 ?_
                  refine lv_topi (fun x_615 ex_615 => ?_)
                  obtain rfl : x_615 = 1 := ex_615.trans ((congrArg gnu (show (4 : Int32).toNatClampNeg = 4 from by decide)).trans ((hnu 4 (by decide)).trans (by decide)))
                  refine lv_icmp_ge (tgt := 149) hx hb dX8_item_47 (by decide) (fun c_616 => ?_) (fun c_616 => ?_)
                  · refine lv_iload_n hx hb dX8_item_149 rfl (lv_at hl 2 rfl) ?_
                    refine lv_tableIn (tgt := 311) hx hb dX8_item_150 (by decide) (by decide) rfl (by decide) ?_
                    refine lv_aload_n hx hb dX8_item_311 rfl (lv_at hl 3 rfl) ?_
                    refine lv_iload_n hx hb dX8_item_312 rfl (lv_at hl 2 rfl) ?_
                    refine lv_iconst (v := 4) hx hb dX8_item_313 (by decide) ?_
                    refine lv_isub hx hb dX8_item_314 ?_
                    refine lv_topi (fun y_617 ey_617 => ?_)
                    obtain rfl : y_617 = 0 := ey_617.trans (by decide)
                    refine lv_aload_n hx hb dX8_item_315 rfl (lv_at hl 3 rfl) ?_
                    refine va_get (D := D) (ci := 8) (v := .ref mte) (C := RX8) (T := TX8) (N := 38) hx hb hts hi_X8_item_8 hown hK hP 9 rfl rfl 25 (by decide) (hts (.fieldLink RX8 72 "TheLiningsInItModel" "tell" "[I") (List.mem_of_getElem? (i := 7) rfl)) (fun _ h9 => h9) rfl dX8_item_316 ?_
                    refine lv_iconst (v := 0) hx hb dX8_item_319 (by decide) ?_
                    refine va_iald hx hb hK hP 7 0 rfl rfl (zf_in (by decide) (by decide)) dX8_item_320 ?_
                    refine lv_topi (fun x_618 ex_618 => ?_)
                    obtain rfl : q_606 = x_618 := (ex_618.trans (if_pos rfl)).symm
                    have kc0 : (0 : Int32).toInt = 0 := by decide
                    skip
                    refine zw_Vv (As := [.int 0, .int q_606]) (rest := []) (wr := [(mnu, .inl (cI, 10, .inl gnu)), (mki, .inl (cI, 8, .inl gki)), (mpa, .inl (cI, 8, .inl gpa)), (mta, .inl (cI, 8, .inl gta)), (mla, .inl (cI, 40, .inl gla)), (msl, .inl (cI, 40, .inl gsl)), (mte, .inl (cI, 3, .inl (upd gte (0 : Int32).toNatClampNeg q_606))), (mwo, .inl (cI, 64, .inl gwo)), (mce, .inl (cJ, 1280, .inr (.inl gce)))]) ⟨hx, hb, hml, hown, hts⟩ (c_M_tells l D cI cJ cZ cP cS po m0 mrf mki mpa mta mla msl mco mhe mso msi msh mce mca mwo mnu mte mwa mke mma mth mtr (npu) (nte) (nat_) (nde) (nto) (nse) (nhu) (nga) (nsd) (nfa) (nba) (q_605) (nen) (q_606) (q_607) (nra) (nik) gco (0) (q_606) hy0 hy1 hy2 hy3 hy4 hy5 hy6 hy7 hy8 hy9 hy10 hy11 hy12 hy13 (by omega) (by omega) (by omega) hp_gco H.size) (cwV 2 hts gX8_item_X8_tells rfl rfl rfl ⟨rfl, dh_X8_tells⟩ ⟨Nat.le_of_ble_eq_true rfl, Nat.le_of_ble_eq_true rfl⟩) hK hN (hZ.kept hS) hP hD hS hA [9, 6] [0, 1, 2, 3, 4, 5, 7, 8, 10] rfl rfl (by decide) (by decide) (by decide) (va_recv (q := (RX8, TX8, 38)) hK hP (ci := 8) (q0 := 9) rfl rfl) rfl hl.1 rfl (Nat.le_of_ble_eq_true rfl) dX8_item_321 ⟨Nat.le_of_ble_eq_true rfl, Nat.le_of_ble_eq_true rfl⟩ (fun u_620 H locs hr_619 hP hD hS => ?_)
                    obtain ⟨q_621, q_622, q_623, q_624, q_625, q_626⟩ := u_620
                    try dsimp only at hr_619
                    obtain ⟨hbq_621, hbq_623, hbq_625, hpq_626, hr_619⟩ := hr_619
                    have h9R := zRe (ws' := [(mnu, .inl (cI, 10, .inl gnu)), (mki, .inl (cI, 8, .inl gki)), (mpa, .inl (cI, 8, .inl gpa)), (mta, .inl (cI, 8, .inl gta)), (mla, .inl (cI, 40, .inl gla)), (msl, .inl (cI, 40, .inl gsl)), (mte, .inl (cI, 3, .inl (upd gte (0 : Int32).toNatClampNeg q_606))), (mwo, .inl (cI, 64, .inl gwo)), (mce, .inl (cJ, 1280, .inr (.inl gce))), (zMO m0 npu nte q_625 q_621 nto q_622 q_623 q_624 nsd nfa mrf mki mpa mta mla msl mco mhe mso msi msh mce mca mwo mnu mte nba q_605 nen q_606 q_607 mwa mke mma mth mtr nra nik), (mco, .inl (cI, 3, .inl q_626))]) hP hD rfl
                    clear hP hD
                    obtain ⟨hP, hD⟩ := h9R
                    refine lv_iconst (v := 1) hx hb dX8_item_324 (by decide) ?_
                    have hI := zIn_a hn0 (by first | (right; decide) | (left; omega))
                    exact W.zret (v := 1) hx hb hr (by decide) (fun t ht hW => ⟨⟨1, (npu, nte, q_625, q_621, q_622, q_623, q_624, gki, gpa, gta, gla, gsl, q_626, (upd gte (0 : Int32).toNatClampNeg q_606), q_605, q_606, q_607), rfl, ⟨(show 0 ≤ npu.toInt ∧ npu.toInt ≤ 8 from ⟨hy0, hy1⟩), (show 4 ≤ nte.toInt ∧ nte.toInt ≤ 40 from ⟨hy2, hy3⟩), (show 0 ≤ q_625.toInt ∧ q_625.toInt ≤ 40 from hbq_625), (show 0 ≤ q_621.toInt ∧ q_621.toInt ≤ 24 from hbq_621), (show 0 ≤ q_623.toInt ∧ q_623.toInt ≤ 9 from hbq_623), hp_gki, hp_gpa, hp_gta, hp_gla, hp_gsl, hpq_626, (show 0 ≤ q_605.toInt ∧ q_605.toInt ≤ 160 from hbq_605), (show npl.toInt ≤ q_605.toInt ∧ q_605.toInt ≤ nen.toInt from by exact ⟨by omega, by omega⟩), (show ((1 : Int32).toInt = 1 → (zItem (zMF gce nba.toInt) nen.toInt npl.toInt nte.toInt npu.toInt).1 = -1 ∧ q_605.toInt = (zItem (zMF gce nba.toInt) nen.toInt npl.toInt nte.toInt npu.toInt).2.1 ∧ nte.toInt = (zItem (zMF gce nba.toInt) nen.toInt npl.toInt nte.toInt npu.toInt).2.2.1 ∧ npu.toInt = (zItem (zMF gce nba.toInt) nen.toInt npl.toInt nte.toInt npu.toInt).2.2.2) ∧ ((1 : Int32).toInt = 0 → (zItem (zMF gce nba.toInt) nen.toInt npl.toInt nte.toInt npu.toInt).1 = q_607.toInt ∧ 0 ≤ q_607.toInt) from by (have k9 : (1 : Int32).toInt = 1 := (by decide); rw [zItem_w hW1 (by decide) hp8 rfl hI]; dsimp only; exact ⟨fun _ => ⟨rfl, by first | rfl | omega, by (show _ = (if (4 : Int) = 0 then _ else _); rw [if_neg (by decide)]), by (show _ = (if (4 : Int) = 3 then _ else _); rw [if_neg (by decide)])⟩, fun h => absurd h (by decide)⟩)), ⟨by decide, by decide⟩⟩, zRet ht hP hD [9, 7, 0, 8, 1, 2, 3, 4, 5, 10, 6] (by decide) rfl⟩, hS.F ht⟩) hS.2.2 dX8_item_325
                  · exact absurd c_616 (by decide)
                · have fc_614 : r_611.toInt = 0 := zf_eq c_614 rfl (by decide)
                  obtain ⟨hy1_0, hy2_0, hy3_0⟩ := hsr_603_2.1 (by omega)
                  have hn0 : zN1 (zMF gce nba.toInt) nen.toInt (npl.toInt + ((zWds ((4 : Int)).toNat).length : Int)) (zLo 4 0) (zHi 4 0 nte.toInt) = ((q_402 : Int32).toInt, (q_605 : Int32).toInt, (q_606 : Int32).toInt) := zN1_yes (p1 := (q_402 : Int32).toInt) (lo2 := 0) (hi2 := (24 : Int)) ⟨hW2, hW3⟩ (by omega) hy1_0 hy2_0 (by decide) (by first | rfl | decide | (show nte.toInt - 1 = _; omega) | (show nte.toInt = _; omega)) (by omega)
                  refine lv_aload_n hx hb dX8_item_127 rfl (lv_at hl 3 rfl) ?_
                  refine lv_iload_n hx hb dX8_item_128 rfl (lv_at hl 0 rfl) ?_
                  skip
                  refine zw_V (As := [.int q_402]) (rest := []) (wr := [(mnu, .inl (cI, 10, .inl gnu)), (mki, .inl (cI, 8, .inl gki)), (mpa, .inl (cI, 8, .inl gpa)), (mta, .inl (cI, 8, .inl gta)), (mla, .inl (cI, 40, .inl gla)), (msl, .inl (cI, 40, .inl gsl)), (mco, .inl (cI, 3, .inl gco)), (mte, .inl (cI, 3, .inl gte)), (mwo, .inl (cI, 64, .inl gwo)), (mce, .inl (cJ, 1280, .inr (.inl gce)))]) ⟨hx, hb, hml, hown, hts⟩ (c_F_M_wrong l D cI cJ cZ cP cS po m0 mrf mki mpa mta mla msl mco mhe mso msi msh mce mca mwo mnu mte mwa mke mma mth mtr (npu) (nte) (nat_) (nde) (nto) (nse) (nhu) (nga) (nsd) (nfa) (nba) (q_605) (nen) (q_606) (q_607) (nra) (nik) (q_402) hy0 hy1 hy2 hy3 hy4 hy5 hy6 hy7 hy8 hy9 hy10 hy11 hy12 hy13 H.size) (cwV 1 hts gX8_item_X8_wrong rfl rfl rfl ⟨rfl, dh_X8_wrong⟩ ⟨Nat.le_of_ble_eq_true rfl, Nat.le_of_ble_eq_true rfl⟩) hK hN (hZ.kept hS) hP hD hS hA [9] [0, 1, 2, 3, 4, 5, 6, 7, 8, 10] rfl rfl (by decide) (by decide) (by decide) (va_recv (q := (RX8, TX8, 38)) hK hP (ci := 8) (q0 := 9) rfl rfl) rfl hl.1 rfl (Nat.le_of_ble_eq_true rfl) dX8_item_129 ⟨Nat.le_of_ble_eq_true rfl, Nat.le_of_ble_eq_true rfl⟩ (fun r_627 u_628 H locs hr_627 hP hD hS => ?_)
                  obtain ⟨q_629, rfl⟩ : ∃ z, z = u_628 := ⟨_, rfl⟩
                  obtain ⟨hsr_627_0, hr_627⟩ := hr_627
                  have h9R := zRe (ws' := [(mnu, .inl (cI, 10, .inl gnu)), (mki, .inl (cI, 8, .inl gki)), (mpa, .inl (cI, 8, .inl gpa)), (mta, .inl (cI, 8, .inl gta)), (mla, .inl (cI, 40, .inl gla)), (msl, .inl (cI, 40, .inl gsl)), (mco, .inl (cI, 3, .inl gco)), (mte, .inl (cI, 3, .inl gte)), (mwo, .inl (cI, 64, .inl gwo)), (mce, .inl (cJ, 1280, .inr (.inl gce))), (zMO m0 npu nte nat_ nde nto nse nhu nga nsd nfa mrf mki mpa mta mla msl mco mhe mso msi msh mce mca mwo mnu mte nba q_605 nen q_606 q_629 mwa mke mma mth mtr nra nik)]) hP hD rfl
                  clear hP hD
                  obtain ⟨hP, hD⟩ := h9R
                  obtain rfl := hr_627
                  have hI := zIn_a hn0 (by first | (right; decide) | (left; omega))
                  exact W.zret (v := 0) hx hb hr (by decide) (fun t ht hW => ⟨⟨0, (npu, nte, nat_, nde, nse, nhu, nga, gki, gpa, gta, gla, gsl, gco, gte, q_605, q_606, q_629), rfl, ⟨(show 0 ≤ npu.toInt ∧ npu.toInt ≤ 8 from ⟨hy0, hy1⟩), (show 4 ≤ nte.toInt ∧ nte.toInt ≤ 40 from ⟨hy2, hy3⟩), (show 0 ≤ nat_.toInt ∧ nat_.toInt ≤ 40 from ⟨hy4, hy5⟩), (show 0 ≤ nde.toInt ∧ nde.toInt ≤ 24 from ⟨hy6, hy7⟩), (show 0 ≤ nhu.toInt ∧ nhu.toInt ≤ 9 from ⟨hy8, hy9⟩), hp_gki, hp_gpa, hp_gta, hp_gla, hp_gsl, hp_gco, (show 0 ≤ q_605.toInt ∧ q_605.toInt ≤ 160 from hbq_605), (show npl.toInt ≤ q_605.toInt ∧ q_605.toInt ≤ nen.toInt from by exact ⟨by omega, by omega⟩), (show ((0 : Int32).toInt = 1 → (zItem (zMF gce nba.toInt) nen.toInt npl.toInt nte.toInt npu.toInt).1 = -1 ∧ q_605.toInt = (zItem (zMF gce nba.toInt) nen.toInt npl.toInt nte.toInt npu.toInt).2.1 ∧ nte.toInt = (zItem (zMF gce nba.toInt) nen.toInt npl.toInt nte.toInt npu.toInt).2.2.1 ∧ npu.toInt = (zItem (zMF gce nba.toInt) nen.toInt npl.toInt nte.toInt npu.toInt).2.2.2) ∧ ((0 : Int32).toInt = 0 → (zItem (zMF gce nba.toInt) nen.toInt npl.toInt nte.toInt npu.toInt).1 = q_629.toInt ∧ 0 ≤ q_629.toInt) from by (have k9 : (0 : Int32).toInt = 0 := (by decide); rw [zItem_w hW1 (by decide) hp8 rfl hI]; dsimp only; exact ⟨fun h => absurd h (by decide), fun _ => ⟨by first | rfl | (show _ = _; omega), by omega⟩⟩)), ⟨by decide, by decide⟩⟩, zRet ht hP hD [10, 8, 0, 9, 1, 2, 3, 4, 5, 6, 7] (by decide) rfl⟩, hS.F ht⟩) hS.2.2 dX8_item_132
              · have fc_610 : r_603.toInt = 0 := zf_eq c_610 rfl (by decide)
                have hn0 : zN1 (zMF gce nba.toInt) nen.toInt (npl.toInt + ((zWds ((4 : Int)).toNat).length : Int)) (zLo 4 0) (zHi 4 0 nte.toInt) = ((q_402 : Int32).toInt, (q_402 : Int32).toInt, 0) := zN1_yes (p1 := (q_402 : Int32).toInt) (lo2 := 0) (hi2 := (24 : Int)) ⟨hW2, hW3⟩ (by omega) (hsr_603_2.2 (by omega)).1.symm zNv_0.symm (by decide) (by first | rfl | decide | (show nte.toInt - 1 = _; omega) | (show nte.toInt = _; omega)) (Or.inl ⟨rfl, Or.inl rfl⟩)
                refine lv_iconst (v := 0) hx hb dX8_item_116 (by decide) ?_
                have hI := zIn_a hn0 (by first | (right; decide) | (left; omega))
                exact W.zret (v := 0) hx hb hr (by decide) (fun t ht hW => ⟨⟨0, (npu, nte, nat_, nde, nse, nhu, nga, gki, gpa, gta, gla, gsl, gco, gte, q_605, q_606, q_607), rfl, ⟨(show 0 ≤ npu.toInt ∧ npu.toInt ≤ 8 from ⟨hy0, hy1⟩), (show 4 ≤ nte.toInt ∧ nte.toInt ≤ 40 from ⟨hy2, hy3⟩), (show 0 ≤ nat_.toInt ∧ nat_.toInt ≤ 40 from ⟨hy4, hy5⟩), (show 0 ≤ nde.toInt ∧ nde.toInt ≤ 24 from ⟨hy6, hy7⟩), (show 0 ≤ nhu.toInt ∧ nhu.toInt ≤ 9 from ⟨hy8, hy9⟩), hp_gki, hp_gpa, hp_gta, hp_gla, hp_gsl, hp_gco, (show 0 ≤ q_605.toInt ∧ q_605.toInt ≤ 160 from hbq_605), (show npl.toInt ≤ q_605.toInt ∧ q_605.toInt ≤ nen.toInt from by exact ⟨by omega, by omega⟩), (show ((0 : Int32).toInt = 1 → (zItem (zMF gce nba.toInt) nen.toInt npl.toInt nte.toInt npu.toInt).1 = -1 ∧ q_605.toInt = (zItem (zMF gce nba.toInt) nen.toInt npl.toInt nte.toInt npu.toInt).2.1 ∧ nte.toInt = (zItem (zMF gce nba.toInt) nen.toInt npl.toInt nte.toInt npu.toInt).2.2.1 ∧ npu.toInt = (zItem (zMF gce nba.toInt) nen.toInt npl.toInt nte.toInt npu.toInt).2.2.2) ∧ ((0 : Int32).toInt = 0 → (zItem (zMF gce nba.toInt) nen.toInt npl.toInt nte.toInt npu.toInt).1 = q_607.toInt ∧ 0 ≤ q_607.toInt) from by (have k9 : (0 : Int32).toInt = 0 := (by decide); rw [zItem_w hW1 (by decide) hp8 rfl hI]; dsimp only; exact ⟨fun h => absurd h (by decide), fun _ => ⟨by first | rfl | (show _ = _; omega), by omega⟩⟩)), ⟨by decide, by decide⟩⟩, zRet ht hP hD [9, 8, 0, 10, 1, 2, 3, 4, 5, 6, 7] (by decide) rfl⟩, hS.F ht⟩) hS.2.2 dX8_item_117
            · exact absurd c_602 (by decide)
        · have kc5 : (5 : Int32).toInt = 5 := by decide
          have z9 := hsr_400_1
          rw [kc5] at z9
          obtain ⟨hW1, hW2, hW3, hW4⟩ := zItem_Mw (f := (zMF gce nba.toInt)) (e := nen.toInt) (p := npl.toInt) (w := 5) (by omega) (by decide)
          have hp8 : ¬ ((5 : Int) = 3 ∧ npu.toInt = 8) := fun z => absurd z.1 (by decide)
          refine lv_iconst (v := 0) hx hb dX8_item_38 (by decide) ?_
          refine lv_istore_n (lv' := [(2, .int 0), (1, .int 5), (0, .ref m0)]) hx hb dX8_item_39 rfl hl (by decide) rfl (fun ls hl => ?_)
          refine lv_iload_n hx hb dX8_item_40 rfl (lv_at hl 0 rfl) ?_
          refine lv_aload_n hx hb dX8_item_41 rfl (lv_at hl 2 rfl) ?_
          refine va_get (D := D) (ci := 8) (v := .ref mnu) (C := RX8) (T := TX8) (N := 38) hx hb hts hi_X8_item_8 hown hK hP 8 rfl rfl 24 (by decide) (hts (.fieldLink RX8 69 "TheLiningsInItModel" "numbers" "[I") (List.mem_of_getElem? (i := 3) rfl)) (fun _ h9 => h9) rfl dX8_item_42 ?_
          refine lv_iload_n hx hb dX8_item_45 rfl (lv_at hl 1 rfl) ?_
          refine va_iald hx hb hK hP 0 0 rfl rfl (zf_in (by decide) (by decide)) dX8_item_46 ?_
          refine lv_topi (fun x_630 ex_630 => ?_)
          obtain rfl : x_630 = 1 := ex_630.trans ((congrArg gnu (show (5 : Int32).toNatClampNeg = 5 from by decide)).trans ((hnu 5 (by decide)).trans (by decide)))
          refine lv_icmp_ge (tgt := 149) hx hb dX8_item_47 (by decide) (fun c_631 => ?_) (fun c_631 => ?_)
          · exact absurd c_631 (by decide)
          · refine lv_iload_n hx hb dX8_item_50 rfl (lv_at hl 0 rfl) ?_
            refine lv_if_le (tgt := 104) hx hb dX8_item_51 (by decide) (fun c_632 => ?_) (fun c_632 => ?_)
            · refine lv_aload_n hx hb dX8_item_104 rfl (lv_at hl 2 rfl) ?_
              refine va_get (D := D) (ci := 8) (v := .int q_402) (C := RX8) (T := TX8) (N := 38) hx hb hts hi_X8_item_8 hown hK hP 8 rfl rfl 27 (by decide) (hts (.fieldLink RX8 152 "TheLiningsInItModel" "place" "I") (List.mem_of_getElem? (i := 2) rfl)) (fun _ h9 => h9) rfl dX8_item_105 ?_
              refine lv_istore_n (lv' := [(3, .int q_402), (2, .int 0), (1, .int 5), (0, .ref m0)]) hx hb dX8_item_108 rfl hl (by decide) rfl (fun ls hl => ?_)
              refine lv_aload_n hx hb dX8_item_109 rfl (lv_at hl 3 rfl) ?_
              skip
              refine zw_V (As := []) (rest := []) (wr := [(mnu, .inl (cI, 10, .inl gnu)), (mki, .inl (cI, 8, .inl gki)), (mpa, .inl (cI, 8, .inl gpa)), (mta, .inl (cI, 8, .inl gta)), (mla, .inl (cI, 40, .inl gla)), (msl, .inl (cI, 40, .inl gsl)), (mco, .inl (cI, 3, .inl gco)), (mte, .inl (cI, 3, .inl gte)), (mwo, .inl (cI, 64, .inl gwo))]) ⟨hx, hb, hml, hown, hts⟩ (c_F_M_reads l D cI cJ cZ cP cS po m0 mrf mki mpa mta mla msl mco mhe mso msi msh mce mca mwo mnu mte mwa mke mma mth mtr (npu) (nte) (nat_) (nde) (nto) (nse) (nhu) (nga) (nsd) (nfa) (nba) (q_402) (nen) (nnu) (q_403) (nra) (nik) gce hy0 hy1 hy2 hy3 hy4 hy5 hy6 hy7 hy8 hy9 hy10 hy11 hy12 hy13 hy14 hy15 hbq_402.1 hbq_402.2 hy18 hy19 (by omega) H.size) (cwV 0 hts gX8_item_X8_reads rfl rfl rfl ⟨rfl, dh_X8_reads⟩ ⟨Nat.le_of_ble_eq_true rfl, Nat.le_of_ble_eq_true rfl⟩) hK hN (hZ.kept hS) hP hD hS hA [8, 10] [0, 1, 2, 3, 4, 5, 6, 7, 9] rfl rfl (by decide) (by decide) (by decide) (va_recv (q := (RX8, TX8, 38)) hK hP (ci := 8) (q0 := 8) rfl rfl) rfl hl.1 rfl (Nat.le_of_ble_eq_true rfl) dX8_item_110 ⟨Nat.le_of_ble_eq_true rfl, Nat.le_of_ble_eq_true rfl⟩ (fun r_633 u_634 H locs hr_633 hP hD hS => ?_)
              obtain ⟨q_635, q_636, q_637⟩ := u_634
              try dsimp only at hr_633
              obtain ⟨hbq_635, hsr_633_0, hsr_633_1, hsr_633_2, hr_633⟩ := hr_633
              have h9R := zRe (ws' := [(mnu, .inl (cI, 10, .inl gnu)), (mki, .inl (cI, 8, .inl gki)), (mpa, .inl (cI, 8, .inl gpa)), (mta, .inl (cI, 8, .inl gta)), (mla, .inl (cI, 40, .inl gla)), (msl, .inl (cI, 40, .inl gsl)), (mco, .inl (cI, 3, .inl gco)), (mte, .inl (cI, 3, .inl gte)), (mwo, .inl (cI, 64, .inl gwo)), (zMO m0 npu nte nat_ nde nto nse nhu nga nsd nfa mrf mki mpa mta mla msl mco mhe mso msi msh mce mca mwo mnu mte nba q_635 nen q_636 q_637 mwa mke mma mth mtr nra nik), (mce, .inl (cJ, 1280, .inr (.inl gce)))]) hP hD rfl
              clear hP hD
              obtain ⟨hP, hD⟩ := h9R
              obtain ⟨g_638, g_639⟩ := hr_633
              refine lv_if_ne (tgt := 118) hx hb dX8_item_113 (by decide) (fun c_640 => ?_) (fun c_640 => ?_)
              · have fc_640 : r_633.toInt ≠ 0 := zf_ne c_640 rfl (by decide)
                refine lv_aload_n hx hb dX8_item_118 rfl (lv_at hl 3 rfl) ?_
                refine lv_iload_n hx hb dX8_item_119 rfl (lv_at hl 2 rfl) ?_
                refine lv_iload_n hx hb dX8_item_120 rfl (lv_at hl 1 rfl) ?_
                refine zc_V (As := [.int 5, .int 0]) (rest := []) ⟨hx, hb, hml, hown, hts⟩ (c_F_M_isSo_5_0 l D cI cJ cZ cP cS po m0 mrf mki mpa mta mla msl mco mhe mso msi msh mce mca mwo mnu mte mwa mke mma mth mtr (npu) (nte) (nat_) (nde) (nto) (nse) (nhu) (nga) (nsd) (nfa) (nba) (q_635) (nen) (q_636) (q_637) (nra) (nik) hy0 hy1 hy2 hy3 hy4 hy5 hy6 hy7 hy8 hy9 hy10 hy11 hy12 hy13 (by omega) (by omega)) (cwV 2 hts gX8_item_X8_isSo rfl rfl rfl ⟨rfl, dh_X8_isSo⟩ ⟨Nat.le_of_ble_eq_true rfl, Nat.le_of_ble_eq_true rfl⟩) hK hN (hZ.kept hS) hP (hP.sub [9] rfl) (va_recv (q := (RX8, TX8, 38)) hK hP (ci := 8) (q0 := 9) rfl rfl) rfl hl.1 rfl (Nat.le_of_ble_eq_true rfl) dX8_item_121 ⟨Nat.le_of_ble_eq_true rfl, Nat.le_of_ble_eq_true rfl⟩ (fun r_641 hr_641 => ?_)
                obtain ⟨g_642, g_643, hsr_641_0⟩ := hr_641
                refine lv_if_ne (tgt := 133) hx hb dX8_item_124 (by decide) (fun c_644 => ?_) (fun c_644 => ?_)
                · have fc_644 : r_641.toInt ≠ 0 := zf_ne c_644 rfl (by decide)
                  obtain ⟨hy1_0, hy2_0, hy3_0⟩ := hsr_633_2.1 (by omega)
                  have hn0 : zN1 (zMF gce nba.toInt) nen.toInt (npl.toInt + ((zWds ((5 : Int)).toNat).length : Int)) (zLo 5 0) (zHi 5 0 nte.toInt) = (-1, (q_635 : Int32).toInt, (q_636 : Int32).toInt) := zN1_yes (p1 := (q_402 : Int32).toInt) (lo2 := 0) (hi2 := (300 : Int)) ⟨hW2, hW3⟩ (by omega) hy1_0 hy2_0 (by decide) (by first | rfl | decide | (show nte.toInt - 1 = _; omega) | (show nte.toInt = _; omega)) (by omega)
                  refine lv_aload_n hx hb dX8_item_133 rfl (lv_at hl 3 rfl) ?_
                  refine va_get (D := D) (ci := 8) (v := .ref mte) (C := RX8) (T := TX8) (N := 38) hx hb hts hi_X8_item_8 hown hK hP 9 rfl rfl 25 (by decide) (hts (.fieldLink RX8 72 "TheLiningsInItModel" "tell" "[I") (List.mem_of_getElem? (i := 7) rfl)) (fun _ h9 => h9) rfl dX8_item_134 ?_
                  refine lv_iload_n hx hb dX8_item_137 rfl (lv_at hl 1 rfl) ?_
                  refine lv_aload_n hx hb dX8_item_138 rfl (lv_at hl 3 rfl) ?_
                  refine va_get (D := D) (ci := 8) (v := .int q_636) (C := RX8) (T := TX8) (N := 38) hx hb hts hi_X8_item_8 hown hK hP 9 rfl rfl 29 (by decide) (hts (.fieldLink RX8 161 "TheLiningsInItModel" "number" "I") (List.mem_of_getElem? (i := 8) rfl)) (fun _ h9 => h9) rfl dX8_item_139 ?_
                  refine va_iast hx hb hK hP hD hS 7 0 rfl rfl (zf_in (by decide) (by decide)) dX8_item_142 (fun H locs hP hD hS => ?_)
                  have h9R := zRe (ws' := [(mnu, .inl (cI, 10, .inl gnu)), (mki, .inl (cI, 8, .inl gki)), (mpa, .inl (cI, 8, .inl gpa)), (mta, .inl (cI, 8, .inl gta)), (mla, .inl (cI, 40, .inl gla)), (msl, .inl (cI, 40, .inl gsl)), (mco, .inl (cI, 3, .inl gco)), (mte, .inl (cI, 3, .inl (upd gte (0 : Int32).toNatClampNeg q_636))), (mwo, .inl (cI, 64, .inl gwo)), (zMO m0 npu nte nat_ nde nto nse nhu nga nsd nfa mrf mki mpa mta mla msl mco mhe mso msi msh mce mca mwo mnu mte nba q_635 nen q_636 q_637 mwa mke mma mth mtr nra nik), (mce, .inl (cJ, 1280, .inr (.inl gce)))]) hP hD rfl
                  clear hP hD
                  obtain ⟨hP, hD⟩ := h9R
                  refine lv_iinc (v := 1) (lv' := [(2, .int 1), (3, .int q_402), (1, .int 5), (0, .ref m0)]) hx hb dX8_item_143 hl (k := 1) rfl (by decide) (by decide) rfl (fun ls hl => ?_)
                  refine lv_goto (tgt := 40) hx hb dX8_item_146 (by decide) ?_
                  refine lv_iload_n hx hb dX8_item_40 rfl (lv_at hl 0 rfl) ?_
                  refine lv_aload_n hx hb dX8_item_41 rfl (lv_at hl 3 rfl) ?_
                  refine va_get (D := D) (ci := 8) (v := .ref mnu) (C := RX8) (T := TX8) (N := 38) hx hb hts hi_X8_item_8 hown hK hP 9 rfl rfl 24 (by decide) (hts (.fieldLink RX8 69 "TheLiningsInItModel" "numbers" "[I") (List.mem_of_getElem? (i := 3) rfl)) (fun _ h9 => h9) rfl dX8_item_42 ?_
                  refine lv_iload_n hx hb dX8_item_45 rfl (lv_at hl 2 rfl) ?_
                  refine va_iald hx hb hK hP 0 0 rfl rfl (zf_in (by decide) (by decide)) dX8_item_46 ?_
                  refine lv_topi (fun x_645 ex_645 => ?_)
                  obtain rfl : x_645 = 1 := ex_645.trans ((congrArg gnu (show (5 : Int32).toNatClampNeg = 5 from by decide)).trans ((hnu 5 (by decide)).trans (by decide)))
                  refine lv_icmp_ge (tgt := 149) hx hb dX8_item_47 (by decide) (fun c_646 => ?_) (fun c_646 => ?_)
                  · refine lv_iload_n hx hb dX8_item_149 rfl (lv_at hl 2 rfl) ?_
                    refine lv_tableIn (tgt := 311) hx hb dX8_item_150 (by decide) (by decide) rfl (by decide) ?_
                    refine lv_aload_n hx hb dX8_item_311 rfl (lv_at hl 3 rfl) ?_
                    refine lv_iload_n hx hb dX8_item_312 rfl (lv_at hl 2 rfl) ?_
                    refine lv_iconst (v := 4) hx hb dX8_item_313 (by decide) ?_
                    refine lv_isub hx hb dX8_item_314 ?_
                    refine lv_topi (fun y_647 ey_647 => ?_)
                    obtain rfl : y_647 = 1 := ey_647.trans (by decide)
                    refine lv_aload_n hx hb dX8_item_315 rfl (lv_at hl 3 rfl) ?_
                    refine va_get (D := D) (ci := 8) (v := .ref mte) (C := RX8) (T := TX8) (N := 38) hx hb hts hi_X8_item_8 hown hK hP 9 rfl rfl 25 (by decide) (hts (.fieldLink RX8 72 "TheLiningsInItModel" "tell" "[I") (List.mem_of_getElem? (i := 7) rfl)) (fun _ h9 => h9) rfl dX8_item_316 ?_
                    refine lv_iconst (v := 0) hx hb dX8_item_319 (by decide) ?_
                    refine va_iald hx hb hK hP 7 0 rfl rfl (zf_in (by decide) (by decide)) dX8_item_320 ?_
                    refine lv_topi (fun x_648 ex_648 => ?_)
                    obtain rfl : q_636 = x_648 := (ex_648.trans (if_pos rfl)).symm
                    have kc1 : (1 : Int32).toInt = 1 := by decide
                    skip
                    refine zw_Vv (As := [.int 1, .int q_636]) (rest := []) (wr := [(mnu, .inl (cI, 10, .inl gnu)), (mki, .inl (cI, 8, .inl gki)), (mpa, .inl (cI, 8, .inl gpa)), (mta, .inl (cI, 8, .inl gta)), (mla, .inl (cI, 40, .inl gla)), (msl, .inl (cI, 40, .inl gsl)), (mte, .inl (cI, 3, .inl (upd gte (0 : Int32).toNatClampNeg q_636))), (mwo, .inl (cI, 64, .inl gwo)), (mce, .inl (cJ, 1280, .inr (.inl gce)))]) ⟨hx, hb, hml, hown, hts⟩ (c_M_tells l D cI cJ cZ cP cS po m0 mrf mki mpa mta mla msl mco mhe mso msi msh mce mca mwo mnu mte mwa mke mma mth mtr (npu) (nte) (nat_) (nde) (nto) (nse) (nhu) (nga) (nsd) (nfa) (nba) (q_635) (nen) (q_636) (q_637) (nra) (nik) gco (1) (q_636) hy0 hy1 hy2 hy3 hy4 hy5 hy6 hy7 hy8 hy9 hy10 hy11 hy12 hy13 (by omega) (by omega) (by omega) hp_gco H.size) (cwV 2 hts gX8_item_X8_tells rfl rfl rfl ⟨rfl, dh_X8_tells⟩ ⟨Nat.le_of_ble_eq_true rfl, Nat.le_of_ble_eq_true rfl⟩) hK hN (hZ.kept hS) hP hD hS hA [9, 6] [0, 1, 2, 3, 4, 5, 7, 8, 10] rfl rfl (by decide) (by decide) (by decide) (va_recv (q := (RX8, TX8, 38)) hK hP (ci := 8) (q0 := 9) rfl rfl) rfl hl.1 rfl (Nat.le_of_ble_eq_true rfl) dX8_item_321 ⟨Nat.le_of_ble_eq_true rfl, Nat.le_of_ble_eq_true rfl⟩ (fun u_650 H locs hr_649 hP hD hS => ?_)
                    obtain ⟨q_651, q_652, q_653, q_654, q_655, q_656⟩ := u_650
                    try dsimp only at hr_649
                    obtain ⟨hbq_651, hbq_653, hbq_655, hpq_656, hr_649⟩ := hr_649
                    have h9R := zRe (ws' := [(mnu, .inl (cI, 10, .inl gnu)), (mki, .inl (cI, 8, .inl gki)), (mpa, .inl (cI, 8, .inl gpa)), (mta, .inl (cI, 8, .inl gta)), (mla, .inl (cI, 40, .inl gla)), (msl, .inl (cI, 40, .inl gsl)), (mte, .inl (cI, 3, .inl (upd gte (0 : Int32).toNatClampNeg q_636))), (mwo, .inl (cI, 64, .inl gwo)), (mce, .inl (cJ, 1280, .inr (.inl gce))), (zMO m0 npu nte q_655 q_651 nto q_652 q_653 q_654 nsd nfa mrf mki mpa mta mla msl mco mhe mso msi msh mce mca mwo mnu mte nba q_635 nen q_636 q_637 mwa mke mma mth mtr nra nik), (mco, .inl (cI, 3, .inl q_656))]) hP hD rfl
                    clear hP hD
                    obtain ⟨hP, hD⟩ := h9R
                    refine lv_iconst (v := 1) hx hb dX8_item_324 (by decide) ?_
                    have hI := zIn_a hn0 (by first | (right; decide) | (left; omega))
                    exact W.zret (v := 1) hx hb hr (by decide) (fun t ht hW => ⟨⟨1, (npu, nte, q_655, q_651, q_652, q_653, q_654, gki, gpa, gta, gla, gsl, q_656, (upd gte (0 : Int32).toNatClampNeg q_636), q_635, q_636, q_637), rfl, ⟨(show 0 ≤ npu.toInt ∧ npu.toInt ≤ 8 from ⟨hy0, hy1⟩), (show 4 ≤ nte.toInt ∧ nte.toInt ≤ 40 from ⟨hy2, hy3⟩), (show 0 ≤ q_655.toInt ∧ q_655.toInt ≤ 40 from hbq_655), (show 0 ≤ q_651.toInt ∧ q_651.toInt ≤ 24 from hbq_651), (show 0 ≤ q_653.toInt ∧ q_653.toInt ≤ 9 from hbq_653), hp_gki, hp_gpa, hp_gta, hp_gla, hp_gsl, hpq_656, (show 0 ≤ q_635.toInt ∧ q_635.toInt ≤ 160 from hbq_635), (show npl.toInt ≤ q_635.toInt ∧ q_635.toInt ≤ nen.toInt from by exact ⟨by omega, by omega⟩), (show ((1 : Int32).toInt = 1 → (zItem (zMF gce nba.toInt) nen.toInt npl.toInt nte.toInt npu.toInt).1 = -1 ∧ q_635.toInt = (zItem (zMF gce nba.toInt) nen.toInt npl.toInt nte.toInt npu.toInt).2.1 ∧ nte.toInt = (zItem (zMF gce nba.toInt) nen.toInt npl.toInt nte.toInt npu.toInt).2.2.1 ∧ npu.toInt = (zItem (zMF gce nba.toInt) nen.toInt npl.toInt nte.toInt npu.toInt).2.2.2) ∧ ((1 : Int32).toInt = 0 → (zItem (zMF gce nba.toInt) nen.toInt npl.toInt nte.toInt npu.toInt).1 = q_637.toInt ∧ 0 ≤ q_637.toInt) from by (have k9 : (1 : Int32).toInt = 1 := (by decide); rw [zItem_w hW1 (by decide) hp8 rfl hI]; dsimp only; exact ⟨fun _ => ⟨rfl, by first | rfl | omega, by (show _ = (if (5 : Int) = 0 then _ else _); rw [if_neg (by decide)]), by (show _ = (if (5 : Int) = 3 then _ else _); rw [if_neg (by decide)])⟩, fun h => absurd h (by decide)⟩)), ⟨by decide, by decide⟩⟩, zRet ht hP hD [9, 7, 0, 8, 1, 2, 3, 4, 5, 10, 6] (by decide) rfl⟩, hS.F ht⟩) hS.2.2 dX8_item_325
                  · exact absurd c_646 (by decide)
                · have fc_644 : r_641.toInt = 0 := zf_eq c_644 rfl (by decide)
                  obtain ⟨hy1_0, hy2_0, hy3_0⟩ := hsr_633_2.1 (by omega)
                  have hn0 : zN1 (zMF gce nba.toInt) nen.toInt (npl.toInt + ((zWds ((5 : Int)).toNat).length : Int)) (zLo 5 0) (zHi 5 0 nte.toInt) = ((q_402 : Int32).toInt, (q_635 : Int32).toInt, (q_636 : Int32).toInt) := zN1_yes (p1 := (q_402 : Int32).toInt) (lo2 := 0) (hi2 := (300 : Int)) ⟨hW2, hW3⟩ (by omega) hy1_0 hy2_0 (by decide) (by first | rfl | decide | (show nte.toInt - 1 = _; omega) | (show nte.toInt = _; omega)) (by omega)
                  refine lv_aload_n hx hb dX8_item_127 rfl (lv_at hl 3 rfl) ?_
                  refine lv_iload_n hx hb dX8_item_128 rfl (lv_at hl 0 rfl) ?_
                  skip
                  refine zw_V (As := [.int q_402]) (rest := []) (wr := [(mnu, .inl (cI, 10, .inl gnu)), (mki, .inl (cI, 8, .inl gki)), (mpa, .inl (cI, 8, .inl gpa)), (mta, .inl (cI, 8, .inl gta)), (mla, .inl (cI, 40, .inl gla)), (msl, .inl (cI, 40, .inl gsl)), (mco, .inl (cI, 3, .inl gco)), (mte, .inl (cI, 3, .inl gte)), (mwo, .inl (cI, 64, .inl gwo)), (mce, .inl (cJ, 1280, .inr (.inl gce)))]) ⟨hx, hb, hml, hown, hts⟩ (c_F_M_wrong l D cI cJ cZ cP cS po m0 mrf mki mpa mta mla msl mco mhe mso msi msh mce mca mwo mnu mte mwa mke mma mth mtr (npu) (nte) (nat_) (nde) (nto) (nse) (nhu) (nga) (nsd) (nfa) (nba) (q_635) (nen) (q_636) (q_637) (nra) (nik) (q_402) hy0 hy1 hy2 hy3 hy4 hy5 hy6 hy7 hy8 hy9 hy10 hy11 hy12 hy13 H.size) (cwV 1 hts gX8_item_X8_wrong rfl rfl rfl ⟨rfl, dh_X8_wrong⟩ ⟨Nat.le_of_ble_eq_true rfl, Nat.le_of_ble_eq_true rfl⟩) hK hN (hZ.kept hS) hP hD hS hA [9] [0, 1, 2, 3, 4, 5, 6, 7, 8, 10] rfl rfl (by decide) (by decide) (by decide) (va_recv (q := (RX8, TX8, 38)) hK hP (ci := 8) (q0 := 9) rfl rfl) rfl hl.1 rfl (Nat.le_of_ble_eq_true rfl) dX8_item_129 ⟨Nat.le_of_ble_eq_true rfl, Nat.le_of_ble_eq_true rfl⟩ (fun r_657 u_658 H locs hr_657 hP hD hS => ?_)
                  obtain ⟨q_659, rfl⟩ : ∃ z, z = u_658 := ⟨_, rfl⟩
                  obtain ⟨hsr_657_0, hr_657⟩ := hr_657
                  have h9R := zRe (ws' := [(mnu, .inl (cI, 10, .inl gnu)), (mki, .inl (cI, 8, .inl gki)), (mpa, .inl (cI, 8, .inl gpa)), (mta, .inl (cI, 8, .inl gta)), (mla, .inl (cI, 40, .inl gla)), (msl, .inl (cI, 40, .inl gsl)), (mco, .inl (cI, 3, .inl gco)), (mte, .inl (cI, 3, .inl gte)), (mwo, .inl (cI, 64, .inl gwo)), (mce, .inl (cJ, 1280, .inr (.inl gce))), (zMO m0 npu nte nat_ nde nto nse nhu nga nsd nfa mrf mki mpa mta mla msl mco mhe mso msi msh mce mca mwo mnu mte nba q_635 nen q_636 q_659 mwa mke mma mth mtr nra nik)]) hP hD rfl
                  clear hP hD
                  obtain ⟨hP, hD⟩ := h9R
                  obtain rfl := hr_657
                  have hI := zIn_a hn0 (by first | (right; decide) | (left; omega))
                  exact W.zret (v := 0) hx hb hr (by decide) (fun t ht hW => ⟨⟨0, (npu, nte, nat_, nde, nse, nhu, nga, gki, gpa, gta, gla, gsl, gco, gte, q_635, q_636, q_659), rfl, ⟨(show 0 ≤ npu.toInt ∧ npu.toInt ≤ 8 from ⟨hy0, hy1⟩), (show 4 ≤ nte.toInt ∧ nte.toInt ≤ 40 from ⟨hy2, hy3⟩), (show 0 ≤ nat_.toInt ∧ nat_.toInt ≤ 40 from ⟨hy4, hy5⟩), (show 0 ≤ nde.toInt ∧ nde.toInt ≤ 24 from ⟨hy6, hy7⟩), (show 0 ≤ nhu.toInt ∧ nhu.toInt ≤ 9 from ⟨hy8, hy9⟩), hp_gki, hp_gpa, hp_gta, hp_gla, hp_gsl, hp_gco, (show 0 ≤ q_635.toInt ∧ q_635.toInt ≤ 160 from hbq_635), (show npl.toInt ≤ q_635.toInt ∧ q_635.toInt ≤ nen.toInt from by exact ⟨by omega, by omega⟩), (show ((0 : Int32).toInt = 1 → (zItem (zMF gce nba.toInt) nen.toInt npl.toInt nte.toInt npu.toInt).1 = -1 ∧ q_635.toInt = (zItem (zMF gce nba.toInt) nen.toInt npl.toInt nte.toInt npu.toInt).2.1 ∧ nte.toInt = (zItem (zMF gce nba.toInt) nen.toInt npl.toInt nte.toInt npu.toInt).2.2.1 ∧ npu.toInt = (zItem (zMF gce nba.toInt) nen.toInt npl.toInt nte.toInt npu.toInt).2.2.2) ∧ ((0 : Int32).toInt = 0 → (zItem (zMF gce nba.toInt) nen.toInt npl.toInt nte.toInt npu.toInt).1 = q_659.toInt ∧ 0 ≤ q_659.toInt) from by (have k9 : (0 : Int32).toInt = 0 := (by decide); rw [zItem_w hW1 (by decide) hp8 rfl hI]; dsimp only; exact ⟨fun h => absurd h (by decide), fun _ => ⟨by first | rfl | (show _ = _; omega), by omega⟩⟩)), ⟨by decide, by decide⟩⟩, zRet ht hP hD [10, 8, 0, 9, 1, 2, 3, 4, 5, 6, 7] (by decide) rfl⟩, hS.F ht⟩) hS.2.2 dX8_item_132
              · have fc_640 : r_633.toInt = 0 := zf_eq c_640 rfl (by decide)
                have hn0 : zN1 (zMF gce nba.toInt) nen.toInt (npl.toInt + ((zWds ((5 : Int)).toNat).length : Int)) (zLo 5 0) (zHi 5 0 nte.toInt) = ((q_402 : Int32).toInt, (q_402 : Int32).toInt, 0) := zN1_yes (p1 := (q_402 : Int32).toInt) (lo2 := 0) (hi2 := (300 : Int)) ⟨hW2, hW3⟩ (by omega) (hsr_633_2.2 (by omega)).1.symm zNv_0.symm (by decide) (by first | rfl | decide | (show nte.toInt - 1 = _; omega) | (show nte.toInt = _; omega)) (Or.inl ⟨rfl, Or.inl rfl⟩)
                refine lv_iconst (v := 0) hx hb dX8_item_116 (by decide) ?_
                have hI := zIn_a hn0 (by first | (right; decide) | (left; omega))
                exact W.zret (v := 0) hx hb hr (by decide) (fun t ht hW => ⟨⟨0, (npu, nte, nat_, nde, nse, nhu, nga, gki, gpa, gta, gla, gsl, gco, gte, q_635, q_636, q_637), rfl, ⟨(show 0 ≤ npu.toInt ∧ npu.toInt ≤ 8 from ⟨hy0, hy1⟩), (show 4 ≤ nte.toInt ∧ nte.toInt ≤ 40 from ⟨hy2, hy3⟩), (show 0 ≤ nat_.toInt ∧ nat_.toInt ≤ 40 from ⟨hy4, hy5⟩), (show 0 ≤ nde.toInt ∧ nde.toInt ≤ 24 from ⟨hy6, hy7⟩), (show 0 ≤ nhu.toInt ∧ nhu.toInt ≤ 9 from ⟨hy8, hy9⟩), hp_gki, hp_gpa, hp_gta, hp_gla, hp_gsl, hp_gco, (show 0 ≤ q_635.toInt ∧ q_635.toInt ≤ 160 from hbq_635), (show npl.toInt ≤ q_635.toInt ∧ q_635.toInt ≤ nen.toInt from by exact ⟨by omega, by omega⟩), (show ((0 : Int32).toInt = 1 → (zItem (zMF gce nba.toInt) nen.toInt npl.toInt nte.toInt npu.toInt).1 = -1 ∧ q_635.toInt = (zItem (zMF gce nba.toInt) nen.toInt npl.toInt nte.toInt npu.toInt).2.1 ∧ nte.toInt = (zItem (zMF gce nba.toInt) nen.toInt npl.toInt nte.toInt npu.toInt).2.2.1 ∧ npu.toInt = (zItem (zMF gce nba.toInt) nen.toInt npl.toInt nte.toInt npu.toInt).2.2.2) ∧ ((0 : Int32).toInt = 0 → (zItem (zMF gce nba.toInt) nen.toInt npl.toInt nte.toInt npu.toInt).1 = q_637.toInt ∧ 0 ≤ q_637.toInt) from by (have k9 : (0 : Int32).toInt = 0 := (by decide); rw [zItem_w hW1 (by decide) hp8 rfl hI]; dsimp only; exact ⟨fun h => absurd h (by decide), fun _ => ⟨by first | rfl | (show _ = _; omega), by omega⟩⟩)), ⟨by decide, by decide⟩⟩, zRet ht hP hD [9, 8, 0, 10, 1, 2, 3, 4, 5, 6, 7] (by decide) rfl⟩, hS.F ht⟩) hS.2.2 dX8_item_117
            · exact absurd c_632 (by decide)
        · have kc6 : (6 : Int32).toInt = 6 := by decide
          have z9 := hsr_400_1
          rw [kc6] at z9
          obtain ⟨hW1, hW2, hW3, hW4⟩ := zItem_Mw (f := (zMF gce nba.toInt)) (e := nen.toInt) (p := npl.toInt) (w := 6) (by omega) (by decide)
          have hp8 : ¬ ((6 : Int) = 3 ∧ npu.toInt = 8) := fun z => absurd z.1 (by decide)
          refine lv_iconst (v := 0) hx hb dX8_item_38 (by decide) ?_
          refine lv_istore_n (lv' := [(2, .int 0), (1, .int 6), (0, .ref m0)]) hx hb dX8_item_39 rfl hl (by decide) rfl (fun ls hl => ?_)
          refine lv_iload_n hx hb dX8_item_40 rfl (lv_at hl 0 rfl) ?_
          refine lv_aload_n hx hb dX8_item_41 rfl (lv_at hl 2 rfl) ?_
          refine va_get (D := D) (ci := 8) (v := .ref mnu) (C := RX8) (T := TX8) (N := 38) hx hb hts hi_X8_item_8 hown hK hP 8 rfl rfl 24 (by decide) (hts (.fieldLink RX8 69 "TheLiningsInItModel" "numbers" "[I") (List.mem_of_getElem? (i := 3) rfl)) (fun _ h9 => h9) rfl dX8_item_42 ?_
          refine lv_iload_n hx hb dX8_item_45 rfl (lv_at hl 1 rfl) ?_
          refine va_iald hx hb hK hP 0 0 rfl rfl (zf_in (by decide) (by decide)) dX8_item_46 ?_
          refine lv_topi (fun x_660 ex_660 => ?_)
          obtain rfl : x_660 = 1 := ex_660.trans ((congrArg gnu (show (6 : Int32).toNatClampNeg = 6 from by decide)).trans ((hnu 6 (by decide)).trans (by decide)))
          refine lv_icmp_ge (tgt := 149) hx hb dX8_item_47 (by decide) (fun c_661 => ?_) (fun c_661 => ?_)
          · exact absurd c_661 (by decide)
          · refine lv_iload_n hx hb dX8_item_50 rfl (lv_at hl 0 rfl) ?_
            refine lv_if_le (tgt := 104) hx hb dX8_item_51 (by decide) (fun c_662 => ?_) (fun c_662 => ?_)
            · refine lv_aload_n hx hb dX8_item_104 rfl (lv_at hl 2 rfl) ?_
              refine va_get (D := D) (ci := 8) (v := .int q_402) (C := RX8) (T := TX8) (N := 38) hx hb hts hi_X8_item_8 hown hK hP 8 rfl rfl 27 (by decide) (hts (.fieldLink RX8 152 "TheLiningsInItModel" "place" "I") (List.mem_of_getElem? (i := 2) rfl)) (fun _ h9 => h9) rfl dX8_item_105 ?_
              refine lv_istore_n (lv' := [(3, .int q_402), (2, .int 0), (1, .int 6), (0, .ref m0)]) hx hb dX8_item_108 rfl hl (by decide) rfl (fun ls hl => ?_)
              refine lv_aload_n hx hb dX8_item_109 rfl (lv_at hl 3 rfl) ?_
              skip
              refine zw_V (As := []) (rest := []) (wr := [(mnu, .inl (cI, 10, .inl gnu)), (mki, .inl (cI, 8, .inl gki)), (mpa, .inl (cI, 8, .inl gpa)), (mta, .inl (cI, 8, .inl gta)), (mla, .inl (cI, 40, .inl gla)), (msl, .inl (cI, 40, .inl gsl)), (mco, .inl (cI, 3, .inl gco)), (mte, .inl (cI, 3, .inl gte)), (mwo, .inl (cI, 64, .inl gwo))]) ⟨hx, hb, hml, hown, hts⟩ (c_F_M_reads l D cI cJ cZ cP cS po m0 mrf mki mpa mta mla msl mco mhe mso msi msh mce mca mwo mnu mte mwa mke mma mth mtr (npu) (nte) (nat_) (nde) (nto) (nse) (nhu) (nga) (nsd) (nfa) (nba) (q_402) (nen) (nnu) (q_403) (nra) (nik) gce hy0 hy1 hy2 hy3 hy4 hy5 hy6 hy7 hy8 hy9 hy10 hy11 hy12 hy13 hy14 hy15 hbq_402.1 hbq_402.2 hy18 hy19 (by omega) H.size) (cwV 0 hts gX8_item_X8_reads rfl rfl rfl ⟨rfl, dh_X8_reads⟩ ⟨Nat.le_of_ble_eq_true rfl, Nat.le_of_ble_eq_true rfl⟩) hK hN (hZ.kept hS) hP hD hS hA [8, 10] [0, 1, 2, 3, 4, 5, 6, 7, 9] rfl rfl (by decide) (by decide) (by decide) (va_recv (q := (RX8, TX8, 38)) hK hP (ci := 8) (q0 := 8) rfl rfl) rfl hl.1 rfl (Nat.le_of_ble_eq_true rfl) dX8_item_110 ⟨Nat.le_of_ble_eq_true rfl, Nat.le_of_ble_eq_true rfl⟩ (fun r_663 u_664 H locs hr_663 hP hD hS => ?_)
              obtain ⟨q_665, q_666, q_667⟩ := u_664
              try dsimp only at hr_663
              obtain ⟨hbq_665, hsr_663_0, hsr_663_1, hsr_663_2, hr_663⟩ := hr_663
              have h9R := zRe (ws' := [(mnu, .inl (cI, 10, .inl gnu)), (mki, .inl (cI, 8, .inl gki)), (mpa, .inl (cI, 8, .inl gpa)), (mta, .inl (cI, 8, .inl gta)), (mla, .inl (cI, 40, .inl gla)), (msl, .inl (cI, 40, .inl gsl)), (mco, .inl (cI, 3, .inl gco)), (mte, .inl (cI, 3, .inl gte)), (mwo, .inl (cI, 64, .inl gwo)), (zMO m0 npu nte nat_ nde nto nse nhu nga nsd nfa mrf mki mpa mta mla msl mco mhe mso msi msh mce mca mwo mnu mte nba q_665 nen q_666 q_667 mwa mke mma mth mtr nra nik), (mce, .inl (cJ, 1280, .inr (.inl gce)))]) hP hD rfl
              clear hP hD
              obtain ⟨hP, hD⟩ := h9R
              obtain ⟨g_668, g_669⟩ := hr_663
              refine lv_if_ne (tgt := 118) hx hb dX8_item_113 (by decide) (fun c_670 => ?_) (fun c_670 => ?_)
              · have fc_670 : r_663.toInt ≠ 0 := zf_ne c_670 rfl (by decide)
                refine lv_aload_n hx hb dX8_item_118 rfl (lv_at hl 3 rfl) ?_
                refine lv_iload_n hx hb dX8_item_119 rfl (lv_at hl 2 rfl) ?_
                refine lv_iload_n hx hb dX8_item_120 rfl (lv_at hl 1 rfl) ?_
                refine zc_V (As := [.int 6, .int 0]) (rest := []) ⟨hx, hb, hml, hown, hts⟩ (c_F_M_isSo_6_0 l D cI cJ cZ cP cS po m0 mrf mki mpa mta mla msl mco mhe mso msi msh mce mca mwo mnu mte mwa mke mma mth mtr (npu) (nte) (nat_) (nde) (nto) (nse) (nhu) (nga) (nsd) (nfa) (nba) (q_665) (nen) (q_666) (q_667) (nra) (nik) hy0 hy1 hy2 hy3 hy4 hy5 hy6 hy7 hy8 hy9 hy10 hy11 hy12 hy13 (by omega) (by omega)) (cwV 2 hts gX8_item_X8_isSo rfl rfl rfl ⟨rfl, dh_X8_isSo⟩ ⟨Nat.le_of_ble_eq_true rfl, Nat.le_of_ble_eq_true rfl⟩) hK hN (hZ.kept hS) hP (hP.sub [9] rfl) (va_recv (q := (RX8, TX8, 38)) hK hP (ci := 8) (q0 := 9) rfl rfl) rfl hl.1 rfl (Nat.le_of_ble_eq_true rfl) dX8_item_121 ⟨Nat.le_of_ble_eq_true rfl, Nat.le_of_ble_eq_true rfl⟩ (fun r_671 hr_671 => ?_)
                obtain ⟨g_672, g_673, hsr_671_0⟩ := hr_671
                refine lv_if_ne (tgt := 133) hx hb dX8_item_124 (by decide) (fun c_674 => ?_) (fun c_674 => ?_)
                · have fc_674 : r_671.toInt ≠ 0 := zf_ne c_674 rfl (by decide)
                  obtain ⟨hy1_0, hy2_0, hy3_0⟩ := hsr_663_2.1 (by omega)
                  have hn0 : zN1 (zMF gce nba.toInt) nen.toInt (npl.toInt + ((zWds ((6 : Int)).toNat).length : Int)) (zLo 6 0) (zHi 6 0 nte.toInt) = (-1, (q_665 : Int32).toInt, (q_666 : Int32).toInt) := zN1_yes (p1 := (q_402 : Int32).toInt) (lo2 := 0) (hi2 := (9 : Int)) ⟨hW2, hW3⟩ (by omega) hy1_0 hy2_0 (by decide) (by first | rfl | decide | (show nte.toInt - 1 = _; omega) | (show nte.toInt = _; omega)) (by omega)
                  refine lv_aload_n hx hb dX8_item_133 rfl (lv_at hl 3 rfl) ?_
                  refine va_get (D := D) (ci := 8) (v := .ref mte) (C := RX8) (T := TX8) (N := 38) hx hb hts hi_X8_item_8 hown hK hP 9 rfl rfl 25 (by decide) (hts (.fieldLink RX8 72 "TheLiningsInItModel" "tell" "[I") (List.mem_of_getElem? (i := 7) rfl)) (fun _ h9 => h9) rfl dX8_item_134 ?_
                  refine lv_iload_n hx hb dX8_item_137 rfl (lv_at hl 1 rfl) ?_
                  refine lv_aload_n hx hb dX8_item_138 rfl (lv_at hl 3 rfl) ?_
                  refine va_get (D := D) (ci := 8) (v := .int q_666) (C := RX8) (T := TX8) (N := 38) hx hb hts hi_X8_item_8 hown hK hP 9 rfl rfl 29 (by decide) (hts (.fieldLink RX8 161 "TheLiningsInItModel" "number" "I") (List.mem_of_getElem? (i := 8) rfl)) (fun _ h9 => h9) rfl dX8_item_139 ?_
                  refine va_iast hx hb hK hP hD hS 7 0 rfl rfl (zf_in (by decide) (by decide)) dX8_item_142 (fun H locs hP hD hS => ?_)
                  have h9R := zRe (ws' := [(mnu, .inl (cI, 10, .inl gnu)), (mki, .inl (cI, 8, .inl gki)), (mpa, .inl (cI, 8, .inl gpa)), (mta, .inl (cI, 8, .inl gta)), (mla, .inl (cI, 40, .inl gla)), (msl, .inl (cI, 40, .inl gsl)), (mco, .inl (cI, 3, .inl gco)), (mte, .inl (cI, 3, .inl (upd gte (0 : Int32).toNatClampNeg q_666))), (mwo, .inl (cI, 64, .inl gwo)), (zMO m0 npu nte nat_ nde nto nse nhu nga nsd nfa mrf mki mpa mta mla msl mco mhe mso msi msh mce mca mwo mnu mte nba q_665 nen q_666 q_667 mwa mke mma mth mtr nra nik), (mce, .inl (cJ, 1280, .inr (.inl gce)))]) hP hD rfl
                  clear hP hD
                  obtain ⟨hP, hD⟩ := h9R
                  refine lv_iinc (v := 1) (lv' := [(2, .int 1), (3, .int q_402), (1, .int 6), (0, .ref m0)]) hx hb dX8_item_143 hl (k := 1) rfl (by decide) (by decide) rfl (fun ls hl => ?_)
                  refine lv_goto (tgt := 40) hx hb dX8_item_146 (by decide) ?_
                  refine lv_iload_n hx hb dX8_item_40 rfl (lv_at hl 0 rfl) ?_
                  refine lv_aload_n hx hb dX8_item_41 rfl (lv_at hl 3 rfl) ?_
                  refine va_get (D := D) (ci := 8) (v := .ref mnu) (C := RX8) (T := TX8) (N := 38) hx hb hts hi_X8_item_8 hown hK hP 9 rfl rfl 24 (by decide) (hts (.fieldLink RX8 69 "TheLiningsInItModel" "numbers" "[I") (List.mem_of_getElem? (i := 3) rfl)) (fun _ h9 => h9) rfl dX8_item_42 ?_
                  refine lv_iload_n hx hb dX8_item_45 rfl (lv_at hl 2 rfl) ?_
                  refine va_iald hx hb hK hP 0 0 rfl rfl (zf_in (by decide) (by decide)) dX8_item_46 ?_
                  refine lv_topi (fun x_675 ex_675 => ?_)
                  obtain rfl : x_675 = 1 := ex_675.trans ((congrArg gnu (show (6 : Int32).toNatClampNeg = 6 from by decide)).trans ((hnu 6 (by decide)).trans (by decide)))
                  refine lv_icmp_ge (tgt := 149) hx hb dX8_item_47 (by decide) (fun c_676 => ?_) (fun c_676 => ?_)
                  · refine lv_iload_n hx hb dX8_item_149 rfl (lv_at hl 2 rfl) ?_
                    refine lv_tableIn (tgt := 311) hx hb dX8_item_150 (by decide) (by decide) rfl (by decide) ?_
                    refine lv_aload_n hx hb dX8_item_311 rfl (lv_at hl 3 rfl) ?_
                    refine lv_iload_n hx hb dX8_item_312 rfl (lv_at hl 2 rfl) ?_
                    refine lv_iconst (v := 4) hx hb dX8_item_313 (by decide) ?_
                    refine lv_isub hx hb dX8_item_314 ?_
                    refine lv_topi (fun y_677 ey_677 => ?_)
                    obtain rfl : y_677 = 2 := ey_677.trans (by decide)
                    refine lv_aload_n hx hb dX8_item_315 rfl (lv_at hl 3 rfl) ?_
                    refine va_get (D := D) (ci := 8) (v := .ref mte) (C := RX8) (T := TX8) (N := 38) hx hb hts hi_X8_item_8 hown hK hP 9 rfl rfl 25 (by decide) (hts (.fieldLink RX8 72 "TheLiningsInItModel" "tell" "[I") (List.mem_of_getElem? (i := 7) rfl)) (fun _ h9 => h9) rfl dX8_item_316 ?_
                    refine lv_iconst (v := 0) hx hb dX8_item_319 (by decide) ?_
                    refine va_iald hx hb hK hP 7 0 rfl rfl (zf_in (by decide) (by decide)) dX8_item_320 ?_
                    refine lv_topi (fun x_678 ex_678 => ?_)
                    obtain rfl : q_666 = x_678 := (ex_678.trans (if_pos rfl)).symm
                    have kc2 : (2 : Int32).toInt = 2 := by decide
                    skip
                    refine zw_Vv (As := [.int 2, .int q_666]) (rest := []) (wr := [(mnu, .inl (cI, 10, .inl gnu)), (mki, .inl (cI, 8, .inl gki)), (mpa, .inl (cI, 8, .inl gpa)), (mta, .inl (cI, 8, .inl gta)), (mla, .inl (cI, 40, .inl gla)), (msl, .inl (cI, 40, .inl gsl)), (mte, .inl (cI, 3, .inl (upd gte (0 : Int32).toNatClampNeg q_666))), (mwo, .inl (cI, 64, .inl gwo)), (mce, .inl (cJ, 1280, .inr (.inl gce)))]) ⟨hx, hb, hml, hown, hts⟩ (c_M_tells l D cI cJ cZ cP cS po m0 mrf mki mpa mta mla msl mco mhe mso msi msh mce mca mwo mnu mte mwa mke mma mth mtr (npu) (nte) (nat_) (nde) (nto) (nse) (nhu) (nga) (nsd) (nfa) (nba) (q_665) (nen) (q_666) (q_667) (nra) (nik) gco (2) (q_666) hy0 hy1 hy2 hy3 hy4 hy5 hy6 hy7 hy8 hy9 hy10 hy11 hy12 hy13 (by omega) (by omega) (by omega) hp_gco H.size) (cwV 2 hts gX8_item_X8_tells rfl rfl rfl ⟨rfl, dh_X8_tells⟩ ⟨Nat.le_of_ble_eq_true rfl, Nat.le_of_ble_eq_true rfl⟩) hK hN (hZ.kept hS) hP hD hS hA [9, 6] [0, 1, 2, 3, 4, 5, 7, 8, 10] rfl rfl (by decide) (by decide) (by decide) (va_recv (q := (RX8, TX8, 38)) hK hP (ci := 8) (q0 := 9) rfl rfl) rfl hl.1 rfl (Nat.le_of_ble_eq_true rfl) dX8_item_321 ⟨Nat.le_of_ble_eq_true rfl, Nat.le_of_ble_eq_true rfl⟩ (fun u_680 H locs hr_679 hP hD hS => ?_)
                    obtain ⟨q_681, q_682, q_683, q_684, q_685, q_686⟩ := u_680
                    try dsimp only at hr_679
                    obtain ⟨hbq_681, hbq_683, hbq_685, hpq_686, hr_679⟩ := hr_679
                    have h9R := zRe (ws' := [(mnu, .inl (cI, 10, .inl gnu)), (mki, .inl (cI, 8, .inl gki)), (mpa, .inl (cI, 8, .inl gpa)), (mta, .inl (cI, 8, .inl gta)), (mla, .inl (cI, 40, .inl gla)), (msl, .inl (cI, 40, .inl gsl)), (mte, .inl (cI, 3, .inl (upd gte (0 : Int32).toNatClampNeg q_666))), (mwo, .inl (cI, 64, .inl gwo)), (mce, .inl (cJ, 1280, .inr (.inl gce))), (zMO m0 npu nte q_685 q_681 nto q_682 q_683 q_684 nsd nfa mrf mki mpa mta mla msl mco mhe mso msi msh mce mca mwo mnu mte nba q_665 nen q_666 q_667 mwa mke mma mth mtr nra nik), (mco, .inl (cI, 3, .inl q_686))]) hP hD rfl
                    clear hP hD
                    obtain ⟨hP, hD⟩ := h9R
                    refine lv_iconst (v := 1) hx hb dX8_item_324 (by decide) ?_
                    have hI := zIn_a hn0 (by first | (right; decide) | (left; omega))
                    exact W.zret (v := 1) hx hb hr (by decide) (fun t ht hW => ⟨⟨1, (npu, nte, q_685, q_681, q_682, q_683, q_684, gki, gpa, gta, gla, gsl, q_686, (upd gte (0 : Int32).toNatClampNeg q_666), q_665, q_666, q_667), rfl, ⟨(show 0 ≤ npu.toInt ∧ npu.toInt ≤ 8 from ⟨hy0, hy1⟩), (show 4 ≤ nte.toInt ∧ nte.toInt ≤ 40 from ⟨hy2, hy3⟩), (show 0 ≤ q_685.toInt ∧ q_685.toInt ≤ 40 from hbq_685), (show 0 ≤ q_681.toInt ∧ q_681.toInt ≤ 24 from hbq_681), (show 0 ≤ q_683.toInt ∧ q_683.toInt ≤ 9 from hbq_683), hp_gki, hp_gpa, hp_gta, hp_gla, hp_gsl, hpq_686, (show 0 ≤ q_665.toInt ∧ q_665.toInt ≤ 160 from hbq_665), (show npl.toInt ≤ q_665.toInt ∧ q_665.toInt ≤ nen.toInt from by exact ⟨by omega, by omega⟩), (show ((1 : Int32).toInt = 1 → (zItem (zMF gce nba.toInt) nen.toInt npl.toInt nte.toInt npu.toInt).1 = -1 ∧ q_665.toInt = (zItem (zMF gce nba.toInt) nen.toInt npl.toInt nte.toInt npu.toInt).2.1 ∧ nte.toInt = (zItem (zMF gce nba.toInt) nen.toInt npl.toInt nte.toInt npu.toInt).2.2.1 ∧ npu.toInt = (zItem (zMF gce nba.toInt) nen.toInt npl.toInt nte.toInt npu.toInt).2.2.2) ∧ ((1 : Int32).toInt = 0 → (zItem (zMF gce nba.toInt) nen.toInt npl.toInt nte.toInt npu.toInt).1 = q_667.toInt ∧ 0 ≤ q_667.toInt) from by (have k9 : (1 : Int32).toInt = 1 := (by decide); rw [zItem_w hW1 (by decide) hp8 rfl hI]; dsimp only; exact ⟨fun _ => ⟨rfl, by first | rfl | omega, by (show _ = (if (6 : Int) = 0 then _ else _); rw [if_neg (by decide)]), by (show _ = (if (6 : Int) = 3 then _ else _); rw [if_neg (by decide)])⟩, fun h => absurd h (by decide)⟩)), ⟨by decide, by decide⟩⟩, zRet ht hP hD [9, 7, 0, 8, 1, 2, 3, 4, 5, 10, 6] (by decide) rfl⟩, hS.F ht⟩) hS.2.2 dX8_item_325
                  · exact absurd c_676 (by decide)
                · have fc_674 : r_671.toInt = 0 := zf_eq c_674 rfl (by decide)
                  obtain ⟨hy1_0, hy2_0, hy3_0⟩ := hsr_663_2.1 (by omega)
                  have hn0 : zN1 (zMF gce nba.toInt) nen.toInt (npl.toInt + ((zWds ((6 : Int)).toNat).length : Int)) (zLo 6 0) (zHi 6 0 nte.toInt) = ((q_402 : Int32).toInt, (q_665 : Int32).toInt, (q_666 : Int32).toInt) := zN1_yes (p1 := (q_402 : Int32).toInt) (lo2 := 0) (hi2 := (9 : Int)) ⟨hW2, hW3⟩ (by omega) hy1_0 hy2_0 (by decide) (by first | rfl | decide | (show nte.toInt - 1 = _; omega) | (show nte.toInt = _; omega)) (by omega)
                  refine lv_aload_n hx hb dX8_item_127 rfl (lv_at hl 3 rfl) ?_
                  refine lv_iload_n hx hb dX8_item_128 rfl (lv_at hl 0 rfl) ?_
                  skip
                  refine zw_V (As := [.int q_402]) (rest := []) (wr := [(mnu, .inl (cI, 10, .inl gnu)), (mki, .inl (cI, 8, .inl gki)), (mpa, .inl (cI, 8, .inl gpa)), (mta, .inl (cI, 8, .inl gta)), (mla, .inl (cI, 40, .inl gla)), (msl, .inl (cI, 40, .inl gsl)), (mco, .inl (cI, 3, .inl gco)), (mte, .inl (cI, 3, .inl gte)), (mwo, .inl (cI, 64, .inl gwo)), (mce, .inl (cJ, 1280, .inr (.inl gce)))]) ⟨hx, hb, hml, hown, hts⟩ (c_F_M_wrong l D cI cJ cZ cP cS po m0 mrf mki mpa mta mla msl mco mhe mso msi msh mce mca mwo mnu mte mwa mke mma mth mtr (npu) (nte) (nat_) (nde) (nto) (nse) (nhu) (nga) (nsd) (nfa) (nba) (q_665) (nen) (q_666) (q_667) (nra) (nik) (q_402) hy0 hy1 hy2 hy3 hy4 hy5 hy6 hy7 hy8 hy9 hy10 hy11 hy12 hy13 H.size) (cwV 1 hts gX8_item_X8_wrong rfl rfl rfl ⟨rfl, dh_X8_wrong⟩ ⟨Nat.le_of_ble_eq_true rfl, Nat.le_of_ble_eq_true rfl⟩) hK hN (hZ.kept hS) hP hD hS hA [9] [0, 1, 2, 3, 4, 5, 6, 7, 8, 10] rfl rfl (by decide) (by decide) (by decide) (va_recv (q := (RX8, TX8, 38)) hK hP (ci := 8) (q0 := 9) rfl rfl) rfl hl.1 rfl (Nat.le_of_ble_eq_true rfl) dX8_item_129 ⟨Nat.le_of_ble_eq_true rfl, Nat.le_of_ble_eq_true rfl⟩ (fun r_687 u_688 H locs hr_687 hP hD hS => ?_)
                  obtain ⟨q_689, rfl⟩ : ∃ z, z = u_688 := ⟨_, rfl⟩
                  obtain ⟨hsr_687_0, hr_687⟩ := hr_687
                  have h9R := zRe (ws' := [(mnu, .inl (cI, 10, .inl gnu)), (mki, .inl (cI, 8, .inl gki)), (mpa, .inl (cI, 8, .inl gpa)), (mta, .inl (cI, 8, .inl gta)), (mla, .inl (cI, 40, .inl gla)), (msl, .inl (cI, 40, .inl gsl)), (mco, .inl (cI, 3, .inl gco)), (mte, .inl (cI, 3, .inl gte)), (mwo, .inl (cI, 64, .inl gwo)), (mce, .inl (cJ, 1280, .inr (.inl gce))), (zMO m0 npu nte nat_ nde nto nse nhu nga nsd nfa mrf mki mpa mta mla msl mco mhe mso msi msh mce mca mwo mnu mte nba q_665 nen q_666 q_689 mwa mke mma mth mtr nra nik)]) hP hD rfl
                  clear hP hD
                  obtain ⟨hP, hD⟩ := h9R
                  obtain rfl := hr_687
                  have hI := zIn_a hn0 (by first | (right; decide) | (left; omega))
                  exact W.zret (v := 0) hx hb hr (by decide) (fun t ht hW => ⟨⟨0, (npu, nte, nat_, nde, nse, nhu, nga, gki, gpa, gta, gla, gsl, gco, gte, q_665, q_666, q_689), rfl, ⟨(show 0 ≤ npu.toInt ∧ npu.toInt ≤ 8 from ⟨hy0, hy1⟩), (show 4 ≤ nte.toInt ∧ nte.toInt ≤ 40 from ⟨hy2, hy3⟩), (show 0 ≤ nat_.toInt ∧ nat_.toInt ≤ 40 from ⟨hy4, hy5⟩), (show 0 ≤ nde.toInt ∧ nde.toInt ≤ 24 from ⟨hy6, hy7⟩), (show 0 ≤ nhu.toInt ∧ nhu.toInt ≤ 9 from ⟨hy8, hy9⟩), hp_gki, hp_gpa, hp_gta, hp_gla, hp_gsl, hp_gco, (show 0 ≤ q_665.toInt ∧ q_665.toInt ≤ 160 from hbq_665), (show npl.toInt ≤ q_665.toInt ∧ q_665.toInt ≤ nen.toInt from by exact ⟨by omega, by omega⟩), (show ((0 : Int32).toInt = 1 → (zItem (zMF gce nba.toInt) nen.toInt npl.toInt nte.toInt npu.toInt).1 = -1 ∧ q_665.toInt = (zItem (zMF gce nba.toInt) nen.toInt npl.toInt nte.toInt npu.toInt).2.1 ∧ nte.toInt = (zItem (zMF gce nba.toInt) nen.toInt npl.toInt nte.toInt npu.toInt).2.2.1 ∧ npu.toInt = (zItem (zMF gce nba.toInt) nen.toInt npl.toInt nte.toInt npu.toInt).2.2.2) ∧ ((0 : Int32).toInt = 0 → (zItem (zMF gce nba.toInt) nen.toInt npl.toInt nte.toInt npu.toInt).1 = q_689.toInt ∧ 0 ≤ q_689.toInt) from by (have k9 : (0 : Int32).toInt = 0 := (by decide); rw [zItem_w hW1 (by decide) hp8 rfl hI]; dsimp only; exact ⟨fun h => absurd h (by decide), fun _ => ⟨by first | rfl | (show _ = _; omega), by omega⟩⟩)), ⟨by decide, by decide⟩⟩, zRet ht hP hD [10, 8, 0, 9, 1, 2, 3, 4, 5, 6, 7] (by decide) rfl⟩, hS.F ht⟩) hS.2.2 dX8_item_132
              · have fc_670 : r_663.toInt = 0 := zf_eq c_670 rfl (by decide)
                have hn0 : zN1 (zMF gce nba.toInt) nen.toInt (npl.toInt + ((zWds ((6 : Int)).toNat).length : Int)) (zLo 6 0) (zHi 6 0 nte.toInt) = ((q_402 : Int32).toInt, (q_402 : Int32).toInt, 0) := zN1_yes (p1 := (q_402 : Int32).toInt) (lo2 := 0) (hi2 := (9 : Int)) ⟨hW2, hW3⟩ (by omega) (hsr_663_2.2 (by omega)).1.symm zNv_0.symm (by decide) (by first | rfl | decide | (show nte.toInt - 1 = _; omega) | (show nte.toInt = _; omega)) (Or.inl ⟨rfl, Or.inl rfl⟩)
                refine lv_iconst (v := 0) hx hb dX8_item_116 (by decide) ?_
                have hI := zIn_a hn0 (by first | (right; decide) | (left; omega))
                exact W.zret (v := 0) hx hb hr (by decide) (fun t ht hW => ⟨⟨0, (npu, nte, nat_, nde, nse, nhu, nga, gki, gpa, gta, gla, gsl, gco, gte, q_665, q_666, q_667), rfl, ⟨(show 0 ≤ npu.toInt ∧ npu.toInt ≤ 8 from ⟨hy0, hy1⟩), (show 4 ≤ nte.toInt ∧ nte.toInt ≤ 40 from ⟨hy2, hy3⟩), (show 0 ≤ nat_.toInt ∧ nat_.toInt ≤ 40 from ⟨hy4, hy5⟩), (show 0 ≤ nde.toInt ∧ nde.toInt ≤ 24 from ⟨hy6, hy7⟩), (show 0 ≤ nhu.toInt ∧ nhu.toInt ≤ 9 from ⟨hy8, hy9⟩), hp_gki, hp_gpa, hp_gta, hp_gla, hp_gsl, hp_gco, (show 0 ≤ q_665.toInt ∧ q_665.toInt ≤ 160 from hbq_665), (show npl.toInt ≤ q_665.toInt ∧ q_665.toInt ≤ nen.toInt from by exact ⟨by omega, by omega⟩), (show ((0 : Int32).toInt = 1 → (zItem (zMF gce nba.toInt) nen.toInt npl.toInt nte.toInt npu.toInt).1 = -1 ∧ q_665.toInt = (zItem (zMF gce nba.toInt) nen.toInt npl.toInt nte.toInt npu.toInt).2.1 ∧ nte.toInt = (zItem (zMF gce nba.toInt) nen.toInt npl.toInt nte.toInt npu.toInt).2.2.1 ∧ npu.toInt = (zItem (zMF gce nba.toInt) nen.toInt npl.toInt nte.toInt npu.toInt).2.2.2) ∧ ((0 : Int32).toInt = 0 → (zItem (zMF gce nba.toInt) nen.toInt npl.toInt nte.toInt npu.toInt).1 = q_667.toInt ∧ 0 ≤ q_667.toInt) from by (have k9 : (0 : Int32).toInt = 0 := (by decide); rw [zItem_w hW1 (by decide) hp8 rfl hI]; dsimp only; exact ⟨fun h => absurd h (by decide), fun _ => ⟨by first | rfl | (show _ = _; omega), by omega⟩⟩)), ⟨by decide, by decide⟩⟩, zRet ht hP hD [9, 8, 0, 10, 1, 2, 3, 4, 5, 6, 7] (by decide) rfl⟩, hS.F ht⟩) hS.2.2 dX8_item_117
            · exact absurd c_662 (by decide)
        · have kc7 : (7 : Int32).toInt = 7 := by decide
          have z9 := hsr_400_1
          rw [kc7] at z9
          obtain ⟨hW1, hW2, hW3, hW4⟩ := zItem_Mw (f := (zMF gce nba.toInt)) (e := nen.toInt) (p := npl.toInt) (w := 7) (by omega) (by decide)
          have hp8 : ¬ ((7 : Int) = 3 ∧ npu.toInt = 8) := fun z => absurd z.1 (by decide)
          refine lv_iconst (v := 0) hx hb dX8_item_38 (by decide) ?_
          refine lv_istore_n (lv' := [(2, .int 0), (1, .int 7), (0, .ref m0)]) hx hb dX8_item_39 rfl hl (by decide) rfl (fun ls hl => ?_)
          refine lv_iload_n hx hb dX8_item_40 rfl (lv_at hl 0 rfl) ?_
          refine lv_aload_n hx hb dX8_item_41 rfl (lv_at hl 2 rfl) ?_
          refine va_get (D := D) (ci := 8) (v := .ref mnu) (C := RX8) (T := TX8) (N := 38) hx hb hts hi_X8_item_8 hown hK hP 8 rfl rfl 24 (by decide) (hts (.fieldLink RX8 69 "TheLiningsInItModel" "numbers" "[I") (List.mem_of_getElem? (i := 3) rfl)) (fun _ h9 => h9) rfl dX8_item_42 ?_
          refine lv_iload_n hx hb dX8_item_45 rfl (lv_at hl 1 rfl) ?_
          refine va_iald hx hb hK hP 0 0 rfl rfl (zf_in (by decide) (by decide)) dX8_item_46 ?_
          refine lv_topi (fun x_690 ex_690 => ?_)
          obtain rfl : x_690 = 1 := ex_690.trans ((congrArg gnu (show (7 : Int32).toNatClampNeg = 7 from by decide)).trans ((hnu 7 (by decide)).trans (by decide)))
          refine lv_icmp_ge (tgt := 149) hx hb dX8_item_47 (by decide) (fun c_691 => ?_) (fun c_691 => ?_)
          · exact absurd c_691 (by decide)
          · refine lv_iload_n hx hb dX8_item_50 rfl (lv_at hl 0 rfl) ?_
            refine lv_if_le (tgt := 104) hx hb dX8_item_51 (by decide) (fun c_692 => ?_) (fun c_692 => ?_)
            · refine lv_aload_n hx hb dX8_item_104 rfl (lv_at hl 2 rfl) ?_
              refine va_get (D := D) (ci := 8) (v := .int q_402) (C := RX8) (T := TX8) (N := 38) hx hb hts hi_X8_item_8 hown hK hP 8 rfl rfl 27 (by decide) (hts (.fieldLink RX8 152 "TheLiningsInItModel" "place" "I") (List.mem_of_getElem? (i := 2) rfl)) (fun _ h9 => h9) rfl dX8_item_105 ?_
              refine lv_istore_n (lv' := [(3, .int q_402), (2, .int 0), (1, .int 7), (0, .ref m0)]) hx hb dX8_item_108 rfl hl (by decide) rfl (fun ls hl => ?_)
              refine lv_aload_n hx hb dX8_item_109 rfl (lv_at hl 3 rfl) ?_
              skip
              refine zw_V (As := []) (rest := []) (wr := [(mnu, .inl (cI, 10, .inl gnu)), (mki, .inl (cI, 8, .inl gki)), (mpa, .inl (cI, 8, .inl gpa)), (mta, .inl (cI, 8, .inl gta)), (mla, .inl (cI, 40, .inl gla)), (msl, .inl (cI, 40, .inl gsl)), (mco, .inl (cI, 3, .inl gco)), (mte, .inl (cI, 3, .inl gte)), (mwo, .inl (cI, 64, .inl gwo))]) ⟨hx, hb, hml, hown, hts⟩ (c_F_M_reads l D cI cJ cZ cP cS po m0 mrf mki mpa mta mla msl mco mhe mso msi msh mce mca mwo mnu mte mwa mke mma mth mtr (npu) (nte) (nat_) (nde) (nto) (nse) (nhu) (nga) (nsd) (nfa) (nba) (q_402) (nen) (nnu) (q_403) (nra) (nik) gce hy0 hy1 hy2 hy3 hy4 hy5 hy6 hy7 hy8 hy9 hy10 hy11 hy12 hy13 hy14 hy15 hbq_402.1 hbq_402.2 hy18 hy19 (by omega) H.size) (cwV 0 hts gX8_item_X8_reads rfl rfl rfl ⟨rfl, dh_X8_reads⟩ ⟨Nat.le_of_ble_eq_true rfl, Nat.le_of_ble_eq_true rfl⟩) hK hN (hZ.kept hS) hP hD hS hA [8, 10] [0, 1, 2, 3, 4, 5, 6, 7, 9] rfl rfl (by decide) (by decide) (by decide) (va_recv (q := (RX8, TX8, 38)) hK hP (ci := 8) (q0 := 8) rfl rfl) rfl hl.1 rfl (Nat.le_of_ble_eq_true rfl) dX8_item_110 ⟨Nat.le_of_ble_eq_true rfl, Nat.le_of_ble_eq_true rfl⟩ (fun r_693 u_694 H locs hr_693 hP hD hS => ?_)
              obtain ⟨q_695, q_696, q_697⟩ := u_694
              try dsimp only at hr_693
              obtain ⟨hbq_695, hsr_693_0, hsr_693_1, hsr_693_2, hr_693⟩ := hr_693
              have h9R := zRe (ws' := [(mnu, .inl (cI, 10, .inl gnu)), (mki, .inl (cI, 8, .inl gki)), (mpa, .inl (cI, 8, .inl gpa)), (mta, .inl (cI, 8, .inl gta)), (mla, .inl (cI, 40, .inl gla)), (msl, .inl (cI, 40, .inl gsl)), (mco, .inl (cI, 3, .inl gco)), (mte, .inl (cI, 3, .inl gte)), (mwo, .inl (cI, 64, .inl gwo)), (zMO m0 npu nte nat_ nde nto nse nhu nga nsd nfa mrf mki mpa mta mla msl mco mhe mso msi msh mce mca mwo mnu mte nba q_695 nen q_696 q_697 mwa mke mma mth mtr nra nik), (mce, .inl (cJ, 1280, .inr (.inl gce)))]) hP hD rfl
              clear hP hD
              obtain ⟨hP, hD⟩ := h9R
              obtain ⟨g_698, g_699⟩ := hr_693
              refine lv_if_ne (tgt := 118) hx hb dX8_item_113 (by decide) (fun c_700 => ?_) (fun c_700 => ?_)
              · have fc_700 : r_693.toInt ≠ 0 := zf_ne c_700 rfl (by decide)
                refine lv_aload_n hx hb dX8_item_118 rfl (lv_at hl 3 rfl) ?_
                refine lv_iload_n hx hb dX8_item_119 rfl (lv_at hl 2 rfl) ?_
                refine lv_iload_n hx hb dX8_item_120 rfl (lv_at hl 1 rfl) ?_
                refine zc_V (As := [.int 7, .int 0]) (rest := []) ⟨hx, hb, hml, hown, hts⟩ (c_F_M_isSo_7_0 l D cI cJ cZ cP cS po m0 mrf mki mpa mta mla msl mco mhe mso msi msh mce mca mwo mnu mte mwa mke mma mth mtr (npu) (nte) (nat_) (nde) (nto) (nse) (nhu) (nga) (nsd) (nfa) (nba) (q_695) (nen) (q_696) (q_697) (nra) (nik) hy0 hy1 hy2 hy3 hy4 hy5 hy6 hy7 hy8 hy9 hy10 hy11 hy12 hy13 (by omega) (by omega)) (cwV 2 hts gX8_item_X8_isSo rfl rfl rfl ⟨rfl, dh_X8_isSo⟩ ⟨Nat.le_of_ble_eq_true rfl, Nat.le_of_ble_eq_true rfl⟩) hK hN (hZ.kept hS) hP (hP.sub [9] rfl) (va_recv (q := (RX8, TX8, 38)) hK hP (ci := 8) (q0 := 9) rfl rfl) rfl hl.1 rfl (Nat.le_of_ble_eq_true rfl) dX8_item_121 ⟨Nat.le_of_ble_eq_true rfl, Nat.le_of_ble_eq_true rfl⟩ (fun r_701 hr_701 => ?_)
                obtain ⟨g_702, g_703, hsr_701_0⟩ := hr_701
                refine lv_if_ne (tgt := 133) hx hb dX8_item_124 (by decide) (fun c_704 => ?_) (fun c_704 => ?_)
                · have fc_704 : r_701.toInt ≠ 0 := zf_ne c_704 rfl (by decide)
                  obtain ⟨hy1_0, hy2_0, hy3_0⟩ := hsr_693_2.1 (by omega)
                  have hn0 : zN1 (zMF gce nba.toInt) nen.toInt (npl.toInt + ((zWds ((7 : Int)).toNat).length : Int)) (zLo 7 0) (zHi 7 0 nte.toInt) = (-1, (q_695 : Int32).toInt, (q_696 : Int32).toInt) := zN1_yes (p1 := (q_402 : Int32).toInt) (lo2 := 1) (hi2 := (9 : Int)) ⟨hW2, hW3⟩ (by omega) hy1_0 hy2_0 (by decide) (by first | rfl | decide | (show nte.toInt - 1 = _; omega) | (show nte.toInt = _; omega)) (by omega)
                  refine lv_aload_n hx hb dX8_item_133 rfl (lv_at hl 3 rfl) ?_
                  refine va_get (D := D) (ci := 8) (v := .ref mte) (C := RX8) (T := TX8) (N := 38) hx hb hts hi_X8_item_8 hown hK hP 9 rfl rfl 25 (by decide) (hts (.fieldLink RX8 72 "TheLiningsInItModel" "tell" "[I") (List.mem_of_getElem? (i := 7) rfl)) (fun _ h9 => h9) rfl dX8_item_134 ?_
                  refine lv_iload_n hx hb dX8_item_137 rfl (lv_at hl 1 rfl) ?_
                  refine lv_aload_n hx hb dX8_item_138 rfl (lv_at hl 3 rfl) ?_
                  refine va_get (D := D) (ci := 8) (v := .int q_696) (C := RX8) (T := TX8) (N := 38) hx hb hts hi_X8_item_8 hown hK hP 9 rfl rfl 29 (by decide) (hts (.fieldLink RX8 161 "TheLiningsInItModel" "number" "I") (List.mem_of_getElem? (i := 8) rfl)) (fun _ h9 => h9) rfl dX8_item_139 ?_
                  refine va_iast hx hb hK hP hD hS 7 0 rfl rfl (zf_in (by decide) (by decide)) dX8_item_142 (fun H locs hP hD hS => ?_)
                  have h9R := zRe (ws' := [(mnu, .inl (cI, 10, .inl gnu)), (mki, .inl (cI, 8, .inl gki)), (mpa, .inl (cI, 8, .inl gpa)), (mta, .inl (cI, 8, .inl gta)), (mla, .inl (cI, 40, .inl gla)), (msl, .inl (cI, 40, .inl gsl)), (mco, .inl (cI, 3, .inl gco)), (mte, .inl (cI, 3, .inl (upd gte (0 : Int32).toNatClampNeg q_696))), (mwo, .inl (cI, 64, .inl gwo)), (zMO m0 npu nte nat_ nde nto nse nhu nga nsd nfa mrf mki mpa mta mla msl mco mhe mso msi msh mce mca mwo mnu mte nba q_695 nen q_696 q_697 mwa mke mma mth mtr nra nik), (mce, .inl (cJ, 1280, .inr (.inl gce)))]) hP hD rfl
                  clear hP hD
                  obtain ⟨hP, hD⟩ := h9R
                  refine lv_iinc (v := 1) (lv' := [(2, .int 1), (3, .int q_402), (1, .int 7), (0, .ref m0)]) hx hb dX8_item_143 hl (k := 1) rfl (by decide) (by decide) rfl (fun ls hl => ?_)
                  refine lv_goto (tgt := 40) hx hb dX8_item_146 (by decide) ?_
                  refine lv_iload_n hx hb dX8_item_40 rfl (lv_at hl 0 rfl) ?_
                  refine lv_aload_n hx hb dX8_item_41 rfl (lv_at hl 3 rfl) ?_
                  refine va_get (D := D) (ci := 8) (v := .ref mnu) (C := RX8) (T := TX8) (N := 38) hx hb hts hi_X8_item_8 hown hK hP 9 rfl rfl 24 (by decide) (hts (.fieldLink RX8 69 "TheLiningsInItModel" "numbers" "[I") (List.mem_of_getElem? (i := 3) rfl)) (fun _ h9 => h9) rfl dX8_item_42 ?_
                  refine lv_iload_n hx hb dX8_item_45 rfl (lv_at hl 2 rfl) ?_
                  refine va_iald hx hb hK hP 0 0 rfl rfl (zf_in (by decide) (by decide)) dX8_item_46 ?_
                  refine lv_topi (fun x_705 ex_705 => ?_)
                  obtain rfl : x_705 = 1 := ex_705.trans ((congrArg gnu (show (7 : Int32).toNatClampNeg = 7 from by decide)).trans ((hnu 7 (by decide)).trans (by decide)))
                  refine lv_icmp_ge (tgt := 149) hx hb dX8_item_47 (by decide) (fun c_706 => ?_) (fun c_706 => ?_)
                  · refine lv_iload_n hx hb dX8_item_149 rfl (lv_at hl 2 rfl) ?_
                    refine lv_tableIn (tgt := 311) hx hb dX8_item_150 (by decide) (by decide) rfl (by decide) ?_
                    refine lv_aload_n hx hb dX8_item_311 rfl (lv_at hl 3 rfl) ?_
                    refine lv_iload_n hx hb dX8_item_312 rfl (lv_at hl 2 rfl) ?_
                    refine lv_iconst (v := 4) hx hb dX8_item_313 (by decide) ?_
                    refine lv_isub hx hb dX8_item_314 ?_
                    refine lv_topi (fun y_707 ey_707 => ?_)
                    obtain rfl : y_707 = 3 := ey_707.trans (by decide)
                    refine lv_aload_n hx hb dX8_item_315 rfl (lv_at hl 3 rfl) ?_
                    refine va_get (D := D) (ci := 8) (v := .ref mte) (C := RX8) (T := TX8) (N := 38) hx hb hts hi_X8_item_8 hown hK hP 9 rfl rfl 25 (by decide) (hts (.fieldLink RX8 72 "TheLiningsInItModel" "tell" "[I") (List.mem_of_getElem? (i := 7) rfl)) (fun _ h9 => h9) rfl dX8_item_316 ?_
                    refine lv_iconst (v := 0) hx hb dX8_item_319 (by decide) ?_
                    refine va_iald hx hb hK hP 7 0 rfl rfl (zf_in (by decide) (by decide)) dX8_item_320 ?_
                    refine lv_topi (fun x_708 ex_708 => ?_)
                    obtain rfl : q_696 = x_708 := (ex_708.trans (if_pos rfl)).symm
                    have kc3 : (3 : Int32).toInt = 3 := by decide
                    skip
                    refine zw_Vv (As := [.int 3, .int q_696]) (rest := []) (wr := [(mnu, .inl (cI, 10, .inl gnu)), (mki, .inl (cI, 8, .inl gki)), (mpa, .inl (cI, 8, .inl gpa)), (mta, .inl (cI, 8, .inl gta)), (mla, .inl (cI, 40, .inl gla)), (msl, .inl (cI, 40, .inl gsl)), (mte, .inl (cI, 3, .inl (upd gte (0 : Int32).toNatClampNeg q_696))), (mwo, .inl (cI, 64, .inl gwo)), (mce, .inl (cJ, 1280, .inr (.inl gce)))]) ⟨hx, hb, hml, hown, hts⟩ (c_M_tells l D cI cJ cZ cP cS po m0 mrf mki mpa mta mla msl mco mhe mso msi msh mce mca mwo mnu mte mwa mke mma mth mtr (npu) (nte) (nat_) (nde) (nto) (nse) (nhu) (nga) (nsd) (nfa) (nba) (q_695) (nen) (q_696) (q_697) (nra) (nik) gco (3) (q_696) hy0 hy1 hy2 hy3 hy4 hy5 hy6 hy7 hy8 hy9 hy10 hy11 hy12 hy13 (by omega) (by omega) (by omega) hp_gco H.size) (cwV 2 hts gX8_item_X8_tells rfl rfl rfl ⟨rfl, dh_X8_tells⟩ ⟨Nat.le_of_ble_eq_true rfl, Nat.le_of_ble_eq_true rfl⟩) hK hN (hZ.kept hS) hP hD hS hA [9, 6] [0, 1, 2, 3, 4, 5, 7, 8, 10] rfl rfl (by decide) (by decide) (by decide) (va_recv (q := (RX8, TX8, 38)) hK hP (ci := 8) (q0 := 9) rfl rfl) rfl hl.1 rfl (Nat.le_of_ble_eq_true rfl) dX8_item_321 ⟨Nat.le_of_ble_eq_true rfl, Nat.le_of_ble_eq_true rfl⟩ (fun u_710 H locs hr_709 hP hD hS => ?_)
                    obtain ⟨q_711, q_712, q_713, q_714, q_715, q_716⟩ := u_710
                    try dsimp only at hr_709
                    obtain ⟨hbq_711, hbq_713, hbq_715, hpq_716, hr_709⟩ := hr_709
                    have h9R := zRe (ws' := [(mnu, .inl (cI, 10, .inl gnu)), (mki, .inl (cI, 8, .inl gki)), (mpa, .inl (cI, 8, .inl gpa)), (mta, .inl (cI, 8, .inl gta)), (mla, .inl (cI, 40, .inl gla)), (msl, .inl (cI, 40, .inl gsl)), (mte, .inl (cI, 3, .inl (upd gte (0 : Int32).toNatClampNeg q_696))), (mwo, .inl (cI, 64, .inl gwo)), (mce, .inl (cJ, 1280, .inr (.inl gce))), (zMO m0 npu nte q_715 q_711 nto q_712 q_713 q_714 nsd nfa mrf mki mpa mta mla msl mco mhe mso msi msh mce mca mwo mnu mte nba q_695 nen q_696 q_697 mwa mke mma mth mtr nra nik), (mco, .inl (cI, 3, .inl q_716))]) hP hD rfl
                    clear hP hD
                    obtain ⟨hP, hD⟩ := h9R
                    refine lv_iconst (v := 1) hx hb dX8_item_324 (by decide) ?_
                    have hI := zIn_a hn0 (by first | (right; decide) | (left; omega))
                    exact W.zret (v := 1) hx hb hr (by decide) (fun t ht hW => ⟨⟨1, (npu, nte, q_715, q_711, q_712, q_713, q_714, gki, gpa, gta, gla, gsl, q_716, (upd gte (0 : Int32).toNatClampNeg q_696), q_695, q_696, q_697), rfl, ⟨(show 0 ≤ npu.toInt ∧ npu.toInt ≤ 8 from ⟨hy0, hy1⟩), (show 4 ≤ nte.toInt ∧ nte.toInt ≤ 40 from ⟨hy2, hy3⟩), (show 0 ≤ q_715.toInt ∧ q_715.toInt ≤ 40 from hbq_715), (show 0 ≤ q_711.toInt ∧ q_711.toInt ≤ 24 from hbq_711), (show 0 ≤ q_713.toInt ∧ q_713.toInt ≤ 9 from hbq_713), hp_gki, hp_gpa, hp_gta, hp_gla, hp_gsl, hpq_716, (show 0 ≤ q_695.toInt ∧ q_695.toInt ≤ 160 from hbq_695), (show npl.toInt ≤ q_695.toInt ∧ q_695.toInt ≤ nen.toInt from by exact ⟨by omega, by omega⟩), (show ((1 : Int32).toInt = 1 → (zItem (zMF gce nba.toInt) nen.toInt npl.toInt nte.toInt npu.toInt).1 = -1 ∧ q_695.toInt = (zItem (zMF gce nba.toInt) nen.toInt npl.toInt nte.toInt npu.toInt).2.1 ∧ nte.toInt = (zItem (zMF gce nba.toInt) nen.toInt npl.toInt nte.toInt npu.toInt).2.2.1 ∧ npu.toInt = (zItem (zMF gce nba.toInt) nen.toInt npl.toInt nte.toInt npu.toInt).2.2.2) ∧ ((1 : Int32).toInt = 0 → (zItem (zMF gce nba.toInt) nen.toInt npl.toInt nte.toInt npu.toInt).1 = q_697.toInt ∧ 0 ≤ q_697.toInt) from by (have k9 : (1 : Int32).toInt = 1 := (by decide); rw [zItem_w hW1 (by decide) hp8 rfl hI]; dsimp only; exact ⟨fun _ => ⟨rfl, by first | rfl | omega, by (show _ = (if (7 : Int) = 0 then _ else _); rw [if_neg (by decide)]), by (show _ = (if (7 : Int) = 3 then _ else _); rw [if_neg (by decide)])⟩, fun h => absurd h (by decide)⟩)), ⟨by decide, by decide⟩⟩, zRet ht hP hD [9, 7, 0, 8, 1, 2, 3, 4, 5, 10, 6] (by decide) rfl⟩, hS.F ht⟩) hS.2.2 dX8_item_325
                  · exact absurd c_706 (by decide)
                · have fc_704 : r_701.toInt = 0 := zf_eq c_704 rfl (by decide)
                  obtain ⟨hy1_0, hy2_0, hy3_0⟩ := hsr_693_2.1 (by omega)
                  have hn0 : zN1 (zMF gce nba.toInt) nen.toInt (npl.toInt + ((zWds ((7 : Int)).toNat).length : Int)) (zLo 7 0) (zHi 7 0 nte.toInt) = ((q_402 : Int32).toInt, (q_695 : Int32).toInt, (q_696 : Int32).toInt) := zN1_yes (p1 := (q_402 : Int32).toInt) (lo2 := 1) (hi2 := (9 : Int)) ⟨hW2, hW3⟩ (by omega) hy1_0 hy2_0 (by decide) (by first | rfl | decide | (show nte.toInt - 1 = _; omega) | (show nte.toInt = _; omega)) (by omega)
                  refine lv_aload_n hx hb dX8_item_127 rfl (lv_at hl 3 rfl) ?_
                  refine lv_iload_n hx hb dX8_item_128 rfl (lv_at hl 0 rfl) ?_
                  skip
                  refine zw_V (As := [.int q_402]) (rest := []) (wr := [(mnu, .inl (cI, 10, .inl gnu)), (mki, .inl (cI, 8, .inl gki)), (mpa, .inl (cI, 8, .inl gpa)), (mta, .inl (cI, 8, .inl gta)), (mla, .inl (cI, 40, .inl gla)), (msl, .inl (cI, 40, .inl gsl)), (mco, .inl (cI, 3, .inl gco)), (mte, .inl (cI, 3, .inl gte)), (mwo, .inl (cI, 64, .inl gwo)), (mce, .inl (cJ, 1280, .inr (.inl gce)))]) ⟨hx, hb, hml, hown, hts⟩ (c_F_M_wrong l D cI cJ cZ cP cS po m0 mrf mki mpa mta mla msl mco mhe mso msi msh mce mca mwo mnu mte mwa mke mma mth mtr (npu) (nte) (nat_) (nde) (nto) (nse) (nhu) (nga) (nsd) (nfa) (nba) (q_695) (nen) (q_696) (q_697) (nra) (nik) (q_402) hy0 hy1 hy2 hy3 hy4 hy5 hy6 hy7 hy8 hy9 hy10 hy11 hy12 hy13 H.size) (cwV 1 hts gX8_item_X8_wrong rfl rfl rfl ⟨rfl, dh_X8_wrong⟩ ⟨Nat.le_of_ble_eq_true rfl, Nat.le_of_ble_eq_true rfl⟩) hK hN (hZ.kept hS) hP hD hS hA [9] [0, 1, 2, 3, 4, 5, 6, 7, 8, 10] rfl rfl (by decide) (by decide) (by decide) (va_recv (q := (RX8, TX8, 38)) hK hP (ci := 8) (q0 := 9) rfl rfl) rfl hl.1 rfl (Nat.le_of_ble_eq_true rfl) dX8_item_129 ⟨Nat.le_of_ble_eq_true rfl, Nat.le_of_ble_eq_true rfl⟩ (fun r_717 u_718 H locs hr_717 hP hD hS => ?_)
                  obtain ⟨q_719, rfl⟩ : ∃ z, z = u_718 := ⟨_, rfl⟩
                  obtain ⟨hsr_717_0, hr_717⟩ := hr_717
                  have h9R := zRe (ws' := [(mnu, .inl (cI, 10, .inl gnu)), (mki, .inl (cI, 8, .inl gki)), (mpa, .inl (cI, 8, .inl gpa)), (mta, .inl (cI, 8, .inl gta)), (mla, .inl (cI, 40, .inl gla)), (msl, .inl (cI, 40, .inl gsl)), (mco, .inl (cI, 3, .inl gco)), (mte, .inl (cI, 3, .inl gte)), (mwo, .inl (cI, 64, .inl gwo)), (mce, .inl (cJ, 1280, .inr (.inl gce))), (zMO m0 npu nte nat_ nde nto nse nhu nga nsd nfa mrf mki mpa mta mla msl mco mhe mso msi msh mce mca mwo mnu mte nba q_695 nen q_696 q_719 mwa mke mma mth mtr nra nik)]) hP hD rfl
                  clear hP hD
                  obtain ⟨hP, hD⟩ := h9R
                  obtain rfl := hr_717
                  have hI := zIn_a hn0 (by first | (right; decide) | (left; omega))
                  exact W.zret (v := 0) hx hb hr (by decide) (fun t ht hW => ⟨⟨0, (npu, nte, nat_, nde, nse, nhu, nga, gki, gpa, gta, gla, gsl, gco, gte, q_695, q_696, q_719), rfl, ⟨(show 0 ≤ npu.toInt ∧ npu.toInt ≤ 8 from ⟨hy0, hy1⟩), (show 4 ≤ nte.toInt ∧ nte.toInt ≤ 40 from ⟨hy2, hy3⟩), (show 0 ≤ nat_.toInt ∧ nat_.toInt ≤ 40 from ⟨hy4, hy5⟩), (show 0 ≤ nde.toInt ∧ nde.toInt ≤ 24 from ⟨hy6, hy7⟩), (show 0 ≤ nhu.toInt ∧ nhu.toInt ≤ 9 from ⟨hy8, hy9⟩), hp_gki, hp_gpa, hp_gta, hp_gla, hp_gsl, hp_gco, (show 0 ≤ q_695.toInt ∧ q_695.toInt ≤ 160 from hbq_695), (show npl.toInt ≤ q_695.toInt ∧ q_695.toInt ≤ nen.toInt from by exact ⟨by omega, by omega⟩), (show ((0 : Int32).toInt = 1 → (zItem (zMF gce nba.toInt) nen.toInt npl.toInt nte.toInt npu.toInt).1 = -1 ∧ q_695.toInt = (zItem (zMF gce nba.toInt) nen.toInt npl.toInt nte.toInt npu.toInt).2.1 ∧ nte.toInt = (zItem (zMF gce nba.toInt) nen.toInt npl.toInt nte.toInt npu.toInt).2.2.1 ∧ npu.toInt = (zItem (zMF gce nba.toInt) nen.toInt npl.toInt nte.toInt npu.toInt).2.2.2) ∧ ((0 : Int32).toInt = 0 → (zItem (zMF gce nba.toInt) nen.toInt npl.toInt nte.toInt npu.toInt).1 = q_719.toInt ∧ 0 ≤ q_719.toInt) from by (have k9 : (0 : Int32).toInt = 0 := (by decide); rw [zItem_w hW1 (by decide) hp8 rfl hI]; dsimp only; exact ⟨fun h => absurd h (by decide), fun _ => ⟨by first | rfl | (show _ = _; omega), by omega⟩⟩)), ⟨by decide, by decide⟩⟩, zRet ht hP hD [10, 8, 0, 9, 1, 2, 3, 4, 5, 6, 7] (by decide) rfl⟩, hS.F ht⟩) hS.2.2 dX8_item_132
              · have fc_700 : r_693.toInt = 0 := zf_eq c_700 rfl (by decide)
                have hn0 : zN1 (zMF gce nba.toInt) nen.toInt (npl.toInt + ((zWds ((7 : Int)).toNat).length : Int)) (zLo 7 0) (zHi 7 0 nte.toInt) = ((q_402 : Int32).toInt, (q_402 : Int32).toInt, 0) := zN1_yes (p1 := (q_402 : Int32).toInt) (lo2 := 1) (hi2 := (9 : Int)) ⟨hW2, hW3⟩ (by omega) (hsr_693_2.2 (by omega)).1.symm zNv_0.symm (by decide) (by first | rfl | decide | (show nte.toInt - 1 = _; omega) | (show nte.toInt = _; omega)) (Or.inl ⟨rfl, Or.inl rfl⟩)
                refine lv_iconst (v := 0) hx hb dX8_item_116 (by decide) ?_
                have hI := zIn_a hn0 (by first | (right; decide) | (left; omega))
                exact W.zret (v := 0) hx hb hr (by decide) (fun t ht hW => ⟨⟨0, (npu, nte, nat_, nde, nse, nhu, nga, gki, gpa, gta, gla, gsl, gco, gte, q_695, q_696, q_697), rfl, ⟨(show 0 ≤ npu.toInt ∧ npu.toInt ≤ 8 from ⟨hy0, hy1⟩), (show 4 ≤ nte.toInt ∧ nte.toInt ≤ 40 from ⟨hy2, hy3⟩), (show 0 ≤ nat_.toInt ∧ nat_.toInt ≤ 40 from ⟨hy4, hy5⟩), (show 0 ≤ nde.toInt ∧ nde.toInt ≤ 24 from ⟨hy6, hy7⟩), (show 0 ≤ nhu.toInt ∧ nhu.toInt ≤ 9 from ⟨hy8, hy9⟩), hp_gki, hp_gpa, hp_gta, hp_gla, hp_gsl, hp_gco, (show 0 ≤ q_695.toInt ∧ q_695.toInt ≤ 160 from hbq_695), (show npl.toInt ≤ q_695.toInt ∧ q_695.toInt ≤ nen.toInt from by exact ⟨by omega, by omega⟩), (show ((0 : Int32).toInt = 1 → (zItem (zMF gce nba.toInt) nen.toInt npl.toInt nte.toInt npu.toInt).1 = -1 ∧ q_695.toInt = (zItem (zMF gce nba.toInt) nen.toInt npl.toInt nte.toInt npu.toInt).2.1 ∧ nte.toInt = (zItem (zMF gce nba.toInt) nen.toInt npl.toInt nte.toInt npu.toInt).2.2.1 ∧ npu.toInt = (zItem (zMF gce nba.toInt) nen.toInt npl.toInt nte.toInt npu.toInt).2.2.2) ∧ ((0 : Int32).toInt = 0 → (zItem (zMF gce nba.toInt) nen.toInt npl.toInt nte.toInt npu.toInt).1 = q_697.toInt ∧ 0 ≤ q_697.toInt) from by (have k9 : (0 : Int32).toInt = 0 := (by decide); rw [zItem_w hW1 (by decide) hp8 rfl hI]; dsimp only; exact ⟨fun h => absurd h (by decide), fun _ => ⟨by first | rfl | (show _ = _; omega), by omega⟩⟩)), ⟨by decide, by decide⟩⟩, zRet ht hP hD [9, 8, 0, 10, 1, 2, 3, 4, 5, 6, 7] (by decide) rfl⟩, hS.F ht⟩) hS.2.2 dX8_item_117
            · exact absurd c_692 (by decide)
        · have kc8 : (8 : Int32).toInt = 8 := by decide
          have z9 := hsr_400_1
          rw [kc8] at z9
          obtain ⟨hW1, hW2, hW3, hW4⟩ := zItem_Mw (f := (zMF gce nba.toInt)) (e := nen.toInt) (p := npl.toInt) (w := 8) (by omega) (by decide)
          have hp8 : ¬ ((8 : Int) = 3 ∧ npu.toInt = 8) := fun z => absurd z.1 (by decide)
          refine lv_iconst (v := 0) hx hb dX8_item_38 (by decide) ?_
          refine lv_istore_n (lv' := [(2, .int 0), (1, .int 8), (0, .ref m0)]) hx hb dX8_item_39 rfl hl (by decide) rfl (fun ls hl => ?_)
          refine lv_iload_n hx hb dX8_item_40 rfl (lv_at hl 0 rfl) ?_
          refine lv_aload_n hx hb dX8_item_41 rfl (lv_at hl 2 rfl) ?_
          refine va_get (D := D) (ci := 8) (v := .ref mnu) (C := RX8) (T := TX8) (N := 38) hx hb hts hi_X8_item_8 hown hK hP 8 rfl rfl 24 (by decide) (hts (.fieldLink RX8 69 "TheLiningsInItModel" "numbers" "[I") (List.mem_of_getElem? (i := 3) rfl)) (fun _ h9 => h9) rfl dX8_item_42 ?_
          refine lv_iload_n hx hb dX8_item_45 rfl (lv_at hl 1 rfl) ?_
          refine va_iald hx hb hK hP 0 0 rfl rfl (zf_in (by decide) (by decide)) dX8_item_46 ?_
          refine lv_topi (fun x_720 ex_720 => ?_)
          obtain rfl : x_720 = 2 := ex_720.trans ((congrArg gnu (show (8 : Int32).toNatClampNeg = 8 from by decide)).trans ((hnu 8 (by decide)).trans (by decide)))
          refine lv_icmp_ge (tgt := 149) hx hb dX8_item_47 (by decide) (fun c_721 => ?_) (fun c_721 => ?_)
          · exact absurd c_721 (by decide)
          · refine lv_iload_n hx hb dX8_item_50 rfl (lv_at hl 0 rfl) ?_
            refine lv_if_le (tgt := 104) hx hb dX8_item_51 (by decide) (fun c_722 => ?_) (fun c_722 => ?_)
            · refine lv_aload_n hx hb dX8_item_104 rfl (lv_at hl 2 rfl) ?_
              refine va_get (D := D) (ci := 8) (v := .int q_402) (C := RX8) (T := TX8) (N := 38) hx hb hts hi_X8_item_8 hown hK hP 8 rfl rfl 27 (by decide) (hts (.fieldLink RX8 152 "TheLiningsInItModel" "place" "I") (List.mem_of_getElem? (i := 2) rfl)) (fun _ h9 => h9) rfl dX8_item_105 ?_
              refine lv_istore_n (lv' := [(3, .int q_402), (2, .int 0), (1, .int 8), (0, .ref m0)]) hx hb dX8_item_108 rfl hl (by decide) rfl (fun ls hl => ?_)
              refine lv_aload_n hx hb dX8_item_109 rfl (lv_at hl 3 rfl) ?_
              skip
              refine zw_V (As := []) (rest := []) (wr := [(mnu, .inl (cI, 10, .inl gnu)), (mki, .inl (cI, 8, .inl gki)), (mpa, .inl (cI, 8, .inl gpa)), (mta, .inl (cI, 8, .inl gta)), (mla, .inl (cI, 40, .inl gla)), (msl, .inl (cI, 40, .inl gsl)), (mco, .inl (cI, 3, .inl gco)), (mte, .inl (cI, 3, .inl gte)), (mwo, .inl (cI, 64, .inl gwo))]) ⟨hx, hb, hml, hown, hts⟩ (c_F_M_reads l D cI cJ cZ cP cS po m0 mrf mki mpa mta mla msl mco mhe mso msi msh mce mca mwo mnu mte mwa mke mma mth mtr (npu) (nte) (nat_) (nde) (nto) (nse) (nhu) (nga) (nsd) (nfa) (nba) (q_402) (nen) (nnu) (q_403) (nra) (nik) gce hy0 hy1 hy2 hy3 hy4 hy5 hy6 hy7 hy8 hy9 hy10 hy11 hy12 hy13 hy14 hy15 hbq_402.1 hbq_402.2 hy18 hy19 (by omega) H.size) (cwV 0 hts gX8_item_X8_reads rfl rfl rfl ⟨rfl, dh_X8_reads⟩ ⟨Nat.le_of_ble_eq_true rfl, Nat.le_of_ble_eq_true rfl⟩) hK hN (hZ.kept hS) hP hD hS hA [8, 10] [0, 1, 2, 3, 4, 5, 6, 7, 9] rfl rfl (by decide) (by decide) (by decide) (va_recv (q := (RX8, TX8, 38)) hK hP (ci := 8) (q0 := 8) rfl rfl) rfl hl.1 rfl (Nat.le_of_ble_eq_true rfl) dX8_item_110 ⟨Nat.le_of_ble_eq_true rfl, Nat.le_of_ble_eq_true rfl⟩ (fun r_723 u_724 H locs hr_723 hP hD hS => ?_)
              obtain ⟨q_725, q_726, q_727⟩ := u_724
              try dsimp only at hr_723
              obtain ⟨hbq_725, hsr_723_0, hsr_723_1, hsr_723_2, hr_723⟩ := hr_723
              have h9R := zRe (ws' := [(mnu, .inl (cI, 10, .inl gnu)), (mki, .inl (cI, 8, .inl gki)), (mpa, .inl (cI, 8, .inl gpa)), (mta, .inl (cI, 8, .inl gta)), (mla, .inl (cI, 40, .inl gla)), (msl, .inl (cI, 40, .inl gsl)), (mco, .inl (cI, 3, .inl gco)), (mte, .inl (cI, 3, .inl gte)), (mwo, .inl (cI, 64, .inl gwo)), (zMO m0 npu nte nat_ nde nto nse nhu nga nsd nfa mrf mki mpa mta mla msl mco mhe mso msi msh mce mca mwo mnu mte nba q_725 nen q_726 q_727 mwa mke mma mth mtr nra nik), (mce, .inl (cJ, 1280, .inr (.inl gce)))]) hP hD rfl
              clear hP hD
              obtain ⟨hP, hD⟩ := h9R
              obtain ⟨g_728, g_729⟩ := hr_723
              refine lv_if_ne (tgt := 118) hx hb dX8_item_113 (by decide) (fun c_730 => ?_) (fun c_730 => ?_)
              · have fc_730 : r_723.toInt ≠ 0 := zf_ne c_730 rfl (by decide)
                refine lv_aload_n hx hb dX8_item_118 rfl (lv_at hl 3 rfl) ?_
                refine lv_iload_n hx hb dX8_item_119 rfl (lv_at hl 2 rfl) ?_
                refine lv_iload_n hx hb dX8_item_120 rfl (lv_at hl 1 rfl) ?_
                refine zc_V (As := [.int 8, .int 0]) (rest := []) ⟨hx, hb, hml, hown, hts⟩ (c_F_M_isSo_8_0 l D cI cJ cZ cP cS po m0 mrf mki mpa mta mla msl mco mhe mso msi msh mce mca mwo mnu mte mwa mke mma mth mtr (npu) (nte) (nat_) (nde) (nto) (nse) (nhu) (nga) (nsd) (nfa) (nba) (q_725) (nen) (q_726) (q_727) (nra) (nik) hy0 hy1 hy2 hy3 hy4 hy5 hy6 hy7 hy8 hy9 hy10 hy11 hy12 hy13 (by omega) (by omega)) (cwV 2 hts gX8_item_X8_isSo rfl rfl rfl ⟨rfl, dh_X8_isSo⟩ ⟨Nat.le_of_ble_eq_true rfl, Nat.le_of_ble_eq_true rfl⟩) hK hN (hZ.kept hS) hP (hP.sub [9] rfl) (va_recv (q := (RX8, TX8, 38)) hK hP (ci := 8) (q0 := 9) rfl rfl) rfl hl.1 rfl (Nat.le_of_ble_eq_true rfl) dX8_item_121 ⟨Nat.le_of_ble_eq_true rfl, Nat.le_of_ble_eq_true rfl⟩ (fun r_731 hr_731 => ?_)
                obtain ⟨g_732, g_733, hsr_731_0⟩ := hr_731
                refine lv_if_ne (tgt := 133) hx hb dX8_item_124 (by decide) (fun c_734 => ?_) (fun c_734 => ?_)
                · have fc_734 : r_731.toInt ≠ 0 := zf_ne c_734 rfl (by decide)
                  obtain ⟨hy1_0, hy2_0, hy3_0⟩ := hsr_723_2.1 (by omega)
                  have hn0 : zN1 (zMF gce nba.toInt) nen.toInt (npl.toInt + ((zWds ((8 : Int)).toNat).length : Int)) (zLo 8 0) (zHi 8 0 nte.toInt) = (-1, (q_725 : Int32).toInt, (q_726 : Int32).toInt) := zN1_yes (p1 := (q_402 : Int32).toInt) (lo2 := 0) (hi2 := (2 : Int)) ⟨hW2, hW3⟩ (by omega) hy1_0 hy2_0 (by decide) (by first | rfl | decide | (show nte.toInt - 1 = _; omega) | (show nte.toInt = _; omega)) (by omega)
                  refine lv_aload_n hx hb dX8_item_133 rfl (lv_at hl 3 rfl) ?_
                  refine va_get (D := D) (ci := 8) (v := .ref mte) (C := RX8) (T := TX8) (N := 38) hx hb hts hi_X8_item_8 hown hK hP 9 rfl rfl 25 (by decide) (hts (.fieldLink RX8 72 "TheLiningsInItModel" "tell" "[I") (List.mem_of_getElem? (i := 7) rfl)) (fun _ h9 => h9) rfl dX8_item_134 ?_
                  refine lv_iload_n hx hb dX8_item_137 rfl (lv_at hl 1 rfl) ?_
                  refine lv_aload_n hx hb dX8_item_138 rfl (lv_at hl 3 rfl) ?_
                  refine va_get (D := D) (ci := 8) (v := .int q_726) (C := RX8) (T := TX8) (N := 38) hx hb hts hi_X8_item_8 hown hK hP 9 rfl rfl 29 (by decide) (hts (.fieldLink RX8 161 "TheLiningsInItModel" "number" "I") (List.mem_of_getElem? (i := 8) rfl)) (fun _ h9 => h9) rfl dX8_item_139 ?_
                  refine va_iast hx hb hK hP hD hS 7 0 rfl rfl (zf_in (by decide) (by decide)) dX8_item_142 (fun H locs hP hD hS => ?_)
                  have h9R := zRe (ws' := [(mnu, .inl (cI, 10, .inl gnu)), (mki, .inl (cI, 8, .inl gki)), (mpa, .inl (cI, 8, .inl gpa)), (mta, .inl (cI, 8, .inl gta)), (mla, .inl (cI, 40, .inl gla)), (msl, .inl (cI, 40, .inl gsl)), (mco, .inl (cI, 3, .inl gco)), (mte, .inl (cI, 3, .inl (upd gte (0 : Int32).toNatClampNeg q_726))), (mwo, .inl (cI, 64, .inl gwo)), (zMO m0 npu nte nat_ nde nto nse nhu nga nsd nfa mrf mki mpa mta mla msl mco mhe mso msi msh mce mca mwo mnu mte nba q_725 nen q_726 q_727 mwa mke mma mth mtr nra nik), (mce, .inl (cJ, 1280, .inr (.inl gce)))]) hP hD rfl
                  clear hP hD
                  obtain ⟨hP, hD⟩ := h9R
                  refine lv_iinc (v := 1) (lv' := [(2, .int 1), (3, .int q_402), (1, .int 8), (0, .ref m0)]) hx hb dX8_item_143 hl (k := 1) rfl (by decide) (by decide) rfl (fun ls hl => ?_)
                  refine lv_goto (tgt := 40) hx hb dX8_item_146 (by decide) ?_
                  refine lv_iload_n hx hb dX8_item_40 rfl (lv_at hl 0 rfl) ?_
                  refine lv_aload_n hx hb dX8_item_41 rfl (lv_at hl 3 rfl) ?_
                  refine va_get (D := D) (ci := 8) (v := .ref mnu) (C := RX8) (T := TX8) (N := 38) hx hb hts hi_X8_item_8 hown hK hP 9 rfl rfl 24 (by decide) (hts (.fieldLink RX8 69 "TheLiningsInItModel" "numbers" "[I") (List.mem_of_getElem? (i := 3) rfl)) (fun _ h9 => h9) rfl dX8_item_42 ?_
                  refine lv_iload_n hx hb dX8_item_45 rfl (lv_at hl 2 rfl) ?_
                  refine va_iald hx hb hK hP 0 0 rfl rfl (zf_in (by decide) (by decide)) dX8_item_46 ?_
                  refine lv_topi (fun x_735 ex_735 => ?_)
                  obtain rfl : x_735 = 2 := ex_735.trans ((congrArg gnu (show (8 : Int32).toNatClampNeg = 8 from by decide)).trans ((hnu 8 (by decide)).trans (by decide)))
                  refine lv_icmp_ge (tgt := 149) hx hb dX8_item_47 (by decide) (fun c_736 => ?_) (fun c_736 => ?_)
                  · exact absurd c_736 (by decide)
                  · refine lv_iload_n hx hb dX8_item_50 rfl (lv_at hl 0 rfl) ?_
                    refine lv_if_le (tgt := 104) hx hb dX8_item_51 (by decide) (fun c_737 => ?_) (fun c_737 => ?_)
                    · exact absurd c_737 (by decide)
                    · refine lv_aload_n hx hb dX8_item_54 rfl (lv_at hl 3 rfl) ?_
                      refine va_get (D := D) (ci := 8) (v := .int q_725) (C := RX8) (T := TX8) (N := 38) hx hb hts hi_X8_item_8 hown hK hP 9 rfl rfl 27 (by decide) (hts (.fieldLink RX8 152 "TheLiningsInItModel" "place" "I") (List.mem_of_getElem? (i := 2) rfl)) (fun _ h9 => h9) rfl dX8_item_55 ?_
                      refine lv_aload_n hx hb dX8_item_58 rfl (lv_at hl 3 rfl) ?_
                      refine va_get (D := D) (ci := 8) (v := .int nen) (C := RX8) (T := TX8) (N := 38) hx hb hts hi_X8_item_8 hown hK hP 9 rfl rfl 28 (by decide) (hts (.fieldLink RX8 155 "TheLiningsInItModel" "end" "I") (List.mem_of_getElem? (i := 4) rfl)) (fun _ h9 => h9) rfl dX8_item_59 ?_
                      refine lv_icmp_ge (tgt := 85) hx hb dX8_item_62 (by decide) (fun c_738 => ?_) (fun c_738 => ?_)
                      · have fc_738 : nen.toInt ≤ q_725.toInt := zf_le c_738 rfl rfl
                        have hn1 : zN1 (zMF gce nba.toInt) nen.toInt (q_725 : Int32).toInt (zLo 8 1) (zHi 8 1 nte.toInt) = ((q_725 : Int32).toInt, (q_725 : Int32).toInt, 0) := zN1_no (by first | (intro z; have z1 := z.1; omega))
                        refine lv_aload_n hx hb dX8_item_85 rfl (lv_at hl 3 rfl) ?_
                        refine lv_aload_n hx hb dX8_item_86 rfl (lv_at hl 3 rfl) ?_
                        refine va_get (D := D) (ci := 8) (v := .int q_725) (C := RX8) (T := TX8) (N := 38) hx hb hts hi_X8_item_8 hown hK hP 9 rfl rfl 27 (by decide) (hts (.fieldLink RX8 152 "TheLiningsInItModel" "place" "I") (List.mem_of_getElem? (i := 2) rfl)) (fun _ h9 => h9) rfl dX8_item_87 ?_
                        skip
                        refine zw_V (As := [.int q_725]) (rest := []) (wr := [(mnu, .inl (cI, 10, .inl gnu)), (mki, .inl (cI, 8, .inl gki)), (mpa, .inl (cI, 8, .inl gpa)), (mta, .inl (cI, 8, .inl gta)), (mla, .inl (cI, 40, .inl gla)), (msl, .inl (cI, 40, .inl gsl)), (mco, .inl (cI, 3, .inl gco)), (mte, .inl (cI, 3, .inl (upd gte (0 : Int32).toNatClampNeg q_726))), (mwo, .inl (cI, 64, .inl gwo)), (mce, .inl (cJ, 1280, .inr (.inl gce)))]) ⟨hx, hb, hml, hown, hts⟩ (c_F_M_wrong l D cI cJ cZ cP cS po m0 mrf mki mpa mta mla msl mco mhe mso msi msh mce mca mwo mnu mte mwa mke mma mth mtr (npu) (nte) (nat_) (nde) (nto) (nse) (nhu) (nga) (nsd) (nfa) (nba) (q_725) (nen) (q_726) (q_727) (nra) (nik) (q_725) hy0 hy1 hy2 hy3 hy4 hy5 hy6 hy7 hy8 hy9 hy10 hy11 hy12 hy13 H.size) (cwV 1 hts gX8_item_X8_wrong rfl rfl rfl ⟨rfl, dh_X8_wrong⟩ ⟨Nat.le_of_ble_eq_true rfl, Nat.le_of_ble_eq_true rfl⟩) hK hN (hZ.kept hS) hP hD hS hA [9] [0, 1, 2, 3, 4, 5, 6, 7, 8, 10] rfl rfl (by decide) (by decide) (by decide) (va_recv (q := (RX8, TX8, 38)) hK hP (ci := 8) (q0 := 9) rfl rfl) rfl hl.1 rfl (Nat.le_of_ble_eq_true rfl) dX8_item_90 ⟨Nat.le_of_ble_eq_true rfl, Nat.le_of_ble_eq_true rfl⟩ (fun r_739 u_740 H locs hr_739 hP hD hS => ?_)
                        obtain ⟨q_741, rfl⟩ : ∃ z, z = u_740 := ⟨_, rfl⟩
                        obtain ⟨hsr_739_0, hr_739⟩ := hr_739
                        have h9R := zRe (ws' := [(mnu, .inl (cI, 10, .inl gnu)), (mki, .inl (cI, 8, .inl gki)), (mpa, .inl (cI, 8, .inl gpa)), (mta, .inl (cI, 8, .inl gta)), (mla, .inl (cI, 40, .inl gla)), (msl, .inl (cI, 40, .inl gsl)), (mco, .inl (cI, 3, .inl gco)), (mte, .inl (cI, 3, .inl (upd gte (0 : Int32).toNatClampNeg q_726))), (mwo, .inl (cI, 64, .inl gwo)), (mce, .inl (cJ, 1280, .inr (.inl gce))), (zMO m0 npu nte nat_ nde nto nse nhu nga nsd nfa mrf mki mpa mta mla msl mco mhe mso msi msh mce mca mwo mnu mte nba q_725 nen q_726 q_741 mwa mke mma mth mtr nra nik)]) hP hD rfl
                        clear hP hD
                        obtain ⟨hP, hD⟩ := h9R
                        obtain rfl := hr_739
                        have hI := zIn_b hn0 (by decide) hn1 (by first | (right; decide) | (left; omega))
                        exact W.zret (v := 0) hx hb hr (by decide) (fun t ht hW => ⟨⟨0, (npu, nte, nat_, nde, nse, nhu, nga, gki, gpa, gta, gla, gsl, gco, (upd gte (0 : Int32).toNatClampNeg q_726), q_725, q_726, q_741), rfl, ⟨(show 0 ≤ npu.toInt ∧ npu.toInt ≤ 8 from ⟨hy0, hy1⟩), (show 4 ≤ nte.toInt ∧ nte.toInt ≤ 40 from ⟨hy2, hy3⟩), (show 0 ≤ nat_.toInt ∧ nat_.toInt ≤ 40 from ⟨hy4, hy5⟩), (show 0 ≤ nde.toInt ∧ nde.toInt ≤ 24 from ⟨hy6, hy7⟩), (show 0 ≤ nhu.toInt ∧ nhu.toInt ≤ 9 from ⟨hy8, hy9⟩), hp_gki, hp_gpa, hp_gta, hp_gla, hp_gsl, hp_gco, (show 0 ≤ q_725.toInt ∧ q_725.toInt ≤ 160 from hbq_725), (show npl.toInt ≤ q_725.toInt ∧ q_725.toInt ≤ nen.toInt from by exact ⟨by omega, by omega⟩), (show ((0 : Int32).toInt = 1 → (zItem (zMF gce nba.toInt) nen.toInt npl.toInt nte.toInt npu.toInt).1 = -1 ∧ q_725.toInt = (zItem (zMF gce nba.toInt) nen.toInt npl.toInt nte.toInt npu.toInt).2.1 ∧ nte.toInt = (zItem (zMF gce nba.toInt) nen.toInt npl.toInt nte.toInt npu.toInt).2.2.1 ∧ npu.toInt = (zItem (zMF gce nba.toInt) nen.toInt npl.toInt nte.toInt npu.toInt).2.2.2) ∧ ((0 : Int32).toInt = 0 → (zItem (zMF gce nba.toInt) nen.toInt npl.toInt nte.toInt npu.toInt).1 = q_741.toInt ∧ 0 ≤ q_741.toInt) from by (have k9 : (0 : Int32).toInt = 0 := (by decide); rw [zItem_w hW1 (by decide) hp8 rfl hI]; dsimp only; exact ⟨fun h => absurd h (by decide), fun _ => ⟨by first | rfl | (show _ = _; omega), by omega⟩⟩)), ⟨by decide, by decide⟩⟩, zRet ht hP hD [10, 8, 0, 9, 1, 2, 3, 4, 5, 6, 7] (by decide) rfl⟩, hS.F ht⟩) hS.2.2 dX8_item_93
                      · have fc_738 : q_725.toInt < nen.toInt := zf_nle c_738 rfl rfl
                        refine lv_aload_n hx hb dX8_item_65 rfl (lv_at hl 3 rfl) ?_
                        refine va_get (D := D) (ci := 8) (v := .ref mce) (C := RX8) (T := TX8) (N := 38) hx hb hts hi_X8_item_8 hown hK hP 9 rfl rfl 21 (by decide) (hts (.fieldLink RX8 59 "TheLiningsInItModel" "cells" "[J") (List.mem_of_getElem? (i := 5) rfl)) (fun _ h9 => h9) rfl dX8_item_66 ?_
                        refine lv_aload_n hx hb dX8_item_69 rfl (lv_at hl 3 rfl) ?_
                        refine va_get (D := D) (ci := 8) (v := .int nba) (C := RX8) (T := TX8) (N := 38) hx hb hts hi_X8_item_8 hown hK hP 9 rfl rfl 26 (by decide) (hts (.fieldLink RX8 158 "TheLiningsInItModel" "base" "I") (List.mem_of_getElem? (i := 6) rfl)) (fun _ h9 => h9) rfl dX8_item_70 ?_
                        refine lv_aload_n hx hb dX8_item_73 rfl (lv_at hl 3 rfl) ?_
                        refine va_get (D := D) (ci := 8) (v := .int q_725) (C := RX8) (T := TX8) (N := 38) hx hb hts hi_X8_item_8 hown hK hP 9 rfl rfl 27 (by decide) (hts (.fieldLink RX8 152 "TheLiningsInItModel" "place" "I") (List.mem_of_getElem? (i := 2) rfl)) (fun _ h9 => h9) rfl dX8_item_74 ?_
                        refine lv_iadd hx hb dX8_item_77 ?_
                        refine lv_topi (fun x_742 ex_742 => ?_)
                        have qx_742 : x_742.toInt = nba.toInt + q_725.toInt := by rw [ex_742]; exact zf_add rfl rfl (by omega) (by omega)
                        refine va_lald hx hb hK hP 10 1 rfl rfl (zf_in (by omega) (by omega)) dX8_item_78 ?_
                        refine lv_topl (fun x_743 ex_743 => ?_)
                        refine lv_l2i hx hb dX8_item_79 rfl ?_
                        refine lv_topi (fun x_744 ex_744 => ?_)
                        have hcx_744 : x_744 = zChX gce (nba.toInt + q_725.toInt).toNat := by rw [ex_744, ex_743]; unfold zChX; congr 2; (show x_742.toInt.toNat = _; omega)
                        have hdx_744 : x_744.toInt = (zChX gce (nba.toInt + q_725.toInt).toNat).toInt := by rw [hcx_744]
                        refine lv_bipush (v := 32) hx hb dX8_item_80 (by decide) ?_
                        refine lv_icmp_eq (tgt := 94) hx hb dX8_item_82 (by decide) (fun c_745 => ?_) (fun c_745 => ?_)
                        · have fc_745 : x_744.toInt = 32 := zf_eq c_745 rfl (by decide)
                          refine lv_aload_n hx hb dX8_item_94 rfl (lv_at hl 3 rfl) ?_
                          refine lv_dup hx hb dX8_item_95 rfl ?_
                          refine va_get (D := D) (ci := 8) (v := .int q_725) (C := RX8) (T := TX8) (N := 38) hx hb hts hi_X8_item_8 hown hK hP 9 rfl rfl 27 (by decide) (hts (.fieldLink RX8 152 "TheLiningsInItModel" "place" "I") (List.mem_of_getElem? (i := 2) rfl)) (fun _ h9 => h9) rfl dX8_item_96 ?_
                          refine lv_iconst (v := 1) hx hb dX8_item_99 (by decide) ?_
                          refine lv_iadd hx hb dX8_item_100 ?_
                          refine lv_topi (fun x_746 ex_746 => ?_)
                          have qx_746 : x_746.toInt = q_725.toInt + 1 := dw_inc ex_746 fc_738
                          refine va_put (D := D) (ci := 8) (v := .int x_746) (ty := .int) (C := RX8) (T := TX8) (N := 38) hx hb hts hi_X8_item_8 tyX8 tyX8_ok nmX8 hown hK hP hD hS 9 rfl rfl 27 (by decide) (hts (.fieldLink RX8 152 "TheLiningsInItModel" "place" "I") (List.mem_of_getElem? (i := 2) rfl)) (fun _ h9 => h9) rfl (tyX8_ok 27 (Nat.le_of_ble_eq_true rfl)) rfl rfl (Nat.le_of_ble_eq_true rfl) dX8_item_101 (fun H locs hP hD hS => ?_)
                          have h9R := zRe (ws' := [(mnu, .inl (cI, 10, .inl gnu)), (mki, .inl (cI, 8, .inl gki)), (mpa, .inl (cI, 8, .inl gpa)), (mta, .inl (cI, 8, .inl gta)), (mla, .inl (cI, 40, .inl gla)), (msl, .inl (cI, 40, .inl gsl)), (mco, .inl (cI, 3, .inl gco)), (mte, .inl (cI, 3, .inl (upd gte (0 : Int32).toNatClampNeg q_726))), (mwo, .inl (cI, 64, .inl gwo)), (zMO m0 npu nte nat_ nde nto nse nhu nga nsd nfa mrf mki mpa mta mla msl mco mhe mso msi msh mce mca mwo mnu mte nba x_746 nen q_726 q_727 mwa mke mma mth mtr nra nik), (mce, .inl (cJ, 1280, .inr (.inl gce)))]) hP hD rfl
                          clear hP hD
                          obtain ⟨hP, hD⟩ := h9R
                          refine lv_aload_n hx hb dX8_item_104 rfl (lv_at hl 3 rfl) ?_
                          refine va_get (D := D) (ci := 8) (v := .int x_746) (C := RX8) (T := TX8) (N := 38) hx hb hts hi_X8_item_8 hown hK hP 9 rfl rfl 27 (by decide) (hts (.fieldLink RX8 152 "TheLiningsInItModel" "place" "I") (List.mem_of_getElem? (i := 2) rfl)) (fun _ h9 => h9) rfl dX8_item_105 ?_
                          refine lv_istore_n (lv' := [(3, .int x_746), (2, .int 1), (1, .int 8), (0, .ref m0)]) hx hb dX8_item_108 rfl hl (by decide) rfl (fun ls hl => ?_)
                          refine lv_aload_n hx hb dX8_item_109 rfl (lv_at hl 3 rfl) ?_
                          skip
                          refine zw_V (As := []) (rest := []) (wr := [(mnu, .inl (cI, 10, .inl gnu)), (mki, .inl (cI, 8, .inl gki)), (mpa, .inl (cI, 8, .inl gpa)), (mta, .inl (cI, 8, .inl gta)), (mla, .inl (cI, 40, .inl gla)), (msl, .inl (cI, 40, .inl gsl)), (mco, .inl (cI, 3, .inl gco)), (mte, .inl (cI, 3, .inl (upd gte (0 : Int32).toNatClampNeg q_726))), (mwo, .inl (cI, 64, .inl gwo))]) ⟨hx, hb, hml, hown, hts⟩ (c_F_M_reads l D cI cJ cZ cP cS po m0 mrf mki mpa mta mla msl mco mhe mso msi msh mce mca mwo mnu mte mwa mke mma mth mtr (npu) (nte) (nat_) (nde) (nto) (nse) (nhu) (nga) (nsd) (nfa) (nba) (x_746) (nen) (q_726) (q_727) (nra) (nik) gce hy0 hy1 hy2 hy3 hy4 hy5 hy6 hy7 hy8 hy9 hy10 hy11 hy12 hy13 hy14 hy15 (by omega) (by omega) hy18 hy19 (by omega) H.size) (cwV 0 hts gX8_item_X8_reads rfl rfl rfl ⟨rfl, dh_X8_reads⟩ ⟨Nat.le_of_ble_eq_true rfl, Nat.le_of_ble_eq_true rfl⟩) hK hN (hZ.kept hS) hP hD hS hA [9, 10] [0, 1, 2, 3, 4, 5, 6, 7, 8] rfl rfl (by decide) (by decide) (by decide) (va_recv (q := (RX8, TX8, 38)) hK hP (ci := 8) (q0 := 9) rfl rfl) rfl hl.1 rfl (Nat.le_of_ble_eq_true rfl) dX8_item_110 ⟨Nat.le_of_ble_eq_true rfl, Nat.le_of_ble_eq_true rfl⟩ (fun r_747 u_748 H locs hr_747 hP hD hS => ?_)
                          obtain ⟨q_749, q_750, q_751⟩ := u_748
                          try dsimp only at hr_747
                          obtain ⟨hbq_749, hsr_747_0, hsr_747_1, hsr_747_2, hr_747⟩ := hr_747
                          have h9R := zRe (ws' := [(mnu, .inl (cI, 10, .inl gnu)), (mki, .inl (cI, 8, .inl gki)), (mpa, .inl (cI, 8, .inl gpa)), (mta, .inl (cI, 8, .inl gta)), (mla, .inl (cI, 40, .inl gla)), (msl, .inl (cI, 40, .inl gsl)), (mco, .inl (cI, 3, .inl gco)), (mte, .inl (cI, 3, .inl (upd gte (0 : Int32).toNatClampNeg q_726))), (mwo, .inl (cI, 64, .inl gwo)), (zMO m0 npu nte nat_ nde nto nse nhu nga nsd nfa mrf mki mpa mta mla msl mco mhe mso msi msh mce mca mwo mnu mte nba q_749 nen q_750 q_751 mwa mke mma mth mtr nra nik), (mce, .inl (cJ, 1280, .inr (.inl gce)))]) hP hD rfl
                          clear hP hD
                          obtain ⟨hP, hD⟩ := h9R
                          obtain ⟨g_752, g_753⟩ := hr_747
                          refine lv_if_ne (tgt := 118) hx hb dX8_item_113 (by decide) (fun c_754 => ?_) (fun c_754 => ?_)
                          · have fc_754 : r_747.toInt ≠ 0 := zf_ne c_754 rfl (by decide)
                            refine lv_aload_n hx hb dX8_item_118 rfl (lv_at hl 3 rfl) ?_
                            refine lv_iload_n hx hb dX8_item_119 rfl (lv_at hl 2 rfl) ?_
                            refine lv_iload_n hx hb dX8_item_120 rfl (lv_at hl 1 rfl) ?_
                            refine zc_V (As := [.int 8, .int 1]) (rest := []) ⟨hx, hb, hml, hown, hts⟩ (c_F_M_isSo_8_1 l D cI cJ cZ cP cS po m0 mrf mki mpa mta mla msl mco mhe mso msi msh mce mca mwo mnu mte mwa mke mma mth mtr (npu) (nte) (nat_) (nde) (nto) (nse) (nhu) (nga) (nsd) (nfa) (nba) (q_749) (nen) (q_750) (q_751) (nra) (nik) hy0 hy1 hy2 hy3 hy4 hy5 hy6 hy7 hy8 hy9 hy10 hy11 hy12 hy13 (by omega) (by omega)) (cwV 2 hts gX8_item_X8_isSo rfl rfl rfl ⟨rfl, dh_X8_isSo⟩ ⟨Nat.le_of_ble_eq_true rfl, Nat.le_of_ble_eq_true rfl⟩) hK hN (hZ.kept hS) hP (hP.sub [9] rfl) (va_recv (q := (RX8, TX8, 38)) hK hP (ci := 8) (q0 := 9) rfl rfl) rfl hl.1 rfl (Nat.le_of_ble_eq_true rfl) dX8_item_121 ⟨Nat.le_of_ble_eq_true rfl, Nat.le_of_ble_eq_true rfl⟩ (fun r_755 hr_755 => ?_)
                            obtain ⟨g_756, g_757, hsr_755_0⟩ := hr_755
                            refine lv_if_ne (tgt := 133) hx hb dX8_item_124 (by decide) (fun c_758 => ?_) (fun c_758 => ?_)
                            · have fc_758 : r_755.toInt ≠ 0 := zf_ne c_758 rfl (by decide)
                              obtain ⟨hy1_1, hy2_1, hy3_1⟩ := hsr_747_2.1 (by omega)
                              have hn1 : zN1 (zMF gce nba.toInt) nen.toInt (q_725 : Int32).toInt (zLo 8 1) (zHi 8 1 nte.toInt) = (-1, (q_749 : Int32).toInt, (q_750 : Int32).toInt) := zN1_yes (p1 := (x_746 : Int32).toInt) (lo2 := 0) (hi2 := (99 : Int)) ⟨by omega, by (rw [zMF_at (by omega), ← hdx_744]; omega)⟩ (by omega) hy1_1 hy2_1 (by decide) (by first | rfl | decide | (show nte.toInt - 1 = _; omega) | (show nte.toInt = _; omega)) (by omega)
                              refine lv_aload_n hx hb dX8_item_133 rfl (lv_at hl 3 rfl) ?_
                              refine va_get (D := D) (ci := 8) (v := .ref mte) (C := RX8) (T := TX8) (N := 38) hx hb hts hi_X8_item_8 hown hK hP 9 rfl rfl 25 (by decide) (hts (.fieldLink RX8 72 "TheLiningsInItModel" "tell" "[I") (List.mem_of_getElem? (i := 7) rfl)) (fun _ h9 => h9) rfl dX8_item_134 ?_
                              refine lv_iload_n hx hb dX8_item_137 rfl (lv_at hl 1 rfl) ?_
                              refine lv_aload_n hx hb dX8_item_138 rfl (lv_at hl 3 rfl) ?_
                              refine va_get (D := D) (ci := 8) (v := .int q_750) (C := RX8) (T := TX8) (N := 38) hx hb hts hi_X8_item_8 hown hK hP 9 rfl rfl 29 (by decide) (hts (.fieldLink RX8 161 "TheLiningsInItModel" "number" "I") (List.mem_of_getElem? (i := 8) rfl)) (fun _ h9 => h9) rfl dX8_item_139 ?_
                              refine va_iast hx hb hK hP hD hS 7 0 rfl rfl (zf_in (by decide) (by decide)) dX8_item_142 (fun H locs hP hD hS => ?_)
                              have h9R := zRe (ws' := [(mnu, .inl (cI, 10, .inl gnu)), (mki, .inl (cI, 8, .inl gki)), (mpa, .inl (cI, 8, .inl gpa)), (mta, .inl (cI, 8, .inl gta)), (mla, .inl (cI, 40, .inl gla)), (msl, .inl (cI, 40, .inl gsl)), (mco, .inl (cI, 3, .inl gco)), (mte, .inl (cI, 3, .inl (upd (upd gte (0 : Int32).toNatClampNeg q_726) (1 : Int32).toNatClampNeg q_750))), (mwo, .inl (cI, 64, .inl gwo)), (zMO m0 npu nte nat_ nde nto nse nhu nga nsd nfa mrf mki mpa mta mla msl mco mhe mso msi msh mce mca mwo mnu mte nba q_749 nen q_750 q_751 mwa mke mma mth mtr nra nik), (mce, .inl (cJ, 1280, .inr (.inl gce)))]) hP hD rfl
                              clear hP hD
                              obtain ⟨hP, hD⟩ := h9R
                              refine lv_iinc (v := 2) (lv' := [(2, .int 2), (3, .int x_746), (1, .int 8), (0, .ref m0)]) hx hb dX8_item_143 hl (k := 1) rfl (by decide) (by decide) rfl (fun ls hl => ?_)
                              refine lv_goto (tgt := 40) hx hb dX8_item_146 (by decide) ?_
                              refine lv_iload_n hx hb dX8_item_40 rfl (lv_at hl 0 rfl) ?_
                              refine lv_aload_n hx hb dX8_item_41 rfl (lv_at hl 3 rfl) ?_
                              refine va_get (D := D) (ci := 8) (v := .ref mnu) (C := RX8) (T := TX8) (N := 38) hx hb hts hi_X8_item_8 hown hK hP 9 rfl rfl 24 (by decide) (hts (.fieldLink RX8 69 "TheLiningsInItModel" "numbers" "[I") (List.mem_of_getElem? (i := 3) rfl)) (fun _ h9 => h9) rfl dX8_item_42 ?_
                              refine lv_iload_n hx hb dX8_item_45 rfl (lv_at hl 2 rfl) ?_
                              refine va_iald hx hb hK hP 0 0 rfl rfl (zf_in (by decide) (by decide)) dX8_item_46 ?_
                              refine lv_topi (fun x_759 ex_759 => ?_)
                              obtain rfl : x_759 = 2 := ex_759.trans ((congrArg gnu (show (8 : Int32).toNatClampNeg = 8 from by decide)).trans ((hnu 8 (by decide)).trans (by decide)))
                              refine lv_icmp_ge (tgt := 149) hx hb dX8_item_47 (by decide) (fun c_760 => ?_) (fun c_760 => ?_)
                              · refine lv_iload_n hx hb dX8_item_149 rfl (lv_at hl 2 rfl) ?_
                                refine lv_tableIn (tgt := 278) hx hb dX8_item_150 (by decide) (by decide) rfl (by decide) ?_
                                refine lv_aload_n hx hb dX8_item_278 rfl (lv_at hl 3 rfl) ?_
                                refine va_get (D := D) (ci := 8) (v := .ref mco) (C := RX8) (T := TX8) (N := 38) hx hb hts hi_X8_item_8 hown hK hP 9 rfl rfl 16 (by decide) (hts (.fieldLink RX8 44 "TheLiningsInItModel" "cost" "[I") (List.mem_of_getElem? (i := 11) rfl)) (fun _ h9 => h9) rfl dX8_item_279 ?_
                                refine lv_aload_n hx hb dX8_item_282 rfl (lv_at hl 3 rfl) ?_
                                refine va_get (D := D) (ci := 8) (v := .ref mte) (C := RX8) (T := TX8) (N := 38) hx hb hts hi_X8_item_8 hown hK hP 9 rfl rfl 25 (by decide) (hts (.fieldLink RX8 72 "TheLiningsInItModel" "tell" "[I") (List.mem_of_getElem? (i := 7) rfl)) (fun _ h9 => h9) rfl dX8_item_283 ?_
                                refine lv_iconst (v := 0) hx hb dX8_item_286 (by decide) ?_
                                refine va_iald hx hb hK hP 7 0 rfl rfl (zf_in (by decide) (by decide)) dX8_item_287 ?_
                                refine lv_topi (fun x_761 ex_761 => ?_)
                                obtain rfl : q_726 = x_761 := (ex_761.trans ((if_neg (by decide)).trans (if_pos rfl))).symm
                                refine lv_aload_n hx hb dX8_item_288 rfl (lv_at hl 3 rfl) ?_
                                refine va_get (D := D) (ci := 8) (v := .ref mte) (C := RX8) (T := TX8) (N := 38) hx hb hts hi_X8_item_8 hown hK hP 9 rfl rfl 25 (by decide) (hts (.fieldLink RX8 72 "TheLiningsInItModel" "tell" "[I") (List.mem_of_getElem? (i := 7) rfl)) (fun _ h9 => h9) rfl dX8_item_289 ?_
                                refine lv_iconst (v := 1) hx hb dX8_item_292 (by decide) ?_
                                refine va_iald hx hb hK hP 7 0 rfl rfl (zf_in (by decide) (by decide)) dX8_item_293 ?_
                                refine lv_topi (fun x_762 ex_762 => ?_)
                                obtain rfl : q_750 = x_762 := (ex_762.trans (if_pos rfl)).symm
                                refine va_iast hx hb hK hP hD hS 6 0 rfl rfl (zf_in (by omega) (by omega)) dX8_item_294 (fun H locs hP hD hS => ?_)
                                have hpg_763 : zRg (upd gco q_726.toNatClampNeg q_750) (0) 99 := zRg_upd hp_gco (by omega) (by omega)
                                obtain ⟨g_763, hg_763⟩ : ∃ g : Nat → Int32, g = upd gco q_726.toNatClampNeg q_750 := ⟨_, rfl⟩
                                rw [← hg_763] at hP hD hpg_763
                                clear hg_763
                                have h9R := zRe (ws' := [(mnu, .inl (cI, 10, .inl gnu)), (mki, .inl (cI, 8, .inl gki)), (mpa, .inl (cI, 8, .inl gpa)), (mta, .inl (cI, 8, .inl gta)), (mla, .inl (cI, 40, .inl gla)), (msl, .inl (cI, 40, .inl gsl)), (mco, .inl (cI, 3, .inl g_763)), (mte, .inl (cI, 3, .inl (upd (upd gte (0 : Int32).toNatClampNeg q_726) (1 : Int32).toNatClampNeg q_750))), (mwo, .inl (cI, 64, .inl gwo)), (zMO m0 npu nte nat_ nde nto nse nhu nga nsd nfa mrf mki mpa mta mla msl mco mhe mso msi msh mce mca mwo mnu mte nba q_749 nen q_750 q_751 mwa mke mma mth mtr nra nik), (mce, .inl (cJ, 1280, .inr (.inl gce)))]) hP hD rfl
                                clear hP hD
                                obtain ⟨hP, hD⟩ := h9R
                                refine lv_goto (tgt := 324) hx hb dX8_item_295 (by decide) ?_
                                refine lv_iconst (v := 1) hx hb dX8_item_324 (by decide) ?_
                                have hI := zIn_b hn0 (by decide) hn1 (by first | (right; decide) | (left; omega))
                                exact W.zret (v := 1) hx hb hr (by decide) (fun t ht hW => ⟨⟨1, (npu, nte, nat_, nde, nse, nhu, nga, gki, gpa, gta, gla, gsl, g_763, (upd (upd gte (0 : Int32).toNatClampNeg q_726) (1 : Int32).toNatClampNeg q_750), q_749, q_750, q_751), rfl, ⟨(show 0 ≤ npu.toInt ∧ npu.toInt ≤ 8 from ⟨hy0, hy1⟩), (show 4 ≤ nte.toInt ∧ nte.toInt ≤ 40 from ⟨hy2, hy3⟩), (show 0 ≤ nat_.toInt ∧ nat_.toInt ≤ 40 from ⟨hy4, hy5⟩), (show 0 ≤ nde.toInt ∧ nde.toInt ≤ 24 from ⟨hy6, hy7⟩), (show 0 ≤ nhu.toInt ∧ nhu.toInt ≤ 9 from ⟨hy8, hy9⟩), hp_gki, hp_gpa, hp_gta, hp_gla, hp_gsl, hpg_763, (show 0 ≤ q_749.toInt ∧ q_749.toInt ≤ 160 from hbq_749), (show npl.toInt ≤ q_749.toInt ∧ q_749.toInt ≤ nen.toInt from by exact ⟨by omega, by omega⟩), (show ((1 : Int32).toInt = 1 → (zItem (zMF gce nba.toInt) nen.toInt npl.toInt nte.toInt npu.toInt).1 = -1 ∧ q_749.toInt = (zItem (zMF gce nba.toInt) nen.toInt npl.toInt nte.toInt npu.toInt).2.1 ∧ nte.toInt = (zItem (zMF gce nba.toInt) nen.toInt npl.toInt nte.toInt npu.toInt).2.2.1 ∧ npu.toInt = (zItem (zMF gce nba.toInt) nen.toInt npl.toInt nte.toInt npu.toInt).2.2.2) ∧ ((1 : Int32).toInt = 0 → (zItem (zMF gce nba.toInt) nen.toInt npl.toInt nte.toInt npu.toInt).1 = q_751.toInt ∧ 0 ≤ q_751.toInt) from by (have k9 : (1 : Int32).toInt = 1 := (by decide); rw [zItem_w hW1 (by decide) hp8 rfl hI]; dsimp only; exact ⟨fun _ => ⟨rfl, by first | rfl | omega, by (show _ = (if (8 : Int) = 0 then _ else _); rw [if_neg (by decide)]), by (show _ = (if (8 : Int) = 3 then _ else _); rw [if_neg (by decide)])⟩, fun h => absurd h (by decide)⟩)), ⟨by decide, by decide⟩⟩, zRet ht hP hD [9, 8, 0, 10, 1, 2, 3, 4, 5, 6, 7] (by decide) rfl⟩, hS.F ht⟩) hS.2.2 dX8_item_325
                              · exact absurd c_760 (by decide)
                            · have fc_758 : r_755.toInt = 0 := zf_eq c_758 rfl (by decide)
                              obtain ⟨hy1_1, hy2_1, hy3_1⟩ := hsr_747_2.1 (by omega)
                              have hn1 : zN1 (zMF gce nba.toInt) nen.toInt (q_725 : Int32).toInt (zLo 8 1) (zHi 8 1 nte.toInt) = ((x_746 : Int32).toInt, (q_749 : Int32).toInt, (q_750 : Int32).toInt) := zN1_yes (p1 := (x_746 : Int32).toInt) (lo2 := 0) (hi2 := (99 : Int)) ⟨by omega, by (rw [zMF_at (by omega), ← hdx_744]; omega)⟩ (by omega) hy1_1 hy2_1 (by decide) (by first | rfl | decide | (show nte.toInt - 1 = _; omega) | (show nte.toInt = _; omega)) (by omega)
                              refine lv_aload_n hx hb dX8_item_127 rfl (lv_at hl 3 rfl) ?_
                              refine lv_iload_n hx hb dX8_item_128 rfl (lv_at hl 0 rfl) ?_
                              skip
                              refine zw_V (As := [.int x_746]) (rest := []) (wr := [(mnu, .inl (cI, 10, .inl gnu)), (mki, .inl (cI, 8, .inl gki)), (mpa, .inl (cI, 8, .inl gpa)), (mta, .inl (cI, 8, .inl gta)), (mla, .inl (cI, 40, .inl gla)), (msl, .inl (cI, 40, .inl gsl)), (mco, .inl (cI, 3, .inl gco)), (mte, .inl (cI, 3, .inl (upd gte (0 : Int32).toNatClampNeg q_726))), (mwo, .inl (cI, 64, .inl gwo)), (mce, .inl (cJ, 1280, .inr (.inl gce)))]) ⟨hx, hb, hml, hown, hts⟩ (c_F_M_wrong l D cI cJ cZ cP cS po m0 mrf mki mpa mta mla msl mco mhe mso msi msh mce mca mwo mnu mte mwa mke mma mth mtr (npu) (nte) (nat_) (nde) (nto) (nse) (nhu) (nga) (nsd) (nfa) (nba) (q_749) (nen) (q_750) (q_751) (nra) (nik) (x_746) hy0 hy1 hy2 hy3 hy4 hy5 hy6 hy7 hy8 hy9 hy10 hy11 hy12 hy13 H.size) (cwV 1 hts gX8_item_X8_wrong rfl rfl rfl ⟨rfl, dh_X8_wrong⟩ ⟨Nat.le_of_ble_eq_true rfl, Nat.le_of_ble_eq_true rfl⟩) hK hN (hZ.kept hS) hP hD hS hA [9] [0, 1, 2, 3, 4, 5, 6, 7, 8, 10] rfl rfl (by decide) (by decide) (by decide) (va_recv (q := (RX8, TX8, 38)) hK hP (ci := 8) (q0 := 9) rfl rfl) rfl hl.1 rfl (Nat.le_of_ble_eq_true rfl) dX8_item_129 ⟨Nat.le_of_ble_eq_true rfl, Nat.le_of_ble_eq_true rfl⟩ (fun r_764 u_765 H locs hr_764 hP hD hS => ?_)
                              obtain ⟨q_766, rfl⟩ : ∃ z, z = u_765 := ⟨_, rfl⟩
                              obtain ⟨hsr_764_0, hr_764⟩ := hr_764
                              have h9R := zRe (ws' := [(mnu, .inl (cI, 10, .inl gnu)), (mki, .inl (cI, 8, .inl gki)), (mpa, .inl (cI, 8, .inl gpa)), (mta, .inl (cI, 8, .inl gta)), (mla, .inl (cI, 40, .inl gla)), (msl, .inl (cI, 40, .inl gsl)), (mco, .inl (cI, 3, .inl gco)), (mte, .inl (cI, 3, .inl (upd gte (0 : Int32).toNatClampNeg q_726))), (mwo, .inl (cI, 64, .inl gwo)), (mce, .inl (cJ, 1280, .inr (.inl gce))), (zMO m0 npu nte nat_ nde nto nse nhu nga nsd nfa mrf mki mpa mta mla msl mco mhe mso msi msh mce mca mwo mnu mte nba q_749 nen q_750 q_766 mwa mke mma mth mtr nra nik)]) hP hD rfl
                              clear hP hD
                              obtain ⟨hP, hD⟩ := h9R
                              obtain rfl := hr_764
                              have hI := zIn_b hn0 (by decide) hn1 (by first | (right; decide) | (left; omega))
                              exact W.zret (v := 0) hx hb hr (by decide) (fun t ht hW => ⟨⟨0, (npu, nte, nat_, nde, nse, nhu, nga, gki, gpa, gta, gla, gsl, gco, (upd gte (0 : Int32).toNatClampNeg q_726), q_749, q_750, q_766), rfl, ⟨(show 0 ≤ npu.toInt ∧ npu.toInt ≤ 8 from ⟨hy0, hy1⟩), (show 4 ≤ nte.toInt ∧ nte.toInt ≤ 40 from ⟨hy2, hy3⟩), (show 0 ≤ nat_.toInt ∧ nat_.toInt ≤ 40 from ⟨hy4, hy5⟩), (show 0 ≤ nde.toInt ∧ nde.toInt ≤ 24 from ⟨hy6, hy7⟩), (show 0 ≤ nhu.toInt ∧ nhu.toInt ≤ 9 from ⟨hy8, hy9⟩), hp_gki, hp_gpa, hp_gta, hp_gla, hp_gsl, hp_gco, (show 0 ≤ q_749.toInt ∧ q_749.toInt ≤ 160 from hbq_749), (show npl.toInt ≤ q_749.toInt ∧ q_749.toInt ≤ nen.toInt from by exact ⟨by omega, by omega⟩), (show ((0 : Int32).toInt = 1 → (zItem (zMF gce nba.toInt) nen.toInt npl.toInt nte.toInt npu.toInt).1 = -1 ∧ q_749.toInt = (zItem (zMF gce nba.toInt) nen.toInt npl.toInt nte.toInt npu.toInt).2.1 ∧ nte.toInt = (zItem (zMF gce nba.toInt) nen.toInt npl.toInt nte.toInt npu.toInt).2.2.1 ∧ npu.toInt = (zItem (zMF gce nba.toInt) nen.toInt npl.toInt nte.toInt npu.toInt).2.2.2) ∧ ((0 : Int32).toInt = 0 → (zItem (zMF gce nba.toInt) nen.toInt npl.toInt nte.toInt npu.toInt).1 = q_766.toInt ∧ 0 ≤ q_766.toInt) from by (have k9 : (0 : Int32).toInt = 0 := (by decide); rw [zItem_w hW1 (by decide) hp8 rfl hI]; dsimp only; exact ⟨fun h => absurd h (by decide), fun _ => ⟨by first | rfl | (show _ = _; omega), by omega⟩⟩)), ⟨by decide, by decide⟩⟩, zRet ht hP hD [10, 8, 0, 9, 1, 2, 3, 4, 5, 6, 7] (by decide) rfl⟩, hS.F ht⟩) hS.2.2 dX8_item_132
                          · have fc_754 : r_747.toInt = 0 := zf_eq c_754 rfl (by decide)
                            have hn1 : zN1 (zMF gce nba.toInt) nen.toInt (q_725 : Int32).toInt (zLo 8 1) (zHi 8 1 nte.toInt) = ((x_746 : Int32).toInt, (x_746 : Int32).toInt, 0) := zN1_yes (p1 := (x_746 : Int32).toInt) (lo2 := 0) (hi2 := (99 : Int)) ⟨by omega, by (rw [zMF_at (by omega), ← hdx_744]; omega)⟩ (by omega) (hsr_747_2.2 (by omega)).1.symm zNv_0.symm (by decide) (by first | rfl | decide | (show nte.toInt - 1 = _; omega) | (show nte.toInt = _; omega)) (Or.inl ⟨rfl, Or.inl rfl⟩)
                            refine lv_iconst (v := 0) hx hb dX8_item_116 (by decide) ?_
                            have hI := zIn_b hn0 (by decide) hn1 (by first | (right; decide) | (left; omega))
                            exact W.zret (v := 0) hx hb hr (by decide) (fun t ht hW => ⟨⟨0, (npu, nte, nat_, nde, nse, nhu, nga, gki, gpa, gta, gla, gsl, gco, (upd gte (0 : Int32).toNatClampNeg q_726), q_749, q_750, q_751), rfl, ⟨(show 0 ≤ npu.toInt ∧ npu.toInt ≤ 8 from ⟨hy0, hy1⟩), (show 4 ≤ nte.toInt ∧ nte.toInt ≤ 40 from ⟨hy2, hy3⟩), (show 0 ≤ nat_.toInt ∧ nat_.toInt ≤ 40 from ⟨hy4, hy5⟩), (show 0 ≤ nde.toInt ∧ nde.toInt ≤ 24 from ⟨hy6, hy7⟩), (show 0 ≤ nhu.toInt ∧ nhu.toInt ≤ 9 from ⟨hy8, hy9⟩), hp_gki, hp_gpa, hp_gta, hp_gla, hp_gsl, hp_gco, (show 0 ≤ q_749.toInt ∧ q_749.toInt ≤ 160 from hbq_749), (show npl.toInt ≤ q_749.toInt ∧ q_749.toInt ≤ nen.toInt from by exact ⟨by omega, by omega⟩), (show ((0 : Int32).toInt = 1 → (zItem (zMF gce nba.toInt) nen.toInt npl.toInt nte.toInt npu.toInt).1 = -1 ∧ q_749.toInt = (zItem (zMF gce nba.toInt) nen.toInt npl.toInt nte.toInt npu.toInt).2.1 ∧ nte.toInt = (zItem (zMF gce nba.toInt) nen.toInt npl.toInt nte.toInt npu.toInt).2.2.1 ∧ npu.toInt = (zItem (zMF gce nba.toInt) nen.toInt npl.toInt nte.toInt npu.toInt).2.2.2) ∧ ((0 : Int32).toInt = 0 → (zItem (zMF gce nba.toInt) nen.toInt npl.toInt nte.toInt npu.toInt).1 = q_751.toInt ∧ 0 ≤ q_751.toInt) from by (have k9 : (0 : Int32).toInt = 0 := (by decide); rw [zItem_w hW1 (by decide) hp8 rfl hI]; dsimp only; exact ⟨fun h => absurd h (by decide), fun _ => ⟨by first | rfl | (show _ = _; omega), by omega⟩⟩)), ⟨by decide, by decide⟩⟩, zRet ht hP hD [9, 8, 0, 10, 1, 2, 3, 4, 5, 6, 7] (by decide) rfl⟩, hS.F ht⟩) hS.2.2 dX8_item_117
                        · have fc_745 : x_744.toInt ≠ 32 := zf_ne c_745 rfl (by decide)
                          have hn1 : zN1 (zMF gce nba.toInt) nen.toInt (q_725 : Int32).toInt (zLo 8 1) (zHi 8 1 nte.toInt) = ((q_725 : Int32).toInt, (q_725 : Int32).toInt, 0) := zN1_no (by first | (intro z; have z1 := z.1; omega) | (intro z; have z2 := z.2; rw [zMF_at (by omega), ← hdx_744] at z2; omega))
                          refine lv_aload_n hx hb dX8_item_85 rfl (lv_at hl 3 rfl) ?_
                          refine lv_aload_n hx hb dX8_item_86 rfl (lv_at hl 3 rfl) ?_
                          refine va_get (D := D) (ci := 8) (v := .int q_725) (C := RX8) (T := TX8) (N := 38) hx hb hts hi_X8_item_8 hown hK hP 9 rfl rfl 27 (by decide) (hts (.fieldLink RX8 152 "TheLiningsInItModel" "place" "I") (List.mem_of_getElem? (i := 2) rfl)) (fun _ h9 => h9) rfl dX8_item_87 ?_
                          skip
                          refine zw_V (As := [.int q_725]) (rest := []) (wr := [(mnu, .inl (cI, 10, .inl gnu)), (mki, .inl (cI, 8, .inl gki)), (mpa, .inl (cI, 8, .inl gpa)), (mta, .inl (cI, 8, .inl gta)), (mla, .inl (cI, 40, .inl gla)), (msl, .inl (cI, 40, .inl gsl)), (mco, .inl (cI, 3, .inl gco)), (mte, .inl (cI, 3, .inl (upd gte (0 : Int32).toNatClampNeg q_726))), (mwo, .inl (cI, 64, .inl gwo)), (mce, .inl (cJ, 1280, .inr (.inl gce)))]) ⟨hx, hb, hml, hown, hts⟩ (c_F_M_wrong l D cI cJ cZ cP cS po m0 mrf mki mpa mta mla msl mco mhe mso msi msh mce mca mwo mnu mte mwa mke mma mth mtr (npu) (nte) (nat_) (nde) (nto) (nse) (nhu) (nga) (nsd) (nfa) (nba) (q_725) (nen) (q_726) (q_727) (nra) (nik) (q_725) hy0 hy1 hy2 hy3 hy4 hy5 hy6 hy7 hy8 hy9 hy10 hy11 hy12 hy13 H.size) (cwV 1 hts gX8_item_X8_wrong rfl rfl rfl ⟨rfl, dh_X8_wrong⟩ ⟨Nat.le_of_ble_eq_true rfl, Nat.le_of_ble_eq_true rfl⟩) hK hN (hZ.kept hS) hP hD hS hA [9] [0, 1, 2, 3, 4, 5, 6, 7, 8, 10] rfl rfl (by decide) (by decide) (by decide) (va_recv (q := (RX8, TX8, 38)) hK hP (ci := 8) (q0 := 9) rfl rfl) rfl hl.1 rfl (Nat.le_of_ble_eq_true rfl) dX8_item_90 ⟨Nat.le_of_ble_eq_true rfl, Nat.le_of_ble_eq_true rfl⟩ (fun r_767 u_768 H locs hr_767 hP hD hS => ?_)
                          obtain ⟨q_769, rfl⟩ : ∃ z, z = u_768 := ⟨_, rfl⟩
                          obtain ⟨hsr_767_0, hr_767⟩ := hr_767
                          have h9R := zRe (ws' := [(mnu, .inl (cI, 10, .inl gnu)), (mki, .inl (cI, 8, .inl gki)), (mpa, .inl (cI, 8, .inl gpa)), (mta, .inl (cI, 8, .inl gta)), (mla, .inl (cI, 40, .inl gla)), (msl, .inl (cI, 40, .inl gsl)), (mco, .inl (cI, 3, .inl gco)), (mte, .inl (cI, 3, .inl (upd gte (0 : Int32).toNatClampNeg q_726))), (mwo, .inl (cI, 64, .inl gwo)), (mce, .inl (cJ, 1280, .inr (.inl gce))), (zMO m0 npu nte nat_ nde nto nse nhu nga nsd nfa mrf mki mpa mta mla msl mco mhe mso msi msh mce mca mwo mnu mte nba q_725 nen q_726 q_769 mwa mke mma mth mtr nra nik)]) hP hD rfl
                          clear hP hD
                          obtain ⟨hP, hD⟩ := h9R
                          obtain rfl := hr_767
                          have hI := zIn_b hn0 (by decide) hn1 (by first | (right; decide) | (left; omega))
                          exact W.zret (v := 0) hx hb hr (by decide) (fun t ht hW => ⟨⟨0, (npu, nte, nat_, nde, nse, nhu, nga, gki, gpa, gta, gla, gsl, gco, (upd gte (0 : Int32).toNatClampNeg q_726), q_725, q_726, q_769), rfl, ⟨(show 0 ≤ npu.toInt ∧ npu.toInt ≤ 8 from ⟨hy0, hy1⟩), (show 4 ≤ nte.toInt ∧ nte.toInt ≤ 40 from ⟨hy2, hy3⟩), (show 0 ≤ nat_.toInt ∧ nat_.toInt ≤ 40 from ⟨hy4, hy5⟩), (show 0 ≤ nde.toInt ∧ nde.toInt ≤ 24 from ⟨hy6, hy7⟩), (show 0 ≤ nhu.toInt ∧ nhu.toInt ≤ 9 from ⟨hy8, hy9⟩), hp_gki, hp_gpa, hp_gta, hp_gla, hp_gsl, hp_gco, (show 0 ≤ q_725.toInt ∧ q_725.toInt ≤ 160 from hbq_725), (show npl.toInt ≤ q_725.toInt ∧ q_725.toInt ≤ nen.toInt from by exact ⟨by omega, by omega⟩), (show ((0 : Int32).toInt = 1 → (zItem (zMF gce nba.toInt) nen.toInt npl.toInt nte.toInt npu.toInt).1 = -1 ∧ q_725.toInt = (zItem (zMF gce nba.toInt) nen.toInt npl.toInt nte.toInt npu.toInt).2.1 ∧ nte.toInt = (zItem (zMF gce nba.toInt) nen.toInt npl.toInt nte.toInt npu.toInt).2.2.1 ∧ npu.toInt = (zItem (zMF gce nba.toInt) nen.toInt npl.toInt nte.toInt npu.toInt).2.2.2) ∧ ((0 : Int32).toInt = 0 → (zItem (zMF gce nba.toInt) nen.toInt npl.toInt nte.toInt npu.toInt).1 = q_769.toInt ∧ 0 ≤ q_769.toInt) from by (have k9 : (0 : Int32).toInt = 0 := (by decide); rw [zItem_w hW1 (by decide) hp8 rfl hI]; dsimp only; exact ⟨fun h => absurd h (by decide), fun _ => ⟨by first | rfl | (show _ = _; omega), by omega⟩⟩)), ⟨by decide, by decide⟩⟩, zRet ht hP hD [10, 8, 0, 9, 1, 2, 3, 4, 5, 6, 7] (by decide) rfl⟩, hS.F ht⟩) hS.2.2 dX8_item_93
                · have fc_734 : r_731.toInt = 0 := zf_eq c_734 rfl (by decide)
                  obtain ⟨hy1_0, hy2_0, hy3_0⟩ := hsr_723_2.1 (by omega)
                  have hn0 : zN1 (zMF gce nba.toInt) nen.toInt (npl.toInt + ((zWds ((8 : Int)).toNat).length : Int)) (zLo 8 0) (zHi 8 0 nte.toInt) = ((q_402 : Int32).toInt, (q_725 : Int32).toInt, (q_726 : Int32).toInt) := zN1_yes (p1 := (q_402 : Int32).toInt) (lo2 := 0) (hi2 := (2 : Int)) ⟨hW2, hW3⟩ (by omega) hy1_0 hy2_0 (by decide) (by first | rfl | decide | (show nte.toInt - 1 = _; omega) | (show nte.toInt = _; omega)) (by omega)
                  refine lv_aload_n hx hb dX8_item_127 rfl (lv_at hl 3 rfl) ?_
                  refine lv_iload_n hx hb dX8_item_128 rfl (lv_at hl 0 rfl) ?_
                  skip
                  refine zw_V (As := [.int q_402]) (rest := []) (wr := [(mnu, .inl (cI, 10, .inl gnu)), (mki, .inl (cI, 8, .inl gki)), (mpa, .inl (cI, 8, .inl gpa)), (mta, .inl (cI, 8, .inl gta)), (mla, .inl (cI, 40, .inl gla)), (msl, .inl (cI, 40, .inl gsl)), (mco, .inl (cI, 3, .inl gco)), (mte, .inl (cI, 3, .inl gte)), (mwo, .inl (cI, 64, .inl gwo)), (mce, .inl (cJ, 1280, .inr (.inl gce)))]) ⟨hx, hb, hml, hown, hts⟩ (c_F_M_wrong l D cI cJ cZ cP cS po m0 mrf mki mpa mta mla msl mco mhe mso msi msh mce mca mwo mnu mte mwa mke mma mth mtr (npu) (nte) (nat_) (nde) (nto) (nse) (nhu) (nga) (nsd) (nfa) (nba) (q_725) (nen) (q_726) (q_727) (nra) (nik) (q_402) hy0 hy1 hy2 hy3 hy4 hy5 hy6 hy7 hy8 hy9 hy10 hy11 hy12 hy13 H.size) (cwV 1 hts gX8_item_X8_wrong rfl rfl rfl ⟨rfl, dh_X8_wrong⟩ ⟨Nat.le_of_ble_eq_true rfl, Nat.le_of_ble_eq_true rfl⟩) hK hN (hZ.kept hS) hP hD hS hA [9] [0, 1, 2, 3, 4, 5, 6, 7, 8, 10] rfl rfl (by decide) (by decide) (by decide) (va_recv (q := (RX8, TX8, 38)) hK hP (ci := 8) (q0 := 9) rfl rfl) rfl hl.1 rfl (Nat.le_of_ble_eq_true rfl) dX8_item_129 ⟨Nat.le_of_ble_eq_true rfl, Nat.le_of_ble_eq_true rfl⟩ (fun r_770 u_771 H locs hr_770 hP hD hS => ?_)
                  obtain ⟨q_772, rfl⟩ : ∃ z, z = u_771 := ⟨_, rfl⟩
                  obtain ⟨hsr_770_0, hr_770⟩ := hr_770
                  have h9R := zRe (ws' := [(mnu, .inl (cI, 10, .inl gnu)), (mki, .inl (cI, 8, .inl gki)), (mpa, .inl (cI, 8, .inl gpa)), (mta, .inl (cI, 8, .inl gta)), (mla, .inl (cI, 40, .inl gla)), (msl, .inl (cI, 40, .inl gsl)), (mco, .inl (cI, 3, .inl gco)), (mte, .inl (cI, 3, .inl gte)), (mwo, .inl (cI, 64, .inl gwo)), (mce, .inl (cJ, 1280, .inr (.inl gce))), (zMO m0 npu nte nat_ nde nto nse nhu nga nsd nfa mrf mki mpa mta mla msl mco mhe mso msi msh mce mca mwo mnu mte nba q_725 nen q_726 q_772 mwa mke mma mth mtr nra nik)]) hP hD rfl
                  clear hP hD
                  obtain ⟨hP, hD⟩ := h9R
                  obtain rfl := hr_770
                  have hI := zIn_a hn0 (by first | (right; decide) | (left; omega))
                  exact W.zret (v := 0) hx hb hr (by decide) (fun t ht hW => ⟨⟨0, (npu, nte, nat_, nde, nse, nhu, nga, gki, gpa, gta, gla, gsl, gco, gte, q_725, q_726, q_772), rfl, ⟨(show 0 ≤ npu.toInt ∧ npu.toInt ≤ 8 from ⟨hy0, hy1⟩), (show 4 ≤ nte.toInt ∧ nte.toInt ≤ 40 from ⟨hy2, hy3⟩), (show 0 ≤ nat_.toInt ∧ nat_.toInt ≤ 40 from ⟨hy4, hy5⟩), (show 0 ≤ nde.toInt ∧ nde.toInt ≤ 24 from ⟨hy6, hy7⟩), (show 0 ≤ nhu.toInt ∧ nhu.toInt ≤ 9 from ⟨hy8, hy9⟩), hp_gki, hp_gpa, hp_gta, hp_gla, hp_gsl, hp_gco, (show 0 ≤ q_725.toInt ∧ q_725.toInt ≤ 160 from hbq_725), (show npl.toInt ≤ q_725.toInt ∧ q_725.toInt ≤ nen.toInt from by exact ⟨by omega, by omega⟩), (show ((0 : Int32).toInt = 1 → (zItem (zMF gce nba.toInt) nen.toInt npl.toInt nte.toInt npu.toInt).1 = -1 ∧ q_725.toInt = (zItem (zMF gce nba.toInt) nen.toInt npl.toInt nte.toInt npu.toInt).2.1 ∧ nte.toInt = (zItem (zMF gce nba.toInt) nen.toInt npl.toInt nte.toInt npu.toInt).2.2.1 ∧ npu.toInt = (zItem (zMF gce nba.toInt) nen.toInt npl.toInt nte.toInt npu.toInt).2.2.2) ∧ ((0 : Int32).toInt = 0 → (zItem (zMF gce nba.toInt) nen.toInt npl.toInt nte.toInt npu.toInt).1 = q_772.toInt ∧ 0 ≤ q_772.toInt) from by (have k9 : (0 : Int32).toInt = 0 := (by decide); rw [zItem_w hW1 (by decide) hp8 rfl hI]; dsimp only; exact ⟨fun h => absurd h (by decide), fun _ => ⟨by first | rfl | (show _ = _; omega), by omega⟩⟩)), ⟨by decide, by decide⟩⟩, zRet ht hP hD [10, 8, 0, 9, 1, 2, 3, 4, 5, 6, 7] (by decide) rfl⟩, hS.F ht⟩) hS.2.2 dX8_item_132
              · have fc_730 : r_723.toInt = 0 := zf_eq c_730 rfl (by decide)
                have hn0 : zN1 (zMF gce nba.toInt) nen.toInt (npl.toInt + ((zWds ((8 : Int)).toNat).length : Int)) (zLo 8 0) (zHi 8 0 nte.toInt) = ((q_402 : Int32).toInt, (q_402 : Int32).toInt, 0) := zN1_yes (p1 := (q_402 : Int32).toInt) (lo2 := 0) (hi2 := (2 : Int)) ⟨hW2, hW3⟩ (by omega) (hsr_723_2.2 (by omega)).1.symm zNv_0.symm (by decide) (by first | rfl | decide | (show nte.toInt - 1 = _; omega) | (show nte.toInt = _; omega)) (Or.inl ⟨rfl, Or.inl rfl⟩)
                refine lv_iconst (v := 0) hx hb dX8_item_116 (by decide) ?_
                have hI := zIn_a hn0 (by first | (right; decide) | (left; omega))
                exact W.zret (v := 0) hx hb hr (by decide) (fun t ht hW => ⟨⟨0, (npu, nte, nat_, nde, nse, nhu, nga, gki, gpa, gta, gla, gsl, gco, gte, q_725, q_726, q_727), rfl, ⟨(show 0 ≤ npu.toInt ∧ npu.toInt ≤ 8 from ⟨hy0, hy1⟩), (show 4 ≤ nte.toInt ∧ nte.toInt ≤ 40 from ⟨hy2, hy3⟩), (show 0 ≤ nat_.toInt ∧ nat_.toInt ≤ 40 from ⟨hy4, hy5⟩), (show 0 ≤ nde.toInt ∧ nde.toInt ≤ 24 from ⟨hy6, hy7⟩), (show 0 ≤ nhu.toInt ∧ nhu.toInt ≤ 9 from ⟨hy8, hy9⟩), hp_gki, hp_gpa, hp_gta, hp_gla, hp_gsl, hp_gco, (show 0 ≤ q_725.toInt ∧ q_725.toInt ≤ 160 from hbq_725), (show npl.toInt ≤ q_725.toInt ∧ q_725.toInt ≤ nen.toInt from by exact ⟨by omega, by omega⟩), (show ((0 : Int32).toInt = 1 → (zItem (zMF gce nba.toInt) nen.toInt npl.toInt nte.toInt npu.toInt).1 = -1 ∧ q_725.toInt = (zItem (zMF gce nba.toInt) nen.toInt npl.toInt nte.toInt npu.toInt).2.1 ∧ nte.toInt = (zItem (zMF gce nba.toInt) nen.toInt npl.toInt nte.toInt npu.toInt).2.2.1 ∧ npu.toInt = (zItem (zMF gce nba.toInt) nen.toInt npl.toInt nte.toInt npu.toInt).2.2.2) ∧ ((0 : Int32).toInt = 0 → (zItem (zMF gce nba.toInt) nen.toInt npl.toInt nte.toInt npu.toInt).1 = q_727.toInt ∧ 0 ≤ q_727.toInt) from by (have k9 : (0 : Int32).toInt = 0 := (by decide); rw [zItem_w hW1 (by decide) hp8 rfl hI]; dsimp only; exact ⟨fun h => absurd h (by decide), fun _ => ⟨by first | rfl | (show _ = _; omega), by omega⟩⟩)), ⟨by decide, by decide⟩⟩, zRet ht hP hD [9, 8, 0, 10, 1, 2, 3, 4, 5, 6, 7] (by decide) rfl⟩, hS.F ht⟩) hS.2.2 dX8_item_117
            · exact absurd c_722 (by decide)
        · have kc9 : (9 : Int32).toInt = 9 := by decide
          have z9 := hsr_400_1
          rw [kc9] at z9
          obtain ⟨hW1, hW2, hW3, hW4⟩ := zItem_Mw (f := (zMF gce nba.toInt)) (e := nen.toInt) (p := npl.toInt) (w := 9) (by omega) (by decide)
          have hp8 : ¬ ((9 : Int) = 3 ∧ npu.toInt = 8) := fun z => absurd z.1 (by decide)
          refine lv_iconst (v := 0) hx hb dX8_item_38 (by decide) ?_
          refine lv_istore_n (lv' := [(2, .int 0), (1, .int 9), (0, .ref m0)]) hx hb dX8_item_39 rfl hl (by decide) rfl (fun ls hl => ?_)
          refine lv_iload_n hx hb dX8_item_40 rfl (lv_at hl 0 rfl) ?_
          refine lv_aload_n hx hb dX8_item_41 rfl (lv_at hl 2 rfl) ?_
          refine va_get (D := D) (ci := 8) (v := .ref mnu) (C := RX8) (T := TX8) (N := 38) hx hb hts hi_X8_item_8 hown hK hP 8 rfl rfl 24 (by decide) (hts (.fieldLink RX8 69 "TheLiningsInItModel" "numbers" "[I") (List.mem_of_getElem? (i := 3) rfl)) (fun _ h9 => h9) rfl dX8_item_42 ?_
          refine lv_iload_n hx hb dX8_item_45 rfl (lv_at hl 1 rfl) ?_
          refine va_iald hx hb hK hP 0 0 rfl rfl (zf_in (by decide) (by decide)) dX8_item_46 ?_
          refine lv_topi (fun x_773 ex_773 => ?_)
          obtain rfl : x_773 = 1 := ex_773.trans ((congrArg gnu (show (9 : Int32).toNatClampNeg = 9 from by decide)).trans ((hnu 9 (by decide)).trans (by decide)))
          refine lv_icmp_ge (tgt := 149) hx hb dX8_item_47 (by decide) (fun c_774 => ?_) (fun c_774 => ?_)
          · exact absurd c_774 (by decide)
          · refine lv_iload_n hx hb dX8_item_50 rfl (lv_at hl 0 rfl) ?_
            refine lv_if_le (tgt := 104) hx hb dX8_item_51 (by decide) (fun c_775 => ?_) (fun c_775 => ?_)
            · refine lv_aload_n hx hb dX8_item_104 rfl (lv_at hl 2 rfl) ?_
              refine va_get (D := D) (ci := 8) (v := .int q_402) (C := RX8) (T := TX8) (N := 38) hx hb hts hi_X8_item_8 hown hK hP 8 rfl rfl 27 (by decide) (hts (.fieldLink RX8 152 "TheLiningsInItModel" "place" "I") (List.mem_of_getElem? (i := 2) rfl)) (fun _ h9 => h9) rfl dX8_item_105 ?_
              refine lv_istore_n (lv' := [(3, .int q_402), (2, .int 0), (1, .int 9), (0, .ref m0)]) hx hb dX8_item_108 rfl hl (by decide) rfl (fun ls hl => ?_)
              refine lv_aload_n hx hb dX8_item_109 rfl (lv_at hl 3 rfl) ?_
              skip
              refine zw_V (As := []) (rest := []) (wr := [(mnu, .inl (cI, 10, .inl gnu)), (mki, .inl (cI, 8, .inl gki)), (mpa, .inl (cI, 8, .inl gpa)), (mta, .inl (cI, 8, .inl gta)), (mla, .inl (cI, 40, .inl gla)), (msl, .inl (cI, 40, .inl gsl)), (mco, .inl (cI, 3, .inl gco)), (mte, .inl (cI, 3, .inl gte)), (mwo, .inl (cI, 64, .inl gwo))]) ⟨hx, hb, hml, hown, hts⟩ (c_F_M_reads l D cI cJ cZ cP cS po m0 mrf mki mpa mta mla msl mco mhe mso msi msh mce mca mwo mnu mte mwa mke mma mth mtr (npu) (nte) (nat_) (nde) (nto) (nse) (nhu) (nga) (nsd) (nfa) (nba) (q_402) (nen) (nnu) (q_403) (nra) (nik) gce hy0 hy1 hy2 hy3 hy4 hy5 hy6 hy7 hy8 hy9 hy10 hy11 hy12 hy13 hy14 hy15 hbq_402.1 hbq_402.2 hy18 hy19 (by omega) H.size) (cwV 0 hts gX8_item_X8_reads rfl rfl rfl ⟨rfl, dh_X8_reads⟩ ⟨Nat.le_of_ble_eq_true rfl, Nat.le_of_ble_eq_true rfl⟩) hK hN (hZ.kept hS) hP hD hS hA [8, 10] [0, 1, 2, 3, 4, 5, 6, 7, 9] rfl rfl (by decide) (by decide) (by decide) (va_recv (q := (RX8, TX8, 38)) hK hP (ci := 8) (q0 := 8) rfl rfl) rfl hl.1 rfl (Nat.le_of_ble_eq_true rfl) dX8_item_110 ⟨Nat.le_of_ble_eq_true rfl, Nat.le_of_ble_eq_true rfl⟩ (fun r_776 u_777 H locs hr_776 hP hD hS => ?_)
              obtain ⟨q_778, q_779, q_780⟩ := u_777
              try dsimp only at hr_776
              obtain ⟨hbq_778, hsr_776_0, hsr_776_1, hsr_776_2, hr_776⟩ := hr_776
              have h9R := zRe (ws' := [(mnu, .inl (cI, 10, .inl gnu)), (mki, .inl (cI, 8, .inl gki)), (mpa, .inl (cI, 8, .inl gpa)), (mta, .inl (cI, 8, .inl gta)), (mla, .inl (cI, 40, .inl gla)), (msl, .inl (cI, 40, .inl gsl)), (mco, .inl (cI, 3, .inl gco)), (mte, .inl (cI, 3, .inl gte)), (mwo, .inl (cI, 64, .inl gwo)), (zMO m0 npu nte nat_ nde nto nse nhu nga nsd nfa mrf mki mpa mta mla msl mco mhe mso msi msh mce mca mwo mnu mte nba q_778 nen q_779 q_780 mwa mke mma mth mtr nra nik), (mce, .inl (cJ, 1280, .inr (.inl gce)))]) hP hD rfl
              clear hP hD
              obtain ⟨hP, hD⟩ := h9R
              obtain ⟨g_781, g_782⟩ := hr_776
              refine lv_if_ne (tgt := 118) hx hb dX8_item_113 (by decide) (fun c_783 => ?_) (fun c_783 => ?_)
              · have fc_783 : r_776.toInt ≠ 0 := zf_ne c_783 rfl (by decide)
                refine lv_aload_n hx hb dX8_item_118 rfl (lv_at hl 3 rfl) ?_
                refine lv_iload_n hx hb dX8_item_119 rfl (lv_at hl 2 rfl) ?_
                refine lv_iload_n hx hb dX8_item_120 rfl (lv_at hl 1 rfl) ?_
                refine zc_V (As := [.int 9, .int 0]) (rest := []) ⟨hx, hb, hml, hown, hts⟩ (c_F_M_isSo_9_0 l D cI cJ cZ cP cS po m0 mrf mki mpa mta mla msl mco mhe mso msi msh mce mca mwo mnu mte mwa mke mma mth mtr (npu) (nte) (nat_) (nde) (nto) (nse) (nhu) (nga) (nsd) (nfa) (nba) (q_778) (nen) (q_779) (q_780) (nra) (nik) hy0 hy1 hy2 hy3 hy4 hy5 hy6 hy7 hy8 hy9 hy10 hy11 hy12 hy13 (by omega) (by omega)) (cwV 2 hts gX8_item_X8_isSo rfl rfl rfl ⟨rfl, dh_X8_isSo⟩ ⟨Nat.le_of_ble_eq_true rfl, Nat.le_of_ble_eq_true rfl⟩) hK hN (hZ.kept hS) hP (hP.sub [9] rfl) (va_recv (q := (RX8, TX8, 38)) hK hP (ci := 8) (q0 := 9) rfl rfl) rfl hl.1 rfl (Nat.le_of_ble_eq_true rfl) dX8_item_121 ⟨Nat.le_of_ble_eq_true rfl, Nat.le_of_ble_eq_true rfl⟩ (fun r_784 hr_784 => ?_)
                obtain ⟨g_785, g_786, hsr_784_0⟩ := hr_784
                refine lv_if_ne (tgt := 133) hx hb dX8_item_124 (by decide) (fun c_787 => ?_) (fun c_787 => ?_)
                · have fc_787 : r_784.toInt ≠ 0 := zf_ne c_787 rfl (by decide)
                  obtain ⟨hy1_0, hy2_0, hy3_0⟩ := hsr_776_2.1 (by omega)
                  have hn0 : zN1 (zMF gce nba.toInt) nen.toInt (npl.toInt + ((zWds ((9 : Int)).toNat).length : Int)) (zLo 9 0) (zHi 9 0 nte.toInt) = (-1, (q_778 : Int32).toInt, (q_779 : Int32).toInt) := zN1_yes (p1 := (q_402 : Int32).toInt) (lo2 := 0) (hi2 := (nte.toInt : Int)) ⟨hW2, hW3⟩ (by omega) hy1_0 hy2_0 (by decide) (by first | rfl | decide | (show nte.toInt - 1 = _; omega) | (show nte.toInt = _; omega)) (by omega)
                  refine lv_aload_n hx hb dX8_item_133 rfl (lv_at hl 3 rfl) ?_
                  refine va_get (D := D) (ci := 8) (v := .ref mte) (C := RX8) (T := TX8) (N := 38) hx hb hts hi_X8_item_8 hown hK hP 9 rfl rfl 25 (by decide) (hts (.fieldLink RX8 72 "TheLiningsInItModel" "tell" "[I") (List.mem_of_getElem? (i := 7) rfl)) (fun _ h9 => h9) rfl dX8_item_134 ?_
                  refine lv_iload_n hx hb dX8_item_137 rfl (lv_at hl 1 rfl) ?_
                  refine lv_aload_n hx hb dX8_item_138 rfl (lv_at hl 3 rfl) ?_
                  refine va_get (D := D) (ci := 8) (v := .int q_779) (C := RX8) (T := TX8) (N := 38) hx hb hts hi_X8_item_8 hown hK hP 9 rfl rfl 29 (by decide) (hts (.fieldLink RX8 161 "TheLiningsInItModel" "number" "I") (List.mem_of_getElem? (i := 8) rfl)) (fun _ h9 => h9) rfl dX8_item_139 ?_
                  refine va_iast hx hb hK hP hD hS 7 0 rfl rfl (zf_in (by decide) (by decide)) dX8_item_142 (fun H locs hP hD hS => ?_)
                  have h9R := zRe (ws' := [(mnu, .inl (cI, 10, .inl gnu)), (mki, .inl (cI, 8, .inl gki)), (mpa, .inl (cI, 8, .inl gpa)), (mta, .inl (cI, 8, .inl gta)), (mla, .inl (cI, 40, .inl gla)), (msl, .inl (cI, 40, .inl gsl)), (mco, .inl (cI, 3, .inl gco)), (mte, .inl (cI, 3, .inl (upd gte (0 : Int32).toNatClampNeg q_779))), (mwo, .inl (cI, 64, .inl gwo)), (zMO m0 npu nte nat_ nde nto nse nhu nga nsd nfa mrf mki mpa mta mla msl mco mhe mso msi msh mce mca mwo mnu mte nba q_778 nen q_779 q_780 mwa mke mma mth mtr nra nik), (mce, .inl (cJ, 1280, .inr (.inl gce)))]) hP hD rfl
                  clear hP hD
                  obtain ⟨hP, hD⟩ := h9R
                  refine lv_iinc (v := 1) (lv' := [(2, .int 1), (3, .int q_402), (1, .int 9), (0, .ref m0)]) hx hb dX8_item_143 hl (k := 1) rfl (by decide) (by decide) rfl (fun ls hl => ?_)
                  refine lv_goto (tgt := 40) hx hb dX8_item_146 (by decide) ?_
                  refine lv_iload_n hx hb dX8_item_40 rfl (lv_at hl 0 rfl) ?_
                  refine lv_aload_n hx hb dX8_item_41 rfl (lv_at hl 3 rfl) ?_
                  refine va_get (D := D) (ci := 8) (v := .ref mnu) (C := RX8) (T := TX8) (N := 38) hx hb hts hi_X8_item_8 hown hK hP 9 rfl rfl 24 (by decide) (hts (.fieldLink RX8 69 "TheLiningsInItModel" "numbers" "[I") (List.mem_of_getElem? (i := 3) rfl)) (fun _ h9 => h9) rfl dX8_item_42 ?_
                  refine lv_iload_n hx hb dX8_item_45 rfl (lv_at hl 2 rfl) ?_
                  refine va_iald hx hb hK hP 0 0 rfl rfl (zf_in (by decide) (by decide)) dX8_item_46 ?_
                  refine lv_topi (fun x_788 ex_788 => ?_)
                  obtain rfl : x_788 = 1 := ex_788.trans ((congrArg gnu (show (9 : Int32).toNatClampNeg = 9 from by decide)).trans ((hnu 9 (by decide)).trans (by decide)))
                  refine lv_icmp_ge (tgt := 149) hx hb dX8_item_47 (by decide) (fun c_789 => ?_) (fun c_789 => ?_)
                  · refine lv_iload_n hx hb dX8_item_149 rfl (lv_at hl 2 rfl) ?_
                    refine lv_tableIn (tgt := 298) hx hb dX8_item_150 (by decide) (by decide) rfl (by decide) ?_
                    refine lv_aload_n hx hb dX8_item_298 rfl (lv_at hl 3 rfl) ?_
                    refine lv_aload_n hx hb dX8_item_299 rfl (lv_at hl 3 rfl) ?_
                    refine va_get (D := D) (ci := 8) (v := .ref mte) (C := RX8) (T := TX8) (N := 38) hx hb hts hi_X8_item_8 hown hK hP 9 rfl rfl 25 (by decide) (hts (.fieldLink RX8 72 "TheLiningsInItModel" "tell" "[I") (List.mem_of_getElem? (i := 7) rfl)) (fun _ h9 => h9) rfl dX8_item_300 ?_
                    refine lv_iconst (v := 0) hx hb dX8_item_303 (by decide) ?_
                    refine va_iald hx hb hK hP 7 0 rfl rfl (zf_in (by decide) (by decide)) dX8_item_304 ?_
                    refine lv_topi (fun x_790 ex_790 => ?_)
                    obtain rfl : q_779 = x_790 := (ex_790.trans (if_pos rfl)).symm
                    refine va_put (D := D) (ci := 8) (v := .int q_779) (ty := .int) (C := RX8) (T := TX8) (N := 38) hx hb hts hi_X8_item_8 tyX8 tyX8_ok nmX8 hown hK hP hD hS 9 rfl rfl 2 (by decide) (hts (.fieldLink RX8 122 "TheLiningsInItModel" "at" "I") (List.mem_of_getElem? (i := 12) rfl)) (fun _ h9 => h9) rfl (tyX8_ok 2 (Nat.le_of_ble_eq_true rfl)) rfl rfl (Nat.le_of_ble_eq_true rfl) dX8_item_305 (fun H locs hP hD hS => ?_)
                    have h9R := zRe (ws' := [(mnu, .inl (cI, 10, .inl gnu)), (mki, .inl (cI, 8, .inl gki)), (mpa, .inl (cI, 8, .inl gpa)), (mta, .inl (cI, 8, .inl gta)), (mla, .inl (cI, 40, .inl gla)), (msl, .inl (cI, 40, .inl gsl)), (mco, .inl (cI, 3, .inl gco)), (mte, .inl (cI, 3, .inl (upd gte (0 : Int32).toNatClampNeg q_779))), (mwo, .inl (cI, 64, .inl gwo)), (zMO m0 npu nte q_779 nde nto nse nhu nga nsd nfa mrf mki mpa mta mla msl mco mhe mso msi msh mce mca mwo mnu mte nba q_778 nen q_779 q_780 mwa mke mma mth mtr nra nik), (mce, .inl (cJ, 1280, .inr (.inl gce)))]) hP hD rfl
                    clear hP hD
                    obtain ⟨hP, hD⟩ := h9R
                    refine lv_goto (tgt := 324) hx hb dX8_item_308 (by decide) ?_
                    refine lv_iconst (v := 1) hx hb dX8_item_324 (by decide) ?_
                    have hI := zIn_a hn0 (by first | (right; decide) | (left; omega))
                    exact W.zret (v := 1) hx hb hr (by decide) (fun t ht hW => ⟨⟨1, (npu, nte, q_779, nde, nse, nhu, nga, gki, gpa, gta, gla, gsl, gco, (upd gte (0 : Int32).toNatClampNeg q_779), q_778, q_779, q_780), rfl, ⟨(show 0 ≤ npu.toInt ∧ npu.toInt ≤ 8 from ⟨hy0, hy1⟩), (show 4 ≤ nte.toInt ∧ nte.toInt ≤ 40 from ⟨hy2, hy3⟩), (show 0 ≤ q_779.toInt ∧ q_779.toInt ≤ 40 from ⟨by omega, by omega⟩), (show 0 ≤ nde.toInt ∧ nde.toInt ≤ 24 from ⟨hy6, hy7⟩), (show 0 ≤ nhu.toInt ∧ nhu.toInt ≤ 9 from ⟨hy8, hy9⟩), hp_gki, hp_gpa, hp_gta, hp_gla, hp_gsl, hp_gco, (show 0 ≤ q_778.toInt ∧ q_778.toInt ≤ 160 from hbq_778), (show npl.toInt ≤ q_778.toInt ∧ q_778.toInt ≤ nen.toInt from by exact ⟨by omega, by omega⟩), (show ((1 : Int32).toInt = 1 → (zItem (zMF gce nba.toInt) nen.toInt npl.toInt nte.toInt npu.toInt).1 = -1 ∧ q_778.toInt = (zItem (zMF gce nba.toInt) nen.toInt npl.toInt nte.toInt npu.toInt).2.1 ∧ nte.toInt = (zItem (zMF gce nba.toInt) nen.toInt npl.toInt nte.toInt npu.toInt).2.2.1 ∧ npu.toInt = (zItem (zMF gce nba.toInt) nen.toInt npl.toInt nte.toInt npu.toInt).2.2.2) ∧ ((1 : Int32).toInt = 0 → (zItem (zMF gce nba.toInt) nen.toInt npl.toInt nte.toInt npu.toInt).1 = q_780.toInt ∧ 0 ≤ q_780.toInt) from by (have k9 : (1 : Int32).toInt = 1 := (by decide); rw [zItem_w hW1 (by decide) hp8 rfl hI]; dsimp only; exact ⟨fun _ => ⟨rfl, by first | rfl | omega, by (show _ = (if (9 : Int) = 0 then _ else _); rw [if_neg (by decide)]), by (show _ = (if (9 : Int) = 3 then _ else _); rw [if_neg (by decide)])⟩, fun h => absurd h (by decide)⟩)), ⟨by decide, by decide⟩⟩, zRet ht hP hD [9, 8, 0, 10, 1, 2, 3, 4, 5, 6, 7] (by decide) rfl⟩, hS.F ht⟩) hS.2.2 dX8_item_325
                  · exact absurd c_789 (by decide)
                · have fc_787 : r_784.toInt = 0 := zf_eq c_787 rfl (by decide)
                  obtain ⟨hy1_0, hy2_0, hy3_0⟩ := hsr_776_2.1 (by omega)
                  have hn0 : zN1 (zMF gce nba.toInt) nen.toInt (npl.toInt + ((zWds ((9 : Int)).toNat).length : Int)) (zLo 9 0) (zHi 9 0 nte.toInt) = ((q_402 : Int32).toInt, (q_778 : Int32).toInt, (q_779 : Int32).toInt) := zN1_yes (p1 := (q_402 : Int32).toInt) (lo2 := 0) (hi2 := (nte.toInt : Int)) ⟨hW2, hW3⟩ (by omega) hy1_0 hy2_0 (by decide) (by first | rfl | decide | (show nte.toInt - 1 = _; omega) | (show nte.toInt = _; omega)) (by omega)
                  refine lv_aload_n hx hb dX8_item_127 rfl (lv_at hl 3 rfl) ?_
                  refine lv_iload_n hx hb dX8_item_128 rfl (lv_at hl 0 rfl) ?_
                  skip
                  refine zw_V (As := [.int q_402]) (rest := []) (wr := [(mnu, .inl (cI, 10, .inl gnu)), (mki, .inl (cI, 8, .inl gki)), (mpa, .inl (cI, 8, .inl gpa)), (mta, .inl (cI, 8, .inl gta)), (mla, .inl (cI, 40, .inl gla)), (msl, .inl (cI, 40, .inl gsl)), (mco, .inl (cI, 3, .inl gco)), (mte, .inl (cI, 3, .inl gte)), (mwo, .inl (cI, 64, .inl gwo)), (mce, .inl (cJ, 1280, .inr (.inl gce)))]) ⟨hx, hb, hml, hown, hts⟩ (c_F_M_wrong l D cI cJ cZ cP cS po m0 mrf mki mpa mta mla msl mco mhe mso msi msh mce mca mwo mnu mte mwa mke mma mth mtr (npu) (nte) (nat_) (nde) (nto) (nse) (nhu) (nga) (nsd) (nfa) (nba) (q_778) (nen) (q_779) (q_780) (nra) (nik) (q_402) hy0 hy1 hy2 hy3 hy4 hy5 hy6 hy7 hy8 hy9 hy10 hy11 hy12 hy13 H.size) (cwV 1 hts gX8_item_X8_wrong rfl rfl rfl ⟨rfl, dh_X8_wrong⟩ ⟨Nat.le_of_ble_eq_true rfl, Nat.le_of_ble_eq_true rfl⟩) hK hN (hZ.kept hS) hP hD hS hA [9] [0, 1, 2, 3, 4, 5, 6, 7, 8, 10] rfl rfl (by decide) (by decide) (by decide) (va_recv (q := (RX8, TX8, 38)) hK hP (ci := 8) (q0 := 9) rfl rfl) rfl hl.1 rfl (Nat.le_of_ble_eq_true rfl) dX8_item_129 ⟨Nat.le_of_ble_eq_true rfl, Nat.le_of_ble_eq_true rfl⟩ (fun r_791 u_792 H locs hr_791 hP hD hS => ?_)
                  obtain ⟨q_793, rfl⟩ : ∃ z, z = u_792 := ⟨_, rfl⟩
                  obtain ⟨hsr_791_0, hr_791⟩ := hr_791
                  have h9R := zRe (ws' := [(mnu, .inl (cI, 10, .inl gnu)), (mki, .inl (cI, 8, .inl gki)), (mpa, .inl (cI, 8, .inl gpa)), (mta, .inl (cI, 8, .inl gta)), (mla, .inl (cI, 40, .inl gla)), (msl, .inl (cI, 40, .inl gsl)), (mco, .inl (cI, 3, .inl gco)), (mte, .inl (cI, 3, .inl gte)), (mwo, .inl (cI, 64, .inl gwo)), (mce, .inl (cJ, 1280, .inr (.inl gce))), (zMO m0 npu nte nat_ nde nto nse nhu nga nsd nfa mrf mki mpa mta mla msl mco mhe mso msi msh mce mca mwo mnu mte nba q_778 nen q_779 q_793 mwa mke mma mth mtr nra nik)]) hP hD rfl
                  clear hP hD
                  obtain ⟨hP, hD⟩ := h9R
                  obtain rfl := hr_791
                  have hI := zIn_a hn0 (by first | (right; decide) | (left; omega))
                  exact W.zret (v := 0) hx hb hr (by decide) (fun t ht hW => ⟨⟨0, (npu, nte, nat_, nde, nse, nhu, nga, gki, gpa, gta, gla, gsl, gco, gte, q_778, q_779, q_793), rfl, ⟨(show 0 ≤ npu.toInt ∧ npu.toInt ≤ 8 from ⟨hy0, hy1⟩), (show 4 ≤ nte.toInt ∧ nte.toInt ≤ 40 from ⟨hy2, hy3⟩), (show 0 ≤ nat_.toInt ∧ nat_.toInt ≤ 40 from ⟨hy4, hy5⟩), (show 0 ≤ nde.toInt ∧ nde.toInt ≤ 24 from ⟨hy6, hy7⟩), (show 0 ≤ nhu.toInt ∧ nhu.toInt ≤ 9 from ⟨hy8, hy9⟩), hp_gki, hp_gpa, hp_gta, hp_gla, hp_gsl, hp_gco, (show 0 ≤ q_778.toInt ∧ q_778.toInt ≤ 160 from hbq_778), (show npl.toInt ≤ q_778.toInt ∧ q_778.toInt ≤ nen.toInt from by exact ⟨by omega, by omega⟩), (show ((0 : Int32).toInt = 1 → (zItem (zMF gce nba.toInt) nen.toInt npl.toInt nte.toInt npu.toInt).1 = -1 ∧ q_778.toInt = (zItem (zMF gce nba.toInt) nen.toInt npl.toInt nte.toInt npu.toInt).2.1 ∧ nte.toInt = (zItem (zMF gce nba.toInt) nen.toInt npl.toInt nte.toInt npu.toInt).2.2.1 ∧ npu.toInt = (zItem (zMF gce nba.toInt) nen.toInt npl.toInt nte.toInt npu.toInt).2.2.2) ∧ ((0 : Int32).toInt = 0 → (zItem (zMF gce nba.toInt) nen.toInt npl.toInt nte.toInt npu.toInt).1 = q_793.toInt ∧ 0 ≤ q_793.toInt) from by (have k9 : (0 : Int32).toInt = 0 := (by decide); rw [zItem_w hW1 (by decide) hp8 rfl hI]; dsimp only; exact ⟨fun h => absurd h (by decide), fun _ => ⟨by first | rfl | (show _ = _; omega), by omega⟩⟩)), ⟨by decide, by decide⟩⟩, zRet ht hP hD [10, 8, 0, 9, 1, 2, 3, 4, 5, 6, 7] (by decide) rfl⟩, hS.F ht⟩) hS.2.2 dX8_item_132
              · have fc_783 : r_776.toInt = 0 := zf_eq c_783 rfl (by decide)
                have hn0 : zN1 (zMF gce nba.toInt) nen.toInt (npl.toInt + ((zWds ((9 : Int)).toNat).length : Int)) (zLo 9 0) (zHi 9 0 nte.toInt) = ((q_402 : Int32).toInt, (q_402 : Int32).toInt, 0) := zN1_yes (p1 := (q_402 : Int32).toInt) (lo2 := 0) (hi2 := (nte.toInt : Int)) ⟨hW2, hW3⟩ (by omega) (hsr_776_2.2 (by omega)).1.symm zNv_0.symm (by decide) (by first | rfl | decide | (show nte.toInt - 1 = _; omega) | (show nte.toInt = _; omega)) (Or.inl ⟨rfl, Or.inl rfl⟩)
                refine lv_iconst (v := 0) hx hb dX8_item_116 (by decide) ?_
                have hI := zIn_a hn0 (by first | (right; decide) | (left; omega))
                exact W.zret (v := 0) hx hb hr (by decide) (fun t ht hW => ⟨⟨0, (npu, nte, nat_, nde, nse, nhu, nga, gki, gpa, gta, gla, gsl, gco, gte, q_778, q_779, q_780), rfl, ⟨(show 0 ≤ npu.toInt ∧ npu.toInt ≤ 8 from ⟨hy0, hy1⟩), (show 4 ≤ nte.toInt ∧ nte.toInt ≤ 40 from ⟨hy2, hy3⟩), (show 0 ≤ nat_.toInt ∧ nat_.toInt ≤ 40 from ⟨hy4, hy5⟩), (show 0 ≤ nde.toInt ∧ nde.toInt ≤ 24 from ⟨hy6, hy7⟩), (show 0 ≤ nhu.toInt ∧ nhu.toInt ≤ 9 from ⟨hy8, hy9⟩), hp_gki, hp_gpa, hp_gta, hp_gla, hp_gsl, hp_gco, (show 0 ≤ q_778.toInt ∧ q_778.toInt ≤ 160 from hbq_778), (show npl.toInt ≤ q_778.toInt ∧ q_778.toInt ≤ nen.toInt from by exact ⟨by omega, by omega⟩), (show ((0 : Int32).toInt = 1 → (zItem (zMF gce nba.toInt) nen.toInt npl.toInt nte.toInt npu.toInt).1 = -1 ∧ q_778.toInt = (zItem (zMF gce nba.toInt) nen.toInt npl.toInt nte.toInt npu.toInt).2.1 ∧ nte.toInt = (zItem (zMF gce nba.toInt) nen.toInt npl.toInt nte.toInt npu.toInt).2.2.1 ∧ npu.toInt = (zItem (zMF gce nba.toInt) nen.toInt npl.toInt nte.toInt npu.toInt).2.2.2) ∧ ((0 : Int32).toInt = 0 → (zItem (zMF gce nba.toInt) nen.toInt npl.toInt nte.toInt npu.toInt).1 = q_780.toInt ∧ 0 ≤ q_780.toInt) from by (have k9 : (0 : Int32).toInt = 0 := (by decide); rw [zItem_w hW1 (by decide) hp8 rfl hI]; dsimp only; exact ⟨fun h => absurd h (by decide), fun _ => ⟨by first | rfl | (show _ = _; omega), by omega⟩⟩)), ⟨by decide, by decide⟩⟩, zRet ht hP hD [9, 8, 0, 10, 1, 2, 3, 4, 5, 6, 7] (by decide) rfl⟩, hS.F ht⟩) hS.2.2 dX8_item_117
            · exact absurd c_775 (by decide)
      · have fc_406 : r_400.toInt = (-1) := zf_eq c_406 rfl (by decide)
        refine lv_iconst (v := 0) hx hb dX8_item_36 (by decide) ?_
        exact W.zret (v := 0) hx hb hr (by decide) (fun t ht hW => ⟨⟨0, (npu, nte, nat_, nde, nse, nhu, nga, gki, gpa, gta, gla, gsl, gco, gte, q_402, nnu, q_403), rfl, ⟨(show 0 ≤ npu.toInt ∧ npu.toInt ≤ 8 from ⟨hy0, hy1⟩), (show 4 ≤ nte.toInt ∧ nte.toInt ≤ 40 from ⟨hy2, hy3⟩), (show 0 ≤ nat_.toInt ∧ nat_.toInt ≤ 40 from ⟨hy4, hy5⟩), (show 0 ≤ nde.toInt ∧ nde.toInt ≤ 24 from ⟨hy6, hy7⟩), (show 0 ≤ nhu.toInt ∧ nhu.toInt ≤ 9 from ⟨hy8, hy9⟩), hp_gki, hp_gpa, hp_gta, hp_gla, hp_gsl, hp_gco, (show 0 ≤ q_402.toInt ∧ q_402.toInt ≤ 160 from hbq_402), (show npl.toInt ≤ q_402.toInt ∧ q_402.toInt ≤ nen.toInt from by exact ⟨by omega, by omega⟩), (show ((0 : Int32).toInt = 1 → (zItem (zMF gce nba.toInt) nen.toInt npl.toInt nte.toInt npu.toInt).1 = -1 ∧ q_402.toInt = (zItem (zMF gce nba.toInt) nen.toInt npl.toInt nte.toInt npu.toInt).2.1 ∧ nte.toInt = (zItem (zMF gce nba.toInt) nen.toInt npl.toInt nte.toInt npu.toInt).2.2.1 ∧ npu.toInt = (zItem (zMF gce nba.toInt) nen.toInt npl.toInt nte.toInt npu.toInt).2.2.2) ∧ ((0 : Int32).toInt = 0 → (zItem (zMF gce nba.toInt) nen.toInt npl.toInt nte.toInt npu.toInt).1 = q_403.toInt ∧ 0 ≤ q_403.toInt) from by (have k9 : (0 : Int32).toInt = 0 := (by decide); have z := zItem_M (te := nte.toInt) (pu := npu.toInt) (w := (q_403 : Int32).toInt) (show zFst (zMF gce nba.toInt) nen.toInt npl.toInt zBls 10 = -1 from by omega) (by omega) (fun z => by (have h5 := (zPul_iff (by omega)).mp z.1; first | exact absurd h5 (hsr_1_0.1 (by omega)) | omega)) (by omega); exact ⟨fun h => absurd h (by decide), fun _ => ⟨z, by omega⟩⟩)), ⟨by decide, by decide⟩⟩, zRet ht hP hD [8, 9, 0, 10, 1, 2, 3, 4, 5, 6, 7] (by decide) rfl⟩, hS.F ht⟩) hS.2.2 dX8_item_37
    · have fc_399 : npu.toInt = 8 := zf_eq c_399 rfl (by decide)
      refine lv_aload_n hx hb dX8_item_17 rfl (lv_at hl 0 rfl) ?_
      refine lv_aload_n hx hb dX8_item_18 rfl (lv_at hl 0 rfl) ?_
      refine va_get (D := D) (ci := 8) (v := .int npl) (C := RX8) (T := TX8) (N := 38) hx hb hts hi_X8_item_8 hown hK hP 0 rfl rfl 27 (by decide) (hts (.fieldLink RX8 152 "TheLiningsInItModel" "place" "I") (List.mem_of_getElem? (i := 2) rfl)) (fun _ h9 => h9) rfl dX8_item_19 ?_
      skip
      refine zw_V (As := [.int npl]) (rest := []) (wr := [(mwo, .inl (cI, 64, .inl gwo)), (mnu, .inl (cI, 10, .inl gnu)), (mce, .inl (cJ, 1280, .inr (.inl gce))), (mki, .inl (cI, 8, .inl gki)), (mpa, .inl (cI, 8, .inl gpa)), (mta, .inl (cI, 8, .inl gta)), (mla, .inl (cI, 40, .inl gla)), (msl, .inl (cI, 40, .inl gsl)), (mco, .inl (cI, 3, .inl gco)), (mte, .inl (cI, 3, .inl gte))]) ⟨hx, hb, hml, hown, hts⟩ (c_F_M_wrong l D cI cJ cZ cP cS po m0 mrf mki mpa mta mla msl mco mhe mso msi msh mce mca mwo mnu mte mwa mke mma mth mtr (npu) (nte) (nat_) (nde) (nto) (nse) (nhu) (nga) (nsd) (nfa) (nba) (npl) (nen) (nnu) (nwr) (nra) (nik) (npl) hy0 hy1 hy2 hy3 hy4 hy5 hy6 hy7 hy8 hy9 hy10 hy11 hy12 hy13 H.size) (cwV 1 hts gX8_item_X8_wrong rfl rfl rfl ⟨rfl, dh_X8_wrong⟩ ⟨Nat.le_of_ble_eq_true rfl, Nat.le_of_ble_eq_true rfl⟩) hK hN (hZ.kept hS) hP hD hS hA [0] [1, 2, 3, 4, 5, 6, 7, 8, 9, 10] rfl rfl (by decide) (by decide) (by decide) (va_recv (q := (RX8, TX8, 38)) hK hP (ci := 8) (q0 := 0) rfl rfl) rfl hl.1 rfl (Nat.le_of_ble_eq_true rfl) dX8_item_22 ⟨Nat.le_of_ble_eq_true rfl, Nat.le_of_ble_eq_true rfl⟩ (fun r_794 u_795 H locs hr_794 hP hD hS => ?_)
      obtain ⟨q_796, rfl⟩ : ∃ z, z = u_795 := ⟨_, rfl⟩
      obtain ⟨hsr_794_0, hr_794⟩ := hr_794
      have h9R := zRe (ws' := [(mwo, .inl (cI, 64, .inl gwo)), (mnu, .inl (cI, 10, .inl gnu)), (mce, .inl (cJ, 1280, .inr (.inl gce))), (mki, .inl (cI, 8, .inl gki)), (mpa, .inl (cI, 8, .inl gpa)), (mta, .inl (cI, 8, .inl gta)), (mla, .inl (cI, 40, .inl gla)), (msl, .inl (cI, 40, .inl gsl)), (mco, .inl (cI, 3, .inl gco)), (mte, .inl (cI, 3, .inl gte)), (zMO m0 npu nte nat_ nde nto nse nhu nga nsd nfa mrf mki mpa mta mla msl mco mhe mso msi msh mce mca mwo mnu mte nba npl nen nnu q_796 mwa mke mma mth mtr nra nik)]) hP hD rfl
      clear hP hD
      obtain ⟨hP, hD⟩ := h9R
      obtain rfl := hr_794
      exact W.zret (v := 0) hx hb hr (by decide) (fun t ht hW => ⟨⟨0, (npu, nte, nat_, nde, nse, nhu, nga, gki, gpa, gta, gla, gsl, gco, gte, npl, nnu, q_796), rfl, ⟨(show 0 ≤ npu.toInt ∧ npu.toInt ≤ 8 from ⟨hy0, hy1⟩), (show 4 ≤ nte.toInt ∧ nte.toInt ≤ 40 from ⟨hy2, hy3⟩), (show 0 ≤ nat_.toInt ∧ nat_.toInt ≤ 40 from ⟨hy4, hy5⟩), (show 0 ≤ nde.toInt ∧ nde.toInt ≤ 24 from ⟨hy6, hy7⟩), (show 0 ≤ nhu.toInt ∧ nhu.toInt ≤ 9 from ⟨hy8, hy9⟩), hp_gki, hp_gpa, hp_gta, hp_gla, hp_gsl, hp_gco, (show 0 ≤ npl.toInt ∧ npl.toInt ≤ 160 from ⟨hy16, hy17⟩), (show npl.toInt ≤ npl.toInt ∧ npl.toInt ≤ nen.toInt from by exact ⟨by omega, by omega⟩), (show ((0 : Int32).toInt = 1 → (zItem (zMF gce nba.toInt) nen.toInt npl.toInt nte.toInt npu.toInt).1 = -1 ∧ npl.toInt = (zItem (zMF gce nba.toInt) nen.toInt npl.toInt nte.toInt npu.toInt).2.1 ∧ nte.toInt = (zItem (zMF gce nba.toInt) nen.toInt npl.toInt nte.toInt npu.toInt).2.2.1 ∧ npu.toInt = (zItem (zMF gce nba.toInt) nen.toInt npl.toInt nte.toInt npu.toInt).2.2.2) ∧ ((0 : Int32).toInt = 0 → (zItem (zMF gce nba.toInt) nen.toInt npl.toInt nte.toInt npu.toInt).1 = q_796.toInt ∧ 0 ≤ q_796.toInt) from by (have k9 : (0 : Int32).toInt = 0 := (by decide); have h4 := (zPul_iff (by omega)).mpr (hsr_1_0.2 (by omega)); rw [zItem_room (zFst_3 h4) (by omega)]; dsimp only; exact ⟨fun h => absurd h (by decide), fun _ => ⟨by omega, by omega⟩⟩)), ⟨by decide, by decide⟩⟩, zRet ht hP hD [10, 0, 1, 2, 3, 4, 5, 6, 7, 8, 9] (by decide) rfl⟩, hS.F ht⟩) hS.2.2 dX8_item_25

