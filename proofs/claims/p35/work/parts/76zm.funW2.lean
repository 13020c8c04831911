set_option maxHeartbeats 4000000 in
set_option maxRecDepth 100000 in
theorem c_F_M_body (l : Launch) (D : va_G) (cI cJ cZ cP cS : ClassId) (po : zPool) (m0 mrf mki mpa mta mla msl mco mhe mso msi msh mce mca mwo mnu mte mwa mke mma mth mtr : Nat) (npu nte nat_ nde nto nse nhu nga nsd nfa nba npl nen nnu nwr nra nik : Int32) (gtr : Nat → Int32) (bo : Int32) (hy0 : 0 ≤ npu.toInt) (hy1 : npu.toInt ≤ 8) (hy2 : 4 ≤ nte.toInt) (hy3 : nte.toInt ≤ 40) (hy4 : 0 ≤ nat_.toInt) (hy5 : nat_.toInt ≤ 40) (hy6 : 0 ≤ nde.toInt) (hy7 : nde.toInt ≤ 24) (hy8 : 0 ≤ nhu.toInt) (hy9 : nhu.toInt ≤ 9) (hy10 : 0 ≤ nra.toInt) (hy11 : nra.toInt ≤ 2000) (hy12 : 0 ≤ nik.toInt) (hy13 : nik.toInt ≤ 1) (hy14 : 0 ≤ nra.toInt) (hy15 : nra.toInt ≤ 2000) (hpz : Nat) : Met l yX8_body wsX8_body ({ frames := 0, cells := 0, slots := 0, locals := 0 }) (va_Pc [.ref m0, .int bo] (zW D (zKT cI cJ cZ cP cS) po [(zMO m0 npu nte nat_ nde nto nse nhu nga nsd nfa mrf mki mpa mta mla msl mco mhe mso msi msh mce mca mwo mnu mte nba npl nen nnu nwr mwa mke mma mth mtr nra nik), (mtr, .inl (cI, 20, .inl gtr))] hpz)) (va_Qv (fun (u : (Int32) × (Nat → Int32)) => u.1.toInt = nra.toInt + 1 ∧ (u.2 = zTr gtr nra.toInt [bo]) ∧ (True)) (zB D [(zMO m0 npu nte nat_ nde nto nse nhu nga nsd nfa mrf mki mpa mta mla msl mco mhe mso msi msh mce mca mwo mnu mte nba npl nen nnu nwr mwa mke mma mth mtr nra nik), (mtr, .inl (cI, 20, .inl gtr))] hpz (fun (u : (Int32) × (Nat → Int32)) => [(zMO m0 npu nte nat_ nde nto nse nhu nga nsd nfa mrf mki mpa mta mla msl mco mhe mso msi msh mce mca mwo mnu mte nba npl nen nnu nwr mwa mke mma mth mtr u.1 nik), (mtr, .inl (cI, 20, .inl u.2))])) (va_A [(zMO m0 npu nte nat_ nde nto nse nhu nga nsd nfa mrf mki mpa mta mla msl mco mhe mso msi msh mce mca mwo mnu mte nba npl nen nnu nwr mwa mke mma mth mtr nra nik), (mtr, .inl (cI, 20, .inl gtr))] hpz)) 0 0 (va_A [(zMO m0 npu nte nat_ nde nto nse nhu nga nsd nfa mrf mki mpa mta mla msl mco mhe mso msi msh mce mca mwo mnu mte nba npl nen nnu nwr mwa mke mma mth mtr nra nik), (mtr, .inl (cI, 20, .inl gtr))] hpz) := by
  refine Met.ofW (cc := cX8_body) (maxL := 2) (ret := none) (by decide) rfl ?_
  intro p e s m args below meth c s₁ B hml hv
  obtain ⟨rfl, hsz, hP, hK, hD0, hN, hZ⟩ := hv
  have hx := B.exec
  have hb := B.bytes
  have hr := B.returns
  have hts := atoms_spec (ws := wsX8_body) B.pre
  have hown : s.vm.findClass RX8 = some m.cls := findClass_of_methodNamed B.named
  have hlocks := B.notSynchronized
  subst hsz
  have hD := hD0.self (sz := s.heap.size)
  have hA := zA_of hD
  have hl := lv_entry ([.ref m0, .int bo]) (n := 2) (Nat.le_of_ble_eq_true rfl)
  rw [lg_entry_eq]
  generalize (lg_sl ([.ref m0, .int bo]) ++ List.replicate (2 - (lg_sl ([.ref m0, .int bo])).length) Slot.unset).toArray = ls at hl ⊢
  replace hl : lv_has ls 2 [(0, .ref m0), (1, .int bo)] := hl
  refine zw_begin hP hD (fun H locs hP1 hS => ?_)
  clear hP
  have hP := hP1
  clear hP1
  refine lv_aload_n hx hb dX8_body_0 rfl (lv_at hl 0 rfl) ?_
  refine va_get (D := D) (ci := 8) (v := .int nra) (C := RX8) (T := TX8) (N := 38) hx hb hts hi_X8_body_8 hown hK hP 0 rfl rfl 36 (by decide) (hts (.fieldLink RX8 285 "TheLiningsInItModel" "ran" "I") (List.mem_of_getElem? (i := 1) rfl)) (fun _ h9 => h9) rfl dX8_body_1 ?_
  refine lv_bipush (v := 20) hx hb dX8_body_4 (by decide) ?_
  refine lv_icmp_ge (tgt := 19) hx hb dX8_body_6 (by decide) (fun c_1 => ?_) (fun c_1 => ?_)
  · have fc_1 : 20 ≤ nra.toInt := zf_le c_1 (by decide) rfl
    refine lv_aload_n hx hb dX8_body_19 rfl (lv_at hl 0 rfl) ?_
    refine lv_dup hx hb dX8_body_20 rfl ?_
    refine va_get (D := D) (ci := 8) (v := .int nra) (C := RX8) (T := TX8) (N := 38) hx hb hts hi_X8_body_8 hown hK hP 0 rfl rfl 36 (by decide) (hts (.fieldLink RX8 285 "TheLiningsInItModel" "ran" "I") (List.mem_of_getElem? (i := 1) rfl)) (fun _ h9 => h9) rfl dX8_body_21 ?_
    refine lv_iconst (v := 1) hx hb dX8_body_24 (by decide) ?_
    refine lv_iadd hx hb dX8_body_25 ?_
    refine lv_topi (fun x_2 ex_2 => ?_)
    have qx_2 : x_2.toInt = nra.toInt + 1 := by rw [ex_2]; exact zf_add rfl (by decide) (by omega) (by omega)
    refine va_put (D := D) (ci := 8) (v := .int x_2) (ty := .int) (C := RX8) (T := TX8) (N := 38) hx hb hts hi_X8_body_8 tyX8 tyX8_ok nmX8 hown hK hP hD hS 0 rfl rfl 36 (by decide) (hts (.fieldLink RX8 285 "TheLiningsInItModel" "ran" "I") (List.mem_of_getElem? (i := 1) rfl)) (fun _ h9 => h9) rfl (tyX8_ok 36 (Nat.le_of_ble_eq_true rfl)) rfl rfl (Nat.le_of_ble_eq_true rfl) dX8_body_26 (fun H locs hP hD hS => ?_)
    have h9R := zRe (ws' := [(zMO m0 npu nte nat_ nde nto nse nhu nga nsd nfa mrf mki mpa mta mla msl mco mhe mso msi msh mce mca mwo mnu mte nba npl nen nnu nwr mwa mke mma mth mtr x_2 nik), (mtr, .inl (cI, 20, .inl gtr))]) hP hD rfl
    clear hP hD
    obtain ⟨hP, hD⟩ := h9R
    exact W.vret hx hb hr (fun t ht hW => ⟨⟨(x_2, gtr), rfl, ⟨(show x_2.toInt = nra.toInt + 1 from by omega), (show gtr = zTr gtr nra.toInt [bo] from by (exact zTr_n (by omega))), trivial⟩, zRet ht hP hD [0, 1] (by decide) rfl⟩, hS.F ht⟩) hS.2.2 dX8_body_29
  · have fc_1 : nra.toInt < 20 := zf_nle c_1 (by decide) rfl
    refine lv_aload_n hx hb dX8_body_9 rfl (lv_at hl 0 rfl) ?_
    refine va_get (D := D) (ci := 8) (v := .ref mtr) (C := RX8) (T := TX8) (N := 38) hx hb hts hi_X8_body_8 hown hK hP 0 rfl rfl 35 (by decide) (hts (.fieldLink RX8 87 "TheLiningsInItModel" "trace" "[I") (List.mem_of_getElem? (i := 2) rfl)) (fun _ h9 => h9) rfl dX8_body_10 ?_
    refine lv_aload_n hx hb dX8_body_13 rfl (lv_at hl 0 rfl) ?_
    refine va_get (D := D) (ci := 8) (v := .int nra) (C := RX8) (T := TX8) (N := 38) hx hb hts hi_X8_body_8 hown hK hP 0 rfl rfl 36 (by decide) (hts (.fieldLink RX8 285 "TheLiningsInItModel" "ran" "I") (List.mem_of_getElem? (i := 1) rfl)) (fun _ h9 => h9) rfl dX8_body_14 ?_
    refine lv_iload_n hx hb dX8_body_17 rfl (lv_at hl 1 rfl) ?_
    refine va_iast hx hb hK hP hD hS 1 0 rfl rfl (zf_in (by omega) (by omega)) dX8_body_18 (fun H locs hP hD hS => ?_)
    obtain ⟨g_3, hg_3⟩ : ∃ g : Nat → Int32, g = upd gtr nra.toNatClampNeg bo := ⟨_, rfl⟩
    rw [← hg_3] at hP hD
    have h9R := zRe (ws' := [(zMO m0 npu nte nat_ nde nto nse nhu nga nsd nfa mrf mki mpa mta mla msl mco mhe mso msi msh mce mca mwo mnu mte nba npl nen nnu nwr mwa mke mma mth mtr nra nik), (mtr, .inl (cI, 20, .inl g_3))]) hP hD rfl
    clear hP hD
    obtain ⟨hP, hD⟩ := h9R
    refine lv_aload_n hx hb dX8_body_19 rfl (lv_at hl 0 rfl) ?_
    refine lv_dup hx hb dX8_body_20 rfl ?_
    refine va_get (D := D) (ci := 8) (v := .int nra) (C := RX8) (T := TX8) (N := 38) hx hb hts hi_X8_body_8 hown hK hP 0 rfl rfl 36 (by decide) (hts (.fieldLink RX8 285 "TheLiningsInItModel" "ran" "I") (List.mem_of_getElem? (i := 1) rfl)) (fun _ h9 => h9) rfl dX8_body_21 ?_
    refine lv_iconst (v := 1) hx hb dX8_body_24 (by decide) ?_
    refine lv_iadd hx hb dX8_body_25 ?_
    refine lv_topi (fun x_4 ex_4 => ?_)
    have qx_4 : x_4.toInt = nra.toInt + 1 := dw_incK ex_4 fc_1 (by decide)
    refine va_put (D := D) (ci := 8) (v := .int x_4) (ty := .int) (C := RX8) (T := TX8) (N := 38) hx hb hts hi_X8_body_8 tyX8 tyX8_ok nmX8 hown hK hP hD hS 0 rfl rfl 36 (by decide) (hts (.fieldLink RX8 285 "TheLiningsInItModel" "ran" "I") (List.mem_of_getElem? (i := 1) rfl)) (fun _ h9 => h9) rfl (tyX8_ok 36 (Nat.le_of_ble_eq_true rfl)) rfl rfl (Nat.le_of_ble_eq_true rfl) dX8_body_26 (fun H locs hP hD hS => ?_)
    have h9R := zRe (ws' := [(zMO m0 npu nte nat_ nde nto nse nhu nga nsd nfa mrf mki mpa mta mla msl mco mhe mso msi msh mce mca mwo mnu mte nba npl nen nnu nwr mwa mke mma mth mtr x_4 nik), (mtr, .inl (cI, 20, .inl g_3))]) hP hD rfl
    clear hP hD
    obtain ⟨hP, hD⟩ := h9R
    exact W.vret hx hb hr (fun t ht hW => ⟨⟨(x_4, g_3), rfl, ⟨(show x_4.toInt = nra.toInt + 1 from by omega), (show g_3 = zTr gtr nra.toInt [bo] from by (rw [hg_3]; exact zTr_y (by omega) (by omega))), trivial⟩, zRet ht hP hD [0, 1] (by decide) rfl⟩, hS.F ht⟩) hS.2.2 dX8_body_29
set_option maxHeartbeats 4000000 in
set_option maxRecDepth 100000 in
theorem c_F_M_pulling (l : Launch) (D : va_G) (cI cJ cZ cP cS : ClassId) (po : zPool) (m0 mrf mki mpa mta mla msl mco mhe mso msi msh mce mca mwo mnu mte mwa mke mma mth mtr : Nat) (npu nte nat_ nde nto nse nhu nga nsd nfa nba npl nen nnu nwr nra nik : Int32) (gki gpa gtr : Nat → Int32) (p_ x : Int32) (hy0 : 0 ≤ npu.toInt) (hy1 : npu.toInt ≤ 8) (hy2 : 4 ≤ nte.toInt) (hy3 : nte.toInt ≤ 40) (hy4 : 0 ≤ nat_.toInt) (hy5 : nat_.toInt ≤ 40) (hy6 : 0 ≤ nde.toInt) (hy7 : nde.toInt ≤ 24) (hy8 : 0 ≤ nhu.toInt) (hy9 : nhu.toInt ≤ 9) (hy10 : 0 ≤ nra.toInt) (hy11 : nra.toInt ≤ 2000) (hy12 : 0 ≤ nik.toInt) (hy13 : nik.toInt ≤ 1) (hy14 : 0 ≤ p_.toInt) (hy15 : p_.toInt ≤ 7) (hy16 : 0 ≤ nra.toInt) (hy17 : nra.toInt ≤ 1000) (hp_gki : zRg gki (0) 6) (hp_gpa : zRg gpa (0) 9) (hpz : Nat) : Met l yX8_pulling wsX8_pulling ({ frames := 1, cells := 0, slots := 0, locals := 21 }) (va_Pc [.ref m0, .int p_, .int x] (zW D (zKT cI cJ cZ cP cS) po [(zMO m0 npu nte nat_ nde nto nse nhu nga nsd nfa mrf mki mpa mta mla msl mco mhe mso msi msh mce mca mwo mnu mte nba npl nen nnu nwr mwa mke mma mth mtr nra nik), (mki, .inl (cI, 8, .inl gki)), (mpa, .inl (cI, 8, .inl gpa)), (mtr, .inl (cI, 20, .inl gtr))] hpz)) (va_Qi (fun (r : Int32) (u : (Int32) × (Nat → Int32)) => (0 ≤ u.1.toInt ∧ u.1.toInt ≤ 2000) ∧ (r = zQp (gki p_.toNatClampNeg).toInt x p_ (gpa p_.toNatClampNeg)) ∧ (u.2 = zTr gtr nra.toInt (zBp (gki p_.toNatClampNeg).toInt)) ∧ (u.1.toInt = nra.toInt + ((zBp (gki p_.toNatClampNeg).toInt).length : Nat)) ∧ (True)) (zB D [(zMO m0 npu nte nat_ nde nto nse nhu nga nsd nfa mrf mki mpa mta mla msl mco mhe mso msi msh mce mca mwo mnu mte nba npl nen nnu nwr mwa mke mma mth mtr nra nik), (mki, .inl (cI, 8, .inl gki)), (mpa, .inl (cI, 8, .inl gpa)), (mtr, .inl (cI, 20, .inl gtr))] hpz (fun (u : (Int32) × (Nat → Int32)) => [(zMO m0 npu nte nat_ nde nto nse nhu nga nsd nfa mrf mki mpa mta mla msl mco mhe mso msi msh mce mca mwo mnu mte nba npl nen nnu nwr mwa mke mma mth mtr u.1 nik), (mki, .inl (cI, 8, .inl gki)), (mpa, .inl (cI, 8, .inl gpa)), (mtr, .inl (cI, 20, .inl u.2))])) (va_A [(zMO m0 npu nte nat_ nde nto nse nhu nga nsd nfa mrf mki mpa mta mla msl mco mhe mso msi msh mce mca mwo mnu mte nba npl nen nnu nwr mwa mke mma mth mtr nra nik), (mki, .inl (cI, 8, .inl gki)), (mpa, .inl (cI, 8, .inl gpa)), (mtr, .inl (cI, 20, .inl gtr))] hpz)) 0 0 (va_A [(zMO m0 npu nte nat_ nde nto nse nhu nga nsd nfa mrf mki mpa mta mla msl mco mhe mso msi msh mce mca mwo mnu mte nba npl nen nnu nwr mwa mke mma mth mtr nra nik), (mki, .inl (cI, 8, .inl gki)), (mpa, .inl (cI, 8, .inl gpa)), (mtr, .inl (cI, 20, .inl gtr))] hpz) := by
  refine Met.ofW (cc := cX8_pulling) (maxL := 5) (ret := (some .int)) (by decide) rfl ?_
  intro p e s m args below meth c s₁ B hml hv
  obtain ⟨rfl, hsz, hP, hK, hD0, hN, hZ⟩ := hv
  have hx := B.exec
  have hb := B.bytes
  have hr := B.returns
  have hts := atoms_spec (ws := wsX8_pulling) B.pre
  have hown : s.vm.findClass RX8 = some m.cls := findClass_of_methodNamed B.named
  have hlocks := B.notSynchronized
  subst hsz
  have hD := hD0.self (sz := s.heap.size)
  have hA := zA_of hD
  have hl := lv_entry ([.ref m0, .int p_, .int x]) (n := 5) (Nat.le_of_ble_eq_true rfl)
  rw [lg_entry_eq]
  generalize (lg_sl ([.ref m0, .int p_, .int x]) ++ List.replicate (5 - (lg_sl ([.ref m0, .int p_, .int x])).length) Slot.unset).toArray = ls at hl ⊢
  replace hl : lv_has ls 5 [(0, .ref m0), (1, .int p_), (2, .int x)] := hl
  refine zw_begin hP hD (fun H locs hP1 hS => ?_)
  clear hP
  have hP := hP1
  clear hP1
  refine lv_aload_n hx hb dX8_pulling_0 rfl (lv_at hl 0 rfl) ?_
  refine va_get (D := D) (ci := 8) (v := .ref mki) (C := RX8) (T := TX8) (N := 38) hx hb hts hi_X8_pulling_8 hown hK hP 0 rfl rfl 11 (by decide) (hts (.fieldLink RX8 29 "TheLiningsInItModel" "kind" "[I") (List.mem_of_getElem? (i := 1) rfl)) (fun _ h9 => h9) rfl dX8_pulling_1 ?_
  refine lv_iload_n hx hb dX8_pulling_4 rfl (lv_at hl 1 rfl) ?_
  refine va_iald hx hb hK hP 1 0 rfl rfl (zf_in (by omega) (by omega)) dX8_pulling_5 ?_
  refine lv_topi (fun x_1 ex_1 => ?_)
  have bx_1 : 0 ≤ x_1.toInt ∧ x_1.toInt ≤ 6 := by rw [ex_1]; exact hp_gki _
  refine lv_istore_n (lv' := [(3, .int x_1), (0, .ref m0), (1, .int p_), (2, .int x)]) hx hb dX8_pulling_6 rfl hl (by decide) rfl (fun ls hl => ?_)
  have hsp : x_1 = 0 ∨ x_1 = 1 ∨ x_1 = 2 ∨ x_1 = 3 ∨ x_1 = 4 ∨ x_1 = 5 ∨ x_1 = 6 := by
    rcases (show x_1.toInt = 0 ∨ x_1.toInt = 1 ∨ x_1.toInt = 2 ∨ x_1.toInt = 3 ∨ x_1.toInt = 4 ∨ x_1.toInt = 5 ∨ x_1.toInt = 6 by omega) with h9 | h9 | h9 | h9 | h9 | h9 | h9
    · refine Or.inl ?_; exact zf_val h9 (by decide)
    · refine Or.inr (Or.inl ?_); exact zf_val h9 (by decide)
    · refine Or.inr (Or.inr (Or.inl ?_)); exact zf_val h9 (by decide)
    · refine Or.inr (Or.inr (Or.inr (Or.inl ?_))); exact zf_val h9 (by decide)
    · refine Or.inr (Or.inr (Or.inr (Or.inr (Or.inl ?_)))); exact zf_val h9 (by decide)
    · refine Or.inr (Or.inr (Or.inr (Or.inr (Or.inr (Or.inl ?_))))); exact zf_val h9 (by decide)
    · refine Or.inr (Or.inr (Or.inr (Or.inr (Or.inr (Or.inr (?_)))))); exact zf_val h9 (by decide)
  rcases hsp with rfl | rfl | rfl | rfl | rfl | rfl | rfl
  · have kc0 : (0 : Int32).toInt = 0 := by decide
    refine lv_iload_n hx hb dX8_pulling_7 rfl (lv_at hl 0 rfl) ?_
    refine lv_bipush (v := 6) hx hb dX8_pulling_8 (by decide) ?_
    refine lv_icmp_ne (tgt := 19) hx hb dX8_pulling_10 (by decide) (fun c_2 => ?_) (fun c_2 => ?_)
    · refine lv_iload_n hx hb dX8_pulling_19 rfl (lv_at hl 0 rfl) ?_
      refine lv_iconst (v := 4) hx hb dX8_pulling_20 (by decide) ?_
      refine lv_icmp_eq (tgt := 30) hx hb dX8_pulling_21 (by decide) (fun c_3 => ?_) (fun c_3 => ?_)
      · exact absurd c_3 (by decide)
      · refine lv_iload_n hx hb dX8_pulling_24 rfl (lv_at hl 0 rfl) ?_
        refine lv_bipush (v := 6) hx hb dX8_pulling_25 (by decide) ?_
        refine lv_icmp_ne (tgt := 36) hx hb dX8_pulling_27 (by decide) (fun c_4 => ?_) (fun c_4 => ?_)
        · refine lv_iload_n hx hb dX8_pulling_36 rfl (lv_at hl 0 rfl) ?_
          refine lv_iconst (v := 1) hx hb dX8_pulling_37 (by decide) ?_
          refine lv_icmp_eq (tgt := 46) hx hb dX8_pulling_38 (by decide) (fun c_5 => ?_) (fun c_5 => ?_)
          · exact absurd c_5 (by decide)
          · refine lv_iload_n hx hb dX8_pulling_41 rfl (lv_at hl 0 rfl) ?_
            refine lv_iconst (v := 3) hx hb dX8_pulling_42 (by decide) ?_
            refine lv_icmp_ne (tgt := 52) hx hb dX8_pulling_43 (by decide) (fun c_6 => ?_) (fun c_6 => ?_)
            · refine lv_aload_n hx hb dX8_pulling_52 rfl (lv_at hl 1 rfl) ?_
              refine lv_bipush (v := 10) hx hb dX8_pulling_53 (by decide) ?_
              skip
              refine zw_Vv (As := [.int 10]) (rest := []) (wr := [(mki, .inl (cI, 8, .inl gki)), (mpa, .inl (cI, 8, .inl gpa))]) ⟨hx, hb, hml, hown, hts⟩ (c_F_M_body l D cI cJ cZ cP cS po m0 mrf mki mpa mta mla msl mco mhe mso msi msh mce mca mwo mnu mte mwa mke mma mth mtr (npu) (nte) (nat_) (nde) (nto) (nse) (nhu) (nga) (nsd) (nfa) (nba) (npl) (nen) (nnu) (nwr) (nra) (nik) gtr (10) hy0 hy1 hy2 hy3 hy4 hy5 hy6 hy7 hy8 hy9 hy10 hy11 hy12 hy13 hy10 hy11 H.size) (cwV 1 hts gX8_pulling_X8_body rfl rfl rfl ⟨rfl, dh_X8_body⟩ ⟨Nat.le_of_ble_eq_true rfl, Nat.le_of_ble_eq_true rfl⟩) hK hN (hZ.kept hS) hP hD hS hA [0, 3] [1, 2] rfl rfl (by decide) (by decide) (by decide) (va_recv (q := (RX8, TX8, 38)) hK hP (ci := 8) (q0 := 0) rfl rfl) rfl hl.1 rfl (Nat.le_of_ble_eq_true rfl) dX8_pulling_55 ⟨Nat.le_of_ble_eq_true rfl, Nat.le_of_ble_eq_true rfl⟩ (fun u_8 H locs hr_7 hP hD hS => ?_)
              obtain ⟨q_9, q_10⟩ := u_8
              try dsimp only at hr_7
              obtain ⟨hbq_9, hsr_7_0, hr_7⟩ := hr_7
              have h9R := zRe (ws' := [(mki, .inl (cI, 8, .inl gki)), (mpa, .inl (cI, 8, .inl gpa)), (zMO m0 npu nte nat_ nde nto nse nhu nga nsd nfa mrf mki mpa mta mla msl mco mhe mso msi msh mce mca mwo mnu mte nba npl nen nnu nwr mwa mke mma mth mtr q_9 nik), (mtr, .inl (cI, 20, .inl q_10))]) hP hD rfl
              clear hP hD
              obtain ⟨hP, hD⟩ := h9R
              refine lv_iload_n hx hb dX8_pulling_58 rfl (lv_at hl 3 rfl) ?_
              refine lv_iload_n hx hb dX8_pulling_59 rfl (lv_at hl 2 rfl) ?_
              refine lv_iadd hx hb dX8_pulling_60 ?_
              refine lv_topi (fun x_11 ex_11 => ?_)
              refine lv_istore (lv' := [(4, .int x_11), (3, .int 0), (0, .ref m0), (1, .int p_), (2, .int x)]) hx hb dX8_pulling_61 hl (by decide) rfl (fun ls hl => ?_)
              refine lv_iload_n hx hb dX8_pulling_63 rfl (lv_at hl 1 rfl) ?_
              refine lv_iconst (v := 1) hx hb dX8_pulling_64 (by decide) ?_
              refine lv_icmp_eq (tgt := 73) hx hb dX8_pulling_65 (by decide) (fun c_12 => ?_) (fun c_12 => ?_)
              · exact absurd c_12 (by decide)
              · refine lv_iload_n hx hb dX8_pulling_68 rfl (lv_at hl 1 rfl) ?_
                refine lv_iconst (v := 3) hx hb dX8_pulling_69 (by decide) ?_
                refine lv_icmp_ne (tgt := 84) hx hb dX8_pulling_70 (by decide) (fun c_13 => ?_) (fun c_13 => ?_)
                · refine lv_iload_n hx hb dX8_pulling_84 rfl (lv_at hl 1 rfl) ?_
                  refine lv_iconst (v := 4) hx hb dX8_pulling_85 (by decide) ?_
                  refine lv_icmp_eq (tgt := 95) hx hb dX8_pulling_86 (by decide) (fun c_14 => ?_) (fun c_14 => ?_)
                  · exact absurd c_14 (by decide)
                  · refine lv_iload_n hx hb dX8_pulling_89 rfl (lv_at hl 1 rfl) ?_
                    refine lv_bipush (v := 6) hx hb dX8_pulling_90 (by decide) ?_
                    refine lv_icmp_ne (tgt := 101) hx hb dX8_pulling_92 (by decide) (fun c_15 => ?_) (fun c_15 => ?_)
                    · refine lv_iload_n hx hb dX8_pulling_101 rfl (lv_at hl 1 rfl) ?_
                      refine lv_bipush (v := 6) hx hb dX8_pulling_102 (by decide) ?_
                      refine lv_icmp_ne (tgt := 114) hx hb dX8_pulling_104 (by decide) (fun c_16 => ?_) (fun c_16 => ?_)
                      · refine lv_iload hx hb dX8_pulling_114 (lv_at hl 0 rfl) ?_
                        exact W.iret (v := x_11) hx hb hr (fun t ht hW => ⟨⟨x_11, (q_9, q_10), rfl, ⟨(show 0 ≤ q_9.toInt ∧ q_9.toInt ≤ 2000 from ⟨by omega, by omega⟩), (show (x_11 : Int32) = zQp (gki p_.toNatClampNeg).toInt x p_ (gpa p_.toNatClampNeg) from by (have hk : (gki p_.toNatClampNeg).toInt = 0 := (by rw [← ex_1]; first | done | decide); rw [hk]; unfold zQp; (repeat (first | rw [if_pos (by decide)] | rw [if_neg (by decide)])); (try rw [ex_11]); (try rw [ex_11]); first | done | rfl)), (show q_10 = zTr gtr nra.toInt (zBp (gki p_.toNatClampNeg).toInt) from by (have hk : (gki p_.toNatClampNeg).toInt = 0 := (by rw [← ex_1]; first | done | decide); have zbp0 : ((zBp 0).length : Int) = 1 := rfl; have zbf1 : ((zBf 0).length : Int) = 2 := rfl; have zbr2 : ((zBr 0).length : Int) = 4 := rfl; rw [hsr_7_0]; (try rw [hk]); first | done | rfl)), (show q_9.toInt = nra.toInt + ((zBp (gki p_.toNatClampNeg).toInt).length : Nat) from by (have hk : (gki p_.toNatClampNeg).toInt = 0 := (by rw [← ex_1]; first | done | decide); have zp : ((zBp 0).length : Int) = 1 := rfl; have zf : ((zBf 0).length : Int) = 2 := rfl; have zr : ((zBr 0).length : Int) = 4 := rfl; rw [hk]; omega)), trivial⟩, zRet ht hP hD [2, 0, 1, 3] (by decide) rfl⟩, hS.F ht⟩) hS.2.2 dX8_pulling_116
                      · exact absurd c_16 (by decide)
                    · exact absurd c_15 (by decide)
                · exact absurd c_13 (by decide)
            · exact absurd c_6 (by decide)
        · exact absurd c_4 (by decide)
    · exact absurd c_2 (by decide)
  · have kc1 : (1 : Int32).toInt = 1 := by decide
    refine lv_iload_n hx hb dX8_pulling_7 rfl (lv_at hl 0 rfl) ?_
    refine lv_bipush (v := 6) hx hb dX8_pulling_8 (by decide) ?_
    refine lv_icmp_ne (tgt := 19) hx hb dX8_pulling_10 (by decide) (fun c_17 => ?_) (fun c_17 => ?_)
    · refine lv_iload_n hx hb dX8_pulling_19 rfl (lv_at hl 0 rfl) ?_
      refine lv_iconst (v := 4) hx hb dX8_pulling_20 (by decide) ?_
      refine lv_icmp_eq (tgt := 30) hx hb dX8_pulling_21 (by decide) (fun c_18 => ?_) (fun c_18 => ?_)
      · exact absurd c_18 (by decide)
      · refine lv_iload_n hx hb dX8_pulling_24 rfl (lv_at hl 0 rfl) ?_
        refine lv_bipush (v := 6) hx hb dX8_pulling_25 (by decide) ?_
        refine lv_icmp_ne (tgt := 36) hx hb dX8_pulling_27 (by decide) (fun c_19 => ?_) (fun c_19 => ?_)
        · refine lv_iload_n hx hb dX8_pulling_36 rfl (lv_at hl 0 rfl) ?_
          refine lv_iconst (v := 1) hx hb dX8_pulling_37 (by decide) ?_
          refine lv_icmp_eq (tgt := 46) hx hb dX8_pulling_38 (by decide) (fun c_20 => ?_) (fun c_20 => ?_)
          · refine lv_aload_n hx hb dX8_pulling_46 rfl (lv_at hl 1 rfl) ?_
            refine lv_bipush (v := 20) hx hb dX8_pulling_47 (by decide) ?_
            skip
            refine zw_Vv (As := [.int 20]) (rest := []) (wr := [(mki, .inl (cI, 8, .inl gki)), (mpa, .inl (cI, 8, .inl gpa))]) ⟨hx, hb, hml, hown, hts⟩ (c_F_M_body l D cI cJ cZ cP cS po m0 mrf mki mpa mta mla msl mco mhe mso msi msh mce mca mwo mnu mte mwa mke mma mth mtr (npu) (nte) (nat_) (nde) (nto) (nse) (nhu) (nga) (nsd) (nfa) (nba) (npl) (nen) (nnu) (nwr) (nra) (nik) gtr (20) hy0 hy1 hy2 hy3 hy4 hy5 hy6 hy7 hy8 hy9 hy10 hy11 hy12 hy13 hy10 hy11 H.size) (cwV 1 hts gX8_pulling_X8_body rfl rfl rfl ⟨rfl, dh_X8_body⟩ ⟨Nat.le_of_ble_eq_true rfl, Nat.le_of_ble_eq_true rfl⟩) hK hN (hZ.kept hS) hP hD hS hA [0, 3] [1, 2] rfl rfl (by decide) (by decide) (by decide) (va_recv (q := (RX8, TX8, 38)) hK hP (ci := 8) (q0 := 0) rfl rfl) rfl hl.1 rfl (Nat.le_of_ble_eq_true rfl) dX8_pulling_49 ⟨Nat.le_of_ble_eq_true rfl, Nat.le_of_ble_eq_true rfl⟩ (fun u_22 H locs hr_21 hP hD hS => ?_)
            obtain ⟨q_23, q_24⟩ := u_22
            try dsimp only at hr_21
            obtain ⟨hbq_23, hsr_21_0, hr_21⟩ := hr_21
            have h9R := zRe (ws' := [(mki, .inl (cI, 8, .inl gki)), (mpa, .inl (cI, 8, .inl gpa)), (zMO m0 npu nte nat_ nde nto nse nhu nga nsd nfa mrf mki mpa mta mla msl mco mhe mso msi msh mce mca mwo mnu mte nba npl nen nnu nwr mwa mke mma mth mtr q_23 nik), (mtr, .inl (cI, 20, .inl q_24))]) hP hD rfl
            clear hP hD
            obtain ⟨hP, hD⟩ := h9R
            refine lv_aload_n hx hb dX8_pulling_52 rfl (lv_at hl 1 rfl) ?_
            refine lv_bipush (v := 10) hx hb dX8_pulling_53 (by decide) ?_
            skip
            refine zw_Vv (As := [.int 10]) (rest := []) (wr := [(mki, .inl (cI, 8, .inl gki)), (mpa, .inl (cI, 8, .inl gpa))]) ⟨hx, hb, hml, hown, hts⟩ (c_F_M_body l D cI cJ cZ cP cS po m0 mrf mki mpa mta mla msl mco mhe mso msi msh mce mca mwo mnu mte mwa mke mma mth mtr (npu) (nte) (nat_) (nde) (nto) (nse) (nhu) (nga) (nsd) (nfa) (nba) (npl) (nen) (nnu) (nwr) (q_23) (nik) q_24 (10) hy0 hy1 hy2 hy3 hy4 hy5 hy6 hy7 hy8 hy9 (by omega) (by omega) hy12 hy13 (by omega) (by omega) H.size) (cwV 1 hts gX8_pulling_X8_body rfl rfl rfl ⟨rfl, dh_X8_body⟩ ⟨Nat.le_of_ble_eq_true rfl, Nat.le_of_ble_eq_true rfl⟩) hK hN (hZ.kept hS) hP hD hS hA [2, 3] [0, 1] rfl rfl (by decide) (by decide) (by decide) (va_recv (q := (RX8, TX8, 38)) hK hP (ci := 8) (q0 := 2) rfl rfl) rfl hl.1 rfl (Nat.le_of_ble_eq_true rfl) dX8_pulling_55 ⟨Nat.le_of_ble_eq_true rfl, Nat.le_of_ble_eq_true rfl⟩ (fun u_26 H locs hr_25 hP hD hS => ?_)
            obtain ⟨q_27, q_28⟩ := u_26
            try dsimp only at hr_25
            obtain ⟨hbq_27, hsr_25_0, hr_25⟩ := hr_25
            have h9R := zRe (ws' := [(mki, .inl (cI, 8, .inl gki)), (mpa, .inl (cI, 8, .inl gpa)), (zMO m0 npu nte nat_ nde nto nse nhu nga nsd nfa mrf mki mpa mta mla msl mco mhe mso msi msh mce mca mwo mnu mte nba npl nen nnu nwr mwa mke mma mth mtr q_27 nik), (mtr, .inl (cI, 20, .inl q_28))]) hP hD rfl
            clear hP hD
            obtain ⟨hP, hD⟩ := h9R
            refine lv_iload_n hx hb dX8_pulling_58 rfl (lv_at hl 3 rfl) ?_
            refine lv_iload_n hx hb dX8_pulling_59 rfl (lv_at hl 2 rfl) ?_
            refine lv_iadd hx hb dX8_pulling_60 ?_
            refine lv_topi (fun x_29 ex_29 => ?_)
            refine lv_istore (lv' := [(4, .int x_29), (3, .int 1), (0, .ref m0), (1, .int p_), (2, .int x)]) hx hb dX8_pulling_61 hl (by decide) rfl (fun ls hl => ?_)
            refine lv_iload_n hx hb dX8_pulling_63 rfl (lv_at hl 1 rfl) ?_
            refine lv_iconst (v := 1) hx hb dX8_pulling_64 (by decide) ?_
            refine lv_icmp_eq (tgt := 73) hx hb dX8_pulling_65 (by decide) (fun c_30 => ?_) (fun c_30 => ?_)
            · refine lv_iload hx hb dX8_pulling_73 (lv_at hl 0 rfl) ?_
              refine lv_aload_n hx hb dX8_pulling_75 rfl (lv_at hl 2 rfl) ?_
              refine va_get (D := D) (ci := 8) (v := .ref mpa) (C := RX8) (T := TX8) (N := 38) hx hb hts hi_X8_pulling_8 hown hK hP 2 rfl rfl 12 (by decide) (hts (.fieldLink RX8 32 "TheLiningsInItModel" "part" "[I") (List.mem_of_getElem? (i := 2) rfl)) (fun _ h9 => h9) rfl dX8_pulling_76 ?_
              refine lv_iload_n hx hb dX8_pulling_79 rfl (lv_at hl 3 rfl) ?_
              refine va_iald hx hb hK hP 1 0 rfl rfl (zf_in (by omega) (by omega)) dX8_pulling_80 ?_
              refine lv_topi (fun x_31 ex_31 => ?_)
              have bx_31 : 0 ≤ x_31.toInt ∧ x_31.toInt ≤ 9 := by rw [ex_31]; exact hp_gpa _
              refine lv_iadd hx hb dX8_pulling_81 ?_
              refine lv_topi (fun x_32 ex_32 => ?_)
              refine lv_istore (lv' := [(4, .int x_32), (3, .int 1), (0, .ref m0), (1, .int p_), (2, .int x)]) hx hb dX8_pulling_82 hl (by decide) rfl (fun ls hl => ?_)
              refine lv_iload_n hx hb dX8_pulling_84 rfl (lv_at hl 1 rfl) ?_
              refine lv_iconst (v := 4) hx hb dX8_pulling_85 (by decide) ?_
              refine lv_icmp_eq (tgt := 95) hx hb dX8_pulling_86 (by decide) (fun c_33 => ?_) (fun c_33 => ?_)
              · exact absurd c_33 (by decide)
              · refine lv_iload_n hx hb dX8_pulling_89 rfl (lv_at hl 1 rfl) ?_
                refine lv_bipush (v := 6) hx hb dX8_pulling_90 (by decide) ?_
                refine lv_icmp_ne (tgt := 101) hx hb dX8_pulling_92 (by decide) (fun c_34 => ?_) (fun c_34 => ?_)
                · refine lv_iload_n hx hb dX8_pulling_101 rfl (lv_at hl 1 rfl) ?_
                  refine lv_bipush (v := 6) hx hb dX8_pulling_102 (by decide) ?_
                  refine lv_icmp_ne (tgt := 114) hx hb dX8_pulling_104 (by decide) (fun c_35 => ?_) (fun c_35 => ?_)
                  · refine lv_iload hx hb dX8_pulling_114 (lv_at hl 0 rfl) ?_
                    exact W.iret (v := x_32) hx hb hr (fun t ht hW => ⟨⟨x_32, (q_27, q_28), rfl, ⟨(show 0 ≤ q_27.toInt ∧ q_27.toInt ≤ 2000 from ⟨by omega, by omega⟩), (show (x_32 : Int32) = zQp (gki p_.toNatClampNeg).toInt x p_ (gpa p_.toNatClampNeg) from by (have hk : (gki p_.toNatClampNeg).toInt = 1 := (by rw [← ex_1]; first | done | decide); rw [hk]; unfold zQp; (repeat (first | rw [if_pos (by decide)] | rw [if_neg (by decide)])); (try rw [ex_32]); (try rw [ex_31]); (try rw [ex_29]); (try rw [ex_32]); (try rw [ex_31]); (try rw [ex_29]); (try rw [ex_31]); first | done | rfl)), (show q_28 = zTr gtr nra.toInt (zBp (gki p_.toNatClampNeg).toInt) from by (have hk : (gki p_.toNatClampNeg).toInt = 1 := (by rw [← ex_1]; first | done | decide); have zbp0 : ((zBp 1).length : Int) = 2 := rfl; have zbf1 : ((zBf 1).length : Int) = 3 := rfl; have zbr2 : ((zBr 1).length : Int) = 6 := rfl; rw [hsr_25_0]; rw [hsr_21_0]; rw [zTr_app (by first | omega | (simp; omega) | (show _ = _ + 1; omega))]; (try rw [hk]); first | done | rfl)), (show q_27.toInt = nra.toInt + ((zBp (gki p_.toNatClampNeg).toInt).length : Nat) from by (have hk : (gki p_.toNatClampNeg).toInt = 1 := (by rw [← ex_1]; first | done | decide); have zp : ((zBp 1).length : Int) = 2 := rfl; have zf : ((zBf 1).length : Int) = 3 := rfl; have zr : ((zBr 1).length : Int) = 6 := rfl; rw [hk]; omega)), trivial⟩, zRet ht hP hD [2, 0, 1, 3] (by decide) rfl⟩, hS.F ht⟩) hS.2.2 dX8_pulling_116
                  · exact absurd c_35 (by decide)
                · exact absurd c_34 (by decide)
            · exact absurd c_30 (by decide)
          · exact absurd c_20 (by decide)
        · exact absurd c_19 (by decide)
    · exact absurd c_17 (by decide)
  · have kc2 : (2 : Int32).toInt = 2 := by decide
    refine lv_iload_n hx hb dX8_pulling_7 rfl (lv_at hl 0 rfl) ?_
    refine lv_bipush (v := 6) hx hb dX8_pulling_8 (by decide) ?_
    refine lv_icmp_ne (tgt := 19) hx hb dX8_pulling_10 (by decide) (fun c_36 => ?_) (fun c_36 => ?_)
    · refine lv_iload_n hx hb dX8_pulling_19 rfl (lv_at hl 0 rfl) ?_
      refine lv_iconst (v := 4) hx hb dX8_pulling_20 (by decide) ?_
      refine lv_icmp_eq (tgt := 30) hx hb dX8_pulling_21 (by decide) (fun c_37 => ?_) (fun c_37 => ?_)
      · exact absurd c_37 (by decide)
      · refine lv_iload_n hx hb dX8_pulling_24 rfl (lv_at hl 0 rfl) ?_
        refine lv_bipush (v := 6) hx hb dX8_pulling_25 (by decide) ?_
        refine lv_icmp_ne (tgt := 36) hx hb dX8_pulling_27 (by decide) (fun c_38 => ?_) (fun c_38 => ?_)
        · refine lv_iload_n hx hb dX8_pulling_36 rfl (lv_at hl 0 rfl) ?_
          refine lv_iconst (v := 1) hx hb dX8_pulling_37 (by decide) ?_
          refine lv_icmp_eq (tgt := 46) hx hb dX8_pulling_38 (by decide) (fun c_39 => ?_) (fun c_39 => ?_)
          · exact absurd c_39 (by decide)
          · refine lv_iload_n hx hb dX8_pulling_41 rfl (lv_at hl 0 rfl) ?_
            refine lv_iconst (v := 3) hx hb dX8_pulling_42 (by decide) ?_
            refine lv_icmp_ne (tgt := 52) hx hb dX8_pulling_43 (by decide) (fun c_40 => ?_) (fun c_40 => ?_)
            · refine lv_aload_n hx hb dX8_pulling_52 rfl (lv_at hl 1 rfl) ?_
              refine lv_bipush (v := 10) hx hb dX8_pulling_53 (by decide) ?_
              skip
              refine zw_Vv (As := [.int 10]) (rest := []) (wr := [(mki, .inl (cI, 8, .inl gki)), (mpa, .inl (cI, 8, .inl gpa))]) ⟨hx, hb, hml, hown, hts⟩ (c_F_M_body l D cI cJ cZ cP cS po m0 mrf mki mpa mta mla msl mco mhe mso msi msh mce mca mwo mnu mte mwa mke mma mth mtr (npu) (nte) (nat_) (nde) (nto) (nse) (nhu) (nga) (nsd) (nfa) (nba) (npl) (nen) (nnu) (nwr) (nra) (nik) gtr (10) hy0 hy1 hy2 hy3 hy4 hy5 hy6 hy7 hy8 hy9 hy10 hy11 hy12 hy13 hy10 hy11 H.size) (cwV 1 hts gX8_pulling_X8_body rfl rfl rfl ⟨rfl, dh_X8_body⟩ ⟨Nat.le_of_ble_eq_true rfl, Nat.le_of_ble_eq_true rfl⟩) hK hN (hZ.kept hS) hP hD hS hA [0, 3] [1, 2] rfl rfl (by decide) (by decide) (by decide) (va_recv (q := (RX8, TX8, 38)) hK hP (ci := 8) (q0 := 0) rfl rfl) rfl hl.1 rfl (Nat.le_of_ble_eq_true rfl) dX8_pulling_55 ⟨Nat.le_of_ble_eq_true rfl, Nat.le_of_ble_eq_true rfl⟩ (fun u_42 H locs hr_41 hP hD hS => ?_)
              obtain ⟨q_43, q_44⟩ := u_42
              try dsimp only at hr_41
              obtain ⟨hbq_43, hsr_41_0, hr_41⟩ := hr_41
              have h9R := zRe (ws' := [(mki, .inl (cI, 8, .inl gki)), (mpa, .inl (cI, 8, .inl gpa)), (zMO m0 npu nte nat_ nde nto nse nhu nga nsd nfa mrf mki mpa mta mla msl mco mhe mso msi msh mce mca mwo mnu mte nba npl nen nnu nwr mwa mke mma mth mtr q_43 nik), (mtr, .inl (cI, 20, .inl q_44))]) hP hD rfl
              clear hP hD
              obtain ⟨hP, hD⟩ := h9R
              refine lv_iload_n hx hb dX8_pulling_58 rfl (lv_at hl 3 rfl) ?_
              refine lv_iload_n hx hb dX8_pulling_59 rfl (lv_at hl 2 rfl) ?_
              refine lv_iadd hx hb dX8_pulling_60 ?_
              refine lv_topi (fun x_45 ex_45 => ?_)
              refine lv_istore (lv' := [(4, .int x_45), (3, .int 2), (0, .ref m0), (1, .int p_), (2, .int x)]) hx hb dX8_pulling_61 hl (by decide) rfl (fun ls hl => ?_)
              refine lv_iload_n hx hb dX8_pulling_63 rfl (lv_at hl 1 rfl) ?_
              refine lv_iconst (v := 1) hx hb dX8_pulling_64 (by decide) ?_
              refine lv_icmp_eq (tgt := 73) hx hb dX8_pulling_65 (by decide) (fun c_46 => ?_) (fun c_46 => ?_)
              · exact absurd c_46 (by decide)
              · refine lv_iload_n hx hb dX8_pulling_68 rfl (lv_at hl 1 rfl) ?_
                refine lv_iconst (v := 3) hx hb dX8_pulling_69 (by decide) ?_
                refine lv_icmp_ne (tgt := 84) hx hb dX8_pulling_70 (by decide) (fun c_47 => ?_) (fun c_47 => ?_)
                · refine lv_iload_n hx hb dX8_pulling_84 rfl (lv_at hl 1 rfl) ?_
                  refine lv_iconst (v := 4) hx hb dX8_pulling_85 (by decide) ?_
                  refine lv_icmp_eq (tgt := 95) hx hb dX8_pulling_86 (by decide) (fun c_48 => ?_) (fun c_48 => ?_)
                  · exact absurd c_48 (by decide)
                  · refine lv_iload_n hx hb dX8_pulling_89 rfl (lv_at hl 1 rfl) ?_
                    refine lv_bipush (v := 6) hx hb dX8_pulling_90 (by decide) ?_
                    refine lv_icmp_ne (tgt := 101) hx hb dX8_pulling_92 (by decide) (fun c_49 => ?_) (fun c_49 => ?_)
                    · refine lv_iload_n hx hb dX8_pulling_101 rfl (lv_at hl 1 rfl) ?_
                      refine lv_bipush (v := 6) hx hb dX8_pulling_102 (by decide) ?_
                      refine lv_icmp_ne (tgt := 114) hx hb dX8_pulling_104 (by decide) (fun c_50 => ?_) (fun c_50 => ?_)
                      · refine lv_iload hx hb dX8_pulling_114 (lv_at hl 0 rfl) ?_
                        exact W.iret (v := x_45) hx hb hr (fun t ht hW => ⟨⟨x_45, (q_43, q_44), rfl, ⟨(show 0 ≤ q_43.toInt ∧ q_43.toInt ≤ 2000 from ⟨by omega, by omega⟩), (show (x_45 : Int32) = zQp (gki p_.toNatClampNeg).toInt x p_ (gpa p_.toNatClampNeg) from by (have hk : (gki p_.toNatClampNeg).toInt = 2 := (by rw [← ex_1]; first | done | decide); rw [hk]; unfold zQp; (repeat (first | rw [if_pos (by decide)] | rw [if_neg (by decide)])); (try rw [ex_45]); (try rw [ex_45]); first | done | rfl)), (show q_44 = zTr gtr nra.toInt (zBp (gki p_.toNatClampNeg).toInt) from by (have hk : (gki p_.toNatClampNeg).toInt = 2 := (by rw [← ex_1]; first | done | decide); have zbp0 : ((zBp 2).length : Int) = 1 := rfl; have zbf1 : ((zBf 2).length : Int) = 3 := rfl; have zbr2 : ((zBr 2).length : Int) = 5 := rfl; rw [hsr_41_0]; (try rw [hk]); first | done | rfl)), (show q_43.toInt = nra.toInt + ((zBp (gki p_.toNatClampNeg).toInt).length : Nat) from by (have hk : (gki p_.toNatClampNeg).toInt = 2 := (by rw [← ex_1]; first | done | decide); have zp : ((zBp 2).length : Int) = 1 := rfl; have zf : ((zBf 2).length : Int) = 3 := rfl; have zr : ((zBr 2).length : Int) = 5 := rfl; rw [hk]; omega)), trivial⟩, zRet ht hP hD [2, 0, 1, 3] (by decide) rfl⟩, hS.F ht⟩) hS.2.2 dX8_pulling_116
                      · exact absurd c_50 (by decide)
                    · exact absurd c_49 (by decide)
                · exact absurd c_47 (by decide)
            · exact absurd c_40 (by decide)
        · exact absurd c_38 (by decide)
    · exact absurd c_36 (by decide)
  · have kc3 : (3 : Int32).toInt = 3 := by decide
    refine lv_iload_n hx hb dX8_pulling_7 rfl (lv_at hl 0 rfl) ?_
    refine lv_bipush (v := 6) hx hb dX8_pulling_8 (by decide) ?_
    refine lv_icmp_ne (tgt := 19) hx hb dX8_pulling_10 (by decide) (fun c_51 => ?_) (fun c_51 => ?_)
    · refine lv_iload_n hx hb dX8_pulling_19 rfl (lv_at hl 0 rfl) ?_
      refine lv_iconst (v := 4) hx hb dX8_pulling_20 (by decide) ?_
      refine lv_icmp_eq (tgt := 30) hx hb dX8_pulling_21 (by decide) (fun c_52 => ?_) (fun c_52 => ?_)
      · exact absurd c_52 (by decide)
      · refine lv_iload_n hx hb dX8_pulling_24 rfl (lv_at hl 0 rfl) ?_
        refine lv_bipush (v := 6) hx hb dX8_pulling_25 (by decide) ?_
        refine lv_icmp_ne (tgt := 36) hx hb dX8_pulling_27 (by decide) (fun c_53 => ?_) (fun c_53 => ?_)
        · refine lv_iload_n hx hb dX8_pulling_36 rfl (lv_at hl 0 rfl) ?_
          refine lv_iconst (v := 1) hx hb dX8_pulling_37 (by decide) ?_
          refine lv_icmp_eq (tgt := 46) hx hb dX8_pulling_38 (by decide) (fun c_54 => ?_) (fun c_54 => ?_)
          · exact absurd c_54 (by decide)
          · refine lv_iload_n hx hb dX8_pulling_41 rfl (lv_at hl 0 rfl) ?_
            refine lv_iconst (v := 3) hx hb dX8_pulling_42 (by decide) ?_
            refine lv_icmp_ne (tgt := 52) hx hb dX8_pulling_43 (by decide) (fun c_55 => ?_) (fun c_55 => ?_)
            · exact absurd c_55 (by decide)
            · refine lv_aload_n hx hb dX8_pulling_46 rfl (lv_at hl 1 rfl) ?_
              refine lv_bipush (v := 20) hx hb dX8_pulling_47 (by decide) ?_
              skip
              refine zw_Vv (As := [.int 20]) (rest := []) (wr := [(mki, .inl (cI, 8, .inl gki)), (mpa, .inl (cI, 8, .inl gpa))]) ⟨hx, hb, hml, hown, hts⟩ (c_F_M_body l D cI cJ cZ cP cS po m0 mrf mki mpa mta mla msl mco mhe mso msi msh mce mca mwo mnu mte mwa mke mma mth mtr (npu) (nte) (nat_) (nde) (nto) (nse) (nhu) (nga) (nsd) (nfa) (nba) (npl) (nen) (nnu) (nwr) (nra) (nik) gtr (20) hy0 hy1 hy2 hy3 hy4 hy5 hy6 hy7 hy8 hy9 hy10 hy11 hy12 hy13 hy10 hy11 H.size) (cwV 1 hts gX8_pulling_X8_body rfl rfl rfl ⟨rfl, dh_X8_body⟩ ⟨Nat.le_of_ble_eq_true rfl, Nat.le_of_ble_eq_true rfl⟩) hK hN (hZ.kept hS) hP hD hS hA [0, 3] [1, 2] rfl rfl (by decide) (by decide) (by decide) (va_recv (q := (RX8, TX8, 38)) hK hP (ci := 8) (q0 := 0) rfl rfl) rfl hl.1 rfl (Nat.le_of_ble_eq_true rfl) dX8_pulling_49 ⟨Nat.le_of_ble_eq_true rfl, Nat.le_of_ble_eq_true rfl⟩ (fun u_57 H locs hr_56 hP hD hS => ?_)
              obtain ⟨q_58, q_59⟩ := u_57
              try dsimp only at hr_56
              obtain ⟨hbq_58, hsr_56_0, hr_56⟩ := hr_56
              have h9R := zRe (ws' := [(mki, .inl (cI, 8, .inl gki)), (mpa, .inl (cI, 8, .inl gpa)), (zMO m0 npu nte nat_ nde nto nse nhu nga nsd nfa mrf mki mpa mta mla msl mco mhe mso msi msh mce mca mwo mnu mte nba npl nen nnu nwr mwa mke mma mth mtr q_58 nik), (mtr, .inl (cI, 20, .inl q_59))]) hP hD rfl
              clear hP hD
              obtain ⟨hP, hD⟩ := h9R
              refine lv_aload_n hx hb dX8_pulling_52 rfl (lv_at hl 1 rfl) ?_
              refine lv_bipush (v := 10) hx hb dX8_pulling_53 (by decide) ?_
              skip
              refine zw_Vv (As := [.int 10]) (rest := []) (wr := [(mki, .inl (cI, 8, .inl gki)), (mpa, .inl (cI, 8, .inl gpa))]) ⟨hx, hb, hml, hown, hts⟩ (c_F_M_body l D cI cJ cZ cP cS po m0 mrf mki mpa mta mla msl mco mhe mso msi msh mce mca mwo mnu mte mwa mke mma mth mtr (npu) (nte) (nat_) (nde) (nto) (nse) (nhu) (nga) (nsd) (nfa) (nba) (npl) (nen) (nnu) (nwr) (q_58) (nik) q_59 (10) hy0 hy1 hy2 hy3 hy4 hy5 hy6 hy7 hy8 hy9 (by omega) (by omega) hy12 hy13 (by omega) (by omega) H.size) (cwV 1 hts gX8_pulling_X8_body rfl rfl rfl ⟨rfl, dh_X8_body⟩ ⟨Nat.le_of_ble_eq_true rfl, Nat.le_of_ble_eq_true rfl⟩) hK hN (hZ.kept hS) hP hD hS hA [2, 3] [0, 1] rfl rfl (by decide) (by decide) (by decide) (va_recv (q := (RX8, TX8, 38)) hK hP (ci := 8) (q0 := 2) rfl rfl) rfl hl.1 rfl (Nat.le_of_ble_eq_true rfl) dX8_pulling_55 ⟨Nat.le_of_ble_eq_true rfl, Nat.le_of_ble_eq_true rfl⟩ (fun u_61 H locs hr_60 hP hD hS => ?_)
              obtain ⟨q_62, q_63⟩ := u_61
              try dsimp only at hr_60
              obtain ⟨hbq_62, hsr_60_0, hr_60⟩ := hr_60
              have h9R := zRe (ws' := [(mki, .inl (cI, 8, .inl gki)), (mpa, .inl (cI, 8, .inl gpa)), (zMO m0 npu nte nat_ nde nto nse nhu nga nsd nfa mrf mki mpa mta mla msl mco mhe mso msi msh mce mca mwo mnu mte nba npl nen nnu nwr mwa mke mma mth mtr q_62 nik), (mtr, .inl (cI, 20, .inl q_63))]) hP hD rfl
              clear hP hD
              obtain ⟨hP, hD⟩ := h9R
              refine lv_iload_n hx hb dX8_pulling_58 rfl (lv_at hl 3 rfl) ?_
              refine lv_iload_n hx hb dX8_pulling_59 rfl (lv_at hl 2 rfl) ?_
              refine lv_iadd hx hb dX8_pulling_60 ?_
              refine lv_topi (fun x_64 ex_64 => ?_)
              refine lv_istore (lv' := [(4, .int x_64), (3, .int 3), (0, .ref m0), (1, .int p_), (2, .int x)]) hx hb dX8_pulling_61 hl (by decide) rfl (fun ls hl => ?_)
              refine lv_iload_n hx hb dX8_pulling_63 rfl (lv_at hl 1 rfl) ?_
              refine lv_iconst (v := 1) hx hb dX8_pulling_64 (by decide) ?_
              refine lv_icmp_eq (tgt := 73) hx hb dX8_pulling_65 (by decide) (fun c_65 => ?_) (fun c_65 => ?_)
              · exact absurd c_65 (by decide)
              · refine lv_iload_n hx hb dX8_pulling_68 rfl (lv_at hl 1 rfl) ?_
                refine lv_iconst (v := 3) hx hb dX8_pulling_69 (by decide) ?_
                refine lv_icmp_ne (tgt := 84) hx hb dX8_pulling_70 (by decide) (fun c_66 => ?_) (fun c_66 => ?_)
                · exact absurd c_66 (by decide)
                · refine lv_iload hx hb dX8_pulling_73 (lv_at hl 0 rfl) ?_
                  refine lv_aload_n hx hb dX8_pulling_75 rfl (lv_at hl 2 rfl) ?_
                  refine va_get (D := D) (ci := 8) (v := .ref mpa) (C := RX8) (T := TX8) (N := 38) hx hb hts hi_X8_pulling_8 hown hK hP 2 rfl rfl 12 (by decide) (hts (.fieldLink RX8 32 "TheLiningsInItModel" "part" "[I") (List.mem_of_getElem? (i := 2) rfl)) (fun _ h9 => h9) rfl dX8_pulling_76 ?_
                  refine lv_iload_n hx hb dX8_pulling_79 rfl (lv_at hl 3 rfl) ?_
                  refine va_iald hx hb hK hP 1 0 rfl rfl (zf_in (by omega) (by omega)) dX8_pulling_80 ?_
                  refine lv_topi (fun x_67 ex_67 => ?_)
                  have bx_67 : 0 ≤ x_67.toInt ∧ x_67.toInt ≤ 9 := by rw [ex_67]; exact hp_gpa _
                  refine lv_iadd hx hb dX8_pulling_81 ?_
                  refine lv_topi (fun x_68 ex_68 => ?_)
                  refine lv_istore (lv' := [(4, .int x_68), (3, .int 3), (0, .ref m0), (1, .int p_), (2, .int x)]) hx hb dX8_pulling_82 hl (by decide) rfl (fun ls hl => ?_)
                  refine lv_iload_n hx hb dX8_pulling_84 rfl (lv_at hl 1 rfl) ?_
                  refine lv_iconst (v := 4) hx hb dX8_pulling_85 (by decide) ?_
                  refine lv_icmp_eq (tgt := 95) hx hb dX8_pulling_86 (by decide) (fun c_69 => ?_) (fun c_69 => ?_)
                  · exact absurd c_69 (by decide)
                  · refine lv_iload_n hx hb dX8_pulling_89 rfl (lv_at hl 1 rfl) ?_
                    refine lv_bipush (v := 6) hx hb dX8_pulling_90 (by decide) ?_
                    refine lv_icmp_ne (tgt := 101) hx hb dX8_pulling_92 (by decide) (fun c_70 => ?_) (fun c_70 => ?_)
                    · refine lv_iload_n hx hb dX8_pulling_101 rfl (lv_at hl 1 rfl) ?_
                      refine lv_bipush (v := 6) hx hb dX8_pulling_102 (by decide) ?_
                      refine lv_icmp_ne (tgt := 114) hx hb dX8_pulling_104 (by decide) (fun c_71 => ?_) (fun c_71 => ?_)
                      · refine lv_iload hx hb dX8_pulling_114 (lv_at hl 0 rfl) ?_
                        exact W.iret (v := x_68) hx hb hr (fun t ht hW => ⟨⟨x_68, (q_62, q_63), rfl, ⟨(show 0 ≤ q_62.toInt ∧ q_62.toInt ≤ 2000 from ⟨by omega, by omega⟩), (show (x_68 : Int32) = zQp (gki p_.toNatClampNeg).toInt x p_ (gpa p_.toNatClampNeg) from by (have hk : (gki p_.toNatClampNeg).toInt = 3 := (by rw [← ex_1]; first | done | decide); rw [hk]; unfold zQp; (repeat (first | rw [if_pos (by decide)] | rw [if_neg (by decide)])); (try rw [ex_68]); (try rw [ex_67]); (try rw [ex_64]); (try rw [ex_68]); (try rw [ex_67]); (try rw [ex_64]); (try rw [ex_67]); first | done | rfl)), (show q_63 = zTr gtr nra.toInt (zBp (gki p_.toNatClampNeg).toInt) from by (have hk : (gki p_.toNatClampNeg).toInt = 3 := (by rw [← ex_1]; first | done | decide); have zbp0 : ((zBp 3).length : Int) = 2 := rfl; have zbf1 : ((zBf 3).length : Int) = 4 := rfl; have zbr2 : ((zBr 3).length : Int) = 7 := rfl; rw [hsr_60_0]; rw [hsr_56_0]; rw [zTr_app (by first | omega | (simp; omega) | (show _ = _ + 1; omega))]; (try rw [hk]); first | done | rfl)), (show q_62.toInt = nra.toInt + ((zBp (gki p_.toNatClampNeg).toInt).length : Nat) from by (have hk : (gki p_.toNatClampNeg).toInt = 3 := (by rw [← ex_1]; first | done | decide); have zp : ((zBp 3).length : Int) = 2 := rfl; have zf : ((zBf 3).length : Int) = 4 := rfl; have zr : ((zBr 3).length : Int) = 7 := rfl; rw [hk]; omega)), trivial⟩, zRet ht hP hD [2, 0, 1, 3] (by decide) rfl⟩, hS.F ht⟩) hS.2.2 dX8_pulling_116
                      · exact absurd c_71 (by decide)
                    · exact absurd c_70 (by decide)
        · exact absurd c_53 (by decide)
    · exact absurd c_51 (by decide)
  · have kc4 : (4 : Int32).toInt = 4 := by decide
    refine lv_iload_n hx hb dX8_pulling_7 rfl (lv_at hl 0 rfl) ?_
    refine lv_bipush (v := 6) hx hb dX8_pulling_8 (by decide) ?_
    refine lv_icmp_ne (tgt := 19) hx hb dX8_pulling_10 (by decide) (fun c_72 => ?_) (fun c_72 => ?_)
    · refine lv_iload_n hx hb dX8_pulling_19 rfl (lv_at hl 0 rfl) ?_
      refine lv_iconst (v := 4) hx hb dX8_pulling_20 (by decide) ?_
      refine lv_icmp_eq (tgt := 30) hx hb dX8_pulling_21 (by decide) (fun c_73 => ?_) (fun c_73 => ?_)
      · refine lv_aload_n hx hb dX8_pulling_30 rfl (lv_at hl 1 rfl) ?_
        refine lv_bipush (v := 51) hx hb dX8_pulling_31 (by decide) ?_
        skip
        refine zw_Vv (As := [.int 51]) (rest := []) (wr := [(mki, .inl (cI, 8, .inl gki)), (mpa, .inl (cI, 8, .inl gpa))]) ⟨hx, hb, hml, hown, hts⟩ (c_F_M_body l D cI cJ cZ cP cS po m0 mrf mki mpa mta mla msl mco mhe mso msi msh mce mca mwo mnu mte mwa mke mma mth mtr (npu) (nte) (nat_) (nde) (nto) (nse) (nhu) (nga) (nsd) (nfa) (nba) (npl) (nen) (nnu) (nwr) (nra) (nik) gtr (51) hy0 hy1 hy2 hy3 hy4 hy5 hy6 hy7 hy8 hy9 hy10 hy11 hy12 hy13 hy10 hy11 H.size) (cwV 1 hts gX8_pulling_X8_body rfl rfl rfl ⟨rfl, dh_X8_body⟩ ⟨Nat.le_of_ble_eq_true rfl, Nat.le_of_ble_eq_true rfl⟩) hK hN (hZ.kept hS) hP hD hS hA [0, 3] [1, 2] rfl rfl (by decide) (by decide) (by decide) (va_recv (q := (RX8, TX8, 38)) hK hP (ci := 8) (q0 := 0) rfl rfl) rfl hl.1 rfl (Nat.le_of_ble_eq_true rfl) dX8_pulling_33 ⟨Nat.le_of_ble_eq_true rfl, Nat.le_of_ble_eq_true rfl⟩ (fun u_75 H locs hr_74 hP hD hS => ?_)
        obtain ⟨q_76, q_77⟩ := u_75
        try dsimp only at hr_74
        obtain ⟨hbq_76, hsr_74_0, hr_74⟩ := hr_74
        have h9R := zRe (ws' := [(mki, .inl (cI, 8, .inl gki)), (mpa, .inl (cI, 8, .inl gpa)), (zMO m0 npu nte nat_ nde nto nse nhu nga nsd nfa mrf mki mpa mta mla msl mco mhe mso msi msh mce mca mwo mnu mte nba npl nen nnu nwr mwa mke mma mth mtr q_76 nik), (mtr, .inl (cI, 20, .inl q_77))]) hP hD rfl
        clear hP hD
        obtain ⟨hP, hD⟩ := h9R
        refine lv_iload_n hx hb dX8_pulling_36 rfl (lv_at hl 0 rfl) ?_
        refine lv_iconst (v := 1) hx hb dX8_pulling_37 (by decide) ?_
        refine lv_icmp_eq (tgt := 46) hx hb dX8_pulling_38 (by decide) (fun c_78 => ?_) (fun c_78 => ?_)
        · exact absurd c_78 (by decide)
        · refine lv_iload_n hx hb dX8_pulling_41 rfl (lv_at hl 0 rfl) ?_
          refine lv_iconst (v := 3) hx hb dX8_pulling_42 (by decide) ?_
          refine lv_icmp_ne (tgt := 52) hx hb dX8_pulling_43 (by decide) (fun c_79 => ?_) (fun c_79 => ?_)
          · refine lv_aload_n hx hb dX8_pulling_52 rfl (lv_at hl 1 rfl) ?_
            refine lv_bipush (v := 10) hx hb dX8_pulling_53 (by decide) ?_
            skip
            refine zw_Vv (As := [.int 10]) (rest := []) (wr := [(mki, .inl (cI, 8, .inl gki)), (mpa, .inl (cI, 8, .inl gpa))]) ⟨hx, hb, hml, hown, hts⟩ (c_F_M_body l D cI cJ cZ cP cS po m0 mrf mki mpa mta mla msl mco mhe mso msi msh mce mca mwo mnu mte mwa mke mma mth mtr (npu) (nte) (nat_) (nde) (nto) (nse) (nhu) (nga) (nsd) (nfa) (nba) (npl) (nen) (nnu) (nwr) (q_76) (nik) q_77 (10) hy0 hy1 hy2 hy3 hy4 hy5 hy6 hy7 hy8 hy9 (by omega) (by omega) hy12 hy13 (by omega) (by omega) H.size) (cwV 1 hts gX8_pulling_X8_body rfl rfl rfl ⟨rfl, dh_X8_body⟩ ⟨Nat.le_of_ble_eq_true rfl, Nat.le_of_ble_eq_true rfl⟩) hK hN (hZ.kept hS) hP hD hS hA [2, 3] [0, 1] rfl rfl (by decide) (by decide) (by decide) (va_recv (q := (RX8, TX8, 38)) hK hP (ci := 8) (q0 := 2) rfl rfl) rfl hl.1 rfl (Nat.le_of_ble_eq_true rfl) dX8_pulling_55 ⟨Nat.le_of_ble_eq_true rfl, Nat.le_of_ble_eq_true rfl⟩ (fun u_81 H locs hr_80 hP hD hS => ?_)
            obtain ⟨q_82, q_83⟩ := u_81
            try dsimp only at hr_80
            obtain ⟨hbq_82, hsr_80_0, hr_80⟩ := hr_80
            have h9R := zRe (ws' := [(mki, .inl (cI, 8, .inl gki)), (mpa, .inl (cI, 8, .inl gpa)), (zMO m0 npu nte nat_ nde nto nse nhu nga nsd nfa mrf mki mpa mta mla msl mco mhe mso msi msh mce mca mwo mnu mte nba npl nen nnu nwr mwa mke mma mth mtr q_82 nik), (mtr, .inl (cI, 20, .inl q_83))]) hP hD rfl
            clear hP hD
            obtain ⟨hP, hD⟩ := h9R
            refine lv_iload_n hx hb dX8_pulling_58 rfl (lv_at hl 3 rfl) ?_
            refine lv_iload_n hx hb dX8_pulling_59 rfl (lv_at hl 2 rfl) ?_
            refine lv_iadd hx hb dX8_pulling_60 ?_
            refine lv_topi (fun x_84 ex_84 => ?_)
            refine lv_istore (lv' := [(4, .int x_84), (3, .int 4), (0, .ref m0), (1, .int p_), (2, .int x)]) hx hb dX8_pulling_61 hl (by decide) rfl (fun ls hl => ?_)
            refine lv_iload_n hx hb dX8_pulling_63 rfl (lv_at hl 1 rfl) ?_
            refine lv_iconst (v := 1) hx hb dX8_pulling_64 (by decide) ?_
            refine lv_icmp_eq (tgt := 73) hx hb dX8_pulling_65 (by decide) (fun c_85 => ?_) (fun c_85 => ?_)
            · exact absurd c_85 (by decide)
            · refine lv_iload_n hx hb dX8_pulling_68 rfl (lv_at hl 1 rfl) ?_
              refine lv_iconst (v := 3) hx hb dX8_pulling_69 (by decide) ?_
              refine lv_icmp_ne (tgt := 84) hx hb dX8_pulling_70 (by decide) (fun c_86 => ?_) (fun c_86 => ?_)
              · refine lv_iload_n hx hb dX8_pulling_84 rfl (lv_at hl 1 rfl) ?_
                refine lv_iconst (v := 4) hx hb dX8_pulling_85 (by decide) ?_
                refine lv_icmp_eq (tgt := 95) hx hb dX8_pulling_86 (by decide) (fun c_87 => ?_) (fun c_87 => ?_)
                · refine lv_iload hx hb dX8_pulling_95 (lv_at hl 0 rfl) ?_
                  refine lv_iload_n hx hb dX8_pulling_97 rfl (lv_at hl 3 rfl) ?_
                  refine lv_isub hx hb dX8_pulling_98 ?_
                  refine lv_topi (fun x_88 ex_88 => ?_)
                  refine lv_istore (lv' := [(4, .int x_88), (3, .int 4), (0, .ref m0), (1, .int p_), (2, .int x)]) hx hb dX8_pulling_99 hl (by decide) rfl (fun ls hl => ?_)
                  refine lv_iload_n hx hb dX8_pulling_101 rfl (lv_at hl 1 rfl) ?_
                  refine lv_bipush (v := 6) hx hb dX8_pulling_102 (by decide) ?_
                  refine lv_icmp_ne (tgt := 114) hx hb dX8_pulling_104 (by decide) (fun c_89 => ?_) (fun c_89 => ?_)
                  · refine lv_iload hx hb dX8_pulling_114 (lv_at hl 0 rfl) ?_
                    exact W.iret (v := x_88) hx hb hr (fun t ht hW => ⟨⟨x_88, (q_82, q_83), rfl, ⟨(show 0 ≤ q_82.toInt ∧ q_82.toInt ≤ 2000 from ⟨by omega, by omega⟩), (show (x_88 : Int32) = zQp (gki p_.toNatClampNeg).toInt x p_ (gpa p_.toNatClampNeg) from by (have hk : (gki p_.toNatClampNeg).toInt = 4 := (by rw [← ex_1]; first | done | decide); rw [hk]; unfold zQp; (repeat (first | rw [if_pos (by decide)] | rw [if_neg (by decide)])); (try rw [ex_88]); (try rw [ex_84]); (try rw [ex_88]); (try rw [ex_84]); first | done | rfl)), (show q_83 = zTr gtr nra.toInt (zBp (gki p_.toNatClampNeg).toInt) from by (have hk : (gki p_.toNatClampNeg).toInt = 4 := (by rw [← ex_1]; first | done | decide); have zbp0 : ((zBp 4).length : Int) = 2 := rfl; have zbf1 : ((zBf 4).length : Int) = 3 := rfl; have zbr2 : ((zBr 4).length : Int) = 7 := rfl; rw [hsr_80_0]; rw [hsr_74_0]; rw [zTr_app (by first | omega | (simp; omega) | (show _ = _ + 1; omega))]; (try rw [hk]); first | done | rfl)), (show q_82.toInt = nra.toInt + ((zBp (gki p_.toNatClampNeg).toInt).length : Nat) from by (have hk : (gki p_.toNatClampNeg).toInt = 4 := (by rw [← ex_1]; first | done | decide); have zp : ((zBp 4).length : Int) = 2 := rfl; have zf : ((zBf 4).length : Int) = 3 := rfl; have zr : ((zBr 4).length : Int) = 7 := rfl; rw [hk]; omega)), trivial⟩, zRet ht hP hD [2, 0, 1, 3] (by decide) rfl⟩, hS.F ht⟩) hS.2.2 dX8_pulling_116
                  · exact absurd c_89 (by decide)
                · exact absurd c_87 (by decide)
              · exact absurd c_86 (by decide)
          · exact absurd c_79 (by decide)
      · exact absurd c_73 (by decide)
    · exact absurd c_72 (by decide)
  · have kc5 : (5 : Int32).toInt = 5 := by decide
    refine lv_iload_n hx hb dX8_pulling_7 rfl (lv_at hl 0 rfl) ?_
    refine lv_bipush (v := 6) hx hb dX8_pulling_8 (by decide) ?_
    refine lv_icmp_ne (tgt := 19) hx hb dX8_pulling_10 (by decide) (fun c_90 => ?_) (fun c_90 => ?_)
    · refine lv_iload_n hx hb dX8_pulling_19 rfl (lv_at hl 0 rfl) ?_
      refine lv_iconst (v := 4) hx hb dX8_pulling_20 (by decide) ?_
      refine lv_icmp_eq (tgt := 30) hx hb dX8_pulling_21 (by decide) (fun c_91 => ?_) (fun c_91 => ?_)
      · exact absurd c_91 (by decide)
      · refine lv_iload_n hx hb dX8_pulling_24 rfl (lv_at hl 0 rfl) ?_
        refine lv_bipush (v := 6) hx hb dX8_pulling_25 (by decide) ?_
        refine lv_icmp_ne (tgt := 36) hx hb dX8_pulling_27 (by decide) (fun c_92 => ?_) (fun c_92 => ?_)
        · refine lv_iload_n hx hb dX8_pulling_36 rfl (lv_at hl 0 rfl) ?_
          refine lv_iconst (v := 1) hx hb dX8_pulling_37 (by decide) ?_
          refine lv_icmp_eq (tgt := 46) hx hb dX8_pulling_38 (by decide) (fun c_93 => ?_) (fun c_93 => ?_)
          · exact absurd c_93 (by decide)
          · refine lv_iload_n hx hb dX8_pulling_41 rfl (lv_at hl 0 rfl) ?_
            refine lv_iconst (v := 3) hx hb dX8_pulling_42 (by decide) ?_
            refine lv_icmp_ne (tgt := 52) hx hb dX8_pulling_43 (by decide) (fun c_94 => ?_) (fun c_94 => ?_)
            · refine lv_aload_n hx hb dX8_pulling_52 rfl (lv_at hl 1 rfl) ?_
              refine lv_bipush (v := 10) hx hb dX8_pulling_53 (by decide) ?_
              skip
              refine zw_Vv (As := [.int 10]) (rest := []) (wr := [(mki, .inl (cI, 8, .inl gki)), (mpa, .inl (cI, 8, .inl gpa))]) ⟨hx, hb, hml, hown, hts⟩ (c_F_M_body l D cI cJ cZ cP cS po m0 mrf mki mpa mta mla msl mco mhe mso msi msh mce mca mwo mnu mte mwa mke mma mth mtr (npu) (nte) (nat_) (nde) (nto) (nse) (nhu) (nga) (nsd) (nfa) (nba) (npl) (nen) (nnu) (nwr) (nra) (nik) gtr (10) hy0 hy1 hy2 hy3 hy4 hy5 hy6 hy7 hy8 hy9 hy10 hy11 hy12 hy13 hy10 hy11 H.size) (cwV 1 hts gX8_pulling_X8_body rfl rfl rfl ⟨rfl, dh_X8_body⟩ ⟨Nat.le_of_ble_eq_true rfl, Nat.le_of_ble_eq_true rfl⟩) hK hN (hZ.kept hS) hP hD hS hA [0, 3] [1, 2] rfl rfl (by decide) (by decide) (by decide) (va_recv (q := (RX8, TX8, 38)) hK hP (ci := 8) (q0 := 0) rfl rfl) rfl hl.1 rfl (Nat.le_of_ble_eq_true rfl) dX8_pulling_55 ⟨Nat.le_of_ble_eq_true rfl, Nat.le_of_ble_eq_true rfl⟩ (fun u_96 H locs hr_95 hP hD hS => ?_)
              obtain ⟨q_97, q_98⟩ := u_96
              try dsimp only at hr_95
              obtain ⟨hbq_97, hsr_95_0, hr_95⟩ := hr_95
              have h9R := zRe (ws' := [(mki, .inl (cI, 8, .inl gki)), (mpa, .inl (cI, 8, .inl gpa)), (zMO m0 npu nte nat_ nde nto nse nhu nga nsd nfa mrf mki mpa mta mla msl mco mhe mso msi msh mce mca mwo mnu mte nba npl nen nnu nwr mwa mke mma mth mtr q_97 nik), (mtr, .inl (cI, 20, .inl q_98))]) hP hD rfl
              clear hP hD
              obtain ⟨hP, hD⟩ := h9R
              refine lv_iload_n hx hb dX8_pulling_58 rfl (lv_at hl 3 rfl) ?_
              refine lv_iload_n hx hb dX8_pulling_59 rfl (lv_at hl 2 rfl) ?_
              refine lv_iadd hx hb dX8_pulling_60 ?_
              refine lv_topi (fun x_99 ex_99 => ?_)
              refine lv_istore (lv' := [(4, .int x_99), (3, .int 5), (0, .ref m0), (1, .int p_), (2, .int x)]) hx hb dX8_pulling_61 hl (by decide) rfl (fun ls hl => ?_)
              refine lv_iload_n hx hb dX8_pulling_63 rfl (lv_at hl 1 rfl) ?_
              refine lv_iconst (v := 1) hx hb dX8_pulling_64 (by decide) ?_
              refine lv_icmp_eq (tgt := 73) hx hb dX8_pulling_65 (by decide) (fun c_100 => ?_) (fun c_100 => ?_)
              · exact absurd c_100 (by decide)
              · refine lv_iload_n hx hb dX8_pulling_68 rfl (lv_at hl 1 rfl) ?_
                refine lv_iconst (v := 3) hx hb dX8_pulling_69 (by decide) ?_
                refine lv_icmp_ne (tgt := 84) hx hb dX8_pulling_70 (by decide) (fun c_101 => ?_) (fun c_101 => ?_)
                · refine lv_iload_n hx hb dX8_pulling_84 rfl (lv_at hl 1 rfl) ?_
                  refine lv_iconst (v := 4) hx hb dX8_pulling_85 (by decide) ?_
                  refine lv_icmp_eq (tgt := 95) hx hb dX8_pulling_86 (by decide) (fun c_102 => ?_) (fun c_102 => ?_)
                  · exact absurd c_102 (by decide)
                  · refine lv_iload_n hx hb dX8_pulling_89 rfl (lv_at hl 1 rfl) ?_
                    refine lv_bipush (v := 6) hx hb dX8_pulling_90 (by decide) ?_
                    refine lv_icmp_ne (tgt := 101) hx hb dX8_pulling_92 (by decide) (fun c_103 => ?_) (fun c_103 => ?_)
                    · refine lv_iload_n hx hb dX8_pulling_101 rfl (lv_at hl 1 rfl) ?_
                      refine lv_bipush (v := 6) hx hb dX8_pulling_102 (by decide) ?_
                      refine lv_icmp_ne (tgt := 114) hx hb dX8_pulling_104 (by decide) (fun c_104 => ?_) (fun c_104 => ?_)
                      · refine lv_iload hx hb dX8_pulling_114 (lv_at hl 0 rfl) ?_
                        exact W.iret (v := x_99) hx hb hr (fun t ht hW => ⟨⟨x_99, (q_97, q_98), rfl, ⟨(show 0 ≤ q_97.toInt ∧ q_97.toInt ≤ 2000 from ⟨by omega, by omega⟩), (show (x_99 : Int32) = zQp (gki p_.toNatClampNeg).toInt x p_ (gpa p_.toNatClampNeg) from by (have hk : (gki p_.toNatClampNeg).toInt = 5 := (by rw [← ex_1]; first | done | decide); rw [hk]; unfold zQp; (repeat (first | rw [if_pos (by decide)] | rw [if_neg (by decide)])); (try rw [ex_99]); (try rw [ex_99]); first | done | rfl)), (show q_98 = zTr gtr nra.toInt (zBp (gki p_.toNatClampNeg).toInt) from by (have hk : (gki p_.toNatClampNeg).toInt = 5 := (by rw [← ex_1]; first | done | decide); have zbp0 : ((zBp 5).length : Int) = 1 := rfl; have zbf1 : ((zBf 5).length : Int) = 3 := rfl; have zbr2 : ((zBr 5).length : Int) = 6 := rfl; rw [hsr_95_0]; (try rw [hk]); first | done | rfl)), (show q_97.toInt = nra.toInt + ((zBp (gki p_.toNatClampNeg).toInt).length : Nat) from by (have hk : (gki p_.toNatClampNeg).toInt = 5 := (by rw [← ex_1]; first | done | decide); have zp : ((zBp 5).length : Int) = 1 := rfl; have zf : ((zBf 5).length : Int) = 3 := rfl; have zr : ((zBr 5).length : Int) = 6 := rfl; rw [hk]; omega)), trivial⟩, zRet ht hP hD [2, 0, 1, 3] (by decide) rfl⟩, hS.F ht⟩) hS.2.2 dX8_pulling_116
                      · exact absurd c_104 (by decide)
                    · exact absurd c_103 (by decide)
                · exact absurd c_101 (by decide)
            · exact absurd c_94 (by decide)
        · exact absurd c_92 (by decide)
    · exact absurd c_90 (by decide)
  · have kc6 : (6 : Int32).toInt = 6 := by decide
    refine lv_iload_n hx hb dX8_pulling_7 rfl (lv_at hl 0 rfl) ?_
    refine lv_bipush (v := 6) hx hb dX8_pulling_8 (by decide) ?_
    refine lv_icmp_ne (tgt := 19) hx hb dX8_pulling_10 (by decide) (fun c_105 => ?_) (fun c_105 => ?_)
    · exact absurd c_105 (by decide)
    · refine lv_aload_n hx hb dX8_pulling_13 rfl (lv_at hl 1 rfl) ?_
      refine lv_bipush (v := 70) hx hb dX8_pulling_14 (by decide) ?_
      skip
      refine zw_Vv (As := [.int 70]) (rest := []) (wr := [(mki, .inl (cI, 8, .inl gki)), (mpa, .inl (cI, 8, .inl gpa))]) ⟨hx, hb, hml, hown, hts⟩ (c_F_M_body l D cI cJ cZ cP cS po m0 mrf mki mpa mta mla msl mco mhe mso msi msh mce mca mwo mnu mte mwa mke mma mth mtr (npu) (nte) (nat_) (nde) (nto) (nse) (nhu) (nga) (nsd) (nfa) (nba) (npl) (nen) (nnu) (nwr) (nra) (nik) gtr (70) hy0 hy1 hy2 hy3 hy4 hy5 hy6 hy7 hy8 hy9 hy10 hy11 hy12 hy13 hy10 hy11 H.size) (cwV 1 hts gX8_pulling_X8_body rfl rfl rfl ⟨rfl, dh_X8_body⟩ ⟨Nat.le_of_ble_eq_true rfl, Nat.le_of_ble_eq_true rfl⟩) hK hN (hZ.kept hS) hP hD hS hA [0, 3] [1, 2] rfl rfl (by decide) (by decide) (by decide) (va_recv (q := (RX8, TX8, 38)) hK hP (ci := 8) (q0 := 0) rfl rfl) rfl hl.1 rfl (Nat.le_of_ble_eq_true rfl) dX8_pulling_16 ⟨Nat.le_of_ble_eq_true rfl, Nat.le_of_ble_eq_true rfl⟩ (fun u_107 H locs hr_106 hP hD hS => ?_)
      obtain ⟨q_108, q_109⟩ := u_107
      try dsimp only at hr_106
      obtain ⟨hbq_108, hsr_106_0, hr_106⟩ := hr_106
      have h9R := zRe (ws' := [(mki, .inl (cI, 8, .inl gki)), (mpa, .inl (cI, 8, .inl gpa)), (zMO m0 npu nte nat_ nde nto nse nhu nga nsd nfa mrf mki mpa mta mla msl mco mhe mso msi msh mce mca mwo mnu mte nba npl nen nnu nwr mwa mke mma mth mtr q_108 nik), (mtr, .inl (cI, 20, .inl q_109))]) hP hD rfl
      clear hP hD
      obtain ⟨hP, hD⟩ := h9R
      refine lv_iload_n hx hb dX8_pulling_19 rfl (lv_at hl 0 rfl) ?_
      refine lv_iconst (v := 4) hx hb dX8_pulling_20 (by decide) ?_
      refine lv_icmp_eq (tgt := 30) hx hb dX8_pulling_21 (by decide) (fun c_110 => ?_) (fun c_110 => ?_)
      · exact absurd c_110 (by decide)
      · refine lv_iload_n hx hb dX8_pulling_24 rfl (lv_at hl 0 rfl) ?_
        refine lv_bipush (v := 6) hx hb dX8_pulling_25 (by decide) ?_
        refine lv_icmp_ne (tgt := 36) hx hb dX8_pulling_27 (by decide) (fun c_111 => ?_) (fun c_111 => ?_)
        · exact absurd c_111 (by decide)
        · refine lv_aload_n hx hb dX8_pulling_30 rfl (lv_at hl 1 rfl) ?_
          refine lv_bipush (v := 51) hx hb dX8_pulling_31 (by decide) ?_
          skip
          refine zw_Vv (As := [.int 51]) (rest := []) (wr := [(mki, .inl (cI, 8, .inl gki)), (mpa, .inl (cI, 8, .inl gpa))]) ⟨hx, hb, hml, hown, hts⟩ (c_F_M_body l D cI cJ cZ cP cS po m0 mrf mki mpa mta mla msl mco mhe mso msi msh mce mca mwo mnu mte mwa mke mma mth mtr (npu) (nte) (nat_) (nde) (nto) (nse) (nhu) (nga) (nsd) (nfa) (nba) (npl) (nen) (nnu) (nwr) (q_108) (nik) q_109 (51) hy0 hy1 hy2 hy3 hy4 hy5 hy6 hy7 hy8 hy9 (by omega) (by omega) hy12 hy13 (by omega) (by omega) H.size) (cwV 1 hts gX8_pulling_X8_body rfl rfl rfl ⟨rfl, dh_X8_body⟩ ⟨Nat.le_of_ble_eq_true rfl, Nat.le_of_ble_eq_true rfl⟩) hK hN (hZ.kept hS) hP hD hS hA [2, 3] [0, 1] rfl rfl (by decide) (by decide) (by decide) (va_recv (q := (RX8, TX8, 38)) hK hP (ci := 8) (q0 := 2) rfl rfl) rfl hl.1 rfl (Nat.le_of_ble_eq_true rfl) dX8_pulling_33 ⟨Nat.le_of_ble_eq_true rfl, Nat.le_of_ble_eq_true rfl⟩ (fun u_113 H locs hr_112 hP hD hS => ?_)
          obtain ⟨q_114, q_115⟩ := u_113
          try dsimp only at hr_112
          obtain ⟨hbq_114, hsr_112_0, hr_112⟩ := hr_112
          have h9R := zRe (ws' := [(mki, .inl (cI, 8, .inl gki)), (mpa, .inl (cI, 8, .inl gpa)), (zMO m0 npu nte nat_ nde nto nse nhu nga nsd nfa mrf mki mpa mta mla msl mco mhe mso msi msh mce mca mwo mnu mte nba npl nen nnu nwr mwa mke mma mth mtr q_114 nik), (mtr, .inl (cI, 20, .inl q_115))]) hP hD rfl
          clear hP hD
          obtain ⟨hP, hD⟩ := h9R
          refine lv_iload_n hx hb dX8_pulling_36 rfl (lv_at hl 0 rfl) ?_
          refine lv_iconst (v := 1) hx hb dX8_pulling_37 (by decide) ?_
          refine lv_icmp_eq (tgt := 46) hx hb dX8_pulling_38 (by decide) (fun c_116 => ?_) (fun c_116 => ?_)
          · exact absurd c_116 (by decide)
          · refine lv_iload_n hx hb dX8_pulling_41 rfl (lv_at hl 0 rfl) ?_
            refine lv_iconst (v := 3) hx hb dX8_pulling_42 (by decide) ?_
            refine lv_icmp_ne (tgt := 52) hx hb dX8_pulling_43 (by decide) (fun c_117 => ?_) (fun c_117 => ?_)
            · refine lv_aload_n hx hb dX8_pulling_52 rfl (lv_at hl 1 rfl) ?_
              refine lv_bipush (v := 10) hx hb dX8_pulling_53 (by decide) ?_
              skip
              refine zw_Vv (As := [.int 10]) (rest := []) (wr := [(mki, .inl (cI, 8, .inl gki)), (mpa, .inl (cI, 8, .inl gpa))]) ⟨hx, hb, hml, hown, hts⟩ (c_F_M_body l D cI cJ cZ cP cS po m0 mrf mki mpa mta mla msl mco mhe mso msi msh mce mca mwo mnu mte mwa mke mma mth mtr (npu) (nte) (nat_) (nde) (nto) (nse) (nhu) (nga) (nsd) (nfa) (nba) (npl) (nen) (nnu) (nwr) (q_114) (nik) q_115 (10) hy0 hy1 hy2 hy3 hy4 hy5 hy6 hy7 hy8 hy9 (by omega) (by omega) hy12 hy13 (by omega) (by omega) H.size) (cwV 1 hts gX8_pulling_X8_body rfl rfl rfl ⟨rfl, dh_X8_body⟩ ⟨Nat.le_of_ble_eq_true rfl, Nat.le_of_ble_eq_true rfl⟩) hK hN (hZ.kept hS) hP hD hS hA [2, 3] [0, 1] rfl rfl (by decide) (by decide) (by decide) (va_recv (q := (RX8, TX8, 38)) hK hP (ci := 8) (q0 := 2) rfl rfl) rfl hl.1 rfl (Nat.le_of_ble_eq_true rfl) dX8_pulling_55 ⟨Nat.le_of_ble_eq_true rfl, Nat.le_of_ble_eq_true rfl⟩ (fun u_119 H locs hr_118 hP hD hS => ?_)
              obtain ⟨q_120, q_121⟩ := u_119
              try dsimp only at hr_118
              obtain ⟨hbq_120, hsr_118_0, hr_118⟩ := hr_118
              have h9R := zRe (ws' := [(mki, .inl (cI, 8, .inl gki)), (mpa, .inl (cI, 8, .inl gpa)), (zMO m0 npu nte nat_ nde nto nse nhu nga nsd nfa mrf mki mpa mta mla msl mco mhe mso msi msh mce mca mwo mnu mte nba npl nen nnu nwr mwa mke mma mth mtr q_120 nik), (mtr, .inl (cI, 20, .inl q_121))]) hP hD rfl
              clear hP hD
              obtain ⟨hP, hD⟩ := h9R
              refine lv_iload_n hx hb dX8_pulling_58 rfl (lv_at hl 3 rfl) ?_
              refine lv_iload_n hx hb dX8_pulling_59 rfl (lv_at hl 2 rfl) ?_
              refine lv_iadd hx hb dX8_pulling_60 ?_
              refine lv_topi (fun x_122 ex_122 => ?_)
              refine lv_istore (lv' := [(4, .int x_122), (3, .int 6), (0, .ref m0), (1, .int p_), (2, .int x)]) hx hb dX8_pulling_61 hl (by decide) rfl (fun ls hl => ?_)
              refine lv_iload_n hx hb dX8_pulling_63 rfl (lv_at hl 1 rfl) ?_
              refine lv_iconst (v := 1) hx hb dX8_pulling_64 (by decide) ?_
              refine lv_icmp_eq (tgt := 73) hx hb dX8_pulling_65 (by decide) (fun c_123 => ?_) (fun c_123 => ?_)
              · exact absurd c_123 (by decide)
              · refine lv_iload_n hx hb dX8_pulling_68 rfl (lv_at hl 1 rfl) ?_
                refine lv_iconst (v := 3) hx hb dX8_pulling_69 (by decide) ?_
                refine lv_icmp_ne (tgt := 84) hx hb dX8_pulling_70 (by decide) (fun c_124 => ?_) (fun c_124 => ?_)
                · refine lv_iload_n hx hb dX8_pulling_84 rfl (lv_at hl 1 rfl) ?_
                  refine lv_iconst (v := 4) hx hb dX8_pulling_85 (by decide) ?_
                  refine lv_icmp_eq (tgt := 95) hx hb dX8_pulling_86 (by decide) (fun c_125 => ?_) (fun c_125 => ?_)
                  · exact absurd c_125 (by decide)
                  · refine lv_iload_n hx hb dX8_pulling_89 rfl (lv_at hl 1 rfl) ?_
                    refine lv_bipush (v := 6) hx hb dX8_pulling_90 (by decide) ?_
                    refine lv_icmp_ne (tgt := 101) hx hb dX8_pulling_92 (by decide) (fun c_126 => ?_) (fun c_126 => ?_)
                    · exact absurd c_126 (by decide)
                    · refine lv_iload hx hb dX8_pulling_95 (lv_at hl 0 rfl) ?_
                      refine lv_iload_n hx hb dX8_pulling_97 rfl (lv_at hl 3 rfl) ?_
                      refine lv_isub hx hb dX8_pulling_98 ?_
                      refine lv_topi (fun x_127 ex_127 => ?_)
                      refine lv_istore (lv' := [(4, .int x_127), (3, .int 6), (0, .ref m0), (1, .int p_), (2, .int x)]) hx hb dX8_pulling_99 hl (by decide) rfl (fun ls hl => ?_)
                      refine lv_iload_n hx hb dX8_pulling_101 rfl (lv_at hl 1 rfl) ?_
                      refine lv_bipush (v := 6) hx hb dX8_pulling_102 (by decide) ?_
                      refine lv_icmp_ne (tgt := 114) hx hb dX8_pulling_104 (by decide) (fun c_128 => ?_) (fun c_128 => ?_)
                      · exact absurd c_128 (by decide)
                      · refine lv_iload hx hb dX8_pulling_107 (lv_at hl 0 rfl) ?_
                        refine lv_iconst (v := 2) hx hb dX8_pulling_109 (by decide) ?_
                        refine lv_imul hx hb dX8_pulling_110 ?_
                        refine lv_topi (fun x_129 ex_129 => ?_)
                        refine lv_goto (tgt := 116) hx hb dX8_pulling_111 (by decide) ?_
                        exact W.iret (v := x_129) hx hb hr (fun t ht hW => ⟨⟨x_129, (q_120, q_121), rfl, ⟨(show 0 ≤ q_120.toInt ∧ q_120.toInt ≤ 2000 from ⟨by omega, by omega⟩), (show (x_129 : Int32) = zQp (gki p_.toNatClampNeg).toInt x p_ (gpa p_.toNatClampNeg) from by (have hk : (gki p_.toNatClampNeg).toInt = 6 := (by rw [← ex_1]; first | done | decide); rw [hk]; unfold zQp; (repeat (first | rw [if_pos (by decide)] | rw [if_neg (by decide)])); (try rw [ex_129]); (try rw [ex_127]); (try rw [ex_122]); (try rw [ex_129]); (try rw [ex_127]); (try rw [ex_122]); first | done | rfl)), (show q_121 = zTr gtr nra.toInt (zBp (gki p_.toNatClampNeg).toInt) from by (have hk : (gki p_.toNatClampNeg).toInt = 6 := (by rw [← ex_1]; first | done | decide); have zbp0 : ((zBp 6).length : Int) = 3 := rfl; have zbf1 : ((zBf 6).length : Int) = 5 := rfl; have zbr2 : ((zBr 6).length : Int) = 10 := rfl; rw [hsr_118_0]; rw [hsr_112_0]; rw [hsr_106_0]; rw [zTr_app (by first | omega | (simp; omega) | (show _ = _ + 1; omega))]; rw [zTr_app (by first | omega | (simp; omega) | (show _ = _ + 1; omega))]; (try rw [hk]); first | done | rfl)), (show q_120.toInt = nra.toInt + ((zBp (gki p_.toNatClampNeg).toInt).length : Nat) from by (have hk : (gki p_.toNatClampNeg).toInt = 6 := (by rw [← ex_1]; first | done | decide); have zp : ((zBp 6).length : Int) = 3 := rfl; have zf : ((zBf 6).length : Int) = 5 := rfl; have zr : ((zBr 6).length : Int) = 10 := rfl; rw [hk]; omega)), trivial⟩, zRet ht hP hD [2, 0, 1, 3] (by decide) rfl⟩, hS.F ht⟩) hS.2.2 dX8_pulling_116
                · exact absurd c_124 (by decide)
            · exact absurd c_117 (by decide)
set_option maxHeartbeats 4000000 in
set_option maxRecDepth 100000 in
theorem c_F_M_freeing (l : Launch) (D : va_G) (cI cJ cZ cP cS : ClassId) (po : zPool) (m0 mrf mki mpa mta mla msl mco mhe mso msi msh mce mca mwo mnu mte mwa mke mma mth mtr : Nat) (npu nte nat_ nde nto nse nhu nga nsd nfa nba npl nen nnu nwr nra nik : Int32) (gki gpa gtr : Nat → Int32) (p_ x : Int32) (hy0 : 0 ≤ npu.toInt) (hy1 : npu.toInt ≤ 8) (hy2 : 4 ≤ nte.toInt) (hy3 : nte.toInt ≤ 40) (hy4 : 0 ≤ nat_.toInt) (hy5 : nat_.toInt ≤ 40) (hy6 : 0 ≤ nde.toInt) (hy7 : nde.toInt ≤ 24) (hy8 : 0 ≤ nhu.toInt) (hy9 : nhu.toInt ≤ 9) (hy10 : 0 ≤ nra.toInt) (hy11 : nra.toInt ≤ 2000) (hy12 : 0 ≤ nik.toInt) (hy13 : nik.toInt ≤ 1) (hy14 : 0 ≤ p_.toInt) (hy15 : p_.toInt ≤ 7) (hy16 : 0 ≤ nra.toInt) (hy17 : nra.toInt ≤ 900) (hp_gki : zRg gki (0) 6) (hp_gpa : zRg gpa (0) 9) (hpz : Nat) : Met l yX8_freeing wsX8_freeing ({ frames := 2, cells := 0, slots := 0, locals := 45 }) (va_Pc [.ref m0, .int p_, .int x] (zW D (zKT cI cJ cZ cP cS) po [(zMO m0 npu nte nat_ nde nto nse nhu nga nsd nfa mrf mki mpa mta mla msl mco mhe mso msi msh mce mca mwo mnu mte nba npl nen nnu nwr mwa mke mma mth mtr nra nik), (mki, .inl (cI, 8, .inl gki)), (mpa, .inl (cI, 8, .inl gpa)), (mtr, .inl (cI, 20, .inl gtr))] hpz)) (va_Qi (fun (r : Int32) (u : (Int32) × (Nat → Int32)) => (0 ≤ u.1.toInt ∧ u.1.toInt ≤ 2000) ∧ (r = zQf (gki p_.toNatClampNeg).toInt x p_ (gpa p_.toNatClampNeg)) ∧ (u.2 = zTr gtr nra.toInt (zBf (gki p_.toNatClampNeg).toInt)) ∧ (u.1.toInt = nra.toInt + ((zBf (gki p_.toNatClampNeg).toInt).length : Nat)) ∧ (True)) (zB D [(zMO m0 npu nte nat_ nde nto nse nhu nga nsd nfa mrf mki mpa mta mla msl mco mhe mso msi msh mce mca mwo mnu mte nba npl nen nnu nwr mwa mke mma mth mtr nra nik), (mki, .inl (cI, 8, .inl gki)), (mpa, .inl (cI, 8, .inl gpa)), (mtr, .inl (cI, 20, .inl gtr))] hpz (fun (u : (Int32) × (Nat → Int32)) => [(zMO m0 npu nte nat_ nde nto nse nhu nga nsd nfa mrf mki mpa mta mla msl mco mhe mso msi msh mce mca mwo mnu mte nba npl nen nnu nwr mwa mke mma mth mtr u.1 nik), (mki, .inl (cI, 8, .inl gki)), (mpa, .inl (cI, 8, .inl gpa)), (mtr, .inl (cI, 20, .inl u.2))])) (va_A [(zMO m0 npu nte nat_ nde nto nse nhu nga nsd nfa mrf mki mpa mta mla msl mco mhe mso msi msh mce mca mwo mnu mte nba npl nen nnu nwr mwa mke mma mth mtr nra nik), (mki, .inl (cI, 8, .inl gki)), (mpa, .inl (cI, 8, .inl gpa)), (mtr, .inl (cI, 20, .inl gtr))] hpz)) 0 0 (va_A [(zMO m0 npu nte nat_ nde nto nse nhu nga nsd nfa mrf mki mpa mta mla msl mco mhe mso msi msh mce mca mwo mnu mte nba npl nen nnu nwr mwa mke mma mth mtr nra nik), (mki, .inl (cI, 8, .inl gki)), (mpa, .inl (cI, 8, .inl gpa)), (mtr, .inl (cI, 20, .inl gtr))] hpz) := by
  refine Met.ofW (cc := cX8_freeing) (maxL := 7) (ret := (some .int)) (by decide) rfl ?_
  intro p e s m args below meth c s₁ B hml hv
  obtain ⟨rfl, hsz, hP, hK, hD0, hN, hZ⟩ := hv
  have hx := B.exec
  have hb := B.bytes
  have hr := B.returns
  have hts := atoms_spec (ws := wsX8_freeing) B.pre
  have hown : s.vm.findClass RX8 = some m.cls := findClass_of_methodNamed B.named
  have hlocks := B.notSynchronized
  subst hsz
  have hD := hD0.self (sz := s.heap.size)
  have hA := zA_of hD
  have hl := lv_entry ([.ref m0, .int p_, .int x]) (n := 7) (Nat.le_of_ble_eq_true rfl)
  rw [lg_entry_eq]
  generalize (lg_sl ([.ref m0, .int p_, .int x]) ++ List.replicate (7 - (lg_sl ([.ref m0, .int p_, .int x])).length) Slot.unset).toArray = ls at hl ⊢
  replace hl : lv_has ls 7 [(0, .ref m0), (1, .int p_), (2, .int x)] := hl
  refine zw_begin hP hD (fun H locs hP1 hS => ?_)
  clear hP
  have hP := hP1
  clear hP1
  refine lv_aload_n hx hb dX8_freeing_0 rfl (lv_at hl 0 rfl) ?_
  refine va_get (D := D) (ci := 8) (v := .ref mki) (C := RX8) (T := TX8) (N := 38) hx hb hts hi_X8_freeing_8 hown hK hP 0 rfl rfl 11 (by decide) (hts (.fieldLink RX8 29 "TheLiningsInItModel" "kind" "[I") (List.mem_of_getElem? (i := 1) rfl)) (fun _ h9 => h9) rfl dX8_freeing_1 ?_
  refine lv_iload_n hx hb dX8_freeing_4 rfl (lv_at hl 1 rfl) ?_
  refine va_iald hx hb hK hP 1 0 rfl rfl (zf_in (by omega) (by omega)) dX8_freeing_5 ?_
  refine lv_topi (fun x_1 ex_1 => ?_)
  have bx_1 : 0 ≤ x_1.toInt ∧ x_1.toInt ≤ 6 := by rw [ex_1]; exact hp_gki _
  refine lv_istore_n (lv' := [(3, .int x_1), (0, .ref m0), (1, .int p_), (2, .int x)]) hx hb dX8_freeing_6 rfl hl (by decide) rfl (fun ls hl => ?_)
  have hsp : x_1 = 0 ∨ x_1 = 1 ∨ x_1 = 2 ∨ x_1 = 3 ∨ x_1 = 4 ∨ x_1 = 5 ∨ x_1 = 6 := by
    rcases (show x_1.toInt = 0 ∨ x_1.toInt = 1 ∨ x_1.toInt = 2 ∨ x_1.toInt = 3 ∨ x_1.toInt = 4 ∨ x_1.toInt = 5 ∨ x_1.toInt = 6 by omega) with h9 | h9 | h9 | h9 | h9 | h9 | h9
    · refine Or.inl ?_; exact zf_val h9 (by decide)
    · refine Or.inr (Or.inl ?_); exact zf_val h9 (by decide)
    · refine Or.inr (Or.inr (Or.inl ?_)); exact zf_val h9 (by decide)
    · refine Or.inr (Or.inr (Or.inr (Or.inl ?_))); exact zf_val h9 (by decide)
    · refine Or.inr (Or.inr (Or.inr (Or.inr (Or.inl ?_)))); exact zf_val h9 (by decide)
    · refine Or.inr (Or.inr (Or.inr (Or.inr (Or.inr (Or.inl ?_))))); exact zf_val h9 (by decide)
    · refine Or.inr (Or.inr (Or.inr (Or.inr (Or.inr (Or.inr (?_)))))); exact zf_val h9 (by decide)
  rcases hsp with rfl | rfl | rfl | rfl | rfl | rfl | rfl
  · have kc0 : (0 : Int32).toInt = 0 := by decide
    refine lv_iload_n hx hb dX8_freeing_7 rfl (lv_at hl 3 rfl) ?_
    refine lv_istore (lv' := [(4, .int x), (3, .int 0), (0, .ref m0), (1, .int p_), (2, .int x)]) hx hb dX8_freeing_8 hl (by decide) rfl (fun ls hl => ?_)
    refine lv_iload_n hx hb dX8_freeing_10 rfl (lv_at hl 1 rfl) ?_
    refine lv_bipush (v := 6) hx hb dX8_freeing_11 (by decide) ?_
    refine lv_icmp_ne (tgt := 32) hx hb dX8_freeing_13 (by decide) (fun c_2 => ?_) (fun c_2 => ?_)
    · refine lv_iload_n hx hb dX8_freeing_32 rfl (lv_at hl 1 rfl) ?_
      refine lv_iconst (v := 3) hx hb dX8_freeing_33 (by decide) ?_
      refine lv_icmp_ne (tgt := 48) hx hb dX8_freeing_34 (by decide) (fun c_3 => ?_) (fun c_3 => ?_)
      · refine lv_iload_n hx hb dX8_freeing_48 rfl (lv_at hl 1 rfl) ?_
        refine lv_iconst (v := 2) hx hb dX8_freeing_49 (by decide) ?_
        refine lv_icmp_eq (tgt := 58) hx hb dX8_freeing_50 (by decide) (fun c_4 => ?_) (fun c_4 => ?_)
        · exact absurd c_4 (by decide)
        · refine lv_iload_n hx hb dX8_freeing_53 rfl (lv_at hl 1 rfl) ?_
          refine lv_iconst (v := 5) hx hb dX8_freeing_54 (by decide) ?_
          refine lv_icmp_ne (tgt := 62) hx hb dX8_freeing_55 (by decide) (fun c_5 => ?_) (fun c_5 => ?_)
          · refine lv_iconst (v := 0) hx hb dX8_freeing_62 (by decide) ?_
            refine lv_istore (lv' := [(5, .int 0), (4, .int x), (3, .int 0), (0, .ref m0), (1, .int p_), (2, .int x)]) hx hb dX8_freeing_63 hl (by decide) rfl (fun ls hl => ?_)
            refine lv_iload hx hb dX8_freeing_65 (lv_at hl 0 rfl) ?_
            refine lv_if_eq (tgt := 76) hx hb dX8_freeing_67 (by decide) (fun c_6 => ?_) (fun c_6 => ?_)
            · refine lv_aload_n hx hb dX8_freeing_76 rfl (lv_at hl 3 rfl) ?_
              refine lv_bipush (v := 11) hx hb dX8_freeing_77 (by decide) ?_
              skip
              refine zw_Vv (As := [.int 11]) (rest := []) (wr := [(mki, .inl (cI, 8, .inl gki)), (mpa, .inl (cI, 8, .inl gpa))]) ⟨hx, hb, hml, hown, hts⟩ (c_F_M_body l D cI cJ cZ cP cS po m0 mrf mki mpa mta mla msl mco mhe mso msi msh mce mca mwo mnu mte mwa mke mma mth mtr (npu) (nte) (nat_) (nde) (nto) (nse) (nhu) (nga) (nsd) (nfa) (nba) (npl) (nen) (nnu) (nwr) (nra) (nik) gtr (11) hy0 hy1 hy2 hy3 hy4 hy5 hy6 hy7 hy8 hy9 hy10 hy11 hy12 hy13 hy10 hy11 H.size) (cwV 1 hts gX8_freeing_X8_body rfl rfl rfl ⟨rfl, dh_X8_body⟩ ⟨Nat.le_of_ble_eq_true rfl, Nat.le_of_ble_eq_true rfl⟩) hK hN (hZ.kept hS) hP hD hS hA [0, 3] [1, 2] rfl rfl (by decide) (by decide) (by decide) (va_recv (q := (RX8, TX8, 38)) hK hP (ci := 8) (q0 := 0) rfl rfl) rfl hl.1 rfl (Nat.le_of_ble_eq_true rfl) dX8_freeing_79 ⟨Nat.le_of_ble_eq_true rfl, Nat.le_of_ble_eq_true rfl⟩ (fun u_8 H locs hr_7 hP hD hS => ?_)
              obtain ⟨q_9, q_10⟩ := u_8
              try dsimp only at hr_7
              obtain ⟨hbq_9, hsr_7_0, hr_7⟩ := hr_7
              have h9R := zRe (ws' := [(mki, .inl (cI, 8, .inl gki)), (mpa, .inl (cI, 8, .inl gpa)), (zMO m0 npu nte nat_ nde nto nse nhu nga nsd nfa mrf mki mpa mta mla msl mco mhe mso msi msh mce mca mwo mnu mte nba npl nen nnu nwr mwa mke mma mth mtr q_9 nik), (mtr, .inl (cI, 20, .inl q_10))]) hP hD rfl
              clear hP hD
              obtain ⟨hP, hD⟩ := h9R
              refine lv_aload_n hx hb dX8_freeing_82 rfl (lv_at hl 3 rfl) ?_
              refine lv_iload_n hx hb dX8_freeing_83 rfl (lv_at hl 4 rfl) ?_
              refine lv_iload hx hb dX8_freeing_84 (lv_at hl 1 rfl) ?_
              skip
              refine zw_V (As := [.int p_, .int x]) (rest := []) (wr := []) ⟨hx, hb, hml, hown, hts⟩ (c_F_M_pulling l D cI cJ cZ cP cS po m0 mrf mki mpa mta mla msl mco mhe mso msi msh mce mca mwo mnu mte mwa mke mma mth mtr (npu) (nte) (nat_) (nde) (nto) (nse) (nhu) (nga) (nsd) (nfa) (nba) (npl) (nen) (nnu) (nwr) (q_9) (nik) gki gpa q_10 (p_) (x) hy0 hy1 hy2 hy3 hy4 hy5 hy6 hy7 hy8 hy9 (by omega) (by omega) hy12 hy13 hy14 hy15 (by omega) (by omega) hp_gki hp_gpa H.size) (cwV 2 hts gX8_freeing_X8_pulling rfl rfl rfl ⟨rfl, dh_X8_pulling⟩ ⟨Nat.le_of_ble_eq_true rfl, Nat.le_of_ble_eq_true rfl⟩) hK hN (hZ.kept hS) hP hD hS hA [2, 0, 1, 3] [] rfl rfl (by decide) (by decide) (by decide) (va_recv (q := (RX8, TX8, 38)) hK hP (ci := 8) (q0 := 2) rfl rfl) rfl hl.1 rfl (Nat.le_of_ble_eq_true rfl) dX8_freeing_86 ⟨Nat.le_of_ble_eq_true rfl, Nat.le_of_ble_eq_true rfl⟩ (fun r_11 u_12 H locs hr_11 hP hD hS => ?_)
              obtain ⟨q_13, q_14⟩ := u_12
              try dsimp only at hr_11
              obtain ⟨hbq_13, hsr_11_0, hsr_11_1, hsr_11_2, hr_11⟩ := hr_11
              have h9R := zRe (ws' := [(zMO m0 npu nte nat_ nde nto nse nhu nga nsd nfa mrf mki mpa mta mla msl mco mhe mso msi msh mce mca mwo mnu mte nba npl nen nnu nwr mwa mke mma mth mtr q_13 nik), (mki, .inl (cI, 8, .inl gki)), (mpa, .inl (cI, 8, .inl gpa)), (mtr, .inl (cI, 20, .inl q_14))]) hP hD rfl
              clear hP hD
              obtain ⟨hP, hD⟩ := h9R
              refine lv_iconst (v := 2) hx hb dX8_freeing_89 (by decide) ?_
              refine lv_imul hx hb dX8_freeing_90 ?_
              refine lv_topi (fun x_15 ex_15 => ?_)
              refine lv_istore (lv' := [(6, .int x_15), (5, .int 0), (4, .int x), (3, .int 0), (0, .ref m0), (1, .int p_), (2, .int x)]) hx hb dX8_freeing_91 hl (by decide) rfl (fun ls hl => ?_)
              refine lv_iload hx hb dX8_freeing_93 (lv_at hl 1 rfl) ?_
              refine lv_if_eq (tgt := 105) hx hb dX8_freeing_95 (by decide) (fun c_16 => ?_) (fun c_16 => ?_)
              · refine lv_iload hx hb dX8_freeing_105 (lv_at hl 0 rfl) ?_
                exact W.iret (v := x_15) hx hb hr (fun t ht hW => ⟨⟨x_15, (q_13, q_14), rfl, ⟨(show 0 ≤ q_13.toInt ∧ q_13.toInt ≤ 2000 from hbq_13), (show (x_15 : Int32) = zQf (gki p_.toNatClampNeg).toInt x p_ (gpa p_.toNatClampNeg) from by (have hk : (gki p_.toNatClampNeg).toInt = 0 := (by rw [← ex_1]; first | done | decide); rw [hk]; unfold zQf; (repeat (first | rw [if_pos (by decide)] | rw [if_neg (by decide)])); (try rw [ex_15]); (try rw [hsr_11_0, hk]); (try rw [ex_15]); first | done | rfl)), (show q_14 = zTr gtr nra.toInt (zBf (gki p_.toNatClampNeg).toInt) from by (have hk : (gki p_.toNatClampNeg).toInt = 0 := (by rw [← ex_1]; first | done | decide); have zbp0 : ((zBp 0).length : Int) = 1 := rfl; have zbf1 : ((zBf 0).length : Int) = 2 := rfl; have zbr2 : ((zBr 0).length : Int) = 4 := rfl; have q0 := hsr_11_2; rw [hk] at q0; rw [hsr_11_1, hk]; rw [hsr_7_0]; rw [zTr_app (by first | omega | (simp; omega) | (show _ = _ + 1; omega))]; (try rw [hk]); first | done | rfl)), (show q_13.toInt = nra.toInt + ((zBf (gki p_.toNatClampNeg).toInt).length : Nat) from by (have hk : (gki p_.toNatClampNeg).toInt = 0 := (by rw [← ex_1]; first | done | decide); have zp : ((zBp 0).length : Int) = 1 := rfl; have zf : ((zBf 0).length : Int) = 2 := rfl; have zr : ((zBr 0).length : Int) = 4 := rfl; have q0 := hsr_11_2; rw [hk] at q0; rw [hk]; omega)), trivial⟩, zRet ht hP hD [0, 1, 2, 3] (by decide) rfl⟩, hS.F ht⟩) hS.2.2 dX8_freeing_107
              · exact absurd c_16 (by decide)
            · exact absurd c_6 (by decide)
          · exact absurd c_5 (by decide)
      · exact absurd c_3 (by decide)
    · exact absurd c_2 (by decide)
  · have kc1 : (1 : Int32).toInt = 1 := by decide
    refine lv_iload_n hx hb dX8_freeing_7 rfl (lv_at hl 3 rfl) ?_
    refine lv_istore (lv' := [(4, .int x), (3, .int 1), (0, .ref m0), (1, .int p_), (2, .int x)]) hx hb dX8_freeing_8 hl (by decide) rfl (fun ls hl => ?_)
    refine lv_iload_n hx hb dX8_freeing_10 rfl (lv_at hl 1 rfl) ?_
    refine lv_bipush (v := 6) hx hb dX8_freeing_11 (by decide) ?_
    refine lv_icmp_ne (tgt := 32) hx hb dX8_freeing_13 (by decide) (fun c_17 => ?_) (fun c_17 => ?_)
    · refine lv_iload_n hx hb dX8_freeing_32 rfl (lv_at hl 1 rfl) ?_
      refine lv_iconst (v := 3) hx hb dX8_freeing_33 (by decide) ?_
      refine lv_icmp_ne (tgt := 48) hx hb dX8_freeing_34 (by decide) (fun c_18 => ?_) (fun c_18 => ?_)
      · refine lv_iload_n hx hb dX8_freeing_48 rfl (lv_at hl 1 rfl) ?_
        refine lv_iconst (v := 2) hx hb dX8_freeing_49 (by decide) ?_
        refine lv_icmp_eq (tgt := 58) hx hb dX8_freeing_50 (by decide) (fun c_19 => ?_) (fun c_19 => ?_)
        · exact absurd c_19 (by decide)
        · refine lv_iload_n hx hb dX8_freeing_53 rfl (lv_at hl 1 rfl) ?_
          refine lv_iconst (v := 5) hx hb dX8_freeing_54 (by decide) ?_
          refine lv_icmp_ne (tgt := 62) hx hb dX8_freeing_55 (by decide) (fun c_20 => ?_) (fun c_20 => ?_)
          · refine lv_iconst (v := 0) hx hb dX8_freeing_62 (by decide) ?_
            refine lv_istore (lv' := [(5, .int 0), (4, .int x), (3, .int 1), (0, .ref m0), (1, .int p_), (2, .int x)]) hx hb dX8_freeing_63 hl (by decide) rfl (fun ls hl => ?_)
            refine lv_iload hx hb dX8_freeing_65 (lv_at hl 0 rfl) ?_
            refine lv_if_eq (tgt := 76) hx hb dX8_freeing_67 (by decide) (fun c_21 => ?_) (fun c_21 => ?_)
            · refine lv_aload_n hx hb dX8_freeing_76 rfl (lv_at hl 3 rfl) ?_
              refine lv_bipush (v := 11) hx hb dX8_freeing_77 (by decide) ?_
              skip
              refine zw_Vv (As := [.int 11]) (rest := []) (wr := [(mki, .inl (cI, 8, .inl gki)), (mpa, .inl (cI, 8, .inl gpa))]) ⟨hx, hb, hml, hown, hts⟩ (c_F_M_body l D cI cJ cZ cP cS po m0 mrf mki mpa mta mla msl mco mhe mso msi msh mce mca mwo mnu mte mwa mke mma mth mtr (npu) (nte) (nat_) (nde) (nto) (nse) (nhu) (nga) (nsd) (nfa) (nba) (npl) (nen) (nnu) (nwr) (nra) (nik) gtr (11) hy0 hy1 hy2 hy3 hy4 hy5 hy6 hy7 hy8 hy9 hy10 hy11 hy12 hy13 hy10 hy11 H.size) (cwV 1 hts gX8_freeing_X8_body rfl rfl rfl ⟨rfl, dh_X8_body⟩ ⟨Nat.le_of_ble_eq_true rfl, Nat.le_of_ble_eq_true rfl⟩) hK hN (hZ.kept hS) hP hD hS hA [0, 3] [1, 2] rfl rfl (by decide) (by decide) (by decide) (va_recv (q := (RX8, TX8, 38)) hK hP (ci := 8) (q0 := 0) rfl rfl) rfl hl.1 rfl (Nat.le_of_ble_eq_true rfl) dX8_freeing_79 ⟨Nat.le_of_ble_eq_true rfl, Nat.le_of_ble_eq_true rfl⟩ (fun u_23 H locs hr_22 hP hD hS => ?_)
              obtain ⟨q_24, q_25⟩ := u_23
              try dsimp only at hr_22
              obtain ⟨hbq_24, hsr_22_0, hr_22⟩ := hr_22
              have h9R := zRe (ws' := [(mki, .inl (cI, 8, .inl gki)), (mpa, .inl (cI, 8, .inl gpa)), (zMO m0 npu nte nat_ nde nto nse nhu nga nsd nfa mrf mki mpa mta mla msl mco mhe mso msi msh mce mca mwo mnu mte nba npl nen nnu nwr mwa mke mma mth mtr q_24 nik), (mtr, .inl (cI, 20, .inl q_25))]) hP hD rfl
              clear hP hD
              obtain ⟨hP, hD⟩ := h9R
              refine lv_aload_n hx hb dX8_freeing_82 rfl (lv_at hl 3 rfl) ?_
              refine lv_iload_n hx hb dX8_freeing_83 rfl (lv_at hl 4 rfl) ?_
              refine lv_iload hx hb dX8_freeing_84 (lv_at hl 1 rfl) ?_
              skip
              refine zw_V (As := [.int p_, .int x]) (rest := []) (wr := []) ⟨hx, hb, hml, hown, hts⟩ (c_F_M_pulling l D cI cJ cZ cP cS po m0 mrf mki mpa mta mla msl mco mhe mso msi msh mce mca mwo mnu mte mwa mke mma mth mtr (npu) (nte) (nat_) (nde) (nto) (nse) (nhu) (nga) (nsd) (nfa) (nba) (npl) (nen) (nnu) (nwr) (q_24) (nik) gki gpa q_25 (p_) (x) hy0 hy1 hy2 hy3 hy4 hy5 hy6 hy7 hy8 hy9 (by omega) (by omega) hy12 hy13 hy14 hy15 (by omega) (by omega) hp_gki hp_gpa H.size) (cwV 2 hts gX8_freeing_X8_pulling rfl rfl rfl ⟨rfl, dh_X8_pulling⟩ ⟨Nat.le_of_ble_eq_true rfl, Nat.le_of_ble_eq_true rfl⟩) hK hN (hZ.kept hS) hP hD hS hA [2, 0, 1, 3] [] rfl rfl (by decide) (by decide) (by decide) (va_recv (q := (RX8, TX8, 38)) hK hP (ci := 8) (q0 := 2) rfl rfl) rfl hl.1 rfl (Nat.le_of_ble_eq_true rfl) dX8_freeing_86 ⟨Nat.le_of_ble_eq_true rfl, Nat.le_of_ble_eq_true rfl⟩ (fun r_26 u_27 H locs hr_26 hP hD hS => ?_)
              obtain ⟨q_28, q_29⟩ := u_27
              try dsimp only at hr_26
              obtain ⟨hbq_28, hsr_26_0, hsr_26_1, hsr_26_2, hr_26⟩ := hr_26
              have h9R := zRe (ws' := [(zMO m0 npu nte nat_ nde nto nse nhu nga nsd nfa mrf mki mpa mta mla msl mco mhe mso msi msh mce mca mwo mnu mte nba npl nen nnu nwr mwa mke mma mth mtr q_28 nik), (mki, .inl (cI, 8, .inl gki)), (mpa, .inl (cI, 8, .inl gpa)), (mtr, .inl (cI, 20, .inl q_29))]) hP hD rfl
              clear hP hD
              obtain ⟨hP, hD⟩ := h9R
              refine lv_iconst (v := 2) hx hb dX8_freeing_89 (by decide) ?_
              refine lv_imul hx hb dX8_freeing_90 ?_
              refine lv_topi (fun x_30 ex_30 => ?_)
              refine lv_istore (lv' := [(6, .int x_30), (5, .int 0), (4, .int x), (3, .int 1), (0, .ref m0), (1, .int p_), (2, .int x)]) hx hb dX8_freeing_91 hl (by decide) rfl (fun ls hl => ?_)
              refine lv_iload hx hb dX8_freeing_93 (lv_at hl 1 rfl) ?_
              refine lv_if_eq (tgt := 105) hx hb dX8_freeing_95 (by decide) (fun c_31 => ?_) (fun c_31 => ?_)
              · refine lv_iload hx hb dX8_freeing_105 (lv_at hl 0 rfl) ?_
                exact W.iret (v := x_30) hx hb hr (fun t ht hW => ⟨⟨x_30, (q_28, q_29), rfl, ⟨(show 0 ≤ q_28.toInt ∧ q_28.toInt ≤ 2000 from hbq_28), (show (x_30 : Int32) = zQf (gki p_.toNatClampNeg).toInt x p_ (gpa p_.toNatClampNeg) from by (have hk : (gki p_.toNatClampNeg).toInt = 1 := (by rw [← ex_1]; first | done | decide); rw [hk]; unfold zQf; (repeat (first | rw [if_pos (by decide)] | rw [if_neg (by decide)])); (try rw [ex_30]); (try rw [hsr_26_0, hk]); (try rw [ex_30]); first | done | rfl)), (show q_29 = zTr gtr nra.toInt (zBf (gki p_.toNatClampNeg).toInt) from by (have hk : (gki p_.toNatClampNeg).toInt = 1 := (by rw [← ex_1]; first | done | decide); have zbp0 : ((zBp 1).length : Int) = 2 := rfl; have zbf1 : ((zBf 1).length : Int) = 3 := rfl; have zbr2 : ((zBr 1).length : Int) = 6 := rfl; have q0 := hsr_26_2; rw [hk] at q0; rw [hsr_26_1, hk]; rw [hsr_22_0]; rw [zTr_app (by first | omega | (simp; omega) | (show _ = _ + 1; omega))]; (try rw [hk]); first | done | rfl)), (show q_28.toInt = nra.toInt + ((zBf (gki p_.toNatClampNeg).toInt).length : Nat) from by (have hk : (gki p_.toNatClampNeg).toInt = 1 := (by rw [← ex_1]; first | done | decide); have zp : ((zBp 1).length : Int) = 2 := rfl; have zf : ((zBf 1).length : Int) = 3 := rfl; have zr : ((zBr 1).length : Int) = 6 := rfl; have q0 := hsr_26_2; rw [hk] at q0; rw [hk]; omega)), trivial⟩, zRet ht hP hD [0, 1, 2, 3] (by decide) rfl⟩, hS.F ht⟩) hS.2.2 dX8_freeing_107
              · exact absurd c_31 (by decide)
            · exact absurd c_21 (by decide)
          · exact absurd c_20 (by decide)
      · exact absurd c_18 (by decide)
    · exact absurd c_17 (by decide)
  · have kc2 : (2 : Int32).toInt = 2 := by decide
    refine lv_iload_n hx hb dX8_freeing_7 rfl (lv_at hl 3 rfl) ?_
    refine lv_istore (lv' := [(4, .int x), (3, .int 2), (0, .ref m0), (1, .int p_), (2, .int x)]) hx hb dX8_freeing_8 hl (by decide) rfl (fun ls hl => ?_)
    refine lv_iload_n hx hb dX8_freeing_10 rfl (lv_at hl 1 rfl) ?_
    refine lv_bipush (v := 6) hx hb dX8_freeing_11 (by decide) ?_
    refine lv_icmp_ne (tgt := 32) hx hb dX8_freeing_13 (by decide) (fun c_32 => ?_) (fun c_32 => ?_)
    · refine lv_iload_n hx hb dX8_freeing_32 rfl (lv_at hl 1 rfl) ?_
      refine lv_iconst (v := 3) hx hb dX8_freeing_33 (by decide) ?_
      refine lv_icmp_ne (tgt := 48) hx hb dX8_freeing_34 (by decide) (fun c_33 => ?_) (fun c_33 => ?_)
      · refine lv_iload_n hx hb dX8_freeing_48 rfl (lv_at hl 1 rfl) ?_
        refine lv_iconst (v := 2) hx hb dX8_freeing_49 (by decide) ?_
        refine lv_icmp_eq (tgt := 58) hx hb dX8_freeing_50 (by decide) (fun c_34 => ?_) (fun c_34 => ?_)
        · refine lv_iconst (v := 1) hx hb dX8_freeing_58 (by decide) ?_
          refine lv_goto (tgt := 63) hx hb dX8_freeing_59 (by decide) ?_
          refine lv_istore (lv' := [(5, .int 1), (4, .int x), (3, .int 2), (0, .ref m0), (1, .int p_), (2, .int x)]) hx hb dX8_freeing_63 hl (by decide) rfl (fun ls hl => ?_)
          refine lv_iload hx hb dX8_freeing_65 (lv_at hl 0 rfl) ?_
          refine lv_if_eq (tgt := 76) hx hb dX8_freeing_67 (by decide) (fun c_35 => ?_) (fun c_35 => ?_)
          · exact absurd c_35 (by decide)
          · refine lv_aload_n hx hb dX8_freeing_70 rfl (lv_at hl 3 rfl) ?_
            refine lv_bipush (v := 30) hx hb dX8_freeing_71 (by decide) ?_
            skip
            refine zw_Vv (As := [.int 30]) (rest := []) (wr := [(mki, .inl (cI, 8, .inl gki)), (mpa, .inl (cI, 8, .inl gpa))]) ⟨hx, hb, hml, hown, hts⟩ (c_F_M_body l D cI cJ cZ cP cS po m0 mrf mki mpa mta mla msl mco mhe mso msi msh mce mca mwo mnu mte mwa mke mma mth mtr (npu) (nte) (nat_) (nde) (nto) (nse) (nhu) (nga) (nsd) (nfa) (nba) (npl) (nen) (nnu) (nwr) (nra) (nik) gtr (30) hy0 hy1 hy2 hy3 hy4 hy5 hy6 hy7 hy8 hy9 hy10 hy11 hy12 hy13 hy10 hy11 H.size) (cwV 1 hts gX8_freeing_X8_body rfl rfl rfl ⟨rfl, dh_X8_body⟩ ⟨Nat.le_of_ble_eq_true rfl, Nat.le_of_ble_eq_true rfl⟩) hK hN (hZ.kept hS) hP hD hS hA [0, 3] [1, 2] rfl rfl (by decide) (by decide) (by decide) (va_recv (q := (RX8, TX8, 38)) hK hP (ci := 8) (q0 := 0) rfl rfl) rfl hl.1 rfl (Nat.le_of_ble_eq_true rfl) dX8_freeing_73 ⟨Nat.le_of_ble_eq_true rfl, Nat.le_of_ble_eq_true rfl⟩ (fun u_37 H locs hr_36 hP hD hS => ?_)
            obtain ⟨q_38, q_39⟩ := u_37
            try dsimp only at hr_36
            obtain ⟨hbq_38, hsr_36_0, hr_36⟩ := hr_36
            have h9R := zRe (ws' := [(mki, .inl (cI, 8, .inl gki)), (mpa, .inl (cI, 8, .inl gpa)), (zMO m0 npu nte nat_ nde nto nse nhu nga nsd nfa mrf mki mpa mta mla msl mco mhe mso msi msh mce mca mwo mnu mte nba npl nen nnu nwr mwa mke mma mth mtr q_38 nik), (mtr, .inl (cI, 20, .inl q_39))]) hP hD rfl
            clear hP hD
            obtain ⟨hP, hD⟩ := h9R
            refine lv_aload_n hx hb dX8_freeing_76 rfl (lv_at hl 3 rfl) ?_
            refine lv_bipush (v := 11) hx hb dX8_freeing_77 (by decide) ?_
            skip
            refine zw_Vv (As := [.int 11]) (rest := []) (wr := [(mki, .inl (cI, 8, .inl gki)), (mpa, .inl (cI, 8, .inl gpa))]) ⟨hx, hb, hml, hown, hts⟩ (c_F_M_body l D cI cJ cZ cP cS po m0 mrf mki mpa mta mla msl mco mhe mso msi msh mce mca mwo mnu mte mwa mke mma mth mtr (npu) (nte) (nat_) (nde) (nto) (nse) (nhu) (nga) (nsd) (nfa) (nba) (npl) (nen) (nnu) (nwr) (q_38) (nik) q_39 (11) hy0 hy1 hy2 hy3 hy4 hy5 hy6 hy7 hy8 hy9 (by omega) (by omega) hy12 hy13 (by omega) (by omega) H.size) (cwV 1 hts gX8_freeing_X8_body rfl rfl rfl ⟨rfl, dh_X8_body⟩ ⟨Nat.le_of_ble_eq_true rfl, Nat.le_of_ble_eq_true rfl⟩) hK hN (hZ.kept hS) hP hD hS hA [2, 3] [0, 1] rfl rfl (by decide) (by decide) (by decide) (va_recv (q := (RX8, TX8, 38)) hK hP (ci := 8) (q0 := 2) rfl rfl) rfl hl.1 rfl (Nat.le_of_ble_eq_true rfl) dX8_freeing_79 ⟨Nat.le_of_ble_eq_true rfl, Nat.le_of_ble_eq_true rfl⟩ (fun u_41 H locs hr_40 hP hD hS => ?_)
            obtain ⟨q_42, q_43⟩ := u_41
            try dsimp only at hr_40
            obtain ⟨hbq_42, hsr_40_0, hr_40⟩ := hr_40
            have h9R := zRe (ws' := [(mki, .inl (cI, 8, .inl gki)), (mpa, .inl (cI, 8, .inl gpa)), (zMO m0 npu nte nat_ nde nto nse nhu nga nsd nfa mrf mki mpa mta mla msl mco mhe mso msi msh mce mca mwo mnu mte nba npl nen nnu nwr mwa mke mma mth mtr q_42 nik), (mtr, .inl (cI, 20, .inl q_43))]) hP hD rfl
            clear hP hD
            obtain ⟨hP, hD⟩ := h9R
            refine lv_aload_n hx hb dX8_freeing_82 rfl (lv_at hl 3 rfl) ?_
            refine lv_iload_n hx hb dX8_freeing_83 rfl (lv_at hl 4 rfl) ?_
            refine lv_iload hx hb dX8_freeing_84 (lv_at hl 1 rfl) ?_
            skip
            refine zw_V (As := [.int p_, .int x]) (rest := []) (wr := []) ⟨hx, hb, hml, hown, hts⟩ (c_F_M_pulling l D cI cJ cZ cP cS po m0 mrf mki mpa mta mla msl mco mhe mso msi msh mce mca mwo mnu mte mwa mke mma mth mtr (npu) (nte) (nat_) (nde) (nto) (nse) (nhu) (nga) (nsd) (nfa) (nba) (npl) (nen) (nnu) (nwr) (q_42) (nik) gki gpa q_43 (p_) (x) hy0 hy1 hy2 hy3 hy4 hy5 hy6 hy7 hy8 hy9 (by omega) (by omega) hy12 hy13 hy14 hy15 (by omega) (by omega) hp_gki hp_gpa H.size) (cwV 2 hts gX8_freeing_X8_pulling rfl rfl rfl ⟨rfl, dh_X8_pulling⟩ ⟨Nat.le_of_ble_eq_true rfl, Nat.le_of_ble_eq_true rfl⟩) hK hN (hZ.kept hS) hP hD hS hA [2, 0, 1, 3] [] rfl rfl (by decide) (by decide) (by decide) (va_recv (q := (RX8, TX8, 38)) hK hP (ci := 8) (q0 := 2) rfl rfl) rfl hl.1 rfl (Nat.le_of_ble_eq_true rfl) dX8_freeing_86 ⟨Nat.le_of_ble_eq_true rfl, Nat.le_of_ble_eq_true rfl⟩ (fun r_44 u_45 H locs hr_44 hP hD hS => ?_)
            obtain ⟨q_46, q_47⟩ := u_45
            try dsimp only at hr_44
            obtain ⟨hbq_46, hsr_44_0, hsr_44_1, hsr_44_2, hr_44⟩ := hr_44
            have h9R := zRe (ws' := [(zMO m0 npu nte nat_ nde nto nse nhu nga nsd nfa mrf mki mpa mta mla msl mco mhe mso msi msh mce mca mwo mnu mte nba npl nen nnu nwr mwa mke mma mth mtr q_46 nik), (mki, .inl (cI, 8, .inl gki)), (mpa, .inl (cI, 8, .inl gpa)), (mtr, .inl (cI, 20, .inl q_47))]) hP hD rfl
            clear hP hD
            obtain ⟨hP, hD⟩ := h9R
            refine lv_iconst (v := 2) hx hb dX8_freeing_89 (by decide) ?_
            refine lv_imul hx hb dX8_freeing_90 ?_
            refine lv_topi (fun x_48 ex_48 => ?_)
            refine lv_istore (lv' := [(6, .int x_48), (5, .int 1), (4, .int x), (3, .int 2), (0, .ref m0), (1, .int p_), (2, .int x)]) hx hb dX8_freeing_91 hl (by decide) rfl (fun ls hl => ?_)
            refine lv_iload hx hb dX8_freeing_93 (lv_at hl 1 rfl) ?_
            refine lv_if_eq (tgt := 105) hx hb dX8_freeing_95 (by decide) (fun c_49 => ?_) (fun c_49 => ?_)
            · exact absurd c_49 (by decide)
            · refine lv_iload hx hb dX8_freeing_98 (lv_at hl 0 rfl) ?_
              refine lv_iconst (v := 3) hx hb dX8_freeing_100 (by decide) ?_
              refine lv_imul hx hb dX8_freeing_101 ?_
              refine lv_topi (fun x_50 ex_50 => ?_)
              refine lv_goto (tgt := 107) hx hb dX8_freeing_102 (by decide) ?_
              exact W.iret (v := x_50) hx hb hr (fun t ht hW => ⟨⟨x_50, (q_46, q_47), rfl, ⟨(show 0 ≤ q_46.toInt ∧ q_46.toInt ≤ 2000 from hbq_46), (show (x_50 : Int32) = zQf (gki p_.toNatClampNeg).toInt x p_ (gpa p_.toNatClampNeg) from by (have hk : (gki p_.toNatClampNeg).toInt = 2 := (by rw [← ex_1]; first | done | decide); rw [hk]; unfold zQf; (repeat (first | rw [if_pos (by decide)] | rw [if_neg (by decide)])); (try rw [ex_50]); (try rw [ex_48]); (try rw [hsr_44_0, hk]); (try rw [ex_50]); (try rw [ex_48]); first | done | rfl)), (show q_47 = zTr gtr nra.toInt (zBf (gki p_.toNatClampNeg).toInt) from by (have hk : (gki p_.toNatClampNeg).toInt = 2 := (by rw [← ex_1]; first | done | decide); have zbp0 : ((zBp 2).length : Int) = 1 := rfl; have zbf1 : ((zBf 2).length : Int) = 3 := rfl; have zbr2 : ((zBr 2).length : Int) = 5 := rfl; have q0 := hsr_44_2; rw [hk] at q0; rw [hsr_44_1, hk]; rw [hsr_40_0]; rw [hsr_36_0]; rw [zTr_app (by first | omega | (simp; omega) | (show _ = _ + 1; omega))]; rw [zTr_app (by first | omega | (simp; omega) | (show _ = _ + 1; omega))]; (try rw [hk]); first | done | rfl)), (show q_46.toInt = nra.toInt + ((zBf (gki p_.toNatClampNeg).toInt).length : Nat) from by (have hk : (gki p_.toNatClampNeg).toInt = 2 := (by rw [← ex_1]; first | done | decide); have zp : ((zBp 2).length : Int) = 1 := rfl; have zf : ((zBf 2).length : Int) = 3 := rfl; have zr : ((zBr 2).length : Int) = 5 := rfl; have q0 := hsr_44_2; rw [hk] at q0; rw [hk]; omega)), trivial⟩, zRet ht hP hD [0, 1, 2, 3] (by decide) rfl⟩, hS.F ht⟩) hS.2.2 dX8_freeing_107
        · exact absurd c_34 (by decide)
      · exact absurd c_33 (by decide)
    · exact absurd c_32 (by decide)
  · have kc3 : (3 : Int32).toInt = 3 := by decide
    refine lv_iload_n hx hb dX8_freeing_7 rfl (lv_at hl 3 rfl) ?_
    refine lv_istore (lv' := [(4, .int x), (3, .int 3), (0, .ref m0), (1, .int p_), (2, .int x)]) hx hb dX8_freeing_8 hl (by decide) rfl (fun ls hl => ?_)
    refine lv_iload_n hx hb dX8_freeing_10 rfl (lv_at hl 1 rfl) ?_
    refine lv_bipush (v := 6) hx hb dX8_freeing_11 (by decide) ?_
    refine lv_icmp_ne (tgt := 32) hx hb dX8_freeing_13 (by decide) (fun c_51 => ?_) (fun c_51 => ?_)
    · refine lv_iload_n hx hb dX8_freeing_32 rfl (lv_at hl 1 rfl) ?_
      refine lv_iconst (v := 3) hx hb dX8_freeing_33 (by decide) ?_
      refine lv_icmp_ne (tgt := 48) hx hb dX8_freeing_34 (by decide) (fun c_52 => ?_) (fun c_52 => ?_)
      · exact absurd c_52 (by decide)
      · refine lv_aload_n hx hb dX8_freeing_37 rfl (lv_at hl 2 rfl) ?_
        refine lv_bipush (v := 40) hx hb dX8_freeing_38 (by decide) ?_
        skip
        refine zw_Vv (As := [.int 40]) (rest := []) (wr := [(mki, .inl (cI, 8, .inl gki)), (mpa, .inl (cI, 8, .inl gpa))]) ⟨hx, hb, hml, hown, hts⟩ (c_F_M_body l D cI cJ cZ cP cS po m0 mrf mki mpa mta mla msl mco mhe mso msi msh mce mca mwo mnu mte mwa mke mma mth mtr (npu) (nte) (nat_) (nde) (nto) (nse) (nhu) (nga) (nsd) (nfa) (nba) (npl) (nen) (nnu) (nwr) (nra) (nik) gtr (40) hy0 hy1 hy2 hy3 hy4 hy5 hy6 hy7 hy8 hy9 hy10 hy11 hy12 hy13 hy10 hy11 H.size) (cwV 1 hts gX8_freeing_X8_body rfl rfl rfl ⟨rfl, dh_X8_body⟩ ⟨Nat.le_of_ble_eq_true rfl, Nat.le_of_ble_eq_true rfl⟩) hK hN (hZ.kept hS) hP hD hS hA [0, 3] [1, 2] rfl rfl (by decide) (by decide) (by decide) (va_recv (q := (RX8, TX8, 38)) hK hP (ci := 8) (q0 := 0) rfl rfl) rfl hl.1 rfl (Nat.le_of_ble_eq_true rfl) dX8_freeing_40 ⟨Nat.le_of_ble_eq_true rfl, Nat.le_of_ble_eq_true rfl⟩ (fun u_54 H locs hr_53 hP hD hS => ?_)
        obtain ⟨q_55, q_56⟩ := u_54
        try dsimp only at hr_53
        obtain ⟨hbq_55, hsr_53_0, hr_53⟩ := hr_53
        have h9R := zRe (ws' := [(mki, .inl (cI, 8, .inl gki)), (mpa, .inl (cI, 8, .inl gpa)), (zMO m0 npu nte nat_ nde nto nse nhu nga nsd nfa mrf mki mpa mta mla msl mco mhe mso msi msh mce mca mwo mnu mte nba npl nen nnu nwr mwa mke mma mth mtr q_55 nik), (mtr, .inl (cI, 20, .inl q_56))]) hP hD rfl
        clear hP hD
        obtain ⟨hP, hD⟩ := h9R
        refine lv_iload_n hx hb dX8_freeing_43 rfl (lv_at hl 4 rfl) ?_
        refine lv_iconst (v := 1) hx hb dX8_freeing_44 (by decide) ?_
        refine lv_iadd hx hb dX8_freeing_45 ?_
        refine lv_topi (fun x_57 ex_57 => ?_)
        refine lv_istore (lv' := [(4, .int x_57), (3, .int 3), (0, .ref m0), (1, .int p_), (2, .int x)]) hx hb dX8_freeing_46 hl (by decide) rfl (fun ls hl => ?_)
        refine lv_iload_n hx hb dX8_freeing_48 rfl (lv_at hl 1 rfl) ?_
        refine lv_iconst (v := 2) hx hb dX8_freeing_49 (by decide) ?_
        refine lv_icmp_eq (tgt := 58) hx hb dX8_freeing_50 (by decide) (fun c_58 => ?_) (fun c_58 => ?_)
        · exact absurd c_58 (by decide)
        · refine lv_iload_n hx hb dX8_freeing_53 rfl (lv_at hl 1 rfl) ?_
          refine lv_iconst (v := 5) hx hb dX8_freeing_54 (by decide) ?_
          refine lv_icmp_ne (tgt := 62) hx hb dX8_freeing_55 (by decide) (fun c_59 => ?_) (fun c_59 => ?_)
          · refine lv_iconst (v := 0) hx hb dX8_freeing_62 (by decide) ?_
            refine lv_istore (lv' := [(5, .int 0), (4, .int x_57), (3, .int 3), (0, .ref m0), (1, .int p_), (2, .int x)]) hx hb dX8_freeing_63 hl (by decide) rfl (fun ls hl => ?_)
            refine lv_iload hx hb dX8_freeing_65 (lv_at hl 0 rfl) ?_
            refine lv_if_eq (tgt := 76) hx hb dX8_freeing_67 (by decide) (fun c_60 => ?_) (fun c_60 => ?_)
            · refine lv_aload_n hx hb dX8_freeing_76 rfl (lv_at hl 3 rfl) ?_
              refine lv_bipush (v := 11) hx hb dX8_freeing_77 (by decide) ?_
              skip
              refine zw_Vv (As := [.int 11]) (rest := []) (wr := [(mki, .inl (cI, 8, .inl gki)), (mpa, .inl (cI, 8, .inl gpa))]) ⟨hx, hb, hml, hown, hts⟩ (c_F_M_body l D cI cJ cZ cP cS po m0 mrf mki mpa mta mla msl mco mhe mso msi msh mce mca mwo mnu mte mwa mke mma mth mtr (npu) (nte) (nat_) (nde) (nto) (nse) (nhu) (nga) (nsd) (nfa) (nba) (npl) (nen) (nnu) (nwr) (q_55) (nik) q_56 (11) hy0 hy1 hy2 hy3 hy4 hy5 hy6 hy7 hy8 hy9 (by omega) (by omega) hy12 hy13 (by omega) (by omega) H.size) (cwV 1 hts gX8_freeing_X8_body rfl rfl rfl ⟨rfl, dh_X8_body⟩ ⟨Nat.le_of_ble_eq_true rfl, Nat.le_of_ble_eq_true rfl⟩) hK hN (hZ.kept hS) hP hD hS hA [2, 3] [0, 1] rfl rfl (by decide) (by decide) (by decide) (va_recv (q := (RX8, TX8, 38)) hK hP (ci := 8) (q0 := 2) rfl rfl) rfl hl.1 rfl (Nat.le_of_ble_eq_true rfl) dX8_freeing_79 ⟨Nat.le_of_ble_eq_true rfl, Nat.le_of_ble_eq_true rfl⟩ (fun u_62 H locs hr_61 hP hD hS => ?_)
              obtain ⟨q_63, q_64⟩ := u_62
              try dsimp only at hr_61
              obtain ⟨hbq_63, hsr_61_0, hr_61⟩ := hr_61
              have h9R := zRe (ws' := [(mki, .inl (cI, 8, .inl gki)), (mpa, .inl (cI, 8, .inl gpa)), (zMO m0 npu nte nat_ nde nto nse nhu nga nsd nfa mrf mki mpa mta mla msl mco mhe mso msi msh mce mca mwo mnu mte nba npl nen nnu nwr mwa mke mma mth mtr q_63 nik), (mtr, .inl (cI, 20, .inl q_64))]) hP hD rfl
              clear hP hD
              obtain ⟨hP, hD⟩ := h9R
              refine lv_aload_n hx hb dX8_freeing_82 rfl (lv_at hl 3 rfl) ?_
              refine lv_iload_n hx hb dX8_freeing_83 rfl (lv_at hl 4 rfl) ?_
              refine lv_iload hx hb dX8_freeing_84 (lv_at hl 1 rfl) ?_
              skip
              refine zw_V (As := [.int p_, .int x_57]) (rest := []) (wr := []) ⟨hx, hb, hml, hown, hts⟩ (c_F_M_pulling l D cI cJ cZ cP cS po m0 mrf mki mpa mta mla msl mco mhe mso msi msh mce mca mwo mnu mte mwa mke mma mth mtr (npu) (nte) (nat_) (nde) (nto) (nse) (nhu) (nga) (nsd) (nfa) (nba) (npl) (nen) (nnu) (nwr) (q_63) (nik) gki gpa q_64 (p_) (x_57) hy0 hy1 hy2 hy3 hy4 hy5 hy6 hy7 hy8 hy9 (by omega) (by omega) hy12 hy13 hy14 hy15 (by omega) (by omega) hp_gki hp_gpa H.size) (cwV 2 hts gX8_freeing_X8_pulling rfl rfl rfl ⟨rfl, dh_X8_pulling⟩ ⟨Nat.le_of_ble_eq_true rfl, Nat.le_of_ble_eq_true rfl⟩) hK hN (hZ.kept hS) hP hD hS hA [2, 0, 1, 3] [] rfl rfl (by decide) (by decide) (by decide) (va_recv (q := (RX8, TX8, 38)) hK hP (ci := 8) (q0 := 2) rfl rfl) rfl hl.1 rfl (Nat.le_of_ble_eq_true rfl) dX8_freeing_86 ⟨Nat.le_of_ble_eq_true rfl, Nat.le_of_ble_eq_true rfl⟩ (fun r_65 u_66 H locs hr_65 hP hD hS => ?_)
              obtain ⟨q_67, q_68⟩ := u_66
              try dsimp only at hr_65
              obtain ⟨hbq_67, hsr_65_0, hsr_65_1, hsr_65_2, hr_65⟩ := hr_65
              have h9R := zRe (ws' := [(zMO m0 npu nte nat_ nde nto nse nhu nga nsd nfa mrf mki mpa mta mla msl mco mhe mso msi msh mce mca mwo mnu mte nba npl nen nnu nwr mwa mke mma mth mtr q_67 nik), (mki, .inl (cI, 8, .inl gki)), (mpa, .inl (cI, 8, .inl gpa)), (mtr, .inl (cI, 20, .inl q_68))]) hP hD rfl
              clear hP hD
              obtain ⟨hP, hD⟩ := h9R
              refine lv_iconst (v := 2) hx hb dX8_freeing_89 (by decide) ?_
              refine lv_imul hx hb dX8_freeing_90 ?_
              refine lv_topi (fun x_69 ex_69 => ?_)
              refine lv_istore (lv' := [(6, .int x_69), (5, .int 0), (4, .int x_57), (3, .int 3), (0, .ref m0), (1, .int p_), (2, .int x)]) hx hb dX8_freeing_91 hl (by decide) rfl (fun ls hl => ?_)
              refine lv_iload hx hb dX8_freeing_93 (lv_at hl 1 rfl) ?_
              refine lv_if_eq (tgt := 105) hx hb dX8_freeing_95 (by decide) (fun c_70 => ?_) (fun c_70 => ?_)
              · refine lv_iload hx hb dX8_freeing_105 (lv_at hl 0 rfl) ?_
                exact W.iret (v := x_69) hx hb hr (fun t ht hW => ⟨⟨x_69, (q_67, q_68), rfl, ⟨(show 0 ≤ q_67.toInt ∧ q_67.toInt ≤ 2000 from hbq_67), (show (x_69 : Int32) = zQf (gki p_.toNatClampNeg).toInt x p_ (gpa p_.toNatClampNeg) from by (have hk : (gki p_.toNatClampNeg).toInt = 3 := (by rw [← ex_1]; first | done | decide); rw [hk]; unfold zQf; (repeat (first | rw [if_pos (by decide)] | rw [if_neg (by decide)])); (try rw [ex_69]); (try rw [ex_57]); (try rw [hsr_65_0, hk]); (try rw [ex_69]); (try rw [ex_57]); first | done | rfl)), (show q_68 = zTr gtr nra.toInt (zBf (gki p_.toNatClampNeg).toInt) from by (have hk : (gki p_.toNatClampNeg).toInt = 3 := (by rw [← ex_1]; first | done | decide); have zbp0 : ((zBp 3).length : Int) = 2 := rfl; have zbf1 : ((zBf 3).length : Int) = 4 := rfl; have zbr2 : ((zBr 3).length : Int) = 7 := rfl; have q0 := hsr_65_2; rw [hk] at q0; rw [hsr_65_1, hk]; rw [hsr_61_0]; rw [hsr_53_0]; rw [zTr_app (by first | omega | (simp; omega) | (show _ = _ + 1; omega))]; rw [zTr_app (by first | omega | (simp; omega) | (show _ = _ + 1; omega))]; (try rw [hk]); first | done | rfl)), (show q_67.toInt = nra.toInt + ((zBf (gki p_.toNatClampNeg).toInt).length : Nat) from by (have hk : (gki p_.toNatClampNeg).toInt = 3 := (by rw [← ex_1]; first | done | decide); have zp : ((zBp 3).length : Int) = 2 := rfl; have zf : ((zBf 3).length : Int) = 4 := rfl; have zr : ((zBr 3).length : Int) = 7 := rfl; have q0 := hsr_65_2; rw [hk] at q0; rw [hk]; omega)), trivial⟩, zRet ht hP hD [0, 1, 2, 3] (by decide) rfl⟩, hS.F ht⟩) hS.2.2 dX8_freeing_107
              · exact absurd c_70 (by decide)
            · exact absurd c_60 (by decide)
          · exact absurd c_59 (by decide)
    · exact absurd c_51 (by decide)
  · have kc4 : (4 : Int32).toInt = 4 := by decide
    refine lv_iload_n hx hb dX8_freeing_7 rfl (lv_at hl 3 rfl) ?_
    refine lv_istore (lv' := [(4, .int x), (3, .int 4), (0, .ref m0), (1, .int p_), (2, .int x)]) hx hb dX8_freeing_8 hl (by decide) rfl (fun ls hl => ?_)
    refine lv_iload_n hx hb dX8_freeing_10 rfl (lv_at hl 1 rfl) ?_
    refine lv_bipush (v := 6) hx hb dX8_freeing_11 (by decide) ?_
    refine lv_icmp_ne (tgt := 32) hx hb dX8_freeing_13 (by decide) (fun c_71 => ?_) (fun c_71 => ?_)
    · refine lv_iload_n hx hb dX8_freeing_32 rfl (lv_at hl 1 rfl) ?_
      refine lv_iconst (v := 3) hx hb dX8_freeing_33 (by decide) ?_
      refine lv_icmp_ne (tgt := 48) hx hb dX8_freeing_34 (by decide) (fun c_72 => ?_) (fun c_72 => ?_)
      · refine lv_iload_n hx hb dX8_freeing_48 rfl (lv_at hl 1 rfl) ?_
        refine lv_iconst (v := 2) hx hb dX8_freeing_49 (by decide) ?_
        refine lv_icmp_eq (tgt := 58) hx hb dX8_freeing_50 (by decide) (fun c_73 => ?_) (fun c_73 => ?_)
        · exact absurd c_73 (by decide)
        · refine lv_iload_n hx hb dX8_freeing_53 rfl (lv_at hl 1 rfl) ?_
          refine lv_iconst (v := 5) hx hb dX8_freeing_54 (by decide) ?_
          refine lv_icmp_ne (tgt := 62) hx hb dX8_freeing_55 (by decide) (fun c_74 => ?_) (fun c_74 => ?_)
          · refine lv_iconst (v := 0) hx hb dX8_freeing_62 (by decide) ?_
            refine lv_istore (lv' := [(5, .int 0), (4, .int x), (3, .int 4), (0, .ref m0), (1, .int p_), (2, .int x)]) hx hb dX8_freeing_63 hl (by decide) rfl (fun ls hl => ?_)
            refine lv_iload hx hb dX8_freeing_65 (lv_at hl 0 rfl) ?_
            refine lv_if_eq (tgt := 76) hx hb dX8_freeing_67 (by decide) (fun c_75 => ?_) (fun c_75 => ?_)
            · refine lv_aload_n hx hb dX8_freeing_76 rfl (lv_at hl 3 rfl) ?_
              refine lv_bipush (v := 11) hx hb dX8_freeing_77 (by decide) ?_
              skip
              refine zw_Vv (As := [.int 11]) (rest := []) (wr := [(mki, .inl (cI, 8, .inl gki)), (mpa, .inl (cI, 8, .inl gpa))]) ⟨hx, hb, hml, hown, hts⟩ (c_F_M_body l D cI cJ cZ cP cS po m0 mrf mki mpa mta mla msl mco mhe mso msi msh mce mca mwo mnu mte mwa mke mma mth mtr (npu) (nte) (nat_) (nde) (nto) (nse) (nhu) (nga) (nsd) (nfa) (nba) (npl) (nen) (nnu) (nwr) (nra) (nik) gtr (11) hy0 hy1 hy2 hy3 hy4 hy5 hy6 hy7 hy8 hy9 hy10 hy11 hy12 hy13 hy10 hy11 H.size) (cwV 1 hts gX8_freeing_X8_body rfl rfl rfl ⟨rfl, dh_X8_body⟩ ⟨Nat.le_of_ble_eq_true rfl, Nat.le_of_ble_eq_true rfl⟩) hK hN (hZ.kept hS) hP hD hS hA [0, 3] [1, 2] rfl rfl (by decide) (by decide) (by decide) (va_recv (q := (RX8, TX8, 38)) hK hP (ci := 8) (q0 := 0) rfl rfl) rfl hl.1 rfl (Nat.le_of_ble_eq_true rfl) dX8_freeing_79 ⟨Nat.le_of_ble_eq_true rfl, Nat.le_of_ble_eq_true rfl⟩ (fun u_77 H locs hr_76 hP hD hS => ?_)
              obtain ⟨q_78, q_79⟩ := u_77
              try dsimp only at hr_76
              obtain ⟨hbq_78, hsr_76_0, hr_76⟩ := hr_76
              have h9R := zRe (ws' := [(mki, .inl (cI, 8, .inl gki)), (mpa, .inl (cI, 8, .inl gpa)), (zMO m0 npu nte nat_ nde nto nse nhu nga nsd nfa mrf mki mpa mta mla msl mco mhe mso msi msh mce mca mwo mnu mte nba npl nen nnu nwr mwa mke mma mth mtr q_78 nik), (mtr, .inl (cI, 20, .inl q_79))]) hP hD rfl
              clear hP hD
              obtain ⟨hP, hD⟩ := h9R
              refine lv_aload_n hx hb dX8_freeing_82 rfl (lv_at hl 3 rfl) ?_
              refine lv_iload_n hx hb dX8_freeing_83 rfl (lv_at hl 4 rfl) ?_
              refine lv_iload hx hb dX8_freeing_84 (lv_at hl 1 rfl) ?_
              skip
              refine zw_V (As := [.int p_, .int x]) (rest := []) (wr := []) ⟨hx, hb, hml, hown, hts⟩ (c_F_M_pulling l D cI cJ cZ cP cS po m0 mrf mki mpa mta mla msl mco mhe mso msi msh mce mca mwo mnu mte mwa mke mma mth mtr (npu) (nte) (nat_) (nde) (nto) (nse) (nhu) (nga) (nsd) (nfa) (nba) (npl) (nen) (nnu) (nwr) (q_78) (nik) gki gpa q_79 (p_) (x) hy0 hy1 hy2 hy3 hy4 hy5 hy6 hy7 hy8 hy9 (by omega) (by omega) hy12 hy13 hy14 hy15 (by omega) (by omega) hp_gki hp_gpa H.size) (cwV 2 hts gX8_freeing_X8_pulling rfl rfl rfl ⟨rfl, dh_X8_pulling⟩ ⟨Nat.le_of_ble_eq_true rfl, Nat.le_of_ble_eq_true rfl⟩) hK hN (hZ.kept hS) hP hD hS hA [2, 0, 1, 3] [] rfl rfl (by decide) (by decide) (by decide) (va_recv (q := (RX8, TX8, 38)) hK hP (ci := 8) (q0 := 2) rfl rfl) rfl hl.1 rfl (Nat.le_of_ble_eq_true rfl) dX8_freeing_86 ⟨Nat.le_of_ble_eq_true rfl, Nat.le_of_ble_eq_true rfl⟩ (fun r_80 u_81 H locs hr_80 hP hD hS => ?_)
              obtain ⟨q_82, q_83⟩ := u_81
              try dsimp only at hr_80
              obtain ⟨hbq_82, hsr_80_0, hsr_80_1, hsr_80_2, hr_80⟩ := hr_80
              have h9R := zRe (ws' := [(zMO m0 npu nte nat_ nde nto nse nhu nga nsd nfa mrf mki mpa mta mla msl mco mhe mso msi msh mce mca mwo mnu mte nba npl nen nnu nwr mwa mke mma mth mtr q_82 nik), (mki, .inl (cI, 8, .inl gki)), (mpa, .inl (cI, 8, .inl gpa)), (mtr, .inl (cI, 20, .inl q_83))]) hP hD rfl
              clear hP hD
              obtain ⟨hP, hD⟩ := h9R
              refine lv_iconst (v := 2) hx hb dX8_freeing_89 (by decide) ?_
              refine lv_imul hx hb dX8_freeing_90 ?_
              refine lv_topi (fun x_84 ex_84 => ?_)
              refine lv_istore (lv' := [(6, .int x_84), (5, .int 0), (4, .int x), (3, .int 4), (0, .ref m0), (1, .int p_), (2, .int x)]) hx hb dX8_freeing_91 hl (by decide) rfl (fun ls hl => ?_)
              refine lv_iload hx hb dX8_freeing_93 (lv_at hl 1 rfl) ?_
              refine lv_if_eq (tgt := 105) hx hb dX8_freeing_95 (by decide) (fun c_85 => ?_) (fun c_85 => ?_)
              · refine lv_iload hx hb dX8_freeing_105 (lv_at hl 0 rfl) ?_
                exact W.iret (v := x_84) hx hb hr (fun t ht hW => ⟨⟨x_84, (q_82, q_83), rfl, ⟨(show 0 ≤ q_82.toInt ∧ q_82.toInt ≤ 2000 from hbq_82), (show (x_84 : Int32) = zQf (gki p_.toNatClampNeg).toInt x p_ (gpa p_.toNatClampNeg) from by (have hk : (gki p_.toNatClampNeg).toInt = 4 := (by rw [← ex_1]; first | done | decide); rw [hk]; unfold zQf; (repeat (first | rw [if_pos (by decide)] | rw [if_neg (by decide)])); (try rw [ex_84]); (try rw [hsr_80_0, hk]); (try rw [ex_84]); first | done | rfl)), (show q_83 = zTr gtr nra.toInt (zBf (gki p_.toNatClampNeg).toInt) from by (have hk : (gki p_.toNatClampNeg).toInt = 4 := (by rw [← ex_1]; first | done | decide); have zbp0 : ((zBp 4).length : Int) = 2 := rfl; have zbf1 : ((zBf 4).length : Int) = 3 := rfl; have zbr2 : ((zBr 4).length : Int) = 7 := rfl; have q0 := hsr_80_2; rw [hk] at q0; rw [hsr_80_1, hk]; rw [hsr_76_0]; rw [zTr_app (by first | omega | (simp; omega) | (show _ = _ + 1; omega))]; (try rw [hk]); first | done | rfl)), (show q_82.toInt = nra.toInt + ((zBf (gki p_.toNatClampNeg).toInt).length : Nat) from by (have hk : (gki p_.toNatClampNeg).toInt = 4 := (by rw [← ex_1]; first | done | decide); have zp : ((zBp 4).length : Int) = 2 := rfl; have zf : ((zBf 4).length : Int) = 3 := rfl; have zr : ((zBr 4).length : Int) = 7 := rfl; have q0 := hsr_80_2; rw [hk] at q0; rw [hk]; omega)), trivial⟩, zRet ht hP hD [0, 1, 2, 3] (by decide) rfl⟩, hS.F ht⟩) hS.2.2 dX8_freeing_107
              · exact absurd c_85 (by decide)
            · exact absurd c_75 (by decide)
          · exact absurd c_74 (by decide)
      · exact absurd c_72 (by decide)
    · exact absurd c_71 (by decide)
  · have kc5 : (5 : Int32).toInt = 5 := by decide
    refine lv_iload_n hx hb dX8_freeing_7 rfl (lv_at hl 3 rfl) ?_
    refine lv_istore (lv' := [(4, .int x), (3, .int 5), (0, .ref m0), (1, .int p_), (2, .int x)]) hx hb dX8_freeing_8 hl (by decide) rfl (fun ls hl => ?_)
    refine lv_iload_n hx hb dX8_freeing_10 rfl (lv_at hl 1 rfl) ?_
    refine lv_bipush (v := 6) hx hb dX8_freeing_11 (by decide) ?_
    refine lv_icmp_ne (tgt := 32) hx hb dX8_freeing_13 (by decide) (fun c_86 => ?_) (fun c_86 => ?_)
    · refine lv_iload_n hx hb dX8_freeing_32 rfl (lv_at hl 1 rfl) ?_
      refine lv_iconst (v := 3) hx hb dX8_freeing_33 (by decide) ?_
      refine lv_icmp_ne (tgt := 48) hx hb dX8_freeing_34 (by decide) (fun c_87 => ?_) (fun c_87 => ?_)
      · refine lv_iload_n hx hb dX8_freeing_48 rfl (lv_at hl 1 rfl) ?_
        refine lv_iconst (v := 2) hx hb dX8_freeing_49 (by decide) ?_
        refine lv_icmp_eq (tgt := 58) hx hb dX8_freeing_50 (by decide) (fun c_88 => ?_) (fun c_88 => ?_)
        · exact absurd c_88 (by decide)
        · refine lv_iload_n hx hb dX8_freeing_53 rfl (lv_at hl 1 rfl) ?_
          refine lv_iconst (v := 5) hx hb dX8_freeing_54 (by decide) ?_
          refine lv_icmp_ne (tgt := 62) hx hb dX8_freeing_55 (by decide) (fun c_89 => ?_) (fun c_89 => ?_)
          · exact absurd c_89 (by decide)
          · refine lv_iconst (v := 1) hx hb dX8_freeing_58 (by decide) ?_
            refine lv_goto (tgt := 63) hx hb dX8_freeing_59 (by decide) ?_
            refine lv_istore (lv' := [(5, .int 1), (4, .int x), (3, .int 5), (0, .ref m0), (1, .int p_), (2, .int x)]) hx hb dX8_freeing_63 hl (by decide) rfl (fun ls hl => ?_)
            refine lv_iload hx hb dX8_freeing_65 (lv_at hl 0 rfl) ?_
            refine lv_if_eq (tgt := 76) hx hb dX8_freeing_67 (by decide) (fun c_90 => ?_) (fun c_90 => ?_)
            · exact absurd c_90 (by decide)
            · refine lv_aload_n hx hb dX8_freeing_70 rfl (lv_at hl 3 rfl) ?_
              refine lv_bipush (v := 30) hx hb dX8_freeing_71 (by decide) ?_
              skip
              refine zw_Vv (As := [.int 30]) (rest := []) (wr := [(mki, .inl (cI, 8, .inl gki)), (mpa, .inl (cI, 8, .inl gpa))]) ⟨hx, hb, hml, hown, hts⟩ (c_F_M_body l D cI cJ cZ cP cS po m0 mrf mki mpa mta mla msl mco mhe mso msi msh mce mca mwo mnu mte mwa mke mma mth mtr (npu) (nte) (nat_) (nde) (nto) (nse) (nhu) (nga) (nsd) (nfa) (nba) (npl) (nen) (nnu) (nwr) (nra) (nik) gtr (30) hy0 hy1 hy2 hy3 hy4 hy5 hy6 hy7 hy8 hy9 hy10 hy11 hy12 hy13 hy10 hy11 H.size) (cwV 1 hts gX8_freeing_X8_body rfl rfl rfl ⟨rfl, dh_X8_body⟩ ⟨Nat.le_of_ble_eq_true rfl, Nat.le_of_ble_eq_true rfl⟩) hK hN (hZ.kept hS) hP hD hS hA [0, 3] [1, 2] rfl rfl (by decide) (by decide) (by decide) (va_recv (q := (RX8, TX8, 38)) hK hP (ci := 8) (q0 := 0) rfl rfl) rfl hl.1 rfl (Nat.le_of_ble_eq_true rfl) dX8_freeing_73 ⟨Nat.le_of_ble_eq_true rfl, Nat.le_of_ble_eq_true rfl⟩ (fun u_92 H locs hr_91 hP hD hS => ?_)
              obtain ⟨q_93, q_94⟩ := u_92
              try dsimp only at hr_91
              obtain ⟨hbq_93, hsr_91_0, hr_91⟩ := hr_91
              have h9R := zRe (ws' := [(mki, .inl (cI, 8, .inl gki)), (mpa, .inl (cI, 8, .inl gpa)), (zMO m0 npu nte nat_ nde nto nse nhu nga nsd nfa mrf mki mpa mta mla msl mco mhe mso msi msh mce mca mwo mnu mte nba npl nen nnu nwr mwa mke mma mth mtr q_93 nik), (mtr, .inl (cI, 20, .inl q_94))]) hP hD rfl
              clear hP hD
              obtain ⟨hP, hD⟩ := h9R
              refine lv_aload_n hx hb dX8_freeing_76 rfl (lv_at hl 3 rfl) ?_
              refine lv_bipush (v := 11) hx hb dX8_freeing_77 (by decide) ?_
              skip
              refine zw_Vv (As := [.int 11]) (rest := []) (wr := [(mki, .inl (cI, 8, .inl gki)), (mpa, .inl (cI, 8, .inl gpa))]) ⟨hx, hb, hml, hown, hts⟩ (c_F_M_body l D cI cJ cZ cP cS po m0 mrf mki mpa mta mla msl mco mhe mso msi msh mce mca mwo mnu mte mwa mke mma mth mtr (npu) (nte) (nat_) (nde) (nto) (nse) (nhu) (nga) (nsd) (nfa) (nba) (npl) (nen) (nnu) (nwr) (q_93) (nik) q_94 (11) hy0 hy1 hy2 hy3 hy4 hy5 hy6 hy7 hy8 hy9 (by omega) (by omega) hy12 hy13 (by omega) (by omega) H.size) (cwV 1 hts gX8_freeing_X8_body rfl rfl rfl ⟨rfl, dh_X8_body⟩ ⟨Nat.le_of_ble_eq_true rfl, Nat.le_of_ble_eq_true rfl⟩) hK hN (hZ.kept hS) hP hD hS hA [2, 3] [0, 1] rfl rfl (by decide) (by decide) (by decide) (va_recv (q := (RX8, TX8, 38)) hK hP (ci := 8) (q0 := 2) rfl rfl) rfl hl.1 rfl (Nat.le_of_ble_eq_true rfl) dX8_freeing_79 ⟨Nat.le_of_ble_eq_true rfl, Nat.le_of_ble_eq_true rfl⟩ (fun u_96 H locs hr_95 hP hD hS => ?_)
              obtain ⟨q_97, q_98⟩ := u_96
              try dsimp only at hr_95
              obtain ⟨hbq_97, hsr_95_0, hr_95⟩ := hr_95
              have h9R := zRe (ws' := [(mki, .inl (cI, 8, .inl gki)), (mpa, .inl (cI, 8, .inl gpa)), (zMO m0 npu nte nat_ nde nto nse nhu nga nsd nfa mrf mki mpa mta mla msl mco mhe mso msi msh mce mca mwo mnu mte nba npl nen nnu nwr mwa mke mma mth mtr q_97 nik), (mtr, .inl (cI, 20, .inl q_98))]) hP hD rfl
              clear hP hD
              obtain ⟨hP, hD⟩ := h9R
              refine lv_aload_n hx hb dX8_freeing_82 rfl (lv_at hl 3 rfl) ?_
              refine lv_iload_n hx hb dX8_freeing_83 rfl (lv_at hl 4 rfl) ?_
              refine lv_iload hx hb dX8_freeing_84 (lv_at hl 1 rfl) ?_
              skip
              refine zw_V (As := [.int p_, .int x]) (rest := []) (wr := []) ⟨hx, hb, hml, hown, hts⟩ (c_F_M_pulling l D cI cJ cZ cP cS po m0 mrf mki mpa mta mla msl mco mhe mso msi msh mce mca mwo mnu mte mwa mke mma mth mtr (npu) (nte) (nat_) (nde) (nto) (nse) (nhu) (nga) (nsd) (nfa) (nba) (npl) (nen) (nnu) (nwr) (q_97) (nik) gki gpa q_98 (p_) (x) hy0 hy1 hy2 hy3 hy4 hy5 hy6 hy7 hy8 hy9 (by omega) (by omega) hy12 hy13 hy14 hy15 (by omega) (by omega) hp_gki hp_gpa H.size) (cwV 2 hts gX8_freeing_X8_pulling rfl rfl rfl ⟨rfl, dh_X8_pulling⟩ ⟨Nat.le_of_ble_eq_true rfl, Nat.le_of_ble_eq_true rfl⟩) hK hN (hZ.kept hS) hP hD hS hA [2, 0, 1, 3] [] rfl rfl (by decide) (by decide) (by decide) (va_recv (q := (RX8, TX8, 38)) hK hP (ci := 8) (q0 := 2) rfl rfl) rfl hl.1 rfl (Nat.le_of_ble_eq_true rfl) dX8_freeing_86 ⟨Nat.le_of_ble_eq_true rfl, Nat.le_of_ble_eq_true rfl⟩ (fun r_99 u_100 H locs hr_99 hP hD hS => ?_)
              obtain ⟨q_101, q_102⟩ := u_100
              try dsimp only at hr_99
              obtain ⟨hbq_101, hsr_99_0, hsr_99_1, hsr_99_2, hr_99⟩ := hr_99
              have h9R := zRe (ws' := [(zMO m0 npu nte nat_ nde nto nse nhu nga nsd nfa mrf mki mpa mta mla msl mco mhe mso msi msh mce mca mwo mnu mte nba npl nen nnu nwr mwa mke mma mth mtr q_101 nik), (mki, .inl (cI, 8, .inl gki)), (mpa, .inl (cI, 8, .inl gpa)), (mtr, .inl (cI, 20, .inl q_102))]) hP hD rfl
              clear hP hD
              obtain ⟨hP, hD⟩ := h9R
              refine lv_iconst (v := 2) hx hb dX8_freeing_89 (by decide) ?_
              refine lv_imul hx hb dX8_freeing_90 ?_
              refine lv_topi (fun x_103 ex_103 => ?_)
              refine lv_istore (lv' := [(6, .int x_103), (5, .int 1), (4, .int x), (3, .int 5), (0, .ref m0), (1, .int p_), (2, .int x)]) hx hb dX8_freeing_91 hl (by decide) rfl (fun ls hl => ?_)
              refine lv_iload hx hb dX8_freeing_93 (lv_at hl 1 rfl) ?_
              refine lv_if_eq (tgt := 105) hx hb dX8_freeing_95 (by decide) (fun c_104 => ?_) (fun c_104 => ?_)
              · exact absurd c_104 (by decide)
              · refine lv_iload hx hb dX8_freeing_98 (lv_at hl 0 rfl) ?_
                refine lv_iconst (v := 3) hx hb dX8_freeing_100 (by decide) ?_
                refine lv_imul hx hb dX8_freeing_101 ?_
                refine lv_topi (fun x_105 ex_105 => ?_)
                refine lv_goto (tgt := 107) hx hb dX8_freeing_102 (by decide) ?_
                exact W.iret (v := x_105) hx hb hr (fun t ht hW => ⟨⟨x_105, (q_101, q_102), rfl, ⟨(show 0 ≤ q_101.toInt ∧ q_101.toInt ≤ 2000 from hbq_101), (show (x_105 : Int32) = zQf (gki p_.toNatClampNeg).toInt x p_ (gpa p_.toNatClampNeg) from by (have hk : (gki p_.toNatClampNeg).toInt = 5 := (by rw [← ex_1]; first | done | decide); rw [hk]; unfold zQf; (repeat (first | rw [if_pos (by decide)] | rw [if_neg (by decide)])); (try rw [ex_105]); (try rw [ex_103]); (try rw [hsr_99_0, hk]); (try rw [ex_105]); (try rw [ex_103]); first | done | rfl)), (show q_102 = zTr gtr nra.toInt (zBf (gki p_.toNatClampNeg).toInt) from by (have hk : (gki p_.toNatClampNeg).toInt = 5 := (by rw [← ex_1]; first | done | decide); have zbp0 : ((zBp 5).length : Int) = 1 := rfl; have zbf1 : ((zBf 5).length : Int) = 3 := rfl; have zbr2 : ((zBr 5).length : Int) = 6 := rfl; have q0 := hsr_99_2; rw [hk] at q0; rw [hsr_99_1, hk]; rw [hsr_95_0]; rw [hsr_91_0]; rw [zTr_app (by first | omega | (simp; omega) | (show _ = _ + 1; omega))]; rw [zTr_app (by first | omega | (simp; omega) | (show _ = _ + 1; omega))]; (try rw [hk]); first | done | rfl)), (show q_101.toInt = nra.toInt + ((zBf (gki p_.toNatClampNeg).toInt).length : Nat) from by (have hk : (gki p_.toNatClampNeg).toInt = 5 := (by rw [← ex_1]; first | done | decide); have zp : ((zBp 5).length : Int) = 1 := rfl; have zf : ((zBf 5).length : Int) = 3 := rfl; have zr : ((zBr 5).length : Int) = 6 := rfl; have q0 := hsr_99_2; rw [hk] at q0; rw [hk]; omega)), trivial⟩, zRet ht hP hD [0, 1, 2, 3] (by decide) rfl⟩, hS.F ht⟩) hS.2.2 dX8_freeing_107
      · exact absurd c_87 (by decide)
    · exact absurd c_86 (by decide)
  · have kc6 : (6 : Int32).toInt = 6 := by decide
    refine lv_iload_n hx hb dX8_freeing_7 rfl (lv_at hl 3 rfl) ?_
    refine lv_istore (lv' := [(4, .int x), (3, .int 6), (0, .ref m0), (1, .int p_), (2, .int x)]) hx hb dX8_freeing_8 hl (by decide) rfl (fun ls hl => ?_)
    refine lv_iload_n hx hb dX8_freeing_10 rfl (lv_at hl 1 rfl) ?_
    refine lv_bipush (v := 6) hx hb dX8_freeing_11 (by decide) ?_
    refine lv_icmp_ne (tgt := 32) hx hb dX8_freeing_13 (by decide) (fun c_106 => ?_) (fun c_106 => ?_)
    · exact absurd c_106 (by decide)
    · refine lv_aload_n hx hb dX8_freeing_16 rfl (lv_at hl 2 rfl) ?_
      refine lv_bipush (v := 71) hx hb dX8_freeing_17 (by decide) ?_
      skip
      refine zw_Vv (As := [.int 71]) (rest := []) (wr := [(mki, .inl (cI, 8, .inl gki)), (mpa, .inl (cI, 8, .inl gpa))]) ⟨hx, hb, hml, hown, hts⟩ (c_F_M_body l D cI cJ cZ cP cS po m0 mrf mki mpa mta mla msl mco mhe mso msi msh mce mca mwo mnu mte mwa mke mma mth mtr (npu) (nte) (nat_) (nde) (nto) (nse) (nhu) (nga) (nsd) (nfa) (nba) (npl) (nen) (nnu) (nwr) (nra) (nik) gtr (71) hy0 hy1 hy2 hy3 hy4 hy5 hy6 hy7 hy8 hy9 hy10 hy11 hy12 hy13 hy10 hy11 H.size) (cwV 1 hts gX8_freeing_X8_body rfl rfl rfl ⟨rfl, dh_X8_body⟩ ⟨Nat.le_of_ble_eq_true rfl, Nat.le_of_ble_eq_true rfl⟩) hK hN (hZ.kept hS) hP hD hS hA [0, 3] [1, 2] rfl rfl (by decide) (by decide) (by decide) (va_recv (q := (RX8, TX8, 38)) hK hP (ci := 8) (q0 := 0) rfl rfl) rfl hl.1 rfl (Nat.le_of_ble_eq_true rfl) dX8_freeing_19 ⟨Nat.le_of_ble_eq_true rfl, Nat.le_of_ble_eq_true rfl⟩ (fun u_108 H locs hr_107 hP hD hS => ?_)
      obtain ⟨q_109, q_110⟩ := u_108
      try dsimp only at hr_107
      obtain ⟨hbq_109, hsr_107_0, hr_107⟩ := hr_107
      have h9R := zRe (ws' := [(mki, .inl (cI, 8, .inl gki)), (mpa, .inl (cI, 8, .inl gpa)), (zMO m0 npu nte nat_ nde nto nse nhu nga nsd nfa mrf mki mpa mta mla msl mco mhe mso msi msh mce mca mwo mnu mte nba npl nen nnu nwr mwa mke mma mth mtr q_109 nik), (mtr, .inl (cI, 20, .inl q_110))]) hP hD rfl
      clear hP hD
      obtain ⟨hP, hD⟩ := h9R
      refine lv_iload_n hx hb dX8_freeing_22 rfl (lv_at hl 4 rfl) ?_
      refine lv_aload_n hx hb dX8_freeing_23 rfl (lv_at hl 2 rfl) ?_
      refine va_get (D := D) (ci := 8) (v := .ref mpa) (C := RX8) (T := TX8) (N := 38) hx hb hts hi_X8_freeing_8 hown hK hP 2 rfl rfl 12 (by decide) (hts (.fieldLink RX8 32 "TheLiningsInItModel" "part" "[I") (List.mem_of_getElem? (i := 2) rfl)) (fun _ h9 => h9) rfl dX8_freeing_24 ?_
      refine lv_iload_n hx hb dX8_freeing_27 rfl (lv_at hl 3 rfl) ?_
      refine va_iald hx hb hK hP 1 0 rfl rfl (zf_in (by omega) (by omega)) dX8_freeing_28 ?_
      refine lv_topi (fun x_111 ex_111 => ?_)
      have bx_111 : 0 ≤ x_111.toInt ∧ x_111.toInt ≤ 9 := by rw [ex_111]; exact hp_gpa _
      refine lv_isub hx hb dX8_freeing_29 ?_
      refine lv_topi (fun x_112 ex_112 => ?_)
      refine lv_istore (lv' := [(4, .int x_112), (3, .int 6), (0, .ref m0), (1, .int p_), (2, .int x)]) hx hb dX8_freeing_30 hl (by decide) rfl (fun ls hl => ?_)
      refine lv_iload_n hx hb dX8_freeing_32 rfl (lv_at hl 1 rfl) ?_
      refine lv_iconst (v := 3) hx hb dX8_freeing_33 (by decide) ?_
      refine lv_icmp_ne (tgt := 48) hx hb dX8_freeing_34 (by decide) (fun c_113 => ?_) (fun c_113 => ?_)
      · refine lv_iload_n hx hb dX8_freeing_48 rfl (lv_at hl 1 rfl) ?_
        refine lv_iconst (v := 2) hx hb dX8_freeing_49 (by decide) ?_
        refine lv_icmp_eq (tgt := 58) hx hb dX8_freeing_50 (by decide) (fun c_114 => ?_) (fun c_114 => ?_)
        · exact absurd c_114 (by decide)
        · refine lv_iload_n hx hb dX8_freeing_53 rfl (lv_at hl 1 rfl) ?_
          refine lv_iconst (v := 5) hx hb dX8_freeing_54 (by decide) ?_
          refine lv_icmp_ne (tgt := 62) hx hb dX8_freeing_55 (by decide) (fun c_115 => ?_) (fun c_115 => ?_)
          · refine lv_iconst (v := 0) hx hb dX8_freeing_62 (by decide) ?_
            refine lv_istore (lv' := [(5, .int 0), (4, .int x_112), (3, .int 6), (0, .ref m0), (1, .int p_), (2, .int x)]) hx hb dX8_freeing_63 hl (by decide) rfl (fun ls hl => ?_)
            refine lv_iload hx hb dX8_freeing_65 (lv_at hl 0 rfl) ?_
            refine lv_if_eq (tgt := 76) hx hb dX8_freeing_67 (by decide) (fun c_116 => ?_) (fun c_116 => ?_)
            · refine lv_aload_n hx hb dX8_freeing_76 rfl (lv_at hl 3 rfl) ?_
              refine lv_bipush (v := 11) hx hb dX8_freeing_77 (by decide) ?_
              skip
              refine zw_Vv (As := [.int 11]) (rest := []) (wr := [(mki, .inl (cI, 8, .inl gki)), (mpa, .inl (cI, 8, .inl gpa))]) ⟨hx, hb, hml, hown, hts⟩ (c_F_M_body l D cI cJ cZ cP cS po m0 mrf mki mpa mta mla msl mco mhe mso msi msh mce mca mwo mnu mte mwa mke mma mth mtr (npu) (nte) (nat_) (nde) (nto) (nse) (nhu) (nga) (nsd) (nfa) (nba) (npl) (nen) (nnu) (nwr) (q_109) (nik) q_110 (11) hy0 hy1 hy2 hy3 hy4 hy5 hy6 hy7 hy8 hy9 (by omega) (by omega) hy12 hy13 (by omega) (by omega) H.size) (cwV 1 hts gX8_freeing_X8_body rfl rfl rfl ⟨rfl, dh_X8_body⟩ ⟨Nat.le_of_ble_eq_true rfl, Nat.le_of_ble_eq_true rfl⟩) hK hN (hZ.kept hS) hP hD hS hA [2, 3] [0, 1] rfl rfl (by decide) (by decide) (by decide) (va_recv (q := (RX8, TX8, 38)) hK hP (ci := 8) (q0 := 2) rfl rfl) rfl hl.1 rfl (Nat.le_of_ble_eq_true rfl) dX8_freeing_79 ⟨Nat.le_of_ble_eq_true rfl, Nat.le_of_ble_eq_true rfl⟩ (fun u_118 H locs hr_117 hP hD hS => ?_)
              obtain ⟨q_119, q_120⟩ := u_118
              try dsimp only at hr_117
              obtain ⟨hbq_119, hsr_117_0, hr_117⟩ := hr_117
              have h9R := zRe (ws' := [(mki, .inl (cI, 8, .inl gki)), (mpa, .inl (cI, 8, .inl gpa)), (zMO m0 npu nte nat_ nde nto nse nhu nga nsd nfa mrf mki mpa mta mla msl mco mhe mso msi msh mce mca mwo mnu mte nba npl nen nnu nwr mwa mke mma mth mtr q_119 nik), (mtr, .inl (cI, 20, .inl q_120))]) hP hD rfl
              clear hP hD
              obtain ⟨hP, hD⟩ := h9R
              refine lv_aload_n hx hb dX8_freeing_82 rfl (lv_at hl 3 rfl) ?_
              refine lv_iload_n hx hb dX8_freeing_83 rfl (lv_at hl 4 rfl) ?_
              refine lv_iload hx hb dX8_freeing_84 (lv_at hl 1 rfl) ?_
              skip
              refine zw_V (As := [.int p_, .int x_112]) (rest := []) (wr := []) ⟨hx, hb, hml, hown, hts⟩ (c_F_M_pulling l D cI cJ cZ cP cS po m0 mrf mki mpa mta mla msl mco mhe mso msi msh mce mca mwo mnu mte mwa mke mma mth mtr (npu) (nte) (nat_) (nde) (nto) (nse) (nhu) (nga) (nsd) (nfa) (nba) (npl) (nen) (nnu) (nwr) (q_119) (nik) gki gpa q_120 (p_) (x_112) hy0 hy1 hy2 hy3 hy4 hy5 hy6 hy7 hy8 hy9 (by omega) (by omega) hy12 hy13 hy14 hy15 (by omega) (by omega) hp_gki hp_gpa H.size) (cwV 2 hts gX8_freeing_X8_pulling rfl rfl rfl ⟨rfl, dh_X8_pulling⟩ ⟨Nat.le_of_ble_eq_true rfl, Nat.le_of_ble_eq_true rfl⟩) hK hN (hZ.kept hS) hP hD hS hA [2, 0, 1, 3] [] rfl rfl (by decide) (by decide) (by decide) (va_recv (q := (RX8, TX8, 38)) hK hP (ci := 8) (q0 := 2) rfl rfl) rfl hl.1 rfl (Nat.le_of_ble_eq_true rfl) dX8_freeing_86 ⟨Nat.le_of_ble_eq_true rfl, Nat.le_of_ble_eq_true rfl⟩ (fun r_121 u_122 H locs hr_121 hP hD hS => ?_)
              obtain ⟨q_123, q_124⟩ := u_122
              try dsimp only at hr_121
              obtain ⟨hbq_123, hsr_121_0, hsr_121_1, hsr_121_2, hr_121⟩ := hr_121
              have h9R := zRe (ws' := [(zMO m0 npu nte nat_ nde nto nse nhu nga nsd nfa mrf mki mpa mta mla msl mco mhe mso msi msh mce mca mwo mnu mte nba npl nen nnu nwr mwa mke mma mth mtr q_123 nik), (mki, .inl (cI, 8, .inl gki)), (mpa, .inl (cI, 8, .inl gpa)), (mtr, .inl (cI, 20, .inl q_124))]) hP hD rfl
              clear hP hD
              obtain ⟨hP, hD⟩ := h9R
              refine lv_iconst (v := 2) hx hb dX8_freeing_89 (by decide) ?_
              refine lv_imul hx hb dX8_freeing_90 ?_
              refine lv_topi (fun x_125 ex_125 => ?_)
              refine lv_istore (lv' := [(6, .int x_125), (5, .int 0), (4, .int x_112), (3, .int 6), (0, .ref m0), (1, .int p_), (2, .int x)]) hx hb dX8_freeing_91 hl (by decide) rfl (fun ls hl => ?_)
              refine lv_iload hx hb dX8_freeing_93 (lv_at hl 1 rfl) ?_
              refine lv_if_eq (tgt := 105) hx hb dX8_freeing_95 (by decide) (fun c_126 => ?_) (fun c_126 => ?_)
              · refine lv_iload hx hb dX8_freeing_105 (lv_at hl 0 rfl) ?_
                exact W.iret (v := x_125) hx hb hr (fun t ht hW => ⟨⟨x_125, (q_123, q_124), rfl, ⟨(show 0 ≤ q_123.toInt ∧ q_123.toInt ≤ 2000 from hbq_123), (show (x_125 : Int32) = zQf (gki p_.toNatClampNeg).toInt x p_ (gpa p_.toNatClampNeg) from by (have hk : (gki p_.toNatClampNeg).toInt = 6 := (by rw [← ex_1]; first | done | decide); rw [hk]; unfold zQf; (repeat (first | rw [if_pos (by decide)] | rw [if_neg (by decide)])); (try rw [ex_125]); (try rw [ex_112]); (try rw [ex_111]); (try rw [hsr_121_0, hk]); (try rw [ex_125]); (try rw [ex_112]); (try rw [ex_111]); (try rw [ex_111]); first | done | rfl)), (show q_124 = zTr gtr nra.toInt (zBf (gki p_.toNatClampNeg).toInt) from by (have hk : (gki p_.toNatClampNeg).toInt = 6 := (by rw [← ex_1]; first | done | decide); have zbp0 : ((zBp 6).length : Int) = 3 := rfl; have zbf1 : ((zBf 6).length : Int) = 5 := rfl; have zbr2 : ((zBr 6).length : Int) = 10 := rfl; have q0 := hsr_121_2; rw [hk] at q0; rw [hsr_121_1, hk]; rw [hsr_117_0]; rw [hsr_107_0]; rw [zTr_app (by first | omega | (simp; omega) | (show _ = _ + 1; omega))]; rw [zTr_app (by first | omega | (simp; omega) | (show _ = _ + 1; omega))]; (try rw [hk]); first | done | rfl)), (show q_123.toInt = nra.toInt + ((zBf (gki p_.toNatClampNeg).toInt).length : Nat) from by (have hk : (gki p_.toNatClampNeg).toInt = 6 := (by rw [← ex_1]; first | done | decide); have zp : ((zBp 6).length : Int) = 3 := rfl; have zf : ((zBf 6).length : Int) = 5 := rfl; have zr : ((zBr 6).length : Int) = 10 := rfl; have q0 := hsr_121_2; rw [hk] at q0; rw [hk]; omega)), trivial⟩, zRet ht hP hD [0, 1, 2, 3] (by decide) rfl⟩, hS.F ht⟩) hS.2.2 dX8_freeing_107
              · exact absurd c_126 (by decide)
            · exact absurd c_116 (by decide)
          · exact absurd c_115 (by decide)
      · exact absurd c_113 (by decide)
theorem zBp_le (k : Int) : ((zBp k).length : Int) ≤ 3 := by
  unfold zBp
  repeat' split
  all_goals first | decide | simp
theorem zBf_le (k : Int) : ((zBf k).length : Int) ≤ 5 := by
  have h := zBp_le k
  unfold zBf
  repeat' split
  all_goals (simp only [List.length_append, List.length_cons, List.length_nil]; omega)
set_option maxHeartbeats 4000000 in
set_option maxRecDepth 100000 in
theorem c_F_M_resting (l : Launch) (D : va_G) (cI cJ cZ cP cS : ClassId) (po : zPool) (m0 mrf mki mpa mta mla msl mco mhe mso msi msh mce mca mwo mnu mte mwa mke mma mth mtr : Nat) (npu nte nat_ nde nto nse nhu nga nsd nfa nba npl nen nnu nwr nra nik : Int32) (gki gpa gtr : Nat → Int32) (p_ x : Int32) (hy0 : 0 ≤ npu.toInt) (hy1 : npu.toInt ≤ 8) (hy2 : 4 ≤ nte.toInt) (hy3 : nte.toInt ≤ 40) (hy4 : 0 ≤ nat_.toInt) (hy5 : nat_.toInt ≤ 40) (hy6 : 0 ≤ nde.toInt) (hy7 : nde.toInt ≤ 24) (hy8 : 0 ≤ nhu.toInt) (hy9 : nhu.toInt ≤ 9) (hy10 : 0 ≤ nra.toInt) (hy11 : nra.toInt ≤ 2000) (hy12 : 0 ≤ nik.toInt) (hy13 : nik.toInt ≤ 1) (hy14 : 0 ≤ p_.toInt) (hy15 : p_.toInt ≤ 7) (hy16 : 0 ≤ nra.toInt) (hy17 : nra.toInt ≤ 800) (hp_gki : zRg gki (0) 6) (hp_gpa : zRg gpa (0) 9) (hpz : Nat) : Met l yX8_resting wsX8_resting ({ frames := 3, cells := 0, slots := 0, locals := 71 }) (va_Pc [.ref m0, .int p_, .int x] (zW D (zKT cI cJ cZ cP cS) po [(zMO m0 npu nte nat_ nde nto nse nhu nga nsd nfa mrf mki mpa mta mla msl mco mhe mso msi msh mce mca mwo mnu mte nba npl nen nnu nwr mwa mke mma mth mtr nra nik), (mki, .inl (cI, 8, .inl gki)), (mpa, .inl (cI, 8, .inl gpa)), (mtr, .inl (cI, 20, .inl gtr))] hpz)) (va_Qi (fun (r : Int32) (u : (Int32) × (Nat → Int32)) => (0 ≤ u.1.toInt ∧ u.1.toInt ≤ 2000) ∧ (r = zQr (gki p_.toNatClampNeg).toInt x p_ (gpa p_.toNatClampNeg)) ∧ (u.2 = zTr gtr nra.toInt (zBr (gki p_.toNatClampNeg).toInt)) ∧ (u.1.toInt = nra.toInt + ((zBr (gki p_.toNatClampNeg).toInt).length : Nat)) ∧ (True)) (zB D [(zMO m0 npu nte nat_ nde nto nse nhu nga nsd nfa mrf mki mpa mta mla msl mco mhe mso msi msh mce mca mwo mnu mte nba npl nen nnu nwr mwa mke mma mth mtr nra nik), (mki, .inl (cI, 8, .inl gki)), (mpa, .inl (cI, 8, .inl gpa)), (mtr, .inl (cI, 20, .inl gtr))] hpz (fun (u : (Int32) × (Nat → Int32)) => [(zMO m0 npu nte nat_ nde nto nse nhu nga nsd nfa mrf mki mpa mta mla msl mco mhe mso msi msh mce mca mwo mnu mte nba npl nen nnu nwr mwa mke mma mth mtr u.1 nik), (mki, .inl (cI, 8, .inl gki)), (mpa, .inl (cI, 8, .inl gpa)), (mtr, .inl (cI, 20, .inl u.2))])) (va_A [(zMO m0 npu nte nat_ nde nto nse nhu nga nsd nfa mrf mki mpa mta mla msl mco mhe mso msi msh mce mca mwo mnu mte nba npl nen nnu nwr mwa mke mma mth mtr nra nik), (mki, .inl (cI, 8, .inl gki)), (mpa, .inl (cI, 8, .inl gpa)), (mtr, .inl (cI, 20, .inl gtr))] hpz)) 0 0 (va_A [(zMO m0 npu nte nat_ nde nto nse nhu nga nsd nfa mrf mki mpa mta mla msl mco mhe mso msi msh mce mca mwo mnu mte nba npl nen nnu nwr mwa mke mma mth mtr nra nik), (mki, .inl (cI, 8, .inl gki)), (mpa, .inl (cI, 8, .inl gpa)), (mtr, .inl (cI, 20, .inl gtr))] hpz) := by
  refine Met.ofW (cc := cX8_resting) (maxL := 5) (ret := (some .int)) (by decide) rfl ?_
  intro p e s m args below meth c s₁ B hml hv
  obtain ⟨rfl, hsz, hP, hK, hD0, hN, hZ⟩ := hv
  have hx := B.exec
  have hb := B.bytes
  have hr := B.returns
  have hts := atoms_spec (ws := wsX8_resting) B.pre
  have hown : s.vm.findClass RX8 = some m.cls := findClass_of_methodNamed B.named
  have hlocks := B.notSynchronized
  subst hsz
  have hD := hD0.self (sz := s.heap.size)
  have hA := zA_of hD
  have hl := lv_entry ([.ref m0, .int p_, .int x]) (n := 5) (Nat.le_of_ble_eq_true rfl)
  rw [lg_entry_eq]
  generalize (lg_sl ([.ref m0, .int p_, .int x]) ++ List.replicate (5 - (lg_sl ([.ref m0, .int p_, .int x])).length) Slot.unset).toArray = ls at hl ⊢
  replace hl : lv_has ls 5 [(0, .ref m0), (1, .int p_), (2, .int x)] := hl
  refine zw_begin hP hD (fun H locs hP1 hS => ?_)
  clear hP
  have hP := hP1
  clear hP1
  refine lv_aload_n hx hb dX8_resting_0 rfl (lv_at hl 0 rfl) ?_
  refine va_get (D := D) (ci := 8) (v := .ref mki) (C := RX8) (T := TX8) (N := 38) hx hb hts hi_X8_resting_8 hown hK hP 0 rfl rfl 11 (by decide) (hts (.fieldLink RX8 29 "TheLiningsInItModel" "kind" "[I") (List.mem_of_getElem? (i := 1) rfl)) (fun _ h9 => h9) rfl dX8_resting_1 ?_
  refine lv_iload_n hx hb dX8_resting_4 rfl (lv_at hl 1 rfl) ?_
  refine va_iald hx hb hK hP 1 0 rfl rfl (zf_in (by omega) (by omega)) dX8_resting_5 ?_
  refine lv_topi (fun x_1 ex_1 => ?_)
  have bx_1 : 0 ≤ x_1.toInt ∧ x_1.toInt ≤ 6 := by rw [ex_1]; exact hp_gki _
  refine lv_istore_n (lv' := [(3, .int x_1), (0, .ref m0), (1, .int p_), (2, .int x)]) hx hb dX8_resting_6 rfl hl (by decide) rfl (fun ls hl => ?_)
  have hsp : x_1 = 0 ∨ x_1 = 1 ∨ x_1 = 2 ∨ x_1 = 3 ∨ x_1 = 4 ∨ x_1 = 5 ∨ x_1 = 6 := by
    rcases (show x_1.toInt = 0 ∨ x_1.toInt = 1 ∨ x_1.toInt = 2 ∨ x_1.toInt = 3 ∨ x_1.toInt = 4 ∨ x_1.toInt = 5 ∨ x_1.toInt = 6 by omega) with h9 | h9 | h9 | h9 | h9 | h9 | h9
    · refine Or.inl ?_; exact zf_val h9 (by decide)
    · refine Or.inr (Or.inl ?_); exact zf_val h9 (by decide)
    · refine Or.inr (Or.inr (Or.inl ?_)); exact zf_val h9 (by decide)
    · refine Or.inr (Or.inr (Or.inr (Or.inl ?_))); exact zf_val h9 (by decide)
    · refine Or.inr (Or.inr (Or.inr (Or.inr (Or.inl ?_)))); exact zf_val h9 (by decide)
    · refine Or.inr (Or.inr (Or.inr (Or.inr (Or.inr (Or.inl ?_))))); exact zf_val h9 (by decide)
    · refine Or.inr (Or.inr (Or.inr (Or.inr (Or.inr (Or.inr (?_)))))); exact zf_val h9 (by decide)
  rcases hsp with rfl | rfl | rfl | rfl | rfl | rfl | rfl
  · have kc0 : (0 : Int32).toInt = 0 := by decide
    refine lv_iload_n hx hb dX8_resting_7 rfl (lv_at hl 0 rfl) ?_
    refine lv_iconst (v := 4) hx hb dX8_resting_8 (by decide) ?_
    refine lv_icmp_eq (tgt := 18) hx hb dX8_resting_9 (by decide) (fun c_2 => ?_) (fun c_2 => ?_)
    · exact absurd c_2 (by decide)
    · refine lv_iload_n hx hb dX8_resting_12 rfl (lv_at hl 0 rfl) ?_
      refine lv_bipush (v := 6) hx hb dX8_resting_13 (by decide) ?_
      refine lv_icmp_ne (tgt := 24) hx hb dX8_resting_15 (by decide) (fun c_3 => ?_) (fun c_3 => ?_)
      · refine lv_iload_n hx hb dX8_resting_24 rfl (lv_at hl 0 rfl) ?_
        refine lv_iconst (v := 5) hx hb dX8_resting_25 (by decide) ?_
        refine lv_icmp_ne (tgt := 35) hx hb dX8_resting_26 (by decide) (fun c_4 => ?_) (fun c_4 => ?_)
        · refine lv_aload_n hx hb dX8_resting_35 rfl (lv_at hl 1 rfl) ?_
          refine lv_bipush (v := 12) hx hb dX8_resting_36 (by decide) ?_
          skip
          refine zw_Vv (As := [.int 12]) (rest := []) (wr := [(mki, .inl (cI, 8, .inl gki)), (mpa, .inl (cI, 8, .inl gpa))]) ⟨hx, hb, hml, hown, hts⟩ (c_F_M_body l D cI cJ cZ cP cS po m0 mrf mki mpa mta mla msl mco mhe mso msi msh mce mca mwo mnu mte mwa mke mma mth mtr (npu) (nte) (nat_) (nde) (nto) (nse) (nhu) (nga) (nsd) (nfa) (nba) (npl) (nen) (nnu) (nwr) (nra) (nik) gtr (12) hy0 hy1 hy2 hy3 hy4 hy5 hy6 hy7 hy8 hy9 hy10 hy11 hy12 hy13 hy10 hy11 H.size) (cwV 1 hts gX8_resting_X8_body rfl rfl rfl ⟨rfl, dh_X8_body⟩ ⟨Nat.le_of_ble_eq_true rfl, Nat.le_of_ble_eq_true rfl⟩) hK hN (hZ.kept hS) hP hD hS hA [0, 3] [1, 2] rfl rfl (by decide) (by decide) (by decide) (va_recv (q := (RX8, TX8, 38)) hK hP (ci := 8) (q0 := 0) rfl rfl) rfl hl.1 rfl (Nat.le_of_ble_eq_true rfl) dX8_resting_38 ⟨Nat.le_of_ble_eq_true rfl, Nat.le_of_ble_eq_true rfl⟩ (fun u_6 H locs hr_5 hP hD hS => ?_)
          obtain ⟨q_7, q_8⟩ := u_6
          try dsimp only at hr_5
          obtain ⟨hbq_7, hsr_5_0, hr_5⟩ := hr_5
          have h9R := zRe (ws' := [(mki, .inl (cI, 8, .inl gki)), (mpa, .inl (cI, 8, .inl gpa)), (zMO m0 npu nte nat_ nde nto nse nhu nga nsd nfa mrf mki mpa mta mla msl mco mhe mso msi msh mce mca mwo mnu mte nba npl nen nnu nwr mwa mke mma mth mtr q_7 nik), (mtr, .inl (cI, 20, .inl q_8))]) hP hD rfl
          clear hP hD
          obtain ⟨hP, hD⟩ := h9R
          refine lv_aload_n hx hb dX8_resting_41 rfl (lv_at hl 1 rfl) ?_
          refine lv_iload_n hx hb dX8_resting_42 rfl (lv_at hl 2 rfl) ?_
          refine lv_iload_n hx hb dX8_resting_43 rfl (lv_at hl 3 rfl) ?_
          skip
          refine zw_V (As := [.int p_, .int x]) (rest := []) (wr := []) ⟨hx, hb, hml, hown, hts⟩ (c_F_M_freeing l D cI cJ cZ cP cS po m0 mrf mki mpa mta mla msl mco mhe mso msi msh mce mca mwo mnu mte mwa mke mma mth mtr (npu) (nte) (nat_) (nde) (nto) (nse) (nhu) (nga) (nsd) (nfa) (nba) (npl) (nen) (nnu) (nwr) (q_7) (nik) gki gpa q_8 (p_) (x) hy0 hy1 hy2 hy3 hy4 hy5 hy6 hy7 hy8 hy9 (by omega) (by omega) hy12 hy13 hy14 hy15 (by omega) (by omega) hp_gki hp_gpa H.size) (cwV 2 hts gX8_resting_X8_freeing rfl rfl rfl ⟨rfl, dh_X8_freeing⟩ ⟨Nat.le_of_ble_eq_true rfl, Nat.le_of_ble_eq_true rfl⟩) hK hN (hZ.kept hS) hP hD hS hA [2, 0, 1, 3] [] rfl rfl (by decide) (by decide) (by decide) (va_recv (q := (RX8, TX8, 38)) hK hP (ci := 8) (q0 := 2) rfl rfl) rfl hl.1 rfl (Nat.le_of_ble_eq_true rfl) dX8_resting_44 ⟨Nat.le_of_ble_eq_true rfl, Nat.le_of_ble_eq_true rfl⟩ (fun r_9 u_10 H locs hr_9 hP hD hS => ?_)
          obtain ⟨q_11, q_12⟩ := u_10
          try dsimp only at hr_9
          obtain ⟨hbq_11, hsr_9_0, hsr_9_1, hsr_9_2, hr_9⟩ := hr_9
          have h9R := zRe (ws' := [(zMO m0 npu nte nat_ nde nto nse nhu nga nsd nfa mrf mki mpa mta mla msl mco mhe mso msi msh mce mca mwo mnu mte nba npl nen nnu nwr mwa mke mma mth mtr q_11 nik), (mki, .inl (cI, 8, .inl gki)), (mpa, .inl (cI, 8, .inl gpa)), (mtr, .inl (cI, 20, .inl q_12))]) hP hD rfl
          clear hP hD
          obtain ⟨hP, hD⟩ := h9R
          have zl9 := zBf_le (gki p_.toNatClampNeg).toInt
          refine lv_istore (lv' := [(4, .int r_9), (3, .int 0), (0, .ref m0), (1, .int p_), (2, .int x)]) hx hb dX8_resting_47 hl (by decide) rfl (fun ls hl => ?_)
          refine lv_iload hx hb dX8_resting_49 (lv_at hl 0 rfl) ?_
          refine lv_aload_n hx hb dX8_resting_51 rfl (lv_at hl 2 rfl) ?_
          refine lv_iload_n hx hb dX8_resting_52 rfl (lv_at hl 3 rfl) ?_
          refine lv_iload_n hx hb dX8_resting_53 rfl (lv_at hl 4 rfl) ?_
          refine lv_aload_n hx hb dX8_resting_54 rfl (lv_at hl 2 rfl) ?_
          refine va_get (D := D) (ci := 8) (v := .ref mpa) (C := RX8) (T := TX8) (N := 38) hx hb hts hi_X8_resting_8 hown hK hP 0 rfl rfl 12 (by decide) (hts (.fieldLink RX8 32 "TheLiningsInItModel" "part" "[I") (List.mem_of_getElem? (i := 2) rfl)) (fun _ h9 => h9) rfl dX8_resting_55 ?_
          refine lv_iload_n hx hb dX8_resting_58 rfl (lv_at hl 3 rfl) ?_
          refine va_iald hx hb hK hP 2 0 rfl rfl (zf_in (by omega) (by omega)) dX8_resting_59 ?_
          refine lv_topi (fun x_13 ex_13 => ?_)
          have bx_13 : 0 ≤ x_13.toInt ∧ x_13.toInt ≤ 9 := by rw [ex_13]; exact hp_gpa _
          refine lv_isub hx hb dX8_resting_60 ?_
          refine lv_topi (fun x_14 ex_14 => ?_)
          skip
          refine zw_V (As := [.int p_, .int x_14]) (rest := [.int r_9]) (wr := []) ⟨hx, hb, hml, hown, hts⟩ (c_F_M_pulling l D cI cJ cZ cP cS po m0 mrf mki mpa mta mla msl mco mhe mso msi msh mce mca mwo mnu mte mwa mke mma mth mtr (npu) (nte) (nat_) (nde) (nto) (nse) (nhu) (nga) (nsd) (nfa) (nba) (npl) (nen) (nnu) (nwr) (q_11) (nik) gki gpa q_12 (p_) (x_14) hy0 hy1 hy2 hy3 hy4 hy5 hy6 hy7 hy8 hy9 hbq_11.1 hbq_11.2 hy12 hy13 hy14 hy15 hbq_11.1 (by omega) hp_gki hp_gpa H.size) (cwV 2 hts gX8_resting_X8_pulling rfl rfl rfl ⟨rfl, dh_X8_pulling⟩ ⟨Nat.le_of_ble_eq_true rfl, Nat.le_of_ble_eq_true rfl⟩) hK hN (hZ.kept hS) hP hD hS hA [0, 1, 2, 3] [] rfl rfl (by decide) (by decide) (by decide) (va_recv (q := (RX8, TX8, 38)) hK hP (ci := 8) (q0 := 0) rfl rfl) rfl hl.1 rfl (Nat.le_of_ble_eq_true rfl) dX8_resting_61 ⟨Nat.le_of_ble_eq_true rfl, Nat.le_of_ble_eq_true rfl⟩ (fun r_15 u_16 H locs hr_15 hP hD hS => ?_)
          obtain ⟨q_17, q_18⟩ := u_16
          try dsimp only at hr_15
          obtain ⟨hbq_17, hsr_15_0, hsr_15_1, hsr_15_2, hr_15⟩ := hr_15
          have h9R := zRe (ws' := [(zMO m0 npu nte nat_ nde nto nse nhu nga nsd nfa mrf mki mpa mta mla msl mco mhe mso msi msh mce mca mwo mnu mte nba npl nen nnu nwr mwa mke mma mth mtr q_17 nik), (mki, .inl (cI, 8, .inl gki)), (mpa, .inl (cI, 8, .inl gpa)), (mtr, .inl (cI, 20, .inl q_18))]) hP hD rfl
          clear hP hD
          obtain ⟨hP, hD⟩ := h9R
          refine lv_ixor hx hb dX8_resting_64 ?_
          refine lv_topi (fun x_19 ex_19 => ?_)
          refine lv_istore (lv' := [(4, .int x_19), (3, .int 0), (0, .ref m0), (1, .int p_), (2, .int x)]) hx hb dX8_resting_65 hl (by decide) rfl (fun ls hl => ?_)
          refine lv_iload_n hx hb dX8_resting_67 rfl (lv_at hl 1 rfl) ?_
          refine lv_iconst (v := 4) hx hb dX8_resting_68 (by decide) ?_
          refine lv_icmp_eq (tgt := 78) hx hb dX8_resting_69 (by decide) (fun c_20 => ?_) (fun c_20 => ?_)
          · exact absurd c_20 (by decide)
          · refine lv_iload_n hx hb dX8_resting_72 rfl (lv_at hl 1 rfl) ?_
            refine lv_bipush (v := 6) hx hb dX8_resting_73 (by decide) ?_
            refine lv_icmp_ne (tgt := 84) hx hb dX8_resting_75 (by decide) (fun c_21 => ?_) (fun c_21 => ?_)
            · refine lv_iload_n hx hb dX8_resting_84 rfl (lv_at hl 1 rfl) ?_
              refine lv_iconst (v := 5) hx hb dX8_resting_85 (by decide) ?_
              refine lv_icmp_ne (tgt := 96) hx hb dX8_resting_86 (by decide) (fun c_22 => ?_) (fun c_22 => ?_)
              · refine lv_iload hx hb dX8_resting_96 (lv_at hl 0 rfl) ?_
                exact W.iret (v := x_19) hx hb hr (fun t ht hW => ⟨⟨x_19, (q_17, q_18), rfl, ⟨(show 0 ≤ q_17.toInt ∧ q_17.toInt ≤ 2000 from hbq_17), (show (x_19 : Int32) = zQr (gki p_.toNatClampNeg).toInt x p_ (gpa p_.toNatClampNeg) from by (have hk : (gki p_.toNatClampNeg).toInt = 0 := (by rw [← ex_1]; first | done | decide); rw [hk]; unfold zQr; (repeat (first | rw [if_pos (by decide)] | rw [if_neg (by decide)])); (try rw [ex_19]); (try rw [ex_14]); (try rw [ex_13]); (try rw [hsr_9_0, hk]); (try rw [hsr_15_0, hk]); (try rw [ex_19]); (try rw [ex_14]); (try rw [ex_13]); (try rw [ex_13]); first | done | rfl)), (show q_18 = zTr gtr nra.toInt (zBr (gki p_.toNatClampNeg).toInt) from by (have hk : (gki p_.toNatClampNeg).toInt = 0 := (by rw [← ex_1]; first | done | decide); have zbp0 : ((zBp 0).length : Int) = 1 := rfl; have zbf1 : ((zBf 0).length : Int) = 2 := rfl; have zbr2 : ((zBr 0).length : Int) = 4 := rfl; have q0 := hsr_9_2; rw [hk] at q0; have q1 := hsr_15_2; rw [hk] at q1; rw [hsr_15_1, hk]; rw [hsr_9_1, hk]; rw [hsr_5_0]; rw [zTr_app (by first | omega | (simp; omega) | (show _ = _ + 1; omega))]; rw [zTr_app (by first | omega | (simp; omega) | (show _ = _ + 1; omega))]; (try rw [hk]); first | done | rfl)), (show q_17.toInt = nra.toInt + ((zBr (gki p_.toNatClampNeg).toInt).length : Nat) from by (have hk : (gki p_.toNatClampNeg).toInt = 0 := (by rw [← ex_1]; first | done | decide); have zp : ((zBp 0).length : Int) = 1 := rfl; have zf : ((zBf 0).length : Int) = 2 := rfl; have zr : ((zBr 0).length : Int) = 4 := rfl; have q0 := hsr_9_2; rw [hk] at q0; have q1 := hsr_15_2; rw [hk] at q1; rw [hk]; omega)), trivial⟩, zRet ht hP hD [0, 1, 2, 3] (by decide) rfl⟩, hS.F ht⟩) hS.2.2 dX8_resting_98
              · exact absurd c_22 (by decide)
            · exact absurd c_21 (by decide)
        · exact absurd c_4 (by decide)
      · exact absurd c_3 (by decide)
  · have kc1 : (1 : Int32).toInt = 1 := by decide
    refine lv_iload_n hx hb dX8_resting_7 rfl (lv_at hl 0 rfl) ?_
    refine lv_iconst (v := 4) hx hb dX8_resting_8 (by decide) ?_
    refine lv_icmp_eq (tgt := 18) hx hb dX8_resting_9 (by decide) (fun c_23 => ?_) (fun c_23 => ?_)
    · exact absurd c_23 (by decide)
    · refine lv_iload_n hx hb dX8_resting_12 rfl (lv_at hl 0 rfl) ?_
      refine lv_bipush (v := 6) hx hb dX8_resting_13 (by decide) ?_
      refine lv_icmp_ne (tgt := 24) hx hb dX8_resting_15 (by decide) (fun c_24 => ?_) (fun c_24 => ?_)
      · refine lv_iload_n hx hb dX8_resting_24 rfl (lv_at hl 0 rfl) ?_
        refine lv_iconst (v := 5) hx hb dX8_resting_25 (by decide) ?_
        refine lv_icmp_ne (tgt := 35) hx hb dX8_resting_26 (by decide) (fun c_25 => ?_) (fun c_25 => ?_)
        · refine lv_aload_n hx hb dX8_resting_35 rfl (lv_at hl 1 rfl) ?_
          refine lv_bipush (v := 12) hx hb dX8_resting_36 (by decide) ?_
          skip
          refine zw_Vv (As := [.int 12]) (rest := []) (wr := [(mki, .inl (cI, 8, .inl gki)), (mpa, .inl (cI, 8, .inl gpa))]) ⟨hx, hb, hml, hown, hts⟩ (c_F_M_body l D cI cJ cZ cP cS po m0 mrf mki mpa mta mla msl mco mhe mso msi msh mce mca mwo mnu mte mwa mke mma mth mtr (npu) (nte) (nat_) (nde) (nto) (nse) (nhu) (nga) (nsd) (nfa) (nba) (npl) (nen) (nnu) (nwr) (nra) (nik) gtr (12) hy0 hy1 hy2 hy3 hy4 hy5 hy6 hy7 hy8 hy9 hy10 hy11 hy12 hy13 hy10 hy11 H.size) (cwV 1 hts gX8_resting_X8_body rfl rfl rfl ⟨rfl, dh_X8_body⟩ ⟨Nat.le_of_ble_eq_true rfl, Nat.le_of_ble_eq_true rfl⟩) hK hN (hZ.kept hS) hP hD hS hA [0, 3] [1, 2] rfl rfl (by decide) (by decide) (by decide) (va_recv (q := (RX8, TX8, 38)) hK hP (ci := 8) (q0 := 0) rfl rfl) rfl hl.1 rfl (Nat.le_of_ble_eq_true rfl) dX8_resting_38 ⟨Nat.le_of_ble_eq_true rfl, Nat.le_of_ble_eq_true rfl⟩ (fun u_27 H locs hr_26 hP hD hS => ?_)
          obtain ⟨q_28, q_29⟩ := u_27
          try dsimp only at hr_26
          obtain ⟨hbq_28, hsr_26_0, hr_26⟩ := hr_26
          have h9R := zRe (ws' := [(mki, .inl (cI, 8, .inl gki)), (mpa, .inl (cI, 8, .inl gpa)), (zMO m0 npu nte nat_ nde nto nse nhu nga nsd nfa mrf mki mpa mta mla msl mco mhe mso msi msh mce mca mwo mnu mte nba npl nen nnu nwr mwa mke mma mth mtr q_28 nik), (mtr, .inl (cI, 20, .inl q_29))]) hP hD rfl
          clear hP hD
          obtain ⟨hP, hD⟩ := h9R
          refine lv_aload_n hx hb dX8_resting_41 rfl (lv_at hl 1 rfl) ?_
          refine lv_iload_n hx hb dX8_resting_42 rfl (lv_at hl 2 rfl) ?_
          refine lv_iload_n hx hb dX8_resting_43 rfl (lv_at hl 3 rfl) ?_
          skip
          refine zw_V (As := [.int p_, .int x]) (rest := []) (wr := []) ⟨hx, hb, hml, hown, hts⟩ (c_F_M_freeing l D cI cJ cZ cP cS po m0 mrf mki mpa mta mla msl mco mhe mso msi msh mce mca mwo mnu mte mwa mke mma mth mtr (npu) (nte) (nat_) (nde) (nto) (nse) (nhu) (nga) (nsd) (nfa) (nba) (npl) (nen) (nnu) (nwr) (q_28) (nik) gki gpa q_29 (p_) (x) hy0 hy1 hy2 hy3 hy4 hy5 hy6 hy7 hy8 hy9 (by omega) (by omega) hy12 hy13 hy14 hy15 (by omega) (by omega) hp_gki hp_gpa H.size) (cwV 2 hts gX8_resting_X8_freeing rfl rfl rfl ⟨rfl, dh_X8_freeing⟩ ⟨Nat.le_of_ble_eq_true rfl, Nat.le_of_ble_eq_true rfl⟩) hK hN (hZ.kept hS) hP hD hS hA [2, 0, 1, 3] [] rfl rfl (by decide) (by decide) (by decide) (va_recv (q := (RX8, TX8, 38)) hK hP (ci := 8) (q0 := 2) rfl rfl) rfl hl.1 rfl (Nat.le_of_ble_eq_true rfl) dX8_resting_44 ⟨Nat.le_of_ble_eq_true rfl, Nat.le_of_ble_eq_true rfl⟩ (fun r_30 u_31 H locs hr_30 hP hD hS => ?_)
          obtain ⟨q_32, q_33⟩ := u_31
          try dsimp only at hr_30
          obtain ⟨hbq_32, hsr_30_0, hsr_30_1, hsr_30_2, hr_30⟩ := hr_30
          have h9R := zRe (ws' := [(zMO m0 npu nte nat_ nde nto nse nhu nga nsd nfa mrf mki mpa mta mla msl mco mhe mso msi msh mce mca mwo mnu mte nba npl nen nnu nwr mwa mke mma mth mtr q_32 nik), (mki, .inl (cI, 8, .inl gki)), (mpa, .inl (cI, 8, .inl gpa)), (mtr, .inl (cI, 20, .inl q_33))]) hP hD rfl
          clear hP hD
          obtain ⟨hP, hD⟩ := h9R
          have zl9 := zBf_le (gki p_.toNatClampNeg).toInt
          refine lv_istore (lv' := [(4, .int r_30), (3, .int 1), (0, .ref m0), (1, .int p_), (2, .int x)]) hx hb dX8_resting_47 hl (by decide) rfl (fun ls hl => ?_)
          refine lv_iload hx hb dX8_resting_49 (lv_at hl 0 rfl) ?_
          refine lv_aload_n hx hb dX8_resting_51 rfl (lv_at hl 2 rfl) ?_
          refine lv_iload_n hx hb dX8_resting_52 rfl (lv_at hl 3 rfl) ?_
          refine lv_iload_n hx hb dX8_resting_53 rfl (lv_at hl 4 rfl) ?_
          refine lv_aload_n hx hb dX8_resting_54 rfl (lv_at hl 2 rfl) ?_
          refine va_get (D := D) (ci := 8) (v := .ref mpa) (C := RX8) (T := TX8) (N := 38) hx hb hts hi_X8_resting_8 hown hK hP 0 rfl rfl 12 (by decide) (hts (.fieldLink RX8 32 "TheLiningsInItModel" "part" "[I") (List.mem_of_getElem? (i := 2) rfl)) (fun _ h9 => h9) rfl dX8_resting_55 ?_
          refine lv_iload_n hx hb dX8_resting_58 rfl (lv_at hl 3 rfl) ?_
          refine va_iald hx hb hK hP 2 0 rfl rfl (zf_in (by omega) (by omega)) dX8_resting_59 ?_
          refine lv_topi (fun x_34 ex_34 => ?_)
          have bx_34 : 0 ≤ x_34.toInt ∧ x_34.toInt ≤ 9 := by rw [ex_34]; exact hp_gpa _
          refine lv_isub hx hb dX8_resting_60 ?_
          refine lv_topi (fun x_35 ex_35 => ?_)
          skip
          refine zw_V (As := [.int p_, .int x_35]) (rest := [.int r_30]) (wr := []) ⟨hx, hb, hml, hown, hts⟩ (c_F_M_pulling l D cI cJ cZ cP cS po m0 mrf mki mpa mta mla msl mco mhe mso msi msh mce mca mwo mnu mte mwa mke mma mth mtr (npu) (nte) (nat_) (nde) (nto) (nse) (nhu) (nga) (nsd) (nfa) (nba) (npl) (nen) (nnu) (nwr) (q_32) (nik) gki gpa q_33 (p_) (x_35) hy0 hy1 hy2 hy3 hy4 hy5 hy6 hy7 hy8 hy9 hbq_32.1 hbq_32.2 hy12 hy13 hy14 hy15 hbq_32.1 (by omega) hp_gki hp_gpa H.size) (cwV 2 hts gX8_resting_X8_pulling rfl rfl rfl ⟨rfl, dh_X8_pulling⟩ ⟨Nat.le_of_ble_eq_true rfl, Nat.le_of_ble_eq_true rfl⟩) hK hN (hZ.kept hS) hP hD hS hA [0, 1, 2, 3] [] rfl rfl (by decide) (by decide) (by decide) (va_recv (q := (RX8, TX8, 38)) hK hP (ci := 8) (q0 := 0) rfl rfl) rfl hl.1 rfl (Nat.le_of_ble_eq_true rfl) dX8_resting_61 ⟨Nat.le_of_ble_eq_true rfl, Nat.le_of_ble_eq_true rfl⟩ (fun r_36 u_37 H locs hr_36 hP hD hS => ?_)
          obtain ⟨q_38, q_39⟩ := u_37
          try dsimp only at hr_36
          obtain ⟨hbq_38, hsr_36_0, hsr_36_1, hsr_36_2, hr_36⟩ := hr_36
          have h9R := zRe (ws' := [(zMO m0 npu nte nat_ nde nto nse nhu nga nsd nfa mrf mki mpa mta mla msl mco mhe mso msi msh mce mca mwo mnu mte nba npl nen nnu nwr mwa mke mma mth mtr q_38 nik), (mki, .inl (cI, 8, .inl gki)), (mpa, .inl (cI, 8, .inl gpa)), (mtr, .inl (cI, 20, .inl q_39))]) hP hD rfl
          clear hP hD
          obtain ⟨hP, hD⟩ := h9R
          refine lv_ixor hx hb dX8_resting_64 ?_
          refine lv_topi (fun x_40 ex_40 => ?_)
          refine lv_istore (lv' := [(4, .int x_40), (3, .int 1), (0, .ref m0), (1, .int p_), (2, .int x)]) hx hb dX8_resting_65 hl (by decide) rfl (fun ls hl => ?_)
          refine lv_iload_n hx hb dX8_resting_67 rfl (lv_at hl 1 rfl) ?_
          refine lv_iconst (v := 4) hx hb dX8_resting_68 (by decide) ?_
          refine lv_icmp_eq (tgt := 78) hx hb dX8_resting_69 (by decide) (fun c_41 => ?_) (fun c_41 => ?_)
          · exact absurd c_41 (by decide)
          · refine lv_iload_n hx hb dX8_resting_72 rfl (lv_at hl 1 rfl) ?_
            refine lv_bipush (v := 6) hx hb dX8_resting_73 (by decide) ?_
            refine lv_icmp_ne (tgt := 84) hx hb dX8_resting_75 (by decide) (fun c_42 => ?_) (fun c_42 => ?_)
            · refine lv_iload_n hx hb dX8_resting_84 rfl (lv_at hl 1 rfl) ?_
              refine lv_iconst (v := 5) hx hb dX8_resting_85 (by decide) ?_
              refine lv_icmp_ne (tgt := 96) hx hb dX8_resting_86 (by decide) (fun c_43 => ?_) (fun c_43 => ?_)
              · refine lv_iload hx hb dX8_resting_96 (lv_at hl 0 rfl) ?_
                exact W.iret (v := x_40) hx hb hr (fun t ht hW => ⟨⟨x_40, (q_38, q_39), rfl, ⟨(show 0 ≤ q_38.toInt ∧ q_38.toInt ≤ 2000 from hbq_38), (show (x_40 : Int32) = zQr (gki p_.toNatClampNeg).toInt x p_ (gpa p_.toNatClampNeg) from by (have hk : (gki p_.toNatClampNeg).toInt = 1 := (by rw [← ex_1]; first | done | decide); rw [hk]; unfold zQr; (repeat (first | rw [if_pos (by decide)] | rw [if_neg (by decide)])); (try rw [ex_40]); (try rw [ex_35]); (try rw [ex_34]); (try rw [hsr_30_0, hk]); (try rw [hsr_36_0, hk]); (try rw [ex_40]); (try rw [ex_35]); (try rw [ex_34]); (try rw [ex_34]); first | done | rfl)), (show q_39 = zTr gtr nra.toInt (zBr (gki p_.toNatClampNeg).toInt) from by (have hk : (gki p_.toNatClampNeg).toInt = 1 := (by rw [← ex_1]; first | done | decide); have zbp0 : ((zBp 1).length : Int) = 2 := rfl; have zbf1 : ((zBf 1).length : Int) = 3 := rfl; have zbr2 : ((zBr 1).length : Int) = 6 := rfl; have q0 := hsr_30_2; rw [hk] at q0; have q1 := hsr_36_2; rw [hk] at q1; rw [hsr_36_1, hk]; rw [hsr_30_1, hk]; rw [hsr_26_0]; rw [zTr_app (by first | omega | (simp; omega) | (show _ = _ + 1; omega))]; rw [zTr_app (by first | omega | (simp; omega) | (show _ = _ + 1; omega))]; (try rw [hk]); first | done | rfl)), (show q_38.toInt = nra.toInt + ((zBr (gki p_.toNatClampNeg).toInt).length : Nat) from by (have hk : (gki p_.toNatClampNeg).toInt = 1 := (by rw [← ex_1]; first | done | decide); have zp : ((zBp 1).length : Int) = 2 := rfl; have zf : ((zBf 1).length : Int) = 3 := rfl; have zr : ((zBr 1).length : Int) = 6 := rfl; have q0 := hsr_30_2; rw [hk] at q0; have q1 := hsr_36_2; rw [hk] at q1; rw [hk]; omega)), trivial⟩, zRet ht hP hD [0, 1, 2, 3] (by decide) rfl⟩, hS.F ht⟩) hS.2.2 dX8_resting_98
              · exact absurd c_43 (by decide)
            · exact absurd c_42 (by decide)
        · exact absurd c_25 (by decide)
      · exact absurd c_24 (by decide)
  · have kc2 : (2 : Int32).toInt = 2 := by decide
    refine lv_iload_n hx hb dX8_resting_7 rfl (lv_at hl 0 rfl) ?_
    refine lv_iconst (v := 4) hx hb dX8_resting_8 (by decide) ?_
    refine lv_icmp_eq (tgt := 18) hx hb dX8_resting_9 (by decide) (fun c_44 => ?_) (fun c_44 => ?_)
    · exact absurd c_44 (by decide)
    · refine lv_iload_n hx hb dX8_resting_12 rfl (lv_at hl 0 rfl) ?_
      refine lv_bipush (v := 6) hx hb dX8_resting_13 (by decide) ?_
      refine lv_icmp_ne (tgt := 24) hx hb dX8_resting_15 (by decide) (fun c_45 => ?_) (fun c_45 => ?_)
      · refine lv_iload_n hx hb dX8_resting_24 rfl (lv_at hl 0 rfl) ?_
        refine lv_iconst (v := 5) hx hb dX8_resting_25 (by decide) ?_
        refine lv_icmp_ne (tgt := 35) hx hb dX8_resting_26 (by decide) (fun c_46 => ?_) (fun c_46 => ?_)
        · refine lv_aload_n hx hb dX8_resting_35 rfl (lv_at hl 1 rfl) ?_
          refine lv_bipush (v := 12) hx hb dX8_resting_36 (by decide) ?_
          skip
          refine zw_Vv (As := [.int 12]) (rest := []) (wr := [(mki, .inl (cI, 8, .inl gki)), (mpa, .inl (cI, 8, .inl gpa))]) ⟨hx, hb, hml, hown, hts⟩ (c_F_M_body l D cI cJ cZ cP cS po m0 mrf mki mpa mta mla msl mco mhe mso msi msh mce mca mwo mnu mte mwa mke mma mth mtr (npu) (nte) (nat_) (nde) (nto) (nse) (nhu) (nga) (nsd) (nfa) (nba) (npl) (nen) (nnu) (nwr) (nra) (nik) gtr (12) hy0 hy1 hy2 hy3 hy4 hy5 hy6 hy7 hy8 hy9 hy10 hy11 hy12 hy13 hy10 hy11 H.size) (cwV 1 hts gX8_resting_X8_body rfl rfl rfl ⟨rfl, dh_X8_body⟩ ⟨Nat.le_of_ble_eq_true rfl, Nat.le_of_ble_eq_true rfl⟩) hK hN (hZ.kept hS) hP hD hS hA [0, 3] [1, 2] rfl rfl (by decide) (by decide) (by decide) (va_recv (q := (RX8, TX8, 38)) hK hP (ci := 8) (q0 := 0) rfl rfl) rfl hl.1 rfl (Nat.le_of_ble_eq_true rfl) dX8_resting_38 ⟨Nat.le_of_ble_eq_true rfl, Nat.le_of_ble_eq_true rfl⟩ (fun u_48 H locs hr_47 hP hD hS => ?_)
          obtain ⟨q_49, q_50⟩ := u_48
          try dsimp only at hr_47
          obtain ⟨hbq_49, hsr_47_0, hr_47⟩ := hr_47
          have h9R := zRe (ws' := [(mki, .inl (cI, 8, .inl gki)), (mpa, .inl (cI, 8, .inl gpa)), (zMO m0 npu nte nat_ nde nto nse nhu nga nsd nfa mrf mki mpa mta mla msl mco mhe mso msi msh mce mca mwo mnu mte nba npl nen nnu nwr mwa mke mma mth mtr q_49 nik), (mtr, .inl (cI, 20, .inl q_50))]) hP hD rfl
          clear hP hD
          obtain ⟨hP, hD⟩ := h9R
          refine lv_aload_n hx hb dX8_resting_41 rfl (lv_at hl 1 rfl) ?_
          refine lv_iload_n hx hb dX8_resting_42 rfl (lv_at hl 2 rfl) ?_
          refine lv_iload_n hx hb dX8_resting_43 rfl (lv_at hl 3 rfl) ?_
          skip
          refine zw_V (As := [.int p_, .int x]) (rest := []) (wr := []) ⟨hx, hb, hml, hown, hts⟩ (c_F_M_freeing l D cI cJ cZ cP cS po m0 mrf mki mpa mta mla msl mco mhe mso msi msh mce mca mwo mnu mte mwa mke mma mth mtr (npu) (nte) (nat_) (nde) (nto) (nse) (nhu) (nga) (nsd) (nfa) (nba) (npl) (nen) (nnu) (nwr) (q_49) (nik) gki gpa q_50 (p_) (x) hy0 hy1 hy2 hy3 hy4 hy5 hy6 hy7 hy8 hy9 (by omega) (by omega) hy12 hy13 hy14 hy15 (by omega) (by omega) hp_gki hp_gpa H.size) (cwV 2 hts gX8_resting_X8_freeing rfl rfl rfl ⟨rfl, dh_X8_freeing⟩ ⟨Nat.le_of_ble_eq_true rfl, Nat.le_of_ble_eq_true rfl⟩) hK hN (hZ.kept hS) hP hD hS hA [2, 0, 1, 3] [] rfl rfl (by decide) (by decide) (by decide) (va_recv (q := (RX8, TX8, 38)) hK hP (ci := 8) (q0 := 2) rfl rfl) rfl hl.1 rfl (Nat.le_of_ble_eq_true rfl) dX8_resting_44 ⟨Nat.le_of_ble_eq_true rfl, Nat.le_of_ble_eq_true rfl⟩ (fun r_51 u_52 H locs hr_51 hP hD hS => ?_)
          obtain ⟨q_53, q_54⟩ := u_52
          try dsimp only at hr_51
          obtain ⟨hbq_53, hsr_51_0, hsr_51_1, hsr_51_2, hr_51⟩ := hr_51
          have h9R := zRe (ws' := [(zMO m0 npu nte nat_ nde nto nse nhu nga nsd nfa mrf mki mpa mta mla msl mco mhe mso msi msh mce mca mwo mnu mte nba npl nen nnu nwr mwa mke mma mth mtr q_53 nik), (mki, .inl (cI, 8, .inl gki)), (mpa, .inl (cI, 8, .inl gpa)), (mtr, .inl (cI, 20, .inl q_54))]) hP hD rfl
          clear hP hD
          obtain ⟨hP, hD⟩ := h9R
          have zl9 := zBf_le (gki p_.toNatClampNeg).toInt
          refine lv_istore (lv' := [(4, .int r_51), (3, .int 2), (0, .ref m0), (1, .int p_), (2, .int x)]) hx hb dX8_resting_47 hl (by decide) rfl (fun ls hl => ?_)
          refine lv_iload hx hb dX8_resting_49 (lv_at hl 0 rfl) ?_
          refine lv_aload_n hx hb dX8_resting_51 rfl (lv_at hl 2 rfl) ?_
          refine lv_iload_n hx hb dX8_resting_52 rfl (lv_at hl 3 rfl) ?_
          refine lv_iload_n hx hb dX8_resting_53 rfl (lv_at hl 4 rfl) ?_
          refine lv_aload_n hx hb dX8_resting_54 rfl (lv_at hl 2 rfl) ?_
          refine va_get (D := D) (ci := 8) (v := .ref mpa) (C := RX8) (T := TX8) (N := 38) hx hb hts hi_X8_resting_8 hown hK hP 0 rfl rfl 12 (by decide) (hts (.fieldLink RX8 32 "TheLiningsInItModel" "part" "[I") (List.mem_of_getElem? (i := 2) rfl)) (fun _ h9 => h9) rfl dX8_resting_55 ?_
          refine lv_iload_n hx hb dX8_resting_58 rfl (lv_at hl 3 rfl) ?_
          refine va_iald hx hb hK hP 2 0 rfl rfl (zf_in (by omega) (by omega)) dX8_resting_59 ?_
          refine lv_topi (fun x_55 ex_55 => ?_)
          have bx_55 : 0 ≤ x_55.toInt ∧ x_55.toInt ≤ 9 := by rw [ex_55]; exact hp_gpa _
          refine lv_isub hx hb dX8_resting_60 ?_
          refine lv_topi (fun x_56 ex_56 => ?_)
          skip
          refine zw_V (As := [.int p_, .int x_56]) (rest := [.int r_51]) (wr := []) ⟨hx, hb, hml, hown, hts⟩ (c_F_M_pulling l D cI cJ cZ cP cS po m0 mrf mki mpa mta mla msl mco mhe mso msi msh mce mca mwo mnu mte mwa mke mma mth mtr (npu) (nte) (nat_) (nde) (nto) (nse) (nhu) (nga) (nsd) (nfa) (nba) (npl) (nen) (nnu) (nwr) (q_53) (nik) gki gpa q_54 (p_) (x_56) hy0 hy1 hy2 hy3 hy4 hy5 hy6 hy7 hy8 hy9 hbq_53.1 hbq_53.2 hy12 hy13 hy14 hy15 hbq_53.1 (by omega) hp_gki hp_gpa H.size) (cwV 2 hts gX8_resting_X8_pulling rfl rfl rfl ⟨rfl, dh_X8_pulling⟩ ⟨Nat.le_of_ble_eq_true rfl, Nat.le_of_ble_eq_true rfl⟩) hK hN (hZ.kept hS) hP hD hS hA [0, 1, 2, 3] [] rfl rfl (by decide) (by decide) (by decide) (va_recv (q := (RX8, TX8, 38)) hK hP (ci := 8) (q0 := 0) rfl rfl) rfl hl.1 rfl (Nat.le_of_ble_eq_true rfl) dX8_resting_61 ⟨Nat.le_of_ble_eq_true rfl, Nat.le_of_ble_eq_true rfl⟩ (fun r_57 u_58 H locs hr_57 hP hD hS => ?_)
          obtain ⟨q_59, q_60⟩ := u_58
          try dsimp only at hr_57
          obtain ⟨hbq_59, hsr_57_0, hsr_57_1, hsr_57_2, hr_57⟩ := hr_57
          have h9R := zRe (ws' := [(zMO m0 npu nte nat_ nde nto nse nhu nga nsd nfa mrf mki mpa mta mla msl mco mhe mso msi msh mce mca mwo mnu mte nba npl nen nnu nwr mwa mke mma mth mtr q_59 nik), (mki, .inl (cI, 8, .inl gki)), (mpa, .inl (cI, 8, .inl gpa)), (mtr, .inl (cI, 20, .inl q_60))]) hP hD rfl
          clear hP hD
          obtain ⟨hP, hD⟩ := h9R
          refine lv_ixor hx hb dX8_resting_64 ?_
          refine lv_topi (fun x_61 ex_61 => ?_)
          refine lv_istore (lv' := [(4, .int x_61), (3, .int 2), (0, .ref m0), (1, .int p_), (2, .int x)]) hx hb dX8_resting_65 hl (by decide) rfl (fun ls hl => ?_)
          refine lv_iload_n hx hb dX8_resting_67 rfl (lv_at hl 1 rfl) ?_
          refine lv_iconst (v := 4) hx hb dX8_resting_68 (by decide) ?_
          refine lv_icmp_eq (tgt := 78) hx hb dX8_resting_69 (by decide) (fun c_62 => ?_) (fun c_62 => ?_)
          · exact absurd c_62 (by decide)
          · refine lv_iload_n hx hb dX8_resting_72 rfl (lv_at hl 1 rfl) ?_
            refine lv_bipush (v := 6) hx hb dX8_resting_73 (by decide) ?_
            refine lv_icmp_ne (tgt := 84) hx hb dX8_resting_75 (by decide) (fun c_63 => ?_) (fun c_63 => ?_)
            · refine lv_iload_n hx hb dX8_resting_84 rfl (lv_at hl 1 rfl) ?_
              refine lv_iconst (v := 5) hx hb dX8_resting_85 (by decide) ?_
              refine lv_icmp_ne (tgt := 96) hx hb dX8_resting_86 (by decide) (fun c_64 => ?_) (fun c_64 => ?_)
              · refine lv_iload hx hb dX8_resting_96 (lv_at hl 0 rfl) ?_
                exact W.iret (v := x_61) hx hb hr (fun t ht hW => ⟨⟨x_61, (q_59, q_60), rfl, ⟨(show 0 ≤ q_59.toInt ∧ q_59.toInt ≤ 2000 from hbq_59), (show (x_61 : Int32) = zQr (gki p_.toNatClampNeg).toInt x p_ (gpa p_.toNatClampNeg) from by (have hk : (gki p_.toNatClampNeg).toInt = 2 := (by rw [← ex_1]; first | done | decide); rw [hk]; unfold zQr; (repeat (first | rw [if_pos (by decide)] | rw [if_neg (by decide)])); (try rw [ex_61]); (try rw [ex_56]); (try rw [ex_55]); (try rw [hsr_51_0, hk]); (try rw [hsr_57_0, hk]); (try rw [ex_61]); (try rw [ex_56]); (try rw [ex_55]); (try rw [ex_55]); first | done | rfl)), (show q_60 = zTr gtr nra.toInt (zBr (gki p_.toNatClampNeg).toInt) from by (have hk : (gki p_.toNatClampNeg).toInt = 2 := (by rw [← ex_1]; first | done | decide); have zbp0 : ((zBp 2).length : Int) = 1 := rfl; have zbf1 : ((zBf 2).length : Int) = 3 := rfl; have zbr2 : ((zBr 2).length : Int) = 5 := rfl; have q0 := hsr_51_2; rw [hk] at q0; have q1 := hsr_57_2; rw [hk] at q1; rw [hsr_57_1, hk]; rw [hsr_51_1, hk]; rw [hsr_47_0]; rw [zTr_app (by first | omega | (simp; omega) | (show _ = _ + 1; omega))]; rw [zTr_app (by first | omega | (simp; omega) | (show _ = _ + 1; omega))]; (try rw [hk]); first | done | rfl)), (show q_59.toInt = nra.toInt + ((zBr (gki p_.toNatClampNeg).toInt).length : Nat) from by (have hk : (gki p_.toNatClampNeg).toInt = 2 := (by rw [← ex_1]; first | done | decide); have zp : ((zBp 2).length : Int) = 1 := rfl; have zf : ((zBf 2).length : Int) = 3 := rfl; have zr : ((zBr 2).length : Int) = 5 := rfl; have q0 := hsr_51_2; rw [hk] at q0; have q1 := hsr_57_2; rw [hk] at q1; rw [hk]; omega)), trivial⟩, zRet ht hP hD [0, 1, 2, 3] (by decide) rfl⟩, hS.F ht⟩) hS.2.2 dX8_resting_98
              · exact absurd c_64 (by decide)
            · exact absurd c_63 (by decide)
        · exact absurd c_46 (by decide)
      · exact absurd c_45 (by decide)
  · have kc3 : (3 : Int32).toInt = 3 := by decide
    refine lv_iload_n hx hb dX8_resting_7 rfl (lv_at hl 0 rfl) ?_
    refine lv_iconst (v := 4) hx hb dX8_resting_8 (by decide) ?_
    refine lv_icmp_eq (tgt := 18) hx hb dX8_resting_9 (by decide) (fun c_65 => ?_) (fun c_65 => ?_)
    · exact absurd c_65 (by decide)
    · refine lv_iload_n hx hb dX8_resting_12 rfl (lv_at hl 0 rfl) ?_
      refine lv_bipush (v := 6) hx hb dX8_resting_13 (by decide) ?_
      refine lv_icmp_ne (tgt := 24) hx hb dX8_resting_15 (by decide) (fun c_66 => ?_) (fun c_66 => ?_)
      · refine lv_iload_n hx hb dX8_resting_24 rfl (lv_at hl 0 rfl) ?_
        refine lv_iconst (v := 5) hx hb dX8_resting_25 (by decide) ?_
        refine lv_icmp_ne (tgt := 35) hx hb dX8_resting_26 (by decide) (fun c_67 => ?_) (fun c_67 => ?_)
        · refine lv_aload_n hx hb dX8_resting_35 rfl (lv_at hl 1 rfl) ?_
          refine lv_bipush (v := 12) hx hb dX8_resting_36 (by decide) ?_
          skip
          refine zw_Vv (As := [.int 12]) (rest := []) (wr := [(mki, .inl (cI, 8, .inl gki)), (mpa, .inl (cI, 8, .inl gpa))]) ⟨hx, hb, hml, hown, hts⟩ (c_F_M_body l D cI cJ cZ cP cS po m0 mrf mki mpa mta mla msl mco mhe mso msi msh mce mca mwo mnu mte mwa mke mma mth mtr (npu) (nte) (nat_) (nde) (nto) (nse) (nhu) (nga) (nsd) (nfa) (nba) (npl) (nen) (nnu) (nwr) (nra) (nik) gtr (12) hy0 hy1 hy2 hy3 hy4 hy5 hy6 hy7 hy8 hy9 hy10 hy11 hy12 hy13 hy10 hy11 H.size) (cwV 1 hts gX8_resting_X8_body rfl rfl rfl ⟨rfl, dh_X8_body⟩ ⟨Nat.le_of_ble_eq_true rfl, Nat.le_of_ble_eq_true rfl⟩) hK hN (hZ.kept hS) hP hD hS hA [0, 3] [1, 2] rfl rfl (by decide) (by decide) (by decide) (va_recv (q := (RX8, TX8, 38)) hK hP (ci := 8) (q0 := 0) rfl rfl) rfl hl.1 rfl (Nat.le_of_ble_eq_true rfl) dX8_resting_38 ⟨Nat.le_of_ble_eq_true rfl, Nat.le_of_ble_eq_true rfl⟩ (fun u_69 H locs hr_68 hP hD hS => ?_)
          obtain ⟨q_70, q_71⟩ := u_69
          try dsimp only at hr_68
          obtain ⟨hbq_70, hsr_68_0, hr_68⟩ := hr_68
          have h9R := zRe (ws' := [(mki, .inl (cI, 8, .inl gki)), (mpa, .inl (cI, 8, .inl gpa)), (zMO m0 npu nte nat_ nde nto nse nhu nga nsd nfa mrf mki mpa mta mla msl mco mhe mso msi msh mce mca mwo mnu mte nba npl nen nnu nwr mwa mke mma mth mtr q_70 nik), (mtr, .inl (cI, 20, .inl q_71))]) hP hD rfl
          clear hP hD
          obtain ⟨hP, hD⟩ := h9R
          refine lv_aload_n hx hb dX8_resting_41 rfl (lv_at hl 1 rfl) ?_
          refine lv_iload_n hx hb dX8_resting_42 rfl (lv_at hl 2 rfl) ?_
          refine lv_iload_n hx hb dX8_resting_43 rfl (lv_at hl 3 rfl) ?_
          skip
          refine zw_V (As := [.int p_, .int x]) (rest := []) (wr := []) ⟨hx, hb, hml, hown, hts⟩ (c_F_M_freeing l D cI cJ cZ cP cS po m0 mrf mki mpa mta mla msl mco mhe mso msi msh mce mca mwo mnu mte mwa mke mma mth mtr (npu) (nte) (nat_) (nde) (nto) (nse) (nhu) (nga) (nsd) (nfa) (nba) (npl) (nen) (nnu) (nwr) (q_70) (nik) gki gpa q_71 (p_) (x) hy0 hy1 hy2 hy3 hy4 hy5 hy6 hy7 hy8 hy9 (by omega) (by omega) hy12 hy13 hy14 hy15 (by omega) (by omega) hp_gki hp_gpa H.size) (cwV 2 hts gX8_resting_X8_freeing rfl rfl rfl ⟨rfl, dh_X8_freeing⟩ ⟨Nat.le_of_ble_eq_true rfl, Nat.le_of_ble_eq_true rfl⟩) hK hN (hZ.kept hS) hP hD hS hA [2, 0, 1, 3] [] rfl rfl (by decide) (by decide) (by decide) (va_recv (q := (RX8, TX8, 38)) hK hP (ci := 8) (q0 := 2) rfl rfl) rfl hl.1 rfl (Nat.le_of_ble_eq_true rfl) dX8_resting_44 ⟨Nat.le_of_ble_eq_true rfl, Nat.le_of_ble_eq_true rfl⟩ (fun r_72 u_73 H locs hr_72 hP hD hS => ?_)
          obtain ⟨q_74, q_75⟩ := u_73
          try dsimp only at hr_72
          obtain ⟨hbq_74, hsr_72_0, hsr_72_1, hsr_72_2, hr_72⟩ := hr_72
          have h9R := zRe (ws' := [(zMO m0 npu nte nat_ nde nto nse nhu nga nsd nfa mrf mki mpa mta mla msl mco mhe mso msi msh mce mca mwo mnu mte nba npl nen nnu nwr mwa mke mma mth mtr q_74 nik), (mki, .inl (cI, 8, .inl gki)), (mpa, .inl (cI, 8, .inl gpa)), (mtr, .inl (cI, 20, .inl q_75))]) hP hD rfl
          clear hP hD
          obtain ⟨hP, hD⟩ := h9R
          have zl9 := zBf_le (gki p_.toNatClampNeg).toInt
          refine lv_istore (lv' := [(4, .int r_72), (3, .int 3), (0, .ref m0), (1, .int p_), (2, .int x)]) hx hb dX8_resting_47 hl (by decide) rfl (fun ls hl => ?_)
          refine lv_iload hx hb dX8_resting_49 (lv_at hl 0 rfl) ?_
          refine lv_aload_n hx hb dX8_resting_51 rfl (lv_at hl 2 rfl) ?_
          refine lv_iload_n hx hb dX8_resting_52 rfl (lv_at hl 3 rfl) ?_
          refine lv_iload_n hx hb dX8_resting_53 rfl (lv_at hl 4 rfl) ?_
          refine lv_aload_n hx hb dX8_resting_54 rfl (lv_at hl 2 rfl) ?_
          refine va_get (D := D) (ci := 8) (v := .ref mpa) (C := RX8) (T := TX8) (N := 38) hx hb hts hi_X8_resting_8 hown hK hP 0 rfl rfl 12 (by decide) (hts (.fieldLink RX8 32 "TheLiningsInItModel" "part" "[I") (List.mem_of_getElem? (i := 2) rfl)) (fun _ h9 => h9) rfl dX8_resting_55 ?_
          refine lv_iload_n hx hb dX8_resting_58 rfl (lv_at hl 3 rfl) ?_
          refine va_iald hx hb hK hP 2 0 rfl rfl (zf_in (by omega) (by omega)) dX8_resting_59 ?_
          refine lv_topi (fun x_76 ex_76 => ?_)
          have bx_76 : 0 ≤ x_76.toInt ∧ x_76.toInt ≤ 9 := by rw [ex_76]; exact hp_gpa _
          refine lv_isub hx hb dX8_resting_60 ?_
          refine lv_topi (fun x_77 ex_77 => ?_)
          skip
          refine zw_V (As := [.int p_, .int x_77]) (rest := [.int r_72]) (wr := []) ⟨hx, hb, hml, hown, hts⟩ (c_F_M_pulling l D cI cJ cZ cP cS po m0 mrf mki mpa mta mla msl mco mhe mso msi msh mce mca mwo mnu mte mwa mke mma mth mtr (npu) (nte) (nat_) (nde) (nto) (nse) (nhu) (nga) (nsd) (nfa) (nba) (npl) (nen) (nnu) (nwr) (q_74) (nik) gki gpa q_75 (p_) (x_77) hy0 hy1 hy2 hy3 hy4 hy5 hy6 hy7 hy8 hy9 hbq_74.1 hbq_74.2 hy12 hy13 hy14 hy15 hbq_74.1 (by omega) hp_gki hp_gpa H.size) (cwV 2 hts gX8_resting_X8_pulling rfl rfl rfl ⟨rfl, dh_X8_pulling⟩ ⟨Nat.le_of_ble_eq_true rfl, Nat.le_of_ble_eq_true rfl⟩) hK hN (hZ.kept hS) hP hD hS hA [0, 1, 2, 3] [] rfl rfl (by decide) (by decide) (by decide) (va_recv (q := (RX8, TX8, 38)) hK hP (ci := 8) (q0 := 0) rfl rfl) rfl hl.1 rfl (Nat.le_of_ble_eq_true rfl) dX8_resting_61 ⟨Nat.le_of_ble_eq_true rfl, Nat.le_of_ble_eq_true rfl⟩ (fun r_78 u_79 H locs hr_78 hP hD hS => ?_)
          obtain ⟨q_80, q_81⟩ := u_79
          try dsimp only at hr_78
          obtain ⟨hbq_80, hsr_78_0, hsr_78_1, hsr_78_2, hr_78⟩ := hr_78
          have h9R := zRe (ws' := [(zMO m0 npu nte nat_ nde nto nse nhu nga nsd nfa mrf mki mpa mta mla msl mco mhe mso msi msh mce mca mwo mnu mte nba npl nen nnu nwr mwa mke mma mth mtr q_80 nik), (mki, .inl (cI, 8, .inl gki)), (mpa, .inl (cI, 8, .inl gpa)), (mtr, .inl (cI, 20, .inl q_81))]) hP hD rfl
          clear hP hD
          obtain ⟨hP, hD⟩ := h9R
          refine lv_ixor hx hb dX8_resting_64 ?_
          refine lv_topi (fun x_82 ex_82 => ?_)
          refine lv_istore (lv' := [(4, .int x_82), (3, .int 3), (0, .ref m0), (1, .int p_), (2, .int x)]) hx hb dX8_resting_65 hl (by decide) rfl (fun ls hl => ?_)
          refine lv_iload_n hx hb dX8_resting_67 rfl (lv_at hl 1 rfl) ?_
          refine lv_iconst (v := 4) hx hb dX8_resting_68 (by decide) ?_
          refine lv_icmp_eq (tgt := 78) hx hb dX8_resting_69 (by decide) (fun c_83 => ?_) (fun c_83 => ?_)
          · exact absurd c_83 (by decide)
          · refine lv_iload_n hx hb dX8_resting_72 rfl (lv_at hl 1 rfl) ?_
            refine lv_bipush (v := 6) hx hb dX8_resting_73 (by decide) ?_
            refine lv_icmp_ne (tgt := 84) hx hb dX8_resting_75 (by decide) (fun c_84 => ?_) (fun c_84 => ?_)
            · refine lv_iload_n hx hb dX8_resting_84 rfl (lv_at hl 1 rfl) ?_
              refine lv_iconst (v := 5) hx hb dX8_resting_85 (by decide) ?_
              refine lv_icmp_ne (tgt := 96) hx hb dX8_resting_86 (by decide) (fun c_85 => ?_) (fun c_85 => ?_)
              · refine lv_iload hx hb dX8_resting_96 (lv_at hl 0 rfl) ?_
                exact W.iret (v := x_82) hx hb hr (fun t ht hW => ⟨⟨x_82, (q_80, q_81), rfl, ⟨(show 0 ≤ q_80.toInt ∧ q_80.toInt ≤ 2000 from hbq_80), (show (x_82 : Int32) = zQr (gki p_.toNatClampNeg).toInt x p_ (gpa p_.toNatClampNeg) from by (have hk : (gki p_.toNatClampNeg).toInt = 3 := (by rw [← ex_1]; first | done | decide); rw [hk]; unfold zQr; (repeat (first | rw [if_pos (by decide)] | rw [if_neg (by decide)])); (try rw [ex_82]); (try rw [ex_77]); (try rw [ex_76]); (try rw [hsr_72_0, hk]); (try rw [hsr_78_0, hk]); (try rw [ex_82]); (try rw [ex_77]); (try rw [ex_76]); (try rw [ex_76]); first | done | rfl)), (show q_81 = zTr gtr nra.toInt (zBr (gki p_.toNatClampNeg).toInt) from by (have hk : (gki p_.toNatClampNeg).toInt = 3 := (by rw [← ex_1]; first | done | decide); have zbp0 : ((zBp 3).length : Int) = 2 := rfl; have zbf1 : ((zBf 3).length : Int) = 4 := rfl; have zbr2 : ((zBr 3).length : Int) = 7 := rfl; have q0 := hsr_72_2; rw [hk] at q0; have q1 := hsr_78_2; rw [hk] at q1; rw [hsr_78_1, hk]; rw [hsr_72_1, hk]; rw [hsr_68_0]; rw [zTr_app (by first | omega | (simp; omega) | (show _ = _ + 1; omega))]; rw [zTr_app (by first | omega | (simp; omega) | (show _ = _ + 1; omega))]; (try rw [hk]); first | done | rfl)), (show q_80.toInt = nra.toInt + ((zBr (gki p_.toNatClampNeg).toInt).length : Nat) from by (have hk : (gki p_.toNatClampNeg).toInt = 3 := (by rw [← ex_1]; first | done | decide); have zp : ((zBp 3).length : Int) = 2 := rfl; have zf : ((zBf 3).length : Int) = 4 := rfl; have zr : ((zBr 3).length : Int) = 7 := rfl; have q0 := hsr_72_2; rw [hk] at q0; have q1 := hsr_78_2; rw [hk] at q1; rw [hk]; omega)), trivial⟩, zRet ht hP hD [0, 1, 2, 3] (by decide) rfl⟩, hS.F ht⟩) hS.2.2 dX8_resting_98
              · exact absurd c_85 (by decide)
            · exact absurd c_84 (by decide)
        · exact absurd c_67 (by decide)
      · exact absurd c_66 (by decide)
  · have kc4 : (4 : Int32).toInt = 4 := by decide
    refine lv_iload_n hx hb dX8_resting_7 rfl (lv_at hl 0 rfl) ?_
    refine lv_iconst (v := 4) hx hb dX8_resting_8 (by decide) ?_
    refine lv_icmp_eq (tgt := 18) hx hb dX8_resting_9 (by decide) (fun c_86 => ?_) (fun c_86 => ?_)
    · refine lv_aload_n hx hb dX8_resting_18 rfl (lv_at hl 1 rfl) ?_
      refine lv_bipush (v := 50) hx hb dX8_resting_19 (by decide) ?_
      skip
      refine zw_Vv (As := [.int 50]) (rest := []) (wr := [(mki, .inl (cI, 8, .inl gki)), (mpa, .inl (cI, 8, .inl gpa))]) ⟨hx, hb, hml, hown, hts⟩ (c_F_M_body l D cI cJ cZ cP cS po m0 mrf mki mpa mta mla msl mco mhe mso msi msh mce mca mwo mnu mte mwa mke mma mth mtr (npu) (nte) (nat_) (nde) (nto) (nse) (nhu) (nga) (nsd) (nfa) (nba) (npl) (nen) (nnu) (nwr) (nra) (nik) gtr (50) hy0 hy1 hy2 hy3 hy4 hy5 hy6 hy7 hy8 hy9 hy10 hy11 hy12 hy13 hy10 hy11 H.size) (cwV 1 hts gX8_resting_X8_body rfl rfl rfl ⟨rfl, dh_X8_body⟩ ⟨Nat.le_of_ble_eq_true rfl, Nat.le_of_ble_eq_true rfl⟩) hK hN (hZ.kept hS) hP hD hS hA [0, 3] [1, 2] rfl rfl (by decide) (by decide) (by decide) (va_recv (q := (RX8, TX8, 38)) hK hP (ci := 8) (q0 := 0) rfl rfl) rfl hl.1 rfl (Nat.le_of_ble_eq_true rfl) dX8_resting_21 ⟨Nat.le_of_ble_eq_true rfl, Nat.le_of_ble_eq_true rfl⟩ (fun u_88 H locs hr_87 hP hD hS => ?_)
      obtain ⟨q_89, q_90⟩ := u_88
      try dsimp only at hr_87
      obtain ⟨hbq_89, hsr_87_0, hr_87⟩ := hr_87
      have h9R := zRe (ws' := [(mki, .inl (cI, 8, .inl gki)), (mpa, .inl (cI, 8, .inl gpa)), (zMO m0 npu nte nat_ nde nto nse nhu nga nsd nfa mrf mki mpa mta mla msl mco mhe mso msi msh mce mca mwo mnu mte nba npl nen nnu nwr mwa mke mma mth mtr q_89 nik), (mtr, .inl (cI, 20, .inl q_90))]) hP hD rfl
      clear hP hD
      obtain ⟨hP, hD⟩ := h9R
      refine lv_iload_n hx hb dX8_resting_24 rfl (lv_at hl 0 rfl) ?_
      refine lv_iconst (v := 5) hx hb dX8_resting_25 (by decide) ?_
      refine lv_icmp_ne (tgt := 35) hx hb dX8_resting_26 (by decide) (fun c_91 => ?_) (fun c_91 => ?_)
      · refine lv_aload_n hx hb dX8_resting_35 rfl (lv_at hl 1 rfl) ?_
        refine lv_bipush (v := 12) hx hb dX8_resting_36 (by decide) ?_
        skip
        refine zw_Vv (As := [.int 12]) (rest := []) (wr := [(mki, .inl (cI, 8, .inl gki)), (mpa, .inl (cI, 8, .inl gpa))]) ⟨hx, hb, hml, hown, hts⟩ (c_F_M_body l D cI cJ cZ cP cS po m0 mrf mki mpa mta mla msl mco mhe mso msi msh mce mca mwo mnu mte mwa mke mma mth mtr (npu) (nte) (nat_) (nde) (nto) (nse) (nhu) (nga) (nsd) (nfa) (nba) (npl) (nen) (nnu) (nwr) (q_89) (nik) q_90 (12) hy0 hy1 hy2 hy3 hy4 hy5 hy6 hy7 hy8 hy9 (by omega) (by omega) hy12 hy13 (by omega) (by omega) H.size) (cwV 1 hts gX8_resting_X8_body rfl rfl rfl ⟨rfl, dh_X8_body⟩ ⟨Nat.le_of_ble_eq_true rfl, Nat.le_of_ble_eq_true rfl⟩) hK hN (hZ.kept hS) hP hD hS hA [2, 3] [0, 1] rfl rfl (by decide) (by decide) (by decide) (va_recv (q := (RX8, TX8, 38)) hK hP (ci := 8) (q0 := 2) rfl rfl) rfl hl.1 rfl (Nat.le_of_ble_eq_true rfl) dX8_resting_38 ⟨Nat.le_of_ble_eq_true rfl, Nat.le_of_ble_eq_true rfl⟩ (fun u_93 H locs hr_92 hP hD hS => ?_)
        obtain ⟨q_94, q_95⟩ := u_93
        try dsimp only at hr_92
        obtain ⟨hbq_94, hsr_92_0, hr_92⟩ := hr_92
        have h9R := zRe (ws' := [(mki, .inl (cI, 8, .inl gki)), (mpa, .inl (cI, 8, .inl gpa)), (zMO m0 npu nte nat_ nde nto nse nhu nga nsd nfa mrf mki mpa mta mla msl mco mhe mso msi msh mce mca mwo mnu mte nba npl nen nnu nwr mwa mke mma mth mtr q_94 nik), (mtr, .inl (cI, 20, .inl q_95))]) hP hD rfl
        clear hP hD
        obtain ⟨hP, hD⟩ := h9R
        refine lv_aload_n hx hb dX8_resting_41 rfl (lv_at hl 1 rfl) ?_
        refine lv_iload_n hx hb dX8_resting_42 rfl (lv_at hl 2 rfl) ?_
        refine lv_iload_n hx hb dX8_resting_43 rfl (lv_at hl 3 rfl) ?_
        skip
        refine zw_V (As := [.int p_, .int x]) (rest := []) (wr := []) ⟨hx, hb, hml, hown, hts⟩ (c_F_M_freeing l D cI cJ cZ cP cS po m0 mrf mki mpa mta mla msl mco mhe mso msi msh mce mca mwo mnu mte mwa mke mma mth mtr (npu) (nte) (nat_) (nde) (nto) (nse) (nhu) (nga) (nsd) (nfa) (nba) (npl) (nen) (nnu) (nwr) (q_94) (nik) gki gpa q_95 (p_) (x) hy0 hy1 hy2 hy3 hy4 hy5 hy6 hy7 hy8 hy9 (by omega) (by omega) hy12 hy13 hy14 hy15 (by omega) (by omega) hp_gki hp_gpa H.size) (cwV 2 hts gX8_resting_X8_freeing rfl rfl rfl ⟨rfl, dh_X8_freeing⟩ ⟨Nat.le_of_ble_eq_true rfl, Nat.le_of_ble_eq_true rfl⟩) hK hN (hZ.kept hS) hP hD hS hA [2, 0, 1, 3] [] rfl rfl (by decide) (by decide) (by decide) (va_recv (q := (RX8, TX8, 38)) hK hP (ci := 8) (q0 := 2) rfl rfl) rfl hl.1 rfl (Nat.le_of_ble_eq_true rfl) dX8_resting_44 ⟨Nat.le_of_ble_eq_true rfl, Nat.le_of_ble_eq_true rfl⟩ (fun r_96 u_97 H locs hr_96 hP hD hS => ?_)
        obtain ⟨q_98, q_99⟩ := u_97
        try dsimp only at hr_96
        obtain ⟨hbq_98, hsr_96_0, hsr_96_1, hsr_96_2, hr_96⟩ := hr_96
        have h9R := zRe (ws' := [(zMO m0 npu nte nat_ nde nto nse nhu nga nsd nfa mrf mki mpa mta mla msl mco mhe mso msi msh mce mca mwo mnu mte nba npl nen nnu nwr mwa mke mma mth mtr q_98 nik), (mki, .inl (cI, 8, .inl gki)), (mpa, .inl (cI, 8, .inl gpa)), (mtr, .inl (cI, 20, .inl q_99))]) hP hD rfl
        clear hP hD
        obtain ⟨hP, hD⟩ := h9R
        have zl9 := zBf_le (gki p_.toNatClampNeg).toInt
        refine lv_istore (lv' := [(4, .int r_96), (3, .int 4), (0, .ref m0), (1, .int p_), (2, .int x)]) hx hb dX8_resting_47 hl (by decide) rfl (fun ls hl => ?_)
        refine lv_iload hx hb dX8_resting_49 (lv_at hl 0 rfl) ?_
        refine lv_aload_n hx hb dX8_resting_51 rfl (lv_at hl 2 rfl) ?_
        refine lv_iload_n hx hb dX8_resting_52 rfl (lv_at hl 3 rfl) ?_
        refine lv_iload_n hx hb dX8_resting_53 rfl (lv_at hl 4 rfl) ?_
        refine lv_aload_n hx hb dX8_resting_54 rfl (lv_at hl 2 rfl) ?_
        refine va_get (D := D) (ci := 8) (v := .ref mpa) (C := RX8) (T := TX8) (N := 38) hx hb hts hi_X8_resting_8 hown hK hP 0 rfl rfl 12 (by decide) (hts (.fieldLink RX8 32 "TheLiningsInItModel" "part" "[I") (List.mem_of_getElem? (i := 2) rfl)) (fun _ h9 => h9) rfl dX8_resting_55 ?_
        refine lv_iload_n hx hb dX8_resting_58 rfl (lv_at hl 3 rfl) ?_
        refine va_iald hx hb hK hP 2 0 rfl rfl (zf_in (by omega) (by omega)) dX8_resting_59 ?_
        refine lv_topi (fun x_100 ex_100 => ?_)
        have bx_100 : 0 ≤ x_100.toInt ∧ x_100.toInt ≤ 9 := by rw [ex_100]; exact hp_gpa _
        refine lv_isub hx hb dX8_resting_60 ?_
        refine lv_topi (fun x_101 ex_101 => ?_)
        skip
        refine zw_V (As := [.int p_, .int x_101]) (rest := [.int r_96]) (wr := []) ⟨hx, hb, hml, hown, hts⟩ (c_F_M_pulling l D cI cJ cZ cP cS po m0 mrf mki mpa mta mla msl mco mhe mso msi msh mce mca mwo mnu mte mwa mke mma mth mtr (npu) (nte) (nat_) (nde) (nto) (nse) (nhu) (nga) (nsd) (nfa) (nba) (npl) (nen) (nnu) (nwr) (q_98) (nik) gki gpa q_99 (p_) (x_101) hy0 hy1 hy2 hy3 hy4 hy5 hy6 hy7 hy8 hy9 hbq_98.1 hbq_98.2 hy12 hy13 hy14 hy15 hbq_98.1 (by omega) hp_gki hp_gpa H.size) (cwV 2 hts gX8_resting_X8_pulling rfl rfl rfl ⟨rfl, dh_X8_pulling⟩ ⟨Nat.le_of_ble_eq_true rfl, Nat.le_of_ble_eq_true rfl⟩) hK hN (hZ.kept hS) hP hD hS hA [0, 1, 2, 3] [] rfl rfl (by decide) (by decide) (by decide) (va_recv (q := (RX8, TX8, 38)) hK hP (ci := 8) (q0 := 0) rfl rfl) rfl hl.1 rfl (Nat.le_of_ble_eq_true rfl) dX8_resting_61 ⟨Nat.le_of_ble_eq_true rfl, Nat.le_of_ble_eq_true rfl⟩ (fun r_102 u_103 H locs hr_102 hP hD hS => ?_)
        obtain ⟨q_104, q_105⟩ := u_103
        try dsimp only at hr_102
        obtain ⟨hbq_104, hsr_102_0, hsr_102_1, hsr_102_2, hr_102⟩ := hr_102
        have h9R := zRe (ws' := [(zMO m0 npu nte nat_ nde nto nse nhu nga nsd nfa mrf mki mpa mta mla msl mco mhe mso msi msh mce mca mwo mnu mte nba npl nen nnu nwr mwa mke mma mth mtr q_104 nik), (mki, .inl (cI, 8, .inl gki)), (mpa, .inl (cI, 8, .inl gpa)), (mtr, .inl (cI, 20, .inl q_105))]) hP hD rfl
        clear hP hD
        obtain ⟨hP, hD⟩ := h9R
        refine lv_ixor hx hb dX8_resting_64 ?_
        refine lv_topi (fun x_106 ex_106 => ?_)
        refine lv_istore (lv' := [(4, .int x_106), (3, .int 4), (0, .ref m0), (1, .int p_), (2, .int x)]) hx hb dX8_resting_65 hl (by decide) rfl (fun ls hl => ?_)
        refine lv_iload_n hx hb dX8_resting_67 rfl (lv_at hl 1 rfl) ?_
        refine lv_iconst (v := 4) hx hb dX8_resting_68 (by decide) ?_
        refine lv_icmp_eq (tgt := 78) hx hb dX8_resting_69 (by decide) (fun c_107 => ?_) (fun c_107 => ?_)
        · refine lv_iload hx hb dX8_resting_78 (lv_at hl 0 rfl) ?_
          refine lv_ineg hx hb dX8_resting_80 ?_
          refine lv_topi (fun x_108 ex_108 => ?_)
          refine lv_goto (tgt := 98) hx hb dX8_resting_81 (by decide) ?_
          exact W.iret (v := x_108) hx hb hr (fun t ht hW => ⟨⟨x_108, (q_104, q_105), rfl, ⟨(show 0 ≤ q_104.toInt ∧ q_104.toInt ≤ 2000 from hbq_104), (show (x_108 : Int32) = zQr (gki p_.toNatClampNeg).toInt x p_ (gpa p_.toNatClampNeg) from by (have hk : (gki p_.toNatClampNeg).toInt = 4 := (by rw [← ex_1]; first | done | decide); rw [hk]; unfold zQr; (repeat (first | rw [if_pos (by decide)] | rw [if_neg (by decide)])); (try rw [ex_108]); (try rw [ex_106]); (try rw [ex_101]); (try rw [ex_100]); (try rw [hsr_96_0, hk]); (try rw [hsr_102_0, hk]); (try rw [ex_108]); (try rw [ex_106]); (try rw [ex_101]); (try rw [ex_100]); (try rw [ex_100]); first | done | rfl)), (show q_105 = zTr gtr nra.toInt (zBr (gki p_.toNatClampNeg).toInt) from by (have hk : (gki p_.toNatClampNeg).toInt = 4 := (by rw [← ex_1]; first | done | decide); have zbp0 : ((zBp 4).length : Int) = 2 := rfl; have zbf1 : ((zBf 4).length : Int) = 3 := rfl; have zbr2 : ((zBr 4).length : Int) = 7 := rfl; have q0 := hsr_96_2; rw [hk] at q0; have q1 := hsr_102_2; rw [hk] at q1; rw [hsr_102_1, hk]; rw [hsr_96_1, hk]; rw [hsr_92_0]; rw [hsr_87_0]; rw [zTr_app (by first | omega | (simp; omega) | (show _ = _ + 1; omega))]; rw [zTr_app (by first | omega | (simp; omega) | (show _ = _ + 1; omega))]; rw [zTr_app (by first | omega | (simp; omega) | (show _ = _ + 1; omega))]; (try rw [hk]); first | done | rfl)), (show q_104.toInt = nra.toInt + ((zBr (gki p_.toNatClampNeg).toInt).length : Nat) from by (have hk : (gki p_.toNatClampNeg).toInt = 4 := (by rw [← ex_1]; first | done | decide); have zp : ((zBp 4).length : Int) = 2 := rfl; have zf : ((zBf 4).length : Int) = 3 := rfl; have zr : ((zBr 4).length : Int) = 7 := rfl; have q0 := hsr_96_2; rw [hk] at q0; have q1 := hsr_102_2; rw [hk] at q1; rw [hk]; omega)), trivial⟩, zRet ht hP hD [0, 1, 2, 3] (by decide) rfl⟩, hS.F ht⟩) hS.2.2 dX8_resting_98
        · exact absurd c_107 (by decide)
      · exact absurd c_91 (by decide)
    · exact absurd c_86 (by decide)
  · have kc5 : (5 : Int32).toInt = 5 := by decide
    refine lv_iload_n hx hb dX8_resting_7 rfl (lv_at hl 0 rfl) ?_
    refine lv_iconst (v := 4) hx hb dX8_resting_8 (by decide) ?_
    refine lv_icmp_eq (tgt := 18) hx hb dX8_resting_9 (by decide) (fun c_109 => ?_) (fun c_109 => ?_)
    · exact absurd c_109 (by decide)
    · refine lv_iload_n hx hb dX8_resting_12 rfl (lv_at hl 0 rfl) ?_
      refine lv_bipush (v := 6) hx hb dX8_resting_13 (by decide) ?_
      refine lv_icmp_ne (tgt := 24) hx hb dX8_resting_15 (by decide) (fun c_110 => ?_) (fun c_110 => ?_)
      · refine lv_iload_n hx hb dX8_resting_24 rfl (lv_at hl 0 rfl) ?_
        refine lv_iconst (v := 5) hx hb dX8_resting_25 (by decide) ?_
        refine lv_icmp_ne (tgt := 35) hx hb dX8_resting_26 (by decide) (fun c_111 => ?_) (fun c_111 => ?_)
        · exact absurd c_111 (by decide)
        · refine lv_aload_n hx hb dX8_resting_29 rfl (lv_at hl 1 rfl) ?_
          refine lv_bipush (v := 60) hx hb dX8_resting_30 (by decide) ?_
          skip
          refine zw_Vv (As := [.int 60]) (rest := []) (wr := [(mki, .inl (cI, 8, .inl gki)), (mpa, .inl (cI, 8, .inl gpa))]) ⟨hx, hb, hml, hown, hts⟩ (c_F_M_body l D cI cJ cZ cP cS po m0 mrf mki mpa mta mla msl mco mhe mso msi msh mce mca mwo mnu mte mwa mke mma mth mtr (npu) (nte) (nat_) (nde) (nto) (nse) (nhu) (nga) (nsd) (nfa) (nba) (npl) (nen) (nnu) (nwr) (nra) (nik) gtr (60) hy0 hy1 hy2 hy3 hy4 hy5 hy6 hy7 hy8 hy9 hy10 hy11 hy12 hy13 hy10 hy11 H.size) (cwV 1 hts gX8_resting_X8_body rfl rfl rfl ⟨rfl, dh_X8_body⟩ ⟨Nat.le_of_ble_eq_true rfl, Nat.le_of_ble_eq_true rfl⟩) hK hN (hZ.kept hS) hP hD hS hA [0, 3] [1, 2] rfl rfl (by decide) (by decide) (by decide) (va_recv (q := (RX8, TX8, 38)) hK hP (ci := 8) (q0 := 0) rfl rfl) rfl hl.1 rfl (Nat.le_of_ble_eq_true rfl) dX8_resting_32 ⟨Nat.le_of_ble_eq_true rfl, Nat.le_of_ble_eq_true rfl⟩ (fun u_113 H locs hr_112 hP hD hS => ?_)
          obtain ⟨q_114, q_115⟩ := u_113
          try dsimp only at hr_112
          obtain ⟨hbq_114, hsr_112_0, hr_112⟩ := hr_112
          have h9R := zRe (ws' := [(mki, .inl (cI, 8, .inl gki)), (mpa, .inl (cI, 8, .inl gpa)), (zMO m0 npu nte nat_ nde nto nse nhu nga nsd nfa mrf mki mpa mta mla msl mco mhe mso msi msh mce mca mwo mnu mte nba npl nen nnu nwr mwa mke mma mth mtr q_114 nik), (mtr, .inl (cI, 20, .inl q_115))]) hP hD rfl
          clear hP hD
          obtain ⟨hP, hD⟩ := h9R
          refine lv_aload_n hx hb dX8_resting_35 rfl (lv_at hl 1 rfl) ?_
          refine lv_bipush (v := 12) hx hb dX8_resting_36 (by decide) ?_
          skip
          refine zw_Vv (As := [.int 12]) (rest := []) (wr := [(mki, .inl (cI, 8, .inl gki)), (mpa, .inl (cI, 8, .inl gpa))]) ⟨hx, hb, hml, hown, hts⟩ (c_F_M_body l D cI cJ cZ cP cS po m0 mrf mki mpa mta mla msl mco mhe mso msi msh mce mca mwo mnu mte mwa mke mma mth mtr (npu) (nte) (nat_) (nde) (nto) (nse) (nhu) (nga) (nsd) (nfa) (nba) (npl) (nen) (nnu) (nwr) (q_114) (nik) q_115 (12) hy0 hy1 hy2 hy3 hy4 hy5 hy6 hy7 hy8 hy9 (by omega) (by omega) hy12 hy13 (by omega) (by omega) H.size) (cwV 1 hts gX8_resting_X8_body rfl rfl rfl ⟨rfl, dh_X8_body⟩ ⟨Nat.le_of_ble_eq_true rfl, Nat.le_of_ble_eq_true rfl⟩) hK hN (hZ.kept hS) hP hD hS hA [2, 3] [0, 1] rfl rfl (by decide) (by decide) (by decide) (va_recv (q := (RX8, TX8, 38)) hK hP (ci := 8) (q0 := 2) rfl rfl) rfl hl.1 rfl (Nat.le_of_ble_eq_true rfl) dX8_resting_38 ⟨Nat.le_of_ble_eq_true rfl, Nat.le_of_ble_eq_true rfl⟩ (fun u_117 H locs hr_116 hP hD hS => ?_)
          obtain ⟨q_118, q_119⟩ := u_117
          try dsimp only at hr_116
          obtain ⟨hbq_118, hsr_116_0, hr_116⟩ := hr_116
          have h9R := zRe (ws' := [(mki, .inl (cI, 8, .inl gki)), (mpa, .inl (cI, 8, .inl gpa)), (zMO m0 npu nte nat_ nde nto nse nhu nga nsd nfa mrf mki mpa mta mla msl mco mhe mso msi msh mce mca mwo mnu mte nba npl nen nnu nwr mwa mke mma mth mtr q_118 nik), (mtr, .inl (cI, 20, .inl q_119))]) hP hD rfl
          clear hP hD
          obtain ⟨hP, hD⟩ := h9R
          refine lv_aload_n hx hb dX8_resting_41 rfl (lv_at hl 1 rfl) ?_
          refine lv_iload_n hx hb dX8_resting_42 rfl (lv_at hl 2 rfl) ?_
          refine lv_iload_n hx hb dX8_resting_43 rfl (lv_at hl 3 rfl) ?_
          skip
          refine zw_V (As := [.int p_, .int x]) (rest := []) (wr := []) ⟨hx, hb, hml, hown, hts⟩ (c_F_M_freeing l D cI cJ cZ cP cS po m0 mrf mki mpa mta mla msl mco mhe mso msi msh mce mca mwo mnu mte mwa mke mma mth mtr (npu) (nte) (nat_) (nde) (nto) (nse) (nhu) (nga) (nsd) (nfa) (nba) (npl) (nen) (nnu) (nwr) (q_118) (nik) gki gpa q_119 (p_) (x) hy0 hy1 hy2 hy3 hy4 hy5 hy6 hy7 hy8 hy9 (by omega) (by omega) hy12 hy13 hy14 hy15 (by omega) (by omega) hp_gki hp_gpa H.size) (cwV 2 hts gX8_resting_X8_freeing rfl rfl rfl ⟨rfl, dh_X8_freeing⟩ ⟨Nat.le_of_ble_eq_true rfl, Nat.le_of_ble_eq_true rfl⟩) hK hN (hZ.kept hS) hP hD hS hA [2, 0, 1, 3] [] rfl rfl (by decide) (by decide) (by decide) (va_recv (q := (RX8, TX8, 38)) hK hP (ci := 8) (q0 := 2) rfl rfl) rfl hl.1 rfl (Nat.le_of_ble_eq_true rfl) dX8_resting_44 ⟨Nat.le_of_ble_eq_true rfl, Nat.le_of_ble_eq_true rfl⟩ (fun r_120 u_121 H locs hr_120 hP hD hS => ?_)
          obtain ⟨q_122, q_123⟩ := u_121
          try dsimp only at hr_120
          obtain ⟨hbq_122, hsr_120_0, hsr_120_1, hsr_120_2, hr_120⟩ := hr_120
          have h9R := zRe (ws' := [(zMO m0 npu nte nat_ nde nto nse nhu nga nsd nfa mrf mki mpa mta mla msl mco mhe mso msi msh mce mca mwo mnu mte nba npl nen nnu nwr mwa mke mma mth mtr q_122 nik), (mki, .inl (cI, 8, .inl gki)), (mpa, .inl (cI, 8, .inl gpa)), (mtr, .inl (cI, 20, .inl q_123))]) hP hD rfl
          clear hP hD
          obtain ⟨hP, hD⟩ := h9R
          have zl9 := zBf_le (gki p_.toNatClampNeg).toInt
          refine lv_istore (lv' := [(4, .int r_120), (3, .int 5), (0, .ref m0), (1, .int p_), (2, .int x)]) hx hb dX8_resting_47 hl (by decide) rfl (fun ls hl => ?_)
          refine lv_iload hx hb dX8_resting_49 (lv_at hl 0 rfl) ?_
          refine lv_aload_n hx hb dX8_resting_51 rfl (lv_at hl 2 rfl) ?_
          refine lv_iload_n hx hb dX8_resting_52 rfl (lv_at hl 3 rfl) ?_
          refine lv_iload_n hx hb dX8_resting_53 rfl (lv_at hl 4 rfl) ?_
          refine lv_aload_n hx hb dX8_resting_54 rfl (lv_at hl 2 rfl) ?_
          refine va_get (D := D) (ci := 8) (v := .ref mpa) (C := RX8) (T := TX8) (N := 38) hx hb hts hi_X8_resting_8 hown hK hP 0 rfl rfl 12 (by decide) (hts (.fieldLink RX8 32 "TheLiningsInItModel" "part" "[I") (List.mem_of_getElem? (i := 2) rfl)) (fun _ h9 => h9) rfl dX8_resting_55 ?_
          refine lv_iload_n hx hb dX8_resting_58 rfl (lv_at hl 3 rfl) ?_
          refine va_iald hx hb hK hP 2 0 rfl rfl (zf_in (by omega) (by omega)) dX8_resting_59 ?_
          refine lv_topi (fun x_124 ex_124 => ?_)
          have bx_124 : 0 ≤ x_124.toInt ∧ x_124.toInt ≤ 9 := by rw [ex_124]; exact hp_gpa _
          refine lv_isub hx hb dX8_resting_60 ?_
          refine lv_topi (fun x_125 ex_125 => ?_)
          skip
          refine zw_V (As := [.int p_, .int x_125]) (rest := [.int r_120]) (wr := []) ⟨hx, hb, hml, hown, hts⟩ (c_F_M_pulling l D cI cJ cZ cP cS po m0 mrf mki mpa mta mla msl mco mhe mso msi msh mce mca mwo mnu mte mwa mke mma mth mtr (npu) (nte) (nat_) (nde) (nto) (nse) (nhu) (nga) (nsd) (nfa) (nba) (npl) (nen) (nnu) (nwr) (q_122) (nik) gki gpa q_123 (p_) (x_125) hy0 hy1 hy2 hy3 hy4 hy5 hy6 hy7 hy8 hy9 hbq_122.1 hbq_122.2 hy12 hy13 hy14 hy15 hbq_122.1 (by omega) hp_gki hp_gpa H.size) (cwV 2 hts gX8_resting_X8_pulling rfl rfl rfl ⟨rfl, dh_X8_pulling⟩ ⟨Nat.le_of_ble_eq_true rfl, Nat.le_of_ble_eq_true rfl⟩) hK hN (hZ.kept hS) hP hD hS hA [0, 1, 2, 3] [] rfl rfl (by decide) (by decide) (by decide) (va_recv (q := (RX8, TX8, 38)) hK hP (ci := 8) (q0 := 0) rfl rfl) rfl hl.1 rfl (Nat.le_of_ble_eq_true rfl) dX8_resting_61 ⟨Nat.le_of_ble_eq_true rfl, Nat.le_of_ble_eq_true rfl⟩ (fun r_126 u_127 H locs hr_126 hP hD hS => ?_)
          obtain ⟨q_128, q_129⟩ := u_127
          try dsimp only at hr_126
          obtain ⟨hbq_128, hsr_126_0, hsr_126_1, hsr_126_2, hr_126⟩ := hr_126
          have h9R := zRe (ws' := [(zMO m0 npu nte nat_ nde nto nse nhu nga nsd nfa mrf mki mpa mta mla msl mco mhe mso msi msh mce mca mwo mnu mte nba npl nen nnu nwr mwa mke mma mth mtr q_128 nik), (mki, .inl (cI, 8, .inl gki)), (mpa, .inl (cI, 8, .inl gpa)), (mtr, .inl (cI, 20, .inl q_129))]) hP hD rfl
          clear hP hD
          obtain ⟨hP, hD⟩ := h9R
          refine lv_ixor hx hb dX8_resting_64 ?_
          refine lv_topi (fun x_130 ex_130 => ?_)
          refine lv_istore (lv' := [(4, .int x_130), (3, .int 5), (0, .ref m0), (1, .int p_), (2, .int x)]) hx hb dX8_resting_65 hl (by decide) rfl (fun ls hl => ?_)
          refine lv_iload_n hx hb dX8_resting_67 rfl (lv_at hl 1 rfl) ?_
          refine lv_iconst (v := 4) hx hb dX8_resting_68 (by decide) ?_
          refine lv_icmp_eq (tgt := 78) hx hb dX8_resting_69 (by decide) (fun c_131 => ?_) (fun c_131 => ?_)
          · exact absurd c_131 (by decide)
          · refine lv_iload_n hx hb dX8_resting_72 rfl (lv_at hl 1 rfl) ?_
            refine lv_bipush (v := 6) hx hb dX8_resting_73 (by decide) ?_
            refine lv_icmp_ne (tgt := 84) hx hb dX8_resting_75 (by decide) (fun c_132 => ?_) (fun c_132 => ?_)
            · refine lv_iload_n hx hb dX8_resting_84 rfl (lv_at hl 1 rfl) ?_
              refine lv_iconst (v := 5) hx hb dX8_resting_85 (by decide) ?_
              refine lv_icmp_ne (tgt := 96) hx hb dX8_resting_86 (by decide) (fun c_133 => ?_) (fun c_133 => ?_)
              · exact absurd c_133 (by decide)
              · refine lv_iload hx hb dX8_resting_89 (lv_at hl 0 rfl) ?_
                refine lv_iconst (v := 5) hx hb dX8_resting_91 (by decide) ?_
                refine lv_ixor hx hb dX8_resting_92 ?_
                refine lv_topi (fun x_134 ex_134 => ?_)
                refine lv_goto (tgt := 98) hx hb dX8_resting_93 (by decide) ?_
                exact W.iret (v := x_134) hx hb hr (fun t ht hW => ⟨⟨x_134, (q_128, q_129), rfl, ⟨(show 0 ≤ q_128.toInt ∧ q_128.toInt ≤ 2000 from hbq_128), (show (x_134 : Int32) = zQr (gki p_.toNatClampNeg).toInt x p_ (gpa p_.toNatClampNeg) from by (have hk : (gki p_.toNatClampNeg).toInt = 5 := (by rw [← ex_1]; first | done | decide); rw [hk]; unfold zQr; (repeat (first | rw [if_pos (by decide)] | rw [if_neg (by decide)])); (try rw [ex_134]); (try rw [ex_130]); (try rw [ex_125]); (try rw [ex_124]); (try rw [hsr_120_0, hk]); (try rw [hsr_126_0, hk]); (try rw [ex_134]); (try rw [ex_130]); (try rw [ex_125]); (try rw [ex_124]); (try rw [ex_124]); first | done | rfl)), (show q_129 = zTr gtr nra.toInt (zBr (gki p_.toNatClampNeg).toInt) from by (have hk : (gki p_.toNatClampNeg).toInt = 5 := (by rw [← ex_1]; first | done | decide); have zbp0 : ((zBp 5).length : Int) = 1 := rfl; have zbf1 : ((zBf 5).length : Int) = 3 := rfl; have zbr2 : ((zBr 5).length : Int) = 6 := rfl; have q0 := hsr_120_2; rw [hk] at q0; have q1 := hsr_126_2; rw [hk] at q1; rw [hsr_126_1, hk]; rw [hsr_120_1, hk]; rw [hsr_116_0]; rw [hsr_112_0]; rw [zTr_app (by first | omega | (simp; omega) | (show _ = _ + 1; omega))]; rw [zTr_app (by first | omega | (simp; omega) | (show _ = _ + 1; omega))]; rw [zTr_app (by first | omega | (simp; omega) | (show _ = _ + 1; omega))]; (try rw [hk]); first | done | rfl)), (show q_128.toInt = nra.toInt + ((zBr (gki p_.toNatClampNeg).toInt).length : Nat) from by (have hk : (gki p_.toNatClampNeg).toInt = 5 := (by rw [← ex_1]; first | done | decide); have zp : ((zBp 5).length : Int) = 1 := rfl; have zf : ((zBf 5).length : Int) = 3 := rfl; have zr : ((zBr 5).length : Int) = 6 := rfl; have q0 := hsr_120_2; rw [hk] at q0; have q1 := hsr_126_2; rw [hk] at q1; rw [hk]; omega)), trivial⟩, zRet ht hP hD [0, 1, 2, 3] (by decide) rfl⟩, hS.F ht⟩) hS.2.2 dX8_resting_98
            · exact absurd c_132 (by decide)
      · exact absurd c_110 (by decide)
  · have kc6 : (6 : Int32).toInt = 6 := by decide
    refine lv_iload_n hx hb dX8_resting_7 rfl (lv_at hl 0 rfl) ?_
    refine lv_iconst (v := 4) hx hb dX8_resting_8 (by decide) ?_
    refine lv_icmp_eq (tgt := 18) hx hb dX8_resting_9 (by decide) (fun c_135 => ?_) (fun c_135 => ?_)
    · exact absurd c_135 (by decide)
    · refine lv_iload_n hx hb dX8_resting_12 rfl (lv_at hl 0 rfl) ?_
      refine lv_bipush (v := 6) hx hb dX8_resting_13 (by decide) ?_
      refine lv_icmp_ne (tgt := 24) hx hb dX8_resting_15 (by decide) (fun c_136 => ?_) (fun c_136 => ?_)
      · exact absurd c_136 (by decide)
      · refine lv_aload_n hx hb dX8_resting_18 rfl (lv_at hl 1 rfl) ?_
        refine lv_bipush (v := 50) hx hb dX8_resting_19 (by decide) ?_
        skip
        refine zw_Vv (As := [.int 50]) (rest := []) (wr := [(mki, .inl (cI, 8, .inl gki)), (mpa, .inl (cI, 8, .inl gpa))]) ⟨hx, hb, hml, hown, hts⟩ (c_F_M_body l D cI cJ cZ cP cS po m0 mrf mki mpa mta mla msl mco mhe mso msi msh mce mca mwo mnu mte mwa mke mma mth mtr (npu) (nte) (nat_) (nde) (nto) (nse) (nhu) (nga) (nsd) (nfa) (nba) (npl) (nen) (nnu) (nwr) (nra) (nik) gtr (50) hy0 hy1 hy2 hy3 hy4 hy5 hy6 hy7 hy8 hy9 hy10 hy11 hy12 hy13 hy10 hy11 H.size) (cwV 1 hts gX8_resting_X8_body rfl rfl rfl ⟨rfl, dh_X8_body⟩ ⟨Nat.le_of_ble_eq_true rfl, Nat.le_of_ble_eq_true rfl⟩) hK hN (hZ.kept hS) hP hD hS hA [0, 3] [1, 2] rfl rfl (by decide) (by decide) (by decide) (va_recv (q := (RX8, TX8, 38)) hK hP (ci := 8) (q0 := 0) rfl rfl) rfl hl.1 rfl (Nat.le_of_ble_eq_true rfl) dX8_resting_21 ⟨Nat.le_of_ble_eq_true rfl, Nat.le_of_ble_eq_true rfl⟩ (fun u_138 H locs hr_137 hP hD hS => ?_)
        obtain ⟨q_139, q_140⟩ := u_138
        try dsimp only at hr_137
        obtain ⟨hbq_139, hsr_137_0, hr_137⟩ := hr_137
        have h9R := zRe (ws' := [(mki, .inl (cI, 8, .inl gki)), (mpa, .inl (cI, 8, .inl gpa)), (zMO m0 npu nte nat_ nde nto nse nhu nga nsd nfa mrf mki mpa mta mla msl mco mhe mso msi msh mce mca mwo mnu mte nba npl nen nnu nwr mwa mke mma mth mtr q_139 nik), (mtr, .inl (cI, 20, .inl q_140))]) hP hD rfl
        clear hP hD
        obtain ⟨hP, hD⟩ := h9R
        refine lv_iload_n hx hb dX8_resting_24 rfl (lv_at hl 0 rfl) ?_
        refine lv_iconst (v := 5) hx hb dX8_resting_25 (by decide) ?_
        refine lv_icmp_ne (tgt := 35) hx hb dX8_resting_26 (by decide) (fun c_141 => ?_) (fun c_141 => ?_)
        · refine lv_aload_n hx hb dX8_resting_35 rfl (lv_at hl 1 rfl) ?_
          refine lv_bipush (v := 12) hx hb dX8_resting_36 (by decide) ?_
          skip
          refine zw_Vv (As := [.int 12]) (rest := []) (wr := [(mki, .inl (cI, 8, .inl gki)), (mpa, .inl (cI, 8, .inl gpa))]) ⟨hx, hb, hml, hown, hts⟩ (c_F_M_body l D cI cJ cZ cP cS po m0 mrf mki mpa mta mla msl mco mhe mso msi msh mce mca mwo mnu mte mwa mke mma mth mtr (npu) (nte) (nat_) (nde) (nto) (nse) (nhu) (nga) (nsd) (nfa) (nba) (npl) (nen) (nnu) (nwr) (q_139) (nik) q_140 (12) hy0 hy1 hy2 hy3 hy4 hy5 hy6 hy7 hy8 hy9 (by omega) (by omega) hy12 hy13 (by omega) (by omega) H.size) (cwV 1 hts gX8_resting_X8_body rfl rfl rfl ⟨rfl, dh_X8_body⟩ ⟨Nat.le_of_ble_eq_true rfl, Nat.le_of_ble_eq_true rfl⟩) hK hN (hZ.kept hS) hP hD hS hA [2, 3] [0, 1] rfl rfl (by decide) (by decide) (by decide) (va_recv (q := (RX8, TX8, 38)) hK hP (ci := 8) (q0 := 2) rfl rfl) rfl hl.1 rfl (Nat.le_of_ble_eq_true rfl) dX8_resting_38 ⟨Nat.le_of_ble_eq_true rfl, Nat.le_of_ble_eq_true rfl⟩ (fun u_143 H locs hr_142 hP hD hS => ?_)
          obtain ⟨q_144, q_145⟩ := u_143
          try dsimp only at hr_142
          obtain ⟨hbq_144, hsr_142_0, hr_142⟩ := hr_142
          have h9R := zRe (ws' := [(mki, .inl (cI, 8, .inl gki)), (mpa, .inl (cI, 8, .inl gpa)), (zMO m0 npu nte nat_ nde nto nse nhu nga nsd nfa mrf mki mpa mta mla msl mco mhe mso msi msh mce mca mwo mnu mte nba npl nen nnu nwr mwa mke mma mth mtr q_144 nik), (mtr, .inl (cI, 20, .inl q_145))]) hP hD rfl
          clear hP hD
          obtain ⟨hP, hD⟩ := h9R
          refine lv_aload_n hx hb dX8_resting_41 rfl (lv_at hl 1 rfl) ?_
          refine lv_iload_n hx hb dX8_resting_42 rfl (lv_at hl 2 rfl) ?_
          refine lv_iload_n hx hb dX8_resting_43 rfl (lv_at hl 3 rfl) ?_
          skip
          refine zw_V (As := [.int p_, .int x]) (rest := []) (wr := []) ⟨hx, hb, hml, hown, hts⟩ (c_F_M_freeing l D cI cJ cZ cP cS po m0 mrf mki mpa mta mla msl mco mhe mso msi msh mce mca mwo mnu mte mwa mke mma mth mtr (npu) (nte) (nat_) (nde) (nto) (nse) (nhu) (nga) (nsd) (nfa) (nba) (npl) (nen) (nnu) (nwr) (q_144) (nik) gki gpa q_145 (p_) (x) hy0 hy1 hy2 hy3 hy4 hy5 hy6 hy7 hy8 hy9 (by omega) (by omega) hy12 hy13 hy14 hy15 (by omega) (by omega) hp_gki hp_gpa H.size) (cwV 2 hts gX8_resting_X8_freeing rfl rfl rfl ⟨rfl, dh_X8_freeing⟩ ⟨Nat.le_of_ble_eq_true rfl, Nat.le_of_ble_eq_true rfl⟩) hK hN (hZ.kept hS) hP hD hS hA [2, 0, 1, 3] [] rfl rfl (by decide) (by decide) (by decide) (va_recv (q := (RX8, TX8, 38)) hK hP (ci := 8) (q0 := 2) rfl rfl) rfl hl.1 rfl (Nat.le_of_ble_eq_true rfl) dX8_resting_44 ⟨Nat.le_of_ble_eq_true rfl, Nat.le_of_ble_eq_true rfl⟩ (fun r_146 u_147 H locs hr_146 hP hD hS => ?_)
          obtain ⟨q_148, q_149⟩ := u_147
          try dsimp only at hr_146
          obtain ⟨hbq_148, hsr_146_0, hsr_146_1, hsr_146_2, hr_146⟩ := hr_146
          have h9R := zRe (ws' := [(zMO m0 npu nte nat_ nde nto nse nhu nga nsd nfa mrf mki mpa mta mla msl mco mhe mso msi msh mce mca mwo mnu mte nba npl nen nnu nwr mwa mke mma mth mtr q_148 nik), (mki, .inl (cI, 8, .inl gki)), (mpa, .inl (cI, 8, .inl gpa)), (mtr, .inl (cI, 20, .inl q_149))]) hP hD rfl
          clear hP hD
          obtain ⟨hP, hD⟩ := h9R
          have zl9 := zBf_le (gki p_.toNatClampNeg).toInt
          refine lv_istore (lv' := [(4, .int r_146), (3, .int 6), (0, .ref m0), (1, .int p_), (2, .int x)]) hx hb dX8_resting_47 hl (by decide) rfl (fun ls hl => ?_)
          refine lv_iload hx hb dX8_resting_49 (lv_at hl 0 rfl) ?_
          refine lv_aload_n hx hb dX8_resting_51 rfl (lv_at hl 2 rfl) ?_
          refine lv_iload_n hx hb dX8_resting_52 rfl (lv_at hl 3 rfl) ?_
          refine lv_iload_n hx hb dX8_resting_53 rfl (lv_at hl 4 rfl) ?_
          refine lv_aload_n hx hb dX8_resting_54 rfl (lv_at hl 2 rfl) ?_
          refine va_get (D := D) (ci := 8) (v := .ref mpa) (C := RX8) (T := TX8) (N := 38) hx hb hts hi_X8_resting_8 hown hK hP 0 rfl rfl 12 (by decide) (hts (.fieldLink RX8 32 "TheLiningsInItModel" "part" "[I") (List.mem_of_getElem? (i := 2) rfl)) (fun _ h9 => h9) rfl dX8_resting_55 ?_
          refine lv_iload_n hx hb dX8_resting_58 rfl (lv_at hl 3 rfl) ?_
          refine va_iald hx hb hK hP 2 0 rfl rfl (zf_in (by omega) (by omega)) dX8_resting_59 ?_
          refine lv_topi (fun x_150 ex_150 => ?_)
          have bx_150 : 0 ≤ x_150.toInt ∧ x_150.toInt ≤ 9 := by rw [ex_150]; exact hp_gpa _
          refine lv_isub hx hb dX8_resting_60 ?_
          refine lv_topi (fun x_151 ex_151 => ?_)
          skip
          refine zw_V (As := [.int p_, .int x_151]) (rest := [.int r_146]) (wr := []) ⟨hx, hb, hml, hown, hts⟩ (c_F_M_pulling l D cI cJ cZ cP cS po m0 mrf mki mpa mta mla msl mco mhe mso msi msh mce mca mwo mnu mte mwa mke mma mth mtr (npu) (nte) (nat_) (nde) (nto) (nse) (nhu) (nga) (nsd) (nfa) (nba) (npl) (nen) (nnu) (nwr) (q_148) (nik) gki gpa q_149 (p_) (x_151) hy0 hy1 hy2 hy3 hy4 hy5 hy6 hy7 hy8 hy9 hbq_148.1 hbq_148.2 hy12 hy13 hy14 hy15 hbq_148.1 (by omega) hp_gki hp_gpa H.size) (cwV 2 hts gX8_resting_X8_pulling rfl rfl rfl ⟨rfl, dh_X8_pulling⟩ ⟨Nat.le_of_ble_eq_true rfl, Nat.le_of_ble_eq_true rfl⟩) hK hN (hZ.kept hS) hP hD hS hA [0, 1, 2, 3] [] rfl rfl (by decide) (by decide) (by decide) (va_recv (q := (RX8, TX8, 38)) hK hP (ci := 8) (q0 := 0) rfl rfl) rfl hl.1 rfl (Nat.le_of_ble_eq_true rfl) dX8_resting_61 ⟨Nat.le_of_ble_eq_true rfl, Nat.le_of_ble_eq_true rfl⟩ (fun r_152 u_153 H locs hr_152 hP hD hS => ?_)
          obtain ⟨q_154, q_155⟩ := u_153
          try dsimp only at hr_152
          obtain ⟨hbq_154, hsr_152_0, hsr_152_1, hsr_152_2, hr_152⟩ := hr_152
          have h9R := zRe (ws' := [(zMO m0 npu nte nat_ nde nto nse nhu nga nsd nfa mrf mki mpa mta mla msl mco mhe mso msi msh mce mca mwo mnu mte nba npl nen nnu nwr mwa mke mma mth mtr q_154 nik), (mki, .inl (cI, 8, .inl gki)), (mpa, .inl (cI, 8, .inl gpa)), (mtr, .inl (cI, 20, .inl q_155))]) hP hD rfl
          clear hP hD
          obtain ⟨hP, hD⟩ := h9R
          refine lv_ixor hx hb dX8_resting_64 ?_
          refine lv_topi (fun x_156 ex_156 => ?_)
          refine lv_istore (lv' := [(4, .int x_156), (3, .int 6), (0, .ref m0), (1, .int p_), (2, .int x)]) hx hb dX8_resting_65 hl (by decide) rfl (fun ls hl => ?_)
          refine lv_iload_n hx hb dX8_resting_67 rfl (lv_at hl 1 rfl) ?_
          refine lv_iconst (v := 4) hx hb dX8_resting_68 (by decide) ?_
          refine lv_icmp_eq (tgt := 78) hx hb dX8_resting_69 (by decide) (fun c_157 => ?_) (fun c_157 => ?_)
          · exact absurd c_157 (by decide)
          · refine lv_iload_n hx hb dX8_resting_72 rfl (lv_at hl 1 rfl) ?_
            refine lv_bipush (v := 6) hx hb dX8_resting_73 (by decide) ?_
            refine lv_icmp_ne (tgt := 84) hx hb dX8_resting_75 (by decide) (fun c_158 => ?_) (fun c_158 => ?_)
            · exact absurd c_158 (by decide)
            · refine lv_iload hx hb dX8_resting_78 (lv_at hl 0 rfl) ?_
              refine lv_ineg hx hb dX8_resting_80 ?_
              refine lv_topi (fun x_159 ex_159 => ?_)
              refine lv_goto (tgt := 98) hx hb dX8_resting_81 (by decide) ?_
              exact W.iret (v := x_159) hx hb hr (fun t ht hW => ⟨⟨x_159, (q_154, q_155), rfl, ⟨(show 0 ≤ q_154.toInt ∧ q_154.toInt ≤ 2000 from hbq_154), (show (x_159 : Int32) = zQr (gki p_.toNatClampNeg).toInt x p_ (gpa p_.toNatClampNeg) from by (have hk : (gki p_.toNatClampNeg).toInt = 6 := (by rw [← ex_1]; first | done | decide); rw [hk]; unfold zQr; (repeat (first | rw [if_pos (by decide)] | rw [if_neg (by decide)])); (try rw [ex_159]); (try rw [ex_156]); (try rw [ex_151]); (try rw [ex_150]); (try rw [hsr_146_0, hk]); (try rw [hsr_152_0, hk]); (try rw [ex_159]); (try rw [ex_156]); (try rw [ex_151]); (try rw [ex_150]); (try rw [ex_150]); first | done | rfl)), (show q_155 = zTr gtr nra.toInt (zBr (gki p_.toNatClampNeg).toInt) from by (have hk : (gki p_.toNatClampNeg).toInt = 6 := (by rw [← ex_1]; first | done | decide); have zbp0 : ((zBp 6).length : Int) = 3 := rfl; have zbf1 : ((zBf 6).length : Int) = 5 := rfl; have zbr2 : ((zBr 6).length : Int) = 10 := rfl; have q0 := hsr_146_2; rw [hk] at q0; have q1 := hsr_152_2; rw [hk] at q1; rw [hsr_152_1, hk]; rw [hsr_146_1, hk]; rw [hsr_142_0]; rw [hsr_137_0]; rw [zTr_app (by first | omega | (simp; omega) | (show _ = _ + 1; omega))]; rw [zTr_app (by first | omega | (simp; omega) | (show _ = _ + 1; omega))]; rw [zTr_app (by first | omega | (simp; omega) | (show _ = _ + 1; omega))]; (try rw [hk]); first | done | rfl)), (show q_154.toInt = nra.toInt + ((zBr (gki p_.toNatClampNeg).toInt).length : Nat) from by (have hk : (gki p_.toNatClampNeg).toInt = 6 := (by rw [← ex_1]; first | done | decide); have zp : ((zBp 6).length : Int) = 3 := rfl; have zf : ((zBf 6).length : Int) = 5 := rfl; have zr : ((zBr 6).length : Int) = 10 := rfl; have q0 := hsr_146_2; rw [hk] at q0; have q1 := hsr_152_2; rw [hk] at q1; rw [hk]; omega)), trivial⟩, zRet ht hP hD [0, 1, 2, 3] (by decide) rfl⟩, hS.F ht⟩) hS.2.2 dX8_resting_98
        · exact absurd c_141 (by decide)
set_option maxHeartbeats 4000000 in
set_option maxRecDepth 100000 in
theorem c_F_M_act (l : Launch) (D : va_G) (cI cJ cZ cP cS : ClassId) (po : zPool) (m0 mrf mki mpa mta mla msl mco mhe mso msi msh mce mca mwo mnu mte mwa mke mma mth mtr : Nat) (npu nte nat_ nde nto nse nhu nga nsd nfa nba npl nen nnu nwr nra nik : Int32) (gki gpa gtr : Nat → Int32) (p_ mo x : Int32) (hy0 : 0 ≤ npu.toInt) (hy1 : npu.toInt ≤ 8) (hy2 : 4 ≤ nte.toInt) (hy3 : nte.toInt ≤ 40) (hy4 : 0 ≤ nat_.toInt) (hy5 : nat_.toInt ≤ 40) (hy6 : 0 ≤ nde.toInt) (hy7 : nde.toInt ≤ 24) (hy8 : 0 ≤ nhu.toInt) (hy9 : nhu.toInt ≤ 9) (hy10 : 0 ≤ nra.toInt) (hy11 : nra.toInt ≤ 2000) (hy12 : 0 ≤ nik.toInt) (hy13 : nik.toInt ≤ 1) (hp_gki : zRg gki (0) 6) (hp_gpa : zRg gpa (0) 9) (hpz : Nat) : Met l yX8_act wsX8_act ({ frames := 4, cells := 0, slots := 0, locals := 95 }) (va_Pc [.ref m0, .int p_, .int mo, .int x] (zW D (zKT cI cJ cZ cP cS) po [(zMO m0 npu nte nat_ nde nto nse nhu nga nsd nfa mrf mki mpa mta mla msl mco mhe mso msi msh mce mca mwo mnu mte nba npl nen nnu nwr mwa mke mma mth mtr nra nik), (mki, .inl (cI, 8, .inl gki)), (mpa, .inl (cI, 8, .inl gpa)), (mtr, .inl (cI, 20, .inl gtr))] hpz)) (va_Qi (fun (r : Int32) (u : (Int32) × (Nat → Int32)) => (0 ≤ u.1.toInt ∧ u.1.toInt ≤ 2000) ∧ (((p_.toInt < 0 ∨ npu.toInt ≤ p_.toInt ∨ mo.toInt < 0 ∨ 2 < mo.toInt) ∧ r = 0 ∧ u.1.toInt = 0) ∨ ((0 ≤ p_.toInt ∧ p_.toInt < npu.toInt) ∧ (0 ≤ mo.toInt ∧ mo.toInt ≤ 2) ∧ r = zQa (gki p_.toNatClampNeg).toInt mo.toInt x p_ (gpa p_.toNatClampNeg) ∧ u.1.toInt = ((zBa (gki p_.toNatClampNeg).toInt mo.toInt).length : Nat) ∧ u.2 = zTr gtr 0 (zBa (gki p_.toNatClampNeg).toInt mo.toInt))) ∧ (True)) (zB D [(zMO m0 npu nte nat_ nde nto nse nhu nga nsd nfa mrf mki mpa mta mla msl mco mhe mso msi msh mce mca mwo mnu mte nba npl nen nnu nwr mwa mke mma mth mtr nra nik), (mki, .inl (cI, 8, .inl gki)), (mpa, .inl (cI, 8, .inl gpa)), (mtr, .inl (cI, 20, .inl gtr))] hpz (fun (u : (Int32) × (Nat → Int32)) => [(zMO m0 npu nte nat_ nde nto nse nhu nga nsd nfa mrf mki mpa mta mla msl mco mhe mso msi msh mce mca mwo mnu mte nba npl nen nnu nwr mwa mke mma mth mtr u.1 nik), (mki, .inl (cI, 8, .inl gki)), (mpa, .inl (cI, 8, .inl gpa)), (mtr, .inl (cI, 20, .inl u.2))])) (va_A [(zMO m0 npu nte nat_ nde nto nse nhu nga nsd nfa mrf mki mpa mta mla msl mco mhe mso msi msh mce mca mwo mnu mte nba npl nen nnu nwr mwa mke mma mth mtr nra nik), (mki, .inl (cI, 8, .inl gki)), (mpa, .inl (cI, 8, .inl gpa)), (mtr, .inl (cI, 20, .inl gtr))] hpz)) 0 0 (va_A [(zMO m0 npu nte nat_ nde nto nse nhu nga nsd nfa mrf mki mpa mta mla msl mco mhe mso msi msh mce mca mwo mnu mte nba npl nen nnu nwr mwa mke mma mth mtr nra nik), (mki, .inl (cI, 8, .inl gki)), (mpa, .inl (cI, 8, .inl gpa)), (mtr, .inl (cI, 20, .inl gtr))] hpz) := by
  refine Met.ofW (cc := cX8_act) (maxL := 4) (ret := (some .int)) (by decide) rfl ?_
  intro p e s m args below meth c s₁ B hml hv
  obtain ⟨rfl, hsz, hP, hK, hD0, hN, hZ⟩ := hv
  have hx := B.exec
  have hb := B.bytes
  have hr := B.returns
  have hts := atoms_spec (ws := wsX8_act) B.pre
  have hown : s.vm.findClass RX8 = some m.cls := findClass_of_methodNamed B.named
  have hlocks := B.notSynchronized
  subst hsz
  have hD := hD0.self (sz := s.heap.size)
  have hA := zA_of hD
  have hl := lv_entry ([.ref m0, .int p_, .int mo, .int x]) (n := 4) (Nat.le_of_ble_eq_true rfl)
  rw [lg_entry_eq]
  generalize (lg_sl ([.ref m0, .int p_, .int mo, .int x]) ++ List.replicate (4 - (lg_sl ([.ref m0, .int p_, .int mo, .int x])).length) Slot.unset).toArray = ls at hl ⊢
  replace hl : lv_has ls 4 [(0, .ref m0), (1, .int p_), (2, .int mo), (3, .int x)] := hl
  refine zw_begin hP hD (fun H locs hP1 hS => ?_)
  clear hP
  have hP := hP1
  clear hP1
  refine lv_aload_n hx hb dX8_act_0 rfl (lv_at hl 0 rfl) ?_
  refine lv_iconst (v := 0) hx hb dX8_act_1 (by decide) ?_
  refine va_put (D := D) (ci := 8) (v := .int 0) (ty := .int) (C := RX8) (T := TX8) (N := 38) hx hb hts hi_X8_act_8 tyX8 tyX8_ok nmX8 hown hK hP hD hS 0 rfl rfl 36 (by decide) (hts (.fieldLink RX8 285 "TheLiningsInItModel" "ran" "I") (List.mem_of_getElem? (i := 1) rfl)) (fun _ h9 => h9) rfl (tyX8_ok 36 (Nat.le_of_ble_eq_true rfl)) rfl rfl (Nat.le_of_ble_eq_true rfl) dX8_act_2 (fun H locs hP hD hS => ?_)
  have h9R := zRe (ws' := [(zMO m0 npu nte nat_ nde nto nse nhu nga nsd nfa mrf mki mpa mta mla msl mco mhe mso msi msh mce mca mwo mnu mte nba npl nen nnu nwr mwa mke mma mth mtr 0 nik), (mki, .inl (cI, 8, .inl gki)), (mpa, .inl (cI, 8, .inl gpa)), (mtr, .inl (cI, 20, .inl gtr))]) hP hD rfl
  clear hP hD
  obtain ⟨hP, hD⟩ := h9R
  refine lv_aload_n hx hb dX8_act_5 rfl (lv_at hl 0 rfl) ?_
  refine lv_iload_n hx hb dX8_act_6 rfl (lv_at hl 1 rfl) ?_
  have kc0 : (0 : Int32).toInt = 0 := by decide
  refine zc_V (As := [.int p_]) (rest := []) ⟨hx, hb, hml, hown, hts⟩ (c_M_isPull l D cI cJ cZ cP cS po m0 mrf mki mpa mta mla msl mco mhe mso msi msh mce mca mwo mnu mte mwa mke mma mth mtr (npu) (nte) (nat_) (nde) (nto) (nse) (nhu) (nga) (nsd) (nfa) (nba) (npl) (nen) (nnu) (nwr) (0) (nik) (p_) hy0 hy1 hy2 hy3 hy4 hy5 hy6 hy7 hy8 hy9 (by omega) (by omega) hy12 hy13) (cwV 1 hts gX8_act_X8_isPull rfl rfl rfl ⟨rfl, dh_X8_isPull⟩ ⟨Nat.le_of_ble_eq_true rfl, Nat.le_of_ble_eq_true rfl⟩) hK hN (hZ.kept hS) hP (hP.sub [0] rfl) (va_recv (q := (RX8, TX8, 38)) hK hP (ci := 8) (q0 := 0) rfl rfl) rfl hl.1 rfl (Nat.le_of_ble_eq_true rfl) dX8_act_7 ⟨Nat.le_of_ble_eq_true rfl, Nat.le_of_ble_eq_true rfl⟩ (fun r_1 hr_1 => ?_)
  rcases hr_1 with ⟨rfl, g_2⟩ | ⟨rfl, g_3, g_4⟩ | ⟨rfl, g_5, g_6⟩
  · refine lv_if_eq (tgt := 22) hx hb dX8_act_10 (by decide) (fun c_7 => ?_) (fun c_7 => ?_)
    · refine lv_iconst (v := 0) hx hb dX8_act_22 (by decide) ?_
      exact W.iret (v := 0) hx hb hr (fun t ht hW => ⟨⟨0, (0, gtr), rfl, ⟨(show 0 ≤ (0 : Int32).toInt ∧ (0 : Int32).toInt ≤ 2000 from by decide), (show ((p_.toInt < 0 ∨ npu.toInt ≤ p_.toInt ∨ mo.toInt < 0 ∨ 2 < mo.toInt) ∧ (0 : Int32) = 0 ∧ (0 : Int32).toInt = 0) ∨ ((0 ≤ p_.toInt ∧ p_.toInt < npu.toInt) ∧ (0 ≤ mo.toInt ∧ mo.toInt ≤ 2) ∧ (0 : Int32) = zQa (gki p_.toNatClampNeg).toInt mo.toInt x p_ (gpa p_.toNatClampNeg) ∧ (0 : Int32).toInt = ((zBa (gki p_.toNatClampNeg).toInt mo.toInt).length : Nat) ∧ gtr = zTr gtr 0 (zBa (gki p_.toNatClampNeg).toInt mo.toInt)) from by (exact Or.inl ⟨by omega, rfl, by decide⟩)), trivial⟩, zRet ht hP hD [0, 1, 2, 3] (by decide) rfl⟩, hS.F ht⟩) hS.2.2 dX8_act_23
    · exact absurd c_7 (by decide)
  · refine lv_if_eq (tgt := 22) hx hb dX8_act_10 (by decide) (fun c_8 => ?_) (fun c_8 => ?_)
    · refine lv_iconst (v := 0) hx hb dX8_act_22 (by decide) ?_
      exact W.iret (v := 0) hx hb hr (fun t ht hW => ⟨⟨0, (0, gtr), rfl, ⟨(show 0 ≤ (0 : Int32).toInt ∧ (0 : Int32).toInt ≤ 2000 from by decide), (show ((p_.toInt < 0 ∨ npu.toInt ≤ p_.toInt ∨ mo.toInt < 0 ∨ 2 < mo.toInt) ∧ (0 : Int32) = 0 ∧ (0 : Int32).toInt = 0) ∨ ((0 ≤ p_.toInt ∧ p_.toInt < npu.toInt) ∧ (0 ≤ mo.toInt ∧ mo.toInt ≤ 2) ∧ (0 : Int32) = zQa (gki p_.toNatClampNeg).toInt mo.toInt x p_ (gpa p_.toNatClampNeg) ∧ (0 : Int32).toInt = ((zBa (gki p_.toNatClampNeg).toInt mo.toInt).length : Nat) ∧ gtr = zTr gtr 0 (zBa (gki p_.toNatClampNeg).toInt mo.toInt)) from by (exact Or.inl ⟨by omega, rfl, by decide⟩)), trivial⟩, zRet ht hP hD [0, 1, 2, 3] (by decide) rfl⟩, hS.F ht⟩) hS.2.2 dX8_act_23
    · exact absurd c_8 (by decide)
  · refine lv_if_eq (tgt := 22) hx hb dX8_act_10 (by decide) (fun c_9 => ?_) (fun c_9 => ?_)
    · exact absurd c_9 (by decide)
    · refine lv_iload_n hx hb dX8_act_13 rfl (lv_at hl 2 rfl) ?_
      refine lv_if_lt (tgt := 22) hx hb dX8_act_14 (by decide) (fun c_10 => ?_) (fun c_10 => ?_)
      · have fc_10 : mo.toInt < 0 := zf_lt c_10 rfl (by decide)
        refine lv_iconst (v := 0) hx hb dX8_act_22 (by decide) ?_
        exact W.iret (v := 0) hx hb hr (fun t ht hW => ⟨⟨0, (0, gtr), rfl, ⟨(show 0 ≤ (0 : Int32).toInt ∧ (0 : Int32).toInt ≤ 2000 from by decide), (show ((p_.toInt < 0 ∨ npu.toInt ≤ p_.toInt ∨ mo.toInt < 0 ∨ 2 < mo.toInt) ∧ (0 : Int32) = 0 ∧ (0 : Int32).toInt = 0) ∨ ((0 ≤ p_.toInt ∧ p_.toInt < npu.toInt) ∧ (0 ≤ mo.toInt ∧ mo.toInt ≤ 2) ∧ (0 : Int32) = zQa (gki p_.toNatClampNeg).toInt mo.toInt x p_ (gpa p_.toNatClampNeg) ∧ (0 : Int32).toInt = ((zBa (gki p_.toNatClampNeg).toInt mo.toInt).length : Nat) ∧ gtr = zTr gtr 0 (zBa (gki p_.toNatClampNeg).toInt mo.toInt)) from by (exact Or.inl ⟨by omega, rfl, by decide⟩)), trivial⟩, zRet ht hP hD [0, 1, 2, 3] (by decide) rfl⟩, hS.F ht⟩) hS.2.2 dX8_act_23
      · have fc_10 : 0 ≤ mo.toInt := zf_nlt c_10 rfl (by decide)
        refine lv_iload_n hx hb dX8_act_17 rfl (lv_at hl 2 rfl) ?_
        refine lv_iconst (v := 2) hx hb dX8_act_18 (by decide) ?_
        refine lv_icmp_le (tgt := 24) hx hb dX8_act_19 (by decide) (fun c_11 => ?_) (fun c_11 => ?_)
        · have fc_11 : mo.toInt ≤ 2 := zf_le c_11 rfl (by decide)
          refine lv_iload_n hx hb dX8_act_24 rfl (lv_at hl 2 rfl) ?_
          refine lv_if_ne (tgt := 37) hx hb dX8_act_25 (by decide) (fun c_12 => ?_) (fun c_12 => ?_)
          · have fc_12 : mo.toInt ≠ 0 := zf_ne c_12 rfl (by decide)
            refine lv_iload_n hx hb dX8_act_37 rfl (lv_at hl 2 rfl) ?_
            refine lv_iconst (v := 1) hx hb dX8_act_38 (by decide) ?_
            refine lv_icmp_ne (tgt := 51) hx hb dX8_act_39 (by decide) (fun c_13 => ?_) (fun c_13 => ?_)
            · have fc_13 : mo.toInt ≠ 1 := zf_ne c_13 rfl (by decide)
              refine lv_aload_n hx hb dX8_act_51 rfl (lv_at hl 0 rfl) ?_
              refine lv_iload_n hx hb dX8_act_52 rfl (lv_at hl 1 rfl) ?_
              refine lv_iload_n hx hb dX8_act_53 rfl (lv_at hl 3 rfl) ?_
              skip
              refine zw_V (As := [.int p_, .int x]) (rest := []) (wr := []) ⟨hx, hb, hml, hown, hts⟩ (c_F_M_resting l D cI cJ cZ cP cS po m0 mrf mki mpa mta mla msl mco mhe mso msi msh mce mca mwo mnu mte mwa mke mma mth mtr (npu) (nte) (nat_) (nde) (nto) (nse) (nhu) (nga) (nsd) (nfa) (nba) (npl) (nen) (nnu) (nwr) (0) (nik) gki gpa gtr (p_) (x) hy0 hy1 hy2 hy3 hy4 hy5 hy6 hy7 hy8 hy9 (by omega) (by omega) hy12 hy13 (by omega) (by omega) (by omega) (by omega) hp_gki hp_gpa H.size) (cwV 2 hts gX8_act_X8_resting rfl rfl rfl ⟨rfl, dh_X8_resting⟩ ⟨Nat.le_of_ble_eq_true rfl, Nat.le_of_ble_eq_true rfl⟩) hK hN (hZ.kept hS) hP hD hS hA [0, 1, 2, 3] [] rfl rfl (by decide) (by decide) (by decide) (va_recv (q := (RX8, TX8, 38)) hK hP (ci := 8) (q0 := 0) rfl rfl) rfl hl.1 rfl (Nat.le_of_ble_eq_true rfl) dX8_act_54 ⟨Nat.le_of_ble_eq_true rfl, Nat.le_of_ble_eq_true rfl⟩ (fun r_14 u_15 H locs hr_14 hP hD hS => ?_)
              obtain ⟨q_16, q_17⟩ := u_15
              try dsimp only at hr_14
              obtain ⟨hbq_16, hsr_14_0, hsr_14_1, hsr_14_2, hr_14⟩ := hr_14
              have h9R := zRe (ws' := [(zMO m0 npu nte nat_ nde nto nse nhu nga nsd nfa mrf mki mpa mta mla msl mco mhe mso msi msh mce mca mwo mnu mte nba npl nen nnu nwr mwa mke mma mth mtr q_16 nik), (mki, .inl (cI, 8, .inl gki)), (mpa, .inl (cI, 8, .inl gpa)), (mtr, .inl (cI, 20, .inl q_17))]) hP hD rfl
              clear hP hD
              obtain ⟨hP, hD⟩ := h9R
              exact W.iret (v := r_14) hx hb hr (fun t ht hW => ⟨⟨r_14, (q_16, q_17), rfl, ⟨(show 0 ≤ q_16.toInt ∧ q_16.toInt ≤ 2000 from hbq_16), (show ((p_.toInt < 0 ∨ npu.toInt ≤ p_.toInt ∨ mo.toInt < 0 ∨ 2 < mo.toInt) ∧ (r_14 : Int32) = 0 ∧ q_16.toInt = 0) ∨ ((0 ≤ p_.toInt ∧ p_.toInt < npu.toInt) ∧ (0 ≤ mo.toInt ∧ mo.toInt ≤ 2) ∧ (r_14 : Int32) = zQa (gki p_.toNatClampNeg).toInt mo.toInt x p_ (gpa p_.toNatClampNeg) ∧ q_16.toInt = ((zBa (gki p_.toNatClampNeg).toInt mo.toInt).length : Nat) ∧ q_17 = zTr gtr 0 (zBa (gki p_.toNatClampNeg).toInt mo.toInt)) from by (have hm : mo.toInt = 2 := (by omega); refine Or.inr ⟨by omega, by omega, ?_, ?_, ?_⟩; (rw [hm]; exact hsr_14_0); (rw [hm]; have z := hsr_14_2; rw [show (0 : Int32).toInt = 0 from by decide] at z; first | omega | (rw [Int.zero_add] at z; exact z)); (rw [hm]; have z := hsr_14_1; rw [show (0 : Int32).toInt = 0 from by decide] at z; exact z))), trivial⟩, zRet ht hP hD [0, 1, 2, 3] (by decide) rfl⟩, hS.F ht⟩) hS.2.2 dX8_act_57
            · have fc_13 : mo.toInt = 1 := zf_eq c_13 rfl (by decide)
              refine lv_aload_n hx hb dX8_act_42 rfl (lv_at hl 0 rfl) ?_
              refine lv_iload_n hx hb dX8_act_43 rfl (lv_at hl 1 rfl) ?_
              refine lv_iload_n hx hb dX8_act_44 rfl (lv_at hl 3 rfl) ?_
              skip
              refine zw_V (As := [.int p_, .int x]) (rest := []) (wr := []) ⟨hx, hb, hml, hown, hts⟩ (c_F_M_freeing l D cI cJ cZ cP cS po m0 mrf mki mpa mta mla msl mco mhe mso msi msh mce mca mwo mnu mte mwa mke mma mth mtr (npu) (nte) (nat_) (nde) (nto) (nse) (nhu) (nga) (nsd) (nfa) (nba) (npl) (nen) (nnu) (nwr) (0) (nik) gki gpa gtr (p_) (x) hy0 hy1 hy2 hy3 hy4 hy5 hy6 hy7 hy8 hy9 (by omega) (by omega) hy12 hy13 (by omega) (by omega) (by omega) (by omega) hp_gki hp_gpa H.size) (cwV 2 hts gX8_act_X8_freeing rfl rfl rfl ⟨rfl, dh_X8_freeing⟩ ⟨Nat.le_of_ble_eq_true rfl, Nat.le_of_ble_eq_true rfl⟩) hK hN (hZ.kept hS) hP hD hS hA [0, 1, 2, 3] [] rfl rfl (by decide) (by decide) (by decide) (va_recv (q := (RX8, TX8, 38)) hK hP (ci := 8) (q0 := 0) rfl rfl) rfl hl.1 rfl (Nat.le_of_ble_eq_true rfl) dX8_act_45 ⟨Nat.le_of_ble_eq_true rfl, Nat.le_of_ble_eq_true rfl⟩ (fun r_18 u_19 H locs hr_18 hP hD hS => ?_)
              obtain ⟨q_20, q_21⟩ := u_19
              try dsimp only at hr_18
              obtain ⟨hbq_20, hsr_18_0, hsr_18_1, hsr_18_2, hr_18⟩ := hr_18
              have h9R := zRe (ws' := [(zMO m0 npu nte nat_ nde nto nse nhu nga nsd nfa mrf mki mpa mta mla msl mco mhe mso msi msh mce mca mwo mnu mte nba npl nen nnu nwr mwa mke mma mth mtr q_20 nik), (mki, .inl (cI, 8, .inl gki)), (mpa, .inl (cI, 8, .inl gpa)), (mtr, .inl (cI, 20, .inl q_21))]) hP hD rfl
              clear hP hD
              obtain ⟨hP, hD⟩ := h9R
              refine lv_goto (tgt := 57) hx hb dX8_act_48 (by decide) ?_
              exact W.iret (v := r_18) hx hb hr (fun t ht hW => ⟨⟨r_18, (q_20, q_21), rfl, ⟨(show 0 ≤ q_20.toInt ∧ q_20.toInt ≤ 2000 from hbq_20), (show ((p_.toInt < 0 ∨ npu.toInt ≤ p_.toInt ∨ mo.toInt < 0 ∨ 2 < mo.toInt) ∧ (r_18 : Int32) = 0 ∧ q_20.toInt = 0) ∨ ((0 ≤ p_.toInt ∧ p_.toInt < npu.toInt) ∧ (0 ≤ mo.toInt ∧ mo.toInt ≤ 2) ∧ (r_18 : Int32) = zQa (gki p_.toNatClampNeg).toInt mo.toInt x p_ (gpa p_.toNatClampNeg) ∧ q_20.toInt = ((zBa (gki p_.toNatClampNeg).toInt mo.toInt).length : Nat) ∧ q_21 = zTr gtr 0 (zBa (gki p_.toNatClampNeg).toInt mo.toInt)) from by (have hm : mo.toInt = 1 := (by omega); refine Or.inr ⟨by omega, by omega, ?_, ?_, ?_⟩; (rw [hm]; exact hsr_18_0); (rw [hm]; have z := hsr_18_2; rw [show (0 : Int32).toInt = 0 from by decide] at z; first | omega | (rw [Int.zero_add] at z; exact z)); (rw [hm]; have z := hsr_18_1; rw [show (0 : Int32).toInt = 0 from by decide] at z; exact z))), trivial⟩, zRet ht hP hD [0, 1, 2, 3] (by decide) rfl⟩, hS.F ht⟩) hS.2.2 dX8_act_57
          · have fc_12 : mo.toInt = 0 := zf_eq c_12 rfl (by decide)
            refine lv_aload_n hx hb dX8_act_28 rfl (lv_at hl 0 rfl) ?_
            refine lv_iload_n hx hb dX8_act_29 rfl (lv_at hl 1 rfl) ?_
            refine lv_iload_n hx hb dX8_act_30 rfl (lv_at hl 3 rfl) ?_
            skip
            refine zw_V (As := [.int p_, .int x]) (rest := []) (wr := []) ⟨hx, hb, hml, hown, hts⟩ (c_F_M_pulling l D cI cJ cZ cP cS po m0 mrf mki mpa mta mla msl mco mhe mso msi msh mce mca mwo mnu mte mwa mke mma mth mtr (npu) (nte) (nat_) (nde) (nto) (nse) (nhu) (nga) (nsd) (nfa) (nba) (npl) (nen) (nnu) (nwr) (0) (nik) gki gpa gtr (p_) (x) hy0 hy1 hy2 hy3 hy4 hy5 hy6 hy7 hy8 hy9 (by omega) (by omega) hy12 hy13 (by omega) (by omega) (by omega) (by omega) hp_gki hp_gpa H.size) (cwV 2 hts gX8_act_X8_pulling rfl rfl rfl ⟨rfl, dh_X8_pulling⟩ ⟨Nat.le_of_ble_eq_true rfl, Nat.le_of_ble_eq_true rfl⟩) hK hN (hZ.kept hS) hP hD hS hA [0, 1, 2, 3] [] rfl rfl (by decide) (by decide) (by decide) (va_recv (q := (RX8, TX8, 38)) hK hP (ci := 8) (q0 := 0) rfl rfl) rfl hl.1 rfl (Nat.le_of_ble_eq_true rfl) dX8_act_31 ⟨Nat.le_of_ble_eq_true rfl, Nat.le_of_ble_eq_true rfl⟩ (fun r_22 u_23 H locs hr_22 hP hD hS => ?_)
            obtain ⟨q_24, q_25⟩ := u_23
            try dsimp only at hr_22
            obtain ⟨hbq_24, hsr_22_0, hsr_22_1, hsr_22_2, hr_22⟩ := hr_22
            have h9R := zRe (ws' := [(zMO m0 npu nte nat_ nde nto nse nhu nga nsd nfa mrf mki mpa mta mla msl mco mhe mso msi msh mce mca mwo mnu mte nba npl nen nnu nwr mwa mke mma mth mtr q_24 nik), (mki, .inl (cI, 8, .inl gki)), (mpa, .inl (cI, 8, .inl gpa)), (mtr, .inl (cI, 20, .inl q_25))]) hP hD rfl
            clear hP hD
            obtain ⟨hP, hD⟩ := h9R
            refine lv_goto (tgt := 57) hx hb dX8_act_34 (by decide) ?_
            exact W.iret (v := r_22) hx hb hr (fun t ht hW => ⟨⟨r_22, (q_24, q_25), rfl, ⟨(show 0 ≤ q_24.toInt ∧ q_24.toInt ≤ 2000 from hbq_24), (show ((p_.toInt < 0 ∨ npu.toInt ≤ p_.toInt ∨ mo.toInt < 0 ∨ 2 < mo.toInt) ∧ (r_22 : Int32) = 0 ∧ q_24.toInt = 0) ∨ ((0 ≤ p_.toInt ∧ p_.toInt < npu.toInt) ∧ (0 ≤ mo.toInt ∧ mo.toInt ≤ 2) ∧ (r_22 : Int32) = zQa (gki p_.toNatClampNeg).toInt mo.toInt x p_ (gpa p_.toNatClampNeg) ∧ q_24.toInt = ((zBa (gki p_.toNatClampNeg).toInt mo.toInt).length : Nat) ∧ q_25 = zTr gtr 0 (zBa (gki p_.toNatClampNeg).toInt mo.toInt)) from by (have hm : mo.toInt = 0 := (by omega); refine Or.inr ⟨by omega, by omega, ?_, ?_, ?_⟩; (rw [hm]; exact hsr_22_0); (rw [hm]; have z := hsr_22_2; rw [show (0 : Int32).toInt = 0 from by decide] at z; first | omega | (rw [Int.zero_add] at z; exact z)); (rw [hm]; have z := hsr_22_1; rw [show (0 : Int32).toInt = 0 from by decide] at z; exact z))), trivial⟩, zRet ht hP hD [0, 1, 2, 3] (by decide) rfl⟩, hS.F ht⟩) hS.2.2 dX8_act_57
        · have fc_11 : 2 < mo.toInt := zf_nle c_11 rfl (by decide)
          refine lv_iconst (v := 0) hx hb dX8_act_22 (by decide) ?_
          exact W.iret (v := 0) hx hb hr (fun t ht hW => ⟨⟨0, (0, gtr), rfl, ⟨(show 0 ≤ (0 : Int32).toInt ∧ (0 : Int32).toInt ≤ 2000 from by decide), (show ((p_.toInt < 0 ∨ npu.toInt ≤ p_.toInt ∨ mo.toInt < 0 ∨ 2 < mo.toInt) ∧ (0 : Int32) = 0 ∧ (0 : Int32).toInt = 0) ∨ ((0 ≤ p_.toInt ∧ p_.toInt < npu.toInt) ∧ (0 ≤ mo.toInt ∧ mo.toInt ≤ 2) ∧ (0 : Int32) = zQa (gki p_.toNatClampNeg).toInt mo.toInt x p_ (gpa p_.toNatClampNeg) ∧ (0 : Int32).toInt = ((zBa (gki p_.toNatClampNeg).toInt mo.toInt).length : Nat) ∧ gtr = zTr gtr 0 (zBa (gki p_.toNatClampNeg).toInt mo.toInt)) from by (exact Or.inl ⟨by omega, rfl, by decide⟩)), trivial⟩, zRet ht hP hD [0, 1, 2, 3] (by decide) rfl⟩, hS.F ht⟩) hS.2.2 dX8_act_23
set_option maxHeartbeats 4000000 in
set_option maxRecDepth 100000 in
theorem c_F_M_trace (l : Launch) (D : va_G) (cI cJ cZ cP cS : ClassId) (po : zPool) (m0 mrf mki mpa mta mla msl mco mhe mso msi msh mce mca mwo mnu mte mwa mke mma mth mtr : Nat) (npu nte nat_ nde nto nse nhu nga nsd nfa nba npl nen nnu nwr nra nik : Int32) (gtr : Nat → Int32) (i : Int32) (hy0 : 0 ≤ npu.toInt) (hy1 : npu.toInt ≤ 8) (hy2 : 4 ≤ nte.toInt) (hy3 : nte.toInt ≤ 40) (hy4 : 0 ≤ nat_.toInt) (hy5 : nat_.toInt ≤ 40) (hy6 : 0 ≤ nde.toInt) (hy7 : nde.toInt ≤ 24) (hy8 : 0 ≤ nhu.toInt) (hy9 : nhu.toInt ≤ 9) (hy10 : 0 ≤ nra.toInt) (hy11 : nra.toInt ≤ 2000) (hy12 : 0 ≤ nik.toInt) (hy13 : nik.toInt ≤ 1) : Met l yX8_trace wsX8_trace ({ frames := 0, cells := 0, slots := 0, locals := 0 }) (va_Pc [.ref m0, .int i] (zR D (zKT cI cJ cZ cP cS) po [(zMO m0 npu nte nat_ nde nto nse nhu nga nsd nfa mrf mki mpa mta mla msl mco mhe mso msi msh mce mca mwo mnu mte nba npl nen nnu nwr mwa mke mma mth mtr nra nik), (mtr, .inl (cI, 20, .inl gtr))])) (vp_Si (fun r => (((0 ≤ i.toInt ∧ i.toInt < 20 ∧ i.toInt < nra.toInt) ∧ r = gtr i.toNatClampNeg) ∨ (¬ (0 ≤ i.toInt ∧ i.toInt < 20 ∧ i.toInt < nra.toInt) ∧ r = -1)))) 0 0 (fun _ => False) := by
  refine Met.ofW (cc := cX8_trace) (maxL := 2) (ret := (some .int)) (by decide) rfl ?_
  intro p e s m args below meth c s₁ B hml hv
  obtain ⟨rfl, hP, hK, hN, hZ⟩ := hv
  have hx := B.exec
  have hb := B.bytes
  have hr := B.returns
  have hts := atoms_spec (ws := wsX8_trace) B.pre
  have hown : s.vm.findClass RX8 = some m.cls := findClass_of_methodNamed B.named
  have hlocks := B.notSynchronized
  have hl := lv_entry ([.ref m0, .int i]) (n := 2) (Nat.le_of_ble_eq_true rfl)
  rw [lg_entry_eq]
  generalize (lg_sl ([.ref m0, .int i]) ++ List.replicate (2 - (lg_sl ([.ref m0, .int i])).length) Slot.unset).toArray = ls at hl ⊢
  replace hl : lv_has ls 2 [(0, .ref m0), (1, .int i)] := hl
  refine lv_iload_n hx hb dX8_trace_0 rfl (lv_at hl 1 rfl) ?_
  refine lv_if_lt (tgt := 27) hx hb dX8_trace_1 (by decide) (fun c_1 => ?_) (fun c_1 => ?_)
  · have fc_1 : i.toInt < 0 := zf_lt c_1 rfl (by decide)
    refine lv_iconst (v := (-1)) hx hb dX8_trace_27 (by decide) ?_
    exact W.iret (v := (-1)) hx hb hr (fun t ht hW => ⟨(-1), rfl, (show ((0 ≤ i.toInt ∧ i.toInt < 20 ∧ i.toInt < nra.toInt) ∧ ((-1) : Int32) = gtr i.toNatClampNeg) ∨ (¬ (0 ≤ i.toInt ∧ i.toInt < 20 ∧ i.toInt < nra.toInt) ∧ ((-1) : Int32) = -1) from by (exact Or.inr ⟨by omega, rfl⟩)), ht⟩) (fun q hq => by cases hq) dX8_trace_28
  · have fc_1 : 0 ≤ i.toInt := zf_nlt c_1 rfl (by decide)
    refine lv_iload_n hx hb dX8_trace_4 rfl (lv_at hl 1 rfl) ?_
    refine lv_bipush (v := 20) hx hb dX8_trace_5 (by decide) ?_
    refine lv_icmp_ge (tgt := 27) hx hb dX8_trace_7 (by decide) (fun c_2 => ?_) (fun c_2 => ?_)
    · have fc_2 : 20 ≤ i.toInt := zf_le c_2 (by decide) rfl
      refine lv_iconst (v := (-1)) hx hb dX8_trace_27 (by decide) ?_
      exact W.iret (v := (-1)) hx hb hr (fun t ht hW => ⟨(-1), rfl, (show ((0 ≤ i.toInt ∧ i.toInt < 20 ∧ i.toInt < nra.toInt) ∧ ((-1) : Int32) = gtr i.toNatClampNeg) ∨ (¬ (0 ≤ i.toInt ∧ i.toInt < 20 ∧ i.toInt < nra.toInt) ∧ ((-1) : Int32) = -1) from by (exact Or.inr ⟨by omega, rfl⟩)), ht⟩) (fun q hq => by cases hq) dX8_trace_28
    · have fc_2 : i.toInt < 20 := zf_nle c_2 (by decide) rfl
      refine lv_iload_n hx hb dX8_trace_10 rfl (lv_at hl 1 rfl) ?_
      refine lv_aload_n hx hb dX8_trace_11 rfl (lv_at hl 0 rfl) ?_
      refine va_get (D := D) (ci := 8) (v := .int nra) (C := RX8) (T := TX8) (N := 38) hx hb hts hi_X8_trace_8 hown hK hP 0 rfl rfl 36 (by decide) (hts (.fieldLink RX8 285 "TheLiningsInItModel" "ran" "I") (List.mem_of_getElem? (i := 1) rfl)) (fun _ h9 => h9) rfl dX8_trace_12 ?_
      refine lv_icmp_ge (tgt := 27) hx hb dX8_trace_15 (by decide) (fun c_3 => ?_) (fun c_3 => ?_)
      · have fc_3 : nra.toInt ≤ i.toInt := zf_le c_3 rfl rfl
        refine lv_iconst (v := (-1)) hx hb dX8_trace_27 (by decide) ?_
        exact W.iret (v := (-1)) hx hb hr (fun t ht hW => ⟨(-1), rfl, (show ((0 ≤ i.toInt ∧ i.toInt < 20 ∧ i.toInt < nra.toInt) ∧ ((-1) : Int32) = gtr i.toNatClampNeg) ∨ (¬ (0 ≤ i.toInt ∧ i.toInt < 20 ∧ i.toInt < nra.toInt) ∧ ((-1) : Int32) = -1) from by (exact Or.inr ⟨by omega, rfl⟩)), ht⟩) (fun q hq => by cases hq) dX8_trace_28
      · have fc_3 : i.toInt < nra.toInt := zf_nle c_3 rfl rfl
        refine lv_aload_n hx hb dX8_trace_18 rfl (lv_at hl 0 rfl) ?_
        refine va_get (D := D) (ci := 8) (v := .ref mtr) (C := RX8) (T := TX8) (N := 38) hx hb hts hi_X8_trace_8 hown hK hP 0 rfl rfl 35 (by decide) (hts (.fieldLink RX8 87 "TheLiningsInItModel" "trace" "[I") (List.mem_of_getElem? (i := 2) rfl)) (fun _ h9 => h9) rfl dX8_trace_19 ?_
        refine lv_iload_n hx hb dX8_trace_22 rfl (lv_at hl 1 rfl) ?_
        refine va_iald hx hb hK hP 1 0 rfl rfl (zf_in (by omega) (by omega)) dX8_trace_23 ?_
        refine lv_topi (fun x_4 ex_4 => ?_)
        refine lv_goto (tgt := 28) hx hb dX8_trace_24 (by decide) ?_
        exact W.iret (v := x_4) hx hb hr (fun t ht hW => ⟨x_4, rfl, (show ((0 ≤ i.toInt ∧ i.toInt < 20 ∧ i.toInt < nra.toInt) ∧ (x_4 : Int32) = gtr i.toNatClampNeg) ∨ (¬ (0 ≤ i.toInt ∧ i.toInt < 20 ∧ i.toInt < nra.toInt) ∧ (x_4 : Int32) = -1) from by (exact Or.inl ⟨by omega, ex_4⟩)), ht⟩) (fun q hq => by cases hq) dX8_trace_28

