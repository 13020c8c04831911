set_option maxHeartbeats 4000000 in
set_option maxRecDepth 100000 in
theorem c_F_M_draw_6 (l : Launch) (D : va_G) (cI cJ cZ cP cS : ClassId) (po : zPool) (m0 mrf mki mpa mta mla msl mco mhe mso msi msh mce mca mwo mnu mte mwa mke mma mth mtr : Nat) (npu nte nat_ nde nto nse nhu nga nsd nfa nba npl nen nnu nwr nra nik : Int32) (hy0 : 0 ≤ npu.toInt) (hy1 : npu.toInt ≤ 8) (hy2 : 4 ≤ nte.toInt) (hy3 : nte.toInt ≤ 40) (hy4 : 0 ≤ nat_.toInt) (hy5 : nat_.toInt ≤ 40) (hy6 : 0 ≤ nde.toInt) (hy7 : nde.toInt ≤ 24) (hy8 : 0 ≤ nhu.toInt) (hy9 : nhu.toInt ≤ 9) (hy10 : 0 ≤ nra.toInt) (hy11 : nra.toInt ≤ 2000) (hy12 : 0 ≤ nik.toInt) (hy13 : nik.toInt ≤ 1) (hpz : Nat) : Met l yX8_draw wsX8_draw ({ frames := 0, cells := 0, slots := 0, locals := 0 }) (va_Pc [.ref m0, .int 6] (zW D (zKT cI cJ cZ cP cS) po [(zMO m0 npu nte nat_ nde nto nse nhu nga nsd nfa mrf mki mpa mta mla msl mco mhe mso msi msh mce mca mwo mnu mte nba npl nen nnu nwr mwa mke mma mth mtr nra nik)] hpz)) (va_Qi (fun (r : Int32) (nsd2 : (Int32)) => (nsd2 = zSd nsd) ∧ (r.toInt = zDr nsd 6) ∧ (0 ≤ r.toInt ∧ r.toInt ≤ 5)) (zB D [(zMO m0 npu nte nat_ nde nto nse nhu nga nsd nfa mrf mki mpa mta mla msl mco mhe mso msi msh mce mca mwo mnu mte nba npl nen nnu nwr mwa mke mma mth mtr nra nik)] hpz (fun (nsd2 : Int32) => [(zMO m0 npu nte nat_ nde nto nse nhu nga nsd2 nfa mrf mki mpa mta mla msl mco mhe mso msi msh mce mca mwo mnu mte nba npl nen nnu nwr mwa mke mma mth mtr nra nik)])) (va_A [(zMO m0 npu nte nat_ nde nto nse nhu nga nsd nfa mrf mki mpa mta mla msl mco mhe mso msi msh mce mca mwo mnu mte nba npl nen nnu nwr mwa mke mma mth mtr nra nik)] hpz)) 0 0 (va_A [(zMO m0 npu nte nat_ nde nto nse nhu nga nsd nfa mrf mki mpa mta mla msl mco mhe mso msi msh mce mca mwo mnu mte nba npl nen nnu nwr mwa mke mma mth mtr nra nik)] hpz) := by
  refine Met.ofW (cc := cX8_draw) (maxL := 2) (ret := (some .int)) (by decide) rfl ?_
  intro p e s m args below meth c s₁ B hml hv
  obtain ⟨rfl, hsz, hP, hK, hD0, hN, hZ⟩ := hv
  have hx := B.exec
  have hb := B.bytes
  have hr := B.returns
  have hts := atoms_spec (ws := wsX8_draw) B.pre
  have hown : s.vm.findClass RX8 = some m.cls := findClass_of_methodNamed B.named
  have hlocks := B.notSynchronized
  subst hsz
  have hD := hD0.self (sz := s.heap.size)
  have hA := zA_of hD
  have hl := lv_entry ([.ref m0, .int 6]) (n := 2) (Nat.le_of_ble_eq_true rfl)
  rw [lg_entry_eq]
  generalize (lg_sl ([.ref m0, .int 6]) ++ List.replicate (2 - (lg_sl ([.ref m0, .int 6])).length) Slot.unset).toArray = ls at hl ⊢
  replace hl : lv_has ls 2 [(0, .ref m0), (1, .int 6)] := hl
  refine zw_begin hP hD (fun H locs hP1 hS => ?_)
  clear hP
  have hP := hP1
  clear hP1
  refine lv_aload_n hx hb dX8_draw_0 rfl (lv_at hl 0 rfl) ?_
  refine lv_aload_n hx hb dX8_draw_1 rfl (lv_at hl 0 rfl) ?_
  refine va_get (D := D) (ci := 8) (v := .int nsd) (C := RX8) (T := TX8) (N := 38) hx hb hts hi_X8_draw_8 hown hK hP 0 rfl rfl 8 (by decide) (hts (.fieldLink RX8 19 "TheLiningsInItModel" "seed" "I") (List.mem_of_getElem? (i := 1) rfl)) (fun _ h9 => h9) rfl dX8_draw_2 ?_
  refine lv_ldcw (own := RX8) (v := 1103515245) hx hb hown (hts _ (List.mem_of_getElem? (i := 2) rfl)) dX8_draw_5 ?_
  refine lv_imul hx hb dX8_draw_8 ?_
  refine lv_topi (fun x_1 ex_1 => ?_)
  refine lv_sipush (v := 12345) hx hb dX8_draw_9 (by decide) ?_
  refine lv_iadd hx hb dX8_draw_12 ?_
  refine lv_topi (fun x_2 ex_2 => ?_)
  refine va_put (D := D) (ci := 8) (v := .int x_2) (ty := .int) (C := RX8) (T := TX8) (N := 38) hx hb hts hi_X8_draw_8 tyX8 tyX8_ok nmX8 hown hK hP hD hS 0 rfl rfl 8 (by decide) (hts (.fieldLink RX8 19 "TheLiningsInItModel" "seed" "I") (List.mem_of_getElem? (i := 1) rfl)) (fun _ h9 => h9) rfl (tyX8_ok 8 (Nat.le_of_ble_eq_true rfl)) rfl rfl (Nat.le_of_ble_eq_true rfl) dX8_draw_13 (fun H locs hP hD hS => ?_)
  have h9R := zRe (ws' := [(zMO m0 npu nte nat_ nde nto nse nhu nga x_2 nfa mrf mki mpa mta mla msl mco mhe mso msi msh mce mca mwo mnu mte nba npl nen nnu nwr mwa mke mma mth mtr nra nik)]) hP hD rfl
  clear hP hD
  obtain ⟨hP, hD⟩ := h9R
  refine lv_aload_n hx hb dX8_draw_16 rfl (lv_at hl 0 rfl) ?_
  refine va_get (D := D) (ci := 8) (v := .int x_2) (C := RX8) (T := TX8) (N := 38) hx hb hts hi_X8_draw_8 hown hK hP 0 rfl rfl 8 (by decide) (hts (.fieldLink RX8 19 "TheLiningsInItModel" "seed" "I") (List.mem_of_getElem? (i := 1) rfl)) (fun _ h9 => h9) rfl dX8_draw_17 ?_
  refine lv_bipush (v := 16) hx hb dX8_draw_20 (by decide) ?_
  refine lv_iushr hx hb dX8_draw_22 rfl ?_
  refine lv_topi (fun x_3 ex_3 => ?_)
  have bx_3 : 0 ≤ x_3.toInt ∧ x_3.toInt ≤ 65535 := by rw [ex_3]; exact zf_ushr
  refine lv_iload_n hx hb dX8_draw_23 rfl (lv_at hl 1 rfl) ?_
  refine lv_irem hx hb dX8_draw_24 (by decide) ?_
  refine lv_topi (fun x_4 ex_4 => ?_)
  have qx_4 : x_4.toInt = x_3.toInt - x_3.toInt / 6 * 6 := by rw [ex_4]; exact zf_rem rfl (by decide) (by omega) (by omega)
  exact W.iret (v := x_4) hx hb hr (fun t ht hW => ⟨⟨x_4, x_2, rfl, ⟨(show x_2 = zSd nsd from by (rw [zSd_eq, ex_2, ex_1])), (show (x_4 : Int32).toInt = zDr nsd 6 from by (have hsd : x_2 = zSd nsd := (by rw [zSd_eq, ex_2, ex_1]); rw [zDr_eq, qx_4, ex_3, hsd])), ⟨by omega, by omega⟩⟩, zRet ht hP hD [0] (by decide) rfl⟩, hS.F ht⟩) hS.2.2 dX8_draw_25
set_option maxHeartbeats 4000000 in
set_option maxRecDepth 100000 in
theorem c_F_M_draw_10 (l : Launch) (D : va_G) (cI cJ cZ cP cS : ClassId) (po : zPool) (m0 mrf mki mpa mta mla msl mco mhe mso msi msh mce mca mwo mnu mte mwa mke mma mth mtr : Nat) (npu nte nat_ nde nto nse nhu nga nsd nfa nba npl nen nnu nwr nra nik : Int32) (hy0 : 0 ≤ npu.toInt) (hy1 : npu.toInt ≤ 8) (hy2 : 4 ≤ nte.toInt) (hy3 : nte.toInt ≤ 40) (hy4 : 0 ≤ nat_.toInt) (hy5 : nat_.toInt ≤ 40) (hy6 : 0 ≤ nde.toInt) (hy7 : nde.toInt ≤ 24) (hy8 : 0 ≤ nhu.toInt) (hy9 : nhu.toInt ≤ 9) (hy10 : 0 ≤ nra.toInt) (hy11 : nra.toInt ≤ 2000) (hy12 : 0 ≤ nik.toInt) (hy13 : nik.toInt ≤ 1) (hpz : Nat) : Met l yX8_draw wsX8_draw ({ frames := 0, cells := 0, slots := 0, locals := 0 }) (va_Pc [.ref m0, .int 10] (zW D (zKT cI cJ cZ cP cS) po [(zMO m0 npu nte nat_ nde nto nse nhu nga nsd nfa mrf mki mpa mta mla msl mco mhe mso msi msh mce mca mwo mnu mte nba npl nen nnu nwr mwa mke mma mth mtr nra nik)] hpz)) (va_Qi (fun (r : Int32) (nsd2 : (Int32)) => (nsd2 = zSd nsd) ∧ (r.toInt = zDr nsd 10) ∧ (0 ≤ r.toInt ∧ r.toInt ≤ 9)) (zB D [(zMO m0 npu nte nat_ nde nto nse nhu nga nsd nfa mrf mki mpa mta mla msl mco mhe mso msi msh mce mca mwo mnu mte nba npl nen nnu nwr mwa mke mma mth mtr nra nik)] hpz (fun (nsd2 : Int32) => [(zMO m0 npu nte nat_ nde nto nse nhu nga nsd2 nfa mrf mki mpa mta mla msl mco mhe mso msi msh mce mca mwo mnu mte nba npl nen nnu nwr mwa mke mma mth mtr nra nik)])) (va_A [(zMO m0 npu nte nat_ nde nto nse nhu nga nsd nfa mrf mki mpa mta mla msl mco mhe mso msi msh mce mca mwo mnu mte nba npl nen nnu nwr mwa mke mma mth mtr nra nik)] hpz)) 0 0 (va_A [(zMO m0 npu nte nat_ nde nto nse nhu nga nsd nfa mrf mki mpa mta mla msl mco mhe mso msi msh mce mca mwo mnu mte nba npl nen nnu nwr mwa mke mma mth mtr nra nik)] hpz) := by
  refine Met.ofW (cc := cX8_draw) (maxL := 2) (ret := (some .int)) (by decide) rfl ?_
  intro p e s m args below meth c s₁ B hml hv
  obtain ⟨rfl, hsz, hP, hK, hD0, hN, hZ⟩ := hv
  have hx := B.exec
  have hb := B.bytes
  have hr := B.returns
  have hts := atoms_spec (ws := wsX8_draw) B.pre
  have hown : s.vm.findClass RX8 = some m.cls := findClass_of_methodNamed B.named
  have hlocks := B.notSynchronized
  subst hsz
  have hD := hD0.self (sz := s.heap.size)
  have hA := zA_of hD
  have hl := lv_entry ([.ref m0, .int 10]) (n := 2) (Nat.le_of_ble_eq_true rfl)
  rw [lg_entry_eq]
  generalize (lg_sl ([.ref m0, .int 10]) ++ List.replicate (2 - (lg_sl ([.ref m0, .int 10])).length) Slot.unset).toArray = ls at hl ⊢
  replace hl : lv_has ls 2 [(0, .ref m0), (1, .int 10)] := hl
  refine zw_begin hP hD (fun H locs hP1 hS => ?_)
  clear hP
  have hP := hP1
  clear hP1
  refine lv_aload_n hx hb dX8_draw_0 rfl (lv_at hl 0 rfl) ?_
  refine lv_aload_n hx hb dX8_draw_1 rfl (lv_at hl 0 rfl) ?_
  refine va_get (D := D) (ci := 8) (v := .int nsd) (C := RX8) (T := TX8) (N := 38) hx hb hts hi_X8_draw_8 hown hK hP 0 rfl rfl 8 (by decide) (hts (.fieldLink RX8 19 "TheLiningsInItModel" "seed" "I") (List.mem_of_getElem? (i := 1) rfl)) (fun _ h9 => h9) rfl dX8_draw_2 ?_
  refine lv_ldcw (own := RX8) (v := 1103515245) hx hb hown (hts _ (List.mem_of_getElem? (i := 2) rfl)) dX8_draw_5 ?_
  refine lv_imul hx hb dX8_draw_8 ?_
  refine lv_topi (fun x_1 ex_1 => ?_)
  refine lv_sipush (v := 12345) hx hb dX8_draw_9 (by decide) ?_
  refine lv_iadd hx hb dX8_draw_12 ?_
  refine lv_topi (fun x_2 ex_2 => ?_)
  refine va_put (D := D) (ci := 8) (v := .int x_2) (ty := .int) (C := RX8) (T := TX8) (N := 38) hx hb hts hi_X8_draw_8 tyX8 tyX8_ok nmX8 hown hK hP hD hS 0 rfl rfl 8 (by decide) (hts (.fieldLink RX8 19 "TheLiningsInItModel" "seed" "I") (List.mem_of_getElem? (i := 1) rfl)) (fun _ h9 => h9) rfl (tyX8_ok 8 (Nat.le_of_ble_eq_true rfl)) rfl rfl (Nat.le_of_ble_eq_true rfl) dX8_draw_13 (fun H locs hP hD hS => ?_)
  have h9R := zRe (ws' := [(zMO m0 npu nte nat_ nde nto nse nhu nga x_2 nfa mrf mki mpa mta mla msl mco mhe mso msi msh mce mca mwo mnu mte nba npl nen nnu nwr mwa mke mma mth mtr nra nik)]) hP hD rfl
  clear hP hD
  obtain ⟨hP, hD⟩ := h9R
  refine lv_aload_n hx hb dX8_draw_16 rfl (lv_at hl 0 rfl) ?_
  refine va_get (D := D) (ci := 8) (v := .int x_2) (C := RX8) (T := TX8) (N := 38) hx hb hts hi_X8_draw_8 hown hK hP 0 rfl rfl 8 (by decide) (hts (.fieldLink RX8 19 "TheLiningsInItModel" "seed" "I") (List.mem_of_getElem? (i := 1) rfl)) (fun _ h9 => h9) rfl dX8_draw_17 ?_
  refine lv_bipush (v := 16) hx hb dX8_draw_20 (by decide) ?_
  refine lv_iushr hx hb dX8_draw_22 rfl ?_
  refine lv_topi (fun x_3 ex_3 => ?_)
  have bx_3 : 0 ≤ x_3.toInt ∧ x_3.toInt ≤ 65535 := by rw [ex_3]; exact zf_ushr
  refine lv_iload_n hx hb dX8_draw_23 rfl (lv_at hl 1 rfl) ?_
  refine lv_irem hx hb dX8_draw_24 (by decide) ?_
  refine lv_topi (fun x_4 ex_4 => ?_)
  have qx_4 : x_4.toInt = x_3.toInt - x_3.toInt / 10 * 10 := by rw [ex_4]; exact zf_rem rfl (by decide) (by omega) (by omega)
  exact W.iret (v := x_4) hx hb hr (fun t ht hW => ⟨⟨x_4, x_2, rfl, ⟨(show x_2 = zSd nsd from by (rw [zSd_eq, ex_2, ex_1])), (show (x_4 : Int32).toInt = zDr nsd 10 from by (have hsd : x_2 = zSd nsd := (by rw [zSd_eq, ex_2, ex_1]); rw [zDr_eq, qx_4, ex_3, hsd])), ⟨by omega, by omega⟩⟩, zRet ht hP hD [0] (by decide) rfl⟩, hS.F ht⟩) hS.2.2 dX8_draw_25
set_option maxHeartbeats 4000000 in
set_option maxRecDepth 100000 in
theorem c_F_M_draw_12 (l : Launch) (D : va_G) (cI cJ cZ cP cS : ClassId) (po : zPool) (m0 mrf mki mpa mta mla msl mco mhe mso msi msh mce mca mwo mnu mte mwa mke mma mth mtr : Nat) (npu nte nat_ nde nto nse nhu nga nsd nfa nba npl nen nnu nwr nra nik : Int32) (hy0 : 0 ≤ npu.toInt) (hy1 : npu.toInt ≤ 8) (hy2 : 4 ≤ nte.toInt) (hy3 : nte.toInt ≤ 40) (hy4 : 0 ≤ nat_.toInt) (hy5 : nat_.toInt ≤ 40) (hy6 : 0 ≤ nde.toInt) (hy7 : nde.toInt ≤ 24) (hy8 : 0 ≤ nhu.toInt) (hy9 : nhu.toInt ≤ 9) (hy10 : 0 ≤ nra.toInt) (hy11 : nra.toInt ≤ 2000) (hy12 : 0 ≤ nik.toInt) (hy13 : nik.toInt ≤ 1) (hpz : Nat) : Met l yX8_draw wsX8_draw ({ frames := 0, cells := 0, slots := 0, locals := 0 }) (va_Pc [.ref m0, .int 12] (zW D (zKT cI cJ cZ cP cS) po [(zMO m0 npu nte nat_ nde nto nse nhu nga nsd nfa mrf mki mpa mta mla msl mco mhe mso msi msh mce mca mwo mnu mte nba npl nen nnu nwr mwa mke mma mth mtr nra nik)] hpz)) (va_Qi (fun (r : Int32) (nsd2 : (Int32)) => (nsd2 = zSd nsd) ∧ (r.toInt = zDr nsd 12) ∧ (0 ≤ r.toInt ∧ r.toInt ≤ 11)) (zB D [(zMO m0 npu nte nat_ nde nto nse nhu nga nsd nfa mrf mki mpa mta mla msl mco mhe mso msi msh mce mca mwo mnu mte nba npl nen nnu nwr mwa mke mma mth mtr nra nik)] hpz (fun (nsd2 : Int32) => [(zMO m0 npu nte nat_ nde nto nse nhu nga nsd2 nfa mrf mki mpa mta mla msl mco mhe mso msi msh mce mca mwo mnu mte nba npl nen nnu nwr mwa mke mma mth mtr nra nik)])) (va_A [(zMO m0 npu nte nat_ nde nto nse nhu nga nsd nfa mrf mki mpa mta mla msl mco mhe mso msi msh mce mca mwo mnu mte nba npl nen nnu nwr mwa mke mma mth mtr nra nik)] hpz)) 0 0 (va_A [(zMO m0 npu nte nat_ nde nto nse nhu nga nsd nfa mrf mki mpa mta mla msl mco mhe mso msi msh mce mca mwo mnu mte nba npl nen nnu nwr mwa mke mma mth mtr nra nik)] hpz) := by
  refine Met.ofW (cc := cX8_draw) (maxL := 2) (ret := (some .int)) (by decide) rfl ?_
  intro p e s m args below meth c s₁ B hml hv
  obtain ⟨rfl, hsz, hP, hK, hD0, hN, hZ⟩ := hv
  have hx := B.exec
  have hb := B.bytes
  have hr := B.returns
  have hts := atoms_spec (ws := wsX8_draw) B.pre
  have hown : s.vm.findClass RX8 = some m.cls := findClass_of_methodNamed B.named
  have hlocks := B.notSynchronized
  subst hsz
  have hD := hD0.self (sz := s.heap.size)
  have hA := zA_of hD
  have hl := lv_entry ([.ref m0, .int 12]) (n := 2) (Nat.le_of_ble_eq_true rfl)
  rw [lg_entry_eq]
  generalize (lg_sl ([.ref m0, .int 12]) ++ List.replicate (2 - (lg_sl ([.ref m0, .int 12])).length) Slot.unset).toArray = ls at hl ⊢
  replace hl : lv_has ls 2 [(0, .ref m0), (1, .int 12)] := hl
  refine zw_begin hP hD (fun H locs hP1 hS => ?_)
  clear hP
  have hP := hP1
  clear hP1
  refine lv_aload_n hx hb dX8_draw_0 rfl (lv_at hl 0 rfl) ?_
  refine lv_aload_n hx hb dX8_draw_1 rfl (lv_at hl 0 rfl) ?_
  refine va_get (D := D) (ci := 8) (v := .int nsd) (C := RX8) (T := TX8) (N := 38) hx hb hts hi_X8_draw_8 hown hK hP 0 rfl rfl 8 (by decide) (hts (.fieldLink RX8 19 "TheLiningsInItModel" "seed" "I") (List.mem_of_getElem? (i := 1) rfl)) (fun _ h9 => h9) rfl dX8_draw_2 ?_
  refine lv_ldcw (own := RX8) (v := 1103515245) hx hb hown (hts _ (List.mem_of_getElem? (i := 2) rfl)) dX8_draw_5 ?_
  refine lv_imul hx hb dX8_draw_8 ?_
  refine lv_topi (fun x_1 ex_1 => ?_)
  refine lv_sipush (v := 12345) hx hb dX8_draw_9 (by decide) ?_
  refine lv_iadd hx hb dX8_draw_12 ?_
  refine lv_topi (fun x_2 ex_2 => ?_)
  refine va_put (D := D) (ci := 8) (v := .int x_2) (ty := .int) (C := RX8) (T := TX8) (N := 38) hx hb hts hi_X8_draw_8 tyX8 tyX8_ok nmX8 hown hK hP hD hS 0 rfl rfl 8 (by decide) (hts (.fieldLink RX8 19 "TheLiningsInItModel" "seed" "I") (List.mem_of_getElem? (i := 1) rfl)) (fun _ h9 => h9) rfl (tyX8_ok 8 (Nat.le_of_ble_eq_true rfl)) rfl rfl (Nat.le_of_ble_eq_true rfl) dX8_draw_13 (fun H locs hP hD hS => ?_)
  have h9R := zRe (ws' := [(zMO m0 npu nte nat_ nde nto nse nhu nga x_2 nfa mrf mki mpa mta mla msl mco mhe mso msi msh mce mca mwo mnu mte nba npl nen nnu nwr mwa mke mma mth mtr nra nik)]) hP hD rfl
  clear hP hD
  obtain ⟨hP, hD⟩ := h9R
  refine lv_aload_n hx hb dX8_draw_16 rfl (lv_at hl 0 rfl) ?_
  refine va_get (D := D) (ci := 8) (v := .int x_2) (C := RX8) (T := TX8) (N := 38) hx hb hts hi_X8_draw_8 hown hK hP 0 rfl rfl 8 (by decide) (hts (.fieldLink RX8 19 "TheLiningsInItModel" "seed" "I") (List.mem_of_getElem? (i := 1) rfl)) (fun _ h9 => h9) rfl dX8_draw_17 ?_
  refine lv_bipush (v := 16) hx hb dX8_draw_20 (by decide) ?_
  refine lv_iushr hx hb dX8_draw_22 rfl ?_
  refine lv_topi (fun x_3 ex_3 => ?_)
  have bx_3 : 0 ≤ x_3.toInt ∧ x_3.toInt ≤ 65535 := by rw [ex_3]; exact zf_ushr
  refine lv_iload_n hx hb dX8_draw_23 rfl (lv_at hl 1 rfl) ?_
  refine lv_irem hx hb dX8_draw_24 (by decide) ?_
  refine lv_topi (fun x_4 ex_4 => ?_)
  have qx_4 : x_4.toInt = x_3.toInt - x_3.toInt / 12 * 12 := by rw [ex_4]; exact zf_rem rfl (by decide) (by omega) (by omega)
  exact W.iret (v := x_4) hx hb hr (fun t ht hW => ⟨⟨x_4, x_2, rfl, ⟨(show x_2 = zSd nsd from by (rw [zSd_eq, ex_2, ex_1])), (show (x_4 : Int32).toInt = zDr nsd 12 from by (have hsd : x_2 = zSd nsd := (by rw [zSd_eq, ex_2, ex_1]); rw [zDr_eq, qx_4, ex_3, hsd])), ⟨by omega, by omega⟩⟩, zRet ht hP hD [0] (by decide) rfl⟩, hS.F ht⟩) hS.2.2 dX8_draw_25
set_option maxHeartbeats 4000000 in
set_option maxRecDepth 100000 in
theorem c_F_M_makes (l : Launch) (D : va_G) (cI cJ cZ cP cS : ClassId) (po : zPool) (m0 mrf mki mpa mta mla msl mco mhe mso msi msh mce mca mwo mnu mte mwa mke mma mth mtr : Nat) (npu nte nat_ nde nto nse nhu nga nsd nfa nba npl nen nnu nwr nra nik : Int32) (gki gpa gta : Nat → Int32) (p_ : Int32) (hy0 : 0 ≤ npu.toInt) (hy1 : npu.toInt ≤ 8) (hy2 : 4 ≤ nte.toInt) (hy3 : nte.toInt ≤ 40) (hy4 : 0 ≤ nat_.toInt) (hy5 : nat_.toInt ≤ 40) (hy6 : 0 ≤ nde.toInt) (hy7 : nde.toInt ≤ 24) (hy8 : 0 ≤ nhu.toInt) (hy9 : nhu.toInt ≤ 9) (hy10 : 0 ≤ nra.toInt) (hy11 : nra.toInt ≤ 2000) (hy12 : 0 ≤ nik.toInt) (hy13 : nik.toInt ≤ 1) (hy14 : 0 ≤ p_.toInt) (hy15 : p_.toInt ≤ 7) (hy16 : 0 ≤ nse.toInt) (hy17 : nse.toInt ≤ 300) (htl : (gta p_.toNatClampNeg).toInt ≤ nse.toInt) (hp_gki : zRg gki (0) 6) (hp_gpa : zRg gpa (0) 9) (hp_gta : zRg gta (0) 60) (hpz : Nat) : Met l yX8_makes wsX8_makes ({ frames := 2, cells := 0, slots := 0, locals := 45 }) (va_Pc [.ref m0, .int p_] (zW D (zKT cI cJ cZ cP cS) po [(zMO m0 npu nte nat_ nde nto nse nhu nga nsd nfa mrf mki mpa mta mla msl mco mhe mso msi msh mce mca mwo mnu mte nba npl nen nnu nwr mwa mke mma mth mtr nra nik), (mki, .inl (cI, 8, .inl gki)), (mpa, .inl (cI, 8, .inl gpa)), (mta, .inl (cI, 8, .inl gta))] hpz)) (va_Qv (fun (u : (Int32) × (Int32) × (Int32) × (Int32)) => (0 ≤ u.1.toInt ∧ u.1.toInt ≤ 24) ∧ (zP1 (gki p_.toNatClampNeg).toInt (gpa p_.toNatClampNeg).toInt (gta p_.toNatClampNeg).toInt nhu.toInt (nde.toInt, nse.toInt, nto, nsd) = (u.1.toInt, u.2.2.1.toInt, u.2.1, u.2.2.2)) ∧ (u.2.2.1.toInt = nse.toInt - (gta p_.toNatClampNeg).toInt) ∧ (True)) (zB D [(zMO m0 npu nte nat_ nde nto nse nhu nga nsd nfa mrf mki mpa mta mla msl mco mhe mso msi msh mce mca mwo mnu mte nba npl nen nnu nwr mwa mke mma mth mtr nra nik), (mki, .inl (cI, 8, .inl gki)), (mpa, .inl (cI, 8, .inl gpa)), (mta, .inl (cI, 8, .inl gta))] hpz (fun (u : (Int32) × (Int32) × (Int32) × (Int32)) => [(zMO m0 npu nte nat_ u.1 u.2.1 u.2.2.1 nhu nga u.2.2.2 nfa mrf mki mpa mta mla msl mco mhe mso msi msh mce mca mwo mnu mte nba npl nen nnu nwr mwa mke mma mth mtr nra nik), (mki, .inl (cI, 8, .inl gki)), (mpa, .inl (cI, 8, .inl gpa)), (mta, .inl (cI, 8, .inl gta))])) (va_A [(zMO m0 npu nte nat_ nde nto nse nhu nga nsd nfa mrf mki mpa mta mla msl mco mhe mso msi msh mce mca mwo mnu mte nba npl nen nnu nwr mwa mke mma mth mtr nra nik), (mki, .inl (cI, 8, .inl gki)), (mpa, .inl (cI, 8, .inl gpa)), (mta, .inl (cI, 8, .inl gta))] hpz)) 0 0 (va_A [(zMO m0 npu nte nat_ nde nto nse nhu nga nsd nfa mrf mki mpa mta mla msl mco mhe mso msi msh mce mca mwo mnu mte nba npl nen nnu nwr mwa mke mma mth mtr nra nik), (mki, .inl (cI, 8, .inl gki)), (mpa, .inl (cI, 8, .inl gpa)), (mta, .inl (cI, 8, .inl gta))] hpz) := by
  refine Met.ofW (cc := cX8_makes) (maxL := 3) (ret := none) (by decide) rfl ?_
  intro p e s m args below meth c s₁ B hml hv
  obtain ⟨rfl, hsz, hP, hK, hD0, hN, hZ⟩ := hv
  have hx := B.exec
  have hb := B.bytes
  have hr := B.returns
  have hts := atoms_spec (ws := wsX8_makes) B.pre
  have hown : s.vm.findClass RX8 = some m.cls := findClass_of_methodNamed B.named
  have hlocks := B.notSynchronized
  subst hsz
  have hD := hD0.self (sz := s.heap.size)
  have hA := zA_of hD
  have hl := lv_entry ([.ref m0, .int p_]) (n := 3) (Nat.le_of_ble_eq_true rfl)
  rw [lg_entry_eq]
  generalize (lg_sl ([.ref m0, .int p_]) ++ List.replicate (3 - (lg_sl ([.ref m0, .int p_])).length) Slot.unset).toArray = ls at hl ⊢
  replace hl : lv_has ls 3 [(0, .ref m0), (1, .int p_)] := hl
  refine zw_begin hP hD (fun H locs hP1 hS => ?_)
  clear hP
  have hP := hP1
  clear hP1
  refine lv_aload_n hx hb dX8_makes_0 rfl (lv_at hl 0 rfl) ?_
  refine lv_bipush (v := 12) hx hb dX8_makes_1 (by decide) ?_
  skip
  refine zw_V (As := [.int 12]) (rest := []) (wr := [(mki, .inl (cI, 8, .inl gki)), (mpa, .inl (cI, 8, .inl gpa)), (mta, .inl (cI, 8, .inl gta))]) ⟨hx, hb, hml, hown, hts⟩ (c_F_M_draw_12 l D cI cJ cZ cP cS po m0 mrf mki mpa mta mla msl mco mhe mso msi msh mce mca mwo mnu mte mwa mke mma mth mtr (npu) (nte) (nat_) (nde) (nto) (nse) (nhu) (nga) (nsd) (nfa) (nba) (npl) (nen) (nnu) (nwr) (nra) (nik) hy0 hy1 hy2 hy3 hy4 hy5 hy6 hy7 hy8 hy9 hy10 hy11 hy12 hy13 H.size) (cwV 1 hts gX8_makes_X8_draw rfl rfl rfl ⟨rfl, dh_X8_draw⟩ ⟨Nat.le_of_ble_eq_true rfl, Nat.le_of_ble_eq_true rfl⟩) hK hN (hZ.kept hS) hP hD hS hA [0] [1, 2, 3] rfl rfl (by decide) (by decide) (by decide) (va_recv (q := (RX8, TX8, 38)) hK hP (ci := 8) (q0 := 0) rfl rfl) rfl hl.1 rfl (Nat.le_of_ble_eq_true rfl) dX8_makes_3 ⟨Nat.le_of_ble_eq_true rfl, Nat.le_of_ble_eq_true rfl⟩ (fun r_1 u_2 H locs hr_1 hP hD hS => ?_)
  obtain ⟨q_3, rfl⟩ : ∃ z, z = u_2 := ⟨_, rfl⟩
  obtain ⟨hsr_1_0, hsr_1_1, hr_1⟩ := hr_1
  have h9R := zRe (ws' := [(mki, .inl (cI, 8, .inl gki)), (mpa, .inl (cI, 8, .inl gpa)), (mta, .inl (cI, 8, .inl gta)), (zMO m0 npu nte nat_ nde nto nse nhu nga q_3 nfa mrf mki mpa mta mla msl mco mhe mso msi msh mce mca mwo mnu mte nba npl nen nnu nwr mwa mke mma mth mtr nra nik)]) hP hD rfl
  clear hP hD
  obtain ⟨hP, hD⟩ := h9R
  obtain ⟨g_4, g_5⟩ := hr_1
  refine lv_aload_n hx hb dX8_makes_6 rfl (lv_at hl 0 rfl) ?_
  refine lv_iload_n hx hb dX8_makes_7 rfl (lv_at hl 1 rfl) ?_
  refine lv_aload_n hx hb dX8_makes_8 rfl (lv_at hl 0 rfl) ?_
  refine va_get (D := D) (ci := 8) (v := .int nde) (C := RX8) (T := TX8) (N := 38) hx hb hts hi_X8_makes_8 hown hK hP 3 rfl rfl 3 (by decide) (hts (.fieldLink RX8 115 "TheLiningsInItModel" "depth" "I") (List.mem_of_getElem? (i := 1) rfl)) (fun _ h9 => h9) rfl dX8_makes_9 ?_
  refine zc_V (As := [.int p_, .int nde]) (rest := [.int r_1]) ⟨hx, hb, hml, hown, hts⟩ (c_F_M_ways l D cI cJ cZ cP cS po m0 mrf mki mpa mta mla msl mco mhe mso msi msh mce mca mwo mnu mte mwa mke mma mth mtr (npu) (nte) (nat_) (nde) (nto) (nse) (nhu) (nga) (q_3) (nfa) (nba) (npl) (nen) (nnu) (nwr) (nra) (nik) gki gpa (p_) (nde) hy0 hy1 hy2 hy3 hy4 hy5 hy6 hy7 hy8 hy9 hy10 hy11 hy12 hy13 hy14 hy15 hy6 hy7 hp_gki hp_gpa) (cwV 2 hts gX8_makes_X8_ways rfl rfl rfl ⟨rfl, dh_X8_ways⟩ ⟨Nat.le_of_ble_eq_true rfl, Nat.le_of_ble_eq_true rfl⟩) hK hN (hZ.kept hS) hP (hP.sub [3, 0, 1] rfl) (va_recv (q := (RX8, TX8, 38)) hK hP (ci := 8) (q0 := 3) rfl rfl) rfl hl.1 rfl (Nat.le_of_ble_eq_true rfl) dX8_makes_12 ⟨Nat.le_of_ble_eq_true rfl, Nat.le_of_ble_eq_true rfl⟩ (fun r_6 hr_6 => ?_)
  obtain ⟨g_7, g_8, hsr_6_0⟩ := hr_6
  refine lv_icmp_ge (tgt := 22) hx hb dX8_makes_15 (by decide) (fun c_9 => ?_) (fun c_9 => ?_)
  · have fc_9 : r_6.toInt ≤ r_1.toInt := zf_le c_9 rfl rfl
    refine lv_iconst (v := 0) hx hb dX8_makes_22 (by decide) ?_
    refine lv_istore_n (lv' := [(2, .int 0), (0, .ref m0), (1, .int p_)]) hx hb dX8_makes_23 rfl hl (by decide) rfl (fun ls hl => ?_)
    refine lv_aload_n hx hb dX8_makes_24 rfl (lv_at hl 1 rfl) ?_
    refine lv_aload_n hx hb dX8_makes_25 rfl (lv_at hl 1 rfl) ?_
    refine lv_iload_n hx hb dX8_makes_26 rfl (lv_at hl 2 rfl) ?_
    refine lv_aload_n hx hb dX8_makes_27 rfl (lv_at hl 1 rfl) ?_
    refine va_get (D := D) (ci := 8) (v := .int nde) (C := RX8) (T := TX8) (N := 38) hx hb hts hi_X8_makes_8 hown hK hP 3 rfl rfl 3 (by decide) (hts (.fieldLink RX8 115 "TheLiningsInItModel" "depth" "I") (List.mem_of_getElem? (i := 1) rfl)) (fun _ h9 => h9) rfl dX8_makes_28 ?_
    refine lv_iload_n hx hb dX8_makes_31 rfl (lv_at hl 0 rfl) ?_
    have kc0 : (0 : Int32).toInt = 0 := by decide
    refine zc_V (As := [.int p_, .int nde, .int 0]) (rest := [.ref m0]) ⟨hx, hb, hml, hown, hts⟩ (c_F_M_deep l D cI cJ cZ cP cS po m0 mrf mki mpa mta mla msl mco mhe mso msi msh mce mca mwo mnu mte mwa mke mma mth mtr (npu) (nte) (nat_) (nde) (nto) (nse) (nhu) (nga) (q_3) (nfa) (nba) (npl) (nen) (nnu) (nwr) (nra) (nik) gki gpa (p_) (nde) (0) hy0 hy1 hy2 hy3 hy4 hy5 hy6 hy7 hy8 hy9 hy10 hy11 hy12 hy13 hy14 hy15 hy6 hy7 (by omega) (by omega) hp_gki hp_gpa) (cwV 3 hts gX8_makes_X8_deep rfl rfl rfl ⟨rfl, dh_X8_deep⟩ ⟨Nat.le_of_ble_eq_true rfl, Nat.le_of_ble_eq_true rfl⟩) hK hN (hZ.kept hS) hP (hP.sub [3, 0, 1] rfl) (va_recv (q := (RX8, TX8, 38)) hK hP (ci := 8) (q0 := 3) rfl rfl) rfl hl.1 rfl (Nat.le_of_ble_eq_true rfl) dX8_makes_32 ⟨Nat.le_of_ble_eq_true rfl, Nat.le_of_ble_eq_true rfl⟩ (fun r_10 hr_10 => ?_)
    obtain ⟨g_11, g_12, hsr_10_0⟩ := hr_10
    refine va_put (D := D) (ci := 8) (v := .int r_10) (ty := .int) (C := RX8) (T := TX8) (N := 38) hx hb hts hi_X8_makes_8 tyX8 tyX8_ok nmX8 hown hK hP hD hS 3 rfl rfl 3 (by decide) (hts (.fieldLink RX8 115 "TheLiningsInItModel" "depth" "I") (List.mem_of_getElem? (i := 1) rfl)) (fun _ h9 => h9) rfl (tyX8_ok 3 (Nat.le_of_ble_eq_true rfl)) rfl rfl (Nat.le_of_ble_eq_true rfl) dX8_makes_35 (fun H locs hP hD hS => ?_)
    have h9R := zRe (ws' := [(mki, .inl (cI, 8, .inl gki)), (mpa, .inl (cI, 8, .inl gpa)), (mta, .inl (cI, 8, .inl gta)), (zMO m0 npu nte nat_ r_10 nto nse nhu nga q_3 nfa mrf mki mpa mta mla msl mco mhe mso msi msh mce mca mwo mnu mte nba npl nen nnu nwr mwa mke mma mth mtr nra nik)]) hP hD rfl
    clear hP hD
    obtain ⟨hP, hD⟩ := h9R
    refine lv_aload_n hx hb dX8_makes_38 rfl (lv_at hl 1 rfl) ?_
    refine lv_dup hx hb dX8_makes_39 rfl ?_
    refine va_get (D := D) (ci := 8) (v := .int nse) (C := RX8) (T := TX8) (N := 38) hx hb hts hi_X8_makes_8 hown hK hP 3 rfl rfl 5 (by decide) (hts (.fieldLink RX8 13 "TheLiningsInItModel" "seconds" "I") (List.mem_of_getElem? (i := 2) rfl)) (fun _ h9 => h9) rfl dX8_makes_40 ?_
    refine lv_aload_n hx hb dX8_makes_43 rfl (lv_at hl 1 rfl) ?_
    refine va_get (D := D) (ci := 8) (v := .ref mta) (C := RX8) (T := TX8) (N := 38) hx hb hts hi_X8_makes_8 hown hK hP 3 rfl rfl 13 (by decide) (hts (.fieldLink RX8 35 "TheLiningsInItModel" "takes" "[I") (List.mem_of_getElem? (i := 3) rfl)) (fun _ h9 => h9) rfl dX8_makes_44 ?_
    refine lv_iload_n hx hb dX8_makes_47 rfl (lv_at hl 2 rfl) ?_
    refine va_iald hx hb hK hP 2 0 rfl rfl (zf_in (by omega) (by omega)) dX8_makes_48 ?_
    refine lv_topi (fun x_13 ex_13 => ?_)
    have bx_13 : 0 ≤ x_13.toInt ∧ x_13.toInt ≤ 60 := by rw [ex_13]; exact hp_gta _
    have htx_13 : (gta p_.toNatClampNeg).toInt = x_13.toInt := by rw [ex_13]
    refine lv_isub hx hb dX8_makes_49 ?_
    refine lv_topi (fun x_14 ex_14 => ?_)
    have qx_14 : x_14.toInt = nse.toInt - x_13.toInt := by rw [ex_14]; exact zf_sub rfl rfl (by omega) (by omega)
    refine va_put (D := D) (ci := 8) (v := .int x_14) (ty := .int) (C := RX8) (T := TX8) (N := 38) hx hb hts hi_X8_makes_8 tyX8 tyX8_ok nmX8 hown hK hP hD hS 3 rfl rfl 5 (by decide) (hts (.fieldLink RX8 13 "TheLiningsInItModel" "seconds" "I") (List.mem_of_getElem? (i := 2) rfl)) (fun _ h9 => h9) rfl (tyX8_ok 5 (Nat.le_of_ble_eq_true rfl)) rfl rfl (Nat.le_of_ble_eq_true rfl) dX8_makes_50 (fun H locs hP hD hS => ?_)
    have h9R := zRe (ws' := [(mki, .inl (cI, 8, .inl gki)), (mpa, .inl (cI, 8, .inl gpa)), (mta, .inl (cI, 8, .inl gta)), (zMO m0 npu nte nat_ r_10 nto x_14 nhu nga q_3 nfa mrf mki mpa mta mla msl mco mhe mso msi msh mce mca mwo mnu mte nba npl nen nnu nwr mwa mke mma mth mtr nra nik)]) hP hD rfl
    clear hP hD
    obtain ⟨hP, hD⟩ := h9R
    refine lv_aload_n hx hb dX8_makes_53 rfl (lv_at hl 1 rfl) ?_
    refine va_get (D := D) (ci := 8) (v := .ref mki) (C := RX8) (T := TX8) (N := 38) hx hb hts hi_X8_makes_8 hown hK hP 3 rfl rfl 11 (by decide) (hts (.fieldLink RX8 29 "TheLiningsInItModel" "kind" "[I") (List.mem_of_getElem? (i := 4) rfl)) (fun _ h9 => h9) rfl dX8_makes_54 ?_
    refine lv_iload_n hx hb dX8_makes_57 rfl (lv_at hl 2 rfl) ?_
    refine va_iald hx hb hK hP 0 0 rfl rfl (zf_in (by omega) (by omega)) dX8_makes_58 ?_
    refine lv_topi (fun x_15 ex_15 => ?_)
    have bx_15 : 0 ≤ x_15.toInt ∧ x_15.toInt ≤ 6 := by rw [ex_15]; exact hp_gki _
    refine lv_iconst (v := 5) hx hb dX8_makes_59 (by decide) ?_
    refine lv_icmp_ne (tgt := 73) hx hb dX8_makes_60 (by decide) (fun c_16 => ?_) (fun c_16 => ?_)
    · have fc_16 : x_15.toInt ≠ 5 := zf_ne c_16 rfl (by decide)
      exact W.vret hx hb hr (fun t ht hW => ⟨⟨(r_10, nto, x_14, q_3), rfl, ⟨(show 0 ≤ r_10.toInt ∧ r_10.toInt ≤ 24 from ⟨by omega, by omega⟩), (show zP1 (gki p_.toNatClampNeg).toInt (gpa p_.toNatClampNeg).toInt (gta p_.toNatClampNeg).toInt nhu.toInt (nde.toInt, nse.toInt, nto, nsd) = (r_10.toInt, x_14.toInt, nto, q_3) from by (unfold zP1; refine Prod.ext ?_ (Prod.ext ?_ (Prod.ext ?_ ?_)) <;> dsimp only; (first | (rw [if_pos (by rw [← hsr_1_1, ← hsr_6_0]; omega)]; exact (hsr_10_0.1 (by decide)).symm) | (rw [if_neg (by rw [← hsr_1_1, ← hsr_6_0]; omega)]; exact (hsr_10_0.2 (by decide)).symm)); omega; (have nk : (gki p_.toNatClampNeg).toInt = x_15.toInt := (by rw [ex_15]); rw [if_neg (by omega)]); exact hsr_1_0.symm)), (show x_14.toInt = nse.toInt - (gta p_.toNatClampNeg).toInt from by omega), trivial⟩, zRet ht hP hD [3, 0, 1, 2] (by decide) rfl⟩, hS.F ht⟩) hS.2.2 dX8_makes_73
    · have fc_16 : x_15.toInt = 5 := zf_eq c_16 rfl (by decide)
      refine lv_aload_n hx hb dX8_makes_63 rfl (lv_at hl 1 rfl) ?_
      refine lv_dup hx hb dX8_makes_64 rfl ?_
      refine va_get (D := D) (ci := 8) (v := .int nto) (C := RX8) (T := TX8) (N := 38) hx hb hts hi_X8_makes_8 hown hK hP 3 rfl rfl 4 (by decide) (hts (.fieldLink RX8 188 "TheLiningsInItModel" "torn" "I") (List.mem_of_getElem? (i := 5) rfl)) (fun _ h9 => h9) rfl dX8_makes_65 ?_
      refine lv_iconst (v := 1) hx hb dX8_makes_68 (by decide) ?_
      refine lv_iadd hx hb dX8_makes_69 ?_
      refine lv_topi (fun x_17 ex_17 => ?_)
      refine va_put (D := D) (ci := 8) (v := .int x_17) (ty := .int) (C := RX8) (T := TX8) (N := 38) hx hb hts hi_X8_makes_8 tyX8 tyX8_ok nmX8 hown hK hP hD hS 3 rfl rfl 4 (by decide) (hts (.fieldLink RX8 188 "TheLiningsInItModel" "torn" "I") (List.mem_of_getElem? (i := 5) rfl)) (fun _ h9 => h9) rfl (tyX8_ok 4 (Nat.le_of_ble_eq_true rfl)) rfl rfl (Nat.le_of_ble_eq_true rfl) dX8_makes_70 (fun H locs hP hD hS => ?_)
      have h9R := zRe (ws' := [(mki, .inl (cI, 8, .inl gki)), (mpa, .inl (cI, 8, .inl gpa)), (mta, .inl (cI, 8, .inl gta)), (zMO m0 npu nte nat_ r_10 x_17 x_14 nhu nga q_3 nfa mrf mki mpa mta mla msl mco mhe mso msi msh mce mca mwo mnu mte nba npl nen nnu nwr mwa mke mma mth mtr nra nik)]) hP hD rfl
      clear hP hD
      obtain ⟨hP, hD⟩ := h9R
      exact W.vret hx hb hr (fun t ht hW => ⟨⟨(r_10, x_17, x_14, q_3), rfl, ⟨(show 0 ≤ r_10.toInt ∧ r_10.toInt ≤ 24 from ⟨by omega, by omega⟩), (show zP1 (gki p_.toNatClampNeg).toInt (gpa p_.toNatClampNeg).toInt (gta p_.toNatClampNeg).toInt nhu.toInt (nde.toInt, nse.toInt, nto, nsd) = (r_10.toInt, x_14.toInt, x_17, q_3) from by (unfold zP1; refine Prod.ext ?_ (Prod.ext ?_ (Prod.ext ?_ ?_)) <;> dsimp only; (first | (rw [if_pos (by rw [← hsr_1_1, ← hsr_6_0]; omega)]; exact (hsr_10_0.1 (by decide)).symm) | (rw [if_neg (by rw [← hsr_1_1, ← hsr_6_0]; omega)]; exact (hsr_10_0.2 (by decide)).symm)); omega; (have nk : (gki p_.toNatClampNeg).toInt = x_15.toInt := (by rw [ex_15]); rw [if_pos (by omega)]; exact ex_17.symm); exact hsr_1_0.symm)), (show x_14.toInt = nse.toInt - (gta p_.toNatClampNeg).toInt from by omega), trivial⟩, zRet ht hP hD [3, 0, 1, 2] (by decide) rfl⟩, hS.F ht⟩) hS.2.2 dX8_makes_73
  · have fc_9 : r_1.toInt < r_6.toInt := zf_nle c_9 rfl rfl
    refine lv_iconst (v := 1) hx hb dX8_makes_18 (by decide) ?_
    refine lv_goto (tgt := 23) hx hb dX8_makes_19 (by decide) ?_
    refine lv_istore_n (lv' := [(2, .int 1), (0, .ref m0), (1, .int p_)]) hx hb dX8_makes_23 rfl hl (by decide) rfl (fun ls hl => ?_)
    refine lv_aload_n hx hb dX8_makes_24 rfl (lv_at hl 1 rfl) ?_
    refine lv_aload_n hx hb dX8_makes_25 rfl (lv_at hl 1 rfl) ?_
    refine lv_iload_n hx hb dX8_makes_26 rfl (lv_at hl 2 rfl) ?_
    refine lv_aload_n hx hb dX8_makes_27 rfl (lv_at hl 1 rfl) ?_
    refine va_get (D := D) (ci := 8) (v := .int nde) (C := RX8) (T := TX8) (N := 38) hx hb hts hi_X8_makes_8 hown hK hP 3 rfl rfl 3 (by decide) (hts (.fieldLink RX8 115 "TheLiningsInItModel" "depth" "I") (List.mem_of_getElem? (i := 1) rfl)) (fun _ h9 => h9) rfl dX8_makes_28 ?_
    refine lv_iload_n hx hb dX8_makes_31 rfl (lv_at hl 0 rfl) ?_
    have kc1 : (1 : Int32).toInt = 1 := by decide
    refine zc_V (As := [.int p_, .int nde, .int 1]) (rest := [.ref m0]) ⟨hx, hb, hml, hown, hts⟩ (c_F_M_deep l D cI cJ cZ cP cS po m0 mrf mki mpa mta mla msl mco mhe mso msi msh mce mca mwo mnu mte mwa mke mma mth mtr (npu) (nte) (nat_) (nde) (nto) (nse) (nhu) (nga) (q_3) (nfa) (nba) (npl) (nen) (nnu) (nwr) (nra) (nik) gki gpa (p_) (nde) (1) hy0 hy1 hy2 hy3 hy4 hy5 hy6 hy7 hy8 hy9 hy10 hy11 hy12 hy13 hy14 hy15 hy6 hy7 (by omega) (by omega) hp_gki hp_gpa) (cwV 3 hts gX8_makes_X8_deep rfl rfl rfl ⟨rfl, dh_X8_deep⟩ ⟨Nat.le_of_ble_eq_true rfl, Nat.le_of_ble_eq_true rfl⟩) hK hN (hZ.kept hS) hP (hP.sub [3, 0, 1] rfl) (va_recv (q := (RX8, TX8, 38)) hK hP (ci := 8) (q0 := 3) rfl rfl) rfl hl.1 rfl (Nat.le_of_ble_eq_true rfl) dX8_makes_32 ⟨Nat.le_of_ble_eq_true rfl, Nat.le_of_ble_eq_true rfl⟩ (fun r_18 hr_18 => ?_)
    obtain ⟨g_19, g_20, hsr_18_0⟩ := hr_18
    refine va_put (D := D) (ci := 8) (v := .int r_18) (ty := .int) (C := RX8) (T := TX8) (N := 38) hx hb hts hi_X8_makes_8 tyX8 tyX8_ok nmX8 hown hK hP hD hS 3 rfl rfl 3 (by decide) (hts (.fieldLink RX8 115 "TheLiningsInItModel" "depth" "I") (List.mem_of_getElem? (i := 1) rfl)) (fun _ h9 => h9) rfl (tyX8_ok 3 (Nat.le_of_ble_eq_true rfl)) rfl rfl (Nat.le_of_ble_eq_true rfl) dX8_makes_35 (fun H locs hP hD hS => ?_)
    have h9R := zRe (ws' := [(mki, .inl (cI, 8, .inl gki)), (mpa, .inl (cI, 8, .inl gpa)), (mta, .inl (cI, 8, .inl gta)), (zMO m0 npu nte nat_ r_18 nto nse nhu nga q_3 nfa mrf mki mpa mta mla msl mco mhe mso msi msh mce mca mwo mnu mte nba npl nen nnu nwr mwa mke mma mth mtr nra nik)]) hP hD rfl
    clear hP hD
    obtain ⟨hP, hD⟩ := h9R
    refine lv_aload_n hx hb dX8_makes_38 rfl (lv_at hl 1 rfl) ?_
    refine lv_dup hx hb dX8_makes_39 rfl ?_
    refine va_get (D := D) (ci := 8) (v := .int nse) (C := RX8) (T := TX8) (N := 38) hx hb hts hi_X8_makes_8 hown hK hP 3 rfl rfl 5 (by decide) (hts (.fieldLink RX8 13 "TheLiningsInItModel" "seconds" "I") (List.mem_of_getElem? (i := 2) rfl)) (fun _ h9 => h9) rfl dX8_makes_40 ?_
    refine lv_aload_n hx hb dX8_makes_43 rfl (lv_at hl 1 rfl) ?_
    refine va_get (D := D) (ci := 8) (v := .ref mta) (C := RX8) (T := TX8) (N := 38) hx hb hts hi_X8_makes_8 hown hK hP 3 rfl rfl 13 (by decide) (hts (.fieldLink RX8 35 "TheLiningsInItModel" "takes" "[I") (List.mem_of_getElem? (i := 3) rfl)) (fun _ h9 => h9) rfl dX8_makes_44 ?_
    refine lv_iload_n hx hb dX8_makes_47 rfl (lv_at hl 2 rfl) ?_
    refine va_iald hx hb hK hP 2 0 rfl rfl (zf_in (by omega) (by omega)) dX8_makes_48 ?_
    refine lv_topi (fun x_21 ex_21 => ?_)
    have bx_21 : 0 ≤ x_21.toInt ∧ x_21.toInt ≤ 60 := by rw [ex_21]; exact hp_gta _
    have htx_21 : (gta p_.toNatClampNeg).toInt = x_21.toInt := by rw [ex_21]
    refine lv_isub hx hb dX8_makes_49 ?_
    refine lv_topi (fun x_22 ex_22 => ?_)
    have qx_22 : x_22.toInt = nse.toInt - x_21.toInt := by rw [ex_22]; exact zf_sub rfl rfl (by omega) (by omega)
    refine va_put (D := D) (ci := 8) (v := .int x_22) (ty := .int) (C := RX8) (T := TX8) (N := 38) hx hb hts hi_X8_makes_8 tyX8 tyX8_ok nmX8 hown hK hP hD hS 3 rfl rfl 5 (by decide) (hts (.fieldLink RX8 13 "TheLiningsInItModel" "seconds" "I") (List.mem_of_getElem? (i := 2) rfl)) (fun _ h9 => h9) rfl (tyX8_ok 5 (Nat.le_of_ble_eq_true rfl)) rfl rfl (Nat.le_of_ble_eq_true rfl) dX8_makes_50 (fun H locs hP hD hS => ?_)
    have h9R := zRe (ws' := [(mki, .inl (cI, 8, .inl gki)), (mpa, .inl (cI, 8, .inl gpa)), (mta, .inl (cI, 8, .inl gta)), (zMO m0 npu nte nat_ r_18 nto x_22 nhu nga q_3 nfa mrf mki mpa mta mla msl mco mhe mso msi msh mce mca mwo mnu mte nba npl nen nnu nwr mwa mke mma mth mtr nra nik)]) hP hD rfl
    clear hP hD
    obtain ⟨hP, hD⟩ := h9R
    refine lv_aload_n hx hb dX8_makes_53 rfl (lv_at hl 1 rfl) ?_
    refine va_get (D := D) (ci := 8) (v := .ref mki) (C := RX8) (T := TX8) (N := 38) hx hb hts hi_X8_makes_8 hown hK hP 3 rfl rfl 11 (by decide) (hts (.fieldLink RX8 29 "TheLiningsInItModel" "kind" "[I") (List.mem_of_getElem? (i := 4) rfl)) (fun _ h9 => h9) rfl dX8_makes_54 ?_
    refine lv_iload_n hx hb dX8_makes_57 rfl (lv_at hl 2 rfl) ?_
    refine va_iald hx hb hK hP 0 0 rfl rfl (zf_in (by omega) (by omega)) dX8_makes_58 ?_
    refine lv_topi (fun x_23 ex_23 => ?_)
    have bx_23 : 0 ≤ x_23.toInt ∧ x_23.toInt ≤ 6 := by rw [ex_23]; exact hp_gki _
    refine lv_iconst (v := 5) hx hb dX8_makes_59 (by decide) ?_
    refine lv_icmp_ne (tgt := 73) hx hb dX8_makes_60 (by decide) (fun c_24 => ?_) (fun c_24 => ?_)
    · have fc_24 : x_23.toInt ≠ 5 := zf_ne c_24 rfl (by decide)
      exact W.vret hx hb hr (fun t ht hW => ⟨⟨(r_18, nto, x_22, q_3), rfl, ⟨(show 0 ≤ r_18.toInt ∧ r_18.toInt ≤ 24 from ⟨by omega, by omega⟩), (show zP1 (gki p_.toNatClampNeg).toInt (gpa p_.toNatClampNeg).toInt (gta p_.toNatClampNeg).toInt nhu.toInt (nde.toInt, nse.toInt, nto, nsd) = (r_18.toInt, x_22.toInt, nto, q_3) from by (unfold zP1; refine Prod.ext ?_ (Prod.ext ?_ (Prod.ext ?_ ?_)) <;> dsimp only; (first | (rw [if_pos (by rw [← hsr_1_1, ← hsr_6_0]; omega)]; exact (hsr_18_0.1 (by decide)).symm) | (rw [if_neg (by rw [← hsr_1_1, ← hsr_6_0]; omega)]; exact (hsr_18_0.2 (by decide)).symm)); omega; (have nk : (gki p_.toNatClampNeg).toInt = x_23.toInt := (by rw [ex_23]); rw [if_neg (by omega)]); exact hsr_1_0.symm)), (show x_22.toInt = nse.toInt - (gta p_.toNatClampNeg).toInt from by omega), trivial⟩, zRet ht hP hD [3, 0, 1, 2] (by decide) rfl⟩, hS.F ht⟩) hS.2.2 dX8_makes_73
    · have fc_24 : x_23.toInt = 5 := zf_eq c_24 rfl (by decide)
      refine lv_aload_n hx hb dX8_makes_63 rfl (lv_at hl 1 rfl) ?_
      refine lv_dup hx hb dX8_makes_64 rfl ?_
      refine va_get (D := D) (ci := 8) (v := .int nto) (C := RX8) (T := TX8) (N := 38) hx hb hts hi_X8_makes_8 hown hK hP 3 rfl rfl 4 (by decide) (hts (.fieldLink RX8 188 "TheLiningsInItModel" "torn" "I") (List.mem_of_getElem? (i := 5) rfl)) (fun _ h9 => h9) rfl dX8_makes_65 ?_
      refine lv_iconst (v := 1) hx hb dX8_makes_68 (by decide) ?_
      refine lv_iadd hx hb dX8_makes_69 ?_
      refine lv_topi (fun x_25 ex_25 => ?_)
      refine va_put (D := D) (ci := 8) (v := .int x_25) (ty := .int) (C := RX8) (T := TX8) (N := 38) hx hb hts hi_X8_makes_8 tyX8 tyX8_ok nmX8 hown hK hP hD hS 3 rfl rfl 4 (by decide) (hts (.fieldLink RX8 188 "TheLiningsInItModel" "torn" "I") (List.mem_of_getElem? (i := 5) rfl)) (fun _ h9 => h9) rfl (tyX8_ok 4 (Nat.le_of_ble_eq_true rfl)) rfl rfl (Nat.le_of_ble_eq_true rfl) dX8_makes_70 (fun H locs hP hD hS => ?_)
      have h9R := zRe (ws' := [(mki, .inl (cI, 8, .inl gki)), (mpa, .inl (cI, 8, .inl gpa)), (mta, .inl (cI, 8, .inl gta)), (zMO m0 npu nte nat_ r_18 x_25 x_22 nhu nga q_3 nfa mrf mki mpa mta mla msl mco mhe mso msi msh mce mca mwo mnu mte nba npl nen nnu nwr mwa mke mma mth mtr nra nik)]) hP hD rfl
      clear hP hD
      obtain ⟨hP, hD⟩ := h9R
      exact W.vret hx hb hr (fun t ht hW => ⟨⟨(r_18, x_25, x_22, q_3), rfl, ⟨(show 0 ≤ r_18.toInt ∧ r_18.toInt ≤ 24 from ⟨by omega, by omega⟩), (show zP1 (gki p_.toNatClampNeg).toInt (gpa p_.toNatClampNeg).toInt (gta p_.toNatClampNeg).toInt nhu.toInt (nde.toInt, nse.toInt, nto, nsd) = (r_18.toInt, x_22.toInt, x_25, q_3) from by (unfold zP1; refine Prod.ext ?_ (Prod.ext ?_ (Prod.ext ?_ ?_)) <;> dsimp only; (first | (rw [if_pos (by rw [← hsr_1_1, ← hsr_6_0]; omega)]; exact (hsr_18_0.1 (by decide)).symm) | (rw [if_neg (by rw [← hsr_1_1, ← hsr_6_0]; omega)]; exact (hsr_18_0.2 (by decide)).symm)); omega; (have nk : (gki p_.toNatClampNeg).toInt = x_23.toInt := (by rw [ex_23]); rw [if_pos (by omega)]; exact ex_25.symm); exact hsr_1_0.symm)), (show x_22.toInt = nse.toInt - (gta p_.toNatClampNeg).toInt from by omega), trivial⟩, zRet ht hP hD [3, 0, 1, 2] (by decide) rfl⟩, hS.F ht⟩) hS.2.2 dX8_makes_73
set_option maxHeartbeats 4000000 in
set_option maxRecDepth 100000 in
theorem c_F_M_pulls (l : Launch) (D : va_G) (cI cJ cZ cP cS : ClassId) (po : zPool) (m0 mrf mki mpa mta mla msl mco mhe mso msi msh mce mca mwo mnu mte mwa mke mma mth mtr : Nat) (npu nte nat_ nde nto nse nhu nga nsd nfa nba npl nen nnu nwr nra nik : Int32) (grf gki gpa gta : Nat → Int32) (p_ : Int32) (hy0 : 0 ≤ npu.toInt) (hy1 : npu.toInt ≤ 8) (hy2 : 4 ≤ nte.toInt) (hy3 : nte.toInt ≤ 40) (hy4 : 0 ≤ nat_.toInt) (hy5 : nat_.toInt ≤ 40) (hy6 : 0 ≤ nde.toInt) (hy7 : nde.toInt ≤ 24) (hy8 : 0 ≤ nhu.toInt) (hy9 : nhu.toInt ≤ 9) (hy10 : 0 ≤ nra.toInt) (hy11 : nra.toInt ≤ 2000) (hy12 : 0 ≤ nik.toInt) (hy13 : nik.toInt ≤ 1) (hy14 : 0 ≤ nse.toInt) (hy15 : nse.toInt ≤ 300) (hp_gki : zRg gki (0) 6) (hp_gpa : zRg gpa (0) 9) (hp_gta : zRg gta (0) 60) (hpz : Nat) : Met l yX8_pulls wsX8_pulls ({ frames := 3, cells := 0, slots := 0, locals := 67 }) (va_Pc [.ref m0, .int p_] (zW D (zKT cI cJ cZ cP cS) po [(zMO m0 npu nte nat_ nde nto nse nhu nga nsd nfa mrf mki mpa mta mla msl mco mhe mso msi msh mce mca mwo mnu mte nba npl nen nnu nwr mwa mke mma mth mtr nra nik), (mrf, .inl (cI, 8, .inl grf)), (mki, .inl (cI, 8, .inl gki)), (mpa, .inl (cI, 8, .inl gpa)), (mta, .inl (cI, 8, .inl gta))] hpz)) (va_Qi (fun (r : Int32) (u : (Int32) × (Int32) × (Int32) × (Int32) × (Nat → Int32)) => (0 ≤ u.1.toInt ∧ u.1.toInt ≤ 24) ∧ (((p_.toInt < 0 ∨ npu.toInt ≤ p_.toInt) ∧ r.toInt = -1 ∧ u.1 = nde ∧ u.2.2.1 = nse ∧ u.2.1 = nto ∧ u.2.2.2.1 = nsd) ∨ ((0 ≤ p_.toInt ∧ p_.toInt < npu.toInt) ∧ ((¬ (1 ≤ nde.toInt ∧ (gta p_.toNatClampNeg).toInt ≤ nse.toInt) ∧ r.toInt = -6 ∧ u.1 = nde ∧ u.2.2.1 = nse ∧ u.2.1 = nto ∧ u.2.2.2.1 = nsd) ∨ ((1 ≤ nde.toInt ∧ (gta p_.toNatClampNeg).toInt ≤ nse.toInt) ∧ zP1 (gki p_.toNatClampNeg).toInt (gpa p_.toNatClampNeg).toInt (gta p_.toNatClampNeg).toInt nhu.toInt (nde.toInt, nse.toInt, nto, nsd) = (u.1.toInt, u.2.2.1.toInt, u.2.1, u.2.2.2.1) ∧ r.toInt = u.1.toInt)))) ∧ (True)) (zB D [(zMO m0 npu nte nat_ nde nto nse nhu nga nsd nfa mrf mki mpa mta mla msl mco mhe mso msi msh mce mca mwo mnu mte nba npl nen nnu nwr mwa mke mma mth mtr nra nik), (mrf, .inl (cI, 8, .inl grf)), (mki, .inl (cI, 8, .inl gki)), (mpa, .inl (cI, 8, .inl gpa)), (mta, .inl (cI, 8, .inl gta))] hpz (fun (u : (Int32) × (Int32) × (Int32) × (Int32) × (Nat → Int32)) => [(zMO m0 npu nte nat_ u.1 u.2.1 u.2.2.1 nhu nga u.2.2.2.1 nfa mrf mki mpa mta mla msl mco mhe mso msi msh mce mca mwo mnu mte nba npl nen nnu nwr mwa mke mma mth mtr nra nik), (mrf, .inl (cI, 8, .inl u.2.2.2.2)), (mki, .inl (cI, 8, .inl gki)), (mpa, .inl (cI, 8, .inl gpa)), (mta, .inl (cI, 8, .inl gta))])) (va_A [(zMO m0 npu nte nat_ nde nto nse nhu nga nsd nfa mrf mki mpa mta mla msl mco mhe mso msi msh mce mca mwo mnu mte nba npl nen nnu nwr mwa mke mma mth mtr nra nik), (mrf, .inl (cI, 8, .inl grf)), (mki, .inl (cI, 8, .inl gki)), (mpa, .inl (cI, 8, .inl gpa)), (mta, .inl (cI, 8, .inl gta))] hpz)) 0 0 (va_A [(zMO m0 npu nte nat_ nde nto nse nhu nga nsd nfa mrf mki mpa mta mla msl mco mhe mso msi msh mce mca mwo mnu mte nba npl nen nnu nwr mwa mke mma mth mtr nra nik), (mrf, .inl (cI, 8, .inl grf)), (mki, .inl (cI, 8, .inl gki)), (mpa, .inl (cI, 8, .inl gpa)), (mta, .inl (cI, 8, .inl gta))] hpz) := by
  refine Met.ofW (cc := cX8_pulls) (maxL := 2) (ret := (some .int)) (by decide) rfl ?_
  intro p e s m args below meth c s₁ B hml hv
  obtain ⟨rfl, hsz, hP, hK, hD0, hN, hZ⟩ := hv
  have hx := B.exec
  have hb := B.bytes
  have hr := B.returns
  have hts := atoms_spec (ws := wsX8_pulls) B.pre
  have hown : s.vm.findClass RX8 = some m.cls := findClass_of_methodNamed B.named
  have hlocks := B.notSynchronized
  subst hsz
  have hD := hD0.self (sz := s.heap.size)
  have hA := zA_of hD
  have hl := lv_entry ([.ref m0, .int p_]) (n := 2) (Nat.le_of_ble_eq_true rfl)
  rw [lg_entry_eq]
  generalize (lg_sl ([.ref m0, .int p_]) ++ List.replicate (2 - (lg_sl ([.ref m0, .int p_])).length) Slot.unset).toArray = ls at hl ⊢
  replace hl : lv_has ls 2 [(0, .ref m0), (1, .int p_)] := hl
  refine zw_begin hP hD (fun H locs hP1 hS => ?_)
  clear hP
  have hP := hP1
  clear hP1
  refine lv_aload_n hx hb dX8_pulls_0 rfl (lv_at hl 0 rfl) ?_
  refine lv_iload_n hx hb dX8_pulls_1 rfl (lv_at hl 1 rfl) ?_
  refine zc_V (As := [.int p_]) (rest := []) ⟨hx, hb, hml, hown, hts⟩ (c_M_isPull l D cI cJ cZ cP cS po m0 mrf mki mpa mta mla msl mco mhe mso msi msh mce mca mwo mnu mte mwa mke mma mth mtr (npu) (nte) (nat_) (nde) (nto) (nse) (nhu) (nga) (nsd) (nfa) (nba) (npl) (nen) (nnu) (nwr) (nra) (nik) (p_) hy0 hy1 hy2 hy3 hy4 hy5 hy6 hy7 hy8 hy9 hy10 hy11 hy12 hy13) (cwV 1 hts gX8_pulls_X8_isPull rfl rfl rfl ⟨rfl, dh_X8_isPull⟩ ⟨Nat.le_of_ble_eq_true rfl, Nat.le_of_ble_eq_true rfl⟩) hK hN (hZ.kept hS) hP (hP.sub [0] rfl) (va_recv (q := (RX8, TX8, 38)) hK hP (ci := 8) (q0 := 0) rfl rfl) rfl hl.1 rfl (Nat.le_of_ble_eq_true rfl) dX8_pulls_2 ⟨Nat.le_of_ble_eq_true rfl, Nat.le_of_ble_eq_true rfl⟩ (fun r_1 hr_1 => ?_)
  rcases hr_1 with ⟨rfl, g_2⟩ | ⟨rfl, g_3, g_4⟩ | ⟨rfl, g_5, g_6⟩
  · refine lv_if_ne (tgt := 14) hx hb dX8_pulls_5 (by decide) (fun c_7 => ?_) (fun c_7 => ?_)
    · exact absurd c_7 (by decide)
    · refine lv_aload_n hx hb dX8_pulls_8 rfl (lv_at hl 0 rfl) ?_
      refine lv_iconst (v := (-1)) hx hb dX8_pulls_9 (by decide) ?_
      skip
      refine zw_V (As := [.int (-1)]) (rest := []) (wr := [(mki, .inl (cI, 8, .inl gki)), (mpa, .inl (cI, 8, .inl gpa)), (mta, .inl (cI, 8, .inl gta))]) ⟨hx, hb, hml, hown, hts⟩ (c_M_no_1 l D cI cJ cZ cP cS po m0 mrf mki mpa mta mla msl mco mhe mso msi msh mce mca mwo mnu mte mwa mke mma mth mtr (npu) (nte) (nat_) (nde) (nto) (nse) (nhu) (nga) (nsd) (nfa) (nba) (npl) (nen) (nnu) (nwr) (nra) (nik) grf hy0 hy1 hy2 hy3 hy4 hy5 hy6 hy7 hy8 hy9 hy10 hy11 hy12 hy13 H.size) (cwV 1 hts gX8_pulls_X8_no rfl rfl rfl ⟨rfl, dh_X8_no⟩ ⟨Nat.le_of_ble_eq_true rfl, Nat.le_of_ble_eq_true rfl⟩) hK hN (hZ.kept hS) hP hD hS hA [0, 1] [2, 3, 4] rfl rfl (by decide) (by decide) (by decide) (va_recv (q := (RX8, TX8, 38)) hK hP (ci := 8) (q0 := 0) rfl rfl) rfl hl.1 rfl (Nat.le_of_ble_eq_true rfl) dX8_pulls_10 ⟨Nat.le_of_ble_eq_true rfl, Nat.le_of_ble_eq_true rfl⟩ (fun r_8 u_9 H locs hr_8 hP hD hS => ?_)
      obtain ⟨q_10, rfl⟩ : ∃ z, z = u_9 := ⟨_, rfl⟩
      have h9R := zRe (ws' := [(mki, .inl (cI, 8, .inl gki)), (mpa, .inl (cI, 8, .inl gpa)), (mta, .inl (cI, 8, .inl gta)), (zMO m0 npu nte nat_ nde nto nse nhu nga nsd nfa mrf mki mpa mta mla msl mco mhe mso msi msh mce mca mwo mnu mte nba npl nen nnu nwr mwa mke mma mth mtr nra nik), (mrf, .inl (cI, 8, .inl q_10))]) hP hD rfl
      clear hP hD
      obtain ⟨hP, hD⟩ := h9R
      obtain rfl := hr_8
      exact W.iret (v := (-1)) hx hb hr (fun t ht hW => ⟨⟨(-1), (nde, nto, nse, nsd, q_10), rfl, ⟨(show 0 ≤ nde.toInt ∧ nde.toInt ≤ 24 from ⟨hy6, hy7⟩), (show ((p_.toInt < 0 ∨ npu.toInt ≤ p_.toInt) ∧ ((-1) : Int32).toInt = -1 ∧ nde = nde ∧ nse = nse ∧ nto = nto ∧ nsd = nsd) ∨ ((0 ≤ p_.toInt ∧ p_.toInt < npu.toInt) ∧ ((¬ (1 ≤ nde.toInt ∧ (gta p_.toNatClampNeg).toInt ≤ nse.toInt) ∧ ((-1) : Int32).toInt = -6 ∧ nde = nde ∧ nse = nse ∧ nto = nto ∧ nsd = nsd) ∨ ((1 ≤ nde.toInt ∧ (gta p_.toNatClampNeg).toInt ≤ nse.toInt) ∧ zP1 (gki p_.toNatClampNeg).toInt (gpa p_.toNatClampNeg).toInt (gta p_.toNatClampNeg).toInt nhu.toInt (nde.toInt, nse.toInt, nto, nsd) = (nde.toInt, nse.toInt, nto, nsd) ∧ ((-1) : Int32).toInt = nde.toInt))) from by (have k9 : ((-1) : Int32).toInt = -1 := (by decide); exact Or.inl ⟨by omega, by omega, rfl, rfl, rfl, rfl⟩)), trivial⟩, zRet ht hP hD [3, 4, 0, 1, 2] (by decide) rfl⟩, hS.F ht⟩) hS.2.2 dX8_pulls_13
  · refine lv_if_ne (tgt := 14) hx hb dX8_pulls_5 (by decide) (fun c_11 => ?_) (fun c_11 => ?_)
    · exact absurd c_11 (by decide)
    · refine lv_aload_n hx hb dX8_pulls_8 rfl (lv_at hl 0 rfl) ?_
      refine lv_iconst (v := (-1)) hx hb dX8_pulls_9 (by decide) ?_
      skip
      refine zw_V (As := [.int (-1)]) (rest := []) (wr := [(mki, .inl (cI, 8, .inl gki)), (mpa, .inl (cI, 8, .inl gpa)), (mta, .inl (cI, 8, .inl gta))]) ⟨hx, hb, hml, hown, hts⟩ (c_M_no_1 l D cI cJ cZ cP cS po m0 mrf mki mpa mta mla msl mco mhe mso msi msh mce mca mwo mnu mte mwa mke mma mth mtr (npu) (nte) (nat_) (nde) (nto) (nse) (nhu) (nga) (nsd) (nfa) (nba) (npl) (nen) (nnu) (nwr) (nra) (nik) grf hy0 hy1 hy2 hy3 hy4 hy5 hy6 hy7 hy8 hy9 hy10 hy11 hy12 hy13 H.size) (cwV 1 hts gX8_pulls_X8_no rfl rfl rfl ⟨rfl, dh_X8_no⟩ ⟨Nat.le_of_ble_eq_true rfl, Nat.le_of_ble_eq_true rfl⟩) hK hN (hZ.kept hS) hP hD hS hA [0, 1] [2, 3, 4] rfl rfl (by decide) (by decide) (by decide) (va_recv (q := (RX8, TX8, 38)) hK hP (ci := 8) (q0 := 0) rfl rfl) rfl hl.1 rfl (Nat.le_of_ble_eq_true rfl) dX8_pulls_10 ⟨Nat.le_of_ble_eq_true rfl, Nat.le_of_ble_eq_true rfl⟩ (fun r_12 u_13 H locs hr_12 hP hD hS => ?_)
      obtain ⟨q_14, rfl⟩ : ∃ z, z = u_13 := ⟨_, rfl⟩
      have h9R := zRe (ws' := [(mki, .inl (cI, 8, .inl gki)), (mpa, .inl (cI, 8, .inl gpa)), (mta, .inl (cI, 8, .inl gta)), (zMO m0 npu nte nat_ nde nto nse nhu nga nsd nfa mrf mki mpa mta mla msl mco mhe mso msi msh mce mca mwo mnu mte nba npl nen nnu nwr mwa mke mma mth mtr nra nik), (mrf, .inl (cI, 8, .inl q_14))]) hP hD rfl
      clear hP hD
      obtain ⟨hP, hD⟩ := h9R
      obtain rfl := hr_12
      exact W.iret (v := (-1)) hx hb hr (fun t ht hW => ⟨⟨(-1), (nde, nto, nse, nsd, q_14), rfl, ⟨(show 0 ≤ nde.toInt ∧ nde.toInt ≤ 24 from ⟨hy6, hy7⟩), (show ((p_.toInt < 0 ∨ npu.toInt ≤ p_.toInt) ∧ ((-1) : Int32).toInt = -1 ∧ nde = nde ∧ nse = nse ∧ nto = nto ∧ nsd = nsd) ∨ ((0 ≤ p_.toInt ∧ p_.toInt < npu.toInt) ∧ ((¬ (1 ≤ nde.toInt ∧ (gta p_.toNatClampNeg).toInt ≤ nse.toInt) ∧ ((-1) : Int32).toInt = -6 ∧ nde = nde ∧ nse = nse ∧ nto = nto ∧ nsd = nsd) ∨ ((1 ≤ nde.toInt ∧ (gta p_.toNatClampNeg).toInt ≤ nse.toInt) ∧ zP1 (gki p_.toNatClampNeg).toInt (gpa p_.toNatClampNeg).toInt (gta p_.toNatClampNeg).toInt nhu.toInt (nde.toInt, nse.toInt, nto, nsd) = (nde.toInt, nse.toInt, nto, nsd) ∧ ((-1) : Int32).toInt = nde.toInt))) from by (have k9 : ((-1) : Int32).toInt = -1 := (by decide); exact Or.inl ⟨by omega, by omega, rfl, rfl, rfl, rfl⟩)), trivial⟩, zRet ht hP hD [3, 4, 0, 1, 2] (by decide) rfl⟩, hS.F ht⟩) hS.2.2 dX8_pulls_13
  · refine lv_if_ne (tgt := 14) hx hb dX8_pulls_5 (by decide) (fun c_15 => ?_) (fun c_15 => ?_)
    · refine lv_aload_n hx hb dX8_pulls_14 rfl (lv_at hl 0 rfl) ?_
      refine lv_iload_n hx hb dX8_pulls_15 rfl (lv_at hl 1 rfl) ?_
      refine lv_aload_n hx hb dX8_pulls_16 rfl (lv_at hl 0 rfl) ?_
      refine va_get (D := D) (ci := 8) (v := .int nde) (C := RX8) (T := TX8) (N := 38) hx hb hts hi_X8_pulls_8 hown hK hP 0 rfl rfl 3 (by decide) (hts (.fieldLink RX8 115 "TheLiningsInItModel" "depth" "I") (List.mem_of_getElem? (i := 1) rfl)) (fun _ h9 => h9) rfl dX8_pulls_17 ?_
      refine lv_aload_n hx hb dX8_pulls_20 rfl (lv_at hl 0 rfl) ?_
      refine va_get (D := D) (ci := 8) (v := .int nse) (C := RX8) (T := TX8) (N := 38) hx hb hts hi_X8_pulls_8 hown hK hP 0 rfl rfl 5 (by decide) (hts (.fieldLink RX8 13 "TheLiningsInItModel" "seconds" "I") (List.mem_of_getElem? (i := 2) rfl)) (fun _ h9 => h9) rfl dX8_pulls_21 ?_
      refine zc_V (As := [.int p_, .int nde, .int nse]) (rest := []) ⟨hx, hb, hml, hown, hts⟩ (c_F_M_mayBe l D cI cJ cZ cP cS po m0 mrf mki mpa mta mla msl mco mhe mso msi msh mce mca mwo mnu mte mwa mke mma mth mtr (npu) (nte) (nat_) (nde) (nto) (nse) (nhu) (nga) (nsd) (nfa) (nba) (npl) (nen) (nnu) (nwr) (nra) (nik) gta (p_) (nde) (nse) hy0 hy1 hy2 hy3 hy4 hy5 hy6 hy7 hy8 hy9 hy10 hy11 hy12 hy13 (by omega) (by omega) hp_gta) (cwV 3 hts gX8_pulls_X8_mayBe rfl rfl rfl ⟨rfl, dh_X8_mayBe⟩ ⟨Nat.le_of_ble_eq_true rfl, Nat.le_of_ble_eq_true rfl⟩) hK hN (hZ.kept hS) hP (hP.sub [0, 4] rfl) (va_recv (q := (RX8, TX8, 38)) hK hP (ci := 8) (q0 := 0) rfl rfl) rfl hl.1 rfl (Nat.le_of_ble_eq_true rfl) dX8_pulls_24 ⟨Nat.le_of_ble_eq_true rfl, Nat.le_of_ble_eq_true rfl⟩ (fun r_16 hr_16 => ?_)
      obtain ⟨g_17, g_18, hsr_16_0⟩ := hr_16
      refine lv_if_ne (tgt := 37) hx hb dX8_pulls_27 (by decide) (fun c_19 => ?_) (fun c_19 => ?_)
      · have fc_19 : r_16.toInt ≠ 0 := zf_ne c_19 rfl (by decide)
        have htl9 : (gta p_.toNatClampNeg).toInt ≤ nse.toInt := (hsr_16_0.mp (by omega)).2
        refine lv_aload_n hx hb dX8_pulls_37 rfl (lv_at hl 0 rfl) ?_
        refine lv_iload_n hx hb dX8_pulls_38 rfl (lv_at hl 1 rfl) ?_
        skip
        refine zw_Vv (As := [.int p_]) (rest := []) (wr := [(mrf, .inl (cI, 8, .inl grf))]) ⟨hx, hb, hml, hown, hts⟩ (c_F_M_makes l D cI cJ cZ cP cS po m0 mrf mki mpa mta mla msl mco mhe mso msi msh mce mca mwo mnu mte mwa mke mma mth mtr (npu) (nte) (nat_) (nde) (nto) (nse) (nhu) (nga) (nsd) (nfa) (nba) (npl) (nen) (nnu) (nwr) (nra) (nik) gki gpa gta (p_) hy0 hy1 hy2 hy3 hy4 hy5 hy6 hy7 hy8 hy9 hy10 hy11 hy12 hy13 (by omega) (by omega) hy14 hy15 (by first | assumption | omega) hp_gki hp_gpa hp_gta H.size) (cwV 1 hts gX8_pulls_X8_makes rfl rfl rfl ⟨rfl, dh_X8_makes⟩ ⟨Nat.le_of_ble_eq_true rfl, Nat.le_of_ble_eq_true rfl⟩) hK hN (hZ.kept hS) hP hD hS hA [0, 2, 3, 4] [1] rfl rfl (by decide) (by decide) (by decide) (va_recv (q := (RX8, TX8, 38)) hK hP (ci := 8) (q0 := 0) rfl rfl) rfl hl.1 rfl (Nat.le_of_ble_eq_true rfl) dX8_pulls_39 ⟨Nat.le_of_ble_eq_true rfl, Nat.le_of_ble_eq_true rfl⟩ (fun u_21 H locs hr_20 hP hD hS => ?_)
        obtain ⟨q_22, q_23, q_24, q_25⟩ := u_21
        try dsimp only at hr_20
        obtain ⟨hbq_22, hsr_20_0, hsr_20_1, hr_20⟩ := hr_20
        have h9R := zRe (ws' := [(mrf, .inl (cI, 8, .inl grf)), (zMO m0 npu nte nat_ q_22 q_23 q_24 nhu nga q_25 nfa mrf mki mpa mta mla msl mco mhe mso msi msh mce mca mwo mnu mte nba npl nen nnu nwr mwa mke mma mth mtr nra nik), (mki, .inl (cI, 8, .inl gki)), (mpa, .inl (cI, 8, .inl gpa)), (mta, .inl (cI, 8, .inl gta))]) hP hD rfl
        clear hP hD
        obtain ⟨hP, hD⟩ := h9R
        refine lv_aload_n hx hb dX8_pulls_42 rfl (lv_at hl 0 rfl) ?_
        refine va_get (D := D) (ci := 8) (v := .int q_22) (C := RX8) (T := TX8) (N := 38) hx hb hts hi_X8_pulls_8 hown hK hP 1 rfl rfl 3 (by decide) (hts (.fieldLink RX8 115 "TheLiningsInItModel" "depth" "I") (List.mem_of_getElem? (i := 1) rfl)) (fun _ h9 => h9) rfl dX8_pulls_43 ?_
        exact W.iret (v := q_22) hx hb hr (fun t ht hW => ⟨⟨q_22, (q_22, q_23, q_24, q_25, grf), rfl, ⟨(show 0 ≤ q_22.toInt ∧ q_22.toInt ≤ 24 from hbq_22), (show ((p_.toInt < 0 ∨ npu.toInt ≤ p_.toInt) ∧ (q_22 : Int32).toInt = -1 ∧ q_22 = nde ∧ q_24 = nse ∧ q_23 = nto ∧ q_25 = nsd) ∨ ((0 ≤ p_.toInt ∧ p_.toInt < npu.toInt) ∧ ((¬ (1 ≤ nde.toInt ∧ (gta p_.toNatClampNeg).toInt ≤ nse.toInt) ∧ (q_22 : Int32).toInt = -6 ∧ q_22 = nde ∧ q_24 = nse ∧ q_23 = nto ∧ q_25 = nsd) ∨ ((1 ≤ nde.toInt ∧ (gta p_.toNatClampNeg).toInt ≤ nse.toInt) ∧ zP1 (gki p_.toNatClampNeg).toInt (gpa p_.toNatClampNeg).toInt (gta p_.toNatClampNeg).toInt nhu.toInt (nde.toInt, nse.toInt, nto, nsd) = (q_22.toInt, q_24.toInt, q_23, q_25) ∧ (q_22 : Int32).toInt = q_22.toInt))) from by (exact Or.inr ⟨by omega, Or.inr ⟨hsr_16_0.mp (by omega), hsr_20_0, by first | rfl | omega⟩⟩)), trivial⟩, zRet ht hP hD [1, 0, 2, 3, 4] (by decide) rfl⟩, hS.F ht⟩) hS.2.2 dX8_pulls_46
      · have fc_19 : r_16.toInt = 0 := zf_eq c_19 rfl (by decide)
        refine lv_aload_n hx hb dX8_pulls_30 rfl (lv_at hl 0 rfl) ?_
        refine lv_bipush (v := (-6)) hx hb dX8_pulls_31 (by decide) ?_
        skip
        refine zw_V (As := [.int (-6)]) (rest := []) (wr := [(mki, .inl (cI, 8, .inl gki)), (mpa, .inl (cI, 8, .inl gpa)), (mta, .inl (cI, 8, .inl gta))]) ⟨hx, hb, hml, hown, hts⟩ (c_M_no_6 l D cI cJ cZ cP cS po m0 mrf mki mpa mta mla msl mco mhe mso msi msh mce mca mwo mnu mte mwa mke mma mth mtr (npu) (nte) (nat_) (nde) (nto) (nse) (nhu) (nga) (nsd) (nfa) (nba) (npl) (nen) (nnu) (nwr) (nra) (nik) grf hy0 hy1 hy2 hy3 hy4 hy5 hy6 hy7 hy8 hy9 hy10 hy11 hy12 hy13 H.size) (cwV 1 hts gX8_pulls_X8_no rfl rfl rfl ⟨rfl, dh_X8_no⟩ ⟨Nat.le_of_ble_eq_true rfl, Nat.le_of_ble_eq_true rfl⟩) hK hN (hZ.kept hS) hP hD hS hA [0, 1] [2, 3, 4] rfl rfl (by decide) (by decide) (by decide) (va_recv (q := (RX8, TX8, 38)) hK hP (ci := 8) (q0 := 0) rfl rfl) rfl hl.1 rfl (Nat.le_of_ble_eq_true rfl) dX8_pulls_33 ⟨Nat.le_of_ble_eq_true rfl, Nat.le_of_ble_eq_true rfl⟩ (fun r_26 u_27 H locs hr_26 hP hD hS => ?_)
        obtain ⟨q_28, rfl⟩ : ∃ z, z = u_27 := ⟨_, rfl⟩
        have h9R := zRe (ws' := [(mki, .inl (cI, 8, .inl gki)), (mpa, .inl (cI, 8, .inl gpa)), (mta, .inl (cI, 8, .inl gta)), (zMO m0 npu nte nat_ nde nto nse nhu nga nsd nfa mrf mki mpa mta mla msl mco mhe mso msi msh mce mca mwo mnu mte nba npl nen nnu nwr mwa mke mma mth mtr nra nik), (mrf, .inl (cI, 8, .inl q_28))]) hP hD rfl
        clear hP hD
        obtain ⟨hP, hD⟩ := h9R
        obtain rfl := hr_26
        exact W.iret (v := (-6)) hx hb hr (fun t ht hW => ⟨⟨(-6), (nde, nto, nse, nsd, q_28), rfl, ⟨(show 0 ≤ nde.toInt ∧ nde.toInt ≤ 24 from ⟨hy6, hy7⟩), (show ((p_.toInt < 0 ∨ npu.toInt ≤ p_.toInt) ∧ ((-6) : Int32).toInt = -1 ∧ nde = nde ∧ nse = nse ∧ nto = nto ∧ nsd = nsd) ∨ ((0 ≤ p_.toInt ∧ p_.toInt < npu.toInt) ∧ ((¬ (1 ≤ nde.toInt ∧ (gta p_.toNatClampNeg).toInt ≤ nse.toInt) ∧ ((-6) : Int32).toInt = -6 ∧ nde = nde ∧ nse = nse ∧ nto = nto ∧ nsd = nsd) ∨ ((1 ≤ nde.toInt ∧ (gta p_.toNatClampNeg).toInt ≤ nse.toInt) ∧ zP1 (gki p_.toNatClampNeg).toInt (gpa p_.toNatClampNeg).toInt (gta p_.toNatClampNeg).toInt nhu.toInt (nde.toInt, nse.toInt, nto, nsd) = (nde.toInt, nse.toInt, nto, nsd) ∧ ((-6) : Int32).toInt = nde.toInt))) from by (have k9 : ((-6) : Int32).toInt = -6 := (by decide); exact Or.inr ⟨by omega, Or.inl ⟨fun z => by (have z2 := hsr_16_0.mpr z; omega), by omega, rfl, rfl, rfl, rfl⟩⟩)), trivial⟩, zRet ht hP hD [3, 4, 0, 1, 2] (by decide) rfl⟩, hS.F ht⟩) hS.2.2 dX8_pulls_36
    · exact absurd c_15 (by decide)
set_option maxHeartbeats 4000000 in
set_option maxRecDepth 100000 in
theorem c_F_M_closes (l : Launch) (D : va_G) (cI cJ cZ cP cS : ClassId) (po : zPool) (m0 mrf mki mpa mta mla msl mco mhe mso msi msh mce mca mwo mnu mte mwa mke mma mth mtr : Nat) (npu nte nat_ nde nto nse nhu nga nsd nfa nba npl nen nnu nwr nra nik : Int32) (gla gsl : Nat → Int32) (hy0 : 0 ≤ npu.toInt) (hy1 : npu.toInt ≤ 8) (hy2 : 4 ≤ nte.toInt) (hy3 : nte.toInt ≤ 40) (hy4 : 0 ≤ nat_.toInt) (hy5 : nat_.toInt ≤ 40) (hy6 : 0 ≤ nde.toInt) (hy7 : nde.toInt ≤ 24) (hy8 : 0 ≤ nhu.toInt) (hy9 : nhu.toInt ≤ 9) (hy10 : 0 ≤ nra.toInt) (hy11 : nra.toInt ≤ 2000) (hy12 : 0 ≤ nik.toInt) (hy13 : nik.toInt ≤ 1) (hy14 : nat_.toInt ≤ nte.toInt) (hy15 : 1 ≤ nga.toInt) (hy16 : nga.toInt ≤ 9) (hp_gla : zRg gla (0) 1) (hp_gsl : zRg gsl (0) 9) (hpz : Nat) : Met l yX8_closes wsX8_closes ({ frames := 1, cells := 0, slots := 0, locals := 21 }) (va_Pc [.ref m0] (zW D (zKT cI cJ cZ cP cS) po [(zMO m0 npu nte nat_ nde nto nse nhu nga nsd nfa mrf mki mpa mta mla msl mco mhe mso msi msh mce mca mwo mnu mte nba npl nen nnu nwr mwa mke mma mth mtr nra nik), (mla, .inl (cI, 40, .inl gla)), (msl, .inl (cI, 40, .inl gsl))] hpz)) (va_Qv (fun (u : (Int32) × (Int32) × (Int32)) => (0 ≤ u.1.toInt ∧ u.1.toInt ≤ 40) ∧ (0 ≤ u.2.1.toInt ∧ u.2.1.toInt ≤ 24) ∧ (zCz gla gsl nga.toInt nte.toInt (nte.toInt - nat_.toInt).toNat nat_.toInt nde.toInt nsd = (u.1.toInt, u.2.1.toInt, u.2.2)) ∧ (u.1.toInt ≤ nte.toInt) ∧ (True)) (zB D [(zMO m0 npu nte nat_ nde nto nse nhu nga nsd nfa mrf mki mpa mta mla msl mco mhe mso msi msh mce mca mwo mnu mte nba npl nen nnu nwr mwa mke mma mth mtr nra nik), (mla, .inl (cI, 40, .inl gla)), (msl, .inl (cI, 40, .inl gsl))] hpz (fun (u : (Int32) × (Int32) × (Int32)) => [(zMO m0 npu nte u.1 u.2.1 nto nse nhu nga u.2.2 nfa mrf mki mpa mta mla msl mco mhe mso msi msh mce mca mwo mnu mte nba npl nen nnu nwr mwa mke mma mth mtr nra nik), (mla, .inl (cI, 40, .inl gla)), (msl, .inl (cI, 40, .inl gsl))])) (va_A [(zMO m0 npu nte nat_ nde nto nse nhu nga nsd nfa mrf mki mpa mta mla msl mco mhe mso msi msh mce mca mwo mnu mte nba npl nen nnu nwr mwa mke mma mth mtr nra nik), (mla, .inl (cI, 40, .inl gla)), (msl, .inl (cI, 40, .inl gsl))] hpz)) 0 0 (va_A [(zMO m0 npu nte nat_ nde nto nse nhu nga nsd nfa mrf mki mpa mta mla msl mco mhe mso msi msh mce mca mwo mnu mte nba npl nen nnu nwr mwa mke mma mth mtr nra nik), (mla, .inl (cI, 40, .inl gla)), (msl, .inl (cI, 40, .inl gsl))] hpz) := by
  refine Met.ofW (cc := cX8_closes) (maxL := 1) (ret := none) (by decide) rfl ?_
  intro p e s m args below meth c s₁ B hml hv
  obtain ⟨rfl, hsz, hP, hK, hD0, hN, hZ⟩ := hv
  have hx := B.exec
  have hb := B.bytes
  have hr := B.returns
  have hts := atoms_spec (ws := wsX8_closes) B.pre
  have hown : s.vm.findClass RX8 = some m.cls := findClass_of_methodNamed B.named
  have hlocks := B.notSynchronized
  subst hsz
  have hD := hD0.self (sz := s.heap.size)
  have hA := zA_of hD
  have hl := lv_entry ([.ref m0]) (n := 1) (Nat.le_of_ble_eq_true rfl)
  rw [lg_entry_eq]
  generalize (lg_sl ([.ref m0]) ++ List.replicate (1 - (lg_sl ([.ref m0])).length) Slot.unset).toArray = ls at hl ⊢
  replace hl : lv_has ls 1 [(0, .ref m0)] := hl
  refine zw_begin hP hD (fun H locs hP1 hS => ?_)
  clear hP
  have hP := hP1
  clear hP1
  obtain ⟨i_0, hi_0⟩ : ∃ i : Int32, i = nat_ := ⟨_, rfl⟩
  replace hl : lv_has ls 1 [(0, .ref m0)] := lv_sub hl [0] rfl
  replace hP : va_P D vwCl [(zMO m0 npu nte i_0 nde nto nse nhu nga nsd nfa mrf mki mpa mta mla msl mco mhe mso msi msh mce mca mwo mnu mte nba npl nen nnu nwr mwa mke mma mth mtr nra nik), (mla, .inl (cI, 40, .inl gla)), (msl, .inl (cI, 40, .inl gsl))] H := by rw [hi_0]; exact hP
  replace hD : va_D (va_A [(zMO m0 npu nte nat_ nde nto nse nhu nga nsd nfa mrf mki mpa mta mla msl mco mhe mso msi msh mce mca mwo mnu mte nba npl nen nnu nwr mwa mke mma mth mtr nra nik), (mla, .inl (cI, 40, .inl gla)), (msl, .inl (cI, 40, .inl gsl))] s.heap.size) [(zMO m0 npu nte i_0 nde nto nse nhu nga nsd nfa mrf mki mpa mta mla msl mco mhe mso msi msh mce mca mwo mnu mte nba npl nen nnu nwr mwa mke mma mth mtr nra nik), (mla, .inl (cI, 40, .inl gla)), (msl, .inl (cI, 40, .inl gsl))] := by rw [hi_0]; exact hD
  have h1i_0 : i_0.toInt = nat_.toInt := by rw [hi_0]
  obtain ⟨nfu, hni_0⟩ : ∃ nq9 : Nat, nte.toInt ≤ i_0.toInt + (nq9 : Int) := ⟨((nte.toInt : Int) - nat_.toInt).toNat, by omega⟩
  have hloi_0 : 0 ≤ i_0.toInt := by omega
  obtain ⟨v_1, hv_1⟩ : ∃ g : Int32, g = nsd := ⟨_, rfl⟩
  replace hP : va_P D vwCl [(zMO m0 npu nte i_0 nde nto nse nhu nga v_1 nfa mrf mki mpa mta mla msl mco mhe mso msi msh mce mca mwo mnu mte nba npl nen nnu nwr mwa mke mma mth mtr nra nik), (mla, .inl (cI, 40, .inl gla)), (msl, .inl (cI, 40, .inl gsl))] H := by rw [hv_1]; exact hP
  replace hD : va_D (va_A [(zMO m0 npu nte nat_ nde nto nse nhu nga nsd nfa mrf mki mpa mta mla msl mco mhe mso msi msh mce mca mwo mnu mte nba npl nen nnu nwr mwa mke mma mth mtr nra nik), (mla, .inl (cI, 40, .inl gla)), (msl, .inl (cI, 40, .inl gsl))] s.heap.size) [(zMO m0 npu nte i_0 nde nto nse nhu nga v_1 nfa mrf mki mpa mta mla msl mco mhe mso msi msh mce mca mwo mnu mte nba npl nen nnu nwr mwa mke mma mth mtr nra nik), (mla, .inl (cI, 40, .inl gla)), (msl, .inl (cI, 40, .inl gsl))] := by rw [hv_1]; exact hD
  have hvi_0_0 : zCz gla gsl nga.toInt nte.toInt (nte.toInt - nat_.toInt).toNat nat_.toInt nde.toInt nsd = zCz gla gsl nga.toInt nte.toInt (nte.toInt - i_0.toInt).toNat i_0.toInt nde.toInt (v_1 : Int32) := by
    (try rw [hi_0]); (try rw [hv_1]); first | done | rfl
  have hvi_0_1 : i_0.toInt ≤ nte.toInt := by
    (try rw [hi_0]); (try rw [hv_1]); omega
  clear h1i_0 hi_0 hv_1
  skip
  revert hni_0
  revert hloi_0
  revert hvi_0_1
  revert hvi_0_0
  revert hl
  revert hS
  revert hD
  revert hP
  revert ls
  revert locs
  revert H
  revert v_1
  revert i_0
  induction nfu with
  | zero =>
    intro i_0 v_1 H locs ls hP hD hS hl hvi_0_0 hvi_0_1 hloi_0 hni_0
    have hzi_0 : nte.toInt ≤ i_0.toInt := by omega
    refine lv_aload_n hx hb dX8_closes_0 rfl (lv_at hl 0 rfl) ?_
    refine va_get (D := D) (ci := 8) (v := .int i_0) (C := RX8) (T := TX8) (N := 38) hx hb hts hi_X8_closes_8 hown hK hP 0 rfl rfl 2 (by decide) (hts (.fieldLink RX8 122 "TheLiningsInItModel" "at" "I") (List.mem_of_getElem? (i := 1) rfl)) (fun _ h9 => h9) rfl dX8_closes_1 ?_
    refine lv_aload_n hx hb dX8_closes_4 rfl (lv_at hl 0 rfl) ?_
    refine va_get (D := D) (ci := 8) (v := .int nte) (C := RX8) (T := TX8) (N := 38) hx hb hts hi_X8_closes_8 hown hK hP 0 rfl rfl 1 (by decide) (hts (.fieldLink RX8 7 "TheLiningsInItModel" "teeth" "I") (List.mem_of_getElem? (i := 2) rfl)) (fun _ h9 => h9) rfl dX8_closes_5 ?_
    refine lv_icmp_ge (tgt := 84) hx hb dX8_closes_8 (by decide) (fun c_2 => ?_) (fun c_2 => ?_)
    · have fc_2 : nte.toInt ≤ i_0.toInt := zf_le c_2 rfl rfl
      exact W.vret hx hb hr (fun t ht hW => ⟨⟨(i_0, nde, v_1), rfl, ⟨(show 0 ≤ i_0.toInt ∧ i_0.toInt ≤ 40 from ⟨by omega, by omega⟩), (show 0 ≤ nde.toInt ∧ nde.toInt ≤ 24 from ⟨hy6, hy7⟩), (show zCz gla gsl nga.toInt nte.toInt (nte.toInt - nat_.toInt).toNat nat_.toInt nde.toInt nsd = (i_0.toInt, nde.toInt, v_1) from by (rw [hvi_0_0, show (nte.toInt - i_0.toInt).toNat = 0 from by omega]; rfl)), (show i_0.toInt ≤ nte.toInt from by omega), trivial⟩, zRet ht hP hD [0, 1, 2] (by decide) rfl⟩, hS.F ht⟩) hS.2.2 dX8_closes_84
    · exfalso; have fc_2 : i_0.toInt < nte.toInt := zf_nle c_2 rfl rfl; omega
  | succ nfu ih =>
    intro i_0 v_1 H locs ls hP hD hS hl hvi_0_0 hvi_0_1 hloi_0 hni_0
    refine lv_aload_n hx hb dX8_closes_0 rfl (lv_at hl 0 rfl) ?_
    refine va_get (D := D) (ci := 8) (v := .int i_0) (C := RX8) (T := TX8) (N := 38) hx hb hts hi_X8_closes_8 hown hK hP 0 rfl rfl 2 (by decide) (hts (.fieldLink RX8 122 "TheLiningsInItModel" "at" "I") (List.mem_of_getElem? (i := 1) rfl)) (fun _ h9 => h9) rfl dX8_closes_1 ?_
    refine lv_aload_n hx hb dX8_closes_4 rfl (lv_at hl 0 rfl) ?_
    refine va_get (D := D) (ci := 8) (v := .int nte) (C := RX8) (T := TX8) (N := 38) hx hb hts hi_X8_closes_8 hown hK hP 0 rfl rfl 1 (by decide) (hts (.fieldLink RX8 7 "TheLiningsInItModel" "teeth" "I") (List.mem_of_getElem? (i := 2) rfl)) (fun _ h9 => h9) rfl dX8_closes_5 ?_
    refine lv_icmp_ge (tgt := 84) hx hb dX8_closes_8 (by decide) (fun c_3 => ?_) (fun c_3 => ?_)
    · have fc_3 : nte.toInt ≤ i_0.toInt := zf_le c_3 rfl rfl
      exact W.vret hx hb hr (fun t ht hW => ⟨⟨(i_0, nde, v_1), rfl, ⟨(show 0 ≤ i_0.toInt ∧ i_0.toInt ≤ 40 from ⟨by omega, by omega⟩), (show 0 ≤ nde.toInt ∧ nde.toInt ≤ 24 from ⟨hy6, hy7⟩), (show zCz gla gsl nga.toInt nte.toInt (nte.toInt - nat_.toInt).toNat nat_.toInt nde.toInt nsd = (i_0.toInt, nde.toInt, v_1) from by (rw [hvi_0_0, show (nte.toInt - i_0.toInt).toNat = 0 from by omega]; rfl)), (show i_0.toInt ≤ nte.toInt from by omega), trivial⟩, zRet ht hP hD [0, 1, 2] (by decide) rfl⟩, hS.F ht⟩) hS.2.2 dX8_closes_84
    · have fc_3 : i_0.toInt < nte.toInt := zf_nle c_3 rfl rfl
      refine lv_aload_n hx hb dX8_closes_11 rfl (lv_at hl 0 rfl) ?_
      refine lv_aload_n hx hb dX8_closes_12 rfl (lv_at hl 0 rfl) ?_
      refine va_get (D := D) (ci := 8) (v := .int i_0) (C := RX8) (T := TX8) (N := 38) hx hb hts hi_X8_closes_8 hown hK hP 0 rfl rfl 2 (by decide) (hts (.fieldLink RX8 122 "TheLiningsInItModel" "at" "I") (List.mem_of_getElem? (i := 1) rfl)) (fun _ h9 => h9) rfl dX8_closes_13 ?_
      refine zc_V (As := [.int i_0]) (rest := []) ⟨hx, hb, hml, hown, hts⟩ (c_F_M_isOpen l D cI cJ cZ cP cS po m0 mrf mki mpa mta mla msl mco mhe mso msi msh mce mca mwo mnu mte mwa mke mma mth mtr (npu) (nte) (i_0) (nde) (nto) (nse) (nhu) (nga) (v_1) (nfa) (nba) (npl) (nen) (nnu) (nwr) (nra) (nik) gla (i_0) hy0 hy1 hy2 hy3 (by omega) (by omega) hy6 hy7 hy8 hy9 hy10 hy11 hy12 hy13 (by omega) (by omega) hp_gla) (cwV 1 hts gX8_closes_X8_isOpen rfl rfl rfl ⟨rfl, dh_X8_isOpen⟩ ⟨Nat.le_of_ble_eq_true rfl, Nat.le_of_ble_eq_true rfl⟩) hK hN (hZ.kept hS) hP (hP.sub [0, 1] rfl) (va_recv (q := (RX8, TX8, 38)) hK hP (ci := 8) (q0 := 0) rfl rfl) rfl hl.1 rfl (Nat.le_of_ble_eq_true rfl) dX8_closes_16 ⟨Nat.le_of_ble_eq_true rfl, Nat.le_of_ble_eq_true rfl⟩ (fun r_4 hr_4 => ?_)
      obtain ⟨g_5, g_6, hsr_4_0⟩ := hr_4
      replace hsr_4_0 := zHid_i hsr_4_0
      refine lv_if_ne (tgt := 84) hx hb dX8_closes_19 (by decide) (fun c_7 => ?_) (fun c_7 => ?_)
      · have fc_7 : r_4.toInt ≠ 0 := zf_ne c_7 rfl (by decide)
        exact W.vret hx hb hr (fun t ht hW => ⟨⟨(i_0, nde, v_1), rfl, ⟨(show 0 ≤ i_0.toInt ∧ i_0.toInt ≤ 40 from ⟨by omega, by omega⟩), (show 0 ≤ nde.toInt ∧ nde.toInt ≤ 24 from ⟨hy6, hy7⟩), (show zCz gla gsl nga.toInt nte.toInt (nte.toInt - nat_.toInt).toNat nat_.toInt nde.toInt nsd = (i_0.toInt, nde.toInt, v_1) from by (rw [hvi_0_0, show (nte.toInt - i_0.toInt).toNat = (nte.toInt - (i_0.toInt + 1)).toNat + 1 from by omega, zCz_s, if_pos (Or.inr (hsr_4_0.1 (by omega)))])), (show i_0.toInt ≤ nte.toInt from by omega), trivial⟩, zRet ht hP hD [0, 1, 2] (by decide) rfl⟩, hS.F ht⟩) hS.2.2 dX8_closes_84
      · have fc_7 : r_4.toInt = 0 := zf_eq c_7 rfl (by decide)
        refine lv_aload_n hx hb dX8_closes_22 rfl (lv_at hl 0 rfl) ?_
        refine lv_aload_n hx hb dX8_closes_23 rfl (lv_at hl 0 rfl) ?_
        refine va_get (D := D) (ci := 8) (v := .int i_0) (C := RX8) (T := TX8) (N := 38) hx hb hts hi_X8_closes_8 hown hK hP 0 rfl rfl 2 (by decide) (hts (.fieldLink RX8 122 "TheLiningsInItModel" "at" "I") (List.mem_of_getElem? (i := 1) rfl)) (fun _ h9 => h9) rfl dX8_closes_24 ?_
        refine zc_V (As := [.int i_0]) (rest := []) ⟨hx, hb, hml, hown, hts⟩ (c_F_M_doesCatch l D cI cJ cZ cP cS po m0 mrf mki mpa mta mla msl mco mhe mso msi msh mce mca mwo mnu mte mwa mke mma mth mtr (npu) (nte) (i_0) (nde) (nto) (nse) (nhu) (nga) (v_1) (nfa) (nba) (npl) (nen) (nnu) (nwr) (nra) (nik) gla gsl (i_0) hy0 hy1 hy2 hy3 (by omega) (by omega) hy6 hy7 hy8 hy9 hy10 hy11 hy12 hy13 (by omega) (by omega) hp_gla hp_gsl) (cwV 1 hts gX8_closes_X8_doesCatch rfl rfl rfl ⟨rfl, dh_X8_doesCatch⟩ ⟨Nat.le_of_ble_eq_true rfl, Nat.le_of_ble_eq_true rfl⟩) hK hN (hZ.kept hS) hP (hP.sub [0, 1, 2] rfl) (va_recv (q := (RX8, TX8, 38)) hK hP (ci := 8) (q0 := 0) rfl rfl) rfl hl.1 rfl (Nat.le_of_ble_eq_true rfl) dX8_closes_27 ⟨Nat.le_of_ble_eq_true rfl, Nat.le_of_ble_eq_true rfl⟩ (fun r_8 hr_8 => ?_)
        obtain ⟨g_9, g_10, hsr_8_0⟩ := hr_8
        replace hsr_8_0 := zHid_i hsr_8_0
        refine lv_if_eq (tgt := 71) hx hb dX8_closes_30 (by decide) (fun c_11 => ?_) (fun c_11 => ?_)
        · have fc_11 : r_8.toInt = 0 := zf_eq c_11 rfl (by decide)
          refine lv_aload_n hx hb dX8_closes_71 rfl (lv_at hl 0 rfl) ?_
          refine lv_dup hx hb dX8_closes_72 rfl ?_
          refine va_get (D := D) (ci := 8) (v := .int i_0) (C := RX8) (T := TX8) (N := 38) hx hb hts hi_X8_closes_8 hown hK hP 0 rfl rfl 2 (by decide) (hts (.fieldLink RX8 122 "TheLiningsInItModel" "at" "I") (List.mem_of_getElem? (i := 1) rfl)) (fun _ h9 => h9) rfl dX8_closes_73 ?_
          refine lv_iconst (v := 1) hx hb dX8_closes_76 (by decide) ?_
          refine lv_iadd hx hb dX8_closes_77 ?_
          refine lv_topi (fun x_12 ex_12 => ?_)
          have qx_12 : x_12.toInt = i_0.toInt + 1 := dw_inc ex_12 fc_3
          refine va_put (D := D) (ci := 8) (v := .int x_12) (ty := .int) (C := RX8) (T := TX8) (N := 38) hx hb hts hi_X8_closes_8 tyX8 tyX8_ok nmX8 hown hK hP hD hS 0 rfl rfl 2 (by decide) (hts (.fieldLink RX8 122 "TheLiningsInItModel" "at" "I") (List.mem_of_getElem? (i := 1) rfl)) (fun _ h9 => h9) rfl (tyX8_ok 2 (Nat.le_of_ble_eq_true rfl)) rfl rfl (Nat.le_of_ble_eq_true rfl) dX8_closes_78 (fun H locs hP hD hS => ?_)
          have h9R := zRe (ws' := [(zMO m0 npu nte x_12 nde nto nse nhu nga v_1 nfa mrf mki mpa mta mla msl mco mhe mso msi msh mce mca mwo mnu mte nba npl nen nnu nwr mwa mke mma mth mtr nra nik), (mla, .inl (cI, 40, .inl gla)), (msl, .inl (cI, 40, .inl gsl))]) hP hD rfl
          clear hP hD
          obtain ⟨hP, hD⟩ := h9R
          refine lv_goto (tgt := 0) hx hb dX8_closes_81 (by decide) ?_
          exact ih x_12 (v_1) _ _ _ (hP.sub [0, 1, 2] rfl) (hD.sub [0, 1, 2] (by decide) rfl) hS (lv_sub hl [0] rfl) (show zCz gla gsl nga.toInt nte.toInt (nte.toInt - nat_.toInt).toNat nat_.toInt nde.toInt nsd = zCz gla gsl nga.toInt nte.toInt (nte.toInt - x_12.toInt).toNat x_12.toInt nde.toInt (v_1 : Int32) from by (have hk : (nte.toInt - i_0.toInt).toNat = (nte.toInt - (i_0.toInt + 1)).toNat + 1 := (by omega); have hno := hsr_4_0.2 (by omega); have hcc := hsr_8_0.2 (by omega); rw [hvi_0_0, hk, zCz_s]; rw [if_neg (fun z => z.elim (fun a => by omega) hno), if_neg hcc]; rw [show x_12.toInt = i_0.toInt + 1 from by omega])) (show x_12.toInt ≤ nte.toInt from by omega) (dw_lo hloi_0 qx_12) (dw_hn hni_0 qx_12)
        · have fc_11 : r_8.toInt ≠ 0 := zf_ne c_11 rfl (by decide)
          refine lv_aload_n hx hb dX8_closes_33 rfl (lv_at hl 0 rfl) ?_
          refine lv_bipush (v := 10) hx hb dX8_closes_34 (by decide) ?_
          skip
          refine zw_V (As := [.int 10]) (rest := []) (wr := [(mla, .inl (cI, 40, .inl gla)), (msl, .inl (cI, 40, .inl gsl))]) ⟨hx, hb, hml, hown, hts⟩ (c_F_M_draw_10 l D cI cJ cZ cP cS po m0 mrf mki mpa mta mla msl mco mhe mso msi msh mce mca mwo mnu mte mwa mke mma mth mtr (npu) (nte) (i_0) (nde) (nto) (nse) (nhu) (nga) (v_1) (nfa) (nba) (npl) (nen) (nnu) (nwr) (nra) (nik) hy0 hy1 hy2 hy3 (by omega) (by omega) hy6 hy7 hy8 hy9 hy10 hy11 hy12 hy13 H.size) (cwV 1 hts gX8_closes_X8_draw rfl rfl rfl ⟨rfl, dh_X8_draw⟩ ⟨Nat.le_of_ble_eq_true rfl, Nat.le_of_ble_eq_true rfl⟩) hK hN (hZ.kept hS) hP hD hS hA [0] [1, 2] rfl rfl (by decide) (by decide) (by decide) (va_recv (q := (RX8, TX8, 38)) hK hP (ci := 8) (q0 := 0) rfl rfl) rfl hl.1 rfl (Nat.le_of_ble_eq_true rfl) dX8_closes_36 ⟨Nat.le_of_ble_eq_true rfl, Nat.le_of_ble_eq_true rfl⟩ (fun r_13 u_14 H locs hr_13 hP hD hS => ?_)
          obtain ⟨q_15, rfl⟩ : ∃ z, z = u_14 := ⟨_, rfl⟩
          obtain ⟨hsr_13_0, hsr_13_1, hr_13⟩ := hr_13
          have h9R := zRe (ws' := [(mla, .inl (cI, 40, .inl gla)), (msl, .inl (cI, 40, .inl gsl)), (zMO m0 npu nte i_0 nde nto nse nhu nga q_15 nfa mrf mki mpa mta mla msl mco mhe mso msi msh mce mca mwo mnu mte nba npl nen nnu nwr mwa mke mma mth mtr nra nik)]) hP hD rfl
          clear hP hD
          obtain ⟨hP, hD⟩ := h9R
          obtain ⟨g_16, g_17⟩ := hr_13
          refine lv_aload_n hx hb dX8_closes_39 rfl (lv_at hl 0 rfl) ?_
          refine va_get (D := D) (ci := 8) (v := .ref msl) (C := RX8) (T := TX8) (N := 38) hx hb hts hi_X8_closes_8 hown hK hP 2 rfl rfl 15 (by decide) (hts (.fieldLink RX8 41 "TheLiningsInItModel" "slack" "[I") (List.mem_of_getElem? (i := 3) rfl)) (fun _ h9 => h9) rfl dX8_closes_40 ?_
          refine lv_aload_n hx hb dX8_closes_43 rfl (lv_at hl 0 rfl) ?_
          refine va_get (D := D) (ci := 8) (v := .int i_0) (C := RX8) (T := TX8) (N := 38) hx hb hts hi_X8_closes_8 hown hK hP 2 rfl rfl 2 (by decide) (hts (.fieldLink RX8 122 "TheLiningsInItModel" "at" "I") (List.mem_of_getElem? (i := 1) rfl)) (fun _ h9 => h9) rfl dX8_closes_44 ?_
          refine va_iald hx hb hK hP 1 0 rfl rfl (zf_in (by omega) (by omega)) dX8_closes_47 ?_
          refine lv_topi (fun x_18 ex_18 => ?_)
          have bx_18 : 0 ≤ x_18.toInt ∧ x_18.toInt ≤ 9 := by rw [ex_18]; exact hp_gsl _
          refine lv_aload_n hx hb dX8_closes_48 rfl (lv_at hl 0 rfl) ?_
          refine va_get (D := D) (ci := 8) (v := .int nga) (C := RX8) (T := TX8) (N := 38) hx hb hts hi_X8_closes_8 hown hK hP 2 rfl rfl 7 (by decide) (hts (.fieldLink RX8 16 "TheLiningsInItModel" "gap" "I") (List.mem_of_getElem? (i := 4) rfl)) (fun _ h9 => h9) rfl dX8_closes_49 ?_
          refine lv_isub hx hb dX8_closes_52 ?_
          refine lv_topi (fun x_19 ex_19 => ?_)
          have qx_19 : x_19.toInt = x_18.toInt - nga.toInt := by rw [ex_19]; exact zf_sub rfl rfl (by omega) (by omega)
          refine lv_iconst (v := 1) hx hb dX8_closes_53 (by decide) ?_
          refine lv_iadd hx hb dX8_closes_54 ?_
          refine lv_topi (fun x_20 ex_20 => ?_)
          have qx_20 : x_20.toInt = x_19.toInt + 1 := by rw [ex_20]; exact zf_add rfl (by decide) (by omega) (by omega)
          refine lv_icmp_ge (tgt := 71) hx hb dX8_closes_55 (by decide) (fun c_21 => ?_) (fun c_21 => ?_)
          · have fc_21 : x_20.toInt ≤ r_13.toInt := zf_le c_21 rfl rfl
            refine lv_aload_n hx hb dX8_closes_71 rfl (lv_at hl 0 rfl) ?_
            refine lv_dup hx hb dX8_closes_72 rfl ?_
            refine va_get (D := D) (ci := 8) (v := .int i_0) (C := RX8) (T := TX8) (N := 38) hx hb hts hi_X8_closes_8 hown hK hP 2 rfl rfl 2 (by decide) (hts (.fieldLink RX8 122 "TheLiningsInItModel" "at" "I") (List.mem_of_getElem? (i := 1) rfl)) (fun _ h9 => h9) rfl dX8_closes_73 ?_
            refine lv_iconst (v := 1) hx hb dX8_closes_76 (by decide) ?_
            refine lv_iadd hx hb dX8_closes_77 ?_
            refine lv_topi (fun x_22 ex_22 => ?_)
            have qx_22 : x_22.toInt = i_0.toInt + 1 := dw_inc ex_22 fc_3
            refine va_put (D := D) (ci := 8) (v := .int x_22) (ty := .int) (C := RX8) (T := TX8) (N := 38) hx hb hts hi_X8_closes_8 tyX8 tyX8_ok nmX8 hown hK hP hD hS 2 rfl rfl 2 (by decide) (hts (.fieldLink RX8 122 "TheLiningsInItModel" "at" "I") (List.mem_of_getElem? (i := 1) rfl)) (fun _ h9 => h9) rfl (tyX8_ok 2 (Nat.le_of_ble_eq_true rfl)) rfl rfl (Nat.le_of_ble_eq_true rfl) dX8_closes_78 (fun H locs hP hD hS => ?_)
            have h9R := zRe (ws' := [(mla, .inl (cI, 40, .inl gla)), (msl, .inl (cI, 40, .inl gsl)), (zMO m0 npu nte x_22 nde nto nse nhu nga q_15 nfa mrf mki mpa mta mla msl mco mhe mso msi msh mce mca mwo mnu mte nba npl nen nnu nwr mwa mke mma mth mtr nra nik)]) hP hD rfl
            clear hP hD
            obtain ⟨hP, hD⟩ := h9R
            refine lv_goto (tgt := 0) hx hb dX8_closes_81 (by decide) ?_
            exact ih x_22 (q_15) _ _ _ (hP.sub [2, 0, 1] rfl) (hD.sub [2, 0, 1] (by decide) rfl) hS (lv_sub hl [0] rfl) (show zCz gla gsl nga.toInt nte.toInt (nte.toInt - nat_.toInt).toNat nat_.toInt nde.toInt nsd = zCz gla gsl nga.toInt nte.toInt (nte.toInt - x_22.toInt).toNat x_22.toInt nde.toInt (q_15 : Int32) from by (have hk : (nte.toInt - i_0.toInt).toNat = (nte.toInt - (i_0.toInt + 1)).toNat + 1 := (by omega); have hno := hsr_4_0.2 (by omega); have hcc := hsr_8_0.1 (by omega); have hsl : (gsl i_0.toInt.toNat).toInt = x_18.toInt := (by rw [ex_18]; rfl); rw [hvi_0_0, hk, zCz_s]; rw [if_neg (fun z => z.elim (fun a => by omega) hno), if_pos hcc, if_neg (by rw [← hsr_13_1, hsl]; omega), ← hsr_13_0]; rw [show x_22.toInt = i_0.toInt + 1 from by omega])) (show x_22.toInt ≤ nte.toInt from by omega) (dw_lo hloi_0 qx_22) (dw_hn hni_0 qx_22)
          · have fc_21 : r_13.toInt < x_20.toInt := zf_nle c_21 rfl rfl
            refine lv_aload_n hx hb dX8_closes_58 rfl (lv_at hl 0 rfl) ?_
            refine lv_iconst (v := 1) hx hb dX8_closes_59 (by decide) ?_
            refine lv_aload_n hx hb dX8_closes_60 rfl (lv_at hl 0 rfl) ?_
            refine lv_bipush (v := 6) hx hb dX8_closes_61 (by decide) ?_
            skip
            refine zw_V (As := [.int 6]) (rest := [.int 1, .ref m0]) (wr := [(mla, .inl (cI, 40, .inl gla)), (msl, .inl (cI, 40, .inl gsl))]) ⟨hx, hb, hml, hown, hts⟩ (c_F_M_draw_6 l D cI cJ cZ cP cS po m0 mrf mki mpa mta mla msl mco mhe mso msi msh mce mca mwo mnu mte mwa mke mma mth mtr (npu) (nte) (i_0) (nde) (nto) (nse) (nhu) (nga) (q_15) (nfa) (nba) (npl) (nen) (nnu) (nwr) (nra) (nik) hy0 hy1 hy2 hy3 (by omega) (by omega) hy6 hy7 hy8 hy9 hy10 hy11 hy12 hy13 H.size) (cwV 1 hts gX8_closes_X8_draw rfl rfl rfl ⟨rfl, dh_X8_draw⟩ ⟨Nat.le_of_ble_eq_true rfl, Nat.le_of_ble_eq_true rfl⟩) hK hN (hZ.kept hS) hP hD hS hA [2] [0, 1] rfl rfl (by decide) (by decide) (by decide) (va_recv (q := (RX8, TX8, 38)) hK hP (ci := 8) (q0 := 2) rfl rfl) rfl hl.1 rfl (Nat.le_of_ble_eq_true rfl) dX8_closes_63 ⟨Nat.le_of_ble_eq_true rfl, Nat.le_of_ble_eq_true rfl⟩ (fun r_23 u_24 H locs hr_23 hP hD hS => ?_)
            obtain ⟨q_25, rfl⟩ : ∃ z, z = u_24 := ⟨_, rfl⟩
            obtain ⟨hsr_23_0, hsr_23_1, hr_23⟩ := hr_23
            have h9R := zRe (ws' := [(mla, .inl (cI, 40, .inl gla)), (msl, .inl (cI, 40, .inl gsl)), (zMO m0 npu nte i_0 nde nto nse nhu nga q_25 nfa mrf mki mpa mta mla msl mco mhe mso msi msh mce mca mwo mnu mte nba npl nen nnu nwr mwa mke mma mth mtr nra nik)]) hP hD rfl
            clear hP hD
            obtain ⟨hP, hD⟩ := h9R
            obtain ⟨g_26, g_27⟩ := hr_23
            refine lv_iadd hx hb dX8_closes_66 ?_
            refine lv_topi (fun x_28 ex_28 => ?_)
            have qx_28 : x_28.toInt = 1 + r_23.toInt := by rw [ex_28]; exact zf_add (by decide) rfl (by omega) (by omega)
            refine va_put (D := D) (ci := 8) (v := .int x_28) (ty := .int) (C := RX8) (T := TX8) (N := 38) hx hb hts hi_X8_closes_8 tyX8 tyX8_ok nmX8 hown hK hP hD hS 2 rfl rfl 3 (by decide) (hts (.fieldLink RX8 115 "TheLiningsInItModel" "depth" "I") (List.mem_of_getElem? (i := 5) rfl)) (fun _ h9 => h9) rfl (tyX8_ok 3 (Nat.le_of_ble_eq_true rfl)) rfl rfl (Nat.le_of_ble_eq_true rfl) dX8_closes_67 (fun H locs hP hD hS => ?_)
            have h9R := zRe (ws' := [(mla, .inl (cI, 40, .inl gla)), (msl, .inl (cI, 40, .inl gsl)), (zMO m0 npu nte i_0 x_28 nto nse nhu nga q_25 nfa mrf mki mpa mta mla msl mco mhe mso msi msh mce mca mwo mnu mte nba npl nen nnu nwr mwa mke mma mth mtr nra nik)]) hP hD rfl
            clear hP hD
            obtain ⟨hP, hD⟩ := h9R
            exact W.vret hx hb hr (fun t ht hW => ⟨⟨(i_0, x_28, q_25), rfl, ⟨(show 0 ≤ i_0.toInt ∧ i_0.toInt ≤ 40 from ⟨by omega, by omega⟩), (show 0 ≤ x_28.toInt ∧ x_28.toInt ≤ 24 from ⟨by omega, by omega⟩), (show zCz gla gsl nga.toInt nte.toInt (nte.toInt - nat_.toInt).toNat nat_.toInt nde.toInt nsd = (i_0.toInt, x_28.toInt, q_25) from by (have hk : (nte.toInt - i_0.toInt).toNat = (nte.toInt - (i_0.toInt + 1)).toNat + 1 := (by omega); have hno := hsr_4_0.2 (by omega); have hcc := hsr_8_0.1 (by omega); have hsl : (gsl i_0.toInt.toNat).toInt = x_18.toInt := (by rw [ex_18]; rfl); rw [hvi_0_0, hk, zCz_s, if_neg (fun z => z.elim (fun a => by omega) hno), if_pos hcc, if_pos (by rw [← hsr_13_1, hsl]; omega)]; refine Prod.ext rfl (Prod.ext ?_ ?_) <;> dsimp only; (rw [← hsr_13_0, ← hsr_23_1]; omega); (rw [← hsr_13_0, ← hsr_23_0]))), (show i_0.toInt ≤ nte.toInt from by omega), trivial⟩, zRet ht hP hD [2, 0, 1] (by decide) rfl⟩, hS.F ht⟩) hS.2.2 dX8_closes_70
set_option maxHeartbeats 4000000 in
set_option maxRecDepth 100000 in
theorem c_F_M_close (l : Launch) (D : va_G) (cI cJ cZ cP cS : ClassId) (po : zPool) (m0 mrf mki mpa mta mla msl mco mhe mso msi msh mce mca mwo mnu mte mwa mke mma mth mtr : Nat) (npu nte nat_ nde nto nse nhu nga nsd nfa nba npl nen nnu nwr nra nik : Int32) (grf gla gsl : Nat → Int32) (hy0 : 0 ≤ npu.toInt) (hy1 : npu.toInt ≤ 8) (hy2 : 4 ≤ nte.toInt) (hy3 : nte.toInt ≤ 40) (hy4 : 0 ≤ nat_.toInt) (hy5 : nat_.toInt ≤ 40) (hy6 : 0 ≤ nde.toInt) (hy7 : nde.toInt ≤ 24) (hy8 : 0 ≤ nhu.toInt) (hy9 : nhu.toInt ≤ 9) (hy10 : 0 ≤ nra.toInt) (hy11 : nra.toInt ≤ 2000) (hy12 : 0 ≤ nik.toInt) (hy13 : nik.toInt ≤ 1) (hy14 : nat_.toInt ≤ nte.toInt) (hy15 : 1 ≤ nga.toInt) (hy16 : nga.toInt ≤ 9) (hp_gla : zRg gla (0) 1) (hp_gsl : zRg gsl (0) 9) (hpz : Nat) : Met l yX8_close wsX8_close ({ frames := 2, cells := 0, slots := 0, locals := 41 }) (va_Pc [.ref m0] (zW D (zKT cI cJ cZ cP cS) po [(zMO m0 npu nte nat_ nde nto nse nhu nga nsd nfa mrf mki mpa mta mla msl mco mhe mso msi msh mce mca mwo mnu mte nba npl nen nnu nwr mwa mke mma mth mtr nra nik), (mrf, .inl (cI, 8, .inl grf)), (mla, .inl (cI, 40, .inl gla)), (msl, .inl (cI, 40, .inl gsl))] hpz)) (va_Qi (fun (r : Int32) (u : (Int32) × (Int32) × (Int32) × (Nat → Int32)) => (0 ≤ u.1.toInt ∧ u.1.toInt ≤ 40) ∧ (0 ≤ u.2.1.toInt ∧ u.2.1.toInt ≤ 24) ∧ ((nde.toInt ≠ 0 ∧ r.toInt = -6 ∧ u.1 = nat_ ∧ u.2.1 = nde ∧ u.2.2.1 = nsd) ∨ (nde.toInt = 0 ∧ zCz gla gsl nga.toInt nte.toInt (nte.toInt - nat_.toInt).toNat nat_.toInt nde.toInt nsd = (u.1.toInt, u.2.1.toInt, u.2.2.1) ∧ r.toInt = u.1.toInt)) ∧ (True)) (zB D [(zMO m0 npu nte nat_ nde nto nse nhu nga nsd nfa mrf mki mpa mta mla msl mco mhe mso msi msh mce mca mwo mnu mte nba npl nen nnu nwr mwa mke mma mth mtr nra nik), (mrf, .inl (cI, 8, .inl grf)), (mla, .inl (cI, 40, .inl gla)), (msl, .inl (cI, 40, .inl gsl))] hpz (fun (u : (Int32) × (Int32) × (Int32) × (Nat → Int32)) => [(zMO m0 npu nte u.1 u.2.1 nto nse nhu nga u.2.2.1 nfa mrf mki mpa mta mla msl mco mhe mso msi msh mce mca mwo mnu mte nba npl nen nnu nwr mwa mke mma mth mtr nra nik), (mrf, .inl (cI, 8, .inl u.2.2.2)), (mla, .inl (cI, 40, .inl gla)), (msl, .inl (cI, 40, .inl gsl))])) (va_A [(zMO m0 npu nte nat_ nde nto nse nhu nga nsd nfa mrf mki mpa mta mla msl mco mhe mso msi msh mce mca mwo mnu mte nba npl nen nnu nwr mwa mke mma mth mtr nra nik), (mrf, .inl (cI, 8, .inl grf)), (mla, .inl (cI, 40, .inl gla)), (msl, .inl (cI, 40, .inl gsl))] hpz)) 0 0 (va_A [(zMO m0 npu nte nat_ nde nto nse nhu nga nsd nfa mrf mki mpa mta mla msl mco mhe mso msi msh mce mca mwo mnu mte nba npl nen nnu nwr mwa mke mma mth mtr nra nik), (mrf, .inl (cI, 8, .inl grf)), (mla, .inl (cI, 40, .inl gla)), (msl, .inl (cI, 40, .inl gsl))] hpz) := by
  refine Met.ofW (cc := cX8_close) (maxL := 1) (ret := (some .int)) (by decide) rfl ?_
  intro p e s m args below meth c s₁ B hml hv
  obtain ⟨rfl, hsz, hP, hK, hD0, hN, hZ⟩ := hv
  have hx := B.exec
  have hb := B.bytes
  have hr := B.returns
  have hts := atoms_spec (ws := wsX8_close) B.pre
  have hown : s.vm.findClass RX8 = some m.cls := findClass_of_methodNamed B.named
  have hlocks := B.notSynchronized
  subst hsz
  have hD := hD0.self (sz := s.heap.size)
  have hA := zA_of hD
  have hl := lv_entry ([.ref m0]) (n := 1) (Nat.le_of_ble_eq_true rfl)
  rw [lg_entry_eq]
  generalize (lg_sl ([.ref m0]) ++ List.replicate (1 - (lg_sl ([.ref m0])).length) Slot.unset).toArray = ls at hl ⊢
  replace hl : lv_has ls 1 [(0, .ref m0)] := hl
  refine zw_begin hP hD (fun H locs hP1 hS => ?_)
  clear hP
  have hP := hP1
  clear hP1
  refine lv_aload_n hx hb dX8_close_0 rfl (lv_at hl 0 rfl) ?_
  refine va_get (D := D) (ci := 8) (v := .int nde) (C := RX8) (T := TX8) (N := 38) hx hb hts hi_X8_close_8 hown hK hP 0 rfl rfl 3 (by decide) (hts (.fieldLink RX8 115 "TheLiningsInItModel" "depth" "I") (List.mem_of_getElem? (i := 1) rfl)) (fun _ h9 => h9) rfl dX8_close_1 ?_
  refine lv_if_eq (tgt := 14) hx hb dX8_close_4 (by decide) (fun c_1 => ?_) (fun c_1 => ?_)
  · have fc_1 : nde.toInt = 0 := zf_eq c_1 rfl (by decide)
    refine lv_aload_n hx hb dX8_close_14 rfl (lv_at hl 0 rfl) ?_
    skip
    refine zw_Vv (As := []) (rest := []) (wr := [(mrf, .inl (cI, 8, .inl grf))]) ⟨hx, hb, hml, hown, hts⟩ (c_F_M_closes l D cI cJ cZ cP cS po m0 mrf mki mpa mta mla msl mco mhe mso msi msh mce mca mwo mnu mte mwa mke mma mth mtr (npu) (nte) (nat_) (nde) (nto) (nse) (nhu) (nga) (nsd) (nfa) (nba) (npl) (nen) (nnu) (nwr) (nra) (nik) gla gsl hy0 hy1 hy2 hy3 hy4 hy5 hy6 hy7 hy8 hy9 hy10 hy11 hy12 hy13 (by omega) hy15 hy16 hp_gla hp_gsl H.size) (cwV 0 hts gX8_close_X8_closes rfl rfl rfl ⟨rfl, dh_X8_closes⟩ ⟨Nat.le_of_ble_eq_true rfl, Nat.le_of_ble_eq_true rfl⟩) hK hN (hZ.kept hS) hP hD hS hA [0, 2, 3] [1] rfl rfl (by decide) (by decide) (by decide) (va_recv (q := (RX8, TX8, 38)) hK hP (ci := 8) (q0 := 0) rfl rfl) rfl hl.1 rfl (Nat.le_of_ble_eq_true rfl) dX8_close_15 ⟨Nat.le_of_ble_eq_true rfl, Nat.le_of_ble_eq_true rfl⟩ (fun u_3 H locs hr_2 hP hD hS => ?_)
    obtain ⟨q_4, q_5, q_6⟩ := u_3
    try dsimp only at hr_2
    obtain ⟨hbq_4, hbq_5, hsr_2_0, hsr_2_1, hr_2⟩ := hr_2
    have h9R := zRe (ws' := [(mrf, .inl (cI, 8, .inl grf)), (zMO m0 npu nte q_4 q_5 nto nse nhu nga q_6 nfa mrf mki mpa mta mla msl mco mhe mso msi msh mce mca mwo mnu mte nba npl nen nnu nwr mwa mke mma mth mtr nra nik), (mla, .inl (cI, 40, .inl gla)), (msl, .inl (cI, 40, .inl gsl))]) hP hD rfl
    clear hP hD
    obtain ⟨hP, hD⟩ := h9R
    refine lv_aload_n hx hb dX8_close_18 rfl (lv_at hl 0 rfl) ?_
    refine va_get (D := D) (ci := 8) (v := .int q_4) (C := RX8) (T := TX8) (N := 38) hx hb hts hi_X8_close_8 hown hK hP 1 rfl rfl 2 (by decide) (hts (.fieldLink RX8 122 "TheLiningsInItModel" "at" "I") (List.mem_of_getElem? (i := 2) rfl)) (fun _ h9 => h9) rfl dX8_close_19 ?_
    exact W.iret (v := q_4) hx hb hr (fun t ht hW => ⟨⟨q_4, (q_4, q_5, q_6, grf), rfl, ⟨(show 0 ≤ q_4.toInt ∧ q_4.toInt ≤ 40 from hbq_4), (show 0 ≤ q_5.toInt ∧ q_5.toInt ≤ 24 from hbq_5), (show (nde.toInt ≠ 0 ∧ (q_4 : Int32).toInt = -6 ∧ q_4 = nat_ ∧ q_5 = nde ∧ q_6 = nsd) ∨ (nde.toInt = 0 ∧ zCz gla gsl nga.toInt nte.toInt (nte.toInt - nat_.toInt).toNat nat_.toInt nde.toInt nsd = (q_4.toInt, q_5.toInt, q_6) ∧ (q_4 : Int32).toInt = q_4.toInt) from by (exact Or.inr ⟨by omega, hsr_2_0, by first | rfl | omega⟩)), trivial⟩, zRet ht hP hD [1, 0, 2, 3] (by decide) rfl⟩, hS.F ht⟩) hS.2.2 dX8_close_22
  · have fc_1 : nde.toInt ≠ 0 := zf_ne c_1 rfl (by decide)
    refine lv_aload_n hx hb dX8_close_7 rfl (lv_at hl 0 rfl) ?_
    refine lv_bipush (v := (-6)) hx hb dX8_close_8 (by decide) ?_
    skip
    refine zw_V (As := [.int (-6)]) (rest := []) (wr := [(mla, .inl (cI, 40, .inl gla)), (msl, .inl (cI, 40, .inl gsl))]) ⟨hx, hb, hml, hown, hts⟩ (c_M_no_6 l D cI cJ cZ cP cS po m0 mrf mki mpa mta mla msl mco mhe mso msi msh mce mca mwo mnu mte mwa mke mma mth mtr (npu) (nte) (nat_) (nde) (nto) (nse) (nhu) (nga) (nsd) (nfa) (nba) (npl) (nen) (nnu) (nwr) (nra) (nik) grf hy0 hy1 hy2 hy3 hy4 hy5 hy6 hy7 hy8 hy9 hy10 hy11 hy12 hy13 H.size) (cwV 1 hts gX8_close_X8_no rfl rfl rfl ⟨rfl, dh_X8_no⟩ ⟨Nat.le_of_ble_eq_true rfl, Nat.le_of_ble_eq_true rfl⟩) hK hN (hZ.kept hS) hP hD hS hA [0, 1] [2, 3] rfl rfl (by decide) (by decide) (by decide) (va_recv (q := (RX8, TX8, 38)) hK hP (ci := 8) (q0 := 0) rfl rfl) rfl hl.1 rfl (Nat.le_of_ble_eq_true rfl) dX8_close_10 ⟨Nat.le_of_ble_eq_true rfl, Nat.le_of_ble_eq_true rfl⟩ (fun r_7 u_8 H locs hr_7 hP hD hS => ?_)
    obtain ⟨q_9, rfl⟩ : ∃ z, z = u_8 := ⟨_, rfl⟩
    have h9R := zRe (ws' := [(mla, .inl (cI, 40, .inl gla)), (msl, .inl (cI, 40, .inl gsl)), (zMO m0 npu nte nat_ nde nto nse nhu nga nsd nfa mrf mki mpa mta mla msl mco mhe mso msi msh mce mca mwo mnu mte nba npl nen nnu nwr mwa mke mma mth mtr nra nik), (mrf, .inl (cI, 8, .inl q_9))]) hP hD rfl
    clear hP hD
    obtain ⟨hP, hD⟩ := h9R
    obtain rfl := hr_7
    exact W.iret (v := (-6)) hx hb hr (fun t ht hW => ⟨⟨(-6), (nat_, nde, nsd, q_9), rfl, ⟨(show 0 ≤ nat_.toInt ∧ nat_.toInt ≤ 40 from ⟨hy4, hy5⟩), (show 0 ≤ nde.toInt ∧ nde.toInt ≤ 24 from ⟨hy6, hy7⟩), (show (nde.toInt ≠ 0 ∧ ((-6) : Int32).toInt = -6 ∧ nat_ = nat_ ∧ nde = nde ∧ nsd = nsd) ∨ (nde.toInt = 0 ∧ zCz gla gsl nga.toInt nte.toInt (nte.toInt - nat_.toInt).toNat nat_.toInt nde.toInt nsd = (nat_.toInt, nde.toInt, nsd) ∧ ((-6) : Int32).toInt = nat_.toInt) from by (have k9 : ((-6) : Int32).toInt = -6 := (by decide); exact Or.inl ⟨by omega, by omega, rfl, rfl, rfl⟩)), trivial⟩, zRet ht hP hD [2, 3, 0, 1] (by decide) rfl⟩, hS.F ht⟩) hS.2.2 dX8_close_13
set_option maxHeartbeats 4000000 in
set_option maxRecDepth 100000 in
theorem c_F_M_closed (l : Launch) (D : va_G) (cI cJ cZ cP cS : ClassId) (po : zPool) (m0 mrf mki mpa mta mla msl mco mhe mso msi msh mce mca mwo mnu mte mwa mke mma mth mtr : Nat) (npu nte nat_ nde nto nse nhu nga nsd nfa nba npl nen nnu nwr nra nik : Int32) (gla gsl : Nat → Int32) (hy0 : 0 ≤ npu.toInt) (hy1 : npu.toInt ≤ 8) (hy2 : 4 ≤ nte.toInt) (hy3 : nte.toInt ≤ 40) (hy4 : 0 ≤ nat_.toInt) (hy5 : nat_.toInt ≤ 40) (hy6 : 0 ≤ nde.toInt) (hy7 : nde.toInt ≤ 24) (hy8 : 0 ≤ nhu.toInt) (hy9 : nhu.toInt ≤ 9) (hy10 : 0 ≤ nra.toInt) (hy11 : nra.toInt ≤ 2000) (hy12 : 0 ≤ nik.toInt) (hy13 : nik.toInt ≤ 1) (hy14 : nat_.toInt ≤ nte.toInt) (hp_gla : zRg gla (0) 1) (hp_gsl : zRg gsl (0) 9) : Met l yX8_closed wsX8_closed ({ frames := 1, cells := 0, slots := 0, locals := 21 }) (va_Pc [.ref m0] (zR D (zKT cI cJ cZ cP cS) po [(zMO m0 npu nte nat_ nde nto nse nhu nga nsd nfa mrf mki mpa mta mla msl mco mhe mso msi msh mce mca mwo mnu mte nba npl nen nnu nwr mwa mke mma mth mtr nra nik), (mla, .inl (cI, 40, .inl gla)), (msl, .inl (cI, 40, .inl gsl))])) (vp_Si (fun r => (r.toInt = zRu gla gsl nga.toInt nte.toInt (nte.toInt - nat_.toInt).toNat nat_.toInt))) 0 0 (fun _ => False) := by
  refine Met.ofW (cc := cX8_closed) (maxL := 2) (ret := (some .int)) (by decide) rfl ?_
  intro p e s m args below meth c s₁ B hml hv
  obtain ⟨rfl, hP, hK, hN, hZ⟩ := hv
  have hx := B.exec
  have hb := B.bytes
  have hr := B.returns
  have hts := atoms_spec (ws := wsX8_closed) B.pre
  have hown : s.vm.findClass RX8 = some m.cls := findClass_of_methodNamed B.named
  have hlocks := B.notSynchronized
  have hl := lv_entry ([.ref m0]) (n := 2) (Nat.le_of_ble_eq_true rfl)
  rw [lg_entry_eq]
  generalize (lg_sl ([.ref m0]) ++ List.replicate (2 - (lg_sl ([.ref m0])).length) Slot.unset).toArray = ls at hl ⊢
  replace hl : lv_has ls 2 [(0, .ref m0)] := hl
  refine lv_aload_n hx hb dX8_closed_0 rfl (lv_at hl 0 rfl) ?_
  refine va_get (D := D) (ci := 8) (v := .int nat_) (C := RX8) (T := TX8) (N := 38) hx hb hts hi_X8_closed_8 hown hK hP 0 rfl rfl 2 (by decide) (hts (.fieldLink RX8 122 "TheLiningsInItModel" "at" "I") (List.mem_of_getElem? (i := 1) rfl)) (fun _ h9 => h9) rfl dX8_closed_1 ?_
  refine lv_istore_n (lv' := [(1, .int nat_), (0, .ref m0)]) hx hb dX8_closed_4 rfl hl (by decide) rfl (fun ls hl => ?_)
  obtain ⟨i_5, hi_5⟩ : ∃ i : Int32, i = nat_ := ⟨_, rfl⟩
  replace hl : lv_has ls 2 [(1, .int i_5), (0, .ref m0)] := by rw [hi_5]; exact lv_sub hl [0, 1] rfl
  have h1i_5 : i_5.toInt = nat_.toInt := by rw [hi_5]
  obtain ⟨nfu, hni_5⟩ : ∃ nq9 : Nat, nte.toInt ≤ i_5.toInt + (nq9 : Int) := ⟨((nte.toInt : Int) - nat_.toInt).toNat, by omega⟩
  have hloi_5 : 0 ≤ i_5.toInt := by omega
  have hvi_5_0 : zRu gla gsl nga.toInt nte.toInt (nte.toInt - nat_.toInt).toNat nat_.toInt = zRu gla gsl nga.toInt nte.toInt (nte.toInt - i_5.toInt).toNat i_5.toInt := by
    (try rw [hi_5]); first | done | rfl
  have hvi_5_1 : i_5.toInt ≤ nte.toInt := by
    (try rw [hi_5]); omega
  clear h1i_5 hi_5
  revert hni_5
  revert hloi_5
  revert hvi_5_1
  revert hvi_5_0
  revert hl
  revert ls
  revert i_5
  induction nfu with
  | zero =>
    intro i_5 ls hl hvi_5_0 hvi_5_1 hloi_5 hni_5
    have hzi_5 : nte.toInt ≤ i_5.toInt := by omega
    refine lv_iload_n hx hb dX8_closed_5 rfl (lv_at hl 0 rfl) ?_
    refine lv_aload_n hx hb dX8_closed_6 rfl (lv_at hl 1 rfl) ?_
    refine va_get (D := D) (ci := 8) (v := .int nte) (C := RX8) (T := TX8) (N := 38) hx hb hts hi_X8_closed_8 hown hK hP 0 rfl rfl 1 (by decide) (hts (.fieldLink RX8 7 "TheLiningsInItModel" "teeth" "I") (List.mem_of_getElem? (i := 2) rfl)) (fun _ h9 => h9) rfl dX8_closed_7 ?_
    refine lv_icmp_ge (tgt := 35) hx hb dX8_closed_10 (by decide) (fun c_1 => ?_) (fun c_1 => ?_)
    · have fc_1 : nte.toInt ≤ i_5.toInt := zf_le c_1 rfl rfl
      refine lv_iload_n hx hb dX8_closed_35 rfl (lv_at hl 0 rfl) ?_
      exact W.iret (v := i_5) hx hb hr (fun t ht hW => ⟨i_5, rfl, (show (i_5 : Int32).toInt = zRu gla gsl nga.toInt nte.toInt (nte.toInt - nat_.toInt).toNat nat_.toInt from by (rw [hvi_5_0, show (nte.toInt - i_5.toInt).toNat = 0 from by omega]; rfl)), ht⟩) (fun q hq => by cases hq) dX8_closed_36
    · exfalso; have fc_1 : i_5.toInt < nte.toInt := zf_nle c_1 rfl rfl; omega
  | succ nfu ih =>
    intro i_5 ls hl hvi_5_0 hvi_5_1 hloi_5 hni_5
    refine lv_iload_n hx hb dX8_closed_5 rfl (lv_at hl 0 rfl) ?_
    refine lv_aload_n hx hb dX8_closed_6 rfl (lv_at hl 1 rfl) ?_
    refine va_get (D := D) (ci := 8) (v := .int nte) (C := RX8) (T := TX8) (N := 38) hx hb hts hi_X8_closed_8 hown hK hP 0 rfl rfl 1 (by decide) (hts (.fieldLink RX8 7 "TheLiningsInItModel" "teeth" "I") (List.mem_of_getElem? (i := 2) rfl)) (fun _ h9 => h9) rfl dX8_closed_7 ?_
    refine lv_icmp_ge (tgt := 35) hx hb dX8_closed_10 (by decide) (fun c_2 => ?_) (fun c_2 => ?_)
    · have fc_2 : nte.toInt ≤ i_5.toInt := zf_le c_2 rfl rfl
      refine lv_iload_n hx hb dX8_closed_35 rfl (lv_at hl 0 rfl) ?_
      exact W.iret (v := i_5) hx hb hr (fun t ht hW => ⟨i_5, rfl, (show (i_5 : Int32).toInt = zRu gla gsl nga.toInt nte.toInt (nte.toInt - nat_.toInt).toNat nat_.toInt from by (rw [hvi_5_0, show (nte.toInt - i_5.toInt).toNat = 0 from by omega]; rfl)), ht⟩) (fun q hq => by cases hq) dX8_closed_36
    · have fc_2 : i_5.toInt < nte.toInt := zf_nle c_2 rfl rfl
      refine lv_aload_n hx hb dX8_closed_13 rfl (lv_at hl 1 rfl) ?_
      refine lv_iload_n hx hb dX8_closed_14 rfl (lv_at hl 0 rfl) ?_
      refine zc_V (As := [.int i_5]) (rest := []) ⟨hx, hb, hml, hown, hts⟩ (c_F_M_doesCatch l D cI cJ cZ cP cS po m0 mrf mki mpa mta mla msl mco mhe mso msi msh mce mca mwo mnu mte mwa mke mma mth mtr (npu) (nte) (nat_) (nde) (nto) (nse) (nhu) (nga) (nsd) (nfa) (nba) (npl) (nen) (nnu) (nwr) (nra) (nik) gla gsl (i_5) hy0 hy1 hy2 hy3 hy4 hy5 hy6 hy7 hy8 hy9 hy10 hy11 hy12 hy13 (by omega) (by omega) hp_gla hp_gsl) (cwV 1 hts gX8_closed_X8_doesCatch rfl rfl rfl ⟨rfl, dh_X8_doesCatch⟩ ⟨Nat.le_of_ble_eq_true rfl, Nat.le_of_ble_eq_true rfl⟩) hK hN hZ hP (hP.sub [0, 1, 2] rfl) (va_recv (q := (RX8, TX8, 38)) hK hP (ci := 8) (q0 := 0) rfl rfl) rfl hl.1 rfl (Nat.le_of_ble_eq_true rfl) dX8_closed_15 ⟨Nat.le_of_ble_eq_true rfl, Nat.le_of_ble_eq_true rfl⟩ (fun r_3 hr_3 => ?_)
      obtain ⟨g_4, g_5, hsr_3_0⟩ := hr_3
      replace hsr_3_0 := zHid_i hsr_3_0
      refine lv_if_ne (tgt := 35) hx hb dX8_closed_18 (by decide) (fun c_6 => ?_) (fun c_6 => ?_)
      · have fc_6 : r_3.toInt ≠ 0 := zf_ne c_6 rfl (by decide)
        refine lv_iload_n hx hb dX8_closed_35 rfl (lv_at hl 0 rfl) ?_
        exact W.iret (v := i_5) hx hb hr (fun t ht hW => ⟨i_5, rfl, (show (i_5 : Int32).toInt = zRu gla gsl nga.toInt nte.toInt (nte.toInt - nat_.toInt).toNat nat_.toInt from by (rw [hvi_5_0, show (nte.toInt - i_5.toInt).toNat = (nte.toInt - (i_5.toInt + 1)).toNat + 1 from by omega, zRu_s, if_pos (by first | exact Or.inr (Or.inl (hsr_3_0.1 (by omega))))])), ht⟩) (fun q hq => by cases hq) dX8_closed_36
      · have fc_6 : r_3.toInt = 0 := zf_eq c_6 rfl (by decide)
        refine lv_aload_n hx hb dX8_closed_21 rfl (lv_at hl 1 rfl) ?_
        refine lv_iload_n hx hb dX8_closed_22 rfl (lv_at hl 0 rfl) ?_
        refine zc_V (As := [.int i_5]) (rest := []) ⟨hx, hb, hml, hown, hts⟩ (c_F_M_isOpen l D cI cJ cZ cP cS po m0 mrf mki mpa mta mla msl mco mhe mso msi msh mce mca mwo mnu mte mwa mke mma mth mtr (npu) (nte) (nat_) (nde) (nto) (nse) (nhu) (nga) (nsd) (nfa) (nba) (npl) (nen) (nnu) (nwr) (nra) (nik) gla (i_5) hy0 hy1 hy2 hy3 hy4 hy5 hy6 hy7 hy8 hy9 hy10 hy11 hy12 hy13 (by omega) (by omega) hp_gla) (cwV 1 hts gX8_closed_X8_isOpen rfl rfl rfl ⟨rfl, dh_X8_isOpen⟩ ⟨Nat.le_of_ble_eq_true rfl, Nat.le_of_ble_eq_true rfl⟩) hK hN hZ hP (hP.sub [0, 1] rfl) (va_recv (q := (RX8, TX8, 38)) hK hP (ci := 8) (q0 := 0) rfl rfl) rfl hl.1 rfl (Nat.le_of_ble_eq_true rfl) dX8_closed_23 ⟨Nat.le_of_ble_eq_true rfl, Nat.le_of_ble_eq_true rfl⟩ (fun r_7 hr_7 => ?_)
        obtain ⟨g_8, g_9, hsr_7_0⟩ := hr_7
        replace hsr_7_0 := zHid_i hsr_7_0
        refine lv_if_ne (tgt := 35) hx hb dX8_closed_26 (by decide) (fun c_10 => ?_) (fun c_10 => ?_)
        · have fc_10 : r_7.toInt ≠ 0 := zf_ne c_10 rfl (by decide)
          refine lv_iload_n hx hb dX8_closed_35 rfl (lv_at hl 0 rfl) ?_
          exact W.iret (v := i_5) hx hb hr (fun t ht hW => ⟨i_5, rfl, (show (i_5 : Int32).toInt = zRu gla gsl nga.toInt nte.toInt (nte.toInt - nat_.toInt).toNat nat_.toInt from by (rw [hvi_5_0, show (nte.toInt - i_5.toInt).toNat = (nte.toInt - (i_5.toInt + 1)).toNat + 1 from by omega, zRu_s, if_pos (by first | exact Or.inr (Or.inl (hsr_3_0.1 (by omega))) | exact Or.inr (Or.inr (hsr_7_0.1 (by omega))))])), ht⟩) (fun q hq => by cases hq) dX8_closed_36
        · have fc_10 : r_7.toInt = 0 := zf_eq c_10 rfl (by decide)
          obtain ⟨x_11, ex_11⟩ : ∃ y : Int32, y = i_5 + 1 := ⟨_, rfl⟩
          have qx_11 : x_11.toInt = i_5.toInt + 1 := dw_inc ex_11 fc_2
          refine lv_iinc (v := x_11) (lv' := [(1, .int x_11), (0, .ref m0)]) hx hb dX8_closed_29 hl (k := 0) rfl ex_11.symm (by decide) rfl (fun ls hl => ?_)
          refine lv_goto (tgt := 5) hx hb dX8_closed_32 (by decide) ?_
          exact ih x_11 _ (lv_sub hl [0, 1] rfl) (show zRu gla gsl nga.toInt nte.toInt (nte.toInt - nat_.toInt).toNat nat_.toInt = zRu gla gsl nga.toInt nte.toInt (nte.toInt - x_11.toInt).toNat x_11.toInt from by (rw [hvi_5_0, show (nte.toInt - i_5.toInt).toNat = (nte.toInt - x_11.toInt).toNat + 1 from by omega, zRu_s, if_neg (fun z => by (rcases z with z | z | z; (omega); (exact hsr_3_0.2 (by omega) z); (exact hsr_7_0.2 (by omega) z))), show x_11.toInt = i_5.toInt + 1 from by omega])) (show x_11.toInt ≤ nte.toInt from by omega) (dw_lo hloi_5 qx_11) (dw_hn hni_5 qx_11)

