set_option maxHeartbeats 4000000 in
set_option maxRecDepth 100000 in
theorem c_F_J_draw_6 (l : Launch) (D : va_G) (cI cJ cZ cP cS : ClassId) (po : zPool) (j0 jp jc z0 zl zs : Nat) (cn de tr se hu sd : Int32) (hy0 : 0 ≤ cn.toInt) (hy1 : cn.toInt ≤ 8) (hy2 : 0 ≤ de.toInt) (hy3 : de.toInt ≤ 24) (hy4 : 0 ≤ hu.toInt) (hy5 : hu.toInt ≤ 9) (hpz : Nat) : Met l yX0_draw wsX0_draw ({ frames := 0, cells := 0, slots := 0, locals := 0 }) (va_Pc [.ref j0, .int 6] (zW D (zKT cI cJ cZ cP cS) po [(j0, .inr (0, [.ref z0, .ref jp, .ref jc, .int cn, .int de, .int tr, .int se, .int hu, .int sd]))] hpz)) (va_Qi (fun (r : Int32) (sd2 : (Int32)) => (sd2 = zSd sd) ∧ (r.toInt = zDr sd 6) ∧ (0 ≤ r.toInt ∧ r.toInt ≤ 5)) (zB D [(j0, .inr (0, [.ref z0, .ref jp, .ref jc, .int cn, .int de, .int tr, .int se, .int hu, .int sd]))] hpz (fun (sd2 : Int32) => [(j0, .inr (0, [.ref z0, .ref jp, .ref jc, .int cn, .int de, .int tr, .int se, .int hu, .int sd2]))])) (va_A [(j0, .inr (0, [.ref z0, .ref jp, .ref jc, .int cn, .int de, .int tr, .int se, .int hu, .int sd]))] hpz)) 0 0 (va_A [(j0, .inr (0, [.ref z0, .ref jp, .ref jc, .int cn, .int de, .int tr, .int se, .int hu, .int sd]))] hpz) := by
  refine Met.ofW (cc := cX0_draw) (maxL := 2) (ret := (some .int)) (by decide) rfl ?_
  intro p e s m args below meth c s₁ B hml hv
  obtain ⟨rfl, hsz, hP, hK, hD0, hN, hZ⟩ := hv
  have hx := B.exec
  have hb := B.bytes
  have hr := B.returns
  have hts := atoms_spec (ws := wsX0_draw) B.pre
  have hown : s.vm.findClass RX0 = some m.cls := findClass_of_methodNamed B.named
  have hlocks := B.notSynchronized
  subst hsz
  have hD := hD0.self (sz := s.heap.size)
  have hA := zA_of hD
  have hl := lv_entry ([.ref j0, .int 6]) (n := 2) (Nat.le_of_ble_eq_true rfl)
  rw [lg_entry_eq]
  generalize (lg_sl ([.ref j0, .int 6]) ++ List.replicate (2 - (lg_sl ([.ref j0, .int 6])).length) Slot.unset).toArray = ls at hl ⊢
  replace hl : lv_has ls 2 [(0, .ref j0), (1, .int 6)] := hl
  refine zw_begin hP hD (fun H locs hP1 hS => ?_)
  clear hP
  have hP := hP1
  clear hP1
  refine lv_aload_n hx hb dX0_draw_0 rfl (lv_at hl 0 rfl) ?_
  refine lv_aload_n hx hb dX0_draw_1 rfl (lv_at hl 0 rfl) ?_
  refine va_get (D := D) (ci := 0) (v := .int sd) (C := RX0) (T := TX0) (N := 9) hx hb hts hi_X0_draw_0 hown hK hP 0 rfl rfl 8 (by decide) (hts (.fieldLink RX0 44 "TheLiningsInIt$Jacket" "seedNow" "I") (List.mem_of_getElem? (i := 1) rfl)) (fun _ h9 => h9) rfl dX0_draw_2 ?_
  refine lv_ldc (own := RX0) (v := 1103515245) hx hb hown (hts _ (List.mem_of_getElem? (i := 2) rfl)) dX0_draw_5 ?_
  refine lv_imul hx hb dX0_draw_7 ?_
  refine lv_topi (fun x_1 ex_1 => ?_)
  refine lv_sipush (v := 12345) hx hb dX0_draw_8 (by decide) ?_
  refine lv_iadd hx hb dX0_draw_11 ?_
  refine lv_topi (fun x_2 ex_2 => ?_)
  refine va_put (D := D) (ci := 0) (v := .int x_2) (ty := .int) (C := RX0) (T := TX0) (N := 9) hx hb hts hi_X0_draw_0 tyX0 tyX0_ok nmX0 hown hK hP hD hS 0 rfl rfl 8 (by decide) (hts (.fieldLink RX0 44 "TheLiningsInIt$Jacket" "seedNow" "I") (List.mem_of_getElem? (i := 1) rfl)) (fun _ h9 => h9) rfl (tyX0_ok 8 (Nat.le_of_ble_eq_true rfl)) rfl rfl (Nat.le_of_ble_eq_true rfl) dX0_draw_12 (fun H locs hP hD hS => ?_)
  have h9R := zRe (ws' := [(j0, .inr (0, [.ref z0, .ref jp, .ref jc, .int cn, .int de, .int tr, .int se, .int hu, .int x_2]))]) hP hD rfl
  clear hP hD
  obtain ⟨hP, hD⟩ := h9R
  refine lv_iload_n hx hb dX0_draw_15 rfl (lv_at hl 1 rfl) ?_
  refine lv_iconst (v := 1) hx hb dX0_draw_16 (by decide) ?_
  refine lv_icmp_ge (tgt := 24) hx hb dX0_draw_17 (by decide) (fun c_3 => ?_) (fun c_3 => ?_)
  · refine lv_aload_n hx hb dX0_draw_24 rfl (lv_at hl 0 rfl) ?_
    refine va_get (D := D) (ci := 0) (v := .int x_2) (C := RX0) (T := TX0) (N := 9) hx hb hts hi_X0_draw_0 hown hK hP 0 rfl rfl 8 (by decide) (hts (.fieldLink RX0 44 "TheLiningsInIt$Jacket" "seedNow" "I") (List.mem_of_getElem? (i := 1) rfl)) (fun _ h9 => h9) rfl dX0_draw_25 ?_
    refine lv_bipush (v := 16) hx hb dX0_draw_28 (by decide) ?_
    refine lv_iushr hx hb dX0_draw_30 rfl ?_
    refine lv_topi (fun x_4 ex_4 => ?_)
    have bx_4 : 0 ≤ x_4.toInt ∧ x_4.toInt ≤ 65535 := by rw [ex_4]; exact zf_ushr
    refine lv_iload_n hx hb dX0_draw_31 rfl (lv_at hl 1 rfl) ?_
    refine lv_irem hx hb dX0_draw_32 (by decide) ?_
    refine lv_topi (fun x_5 ex_5 => ?_)
    have qx_5 : x_5.toInt = x_4.toInt - x_4.toInt / 6 * 6 := by rw [ex_5]; exact zf_rem rfl (by decide) (by omega) (by omega)
    exact W.iret (v := x_5) hx hb hr (fun t ht hW => ⟨⟨x_5, x_2, rfl, ⟨(show x_2 = zSd sd from by (unfold zSd; rw [ex_2, ex_1])), (show (x_5 : Int32).toInt = zDr sd 6 from by (have hsd : x_2 = zSd sd := (by unfold zSd; rw [ex_2, ex_1]); unfold zDr; rw [qx_5, ex_4, hsd])), ⟨by omega, by omega⟩⟩, zRet ht hP hD [0] (by decide) rfl⟩, hS.F ht⟩) hS.2.2 dX0_draw_33
  · exact absurd c_3 (by decide)
set_option maxHeartbeats 4000000 in
set_option maxRecDepth 100000 in
theorem c_F_J_draw_10 (l : Launch) (D : va_G) (cI cJ cZ cP cS : ClassId) (po : zPool) (j0 jp jc z0 zl zs : Nat) (cn de tr se hu sd : Int32) (hy0 : 0 ≤ cn.toInt) (hy1 : cn.toInt ≤ 8) (hy2 : 0 ≤ de.toInt) (hy3 : de.toInt ≤ 24) (hy4 : 0 ≤ hu.toInt) (hy5 : hu.toInt ≤ 9) (hpz : Nat) : Met l yX0_draw wsX0_draw ({ frames := 0, cells := 0, slots := 0, locals := 0 }) (va_Pc [.ref j0, .int 10] (zW D (zKT cI cJ cZ cP cS) po [(j0, .inr (0, [.ref z0, .ref jp, .ref jc, .int cn, .int de, .int tr, .int se, .int hu, .int sd]))] hpz)) (va_Qi (fun (r : Int32) (sd2 : (Int32)) => (sd2 = zSd sd) ∧ (r.toInt = zDr sd 10) ∧ (0 ≤ r.toInt ∧ r.toInt ≤ 9)) (zB D [(j0, .inr (0, [.ref z0, .ref jp, .ref jc, .int cn, .int de, .int tr, .int se, .int hu, .int sd]))] hpz (fun (sd2 : Int32) => [(j0, .inr (0, [.ref z0, .ref jp, .ref jc, .int cn, .int de, .int tr, .int se, .int hu, .int sd2]))])) (va_A [(j0, .inr (0, [.ref z0, .ref jp, .ref jc, .int cn, .int de, .int tr, .int se, .int hu, .int sd]))] hpz)) 0 0 (va_A [(j0, .inr (0, [.ref z0, .ref jp, .ref jc, .int cn, .int de, .int tr, .int se, .int hu, .int sd]))] hpz) := by
  refine Met.ofW (cc := cX0_draw) (maxL := 2) (ret := (some .int)) (by decide) rfl ?_
  intro p e s m args below meth c s₁ B hml hv
  obtain ⟨rfl, hsz, hP, hK, hD0, hN, hZ⟩ := hv
  have hx := B.exec
  have hb := B.bytes
  have hr := B.returns
  have hts := atoms_spec (ws := wsX0_draw) B.pre
  have hown : s.vm.findClass RX0 = some m.cls := findClass_of_methodNamed B.named
  have hlocks := B.notSynchronized
  subst hsz
  have hD := hD0.self (sz := s.heap.size)
  have hA := zA_of hD
  have hl := lv_entry ([.ref j0, .int 10]) (n := 2) (Nat.le_of_ble_eq_true rfl)
  rw [lg_entry_eq]
  generalize (lg_sl ([.ref j0, .int 10]) ++ List.replicate (2 - (lg_sl ([.ref j0, .int 10])).length) Slot.unset).toArray = ls at hl ⊢
  replace hl : lv_has ls 2 [(0, .ref j0), (1, .int 10)] := hl
  refine zw_begin hP hD (fun H locs hP1 hS => ?_)
  clear hP
  have hP := hP1
  clear hP1
  refine lv_aload_n hx hb dX0_draw_0 rfl (lv_at hl 0 rfl) ?_
  refine lv_aload_n hx hb dX0_draw_1 rfl (lv_at hl 0 rfl) ?_
  refine va_get (D := D) (ci := 0) (v := .int sd) (C := RX0) (T := TX0) (N := 9) hx hb hts hi_X0_draw_0 hown hK hP 0 rfl rfl 8 (by decide) (hts (.fieldLink RX0 44 "TheLiningsInIt$Jacket" "seedNow" "I") (List.mem_of_getElem? (i := 1) rfl)) (fun _ h9 => h9) rfl dX0_draw_2 ?_
  refine lv_ldc (own := RX0) (v := 1103515245) hx hb hown (hts _ (List.mem_of_getElem? (i := 2) rfl)) dX0_draw_5 ?_
  refine lv_imul hx hb dX0_draw_7 ?_
  refine lv_topi (fun x_1 ex_1 => ?_)
  refine lv_sipush (v := 12345) hx hb dX0_draw_8 (by decide) ?_
  refine lv_iadd hx hb dX0_draw_11 ?_
  refine lv_topi (fun x_2 ex_2 => ?_)
  refine va_put (D := D) (ci := 0) (v := .int x_2) (ty := .int) (C := RX0) (T := TX0) (N := 9) hx hb hts hi_X0_draw_0 tyX0 tyX0_ok nmX0 hown hK hP hD hS 0 rfl rfl 8 (by decide) (hts (.fieldLink RX0 44 "TheLiningsInIt$Jacket" "seedNow" "I") (List.mem_of_getElem? (i := 1) rfl)) (fun _ h9 => h9) rfl (tyX0_ok 8 (Nat.le_of_ble_eq_true rfl)) rfl rfl (Nat.le_of_ble_eq_true rfl) dX0_draw_12 (fun H locs hP hD hS => ?_)
  have h9R := zRe (ws' := [(j0, .inr (0, [.ref z0, .ref jp, .ref jc, .int cn, .int de, .int tr, .int se, .int hu, .int x_2]))]) hP hD rfl
  clear hP hD
  obtain ⟨hP, hD⟩ := h9R
  refine lv_iload_n hx hb dX0_draw_15 rfl (lv_at hl 1 rfl) ?_
  refine lv_iconst (v := 1) hx hb dX0_draw_16 (by decide) ?_
  refine lv_icmp_ge (tgt := 24) hx hb dX0_draw_17 (by decide) (fun c_3 => ?_) (fun c_3 => ?_)
  · refine lv_aload_n hx hb dX0_draw_24 rfl (lv_at hl 0 rfl) ?_
    refine va_get (D := D) (ci := 0) (v := .int x_2) (C := RX0) (T := TX0) (N := 9) hx hb hts hi_X0_draw_0 hown hK hP 0 rfl rfl 8 (by decide) (hts (.fieldLink RX0 44 "TheLiningsInIt$Jacket" "seedNow" "I") (List.mem_of_getElem? (i := 1) rfl)) (fun _ h9 => h9) rfl dX0_draw_25 ?_
    refine lv_bipush (v := 16) hx hb dX0_draw_28 (by decide) ?_
    refine lv_iushr hx hb dX0_draw_30 rfl ?_
    refine lv_topi (fun x_4 ex_4 => ?_)
    have bx_4 : 0 ≤ x_4.toInt ∧ x_4.toInt ≤ 65535 := by rw [ex_4]; exact zf_ushr
    refine lv_iload_n hx hb dX0_draw_31 rfl (lv_at hl 1 rfl) ?_
    refine lv_irem hx hb dX0_draw_32 (by decide) ?_
    refine lv_topi (fun x_5 ex_5 => ?_)
    have qx_5 : x_5.toInt = x_4.toInt - x_4.toInt / 10 * 10 := by rw [ex_5]; exact zf_rem rfl (by decide) (by omega) (by omega)
    exact W.iret (v := x_5) hx hb hr (fun t ht hW => ⟨⟨x_5, x_2, rfl, ⟨(show x_2 = zSd sd from by (unfold zSd; rw [ex_2, ex_1])), (show (x_5 : Int32).toInt = zDr sd 10 from by (have hsd : x_2 = zSd sd := (by unfold zSd; rw [ex_2, ex_1]); unfold zDr; rw [qx_5, ex_4, hsd])), ⟨by omega, by omega⟩⟩, zRet ht hP hD [0] (by decide) rfl⟩, hS.F ht⟩) hS.2.2 dX0_draw_33
  · exact absurd c_3 (by decide)
set_option maxHeartbeats 4000000 in
set_option maxRecDepth 100000 in
theorem c_F_J_draw_12 (l : Launch) (D : va_G) (cI cJ cZ cP cS : ClassId) (po : zPool) (j0 jp jc z0 zl zs : Nat) (cn de tr se hu sd : Int32) (hy0 : 0 ≤ cn.toInt) (hy1 : cn.toInt ≤ 8) (hy2 : 0 ≤ de.toInt) (hy3 : de.toInt ≤ 24) (hy4 : 0 ≤ hu.toInt) (hy5 : hu.toInt ≤ 9) (hpz : Nat) : Met l yX0_draw wsX0_draw ({ frames := 0, cells := 0, slots := 0, locals := 0 }) (va_Pc [.ref j0, .int 12] (zW D (zKT cI cJ cZ cP cS) po [(j0, .inr (0, [.ref z0, .ref jp, .ref jc, .int cn, .int de, .int tr, .int se, .int hu, .int sd]))] hpz)) (va_Qi (fun (r : Int32) (sd2 : (Int32)) => (sd2 = zSd sd) ∧ (r.toInt = zDr sd 12) ∧ (0 ≤ r.toInt ∧ r.toInt ≤ 11)) (zB D [(j0, .inr (0, [.ref z0, .ref jp, .ref jc, .int cn, .int de, .int tr, .int se, .int hu, .int sd]))] hpz (fun (sd2 : Int32) => [(j0, .inr (0, [.ref z0, .ref jp, .ref jc, .int cn, .int de, .int tr, .int se, .int hu, .int sd2]))])) (va_A [(j0, .inr (0, [.ref z0, .ref jp, .ref jc, .int cn, .int de, .int tr, .int se, .int hu, .int sd]))] hpz)) 0 0 (va_A [(j0, .inr (0, [.ref z0, .ref jp, .ref jc, .int cn, .int de, .int tr, .int se, .int hu, .int sd]))] hpz) := by
  refine Met.ofW (cc := cX0_draw) (maxL := 2) (ret := (some .int)) (by decide) rfl ?_
  intro p e s m args below meth c s₁ B hml hv
  obtain ⟨rfl, hsz, hP, hK, hD0, hN, hZ⟩ := hv
  have hx := B.exec
  have hb := B.bytes
  have hr := B.returns
  have hts := atoms_spec (ws := wsX0_draw) B.pre
  have hown : s.vm.findClass RX0 = some m.cls := findClass_of_methodNamed B.named
  have hlocks := B.notSynchronized
  subst hsz
  have hD := hD0.self (sz := s.heap.size)
  have hA := zA_of hD
  have hl := lv_entry ([.ref j0, .int 12]) (n := 2) (Nat.le_of_ble_eq_true rfl)
  rw [lg_entry_eq]
  generalize (lg_sl ([.ref j0, .int 12]) ++ List.replicate (2 - (lg_sl ([.ref j0, .int 12])).length) Slot.unset).toArray = ls at hl ⊢
  replace hl : lv_has ls 2 [(0, .ref j0), (1, .int 12)] := hl
  refine zw_begin hP hD (fun H locs hP1 hS => ?_)
  clear hP
  have hP := hP1
  clear hP1
  refine lv_aload_n hx hb dX0_draw_0 rfl (lv_at hl 0 rfl) ?_
  refine lv_aload_n hx hb dX0_draw_1 rfl (lv_at hl 0 rfl) ?_
  refine va_get (D := D) (ci := 0) (v := .int sd) (C := RX0) (T := TX0) (N := 9) hx hb hts hi_X0_draw_0 hown hK hP 0 rfl rfl 8 (by decide) (hts (.fieldLink RX0 44 "TheLiningsInIt$Jacket" "seedNow" "I") (List.mem_of_getElem? (i := 1) rfl)) (fun _ h9 => h9) rfl dX0_draw_2 ?_
  refine lv_ldc (own := RX0) (v := 1103515245) hx hb hown (hts _ (List.mem_of_getElem? (i := 2) rfl)) dX0_draw_5 ?_
  refine lv_imul hx hb dX0_draw_7 ?_
  refine lv_topi (fun x_1 ex_1 => ?_)
  refine lv_sipush (v := 12345) hx hb dX0_draw_8 (by decide) ?_
  refine lv_iadd hx hb dX0_draw_11 ?_
  refine lv_topi (fun x_2 ex_2 => ?_)
  refine va_put (D := D) (ci := 0) (v := .int x_2) (ty := .int) (C := RX0) (T := TX0) (N := 9) hx hb hts hi_X0_draw_0 tyX0 tyX0_ok nmX0 hown hK hP hD hS 0 rfl rfl 8 (by decide) (hts (.fieldLink RX0 44 "TheLiningsInIt$Jacket" "seedNow" "I") (List.mem_of_getElem? (i := 1) rfl)) (fun _ h9 => h9) rfl (tyX0_ok 8 (Nat.le_of_ble_eq_true rfl)) rfl rfl (Nat.le_of_ble_eq_true rfl) dX0_draw_12 (fun H locs hP hD hS => ?_)
  have h9R := zRe (ws' := [(j0, .inr (0, [.ref z0, .ref jp, .ref jc, .int cn, .int de, .int tr, .int se, .int hu, .int x_2]))]) hP hD rfl
  clear hP hD
  obtain ⟨hP, hD⟩ := h9R
  refine lv_iload_n hx hb dX0_draw_15 rfl (lv_at hl 1 rfl) ?_
  refine lv_iconst (v := 1) hx hb dX0_draw_16 (by decide) ?_
  refine lv_icmp_ge (tgt := 24) hx hb dX0_draw_17 (by decide) (fun c_3 => ?_) (fun c_3 => ?_)
  · refine lv_aload_n hx hb dX0_draw_24 rfl (lv_at hl 0 rfl) ?_
    refine va_get (D := D) (ci := 0) (v := .int x_2) (C := RX0) (T := TX0) (N := 9) hx hb hts hi_X0_draw_0 hown hK hP 0 rfl rfl 8 (by decide) (hts (.fieldLink RX0 44 "TheLiningsInIt$Jacket" "seedNow" "I") (List.mem_of_getElem? (i := 1) rfl)) (fun _ h9 => h9) rfl dX0_draw_25 ?_
    refine lv_bipush (v := 16) hx hb dX0_draw_28 (by decide) ?_
    refine lv_iushr hx hb dX0_draw_30 rfl ?_
    refine lv_topi (fun x_4 ex_4 => ?_)
    have bx_4 : 0 ≤ x_4.toInt ∧ x_4.toInt ≤ 65535 := by rw [ex_4]; exact zf_ushr
    refine lv_iload_n hx hb dX0_draw_31 rfl (lv_at hl 1 rfl) ?_
    refine lv_irem hx hb dX0_draw_32 (by decide) ?_
    refine lv_topi (fun x_5 ex_5 => ?_)
    have qx_5 : x_5.toInt = x_4.toInt - x_4.toInt / 12 * 12 := by rw [ex_5]; exact zf_rem rfl (by decide) (by omega) (by omega)
    exact W.iret (v := x_5) hx hb hr (fun t ht hW => ⟨⟨x_5, x_2, rfl, ⟨(show x_2 = zSd sd from by (unfold zSd; rw [ex_2, ex_1])), (show (x_5 : Int32).toInt = zDr sd 12 from by (have hsd : x_2 = zSd sd := (by unfold zSd; rw [ex_2, ex_1]); unfold zDr; rw [qx_5, ex_4, hsd])), ⟨by omega, by omega⟩⟩, zRet ht hP hD [0] (by decide) rfl⟩, hS.F ht⟩) hS.2.2 dX0_draw_33
  · exact absurd c_3 (by decide)
set_option maxHeartbeats 4000000 in
set_option maxRecDepth 100000 in
theorem c_F_J_pullInTruth (l : Launch) (D : va_G) (cI cJ cZ cP cS : ClassId) (po : zPool) (j0 jp jc z0 zl zs : Nat) (cn de tr se hu sd : Int32) (u0 : Nat) (ki a_ ta : Int32) (hu_u0 : zPu po u0 ki a_ ta) (hr_u0 : zPr ki a_ ta) (hy2 : 0 ≤ cn.toInt) (hy3 : cn.toInt ≤ 8) (hy4 : 0 ≤ de.toInt) (hy5 : de.toInt ≤ 24) (hy6 : 0 ≤ hu.toInt) (hy7 : hu.toInt ≤ 9) (hy8 : 0 ≤ se.toInt) (hy9 : se.toInt ≤ 300) (hy10 : ta.toInt ≤ se.toInt) (hpz : Nat) : Met l yX0_pullInTruth wsX0_pullInTruth ({ frames := 2, cells := 0, slots := 0, locals := 44 }) (va_Pc [.ref j0, .ref u0] (zW D (zKT cI cJ cZ cP cS) po [(j0, .inr (0, [.ref z0, .ref jp, .ref jc, .int cn, .int de, .int tr, .int se, .int hu, .int sd]))] hpz)) (va_Qv (fun (u : (Int32) × (Int32) × (Int32) × (Int32)) => (0 ≤ u.1.toInt ∧ u.1.toInt ≤ 24) ∧ (zP1 ki.toInt a_.toInt ta.toInt hu.toInt (de.toInt, se.toInt, tr, sd) = (u.1.toInt, u.2.2.1.toInt, u.2.1, u.2.2.2)) ∧ (True)) (zB D [(j0, .inr (0, [.ref z0, .ref jp, .ref jc, .int cn, .int de, .int tr, .int se, .int hu, .int sd]))] hpz (fun (u : (Int32) × (Int32) × (Int32) × (Int32)) => [(j0, .inr (0, [.ref z0, .ref jp, .ref jc, .int cn, .int u.1, .int u.2.1, .int u.2.2.1, .int hu, .int u.2.2.2]))])) (va_A [(j0, .inr (0, [.ref z0, .ref jp, .ref jc, .int cn, .int de, .int tr, .int se, .int hu, .int sd]))] hpz)) 0 0 (va_A [(j0, .inr (0, [.ref z0, .ref jp, .ref jc, .int cn, .int de, .int tr, .int se, .int hu, .int sd]))] hpz) := by
  refine Met.ofW (cc := cX0_pullInTruth) (maxL := 3) (ret := none) (by decide) rfl ?_
  intro p e s m args below meth c s₁ B hml hv
  obtain ⟨rfl, hsz, hP, hK, hD0, hN, hZ⟩ := hv
  have hx := B.exec
  have hb := B.bytes
  have hr := B.returns
  have hts := atoms_spec (ws := wsX0_pullInTruth) B.pre
  have hown : s.vm.findClass RX0 = some m.cls := findClass_of_methodNamed B.named
  have hlocks := B.notSynchronized
  subst hsz
  have hD := hD0.self (sz := s.heap.size)
  have hA := zA_of hD
  have hl := lv_entry ([.ref j0, .ref u0]) (n := 3) (Nat.le_of_ble_eq_true rfl)
  rw [lg_entry_eq]
  generalize (lg_sl ([.ref j0, .ref u0]) ++ List.replicate (3 - (lg_sl ([.ref j0, .ref u0])).length) Slot.unset).toArray = ls at hl ⊢
  replace hl : lv_has ls 3 [(0, .ref j0), (1, .ref u0)] := hl
  refine zw_begin hP hD (fun H locs hP1 hS => ?_)
  clear hP
  have hP := hP1
  clear hP1
  obtain ⟨⟨p1_u0, p2_u0⟩, ⟨p3_u0, p4_u0⟩, p5_u0, p6_u0⟩ := id hr_u0
  refine lv_aload_n hx hb dX0_pullInTruth_0 rfl (lv_at hl 0 rfl) ?_
  refine lv_bipush (v := 12) hx hb dX0_pullInTruth_1 (by decide) ?_
  skip
  refine zw_V (As := [.int 12]) (rest := []) (wr := []) ⟨hx, hb, hml, hown, hts⟩ (c_F_J_draw_12 l D cI cJ cZ cP cS po j0 jp jc z0 0 0 (cn) (de) (tr) (se) (hu) (sd) hy2 hy3 hy4 hy5 hy6 hy7 H.size) (cwV 1 hts gX0_pullInTruth_X0_draw rfl rfl rfl ⟨rfl, dh_X0_draw⟩ ⟨Nat.le_of_ble_eq_true rfl, Nat.le_of_ble_eq_true rfl⟩) hK hN (hZ.kept hS) hP hD hS hA [0] [] rfl rfl (by decide) (by decide) (by decide) (va_recv (q := (RX0, TX0, 9)) hK hP (ci := 0) (q0 := 0) rfl rfl) rfl hl.1 rfl (Nat.le_of_ble_eq_true rfl) dX0_pullInTruth_3 ⟨Nat.le_of_ble_eq_true rfl, Nat.le_of_ble_eq_true rfl⟩ (fun r_1 u_2 H locs hr_1 hP hD hS => ?_)
  obtain ⟨q_3, rfl⟩ : ∃ z, z = u_2 := ⟨_, rfl⟩
  obtain ⟨hsr_1_0, hsr_1_1, hr_1⟩ := hr_1
  have h9R := zRe (ws' := [(j0, .inr (0, [.ref z0, .ref jp, .ref jc, .int cn, .int de, .int tr, .int se, .int hu, .int q_3]))]) hP hD rfl
  clear hP hD
  obtain ⟨hP, hD⟩ := h9R
  obtain ⟨g_4, g_5⟩ := hr_1
  refine lv_aload_n hx hb dX0_pullInTruth_6 rfl (lv_at hl 1 rfl) ?_
  refine lv_aload_n hx hb dX0_pullInTruth_7 rfl (lv_at hl 0 rfl) ?_
  refine va_get (D := D) (ci := 0) (v := .int de) (C := RX0) (T := TX0) (N := 9) hx hb hts hi_X0_pullInTruth_0 hown hK hP 0 rfl rfl 4 (by decide) (hts (.fieldLink RX0 32 "TheLiningsInIt$Jacket" "depth" "I") (List.mem_of_getElem? (i := 1) rfl)) (fun _ h9 => h9) rfl dX0_pullInTruth_8 ?_
  refine lv_aload_n hx hb dX0_pullInTruth_11 rfl (lv_at hl 0 rfl) ?_
  refine va_get (D := D) (ci := 0) (v := .int hu) (C := RX0) (T := TX0) (N := 9) hx hb hts hi_X0_pullInTruth_0 hown hK hP 0 rfl rfl 7 (by decide) (hts (.fieldLink RX0 41 "TheLiningsInIt$Jacket" "hurry" "I") (List.mem_of_getElem? (i := 2) rfl)) (fun _ h9 => h9) rfl dX0_pullInTruth_12 ?_
  refine zc_V (As := [.int de, .int hu]) (rest := [.int r_1]) ⟨hx, hb, hml, hown, hts⟩ (c_F_Pull_waysAt l D cI cJ cZ cP cS po (de) (hu) u0 (ki) (a_) (ta) hu_u0 ⟨by omega, by omega, by omega, by omega⟩ hy4 hy5 hy6 hy7) (cwV 2 hts gX0_pullInTruth_X2_waysAt rfl rfl rfl ⟨rfl, dh_X2_waysAt⟩ ⟨Nat.le_of_ble_eq_true rfl, Nat.le_of_ble_eq_true rfl⟩) hK hN (hZ.kept hS) hP zP_nil (va_recv (q := (RX2, TX2, 3)) hK (zPu_P (hZ.kept hS) hu_u0) (ci := 2) (q0 := 0) rfl rfl) rfl hl.1 rfl (Nat.le_of_ble_eq_true rfl) dX0_pullInTruth_15 ⟨Nat.le_of_ble_eq_true rfl, Nat.le_of_ble_eq_true rfl⟩ (fun r_6 hr_6 => ?_)
  obtain ⟨g_7, g_8, hsr_6_0⟩ := hr_6
  refine lv_icmp_ge (tgt := 25) hx hb dX0_pullInTruth_18 (by decide) (fun c_9 => ?_) (fun c_9 => ?_)
  · have fc_9 : r_6.toInt ≤ r_1.toInt := zf_le c_9 rfl rfl
    refine lv_iconst (v := 0) hx hb dX0_pullInTruth_25 (by decide) ?_
    refine lv_istore_n (lv' := [(2, .int 0), (0, .ref j0), (1, .ref u0)]) hx hb dX0_pullInTruth_26 rfl hl (by decide) rfl (fun ls hl => ?_)
    refine lv_aload_n hx hb dX0_pullInTruth_27 rfl (lv_at hl 1 rfl) ?_
    refine lv_iload_n hx hb dX0_pullInTruth_28 rfl (lv_at hl 0 rfl) ?_
    refine lv_if_eq (tgt := 43) hx hb dX0_pullInTruth_29 (by decide) (fun c_10 => ?_) (fun c_10 => ?_)
    · refine lv_aload_n hx hb dX0_pullInTruth_43 rfl (lv_at hl 2 rfl) ?_
      refine lv_aload_n hx hb dX0_pullInTruth_44 rfl (lv_at hl 1 rfl) ?_
      refine va_get (D := D) (ci := 0) (v := .int de) (C := RX0) (T := TX0) (N := 9) hx hb hts hi_X0_pullInTruth_0 hown hK hP 0 rfl rfl 4 (by decide) (hts (.fieldLink RX0 32 "TheLiningsInIt$Jacket" "depth" "I") (List.mem_of_getElem? (i := 1) rfl)) (fun _ h9 => h9) rfl dX0_pullInTruth_45 ?_
      refine lv_aload_n hx hb dX0_pullInTruth_48 rfl (lv_at hl 1 rfl) ?_
      refine va_get (D := D) (ci := 0) (v := .int hu) (C := RX0) (T := TX0) (N := 9) hx hb hts hi_X0_pullInTruth_0 hown hK hP 0 rfl rfl 7 (by decide) (hts (.fieldLink RX0 41 "TheLiningsInIt$Jacket" "hurry" "I") (List.mem_of_getElem? (i := 2) rfl)) (fun _ h9 => h9) rfl dX0_pullInTruth_49 ?_
      refine zc_V (As := [.int de, .int hu]) (rest := [.ref j0]) ⟨hx, hb, hml, hown, hts⟩ (c_F_Pull_deeper l D cI cJ cZ cP cS po (de) (hu) u0 (ki) (a_) (ta) hu_u0 ⟨by omega, by omega, by omega, by omega⟩ hy4 hy5 hy6 hy7) (cwV 2 hts gX0_pullInTruth_X2_deeper rfl rfl rfl ⟨rfl, dh_X2_deeper⟩ ⟨Nat.le_of_ble_eq_true rfl, Nat.le_of_ble_eq_true rfl⟩) hK hN (hZ.kept hS) hP zP_nil (va_recv (q := (RX2, TX2, 3)) hK (zPu_P (hZ.kept hS) hu_u0) (ci := 2) (q0 := 0) rfl rfl) rfl hl.1 rfl (Nat.le_of_ble_eq_true rfl) dX0_pullInTruth_52 ⟨Nat.le_of_ble_eq_true rfl, Nat.le_of_ble_eq_true rfl⟩ (fun r_11 hr_11 => ?_)
      obtain ⟨g_12, g_13, hsr_11_0⟩ := hr_11
      refine va_put (D := D) (ci := 0) (v := .int r_11) (ty := .int) (C := RX0) (T := TX0) (N := 9) hx hb hts hi_X0_pullInTruth_0 tyX0 tyX0_ok nmX0 hown hK hP hD hS 0 rfl rfl 4 (by decide) (hts (.fieldLink RX0 32 "TheLiningsInIt$Jacket" "depth" "I") (List.mem_of_getElem? (i := 1) rfl)) (fun _ h9 => h9) rfl (tyX0_ok 4 (Nat.le_of_ble_eq_true rfl)) rfl rfl (Nat.le_of_ble_eq_true rfl) dX0_pullInTruth_55 (fun H locs hP hD hS => ?_)
      have h9R := zRe (ws' := [(j0, .inr (0, [.ref z0, .ref jp, .ref jc, .int cn, .int r_11, .int tr, .int se, .int hu, .int q_3]))]) hP hD rfl
      clear hP hD
      obtain ⟨hP, hD⟩ := h9R
      refine lv_aload_n hx hb dX0_pullInTruth_58 rfl (lv_at hl 1 rfl) ?_
      refine lv_dup hx hb dX0_pullInTruth_59 rfl ?_
      refine va_get (D := D) (ci := 0) (v := .int se) (C := RX0) (T := TX0) (N := 9) hx hb hts hi_X0_pullInTruth_0 hown hK hP 0 rfl rfl 6 (by decide) (hts (.fieldLink RX0 38 "TheLiningsInIt$Jacket" "seconds" "I") (List.mem_of_getElem? (i := 3) rfl)) (fun _ h9 => h9) rfl dX0_pullInTruth_60 ?_
      refine lv_aload_n hx hb dX0_pullInTruth_63 rfl (lv_at hl 2 rfl) ?_
      refine va_get (D := D) (ci := 2) (v := .int ta) (C := RX2) (T := TX2) (N := 3) hx hb hts hi_X0_pullInTruth_2 hown hK (zPu_P (hZ.kept hS) hu_u0) 0 rfl rfl 2 (by decide) (hts (.fieldLink RX0 99 "TheLiningsInIt$Pull" "takes" "I") (List.mem_of_getElem? (i := 4) rfl)) (fun _ h9 => h9) rfl dX0_pullInTruth_64 ?_
      refine lv_isub hx hb dX0_pullInTruth_67 ?_
      refine lv_topi (fun x_14 ex_14 => ?_)
      have qx_14 : x_14.toInt = se.toInt - ta.toInt := by rw [ex_14]; exact zf_sub rfl rfl (by omega) (by omega)
      refine va_put (D := D) (ci := 0) (v := .int x_14) (ty := .int) (C := RX0) (T := TX0) (N := 9) hx hb hts hi_X0_pullInTruth_0 tyX0 tyX0_ok nmX0 hown hK hP hD hS 0 rfl rfl 6 (by decide) (hts (.fieldLink RX0 38 "TheLiningsInIt$Jacket" "seconds" "I") (List.mem_of_getElem? (i := 3) rfl)) (fun _ h9 => h9) rfl (tyX0_ok 6 (Nat.le_of_ble_eq_true rfl)) rfl rfl (Nat.le_of_ble_eq_true rfl) dX0_pullInTruth_68 (fun H locs hP hD hS => ?_)
      have h9R := zRe (ws' := [(j0, .inr (0, [.ref z0, .ref jp, .ref jc, .int cn, .int r_11, .int tr, .int x_14, .int hu, .int q_3]))]) hP hD rfl
      clear hP hD
      obtain ⟨hP, hD⟩ := h9R
      refine lv_aload_n hx hb dX0_pullInTruth_71 rfl (lv_at hl 2 rfl) ?_
      refine va_get (D := D) (ci := 2) (v := .int ki) (C := RX2) (T := TX2) (N := 3) hx hb hts hi_X0_pullInTruth_2 hown hK (zPu_P (hZ.kept hS) hu_u0) 0 rfl rfl 0 (by decide) (hts (.fieldLink RX0 102 "TheLiningsInIt$Pull" "kind" "I") (List.mem_of_getElem? (i := 5) rfl)) (fun _ h9 => h9) rfl dX0_pullInTruth_72 ?_
      refine lv_iconst (v := 5) hx hb dX0_pullInTruth_75 (by decide) ?_
      refine lv_icmp_ne (tgt := 89) hx hb dX0_pullInTruth_76 (by decide) (fun c_15 => ?_) (fun c_15 => ?_)
      · have fc_15 : ki.toInt ≠ 5 := zf_ne c_15 rfl (by decide)
        exact W.vret hx hb hr (fun t ht hW => ⟨⟨(r_11, tr, x_14, q_3), rfl, ⟨(show 0 ≤ r_11.toInt ∧ r_11.toInt ≤ 24 from ⟨by omega, by omega⟩), (show zP1 ki.toInt a_.toInt ta.toInt hu.toInt (de.toInt, se.toInt, tr, sd) = (r_11.toInt, x_14.toInt, tr, q_3) from by (unfold zP1; refine Prod.ext ?_ (Prod.ext ?_ (Prod.ext ?_ ?_)) <;> dsimp only; (rw [if_neg (by rw [← hsr_1_1, ← hsr_6_0]; omega)]; exact hsr_11_0.symm); omega; (rw [if_neg (by omega)]); exact hsr_1_0.symm)), trivial⟩, zRet ht hP hD [0] (by decide) rfl⟩, hS.F ht⟩) hS.2.2 dX0_pullInTruth_89
      · have fc_15 : ki.toInt = 5 := zf_eq c_15 rfl (by decide)
        refine lv_aload_n hx hb dX0_pullInTruth_79 rfl (lv_at hl 1 rfl) ?_
        refine lv_dup hx hb dX0_pullInTruth_80 rfl ?_
        refine va_get (D := D) (ci := 0) (v := .int tr) (C := RX0) (T := TX0) (N := 9) hx hb hts hi_X0_pullInTruth_0 hown hK hP 0 rfl rfl 5 (by decide) (hts (.fieldLink RX0 35 "TheLiningsInIt$Jacket" "torn" "I") (List.mem_of_getElem? (i := 6) rfl)) (fun _ h9 => h9) rfl dX0_pullInTruth_81 ?_
        refine lv_iconst (v := 1) hx hb dX0_pullInTruth_84 (by decide) ?_
        refine lv_iadd hx hb dX0_pullInTruth_85 ?_
        refine lv_topi (fun x_16 ex_16 => ?_)
        refine va_put (D := D) (ci := 0) (v := .int x_16) (ty := .int) (C := RX0) (T := TX0) (N := 9) hx hb hts hi_X0_pullInTruth_0 tyX0 tyX0_ok nmX0 hown hK hP hD hS 0 rfl rfl 5 (by decide) (hts (.fieldLink RX0 35 "TheLiningsInIt$Jacket" "torn" "I") (List.mem_of_getElem? (i := 6) rfl)) (fun _ h9 => h9) rfl (tyX0_ok 5 (Nat.le_of_ble_eq_true rfl)) rfl rfl (Nat.le_of_ble_eq_true rfl) dX0_pullInTruth_86 (fun H locs hP hD hS => ?_)
        have h9R := zRe (ws' := [(j0, .inr (0, [.ref z0, .ref jp, .ref jc, .int cn, .int r_11, .int x_16, .int x_14, .int hu, .int q_3]))]) hP hD rfl
        clear hP hD
        obtain ⟨hP, hD⟩ := h9R
        exact W.vret hx hb hr (fun t ht hW => ⟨⟨(r_11, x_16, x_14, q_3), rfl, ⟨(show 0 ≤ r_11.toInt ∧ r_11.toInt ≤ 24 from ⟨by omega, by omega⟩), (show zP1 ki.toInt a_.toInt ta.toInt hu.toInt (de.toInt, se.toInt, tr, sd) = (r_11.toInt, x_14.toInt, x_16, q_3) from by (unfold zP1; refine Prod.ext ?_ (Prod.ext ?_ (Prod.ext ?_ ?_)) <;> dsimp only; (rw [if_neg (by rw [← hsr_1_1, ← hsr_6_0]; omega)]; exact hsr_11_0.symm); omega; (rw [if_pos (by omega)]; exact ex_16.symm); exact hsr_1_0.symm)), trivial⟩, zRet ht hP hD [0] (by decide) rfl⟩, hS.F ht⟩) hS.2.2 dX0_pullInTruth_89
    · exact absurd c_10 (by decide)
  · have fc_9 : r_1.toInt < r_6.toInt := zf_nle c_9 rfl rfl
    refine lv_iconst (v := 1) hx hb dX0_pullInTruth_21 (by decide) ?_
    refine lv_goto (tgt := 26) hx hb dX0_pullInTruth_22 (by decide) ?_
    refine lv_istore_n (lv' := [(2, .int 1), (0, .ref j0), (1, .ref u0)]) hx hb dX0_pullInTruth_26 rfl hl (by decide) rfl (fun ls hl => ?_)
    refine lv_aload_n hx hb dX0_pullInTruth_27 rfl (lv_at hl 1 rfl) ?_
    refine lv_iload_n hx hb dX0_pullInTruth_28 rfl (lv_at hl 0 rfl) ?_
    refine lv_if_eq (tgt := 43) hx hb dX0_pullInTruth_29 (by decide) (fun c_17 => ?_) (fun c_17 => ?_)
    · exact absurd c_17 (by decide)
    · refine lv_aload_n hx hb dX0_pullInTruth_32 rfl (lv_at hl 2 rfl) ?_
      refine lv_aload_n hx hb dX0_pullInTruth_33 rfl (lv_at hl 1 rfl) ?_
      refine va_get (D := D) (ci := 0) (v := .int de) (C := RX0) (T := TX0) (N := 9) hx hb hts hi_X0_pullInTruth_0 hown hK hP 0 rfl rfl 4 (by decide) (hts (.fieldLink RX0 32 "TheLiningsInIt$Jacket" "depth" "I") (List.mem_of_getElem? (i := 1) rfl)) (fun _ h9 => h9) rfl dX0_pullInTruth_34 ?_
      refine zc_V (As := [.int de]) (rest := [.ref j0]) ⟨hx, hb, hml, hown, hts⟩ (c_F_Pull_shallower l D cI cJ cZ cP cS po (de) u0 (ki) (a_) (ta) hu_u0 ⟨by omega, by omega, by omega, by omega⟩ hy4 hy5) (cwV 1 hts gX0_pullInTruth_X2_shallower rfl rfl rfl ⟨rfl, dh_X2_shallower⟩ ⟨Nat.le_of_ble_eq_true rfl, Nat.le_of_ble_eq_true rfl⟩) hK hN (hZ.kept hS) hP zP_nil (va_recv (q := (RX2, TX2, 3)) hK (zPu_P (hZ.kept hS) hu_u0) (ci := 2) (q0 := 0) rfl rfl) rfl hl.1 rfl (Nat.le_of_ble_eq_true rfl) dX0_pullInTruth_37 ⟨Nat.le_of_ble_eq_true rfl, Nat.le_of_ble_eq_true rfl⟩ (fun r_18 hr_18 => ?_)
      obtain ⟨g_19, g_20, hsr_18_0⟩ := hr_18
      refine lv_goto (tgt := 55) hx hb dX0_pullInTruth_40 (by decide) ?_
      refine va_put (D := D) (ci := 0) (v := .int r_18) (ty := .int) (C := RX0) (T := TX0) (N := 9) hx hb hts hi_X0_pullInTruth_0 tyX0 tyX0_ok nmX0 hown hK hP hD hS 0 rfl rfl 4 (by decide) (hts (.fieldLink RX0 32 "TheLiningsInIt$Jacket" "depth" "I") (List.mem_of_getElem? (i := 1) rfl)) (fun _ h9 => h9) rfl (tyX0_ok 4 (Nat.le_of_ble_eq_true rfl)) rfl rfl (Nat.le_of_ble_eq_true rfl) dX0_pullInTruth_55 (fun H locs hP hD hS => ?_)
      have h9R := zRe (ws' := [(j0, .inr (0, [.ref z0, .ref jp, .ref jc, .int cn, .int r_18, .int tr, .int se, .int hu, .int q_3]))]) hP hD rfl
      clear hP hD
      obtain ⟨hP, hD⟩ := h9R
      refine lv_aload_n hx hb dX0_pullInTruth_58 rfl (lv_at hl 1 rfl) ?_
      refine lv_dup hx hb dX0_pullInTruth_59 rfl ?_
      refine va_get (D := D) (ci := 0) (v := .int se) (C := RX0) (T := TX0) (N := 9) hx hb hts hi_X0_pullInTruth_0 hown hK hP 0 rfl rfl 6 (by decide) (hts (.fieldLink RX0 38 "TheLiningsInIt$Jacket" "seconds" "I") (List.mem_of_getElem? (i := 3) rfl)) (fun _ h9 => h9) rfl dX0_pullInTruth_60 ?_
      refine lv_aload_n hx hb dX0_pullInTruth_63 rfl (lv_at hl 2 rfl) ?_
      refine va_get (D := D) (ci := 2) (v := .int ta) (C := RX2) (T := TX2) (N := 3) hx hb hts hi_X0_pullInTruth_2 hown hK (zPu_P (hZ.kept hS) hu_u0) 0 rfl rfl 2 (by decide) (hts (.fieldLink RX0 99 "TheLiningsInIt$Pull" "takes" "I") (List.mem_of_getElem? (i := 4) rfl)) (fun _ h9 => h9) rfl dX0_pullInTruth_64 ?_
      refine lv_isub hx hb dX0_pullInTruth_67 ?_
      refine lv_topi (fun x_21 ex_21 => ?_)
      have qx_21 : x_21.toInt = se.toInt - ta.toInt := by rw [ex_21]; exact zf_sub rfl rfl (by omega) (by omega)
      refine va_put (D := D) (ci := 0) (v := .int x_21) (ty := .int) (C := RX0) (T := TX0) (N := 9) hx hb hts hi_X0_pullInTruth_0 tyX0 tyX0_ok nmX0 hown hK hP hD hS 0 rfl rfl 6 (by decide) (hts (.fieldLink RX0 38 "TheLiningsInIt$Jacket" "seconds" "I") (List.mem_of_getElem? (i := 3) rfl)) (fun _ h9 => h9) rfl (tyX0_ok 6 (Nat.le_of_ble_eq_true rfl)) rfl rfl (Nat.le_of_ble_eq_true rfl) dX0_pullInTruth_68 (fun H locs hP hD hS => ?_)
      have h9R := zRe (ws' := [(j0, .inr (0, [.ref z0, .ref jp, .ref jc, .int cn, .int r_18, .int tr, .int x_21, .int hu, .int q_3]))]) hP hD rfl
      clear hP hD
      obtain ⟨hP, hD⟩ := h9R
      refine lv_aload_n hx hb dX0_pullInTruth_71 rfl (lv_at hl 2 rfl) ?_
      refine va_get (D := D) (ci := 2) (v := .int ki) (C := RX2) (T := TX2) (N := 3) hx hb hts hi_X0_pullInTruth_2 hown hK (zPu_P (hZ.kept hS) hu_u0) 0 rfl rfl 0 (by decide) (hts (.fieldLink RX0 102 "TheLiningsInIt$Pull" "kind" "I") (List.mem_of_getElem? (i := 5) rfl)) (fun _ h9 => h9) rfl dX0_pullInTruth_72 ?_
      refine lv_iconst (v := 5) hx hb dX0_pullInTruth_75 (by decide) ?_
      refine lv_icmp_ne (tgt := 89) hx hb dX0_pullInTruth_76 (by decide) (fun c_22 => ?_) (fun c_22 => ?_)
      · have fc_22 : ki.toInt ≠ 5 := zf_ne c_22 rfl (by decide)
        exact W.vret hx hb hr (fun t ht hW => ⟨⟨(r_18, tr, x_21, q_3), rfl, ⟨(show 0 ≤ r_18.toInt ∧ r_18.toInt ≤ 24 from ⟨by omega, by omega⟩), (show zP1 ki.toInt a_.toInt ta.toInt hu.toInt (de.toInt, se.toInt, tr, sd) = (r_18.toInt, x_21.toInt, tr, q_3) from by (unfold zP1; refine Prod.ext ?_ (Prod.ext ?_ (Prod.ext ?_ ?_)) <;> dsimp only; (rw [if_pos (by rw [← hsr_1_1, ← hsr_6_0]; omega)]; exact hsr_18_0.symm); omega; (rw [if_neg (by omega)]); exact hsr_1_0.symm)), trivial⟩, zRet ht hP hD [0] (by decide) rfl⟩, hS.F ht⟩) hS.2.2 dX0_pullInTruth_89
      · have fc_22 : ki.toInt = 5 := zf_eq c_22 rfl (by decide)
        refine lv_aload_n hx hb dX0_pullInTruth_79 rfl (lv_at hl 1 rfl) ?_
        refine lv_dup hx hb dX0_pullInTruth_80 rfl ?_
        refine va_get (D := D) (ci := 0) (v := .int tr) (C := RX0) (T := TX0) (N := 9) hx hb hts hi_X0_pullInTruth_0 hown hK hP 0 rfl rfl 5 (by decide) (hts (.fieldLink RX0 35 "TheLiningsInIt$Jacket" "torn" "I") (List.mem_of_getElem? (i := 6) rfl)) (fun _ h9 => h9) rfl dX0_pullInTruth_81 ?_
        refine lv_iconst (v := 1) hx hb dX0_pullInTruth_84 (by decide) ?_
        refine lv_iadd hx hb dX0_pullInTruth_85 ?_
        refine lv_topi (fun x_23 ex_23 => ?_)
        refine va_put (D := D) (ci := 0) (v := .int x_23) (ty := .int) (C := RX0) (T := TX0) (N := 9) hx hb hts hi_X0_pullInTruth_0 tyX0 tyX0_ok nmX0 hown hK hP hD hS 0 rfl rfl 5 (by decide) (hts (.fieldLink RX0 35 "TheLiningsInIt$Jacket" "torn" "I") (List.mem_of_getElem? (i := 6) rfl)) (fun _ h9 => h9) rfl (tyX0_ok 5 (Nat.le_of_ble_eq_true rfl)) rfl rfl (Nat.le_of_ble_eq_true rfl) dX0_pullInTruth_86 (fun H locs hP hD hS => ?_)
        have h9R := zRe (ws' := [(j0, .inr (0, [.ref z0, .ref jp, .ref jc, .int cn, .int r_18, .int x_23, .int x_21, .int hu, .int q_3]))]) hP hD rfl
        clear hP hD
        obtain ⟨hP, hD⟩ := h9R
        exact W.vret hx hb hr (fun t ht hW => ⟨⟨(r_18, x_23, x_21, q_3), rfl, ⟨(show 0 ≤ r_18.toInt ∧ r_18.toInt ≤ 24 from ⟨by omega, by omega⟩), (show zP1 ki.toInt a_.toInt ta.toInt hu.toInt (de.toInt, se.toInt, tr, sd) = (r_18.toInt, x_21.toInt, x_23, q_3) from by (unfold zP1; refine Prod.ext ?_ (Prod.ext ?_ (Prod.ext ?_ ?_)) <;> dsimp only; (rw [if_pos (by rw [← hsr_1_1, ← hsr_6_0]; omega)]; exact hsr_18_0.symm); omega; (rw [if_pos (by omega)]; exact ex_23.symm); exact hsr_1_0.symm)), trivial⟩, zRet ht hP hD [0] (by decide) rfl⟩, hS.F ht⟩) hS.2.2 dX0_pullInTruth_89
