section
def zHid (P : Prop) : Prop := P
theorem zHid_i {P : Prop} (h : P) : zHid P := h
set_option maxHeartbeats 4000000 in
set_option maxRecDepth 100000 in
theorem c_F_J_draw_6 (l : Launch) (D : va_G) (cI cJ cZ cP cS : ClassId) (po : zPool) (j0 jp jc z0 zl zs : Nat) (cn de tr se hu sd : Int32) (hy0 : 0 ≤ cn.toInt) (hy1 : cn.toInt ≤ 8) (hy2 : 0 ≤ de.toInt) (hy3 : de.toInt ≤ 24) (hy4 : 0 ≤ hu.toInt) (hy5 : hu.toInt ≤ 9) (hpz : Nat) : Met l yX0_draw wsX0_draw ({ frames := 0, cells := 0, slots := 0, locals := 0 }) (va_Pc [.ref j0, .int 6] (zW D (zKT cI cJ cZ cP cS) po [(j0, .inr (0, [.ref z0, .ref jp, .ref jc, .int cn, .int de, .int tr, .int se, .int hu, .int sd]))] hpz)) (va_Qi (fun (r : Int32) (sd2 : (Int32)) => (sd2 = zSd sd) ∧ (r.toInt = zDr sd 6) ∧ (0 ≤ r.toInt ∧ r.toInt ≤ 5)) (zB D [(j0, .inr (0, [.ref z0, .ref jp, .ref jc, .int cn, .int de, .int tr, .int se, .int hu, .int sd]))] hpz (fun (sd2 : Int32) => [(j0, .inr (0, [.ref z0, .ref jp, .ref jc, .int cn, .int de, .int tr, .int se, .int hu, .int sd2]))])) (va_A [(j0, .inr (0, [.ref z0, .ref jp, .ref jc, .int cn, .int de, .int tr, .int se, .int hu, .int sd]))] hpz)) 0 0 (va_A [(j0, .inr (0, [.ref z0, .ref jp, .ref jc, .int cn, .int de, .int tr, .int se, .int hu, .int sd]))] hpz) := by
  refine Met.ofW (cc := cX0_draw) (maxL := 2) (ret := (some .int)) (by decide) rfl ?_
  intro p e s m args below meth c s₁ B hml hv
  obtain ⟨rfl, hsz, hP, hK, hD0, hN, hZ⟩ := hv
  have hx := B.exec
  have hb := B.bytes
  have hr := B.returns
  have hts := atoms_spec (ws := wsX0_draw) B.pre
  have hown : s.vm.findClass RX0 = some m.cls := findClass_of_methodNamed B.named
  have hlocks := B.notSynchronized
  subst hsz
  have hD := hD0.self (sz := s.heap.size)
  have hA := zA_of hD
  have hl := lv_entry ([.ref j0, .int 6]) (n := 2) (Nat.le_of_ble_eq_true rfl)
  rw [lg_entry_eq]
  generalize (lg_sl ([.ref j0, .int 6]) ++ List.replicate (2 - (lg_sl ([.ref j0, .int 6])).length) Slot.unset).toArray = ls at hl ⊢
  replace hl : lv_has ls 2 [(0, .ref j0), (1, .int 6)] := hl
  refine zw_begin hP hD (fun H locs hP1 hS => ?_)
  clear hP
  have hP := hP1
  clear hP1
  refine lv_aload_n hx hb dX0_draw_0 rfl (lv_at hl 0 rfl) ?_
  refine lv_aload_n hx hb dX0_draw_1 rfl (lv_at hl 0 rfl) ?_
  refine va_get (D := D) (ci := 0) (v := .int sd) (C := RX0) (T := TX0) (N := 9) hx hb hts hi_X0_draw_0 hown hK hP 0 rfl rfl 8 (by decide) (hts (.fieldLink RX0 44 "TheLiningsInIt$Jacket" "seedNow" "I") (List.mem_of_getElem? (i := 1) rfl)) (fun _ h9 => h9) rfl dX0_draw_2 ?_
  refine lv_ldc (own := RX0) (v := 1103515245) hx hb hown (hts _ (List.mem_of_getElem? (i := 2) rfl)) dX0_draw_5 ?_
  refine lv_imul hx hb dX0_draw_7 ?_
  refine lv_topi (fun x_1 ex_1 => ?_)
  refine lv_sipush (v := 12345) hx hb dX0_draw_8 (by decide) ?_
  refine lv_iadd hx hb dX0_draw_11 ?_
  refine lv_topi (fun x_2 ex_2 => ?_)
  refine va_put (D := D) (ci := 0) (v := .int x_2) (ty := .int) (C := RX0) (T := TX0) (N := 9) hx hb hts hi_X0_draw_0 tyX0 tyX0_ok nmX0 hown hK hP hD hS 0 rfl rfl 8 (by decide) (hts (.fieldLink RX0 44 "TheLiningsInIt$Jacket" "seedNow" "I") (List.mem_of_getElem? (i := 1) rfl)) (fun _ h9 => h9) rfl (tyX0_ok 8 (Nat.le_of_ble_eq_true rfl)) rfl rfl (Nat.le_of_ble_eq_true rfl) dX0_draw_12 (fun H locs hP hD hS => ?_)
  have h9R := zRe (ws' := [(j0, .inr (0, [.ref z0, .ref jp, .ref jc, .int cn, .int de, .int tr, .int se, .int hu, .int x_2]))]) hP hD rfl
  clear hP hD
  obtain ⟨hP, hD⟩ := h9R
  refine lv_iload_n hx hb dX0_draw_15 rfl (lv_at hl 1 rfl) ?_
  refine lv_iconst (v := 1) hx hb dX0_draw_16 (by decide) ?_
  refine lv_icmp_ge (tgt := 24) hx hb dX0_draw_17 (by decide) (fun c_3 => ?_) (fun c_3 => ?_)
  · refine lv_aload_n hx hb dX0_draw_24 rfl (lv_at hl 0 rfl) ?_
    refine va_get (D := D) (ci := 0) (v := .int x_2) (C := RX0) (T := TX0) (N := 9) hx hb hts hi_X0_draw_0 hown hK hP 0 rfl rfl 8 (by decide) (hts (.fieldLink RX0 44 "TheLiningsInIt$Jacket" "seedNow" "I") (List.mem_of_getElem? (i := 1) rfl)) (fun _ h9 => h9) rfl dX0_draw_25 ?_
    refine lv_bipush (v := 16) hx hb dX0_draw_28 (by decide) ?_
    refine lv_iushr hx hb dX0_draw_30 rfl ?_
    refine lv_topi (fun x_4 ex_4 => ?_)
    have bx_4 : 0 ≤ x_4.toInt ∧ x_4.toInt ≤ 65535 := by rw [ex_4]; exact zf_ushr
    refine lv_iload_n hx hb dX0_draw_31 rfl (lv_at hl 1 rfl) ?_
    refine lv_irem hx hb dX0_draw_32 (by decide) ?_
    refine lv_topi (fun x_5 ex_5 => ?_)
    have qx_5 : x_5.toInt = x_4.toInt - x_4.toInt / 6 * 6 := by rw [ex_5]; exact zf_rem rfl (by decide) (by omega) (by omega)
    exact W.iret (v := x_5) hx hb hr (fun t ht hW => ⟨⟨x_5, x_2, rfl, ⟨(show x_2 = zSd sd from by (rw [zSd_eq, ex_2, ex_1])), (show (x_5 : Int32).toInt = zDr sd 6 from by (have hsd : x_2 = zSd sd := (by rw [zSd_eq, ex_2, ex_1]); rw [zDr_eq, qx_5, ex_4, hsd])), ⟨by omega, by omega⟩⟩, zRet ht hP hD [0] (by decide) rfl⟩, hS.F ht⟩) hS.2.2 dX0_draw_33
  · exact absurd c_3 (by decide)
set_option maxHeartbeats 4000000 in
set_option maxRecDepth 100000 in
theorem c_F_J_draw_10 (l : Launch) (D : va_G) (cI cJ cZ cP cS : ClassId) (po : zPool) (j0 jp jc z0 zl zs : Nat) (cn de tr se hu sd : Int32) (hy0 : 0 ≤ cn.toInt) (hy1 : cn.toInt ≤ 8) (hy2 : 0 ≤ de.toInt) (hy3 : de.toInt ≤ 24) (hy4 : 0 ≤ hu.toInt) (hy5 : hu.toInt ≤ 9) (hpz : Nat) : Met l yX0_draw wsX0_draw ({ frames := 0, cells := 0, slots := 0, locals := 0 }) (va_Pc [.ref j0, .int 10] (zW D (zKT cI cJ cZ cP cS) po [(j0, .inr (0, [.ref z0, .ref jp, .ref jc, .int cn, .int de, .int tr, .int se, .int hu, .int sd]))] hpz)) (va_Qi (fun (r : Int32) (sd2 : (Int32)) => (sd2 = zSd sd) ∧ (r.toInt = zDr sd 10) ∧ (0 ≤ r.toInt ∧ r.toInt ≤ 9)) (zB D [(j0, .inr (0, [.ref z0, .ref jp, .ref jc, .int cn, .int de, .int tr, .int se, .int hu, .int sd]))] hpz (fun (sd2 : Int32) => [(j0, .inr (0, [.ref z0, .ref jp, .ref jc, .int cn, .int de, .int tr, .int se, .int hu, .int sd2]))])) (va_A [(j0, .inr (0, [.ref z0, .ref jp, .ref jc, .int cn, .int de, .int tr, .int se, .int hu, .int sd]))] hpz)) 0 0 (va_A [(j0, .inr (0, [.ref z0, .ref jp, .ref jc, .int cn, .int de, .int tr, .int se, .int hu, .int sd]))] hpz) := by
  refine Met.ofW (cc := cX0_draw) (maxL := 2) (ret := (some .int)) (by decide) rfl ?_
  intro p e s m args below meth c s₁ B hml hv
  obtain ⟨rfl, hsz, hP, hK, hD0, hN, hZ⟩ := hv
  have hx := B.exec
  have hb := B.bytes
  have hr := B.returns
  have hts := atoms_spec (ws := wsX0_draw) B.pre
  have hown : s.vm.findClass RX0 = some m.cls := findClass_of_methodNamed B.named
  have hlocks := B.notSynchronized
  subst hsz
  have hD := hD0.self (sz := s.heap.size)
  have hA := zA_of hD
  have hl := lv_entry ([.ref j0, .int 10]) (n := 2) (Nat.le_of_ble_eq_true rfl)
  rw [lg_entry_eq]
  generalize (lg_sl ([.ref j0, .int 10]) ++ List.replicate (2 - (lg_sl ([.ref j0, .int 10])).length) Slot.unset).toArray = ls at hl ⊢
  replace hl : lv_has ls 2 [(0, .ref j0), (1, .int 10)] := hl
  refine zw_begin hP hD (fun H locs hP1 hS => ?_)
  clear hP
  have hP := hP1
  clear hP1
  refine lv_aload_n hx hb dX0_draw_0 rfl (lv_at hl 0 rfl) ?_
  refine lv_aload_n hx hb dX0_draw_1 rfl (lv_at hl 0 rfl) ?_
  refine va_get (D := D) (ci := 0) (v := .int sd) (C := RX0) (T := TX0) (N := 9) hx hb hts hi_X0_draw_0 hown hK hP 0 rfl rfl 8 (by decide) (hts (.fieldLink RX0 44 "TheLiningsInIt$Jacket" "seedNow" "I") (List.mem_of_getElem? (i := 1) rfl)) (fun _ h9 => h9) rfl dX0_draw_2 ?_
  refine lv_ldc (own := RX0) (v := 1103515245) hx hb hown (hts _ (List.mem_of_getElem? (i := 2) rfl)) dX0_draw_5 ?_
  refine lv_imul hx hb dX0_draw_7 ?_
  refine lv_topi (fun x_1 ex_1 => ?_)
  refine lv_sipush (v := 12345) hx hb dX0_draw_8 (by decide) ?_
  refine lv_iadd hx hb dX0_draw_11 ?_
  refine lv_topi (fun x_2 ex_2 => ?_)
  refine va_put (D := D) (ci := 0) (v := .int x_2) (ty := .int) (C := RX0) (T := TX0) (N := 9) hx hb hts hi_X0_draw_0 tyX0 tyX0_ok nmX0 hown hK hP hD hS 0 rfl rfl 8 (by decide) (hts (.fieldLink RX0 44 "TheLiningsInIt$Jacket" "seedNow" "I") (List.mem_of_getElem? (i := 1) rfl)) (fun _ h9 => h9) rfl (tyX0_ok 8 (Nat.le_of_ble_eq_true rfl)) rfl rfl (Nat.le_of_ble_eq_true rfl) dX0_draw_12 (fun H locs hP hD hS => ?_)
  have h9R := zRe (ws' := [(j0, .inr (0, [.ref z0, .ref jp, .ref jc, .int cn, .int de, .int tr, .int se, .int hu, .int x_2]))]) hP hD rfl
  clear hP hD
  obtain ⟨hP, hD⟩ := h9R
  refine lv_iload_n hx hb dX0_draw_15 rfl (lv_at hl 1 rfl) ?_
  refine lv_iconst (v := 1) hx hb dX0_draw_16 (by decide) ?_
  refine lv_icmp_ge (tgt := 24) hx hb dX0_draw_17 (by decide) (fun c_3 => ?_) (fun c_3 => ?_)
  · refine lv_aload_n hx hb dX0_draw_24 rfl (lv_at hl 0 rfl) ?_
    refine va_get (D := D) (ci := 0) (v := .int x_2) (C := RX0) (T := TX0) (N := 9) hx hb hts hi_X0_draw_0 hown hK hP 0 rfl rfl 8 (by decide) (hts (.fieldLink RX0 44 "TheLiningsInIt$Jacket" "seedNow" "I") (List.mem_of_getElem? (i := 1) rfl)) (fun _ h9 => h9) rfl dX0_draw_25 ?_
    refine lv_bipush (v := 16) hx hb dX0_draw_28 (by decide) ?_
    refine lv_iushr hx hb dX0_draw_30 rfl ?_
    refine lv_topi (fun x_4 ex_4 => ?_)
    have bx_4 : 0 ≤ x_4.toInt ∧ x_4.toInt ≤ 65535 := by rw [ex_4]; exact zf_ushr
    refine lv_iload_n hx hb dX0_draw_31 rfl (lv_at hl 1 rfl) ?_
    refine lv_irem hx hb dX0_draw_32 (by decide) ?_
    refine lv_topi (fun x_5 ex_5 => ?_)
    have qx_5 : x_5.toInt = x_4.toInt - x_4.toInt / 10 * 10 := by rw [ex_5]; exact zf_rem rfl (by decide) (by omega) (by omega)
    exact W.iret (v := x_5) hx hb hr (fun t ht hW => ⟨⟨x_5, x_2, rfl, ⟨(show x_2 = zSd sd from by (rw [zSd_eq, ex_2, ex_1])), (show (x_5 : Int32).toInt = zDr sd 10 from by (have hsd : x_2 = zSd sd := (by rw [zSd_eq, ex_2, ex_1]); rw [zDr_eq, qx_5, ex_4, hsd])), ⟨by omega, by omega⟩⟩, zRet ht hP hD [0] (by decide) rfl⟩, hS.F ht⟩) hS.2.2 dX0_draw_33
  · exact absurd c_3 (by decide)
set_option maxHeartbeats 4000000 in
set_option maxRecDepth 100000 in
theorem c_F_J_draw_12 (l : Launch) (D : va_G) (cI cJ cZ cP cS : ClassId) (po : zPool) (j0 jp jc z0 zl zs : Nat) (cn de tr se hu sd : Int32) (hy0 : 0 ≤ cn.toInt) (hy1 : cn.toInt ≤ 8) (hy2 : 0 ≤ de.toInt) (hy3 : de.toInt ≤ 24) (hy4 : 0 ≤ hu.toInt) (hy5 : hu.toInt ≤ 9) (hpz : Nat) : Met l yX0_draw wsX0_draw ({ frames := 0, cells := 0, slots := 0, locals := 0 }) (va_Pc [.ref j0, .int 12] (zW D (zKT cI cJ cZ cP cS) po [(j0, .inr (0, [.ref z0, .ref jp, .ref jc, .int cn, .int de, .int tr, .int se, .int hu, .int sd]))] hpz)) (va_Qi (fun (r : Int32) (sd2 : (Int32)) => (sd2 = zSd sd) ∧ (r.toInt = zDr sd 12) ∧ (0 ≤ r.toInt ∧ r.toInt ≤ 11)) (zB D [(j0, .inr (0, [.ref z0, .ref jp, .ref jc, .int cn, .int de, .int tr, .int se, .int hu, .int sd]))] hpz (fun (sd2 : Int32) => [(j0, .inr (0, [.ref z0, .ref jp, .ref jc, .int cn, .int de, .int tr, .int se, .int hu, .int sd2]))])) (va_A [(j0, .inr (0, [.ref z0, .ref jp, .ref jc, .int cn, .int de, .int tr, .int se, .int hu, .int sd]))] hpz)) 0 0 (va_A [(j0, .inr (0, [.ref z0, .ref jp, .ref jc, .int cn, .int de, .int tr, .int se, .int hu, .int sd]))] hpz) := by
  refine Met.ofW (cc := cX0_draw) (maxL := 2) (ret := (some .int)) (by decide) rfl ?_
  intro p e s m args below meth c s₁ B hml hv
  obtain ⟨rfl, hsz, hP, hK, hD0, hN, hZ⟩ := hv
  have hx := B.exec
  have hb := B.bytes
  have hr := B.returns
  have hts := atoms_spec (ws := wsX0_draw) B.pre
  have hown : s.vm.findClass RX0 = some m.cls := findClass_of_methodNamed B.named
  have hlocks := B.notSynchronized
  subst hsz
  have hD := hD0.self (sz := s.heap.size)
  have hA := zA_of hD
  have hl := lv_entry ([.ref j0, .int 12]) (n := 2) (Nat.le_of_ble_eq_true rfl)
  rw [lg_entry_eq]
  generalize (lg_sl ([.ref j0, .int 12]) ++ List.replicate (2 - (lg_sl ([.ref j0, .int 12])).length) Slot.unset).toArray = ls at hl ⊢
  replace hl : lv_has ls 2 [(0, .ref j0), (1, .int 12)] := hl
  refine zw_begin hP hD (fun H locs hP1 hS => ?_)
  clear hP
  have hP := hP1
  clear hP1
  refine lv_aload_n hx hb dX0_draw_0 rfl (lv_at hl 0 rfl) ?_
  refine lv_aload_n hx hb dX0_draw_1 rfl (lv_at hl 0 rfl) ?_
  refine va_get (D := D) (ci := 0) (v := .int sd) (C := RX0) (T := TX0) (N := 9) hx hb hts hi_X0_draw_0 hown hK hP 0 rfl rfl 8 (by decide) (hts (.fieldLink RX0 44 "TheLiningsInIt$Jacket" "seedNow" "I") (List.mem_of_getElem? (i := 1) rfl)) (fun _ h9 => h9) rfl dX0_draw_2 ?_
  refine lv_ldc (own := RX0) (v := 1103515245) hx hb hown (hts _ (List.mem_of_getElem? (i := 2) rfl)) dX0_draw_5 ?_
  refine lv_imul hx hb dX0_draw_7 ?_
  refine lv_topi (fun x_1 ex_1 => ?_)
  refine lv_sipush (v := 12345) hx hb dX0_draw_8 (by decide) ?_
  refine lv_iadd hx hb dX0_draw_11 ?_
  refine lv_topi (fun x_2 ex_2 => ?_)
  refine va_put (D := D) (ci := 0) (v := .int x_2) (ty := .int) (C := RX0) (T := TX0) (N := 9) hx hb hts hi_X0_draw_0 tyX0 tyX0_ok nmX0 hown hK hP hD hS 0 rfl rfl 8 (by decide) (hts (.fieldLink RX0 44 "TheLiningsInIt$Jacket" "seedNow" "I") (List.mem_of_getElem? (i := 1) rfl)) (fun _ h9 => h9) rfl (tyX0_ok 8 (Nat.le_of_ble_eq_true rfl)) rfl rfl (Nat.le_of_ble_eq_true rfl) dX0_draw_12 (fun H locs hP hD hS => ?_)
  have h9R := zRe (ws' := [(j0, .inr (0, [.ref z0, .ref jp, .ref jc, .int cn, .int de, .int tr, .int se, .int hu, .int x_2]))]) hP hD rfl
  clear hP hD
  obtain ⟨hP, hD⟩ := h9R
  refine lv_iload_n hx hb dX0_draw_15 rfl (lv_at hl 1 rfl) ?_
  refine lv_iconst (v := 1) hx hb dX0_draw_16 (by decide) ?_
  refine lv_icmp_ge (tgt := 24) hx hb dX0_draw_17 (by decide) (fun c_3 => ?_) (fun c_3 => ?_)
  · refine lv_aload_n hx hb dX0_draw_24 rfl (lv_at hl 0 rfl) ?_
    refine va_get (D := D) (ci := 0) (v := .int x_2) (C := RX0) (T := TX0) (N := 9) hx hb hts hi_X0_draw_0 hown hK hP 0 rfl rfl 8 (by decide) (hts (.fieldLink RX0 44 "TheLiningsInIt$Jacket" "seedNow" "I") (List.mem_of_getElem? (i := 1) rfl)) (fun _ h9 => h9) rfl dX0_draw_25 ?_
    refine lv_bipush (v := 16) hx hb dX0_draw_28 (by decide) ?_
    refine lv_iushr hx hb dX0_draw_30 rfl ?_
    refine lv_topi (fun x_4 ex_4 => ?_)
    have bx_4 : 0 ≤ x_4.toInt ∧ x_4.toInt ≤ 65535 := by rw [ex_4]; exact zf_ushr
    refine lv_iload_n hx hb dX0_draw_31 rfl (lv_at hl 1 rfl) ?_
    refine lv_irem hx hb dX0_draw_32 (by decide) ?_
    refine lv_topi (fun x_5 ex_5 => ?_)
    have qx_5 : x_5.toInt = x_4.toInt - x_4.toInt / 12 * 12 := by rw [ex_5]; exact zf_rem rfl (by decide) (by omega) (by omega)
    exact W.iret (v := x_5) hx hb hr (fun t ht hW => ⟨⟨x_5, x_2, rfl, ⟨(show x_2 = zSd sd from by (rw [zSd_eq, ex_2, ex_1])), (show (x_5 : Int32).toInt = zDr sd 12 from by (have hsd : x_2 = zSd sd := (by rw [zSd_eq, ex_2, ex_1]); rw [zDr_eq, qx_5, ex_4, hsd])), ⟨by omega, by omega⟩⟩, zRet ht hP hD [0] (by decide) rfl⟩, hS.F ht⟩) hS.2.2 dX0_draw_33
  · exact absurd c_3 (by decide)
set_option maxHeartbeats 4000000 in
set_option maxRecDepth 100000 in
theorem c_F_J_pullInTruth (l : Launch) (D : va_G) (cI cJ cZ cP cS : ClassId) (po : zPool) (j0 jp jc z0 zl zs : Nat) (cn de tr se hu sd : Int32) (u0 : Nat) (ki a_ ta : Int32) (hu_u0 : zPu po u0 ki a_ ta) (hr_u0 : zPr ki a_ ta) (hy2 : 0 ≤ cn.toInt) (hy3 : cn.toInt ≤ 8) (hy4 : 0 ≤ de.toInt) (hy5 : de.toInt ≤ 24) (hy6 : 0 ≤ hu.toInt) (hy7 : hu.toInt ≤ 9) (hy8 : 0 ≤ se.toInt) (hy9 : se.toInt ≤ 300) (hy10 : ta.toInt ≤ se.toInt) (hpz : Nat) : Met l yX0_pullInTruth wsX0_pullInTruth ({ frames := 2, cells := 0, slots := 0, locals := 44 }) (va_Pc [.ref j0, .ref u0] (zW D (zKT cI cJ cZ cP cS) po [(j0, .inr (0, [.ref z0, .ref jp, .ref jc, .int cn, .int de, .int tr, .int se, .int hu, .int sd]))] hpz)) (va_Qv (fun (u : (Int32) × (Int32) × (Int32) × (Int32)) => (0 ≤ u.1.toInt ∧ u.1.toInt ≤ 24) ∧ (zP1 ki.toInt a_.toInt ta.toInt hu.toInt (de.toInt, se.toInt, tr, sd) = (u.1.toInt, u.2.2.1.toInt, u.2.1, u.2.2.2)) ∧ (u.2.2.1.toInt = se.toInt - ta.toInt) ∧ (True)) (zB D [(j0, .inr (0, [.ref z0, .ref jp, .ref jc, .int cn, .int de, .int tr, .int se, .int hu, .int sd]))] hpz (fun (u : (Int32) × (Int32) × (Int32) × (Int32)) => [(j0, .inr (0, [.ref z0, .ref jp, .ref jc, .int cn, .int u.1, .int u.2.1, .int u.2.2.1, .int hu, .int u.2.2.2]))])) (va_A [(j0, .inr (0, [.ref z0, .ref jp, .ref jc, .int cn, .int de, .int tr, .int se, .int hu, .int sd]))] hpz)) 0 0 (va_A [(j0, .inr (0, [.ref z0, .ref jp, .ref jc, .int cn, .int de, .int tr, .int se, .int hu, .int sd]))] hpz) := by
  refine Met.ofW (cc := cX0_pullInTruth) (maxL := 3) (ret := none) (by decide) rfl ?_
  intro p e s m args below meth c s₁ B hml hv
  obtain ⟨rfl, hsz, hP, hK, hD0, hN, hZ⟩ := hv
  have hx := B.exec
  have hb := B.bytes
  have hr := B.returns
  have hts := atoms_spec (ws := wsX0_pullInTruth) B.pre
  have hown : s.vm.findClass RX0 = some m.cls := findClass_of_methodNamed B.named
  have hlocks := B.notSynchronized
  subst hsz
  have hD := hD0.self (sz := s.heap.size)
  have hA := zA_of hD
  have hl := lv_entry ([.ref j0, .ref u0]) (n := 3) (Nat.le_of_ble_eq_true rfl)
  rw [lg_entry_eq]
  generalize (lg_sl ([.ref j0, .ref u0]) ++ List.replicate (3 - (lg_sl ([.ref j0, .ref u0])).length) Slot.unset).toArray = ls at hl ⊢
  replace hl : lv_has ls 3 [(0, .ref j0), (1, .ref u0)] := hl
  refine zw_begin hP hD (fun H locs hP1 hS => ?_)
  clear hP
  have hP := hP1
  clear hP1
  obtain ⟨⟨p1_u0, p2_u0⟩, ⟨p3_u0, p4_u0⟩, p5_u0, p6_u0⟩ := id hr_u0
  refine lv_aload_n hx hb dX0_pullInTruth_0 rfl (lv_at hl 0 rfl) ?_
  refine lv_bipush (v := 12) hx hb dX0_pullInTruth_1 (by decide) ?_
  skip
  refine zw_V (As := [.int 12]) (rest := []) (wr := []) ⟨hx, hb, hml, hown, hts⟩ (c_F_J_draw_12 l D cI cJ cZ cP cS po j0 jp jc z0 0 0 (cn) (de) (tr) (se) (hu) (sd) hy2 hy3 hy4 hy5 hy6 hy7 H.size) (cwV 1 hts gX0_pullInTruth_X0_draw rfl rfl rfl ⟨rfl, dh_X0_draw⟩ ⟨Nat.le_of_ble_eq_true rfl, Nat.le_of_ble_eq_true rfl⟩) hK hN (hZ.kept hS) hP hD hS hA [0] [] rfl rfl (by decide) (by decide) (by decide) (va_recv (q := (RX0, TX0, 9)) hK hP (ci := 0) (q0 := 0) rfl rfl) rfl hl.1 rfl (Nat.le_of_ble_eq_true rfl) dX0_pullInTruth_3 ⟨Nat.le_of_ble_eq_true rfl, Nat.le_of_ble_eq_true rfl⟩ (fun r_1 u_2 H locs hr_1 hP hD hS => ?_)
  obtain ⟨q_3, rfl⟩ : ∃ z, z = u_2 := ⟨_, rfl⟩
  obtain ⟨hsr_1_0, hsr_1_1, hr_1⟩ := hr_1
  have h9R := zRe (ws' := [(j0, .inr (0, [.ref z0, .ref jp, .ref jc, .int cn, .int de, .int tr, .int se, .int hu, .int q_3]))]) hP hD rfl
  clear hP hD
  obtain ⟨hP, hD⟩ := h9R
  obtain ⟨g_4, g_5⟩ := hr_1
  refine lv_aload_n hx hb dX0_pullInTruth_6 rfl (lv_at hl 1 rfl) ?_
  refine lv_aload_n hx hb dX0_pullInTruth_7 rfl (lv_at hl 0 rfl) ?_
  refine va_get (D := D) (ci := 0) (v := .int de) (C := RX0) (T := TX0) (N := 9) hx hb hts hi_X0_pullInTruth_0 hown hK hP 0 rfl rfl 4 (by decide) (hts (.fieldLink RX0 32 "TheLiningsInIt$Jacket" "depth" "I") (List.mem_of_getElem? (i := 1) rfl)) (fun _ h9 => h9) rfl dX0_pullInTruth_8 ?_
  refine lv_aload_n hx hb dX0_pullInTruth_11 rfl (lv_at hl 0 rfl) ?_
  refine va_get (D := D) (ci := 0) (v := .int hu) (C := RX0) (T := TX0) (N := 9) hx hb hts hi_X0_pullInTruth_0 hown hK hP 0 rfl rfl 7 (by decide) (hts (.fieldLink RX0 41 "TheLiningsInIt$Jacket" "hurry" "I") (List.mem_of_getElem? (i := 2) rfl)) (fun _ h9 => h9) rfl dX0_pullInTruth_12 ?_
  refine zc_V (As := [.int de, .int hu]) (rest := [.int r_1]) ⟨hx, hb, hml, hown, hts⟩ (c_F_Pull_waysAt l D cI cJ cZ cP cS po (de) (hu) u0 (ki) (a_) (ta) hu_u0 ⟨by omega, by omega, by omega, by omega⟩ hy4 hy5 hy6 hy7) (cwV 2 hts gX0_pullInTruth_X2_waysAt rfl rfl rfl ⟨rfl, dh_X2_waysAt⟩ ⟨Nat.le_of_ble_eq_true rfl, Nat.le_of_ble_eq_true rfl⟩) hK hN (hZ.kept hS) hP zP_nil (va_recv (q := (RX2, TX2, 3)) hK (zPu_P (hZ.kept hS) hu_u0) (ci := 2) (q0 := 0) rfl rfl) rfl hl.1 rfl (Nat.le_of_ble_eq_true rfl) dX0_pullInTruth_15 ⟨Nat.le_of_ble_eq_true rfl, Nat.le_of_ble_eq_true rfl⟩ (fun r_6 hr_6 => ?_)
  obtain ⟨g_7, g_8, hsr_6_0⟩ := hr_6
  refine lv_icmp_ge (tgt := 25) hx hb dX0_pullInTruth_18 (by decide) (fun c_9 => ?_) (fun c_9 => ?_)
  · have fc_9 : r_6.toInt ≤ r_1.toInt := zf_le c_9 rfl rfl
    refine lv_iconst (v := 0) hx hb dX0_pullInTruth_25 (by decide) ?_
    refine lv_istore_n (lv' := [(2, .int 0), (0, .ref j0), (1, .ref u0)]) hx hb dX0_pullInTruth_26 rfl hl (by decide) rfl (fun ls hl => ?_)
    refine lv_aload_n hx hb dX0_pullInTruth_27 rfl (lv_at hl 1 rfl) ?_
    refine lv_iload_n hx hb dX0_pullInTruth_28 rfl (lv_at hl 0 rfl) ?_
    refine lv_if_eq (tgt := 43) hx hb dX0_pullInTruth_29 (by decide) (fun c_10 => ?_) (fun c_10 => ?_)
    · refine lv_aload_n hx hb dX0_pullInTruth_43 rfl (lv_at hl 2 rfl) ?_
      refine lv_aload_n hx hb dX0_pullInTruth_44 rfl (lv_at hl 1 rfl) ?_
      refine va_get (D := D) (ci := 0) (v := .int de) (C := RX0) (T := TX0) (N := 9) hx hb hts hi_X0_pullInTruth_0 hown hK hP 0 rfl rfl 4 (by decide) (hts (.fieldLink RX0 32 "TheLiningsInIt$Jacket" "depth" "I") (List.mem_of_getElem? (i := 1) rfl)) (fun _ h9 => h9) rfl dX0_pullInTruth_45 ?_
      refine lv_aload_n hx hb dX0_pullInTruth_48 rfl (lv_at hl 1 rfl) ?_
      refine va_get (D := D) (ci := 0) (v := .int hu) (C := RX0) (T := TX0) (N := 9) hx hb hts hi_X0_pullInTruth_0 hown hK hP 0 rfl rfl 7 (by decide) (hts (.fieldLink RX0 41 "TheLiningsInIt$Jacket" "hurry" "I") (List.mem_of_getElem? (i := 2) rfl)) (fun _ h9 => h9) rfl dX0_pullInTruth_49 ?_
      refine zc_V (As := [.int de, .int hu]) (rest := [.ref j0]) ⟨hx, hb, hml, hown, hts⟩ (c_F_Pull_deeper l D cI cJ cZ cP cS po (de) (hu) u0 (ki) (a_) (ta) hu_u0 ⟨by omega, by omega, by omega, by omega⟩ hy4 hy5 hy6 hy7) (cwV 2 hts gX0_pullInTruth_X2_deeper rfl rfl rfl ⟨rfl, dh_X2_deeper⟩ ⟨Nat.le_of_ble_eq_true rfl, Nat.le_of_ble_eq_true rfl⟩) hK hN (hZ.kept hS) hP zP_nil (va_recv (q := (RX2, TX2, 3)) hK (zPu_P (hZ.kept hS) hu_u0) (ci := 2) (q0 := 0) rfl rfl) rfl hl.1 rfl (Nat.le_of_ble_eq_true rfl) dX0_pullInTruth_52 ⟨Nat.le_of_ble_eq_true rfl, Nat.le_of_ble_eq_true rfl⟩ (fun r_11 hr_11 => ?_)
      obtain ⟨g_12, g_13, hsr_11_0⟩ := hr_11
      refine va_put (D := D) (ci := 0) (v := .int r_11) (ty := .int) (C := RX0) (T := TX0) (N := 9) hx hb hts hi_X0_pullInTruth_0 tyX0 tyX0_ok nmX0 hown hK hP hD hS 0 rfl rfl 4 (by decide) (hts (.fieldLink RX0 32 "TheLiningsInIt$Jacket" "depth" "I") (List.mem_of_getElem? (i := 1) rfl)) (fun _ h9 => h9) rfl (tyX0_ok 4 (Nat.le_of_ble_eq_true rfl)) rfl rfl (Nat.le_of_ble_eq_true rfl) dX0_pullInTruth_55 (fun H locs hP hD hS => ?_)
      have h9R := zRe (ws' := [(j0, .inr (0, [.ref z0, .ref jp, .ref jc, .int cn, .int r_11, .int tr, .int se, .int hu, .int q_3]))]) hP hD rfl
      clear hP hD
      obtain ⟨hP, hD⟩ := h9R
      refine lv_aload_n hx hb dX0_pullInTruth_58 rfl (lv_at hl 1 rfl) ?_
      refine lv_dup hx hb dX0_pullInTruth_59 rfl ?_
      refine va_get (D := D) (ci := 0) (v := .int se) (C := RX0) (T := TX0) (N := 9) hx hb hts hi_X0_pullInTruth_0 hown hK hP 0 rfl rfl 6 (by decide) (hts (.fieldLink RX0 38 "TheLiningsInIt$Jacket" "seconds" "I") (List.mem_of_getElem? (i := 3) rfl)) (fun _ h9 => h9) rfl dX0_pullInTruth_60 ?_
      refine lv_aload_n hx hb dX0_pullInTruth_63 rfl (lv_at hl 2 rfl) ?_
      refine va_get (D := D) (ci := 2) (v := .int ta) (C := RX2) (T := TX2) (N := 3) hx hb hts hi_X0_pullInTruth_2 hown hK (zPu_P (hZ.kept hS) hu_u0) 0 rfl rfl 2 (by decide) (hts (.fieldLink RX0 99 "TheLiningsInIt$Pull" "takes" "I") (List.mem_of_getElem? (i := 4) rfl)) (fun _ h9 => h9) rfl dX0_pullInTruth_64 ?_
      refine lv_isub hx hb dX0_pullInTruth_67 ?_
      refine lv_topi (fun x_14 ex_14 => ?_)
      have qx_14 : x_14.toInt = se.toInt - ta.toInt := by rw [ex_14]; exact zf_sub rfl rfl (by omega) (by omega)
      refine va_put (D := D) (ci := 0) (v := .int x_14) (ty := .int) (C := RX0) (T := TX0) (N := 9) hx hb hts hi_X0_pullInTruth_0 tyX0 tyX0_ok nmX0 hown hK hP hD hS 0 rfl rfl 6 (by decide) (hts (.fieldLink RX0 38 "TheLiningsInIt$Jacket" "seconds" "I") (List.mem_of_getElem? (i := 3) rfl)) (fun _ h9 => h9) rfl (tyX0_ok 6 (Nat.le_of_ble_eq_true rfl)) rfl rfl (Nat.le_of_ble_eq_true rfl) dX0_pullInTruth_68 (fun H locs hP hD hS => ?_)
      have h9R := zRe (ws' := [(j0, .inr (0, [.ref z0, .ref jp, .ref jc, .int cn, .int r_11, .int tr, .int x_14, .int hu, .int q_3]))]) hP hD rfl
      clear hP hD
      obtain ⟨hP, hD⟩ := h9R
      refine lv_aload_n hx hb dX0_pullInTruth_71 rfl (lv_at hl 2 rfl) ?_
      refine va_get (D := D) (ci := 2) (v := .int ki) (C := RX2) (T := TX2) (N := 3) hx hb hts hi_X0_pullInTruth_2 hown hK (zPu_P (hZ.kept hS) hu_u0) 0 rfl rfl 0 (by decide) (hts (.fieldLink RX0 102 "TheLiningsInIt$Pull" "kind" "I") (List.mem_of_getElem? (i := 5) rfl)) (fun _ h9 => h9) rfl dX0_pullInTruth_72 ?_
      refine lv_iconst (v := 5) hx hb dX0_pullInTruth_75 (by decide) ?_
      refine lv_icmp_ne (tgt := 89) hx hb dX0_pullInTruth_76 (by decide) (fun c_15 => ?_) (fun c_15 => ?_)
      · have fc_15 : ki.toInt ≠ 5 := zf_ne c_15 rfl (by decide)
        exact W.vret hx hb hr (fun t ht hW => ⟨⟨(r_11, tr, x_14, q_3), rfl, ⟨(show 0 ≤ r_11.toInt ∧ r_11.toInt ≤ 24 from ⟨by omega, by omega⟩), (show zP1 ki.toInt a_.toInt ta.toInt hu.toInt (de.toInt, se.toInt, tr, sd) = (r_11.toInt, x_14.toInt, tr, q_3) from by (unfold zP1; refine Prod.ext ?_ (Prod.ext ?_ (Prod.ext ?_ ?_)) <;> dsimp only; (rw [if_neg (by rw [← hsr_1_1, ← hsr_6_0]; omega)]; exact hsr_11_0.symm); omega; (rw [if_neg (by omega)]); exact hsr_1_0.symm)), (show x_14.toInt = se.toInt - ta.toInt from by omega), trivial⟩, zRet ht hP hD [0] (by decide) rfl⟩, hS.F ht⟩) hS.2.2 dX0_pullInTruth_89
      · have fc_15 : ki.toInt = 5 := zf_eq c_15 rfl (by decide)
        refine lv_aload_n hx hb dX0_pullInTruth_79 rfl (lv_at hl 1 rfl) ?_
        refine lv_dup hx hb dX0_pullInTruth_80 rfl ?_
        refine va_get (D := D) (ci := 0) (v := .int tr) (C := RX0) (T := TX0) (N := 9) hx hb hts hi_X0_pullInTruth_0 hown hK hP 0 rfl rfl 5 (by decide) (hts (.fieldLink RX0 35 "TheLiningsInIt$Jacket" "torn" "I") (List.mem_of_getElem? (i := 6) rfl)) (fun _ h9 => h9) rfl dX0_pullInTruth_81 ?_
        refine lv_iconst (v := 1) hx hb dX0_pullInTruth_84 (by decide) ?_
        refine lv_iadd hx hb dX0_pullInTruth_85 ?_
        refine lv_topi (fun x_16 ex_16 => ?_)
        refine va_put (D := D) (ci := 0) (v := .int x_16) (ty := .int) (C := RX0) (T := TX0) (N := 9) hx hb hts hi_X0_pullInTruth_0 tyX0 tyX0_ok nmX0 hown hK hP hD hS 0 rfl rfl 5 (by decide) (hts (.fieldLink RX0 35 "TheLiningsInIt$Jacket" "torn" "I") (List.mem_of_getElem? (i := 6) rfl)) (fun _ h9 => h9) rfl (tyX0_ok 5 (Nat.le_of_ble_eq_true rfl)) rfl rfl (Nat.le_of_ble_eq_true rfl) dX0_pullInTruth_86 (fun H locs hP hD hS => ?_)
        have h9R := zRe (ws' := [(j0, .inr (0, [.ref z0, .ref jp, .ref jc, .int cn, .int r_11, .int x_16, .int x_14, .int hu, .int q_3]))]) hP hD rfl
        clear hP hD
        obtain ⟨hP, hD⟩ := h9R
        exact W.vret hx hb hr (fun t ht hW => ⟨⟨(r_11, x_16, x_14, q_3), rfl, ⟨(show 0 ≤ r_11.toInt ∧ r_11.toInt ≤ 24 from ⟨by omega, by omega⟩), (show zP1 ki.toInt a_.toInt ta.toInt hu.toInt (de.toInt, se.toInt, tr, sd) = (r_11.toInt, x_14.toInt, x_16, q_3) from by (unfold zP1; refine Prod.ext ?_ (Prod.ext ?_ (Prod.ext ?_ ?_)) <;> dsimp only; (rw [if_neg (by rw [← hsr_1_1, ← hsr_6_0]; omega)]; exact hsr_11_0.symm); omega; (rw [if_pos (by omega)]; exact ex_16.symm); exact hsr_1_0.symm)), (show x_14.toInt = se.toInt - ta.toInt from by omega), trivial⟩, zRet ht hP hD [0] (by decide) rfl⟩, hS.F ht⟩) hS.2.2 dX0_pullInTruth_89
    · exact absurd c_10 (by decide)
  · have fc_9 : r_1.toInt < r_6.toInt := zf_nle c_9 rfl rfl
    refine lv_iconst (v := 1) hx hb dX0_pullInTruth_21 (by decide) ?_
    refine lv_goto (tgt := 26) hx hb dX0_pullInTruth_22 (by decide) ?_
    refine lv_istore_n (lv' := [(2, .int 1), (0, .ref j0), (1, .ref u0)]) hx hb dX0_pullInTruth_26 rfl hl (by decide) rfl (fun ls hl => ?_)
    refine lv_aload_n hx hb dX0_pullInTruth_27 rfl (lv_at hl 1 rfl) ?_
    refine lv_iload_n hx hb dX0_pullInTruth_28 rfl (lv_at hl 0 rfl) ?_
    refine lv_if_eq (tgt := 43) hx hb dX0_pullInTruth_29 (by decide) (fun c_17 => ?_) (fun c_17 => ?_)
    · exact absurd c_17 (by decide)
    · refine lv_aload_n hx hb dX0_pullInTruth_32 rfl (lv_at hl 2 rfl) ?_
      refine lv_aload_n hx hb dX0_pullInTruth_33 rfl (lv_at hl 1 rfl) ?_
      refine va_get (D := D) (ci := 0) (v := .int de) (C := RX0) (T := TX0) (N := 9) hx hb hts hi_X0_pullInTruth_0 hown hK hP 0 rfl rfl 4 (by decide) (hts (.fieldLink RX0 32 "TheLiningsInIt$Jacket" "depth" "I") (List.mem_of_getElem? (i := 1) rfl)) (fun _ h9 => h9) rfl dX0_pullInTruth_34 ?_
      refine zc_V (As := [.int de]) (rest := [.ref j0]) ⟨hx, hb, hml, hown, hts⟩ (c_F_Pull_shallower l D cI cJ cZ cP cS po (de) u0 (ki) (a_) (ta) hu_u0 ⟨by omega, by omega, by omega, by omega⟩ hy4 hy5) (cwV 1 hts gX0_pullInTruth_X2_shallower rfl rfl rfl ⟨rfl, dh_X2_shallower⟩ ⟨Nat.le_of_ble_eq_true rfl, Nat.le_of_ble_eq_true rfl⟩) hK hN (hZ.kept hS) hP zP_nil (va_recv (q := (RX2, TX2, 3)) hK (zPu_P (hZ.kept hS) hu_u0) (ci := 2) (q0 := 0) rfl rfl) rfl hl.1 rfl (Nat.le_of_ble_eq_true rfl) dX0_pullInTruth_37 ⟨Nat.le_of_ble_eq_true rfl, Nat.le_of_ble_eq_true rfl⟩ (fun r_18 hr_18 => ?_)
      obtain ⟨g_19, g_20, hsr_18_0⟩ := hr_18
      refine lv_goto (tgt := 55) hx hb dX0_pullInTruth_40 (by decide) ?_
      refine va_put (D := D) (ci := 0) (v := .int r_18) (ty := .int) (C := RX0) (T := TX0) (N := 9) hx hb hts hi_X0_pullInTruth_0 tyX0 tyX0_ok nmX0 hown hK hP hD hS 0 rfl rfl 4 (by decide) (hts (.fieldLink RX0 32 "TheLiningsInIt$Jacket" "depth" "I") (List.mem_of_getElem? (i := 1) rfl)) (fun _ h9 => h9) rfl (tyX0_ok 4 (Nat.le_of_ble_eq_true rfl)) rfl rfl (Nat.le_of_ble_eq_true rfl) dX0_pullInTruth_55 (fun H locs hP hD hS => ?_)
      have h9R := zRe (ws' := [(j0, .inr (0, [.ref z0, .ref jp, .ref jc, .int cn, .int r_18, .int tr, .int se, .int hu, .int q_3]))]) hP hD rfl
      clear hP hD
      obtain ⟨hP, hD⟩ := h9R
      refine lv_aload_n hx hb dX0_pullInTruth_58 rfl (lv_at hl 1 rfl) ?_
      refine lv_dup hx hb dX0_pullInTruth_59 rfl ?_
      refine va_get (D := D) (ci := 0) (v := .int se) (C := RX0) (T := TX0) (N := 9) hx hb hts hi_X0_pullInTruth_0 hown hK hP 0 rfl rfl 6 (by decide) (hts (.fieldLink RX0 38 "TheLiningsInIt$Jacket" "seconds" "I") (List.mem_of_getElem? (i := 3) rfl)) (fun _ h9 => h9) rfl dX0_pullInTruth_60 ?_
      refine lv_aload_n hx hb dX0_pullInTruth_63 rfl (lv_at hl 2 rfl) ?_
      refine va_get (D := D) (ci := 2) (v := .int ta) (C := RX2) (T := TX2) (N := 3) hx hb hts hi_X0_pullInTruth_2 hown hK (zPu_P (hZ.kept hS) hu_u0) 0 rfl rfl 2 (by decide) (hts (.fieldLink RX0 99 "TheLiningsInIt$Pull" "takes" "I") (List.mem_of_getElem? (i := 4) rfl)) (fun _ h9 => h9) rfl dX0_pullInTruth_64 ?_
      refine lv_isub hx hb dX0_pullInTruth_67 ?_
      refine lv_topi (fun x_21 ex_21 => ?_)
      have qx_21 : x_21.toInt = se.toInt - ta.toInt := by rw [ex_21]; exact zf_sub rfl rfl (by omega) (by omega)
      refine va_put (D := D) (ci := 0) (v := .int x_21) (ty := .int) (C := RX0) (T := TX0) (N := 9) hx hb hts hi_X0_pullInTruth_0 tyX0 tyX0_ok nmX0 hown hK hP hD hS 0 rfl rfl 6 (by decide) (hts (.fieldLink RX0 38 "TheLiningsInIt$Jacket" "seconds" "I") (List.mem_of_getElem? (i := 3) rfl)) (fun _ h9 => h9) rfl (tyX0_ok 6 (Nat.le_of_ble_eq_true rfl)) rfl rfl (Nat.le_of_ble_eq_true rfl) dX0_pullInTruth_68 (fun H locs hP hD hS => ?_)
      have h9R := zRe (ws' := [(j0, .inr (0, [.ref z0, .ref jp, .ref jc, .int cn, .int r_18, .int tr, .int x_21, .int hu, .int q_3]))]) hP hD rfl
      clear hP hD
      obtain ⟨hP, hD⟩ := h9R
      refine lv_aload_n hx hb dX0_pullInTruth_71 rfl (lv_at hl 2 rfl) ?_
      refine va_get (D := D) (ci := 2) (v := .int ki) (C := RX2) (T := TX2) (N := 3) hx hb hts hi_X0_pullInTruth_2 hown hK (zPu_P (hZ.kept hS) hu_u0) 0 rfl rfl 0 (by decide) (hts (.fieldLink RX0 102 "TheLiningsInIt$Pull" "kind" "I") (List.mem_of_getElem? (i := 5) rfl)) (fun _ h9 => h9) rfl dX0_pullInTruth_72 ?_
      refine lv_iconst (v := 5) hx hb dX0_pullInTruth_75 (by decide) ?_
      refine lv_icmp_ne (tgt := 89) hx hb dX0_pullInTruth_76 (by decide) (fun c_22 => ?_) (fun c_22 => ?_)
      · have fc_22 : ki.toInt ≠ 5 := zf_ne c_22 rfl (by decide)
        exact W.vret hx hb hr (fun t ht hW => ⟨⟨(r_18, tr, x_21, q_3), rfl, ⟨(show 0 ≤ r_18.toInt ∧ r_18.toInt ≤ 24 from ⟨by omega, by omega⟩), (show zP1 ki.toInt a_.toInt ta.toInt hu.toInt (de.toInt, se.toInt, tr, sd) = (r_18.toInt, x_21.toInt, tr, q_3) from by (unfold zP1; refine Prod.ext ?_ (Prod.ext ?_ (Prod.ext ?_ ?_)) <;> dsimp only; (rw [if_pos (by rw [← hsr_1_1, ← hsr_6_0]; omega)]; exact hsr_18_0.symm); omega; (rw [if_neg (by omega)]); exact hsr_1_0.symm)), (show x_21.toInt = se.toInt - ta.toInt from by omega), trivial⟩, zRet ht hP hD [0] (by decide) rfl⟩, hS.F ht⟩) hS.2.2 dX0_pullInTruth_89
      · have fc_22 : ki.toInt = 5 := zf_eq c_22 rfl (by decide)
        refine lv_aload_n hx hb dX0_pullInTruth_79 rfl (lv_at hl 1 rfl) ?_
        refine lv_dup hx hb dX0_pullInTruth_80 rfl ?_
        refine va_get (D := D) (ci := 0) (v := .int tr) (C := RX0) (T := TX0) (N := 9) hx hb hts hi_X0_pullInTruth_0 hown hK hP 0 rfl rfl 5 (by decide) (hts (.fieldLink RX0 35 "TheLiningsInIt$Jacket" "torn" "I") (List.mem_of_getElem? (i := 6) rfl)) (fun _ h9 => h9) rfl dX0_pullInTruth_81 ?_
        refine lv_iconst (v := 1) hx hb dX0_pullInTruth_84 (by decide) ?_
        refine lv_iadd hx hb dX0_pullInTruth_85 ?_
        refine lv_topi (fun x_23 ex_23 => ?_)
        refine va_put (D := D) (ci := 0) (v := .int x_23) (ty := .int) (C := RX0) (T := TX0) (N := 9) hx hb hts hi_X0_pullInTruth_0 tyX0 tyX0_ok nmX0 hown hK hP hD hS 0 rfl rfl 5 (by decide) (hts (.fieldLink RX0 35 "TheLiningsInIt$Jacket" "torn" "I") (List.mem_of_getElem? (i := 6) rfl)) (fun _ h9 => h9) rfl (tyX0_ok 5 (Nat.le_of_ble_eq_true rfl)) rfl rfl (Nat.le_of_ble_eq_true rfl) dX0_pullInTruth_86 (fun H locs hP hD hS => ?_)
        have h9R := zRe (ws' := [(j0, .inr (0, [.ref z0, .ref jp, .ref jc, .int cn, .int r_18, .int x_23, .int x_21, .int hu, .int q_3]))]) hP hD rfl
        clear hP hD
        obtain ⟨hP, hD⟩ := h9R
        exact W.vret hx hb hr (fun t ht hW => ⟨⟨(r_18, x_23, x_21, q_3), rfl, ⟨(show 0 ≤ r_18.toInt ∧ r_18.toInt ≤ 24 from ⟨by omega, by omega⟩), (show zP1 ki.toInt a_.toInt ta.toInt hu.toInt (de.toInt, se.toInt, tr, sd) = (r_18.toInt, x_21.toInt, x_23, q_3) from by (unfold zP1; refine Prod.ext ?_ (Prod.ext ?_ (Prod.ext ?_ ?_)) <;> dsimp only; (rw [if_pos (by rw [← hsr_1_1, ← hsr_6_0]; omega)]; exact hsr_18_0.symm); omega; (rw [if_pos (by omega)]; exact ex_23.symm); exact hsr_1_0.symm)), (show x_21.toInt = se.toInt - ta.toInt from by omega), trivial⟩, zRet ht hP hD [0] (by decide) rfl⟩, hS.F ht⟩) hS.2.2 dX0_pullInTruth_89
set_option maxHeartbeats 4000000 in
set_option maxRecDepth 100000 in
theorem c_F_J_closeInTruth (l : Launch) (D : va_G) (cI cJ cZ cP cS : ClassId) (po : zPool) (j0 jp jc z0 zl zs : Nat) (cn de tr se hu sd : Int32) (sz at_ gp : Int32) (fl fs : Nat → Int32) (hy0 : 0 ≤ cn.toInt) (hy1 : cn.toInt ≤ 8) (hy2 : 0 ≤ de.toInt) (hy3 : de.toInt ≤ 24) (hy4 : 0 ≤ hu.toInt) (hy5 : hu.toInt ≤ 9) (hy6 : 4 ≤ sz.toInt) (hy7 : sz.toInt ≤ 40) (hy8 : 0 ≤ at_.toInt) (hy9 : at_.toInt ≤ 40) (hy10 : 1 ≤ gp.toInt) (hy11 : gp.toInt ≤ 9) (hy12 : at_.toInt ≤ sz.toInt) (hp_fl : zRg fl (0) 1) (hp_fs : zRg fs (0) 9) (hpz : Nat) : Met l yX0_closeInTruth wsX0_closeInTruth ({ frames := 3, cells := 0, slots := 0, locals := 63 }) (va_Pc [.ref j0] (zW D (zKT cI cJ cZ cP cS) po [(j0, .inr (0, [.ref z0, .ref jp, .ref jc, .int cn, .int de, .int tr, .int se, .int hu, .int sd])), (z0, .inr (6, [.ref zl, .ref zs, .int sz, .int at_, .int gp])), (zl, .inl (cZ, 40, .inl fl)), (zs, .inl (cI, 40, .inl fs))] hpz)) (va_Qv (fun (u : (Int32) × (Int32) × (Int32)) => (0 ≤ u.1.toInt ∧ u.1.toInt ≤ 24) ∧ (0 ≤ u.2.2.toInt ∧ u.2.2.toInt ≤ 40) ∧ (zCz fl fs gp.toInt sz.toInt (sz.toInt - at_.toInt).toNat at_.toInt de.toInt sd = (u.2.2.toInt, u.1.toInt, u.2.1)) ∧ (u.2.2.toInt ≤ sz.toInt) ∧ (True)) (zB D [(j0, .inr (0, [.ref z0, .ref jp, .ref jc, .int cn, .int de, .int tr, .int se, .int hu, .int sd])), (z0, .inr (6, [.ref zl, .ref zs, .int sz, .int at_, .int gp])), (zl, .inl (cZ, 40, .inl fl)), (zs, .inl (cI, 40, .inl fs))] hpz (fun (u : (Int32) × (Int32) × (Int32)) => [(j0, .inr (0, [.ref z0, .ref jp, .ref jc, .int cn, .int u.1, .int tr, .int se, .int hu, .int u.2.1])), (z0, .inr (6, [.ref zl, .ref zs, .int sz, .int u.2.2, .int gp])), (zl, .inl (cZ, 40, .inl fl)), (zs, .inl (cI, 40, .inl fs))])) (va_A [(j0, .inr (0, [.ref z0, .ref jp, .ref jc, .int cn, .int de, .int tr, .int se, .int hu, .int sd])), (z0, .inr (6, [.ref zl, .ref zs, .int sz, .int at_, .int gp])), (zl, .inl (cZ, 40, .inl fl)), (zs, .inl (cI, 40, .inl fs))] hpz)) 0 0 (va_A [(j0, .inr (0, [.ref z0, .ref jp, .ref jc, .int cn, .int de, .int tr, .int se, .int hu, .int sd])), (z0, .inr (6, [.ref zl, .ref zs, .int sz, .int at_, .int gp])), (zl, .inl (cZ, 40, .inl fl)), (zs, .inl (cI, 40, .inl fs))] hpz) := by
  refine Met.ofW (cc := cX0_closeInTruth) (maxL := 2) (ret := none) (by decide) rfl ?_
  intro p e s m args below meth c s₁ B hml hv
  obtain ⟨rfl, hsz, hP, hK, hD0, hN, hZ⟩ := hv
  have hx := B.exec
  have hb := B.bytes
  have hr := B.returns
  have hts := atoms_spec (ws := wsX0_closeInTruth) B.pre
  have hown : s.vm.findClass RX0 = some m.cls := findClass_of_methodNamed B.named
  have hlocks := B.notSynchronized
  subst hsz
  have hD := hD0.self (sz := s.heap.size)
  have hA := zA_of hD
  have hl := lv_entry ([.ref j0]) (n := 2) (Nat.le_of_ble_eq_true rfl)
  rw [lg_entry_eq]
  generalize (lg_sl ([.ref j0]) ++ List.replicate (2 - (lg_sl ([.ref j0])).length) Slot.unset).toArray = ls at hl ⊢
  replace hl : lv_has ls 2 [(0, .ref j0)] := hl
  refine zw_begin hP hD (fun H locs hP1 hS => ?_)
  clear hP
  have hP := hP1
  clear hP1
  refine lv_aload_n hx hb dX0_closeInTruth_0 rfl (lv_at hl 0 rfl) ?_
  refine va_get (D := D) (ci := 0) (v := .ref z0) (C := RX0) (T := TX0) (N := 9) hx hb hts hi_X0_closeInTruth_0 hown hK hP 0 rfl rfl 0 (by decide) (hts (.fieldLink RX0 12 "TheLiningsInIt$Jacket" "zip" "LTheLiningsInIt$Zip;") (List.mem_of_getElem? (i := 1) rfl)) (fun _ h9 => h9) rfl dX0_closeInTruth_1 ?_
  refine va_get (D := D) (ci := 6) (v := .int at_) (C := RX6) (T := TX6) (N := 5) hx hb hts hi_X0_closeInTruth_6 hown hK hP 1 rfl rfl 3 (by decide) (hts (.fieldLink RX0 63 "TheLiningsInIt$Zip" "at" "I") (List.mem_of_getElem? (i := 2) rfl)) (fun _ h9 => h9) rfl dX0_closeInTruth_4 ?_
  refine lv_istore_n (lv' := [(1, .int at_), (0, .ref j0)]) hx hb dX0_closeInTruth_7 rfl hl (by decide) rfl (fun ls hl => ?_)
  obtain ⟨i_8, hi_8⟩ : ∃ i : Int32, i = at_ := ⟨_, rfl⟩
  replace hl : lv_has ls 2 [(1, .int i_8), (0, .ref j0)] := by rw [hi_8]; exact lv_sub hl [0, 1] rfl
  have h1i_8 : i_8.toInt = at_.toInt := by rw [hi_8]
  obtain ⟨nfu, hni_8⟩ : ∃ nq9 : Nat, sz.toInt ≤ i_8.toInt + (nq9 : Int) := ⟨((sz.toInt : Int) - at_.toInt).toNat, by omega⟩
  have hloi_8 : 0 ≤ i_8.toInt := by omega
  obtain ⟨v_1, hv_1⟩ : ∃ g : Int32, g = at_ := ⟨_, rfl⟩
  have hbv_1 : 0 ≤ v_1.toInt ∧ v_1.toInt ≤ 40 := by rw [hv_1]; exact ⟨by omega, by omega⟩
  obtain ⟨v_2, hv_2⟩ : ∃ g : Int32, g = sd := ⟨_, rfl⟩
  replace hP : va_P D vwCl [(j0, .inr (0, [.ref z0, .ref jp, .ref jc, .int cn, .int de, .int tr, .int se, .int hu, .int v_2])), (z0, .inr (6, [.ref zl, .ref zs, .int sz, .int v_1, .int gp])), (zl, .inl (cZ, 40, .inl fl)), (zs, .inl (cI, 40, .inl fs))] H := by rw [hv_1, hv_2]; exact hP
  replace hD : va_D (va_A [(j0, .inr (0, [.ref z0, .ref jp, .ref jc, .int cn, .int de, .int tr, .int se, .int hu, .int sd])), (z0, .inr (6, [.ref zl, .ref zs, .int sz, .int at_, .int gp])), (zl, .inl (cZ, 40, .inl fl)), (zs, .inl (cI, 40, .inl fs))] s.heap.size) [(j0, .inr (0, [.ref z0, .ref jp, .ref jc, .int cn, .int de, .int tr, .int se, .int hu, .int v_2])), (z0, .inr (6, [.ref zl, .ref zs, .int sz, .int v_1, .int gp])), (zl, .inl (cZ, 40, .inl fl)), (zs, .inl (cI, 40, .inl fs))] := by rw [hv_1, hv_2]; exact hD
  have hvi_8_0 : zCz fl fs gp.toInt sz.toInt (sz.toInt - at_.toInt).toNat at_.toInt de.toInt sd = zCz fl fs gp.toInt sz.toInt (sz.toInt - i_8.toInt).toNat i_8.toInt de.toInt (v_2 : Int32) := by
    (try rw [hi_8]); (try rw [hv_1]); (try rw [hv_2]); first | done | rfl
  have hvi_8_1 : at_.toInt ≤ i_8.toInt ∧ i_8.toInt ≤ sz.toInt := by
    (try rw [hi_8]); (try rw [hv_1]); (try rw [hv_2]); exact ⟨by omega, by omega⟩
  have hvi_8_2 : (v_1 : Int32).toInt ≤ sz.toInt := by
    (try rw [hi_8]); (try rw [hv_1]); (try rw [hv_2]); omega
  clear h1i_8 hi_8 hv_1 hv_2
  skip
  revert hni_8
  revert hloi_8
  revert hvi_8_2
  revert hvi_8_1
  revert hvi_8_0
  revert hbv_1
  revert hl
  revert hS
  revert hD
  revert hP
  revert ls
  revert locs
  revert H
  revert v_1
  revert v_2
  revert i_8
  induction nfu with
  | zero =>
    intro i_8 v_2 v_1 H locs ls hP hD hS hl hbv_1 hvi_8_0 hvi_8_1 hvi_8_2 hloi_8 hni_8
    have hzi_8 : sz.toInt ≤ i_8.toInt := by omega
    refine lv_iload_n hx hb dX0_closeInTruth_8 rfl (lv_at hl 0 rfl) ?_
    refine lv_aload_n hx hb dX0_closeInTruth_9 rfl (lv_at hl 1 rfl) ?_
    refine va_get (D := D) (ci := 0) (v := .ref z0) (C := RX0) (T := TX0) (N := 9) hx hb hts hi_X0_closeInTruth_0 hown hK hP 0 rfl rfl 0 (by decide) (hts (.fieldLink RX0 12 "TheLiningsInIt$Jacket" "zip" "LTheLiningsInIt$Zip;") (List.mem_of_getElem? (i := 1) rfl)) (fun _ h9 => h9) rfl dX0_closeInTruth_10 ?_
    refine va_get (D := D) (ci := 6) (v := .int sz) (C := RX6) (T := TX6) (N := 5) hx hb hts hi_X0_closeInTruth_6 hown hK hP 1 rfl rfl 2 (by decide) (hts (.fieldLink RX0 57 "TheLiningsInIt$Zip" "size" "I") (List.mem_of_getElem? (i := 3) rfl)) (fun _ h9 => h9) rfl dX0_closeInTruth_13 ?_
    refine lv_icmp_ge (tgt := 97) hx hb dX0_closeInTruth_16 (by decide) (fun c_3 => ?_) (fun c_3 => ?_)
    · have fc_3 : sz.toInt ≤ i_8.toInt := zf_le c_3 rfl rfl
      refine lv_aload_n hx hb dX0_closeInTruth_97 rfl (lv_at hl 1 rfl) ?_
      refine va_get (D := D) (ci := 0) (v := .ref z0) (C := RX0) (T := TX0) (N := 9) hx hb hts hi_X0_closeInTruth_0 hown hK hP 0 rfl rfl 0 (by decide) (hts (.fieldLink RX0 12 "TheLiningsInIt$Jacket" "zip" "LTheLiningsInIt$Zip;") (List.mem_of_getElem? (i := 1) rfl)) (fun _ h9 => h9) rfl dX0_closeInTruth_98 ?_
      refine lv_aload_n hx hb dX0_closeInTruth_101 rfl (lv_at hl 1 rfl) ?_
      refine va_get (D := D) (ci := 0) (v := .ref z0) (C := RX0) (T := TX0) (N := 9) hx hb hts hi_X0_closeInTruth_0 hown hK hP 0 rfl rfl 0 (by decide) (hts (.fieldLink RX0 12 "TheLiningsInIt$Jacket" "zip" "LTheLiningsInIt$Zip;") (List.mem_of_getElem? (i := 1) rfl)) (fun _ h9 => h9) rfl dX0_closeInTruth_102 ?_
      refine va_get (D := D) (ci := 6) (v := .int sz) (C := RX6) (T := TX6) (N := 5) hx hb hts hi_X0_closeInTruth_6 hown hK hP 1 rfl rfl 2 (by decide) (hts (.fieldLink RX0 57 "TheLiningsInIt$Zip" "size" "I") (List.mem_of_getElem? (i := 3) rfl)) (fun _ h9 => h9) rfl dX0_closeInTruth_105 ?_
      refine va_put (D := D) (ci := 6) (v := .int sz) (ty := .int) (C := RX6) (T := TX6) (N := 5) hx hb hts hi_X0_closeInTruth_6 tyX6 tyX6_ok nmX6 hown hK hP hD hS 1 rfl rfl 3 (by decide) (hts (.fieldLink RX0 63 "TheLiningsInIt$Zip" "at" "I") (List.mem_of_getElem? (i := 2) rfl)) (fun _ h9 => h9) rfl (tyX6_ok 3 (Nat.le_of_ble_eq_true rfl)) rfl rfl (Nat.le_of_ble_eq_true rfl) dX0_closeInTruth_108 (fun H locs hP hD hS => ?_)
      have h9R := zRe (ws' := [(j0, .inr (0, [.ref z0, .ref jp, .ref jc, .int cn, .int de, .int tr, .int se, .int hu, .int v_2])), (z0, .inr (6, [.ref zl, .ref zs, .int sz, .int sz, .int gp])), (zl, .inl (cZ, 40, .inl fl)), (zs, .inl (cI, 40, .inl fs))]) hP hD rfl
      clear hP hD
      obtain ⟨hP, hD⟩ := h9R
      exact W.vret hx hb hr (fun t ht hW => ⟨⟨(de, v_2, sz), rfl, ⟨(show 0 ≤ de.toInt ∧ de.toInt ≤ 24 from ⟨hy2, hy3⟩), (show 0 ≤ sz.toInt ∧ sz.toInt ≤ 40 from ⟨by omega, hy7⟩), (show zCz fl fs gp.toInt sz.toInt (sz.toInt - at_.toInt).toNat at_.toInt de.toInt sd = (sz.toInt, de.toInt, v_2) from by (rw [hvi_8_0, show (sz.toInt - i_8.toInt).toNat = 0 from by omega]; refine Prod.ext ?_ (Prod.ext ?_ ?_) <;> first | rfl | (show i_8.toInt = sz.toInt; omega))), (show sz.toInt ≤ sz.toInt from by omega), trivial⟩, zRet ht hP hD [0, 1, 2, 3] (by decide) rfl⟩, hS.F ht⟩) hS.2.2 dX0_closeInTruth_111
    · exfalso; have fc_3 : i_8.toInt < sz.toInt := zf_nle c_3 rfl rfl; omega
  | succ nfu ih =>
    intro i_8 v_2 v_1 H locs ls hP hD hS hl hbv_1 hvi_8_0 hvi_8_1 hvi_8_2 hloi_8 hni_8
    refine lv_iload_n hx hb dX0_closeInTruth_8 rfl (lv_at hl 0 rfl) ?_
    refine lv_aload_n hx hb dX0_closeInTruth_9 rfl (lv_at hl 1 rfl) ?_
    refine va_get (D := D) (ci := 0) (v := .ref z0) (C := RX0) (T := TX0) (N := 9) hx hb hts hi_X0_closeInTruth_0 hown hK hP 0 rfl rfl 0 (by decide) (hts (.fieldLink RX0 12 "TheLiningsInIt$Jacket" "zip" "LTheLiningsInIt$Zip;") (List.mem_of_getElem? (i := 1) rfl)) (fun _ h9 => h9) rfl dX0_closeInTruth_10 ?_
    refine va_get (D := D) (ci := 6) (v := .int sz) (C := RX6) (T := TX6) (N := 5) hx hb hts hi_X0_closeInTruth_6 hown hK hP 1 rfl rfl 2 (by decide) (hts (.fieldLink RX0 57 "TheLiningsInIt$Zip" "size" "I") (List.mem_of_getElem? (i := 3) rfl)) (fun _ h9 => h9) rfl dX0_closeInTruth_13 ?_
    refine lv_icmp_ge (tgt := 97) hx hb dX0_closeInTruth_16 (by decide) (fun c_4 => ?_) (fun c_4 => ?_)
    · have fc_4 : sz.toInt ≤ i_8.toInt := zf_le c_4 rfl rfl
      refine lv_aload_n hx hb dX0_closeInTruth_97 rfl (lv_at hl 1 rfl) ?_
      refine va_get (D := D) (ci := 0) (v := .ref z0) (C := RX0) (T := TX0) (N := 9) hx hb hts hi_X0_closeInTruth_0 hown hK hP 0 rfl rfl 0 (by decide) (hts (.fieldLink RX0 12 "TheLiningsInIt$Jacket" "zip" "LTheLiningsInIt$Zip;") (List.mem_of_getElem? (i := 1) rfl)) (fun _ h9 => h9) rfl dX0_closeInTruth_98 ?_
      refine lv_aload_n hx hb dX0_closeInTruth_101 rfl (lv_at hl 1 rfl) ?_
      refine va_get (D := D) (ci := 0) (v := .ref z0) (C := RX0) (T := TX0) (N := 9) hx hb hts hi_X0_closeInTruth_0 hown hK hP 0 rfl rfl 0 (by decide) (hts (.fieldLink RX0 12 "TheLiningsInIt$Jacket" "zip" "LTheLiningsInIt$Zip;") (List.mem_of_getElem? (i := 1) rfl)) (fun _ h9 => h9) rfl dX0_closeInTruth_102 ?_
      refine va_get (D := D) (ci := 6) (v := .int sz) (C := RX6) (T := TX6) (N := 5) hx hb hts hi_X0_closeInTruth_6 hown hK hP 1 rfl rfl 2 (by decide) (hts (.fieldLink RX0 57 "TheLiningsInIt$Zip" "size" "I") (List.mem_of_getElem? (i := 3) rfl)) (fun _ h9 => h9) rfl dX0_closeInTruth_105 ?_
      refine va_put (D := D) (ci := 6) (v := .int sz) (ty := .int) (C := RX6) (T := TX6) (N := 5) hx hb hts hi_X0_closeInTruth_6 tyX6 tyX6_ok nmX6 hown hK hP hD hS 1 rfl rfl 3 (by decide) (hts (.fieldLink RX0 63 "TheLiningsInIt$Zip" "at" "I") (List.mem_of_getElem? (i := 2) rfl)) (fun _ h9 => h9) rfl (tyX6_ok 3 (Nat.le_of_ble_eq_true rfl)) rfl rfl (Nat.le_of_ble_eq_true rfl) dX0_closeInTruth_108 (fun H locs hP hD hS => ?_)
      have h9R := zRe (ws' := [(j0, .inr (0, [.ref z0, .ref jp, .ref jc, .int cn, .int de, .int tr, .int se, .int hu, .int v_2])), (z0, .inr (6, [.ref zl, .ref zs, .int sz, .int sz, .int gp])), (zl, .inl (cZ, 40, .inl fl)), (zs, .inl (cI, 40, .inl fs))]) hP hD rfl
      clear hP hD
      obtain ⟨hP, hD⟩ := h9R
      exact W.vret hx hb hr (fun t ht hW => ⟨⟨(de, v_2, sz), rfl, ⟨(show 0 ≤ de.toInt ∧ de.toInt ≤ 24 from ⟨hy2, hy3⟩), (show 0 ≤ sz.toInt ∧ sz.toInt ≤ 40 from ⟨by omega, hy7⟩), (show zCz fl fs gp.toInt sz.toInt (sz.toInt - at_.toInt).toNat at_.toInt de.toInt sd = (sz.toInt, de.toInt, v_2) from by (rw [hvi_8_0, show (sz.toInt - i_8.toInt).toNat = 0 from by omega]; refine Prod.ext ?_ (Prod.ext ?_ ?_) <;> first | rfl | (show i_8.toInt = sz.toInt; omega))), (show sz.toInt ≤ sz.toInt from by omega), trivial⟩, zRet ht hP hD [0, 1, 2, 3] (by decide) rfl⟩, hS.F ht⟩) hS.2.2 dX0_closeInTruth_111
    · have fc_4 : i_8.toInt < sz.toInt := zf_nle c_4 rfl rfl
      refine lv_aload_n hx hb dX0_closeInTruth_19 rfl (lv_at hl 1 rfl) ?_
      refine va_get (D := D) (ci := 0) (v := .ref z0) (C := RX0) (T := TX0) (N := 9) hx hb hts hi_X0_closeInTruth_0 hown hK hP 0 rfl rfl 0 (by decide) (hts (.fieldLink RX0 12 "TheLiningsInIt$Jacket" "zip" "LTheLiningsInIt$Zip;") (List.mem_of_getElem? (i := 1) rfl)) (fun _ h9 => h9) rfl dX0_closeInTruth_20 ?_
      refine lv_iload_n hx hb dX0_closeInTruth_23 rfl (lv_at hl 0 rfl) ?_
      refine va_put (D := D) (ci := 6) (v := .int i_8) (ty := .int) (C := RX6) (T := TX6) (N := 5) hx hb hts hi_X0_closeInTruth_6 tyX6 tyX6_ok nmX6 hown hK hP hD hS 1 rfl rfl 3 (by decide) (hts (.fieldLink RX0 63 "TheLiningsInIt$Zip" "at" "I") (List.mem_of_getElem? (i := 2) rfl)) (fun _ h9 => h9) rfl (tyX6_ok 3 (Nat.le_of_ble_eq_true rfl)) rfl rfl (Nat.le_of_ble_eq_true rfl) dX0_closeInTruth_24 (fun H locs hP hD hS => ?_)
      have h9R := zRe (ws' := [(j0, .inr (0, [.ref z0, .ref jp, .ref jc, .int cn, .int de, .int tr, .int se, .int hu, .int v_2])), (z0, .inr (6, [.ref zl, .ref zs, .int sz, .int i_8, .int gp])), (zl, .inl (cZ, 40, .inl fl)), (zs, .inl (cI, 40, .inl fs))]) hP hD rfl
      clear hP hD
      obtain ⟨hP, hD⟩ := h9R
      refine lv_aload_n hx hb dX0_closeInTruth_27 rfl (lv_at hl 1 rfl) ?_
      refine va_get (D := D) (ci := 0) (v := .ref z0) (C := RX0) (T := TX0) (N := 9) hx hb hts hi_X0_closeInTruth_0 hown hK hP 0 rfl rfl 0 (by decide) (hts (.fieldLink RX0 12 "TheLiningsInIt$Jacket" "zip" "LTheLiningsInIt$Zip;") (List.mem_of_getElem? (i := 1) rfl)) (fun _ h9 => h9) rfl dX0_closeInTruth_28 ?_
      refine lv_iload_n hx hb dX0_closeInTruth_31 rfl (lv_at hl 0 rfl) ?_
      refine zc_V (As := [.int i_8]) (rest := []) ⟨hx, hb, hml, hown, hts⟩ (c_F_Zip_catchesAt l D cI cJ cZ cP cS po z0 zl zs (sz) (i_8) (gp) fl fs (i_8) hy6 hy7 (by omega) (by omega) hy10 hy11 hp_fl hp_fs) (cwV 1 hts gX0_closeInTruth_X6_catchesAt rfl rfl rfl ⟨rfl, dh_X6_catchesAt⟩ ⟨Nat.le_of_ble_eq_true rfl, Nat.le_of_ble_eq_true rfl⟩) hK hN (hZ.kept hS) hP (hP.sub [1, 2, 3] rfl) (va_recv (q := (RX6, TX6, 5)) hK hP (ci := 6) (q0 := 1) rfl rfl) rfl hl.1 rfl (Nat.le_of_ble_eq_true rfl) dX0_closeInTruth_32 ⟨Nat.le_of_ble_eq_true rfl, Nat.le_of_ble_eq_true rfl⟩ (fun r_5 hr_5 => ?_)
      obtain ⟨g_6, g_7, hsr_5_0⟩ := hr_5
      replace hsr_5_0 := zHid_i hsr_5_0
      refine lv_if_eq (tgt := 79) hx hb dX0_closeInTruth_35 (by decide) (fun c_8 => ?_) (fun c_8 => ?_)
      · have fc_8 : r_5.toInt = 0 := zf_eq c_8 rfl (by decide)
        refine lv_aload_n hx hb dX0_closeInTruth_79 rfl (lv_at hl 1 rfl) ?_
        refine va_get (D := D) (ci := 0) (v := .ref z0) (C := RX0) (T := TX0) (N := 9) hx hb hts hi_X0_closeInTruth_0 hown hK hP 0 rfl rfl 0 (by decide) (hts (.fieldLink RX0 12 "TheLiningsInIt$Jacket" "zip" "LTheLiningsInIt$Zip;") (List.mem_of_getElem? (i := 1) rfl)) (fun _ h9 => h9) rfl dX0_closeInTruth_80 ?_
        refine lv_iload_n hx hb dX0_closeInTruth_83 rfl (lv_at hl 0 rfl) ?_
        refine zc_V (As := [.int i_8]) (rest := []) ⟨hx, hb, hml, hown, hts⟩ (c_F_Zip_lacks3 l D cI cJ cZ cP cS po z0 zl zs (sz) (i_8) (gp) fl ((fun _ => 0)) (i_8) hy6 hy7 (by omega) (by omega) hy10 hy11 (by omega) (by omega) hp_fl) (cwV 1 hts gX0_closeInTruth_X6_lacksThreeFrom rfl rfl rfl ⟨rfl, dh_X6_lacksThreeFrom⟩ ⟨Nat.le_of_ble_eq_true rfl, Nat.le_of_ble_eq_true rfl⟩) hK hN (hZ.kept hS) hP (hP.sub [1, 2] rfl) (va_recv (q := (RX6, TX6, 5)) hK hP (ci := 6) (q0 := 1) rfl rfl) rfl hl.1 rfl (Nat.le_of_ble_eq_true rfl) dX0_closeInTruth_84 ⟨Nat.le_of_ble_eq_true rfl, Nat.le_of_ble_eq_true rfl⟩ (fun r_9 hr_9 => ?_)
        obtain ⟨g_10, g_11, hsr_9_0⟩ := hr_9
        replace hsr_9_0 := zHid_i hsr_9_0
        refine lv_if_eq (tgt := 91) hx hb dX0_closeInTruth_87 (by decide) (fun c_12 => ?_) (fun c_12 => ?_)
        · have fc_12 : r_9.toInt = 0 := zf_eq c_12 rfl (by decide)
          obtain ⟨x_13, ex_13⟩ : ∃ y : Int32, y = i_8 + 1 := ⟨_, rfl⟩
          have qx_13 : x_13.toInt = i_8.toInt + 1 := dw_inc ex_13 fc_4
          refine lv_iinc (v := x_13) (lv' := [(1, .int x_13), (0, .ref j0)]) hx hb dX0_closeInTruth_91 hl (k := 0) rfl ex_13.symm (by decide) rfl (fun ls hl => ?_)
          refine lv_goto (tgt := 8) hx hb dX0_closeInTruth_94 (by decide) ?_
          exact ih x_13 (v_2) (i_8) _ _ _ (hP.sub [0, 1, 2, 3] rfl) (hD.sub [0, 1, 2, 3] (by decide) rfl) hS (lv_sub hl [0, 1] rfl) ⟨by omega, by omega⟩ (show zCz fl fs gp.toInt sz.toInt (sz.toInt - at_.toInt).toNat at_.toInt de.toInt sd = zCz fl fs gp.toInt sz.toInt (sz.toInt - x_13.toInt).toNat x_13.toInt de.toInt (v_2 : Int32) from by (have hk : (sz.toInt - i_8.toInt).toNat = (sz.toInt - (i_8.toInt + 1)).toNat + 1 := (by omega); have hno := hsr_9_0.2 (by omega); have hcc : ¬ zCa fl fs gp.toInt i_8.toInt := (fun z => hsr_5_0.2 (by omega) ⟨by omega, by omega, z⟩); rw [hvi_8_0, hk, zCz_s]; rw [if_neg (fun z => z.elim (fun a => by omega) hno), if_neg hcc]; rw [show x_13.toInt = i_8.toInt + 1 from by omega])) (show at_.toInt ≤ x_13.toInt ∧ x_13.toInt ≤ sz.toInt from by exact ⟨by omega, by omega⟩) (show (i_8 : Int32).toInt ≤ sz.toInt from by omega) (dw_lo hloi_8 qx_13) (dw_hn hni_8 qx_13)
        · have fc_12 : r_9.toInt ≠ 0 := zf_ne c_12 rfl (by decide)
          exact W.vret hx hb hr (fun t ht hW => ⟨⟨(de, v_2, i_8), rfl, ⟨(show 0 ≤ de.toInt ∧ de.toInt ≤ 24 from ⟨hy2, hy3⟩), (show 0 ≤ i_8.toInt ∧ i_8.toInt ≤ 40 from ⟨by omega, by omega⟩), (show zCz fl fs gp.toInt sz.toInt (sz.toInt - at_.toInt).toNat at_.toInt de.toInt sd = (i_8.toInt, de.toInt, v_2) from by (have hop := hsr_9_0.1 (by omega); have hk : (sz.toInt - i_8.toInt).toNat = (sz.toInt - (i_8.toInt + 1)).toNat + 1 := (by omega); rw [hvi_8_0, hk, zCz_s, if_pos (Or.inr hop)])), (show i_8.toInt ≤ sz.toInt from by omega), trivial⟩, zRet ht hP hD [0, 1, 2, 3] (by decide) rfl⟩, hS.F ht⟩) hS.2.2 dX0_closeInTruth_90
      · have fc_8 : r_5.toInt ≠ 0 := zf_ne c_8 rfl (by decide)
        refine lv_aload_n hx hb dX0_closeInTruth_38 rfl (lv_at hl 1 rfl) ?_
        refine lv_bipush (v := 10) hx hb dX0_closeInTruth_39 (by decide) ?_
        skip
        refine zw_V (As := [.int 10]) (rest := []) (wr := [(z0, .inr (6, [.ref zl, .ref zs, .int sz, .int i_8, .int gp])), (zl, .inl (cZ, 40, .inl fl)), (zs, .inl (cI, 40, .inl fs))]) ⟨hx, hb, hml, hown, hts⟩ (c_F_J_draw_10 l D cI cJ cZ cP cS po j0 jp jc z0 0 0 (cn) (de) (tr) (se) (hu) (v_2) hy0 hy1 hy2 hy3 hy4 hy5 H.size) (cwV 1 hts gX0_closeInTruth_X0_draw rfl rfl rfl ⟨rfl, dh_X0_draw⟩ ⟨Nat.le_of_ble_eq_true rfl, Nat.le_of_ble_eq_true rfl⟩) hK hN (hZ.kept hS) hP hD hS hA [0] [1, 2, 3] rfl rfl (by decide) (by decide) (by decide) (va_recv (q := (RX0, TX0, 9)) hK hP (ci := 0) (q0 := 0) rfl rfl) rfl hl.1 rfl (Nat.le_of_ble_eq_true rfl) dX0_closeInTruth_41 ⟨Nat.le_of_ble_eq_true rfl, Nat.le_of_ble_eq_true rfl⟩ (fun r_14 u_15 H locs hr_14 hP hD hS => ?_)
        obtain ⟨q_16, rfl⟩ : ∃ z, z = u_15 := ⟨_, rfl⟩
        obtain ⟨hsr_14_0, hsr_14_1, hr_14⟩ := hr_14
        have h9R := zRe (ws' := [(z0, .inr (6, [.ref zl, .ref zs, .int sz, .int i_8, .int gp])), (zl, .inl (cZ, 40, .inl fl)), (zs, .inl (cI, 40, .inl fs)), (j0, .inr (0, [.ref z0, .ref jp, .ref jc, .int cn, .int de, .int tr, .int se, .int hu, .int q_16]))]) hP hD rfl
        clear hP hD
        obtain ⟨hP, hD⟩ := h9R
        obtain ⟨g_17, g_18⟩ := hr_14
        refine lv_aload_n hx hb dX0_closeInTruth_44 rfl (lv_at hl 1 rfl) ?_
        refine va_get (D := D) (ci := 0) (v := .ref z0) (C := RX0) (T := TX0) (N := 9) hx hb hts hi_X0_closeInTruth_0 hown hK hP 3 rfl rfl 0 (by decide) (hts (.fieldLink RX0 12 "TheLiningsInIt$Jacket" "zip" "LTheLiningsInIt$Zip;") (List.mem_of_getElem? (i := 1) rfl)) (fun _ h9 => h9) rfl dX0_closeInTruth_45 ?_
        refine va_get (D := D) (ci := 6) (v := .ref zs) (C := RX6) (T := TX6) (N := 5) hx hb hts hi_X0_closeInTruth_6 hown hK hP 0 rfl rfl 1 (by decide) (hts (.fieldLink RX0 109 "TheLiningsInIt$Zip" "slacks" "[I") (List.mem_of_getElem? (i := 4) rfl)) (fun _ h9 => h9) rfl dX0_closeInTruth_48 ?_
        refine lv_iload_n hx hb dX0_closeInTruth_51 rfl (lv_at hl 0 rfl) ?_
        refine va_iald hx hb hK hP 2 0 rfl rfl (zf_in (by omega) (by omega)) dX0_closeInTruth_52 ?_
        refine lv_topi (fun x_19 ex_19 => ?_)
        have bx_19 : 0 ≤ x_19.toInt ∧ x_19.toInt ≤ 9 := by rw [ex_19]; exact hp_fs _
        refine lv_aload_n hx hb dX0_closeInTruth_53 rfl (lv_at hl 1 rfl) ?_
        refine va_get (D := D) (ci := 0) (v := .ref z0) (C := RX0) (T := TX0) (N := 9) hx hb hts hi_X0_closeInTruth_0 hown hK hP 3 rfl rfl 0 (by decide) (hts (.fieldLink RX0 12 "TheLiningsInIt$Jacket" "zip" "LTheLiningsInIt$Zip;") (List.mem_of_getElem? (i := 1) rfl)) (fun _ h9 => h9) rfl dX0_closeInTruth_54 ?_
        refine va_get (D := D) (ci := 6) (v := .int gp) (C := RX6) (T := TX6) (N := 5) hx hb hts hi_X0_closeInTruth_6 hown hK hP 0 rfl rfl 4 (by decide) (hts (.fieldLink RX0 60 "TheLiningsInIt$Zip" "gap" "I") (List.mem_of_getElem? (i := 5) rfl)) (fun _ h9 => h9) rfl dX0_closeInTruth_57 ?_
        refine lv_isub hx hb dX0_closeInTruth_60 ?_
        refine lv_topi (fun x_20 ex_20 => ?_)
        have qx_20 : x_20.toInt = x_19.toInt - gp.toInt := by rw [ex_20]; exact zf_sub rfl rfl (by omega) (by omega)
        refine lv_iconst (v := 1) hx hb dX0_closeInTruth_61 (by decide) ?_
        refine lv_iadd hx hb dX0_closeInTruth_62 ?_
        refine lv_topi (fun x_21 ex_21 => ?_)
        have qx_21 : x_21.toInt = x_20.toInt + 1 := by rw [ex_21]; exact zf_add rfl (by decide) (by omega) (by omega)
        refine lv_icmp_ge (tgt := 79) hx hb dX0_closeInTruth_63 (by decide) (fun c_22 => ?_) (fun c_22 => ?_)
        · have fc_22 : x_21.toInt ≤ r_14.toInt := zf_le c_22 rfl rfl
          refine lv_aload_n hx hb dX0_closeInTruth_79 rfl (lv_at hl 1 rfl) ?_
          refine va_get (D := D) (ci := 0) (v := .ref z0) (C := RX0) (T := TX0) (N := 9) hx hb hts hi_X0_closeInTruth_0 hown hK hP 3 rfl rfl 0 (by decide) (hts (.fieldLink RX0 12 "TheLiningsInIt$Jacket" "zip" "LTheLiningsInIt$Zip;") (List.mem_of_getElem? (i := 1) rfl)) (fun _ h9 => h9) rfl dX0_closeInTruth_80 ?_
          refine lv_iload_n hx hb dX0_closeInTruth_83 rfl (lv_at hl 0 rfl) ?_
          refine zc_V (As := [.int i_8]) (rest := []) ⟨hx, hb, hml, hown, hts⟩ (c_F_Zip_lacks3 l D cI cJ cZ cP cS po z0 zl zs (sz) (i_8) (gp) fl ((fun _ => 0)) (i_8) hy6 hy7 (by omega) (by omega) hy10 hy11 (by omega) (by omega) hp_fl) (cwV 1 hts gX0_closeInTruth_X6_lacksThreeFrom rfl rfl rfl ⟨rfl, dh_X6_lacksThreeFrom⟩ ⟨Nat.le_of_ble_eq_true rfl, Nat.le_of_ble_eq_true rfl⟩) hK hN (hZ.kept hS) hP (hP.sub [0, 1] rfl) (va_recv (q := (RX6, TX6, 5)) hK hP (ci := 6) (q0 := 0) rfl rfl) rfl hl.1 rfl (Nat.le_of_ble_eq_true rfl) dX0_closeInTruth_84 ⟨Nat.le_of_ble_eq_true rfl, Nat.le_of_ble_eq_true rfl⟩ (fun r_23 hr_23 => ?_)
          obtain ⟨g_24, g_25, hsr_23_0⟩ := hr_23
          replace hsr_23_0 := zHid_i hsr_23_0
          refine lv_if_eq (tgt := 91) hx hb dX0_closeInTruth_87 (by decide) (fun c_26 => ?_) (fun c_26 => ?_)
          · have fc_26 : r_23.toInt = 0 := zf_eq c_26 rfl (by decide)
            obtain ⟨x_27, ex_27⟩ : ∃ y : Int32, y = i_8 + 1 := ⟨_, rfl⟩
            have qx_27 : x_27.toInt = i_8.toInt + 1 := dw_inc ex_27 fc_4
            refine lv_iinc (v := x_27) (lv' := [(1, .int x_27), (0, .ref j0)]) hx hb dX0_closeInTruth_91 hl (k := 0) rfl ex_27.symm (by decide) rfl (fun ls hl => ?_)
            refine lv_goto (tgt := 8) hx hb dX0_closeInTruth_94 (by decide) ?_
            exact ih x_27 (q_16) (i_8) _ _ _ (hP.sub [3, 0, 1, 2] rfl) (hD.sub [3, 0, 1, 2] (by decide) rfl) hS (lv_sub hl [0, 1] rfl) ⟨by omega, by omega⟩ (show zCz fl fs gp.toInt sz.toInt (sz.toInt - at_.toInt).toNat at_.toInt de.toInt sd = zCz fl fs gp.toInt sz.toInt (sz.toInt - x_27.toInt).toNat x_27.toInt de.toInt (q_16 : Int32) from by (have hk : (sz.toInt - i_8.toInt).toNat = (sz.toInt - (i_8.toInt + 1)).toNat + 1 := (by omega); have hcc := (hsr_5_0.1 (by omega)).2.2; have hno : ¬ zOp fl sz.toInt i_8.toInt := (fun z => zOp_Ca z hcc); have hsl : (fs i_8.toInt.toNat).toInt = x_19.toInt := (by rw [ex_19]; rfl); rw [hvi_8_0, hk, zCz_s]; rw [if_neg (fun z => z.elim (fun a => by omega) hno), if_pos hcc, if_neg (by rw [← hsr_14_1, hsl]; omega), ← hsr_14_0]; rw [show x_27.toInt = i_8.toInt + 1 from by omega])) (show at_.toInt ≤ x_27.toInt ∧ x_27.toInt ≤ sz.toInt from by exact ⟨by omega, by omega⟩) (show (i_8 : Int32).toInt ≤ sz.toInt from by omega) (dw_lo hloi_8 qx_27) (dw_hn hni_8 qx_27)
          · have fc_26 : r_23.toInt ≠ 0 := zf_ne c_26 rfl (by decide)
            exact W.vret hx hb hr (fun t ht hW => ⟨⟨(de, q_16, i_8), rfl, ⟨(show 0 ≤ de.toInt ∧ de.toInt ≤ 24 from ⟨hy2, hy3⟩), (show 0 ≤ i_8.toInt ∧ i_8.toInt ≤ 40 from ⟨by omega, by omega⟩), (show zCz fl fs gp.toInt sz.toInt (sz.toInt - at_.toInt).toNat at_.toInt de.toInt sd = (i_8.toInt, de.toInt, q_16) from by (exact (zOp_Ca (hsr_23_0.1 (by omega)) (hsr_5_0.1 (by omega)).2.2).elim)), (show i_8.toInt ≤ sz.toInt from by omega), trivial⟩, zRet ht hP hD [3, 0, 1, 2] (by decide) rfl⟩, hS.F ht⟩) hS.2.2 dX0_closeInTruth_90
        · have fc_22 : r_14.toInt < x_21.toInt := zf_nle c_22 rfl rfl
          refine lv_aload_n hx hb dX0_closeInTruth_66 rfl (lv_at hl 1 rfl) ?_
          refine lv_iconst (v := 1) hx hb dX0_closeInTruth_67 (by decide) ?_
          refine lv_aload_n hx hb dX0_closeInTruth_68 rfl (lv_at hl 1 rfl) ?_
          refine lv_bipush (v := 6) hx hb dX0_closeInTruth_69 (by decide) ?_
          skip
          refine zw_V (As := [.int 6]) (rest := [.int 1, .ref j0]) (wr := [(z0, .inr (6, [.ref zl, .ref zs, .int sz, .int i_8, .int gp])), (zl, .inl (cZ, 40, .inl fl)), (zs, .inl (cI, 40, .inl fs))]) ⟨hx, hb, hml, hown, hts⟩ (c_F_J_draw_6 l D cI cJ cZ cP cS po j0 jp jc z0 0 0 (cn) (de) (tr) (se) (hu) (q_16) hy0 hy1 hy2 hy3 hy4 hy5 H.size) (cwV 1 hts gX0_closeInTruth_X0_draw rfl rfl rfl ⟨rfl, dh_X0_draw⟩ ⟨Nat.le_of_ble_eq_true rfl, Nat.le_of_ble_eq_true rfl⟩) hK hN (hZ.kept hS) hP hD hS hA [3] [0, 1, 2] rfl rfl (by decide) (by decide) (by decide) (va_recv (q := (RX0, TX0, 9)) hK hP (ci := 0) (q0 := 3) rfl rfl) rfl hl.1 rfl (Nat.le_of_ble_eq_true rfl) dX0_closeInTruth_71 ⟨Nat.le_of_ble_eq_true rfl, Nat.le_of_ble_eq_true rfl⟩ (fun r_28 u_29 H locs hr_28 hP hD hS => ?_)
          obtain ⟨q_30, rfl⟩ : ∃ z, z = u_29 := ⟨_, rfl⟩
          obtain ⟨hsr_28_0, hsr_28_1, hr_28⟩ := hr_28
          have h9R := zRe (ws' := [(z0, .inr (6, [.ref zl, .ref zs, .int sz, .int i_8, .int gp])), (zl, .inl (cZ, 40, .inl fl)), (zs, .inl (cI, 40, .inl fs)), (j0, .inr (0, [.ref z0, .ref jp, .ref jc, .int cn, .int de, .int tr, .int se, .int hu, .int q_30]))]) hP hD rfl
          clear hP hD
          obtain ⟨hP, hD⟩ := h9R
          obtain ⟨g_31, g_32⟩ := hr_28
          refine lv_iadd hx hb dX0_closeInTruth_74 ?_
          refine lv_topi (fun x_33 ex_33 => ?_)
          have qx_33 : x_33.toInt = 1 + r_28.toInt := by rw [ex_33]; exact zf_add (by decide) rfl (by omega) (by omega)
          refine va_put (D := D) (ci := 0) (v := .int x_33) (ty := .int) (C := RX0) (T := TX0) (N := 9) hx hb hts hi_X0_closeInTruth_0 tyX0 tyX0_ok nmX0 hown hK hP hD hS 3 rfl rfl 4 (by decide) (hts (.fieldLink RX0 32 "TheLiningsInIt$Jacket" "depth" "I") (List.mem_of_getElem? (i := 6) rfl)) (fun _ h9 => h9) rfl (tyX0_ok 4 (Nat.le_of_ble_eq_true rfl)) rfl rfl (Nat.le_of_ble_eq_true rfl) dX0_closeInTruth_75 (fun H locs hP hD hS => ?_)
          have h9R := zRe (ws' := [(z0, .inr (6, [.ref zl, .ref zs, .int sz, .int i_8, .int gp])), (zl, .inl (cZ, 40, .inl fl)), (zs, .inl (cI, 40, .inl fs)), (j0, .inr (0, [.ref z0, .ref jp, .ref jc, .int cn, .int x_33, .int tr, .int se, .int hu, .int q_30]))]) hP hD rfl
          clear hP hD
          obtain ⟨hP, hD⟩ := h9R
          exact W.vret hx hb hr (fun t ht hW => ⟨⟨(x_33, q_30, i_8), rfl, ⟨(show 0 ≤ x_33.toInt ∧ x_33.toInt ≤ 24 from ⟨by omega, by omega⟩), (show 0 ≤ i_8.toInt ∧ i_8.toInt ≤ 40 from ⟨by omega, by omega⟩), (show zCz fl fs gp.toInt sz.toInt (sz.toInt - at_.toInt).toNat at_.toInt de.toInt sd = (i_8.toInt, x_33.toInt, q_30) from by (have hk : (sz.toInt - i_8.toInt).toNat = (sz.toInt - (i_8.toInt + 1)).toNat + 1 := (by omega); have hcc := (hsr_5_0.1 (by omega)).2.2; have hno : ¬ zOp fl sz.toInt i_8.toInt := (fun z => zOp_Ca z hcc); have hsl : (fs i_8.toInt.toNat).toInt = x_19.toInt := (by rw [ex_19]; rfl); rw [hvi_8_0, hk, zCz_s, if_neg (fun z => z.elim (fun a => by omega) hno), if_pos hcc, if_pos (by rw [← hsr_14_1, hsl]; omega)]; refine Prod.ext rfl (Prod.ext ?_ ?_) <;> dsimp only; (rw [← hsr_14_0, ← hsr_28_1]; omega); (rw [← hsr_14_0, ← hsr_28_0]))), (show i_8.toInt ≤ sz.toInt from by omega), trivial⟩, zRet ht hP hD [3, 0, 1, 2] (by decide) rfl⟩, hS.F ht⟩) hS.2.2 dX0_closeInTruth_78
set_option maxHeartbeats 4000000 in
set_option maxRecDepth 100000 in
theorem c_F_J_pullFree (l : Launch) (D : va_G) (cI cJ cZ cP cS : ClassId) (po : zPool) (w0 wk wl wc wp : Nat) (wn wh wg : Int32) (j0 jp jc z0 zl zs : Nat) (cn de tr se hu sd : Int32) (fp fq : Nat → Option Nat) (kf af tf : Nat → Int32) (tw : Int32) (fk : Nat → Int32) (hy0 : 0 ≤ wn.toInt) (hy1 : wn.toInt ≤ 8) (hy2 : 0 ≤ wh.toInt) (hy3 : wh.toInt ≤ 9) (hy4 : 0 ≤ wg.toInt) (hy5 : wg.toInt ≤ 60) (hy6 : 0 ≤ cn.toInt) (hy7 : cn.toInt ≤ 8) (hy8 : 0 ≤ de.toInt) (hy9 : de.toInt ≤ 24) (hy10 : 0 ≤ hu.toInt) (hy11 : hu.toInt ≤ 9) (hjw : zJW po fq wn kf af tf tw) (hkm : zKm kf af tf wn.toInt.toNat wh.toInt tw.toInt wg.toInt fk) (hgl : (∀ p : Nat, p < wn.toInt.toNat → (tw.toInt ≠ 0 ∨ (kf p).toInt ≠ 5) → (tf p).toInt ≤ wg.toInt)) (hy15 : wn.toInt = cn.toInt) (hy16 : wh.toInt = hu.toInt) (htw : tw.toInt = 1) (hy18 : 0 ≤ se.toInt) (hy19 : se.toInt ≤ 300) (hjp : zJP po fp cn kf af tf) (hpz : Nat) : Met l yX0_pullFreeInTruth wsX0_pullFreeInTruth ({ frames := 6, cells := 0, slots := 0, locals := 154 }) (va_Pc [.ref j0, .ref w0] (zW D (zKT cI cJ cZ cP cS) po [(w0, .inr (5, [.ref wk, .ref wl, .ref wc, .ref wp, .int wn, .int wh, .int wg])), (wk, .inl (cI, 125, .inl fk)), (wp, .inl (cP, 8, .inr (.inr (.inr (.inr fq))))), (j0, .inr (0, [.ref z0, .ref jp, .ref jc, .int cn, .int de, .int tr, .int se, .int hu, .int sd])), (jp, .inl (cP, 8, .inr (.inr (.inr (.inr fp)))))] hpz)) (va_Qv (fun (u : (Int32) × (Int32) × (Int32) × (Int32) × (Nat → Int32)) => (0 ≤ u.1.toInt ∧ u.1.toInt ≤ 24) ∧ (zPf kf af tf cn.toInt.toNat hu.toInt 12 (de.toInt, se.toInt, tr, sd) = (u.1.toInt, u.2.2.1.toInt, u.2.1, u.2.2.2.1)) ∧ (zKm kf af tf wn.toInt.toNat wh.toInt tw.toInt wg.toInt u.2.2.2.2) ∧ (0 ≤ u.2.2.1.toInt ∧ u.2.2.1.toInt ≤ 300) ∧ (True)) (zB D [(w0, .inr (5, [.ref wk, .ref wl, .ref wc, .ref wp, .int wn, .int wh, .int wg])), (wk, .inl (cI, 125, .inl fk)), (wp, .inl (cP, 8, .inr (.inr (.inr (.inr fq))))), (j0, .inr (0, [.ref z0, .ref jp, .ref jc, .int cn, .int de, .int tr, .int se, .int hu, .int sd])), (jp, .inl (cP, 8, .inr (.inr (.inr (.inr fp)))))] hpz (fun (u : (Int32) × (Int32) × (Int32) × (Int32) × (Nat → Int32)) => [(w0, .inr (5, [.ref wk, .ref wl, .ref wc, .ref wp, .int wn, .int wh, .int wg])), (wk, .inl (cI, 125, .inl u.2.2.2.2)), (wp, .inl (cP, 8, .inr (.inr (.inr (.inr fq))))), (j0, .inr (0, [.ref z0, .ref jp, .ref jc, .int cn, .int u.1, .int u.2.1, .int u.2.2.1, .int hu, .int u.2.2.2.1])), (jp, .inl (cP, 8, .inr (.inr (.inr (.inr fp)))))])) (va_A [(w0, .inr (5, [.ref wk, .ref wl, .ref wc, .ref wp, .int wn, .int wh, .int wg])), (wk, .inl (cI, 125, .inl fk)), (wp, .inl (cP, 8, .inr (.inr (.inr (.inr fq))))), (j0, .inr (0, [.ref z0, .ref jp, .ref jc, .int cn, .int de, .int tr, .int se, .int hu, .int sd])), (jp, .inl (cP, 8, .inr (.inr (.inr (.inr fp)))))] hpz)) 0 0 (va_A [(w0, .inr (5, [.ref wk, .ref wl, .ref wc, .ref wp, .int wn, .int wh, .int wg])), (wk, .inl (cI, 125, .inl fk)), (wp, .inl (cP, 8, .inr (.inr (.inr (.inr fq))))), (j0, .inr (0, [.ref z0, .ref jp, .ref jc, .int cn, .int de, .int tr, .int se, .int hu, .int sd])), (jp, .inl (cP, 8, .inr (.inr (.inr (.inr fp)))))] hpz) := by
  refine Met.ofW (cc := cX0_pullFreeInTruth) (maxL := 4) (ret := none) (by decide) rfl ?_
  intro p e s m args below meth c s₁ B hml hv
  obtain ⟨rfl, hsz, hP, hK, hD0, hN, hZ⟩ := hv
  have hx := B.exec
  have hb := B.bytes
  have hr := B.returns
  have hts := atoms_spec (ws := wsX0_pullFreeInTruth) B.pre
  have hown : s.vm.findClass RX0 = some m.cls := findClass_of_methodNamed B.named
  have hlocks := B.notSynchronized
  subst hsz
  have hD := hD0.self (sz := s.heap.size)
  have hA := zA_of hD
  have hl := lv_entry ([.ref j0, .ref w0]) (n := 4) (Nat.le_of_ble_eq_true rfl)
  rw [lg_entry_eq]
  generalize (lg_sl ([.ref j0, .ref w0]) ++ List.replicate (4 - (lg_sl ([.ref j0, .ref w0])).length) Slot.unset).toArray = ls at hl ⊢
  replace hl : lv_has ls 4 [(0, .ref j0), (1, .ref w0)] := hl
  refine zw_begin hP hD (fun H locs hP1 hS => ?_)
  clear hP
  have hP := hP1
  clear hP1
  refine lv_iconst (v := 0) hx hb dX0_pullFreeInTruth_0 (by decide) ?_
  refine lv_istore_n (lv' := [(2, .int 0), (0, .ref j0), (1, .ref w0)]) hx hb dX0_pullFreeInTruth_1 rfl hl (by decide) rfl (fun ls hl => ?_)
  obtain ⟨i_2, hi_2⟩ : ∃ i : Int32, i = 0 := ⟨_, rfl⟩
  replace hl : lv_has ls 4 [(2, .int i_2), (0, .ref j0), (1, .ref w0)] := by rw [hi_2]; exact lv_sub hl [0, 1, 2] rfl
  have h1i_2 : i_2.toInt = 0 := by rw [hi_2]; decide
  obtain ⟨nfu, hni_2⟩ : ∃ nq9 : Nat, 12 ≤ i_2.toInt + (nq9 : Int) := ⟨((12 : Int) - 0).toNat, by omega⟩
  have hloi_2 : 0 ≤ i_2.toInt := by omega
  obtain ⟨g_1, hg_1⟩ : ∃ g : Nat → Int32, g = fk := ⟨_, rfl⟩
  obtain ⟨v_2, hv_2⟩ : ∃ g : Int32, g = de := ⟨_, rfl⟩
  have hbv_2 : 0 ≤ v_2.toInt ∧ v_2.toInt ≤ 24 := by rw [hv_2]; exact ⟨by omega, by omega⟩
  obtain ⟨v_3, hv_3⟩ : ∃ g : Int32, g = tr := ⟨_, rfl⟩
  obtain ⟨v_4, hv_4⟩ : ∃ g : Int32, g = se := ⟨_, rfl⟩
  have hbv_4 : 0 ≤ v_4.toInt ∧ v_4.toInt ≤ 300 := by rw [hv_4]; exact ⟨by omega, by omega⟩
  obtain ⟨v_5, hv_5⟩ : ∃ g : Int32, g = sd := ⟨_, rfl⟩
  replace hP : va_P D vwCl [(w0, .inr (5, [.ref wk, .ref wl, .ref wc, .ref wp, .int wn, .int wh, .int wg])), (wk, .inl (cI, 125, .inl g_1)), (wp, .inl (cP, 8, .inr (.inr (.inr (.inr fq))))), (j0, .inr (0, [.ref z0, .ref jp, .ref jc, .int cn, .int v_2, .int v_3, .int v_4, .int hu, .int v_5])), (jp, .inl (cP, 8, .inr (.inr (.inr (.inr fp)))))] H := by rw [hg_1, hv_2, hv_3, hv_4, hv_5]; exact hP
  replace hD : va_D (va_A [(w0, .inr (5, [.ref wk, .ref wl, .ref wc, .ref wp, .int wn, .int wh, .int wg])), (wk, .inl (cI, 125, .inl fk)), (wp, .inl (cP, 8, .inr (.inr (.inr (.inr fq))))), (j0, .inr (0, [.ref z0, .ref jp, .ref jc, .int cn, .int de, .int tr, .int se, .int hu, .int sd])), (jp, .inl (cP, 8, .inr (.inr (.inr (.inr fp)))))] s.heap.size) [(w0, .inr (5, [.ref wk, .ref wl, .ref wc, .ref wp, .int wn, .int wh, .int wg])), (wk, .inl (cI, 125, .inl g_1)), (wp, .inl (cP, 8, .inr (.inr (.inr (.inr fq))))), (j0, .inr (0, [.ref z0, .ref jp, .ref jc, .int cn, .int v_2, .int v_3, .int v_4, .int hu, .int v_5])), (jp, .inl (cP, 8, .inr (.inr (.inr (.inr fp)))))] := by rw [hg_1, hv_2, hv_3, hv_4, hv_5]; exact hD
  have hvi_2_0 : zPf kf af tf cn.toInt.toNat hu.toInt 12 (de.toInt, se.toInt, tr, sd) = zPf kf af tf cn.toInt.toNat hu.toInt (12 - i_2.toInt).toNat ((v_2 : Int32).toInt, (v_4 : Int32).toInt, (v_3 : Int32), (v_5 : Int32)) := by
    (try rw [hi_2]); (try rw [hg_1]); (try rw [hv_2]); (try rw [hv_3]); (try rw [hv_4]); (try rw [hv_5]); (rw [show (12 - (0 : Int32).toInt).toNat = 12 from by decide])
  have hvi_2_1 : zKm kf af tf wn.toInt.toNat wh.toInt tw.toInt wg.toInt g_1 := by
    (try rw [hi_2]); (try rw [hg_1]); (try rw [hv_2]); (try rw [hv_3]); (try rw [hv_4]); (try rw [hv_5]); exact hkm
  have hvi_2_2 : i_2.toInt ≤ 12 := by
    (try rw [hi_2]); (try rw [hg_1]); (try rw [hv_2]); (try rw [hv_3]); (try rw [hv_4]); (try rw [hv_5]); (have k0 : (0 : Int32).toInt = 0 := (by decide); omega)
  clear h1i_2 hi_2 hg_1 hv_2 hv_3 hv_4 hv_5
  skip
  revert hni_2
  revert hloi_2
  revert hvi_2_2
  revert hvi_2_1
  revert hvi_2_0
  revert hbv_4
  revert hbv_2
  revert hl
  revert hS
  revert hD
  revert hP
  revert ls
  revert locs
  revert H
  revert g_1
  revert v_2
  revert v_3
  revert v_4
  revert v_5
  revert i_2
  induction nfu with
  | zero =>
    intro i_2 v_5 v_4 v_3 v_2 g_1 H locs ls hP hD hS hl hbv_2 hbv_4 hvi_2_0 hvi_2_1 hvi_2_2 hloi_2 hni_2
    have hzi_2 : 12 ≤ i_2.toInt := by omega
    refine lv_iload_n hx hb dX0_pullFreeInTruth_2 rfl (lv_at hl 0 rfl) ?_
    refine lv_bipush (v := 12) hx hb dX0_pullFreeInTruth_3 (by decide) ?_
    refine lv_icmp_ge (tgt := 49) hx hb dX0_pullFreeInTruth_5 (by decide) (fun c_6 => ?_) (fun c_6 => ?_)
    · have fc_6 : 12 ≤ i_2.toInt := zf_le c_6 (by decide) rfl
      exact W.vret hx hb hr (fun t ht hW => ⟨⟨(v_2, v_3, v_4, v_5, g_1), rfl, ⟨(show 0 ≤ v_2.toInt ∧ v_2.toInt ≤ 24 from hbv_2), (show zPf kf af tf cn.toInt.toNat hu.toInt 12 (de.toInt, se.toInt, tr, sd) = (v_2.toInt, v_4.toInt, v_3, v_5) from by (rw [hvi_2_0]; first | (exact zPf_stop (Or.inl (by dsimp only; omega)) _) | (rw [show (12 - i_2.toInt).toNat = 0 from by omega]; rfl))), (show zKm kf af tf wn.toInt.toNat wh.toInt tw.toInt wg.toInt g_1 from by exact hvi_2_1), (show 0 ≤ v_4.toInt ∧ v_4.toInt ≤ 300 from by exact ⟨by omega, by omega⟩), trivial⟩, zRet ht hP hD [0, 1, 2, 3, 4] (by decide) rfl⟩, hS.F ht⟩) hS.2.2 dX0_pullFreeInTruth_49
    · exfalso; have fc_6 : i_2.toInt < 12 := zf_nle c_6 (by decide) rfl; omega
  | succ nfu ih =>
    intro i_2 v_5 v_4 v_3 v_2 g_1 H locs ls hP hD hS hl hbv_2 hbv_4 hvi_2_0 hvi_2_1 hvi_2_2 hloi_2 hni_2
    refine lv_iload_n hx hb dX0_pullFreeInTruth_2 rfl (lv_at hl 0 rfl) ?_
    refine lv_bipush (v := 12) hx hb dX0_pullFreeInTruth_3 (by decide) ?_
    refine lv_icmp_ge (tgt := 49) hx hb dX0_pullFreeInTruth_5 (by decide) (fun c_7 => ?_) (fun c_7 => ?_)
    · have fc_7 : 12 ≤ i_2.toInt := zf_le c_7 (by decide) rfl
      exact W.vret hx hb hr (fun t ht hW => ⟨⟨(v_2, v_3, v_4, v_5, g_1), rfl, ⟨(show 0 ≤ v_2.toInt ∧ v_2.toInt ≤ 24 from hbv_2), (show zPf kf af tf cn.toInt.toNat hu.toInt 12 (de.toInt, se.toInt, tr, sd) = (v_2.toInt, v_4.toInt, v_3, v_5) from by (rw [hvi_2_0]; first | (exact zPf_stop (Or.inl (by dsimp only; omega)) _) | (rw [show (12 - i_2.toInt).toNat = 0 from by omega]; rfl))), (show zKm kf af tf wn.toInt.toNat wh.toInt tw.toInt wg.toInt g_1 from by exact hvi_2_1), (show 0 ≤ v_4.toInt ∧ v_4.toInt ≤ 300 from by exact ⟨by omega, by omega⟩), trivial⟩, zRet ht hP hD [0, 1, 2, 3, 4] (by decide) rfl⟩, hS.F ht⟩) hS.2.2 dX0_pullFreeInTruth_49
    · have fc_7 : i_2.toInt < 12 := zf_nle c_7 (by decide) rfl
      refine lv_aload_n hx hb dX0_pullFreeInTruth_8 rfl (lv_at hl 1 rfl) ?_
      refine va_get (D := D) (ci := 0) (v := .int v_2) (C := RX0) (T := TX0) (N := 9) hx hb hts hi_X0_pullFreeInTruth_0 hown hK hP 3 rfl rfl 4 (by decide) (hts (.fieldLink RX0 32 "TheLiningsInIt$Jacket" "depth" "I") (List.mem_of_getElem? (i := 1) rfl)) (fun _ h9 => h9) rfl dX0_pullFreeInTruth_9 ?_
      refine lv_if_eq (tgt := 49) hx hb dX0_pullFreeInTruth_12 (by decide) (fun c_8 => ?_) (fun c_8 => ?_)
      · have fc_8 : v_2.toInt = 0 := zf_eq c_8 rfl (by decide)
        exact W.vret hx hb hr (fun t ht hW => ⟨⟨(v_2, v_3, v_4, v_5, g_1), rfl, ⟨(show 0 ≤ v_2.toInt ∧ v_2.toInt ≤ 24 from hbv_2), (show zPf kf af tf cn.toInt.toNat hu.toInt 12 (de.toInt, se.toInt, tr, sd) = (v_2.toInt, v_4.toInt, v_3, v_5) from by (rw [hvi_2_0]; first | (exact zPf_stop (Or.inl (by dsimp only; omega)) _) | (rw [show (12 - i_2.toInt).toNat = 0 from by omega]; rfl))), (show zKm kf af tf wn.toInt.toNat wh.toInt tw.toInt wg.toInt g_1 from by exact hvi_2_1), (show 0 ≤ v_4.toInt ∧ v_4.toInt ≤ 300 from by exact ⟨by omega, by omega⟩), trivial⟩, zRet ht hP hD [0, 1, 2, 3, 4] (by decide) rfl⟩, hS.F ht⟩) hS.2.2 dX0_pullFreeInTruth_49
      · have fc_8 : v_2.toInt ≠ 0 := zf_ne c_8 rfl (by decide)
        refine lv_aload_n hx hb dX0_pullFreeInTruth_15 rfl (lv_at hl 1 rfl) ?_
        refine lv_aload_n hx hb dX0_pullFreeInTruth_16 rfl (lv_at hl 2 rfl) ?_
        refine lv_iconst (v := 2) hx hb dX0_pullFreeInTruth_17 (by decide) ?_
        refine lv_aload_n hx hb dX0_pullFreeInTruth_18 rfl (lv_at hl 1 rfl) ?_
        refine va_get (D := D) (ci := 0) (v := .int v_2) (C := RX0) (T := TX0) (N := 9) hx hb hts hi_X0_pullFreeInTruth_0 hown hK hP 3 rfl rfl 4 (by decide) (hts (.fieldLink RX0 32 "TheLiningsInIt$Jacket" "depth" "I") (List.mem_of_getElem? (i := 1) rfl)) (fun _ h9 => h9) rfl dX0_pullFreeInTruth_19 ?_
        refine lv_aload_n hx hb dX0_pullFreeInTruth_22 rfl (lv_at hl 1 rfl) ?_
        refine va_get (D := D) (ci := 0) (v := .int v_4) (C := RX0) (T := TX0) (N := 9) hx hb hts hi_X0_pullFreeInTruth_0 hown hK hP 3 rfl rfl 6 (by decide) (hts (.fieldLink RX0 38 "TheLiningsInIt$Jacket" "seconds" "I") (List.mem_of_getElem? (i := 2) rfl)) (fun _ h9 => h9) rfl dX0_pullFreeInTruth_23 ?_
        skip
        refine zw_V (As := [.int 2, .int v_2, .int v_4]) (rest := [.ref j0]) (wr := [(j0, .inr (0, [.ref z0, .ref jp, .ref jc, .int cn, .int v_2, .int v_3, .int v_4, .int hu, .int v_5])), (jp, .inl (cP, 8, .inr (.inr (.inr (.inr fp)))))]) ⟨hx, hb, hml, hown, hts⟩ (c_F_W_next_2 l D cI cJ cZ cP cS po w0 wk wl wc wp (wn) (wh) (wg) fq kf af tf (tw) g_1 (v_2) (v_4) hy0 hy1 hy2 hy3 hy4 hy5 hjw (by first | assumption | omega) (by first | assumption | omega) hbv_2.1 hbv_2.2 hbv_4.1 hbv_4.2 H.size) (cwV 3 hts gX0_pullFreeInTruth_X5_next rfl rfl rfl ⟨rfl, dh_X5_next⟩ ⟨Nat.le_of_ble_eq_true rfl, Nat.le_of_ble_eq_true rfl⟩) hK hN (hZ.kept hS) hP hD hS hA [0, 1, 2] [3, 4] rfl rfl (by decide) (by decide) (by decide) (va_recv (q := (RX5, TX5, 7)) hK hP (ci := 5) (q0 := 0) rfl rfl) rfl hl.1 rfl (Nat.le_of_ble_eq_true rfl) dX0_pullFreeInTruth_26 ⟨Nat.le_of_ble_eq_true rfl, Nat.le_of_ble_eq_true rfl⟩ (fun r_9 u_10 H locs hr_9 hP hD hS => ?_)
        obtain ⟨q_11, rfl⟩ : ∃ z, z = u_10 := ⟨_, rfl⟩
        obtain ⟨hsr_9_0, hsr_9_1, hr_9⟩ := hr_9
        have h9R := zRe (ws' := [(j0, .inr (0, [.ref z0, .ref jp, .ref jc, .int cn, .int v_2, .int v_3, .int v_4, .int hu, .int v_5])), (jp, .inl (cP, 8, .inr (.inr (.inr (.inr fp))))), (w0, .inr (5, [.ref wk, .ref wl, .ref wc, .ref wp, .int wn, .int wh, .int wg])), (wk, .inl (cI, 125, .inl q_11)), (wp, .inl (cP, 8, .inr (.inr (.inr (.inr fq)))))]) hP hD rfl
        clear hP hD
        obtain ⟨hP, hD⟩ := h9R
        obtain ⟨g_12, g_13⟩ := hr_9
        have zxr_9 : r_9.toInt = zNq kf af tf cn.toInt.toNat hu.toInt 2 v_2.toInt v_4.toInt := by (have z := hsr_9_1; unfold zNq; rw [if_neg (by decide), show ((2 : Int) - 1).toNat = 1 from by decide, show cn.toInt.toNat = wn.toInt.toNat from by omega, show hu.toInt = wh.toInt from by omega, ← htw]; exact z)
        have zgr_9 := zNq_rg (K := kf) (A := af) (T := tf) (N := cn.toInt.toNat) (h := hu.toInt) (n := 2) (d := v_2.toInt) (s := v_4.toInt)
        rw [← zxr_9] at zgr_9
        refine zc_Vq (As := [.int r_9]) (rest := []) ⟨hx, hb, hml, hown, hts⟩ (c_F_J_pullAt l D cI cJ cZ cP cS po j0 jp jc z0 0 0 (cn) (v_2) (v_3) (v_4) (hu) (v_5) fp kf af tf (r_9) hy6 hy7 hbv_2.1 hbv_2.2 hy10 hy11 hjp) (cwV 1 hts gX0_pullFreeInTruth_X0_pullAt rfl rfl rfl ⟨rfl, dh_X0_pullAt⟩ ⟨Nat.le_of_ble_eq_true rfl, Nat.le_of_ble_eq_true rfl⟩) hK hN (hZ.kept hS) hP (hP.sub [0, 1] rfl) (va_recv (q := (RX0, TX0, 9)) hK hP (ci := 0) (q0 := 0) rfl rfl) rfl hl.1 rfl (Nat.le_of_ble_eq_true rfl) dX0_pullFreeInTruth_29 ⟨Nat.le_of_ble_eq_true rfl, Nat.le_of_ble_eq_true rfl⟩ (fun r_14 hr_14 => ?_)
        rcases hr_14 with ⟨rfl, g_15⟩ | ⟨rfl, g_16, g_17⟩ | ⟨⟨u_19, kiu_19, au_19, tu_19, rfl, huu_19, hkku_19⟩, g_18⟩
        · refine lv_astore_nN (lv' := [(3, .null), (2, .int i_2), (0, .ref j0), (1, .ref w0)]) hx hb dX0_pullFreeInTruth_32 rfl hl (by decide) rfl (fun ls hl => ?_)
          refine lv_aload_nN hx hb dX0_pullFreeInTruth_33 rfl (lv_at hl 0 rfl) ?_
          refine lv_ifnonnullN hx hb dX0_pullFreeInTruth_34 ?_
          exact W.vret hx hb hr (fun t ht hW => ⟨⟨(v_2, v_3, v_4, v_5, q_11), rfl, ⟨(show 0 ≤ v_2.toInt ∧ v_2.toInt ≤ 24 from hbv_2), (show zPf kf af tf cn.toInt.toNat hu.toInt 12 (de.toInt, se.toInt, tr, sd) = (v_2.toInt, v_4.toInt, v_3, v_5) from by (rw [hvi_2_0]; exact zPf_stop (Or.inr (by dsimp only; rw [← zxr_9]; omega)) _)), (show zKm kf af tf wn.toInt.toNat wh.toInt tw.toInt wg.toInt q_11 from by exact hsr_9_0), (show 0 ≤ v_4.toInt ∧ v_4.toInt ≤ 300 from by exact ⟨by omega, by omega⟩), trivial⟩, zRet ht hP hD [2, 3, 4, 0, 1] (by decide) rfl⟩, hS.F ht⟩) hS.2.2 dX0_pullFreeInTruth_37
        · refine lv_astore_nN (lv' := [(3, .null), (2, .int i_2), (0, .ref j0), (1, .ref w0)]) hx hb dX0_pullFreeInTruth_32 rfl hl (by decide) rfl (fun ls hl => ?_)
          refine lv_aload_nN hx hb dX0_pullFreeInTruth_33 rfl (lv_at hl 0 rfl) ?_
          refine lv_ifnonnullN hx hb dX0_pullFreeInTruth_34 ?_
          exact W.vret hx hb hr (fun t ht hW => ⟨⟨(v_2, v_3, v_4, v_5, q_11), rfl, ⟨(show 0 ≤ v_2.toInt ∧ v_2.toInt ≤ 24 from hbv_2), (show zPf kf af tf cn.toInt.toNat hu.toInt 12 (de.toInt, se.toInt, tr, sd) = (v_2.toInt, v_4.toInt, v_3, v_5) from by (rw [hvi_2_0]; exact zPf_stop (Or.inr (by dsimp only; rw [← zxr_9]; omega)) _)), (show zKm kf af tf wn.toInt.toNat wh.toInt tw.toInt wg.toInt q_11 from by exact hsr_9_0), (show 0 ≤ v_4.toInt ∧ v_4.toInt ≤ 300 from by exact ⟨by omega, by omega⟩), trivial⟩, zRet ht hP hD [2, 3, 4, 0, 1] (by decide) rfl⟩, hS.F ht⟩) hS.2.2 dX0_pullFreeInTruth_37
        · refine W.eq (g2 := F0 m 32 ls (.ref u_19 :: [])) rfl ?_
          obtain ⟨hku_19, hau_19, htu_19⟩ := zPu_pr (hZ.kept hS) huu_19
          refine lv_astore_n (lv' := [(3, .ref u_19), (2, .int i_2), (0, .ref j0), (1, .ref w0)]) hx hb dX0_pullFreeInTruth_32 rfl hl (by decide) rfl (fun ls hl => ?_)
          refine lv_aload_n hx hb dX0_pullFreeInTruth_33 rfl (lv_at hl 0 rfl) ?_
          refine lv_ifnonnull (tgt := 38) hx hb dX0_pullFreeInTruth_34 (by decide) ?_
          obtain ⟨⟨yau_19, ybu_19, ycu_19⟩, ydu_19, yeu_19⟩ := hkku_19
          have y9u_19 : r_9.toNatClampNeg = r_9.toInt.toNat := rfl
          rw [y9u_19] at yau_19 ybu_19 ycu_19
          have yfu_19 : tu_19.toInt ≤ v_4.toInt := by (rcases zgr_9 with z | z; (omega); (rw [ycu_19]; exact z.2.2.2))
          refine lv_aload_n hx hb dX0_pullFreeInTruth_38 rfl (lv_at hl 2 rfl) ?_
          refine lv_aload_n hx hb dX0_pullFreeInTruth_39 rfl (lv_at hl 0 rfl) ?_
          skip
          refine zw_Vv (As := [.ref u_19]) (rest := []) (wr := [(jp, .inl (cP, 8, .inr (.inr (.inr (.inr fp))))), (w0, .inr (5, [.ref wk, .ref wl, .ref wc, .ref wp, .int wn, .int wh, .int wg])), (wk, .inl (cI, 125, .inl q_11)), (wp, .inl (cP, 8, .inr (.inr (.inr (.inr fq)))))]) ⟨hx, hb, hml, hown, hts⟩ (c_F_J_pullInTruth l D cI cJ cZ cP cS po j0 jp jc z0 0 0 (cn) (v_2) (v_3) (v_4) (hu) (v_5) u_19 (kiu_19) (au_19) (tu_19) huu_19 ⟨by omega, by omega, by omega, by omega⟩ hy6 hy7 hbv_2.1 hbv_2.2 hy10 hy11 hbv_4.1 hbv_4.2 (by omega) H.size) (cwV 1 hts gX0_pullFreeInTruth_X0_pullInTruth rfl rfl rfl ⟨rfl, dh_X0_pullInTruth⟩ ⟨Nat.le_of_ble_eq_true rfl, Nat.le_of_ble_eq_true rfl⟩) hK hN (hZ.kept hS) hP hD hS hA [0] [1, 2, 3, 4] rfl rfl (by decide) (by decide) (by decide) (va_recv (q := (RX0, TX0, 9)) hK hP (ci := 0) (q0 := 0) rfl rfl) rfl hl.1 rfl (Nat.le_of_ble_eq_true rfl) dX0_pullFreeInTruth_40 ⟨Nat.le_of_ble_eq_true rfl, Nat.le_of_ble_eq_true rfl⟩ (fun u_21 H locs hr_20 hP hD hS => ?_)
          obtain ⟨q_22, q_23, q_24, q_25⟩ := u_21
          try dsimp only at hr_20
          obtain ⟨hbq_22, hsr_20_0, hsr_20_1, hr_20⟩ := hr_20
          have h9R := zRe (ws' := [(jp, .inl (cP, 8, .inr (.inr (.inr (.inr fp))))), (w0, .inr (5, [.ref wk, .ref wl, .ref wc, .ref wp, .int wn, .int wh, .int wg])), (wk, .inl (cI, 125, .inl q_11)), (wp, .inl (cP, 8, .inr (.inr (.inr (.inr fq))))), (j0, .inr (0, [.ref z0, .ref jp, .ref jc, .int cn, .int q_22, .int q_23, .int q_24, .int hu, .int q_25]))]) hP hD rfl
          clear hP hD
          obtain ⟨hP, hD⟩ := h9R
          obtain ⟨x_26, ex_26⟩ : ∃ y : Int32, y = i_2 + 1 := ⟨_, rfl⟩
          have qx_26 : x_26.toInt = i_2.toInt + 1 := dw_incK ex_26 fc_7 (by decide)
          refine lv_iinc (v := x_26) (lv' := [(2, .int x_26), (3, .ref u_19), (0, .ref j0), (1, .ref w0)]) hx hb dX0_pullFreeInTruth_43 hl (k := 1) rfl ex_26.symm (by decide) rfl (fun ls hl => ?_)
          refine lv_goto (tgt := 2) hx hb dX0_pullFreeInTruth_46 (by decide) ?_
          exact ih x_26 (q_25) (q_24) (q_23) (q_22) (q_11) _ _ _ (hP.sub [1, 2, 3, 4, 0] rfl) (hD.sub [1, 2, 3, 4, 0] (by decide) rfl) hS (lv_sub hl [0, 2, 3] rfl) hbq_22 ⟨by omega, by omega⟩ (show zPf kf af tf cn.toInt.toNat hu.toInt 12 (de.toInt, se.toInt, tr, sd) = zPf kf af tf cn.toInt.toNat hu.toInt (12 - x_26.toInt).toNat ((q_22 : Int32).toInt, (q_24 : Int32).toInt, (q_23 : Int32), (q_25 : Int32)) from by (rw [hvi_2_0, show (12 - i_2.toInt).toNat = (12 - x_26.toInt).toNat + 1 from by omega, zPf_s, if_neg (by dsimp only; rw [← zxr_9]; omega)]; dsimp only; rw [← zxr_9, ← yau_19, ← ybu_19, ← ycu_19, hsr_20_0])) (show zKm kf af tf wn.toInt.toNat wh.toInt tw.toInt wg.toInt q_11 from by exact hsr_9_0) (show x_26.toInt ≤ 12 from by omega) (dw_lo hloi_2 qx_26) (dw_hn hni_2 qx_26)
set_option maxHeartbeats 4000000 in
set_option maxRecDepth 100000 in
theorem c_F_J_dayInTruth (l : Launch) (D : va_G) (cI cJ cZ cP cS : ClassId) (po : zPool) (w0 wk wl wc wp : Nat) (wn wh wg : Int32) (j0 jp jc z0 zl zs : Nat) (cn de tr se hu sd : Int32) (sz at_ gp : Int32) (fl fs : Nat → Int32) (fp fq : Nat → Option Nat) (kf af tf : Nat → Int32) (tw : Int32) (fk : Nat → Int32) (hy0 : 0 ≤ wn.toInt) (hy1 : wn.toInt ≤ 8) (hy2 : 0 ≤ wh.toInt) (hy3 : wh.toInt ≤ 9) (hy4 : 0 ≤ wg.toInt) (hy5 : wg.toInt ≤ 60) (hy6 : 0 ≤ cn.toInt) (hy7 : cn.toInt ≤ 8) (hy8 : 0 ≤ de.toInt) (hy9 : de.toInt ≤ 24) (hy10 : 0 ≤ hu.toInt) (hy11 : hu.toInt ≤ 9) (hy12 : 4 ≤ sz.toInt) (hy13 : sz.toInt ≤ 40) (hy14 : 0 ≤ at_.toInt) (hy15 : at_.toInt ≤ 40) (hy16 : 1 ≤ gp.toInt) (hy17 : gp.toInt ≤ 9) (hjw : zJW po fq wn kf af tf tw) (hkm : zKm kf af tf wn.toInt.toNat wh.toInt tw.toInt wg.toInt fk) (hgl : (∀ p : Nat, p < wn.toInt.toNat → (tw.toInt ≠ 0 ∨ (kf p).toInt ≠ 5) → (tf p).toInt ≤ wg.toInt)) (hy21 : wn.toInt = cn.toInt) (hy22 : wh.toInt = hu.toInt) (htw : tw.toInt = 1) (hjp : zJP po fp cn kf af tf) (hp_fl : zRg fl (0) 1) (hp_fs : zRg fs (0) 9) (hpz : Nat) : Met l yX0_dayInTruth wsX0_dayInTruth ({ frames := 7, cells := 0, slots := 0, locals := 177 }) (va_Pc [.ref j0, .ref w0] (zW D (zKT cI cJ cZ cP cS) po [(w0, .inr (5, [.ref wk, .ref wl, .ref wc, .ref wp, .int wn, .int wh, .int wg])), (wk, .inl (cI, 125, .inl fk)), (wp, .inl (cP, 8, .inr (.inr (.inr (.inr fq))))), (j0, .inr (0, [.ref z0, .ref jp, .ref jc, .int cn, .int de, .int tr, .int se, .int hu, .int sd])), (jp, .inl (cP, 8, .inr (.inr (.inr (.inr fp))))), (z0, .inr (6, [.ref zl, .ref zs, .int sz, .int at_, .int gp])), (zl, .inl (cZ, 40, .inl fl)), (zs, .inl (cI, 40, .inl fs))] hpz)) (va_Qi (fun (r : Int32) (u : (Int32) × (Int32) × (Int32) × (Int32) × (Int32) × (Nat → Int32)) => (0 ≤ u.1.toInt ∧ u.1.toInt ≤ 24) ∧ (0 ≤ u.2.2.2.2.1.toInt ∧ u.2.2.2.2.1.toInt ≤ 40) ∧ (zDy fl fs gp.toInt sz.toInt kf af tf cn.toInt.toNat hu.toInt 3 0 0 60 tr sd = (r.toInt, u.2.2.2.2.1.toInt, u.1.toInt, u.2.2.1.toInt, u.2.1, u.2.2.2.1)) ∧ (zKm kf af tf wn.toInt.toNat wh.toInt tw.toInt wg.toInt u.2.2.2.2.2) ∧ ((u.2.2.2.2.1.toInt ≤ sz.toInt) ∧ 0 ≤ u.2.2.1.toInt ∧ u.2.2.1.toInt ≤ 300) ∧ (0 ≤ r.toInt ∧ r.toInt ≤ 1)) (zB D [(w0, .inr (5, [.ref wk, .ref wl, .ref wc, .ref wp, .int wn, .int wh, .int wg])), (wk, .inl (cI, 125, .inl fk)), (wp, .inl (cP, 8, .inr (.inr (.inr (.inr fq))))), (j0, .inr (0, [.ref z0, .ref jp, .ref jc, .int cn, .int de, .int tr, .int se, .int hu, .int sd])), (jp, .inl (cP, 8, .inr (.inr (.inr (.inr fp))))), (z0, .inr (6, [.ref zl, .ref zs, .int sz, .int at_, .int gp])), (zl, .inl (cZ, 40, .inl fl)), (zs, .inl (cI, 40, .inl fs))] hpz (fun (u : (Int32) × (Int32) × (Int32) × (Int32) × (Int32) × (Nat → Int32)) => [(w0, .inr (5, [.ref wk, .ref wl, .ref wc, .ref wp, .int wn, .int wh, .int wg])), (wk, .inl (cI, 125, .inl u.2.2.2.2.2)), (wp, .inl (cP, 8, .inr (.inr (.inr (.inr fq))))), (j0, .inr (0, [.ref z0, .ref jp, .ref jc, .int cn, .int u.1, .int u.2.1, .int u.2.2.1, .int hu, .int u.2.2.2.1])), (jp, .inl (cP, 8, .inr (.inr (.inr (.inr fp))))), (z0, .inr (6, [.ref zl, .ref zs, .int sz, .int u.2.2.2.2.1, .int gp])), (zl, .inl (cZ, 40, .inl fl)), (zs, .inl (cI, 40, .inl fs))])) (va_A [(w0, .inr (5, [.ref wk, .ref wl, .ref wc, .ref wp, .int wn, .int wh, .int wg])), (wk, .inl (cI, 125, .inl fk)), (wp, .inl (cP, 8, .inr (.inr (.inr (.inr fq))))), (j0, .inr (0, [.ref z0, .ref jp, .ref jc, .int cn, .int de, .int tr, .int se, .int hu, .int sd])), (jp, .inl (cP, 8, .inr (.inr (.inr (.inr fp))))), (z0, .inr (6, [.ref zl, .ref zs, .int sz, .int at_, .int gp])), (zl, .inl (cZ, 40, .inl fl)), (zs, .inl (cI, 40, .inl fs))] hpz)) 0 0 (va_A [(w0, .inr (5, [.ref wk, .ref wl, .ref wc, .ref wp, .int wn, .int wh, .int wg])), (wk, .inl (cI, 125, .inl fk)), (wp, .inl (cP, 8, .inr (.inr (.inr (.inr fq))))), (j0, .inr (0, [.ref z0, .ref jp, .ref jc, .int cn, .int de, .int tr, .int se, .int hu, .int sd])), (jp, .inl (cP, 8, .inr (.inr (.inr (.inr fp))))), (z0, .inr (6, [.ref zl, .ref zs, .int sz, .int at_, .int gp])), (zl, .inl (cZ, 40, .inl fl)), (zs, .inl (cI, 40, .inl fs))] hpz) := by
  refine Met.ofW (cc := cX0_dayInTruth) (maxL := 3) (ret := (some .boolean)) (by decide) rfl ?_
  intro p e s m args below meth c s₁ B hml hv
  obtain ⟨rfl, hsz, hP, hK, hD0, hN, hZ⟩ := hv
  have hx := B.exec
  have hb := B.bytes
  have hr := B.returns
  have hts := atoms_spec (ws := wsX0_dayInTruth) B.pre
  have hown : s.vm.findClass RX0 = some m.cls := findClass_of_methodNamed B.named
  have hlocks := B.notSynchronized
  subst hsz
  have hD := hD0.self (sz := s.heap.size)
  have hA := zA_of hD
  have hl := lv_entry ([.ref j0, .ref w0]) (n := 3) (Nat.le_of_ble_eq_true rfl)
  rw [lg_entry_eq]
  generalize (lg_sl ([.ref j0, .ref w0]) ++ List.replicate (3 - (lg_sl ([.ref j0, .ref w0])).length) Slot.unset).toArray = ls at hl ⊢
  replace hl : lv_has ls 3 [(0, .ref j0), (1, .ref w0)] := hl
  refine zw_begin hP hD (fun H locs hP1 hS => ?_)
  clear hP
  have hP := hP1
  clear hP1
  refine lv_aload_n hx hb dX0_dayInTruth_0 rfl (lv_at hl 0 rfl) ?_
  refine va_get (D := D) (ci := 0) (v := .ref z0) (C := RX0) (T := TX0) (N := 9) hx hb hts hi_X0_dayInTruth_0 hown hK hP 3 rfl rfl 0 (by decide) (hts (.fieldLink RX0 12 "TheLiningsInIt$Jacket" "zip" "LTheLiningsInIt$Zip;") (List.mem_of_getElem? (i := 1) rfl)) (fun _ h9 => h9) rfl dX0_dayInTruth_1 ?_
  refine lv_iconst (v := 0) hx hb dX0_dayInTruth_4 (by decide) ?_
  refine va_put (D := D) (ci := 6) (v := .int 0) (ty := .int) (C := RX6) (T := TX6) (N := 5) hx hb hts hi_X0_dayInTruth_6 tyX6 tyX6_ok nmX6 hown hK hP hD hS 5 rfl rfl 3 (by decide) (hts (.fieldLink RX0 63 "TheLiningsInIt$Zip" "at" "I") (List.mem_of_getElem? (i := 2) rfl)) (fun _ h9 => h9) rfl (tyX6_ok 3 (Nat.le_of_ble_eq_true rfl)) rfl rfl (Nat.le_of_ble_eq_true rfl) dX0_dayInTruth_5 (fun H locs hP hD hS => ?_)
  have h9R := zRe (ws' := [(w0, .inr (5, [.ref wk, .ref wl, .ref wc, .ref wp, .int wn, .int wh, .int wg])), (wk, .inl (cI, 125, .inl fk)), (wp, .inl (cP, 8, .inr (.inr (.inr (.inr fq))))), (j0, .inr (0, [.ref z0, .ref jp, .ref jc, .int cn, .int de, .int tr, .int se, .int hu, .int sd])), (jp, .inl (cP, 8, .inr (.inr (.inr (.inr fp))))), (z0, .inr (6, [.ref zl, .ref zs, .int sz, .int 0, .int gp])), (zl, .inl (cZ, 40, .inl fl)), (zs, .inl (cI, 40, .inl fs))]) hP hD rfl
  clear hP hD
  obtain ⟨hP, hD⟩ := h9R
  refine lv_aload_n hx hb dX0_dayInTruth_8 rfl (lv_at hl 0 rfl) ?_
  refine lv_iconst (v := 0) hx hb dX0_dayInTruth_9 (by decide) ?_
  refine va_put (D := D) (ci := 0) (v := .int 0) (ty := .int) (C := RX0) (T := TX0) (N := 9) hx hb hts hi_X0_dayInTruth_0 tyX0 tyX0_ok nmX0 hown hK hP hD hS 3 rfl rfl 4 (by decide) (hts (.fieldLink RX0 32 "TheLiningsInIt$Jacket" "depth" "I") (List.mem_of_getElem? (i := 3) rfl)) (fun _ h9 => h9) rfl (tyX0_ok 4 (Nat.le_of_ble_eq_true rfl)) rfl rfl (Nat.le_of_ble_eq_true rfl) dX0_dayInTruth_10 (fun H locs hP hD hS => ?_)
  have h9R := zRe (ws' := [(w0, .inr (5, [.ref wk, .ref wl, .ref wc, .ref wp, .int wn, .int wh, .int wg])), (wk, .inl (cI, 125, .inl fk)), (wp, .inl (cP, 8, .inr (.inr (.inr (.inr fq))))), (j0, .inr (0, [.ref z0, .ref jp, .ref jc, .int cn, .int 0, .int tr, .int se, .int hu, .int sd])), (jp, .inl (cP, 8, .inr (.inr (.inr (.inr fp))))), (z0, .inr (6, [.ref zl, .ref zs, .int sz, .int 0, .int gp])), (zl, .inl (cZ, 40, .inl fl)), (zs, .inl (cI, 40, .inl fs))]) hP hD rfl
  clear hP hD
  obtain ⟨hP, hD⟩ := h9R
  refine lv_aload_n hx hb dX0_dayInTruth_13 rfl (lv_at hl 0 rfl) ?_
  refine lv_bipush (v := 60) hx hb dX0_dayInTruth_14 (by decide) ?_
  refine va_put (D := D) (ci := 0) (v := .int 60) (ty := .int) (C := RX0) (T := TX0) (N := 9) hx hb hts hi_X0_dayInTruth_0 tyX0 tyX0_ok nmX0 hown hK hP hD hS 3 rfl rfl 6 (by decide) (hts (.fieldLink RX0 38 "TheLiningsInIt$Jacket" "seconds" "I") (List.mem_of_getElem? (i := 4) rfl)) (fun _ h9 => h9) rfl (tyX0_ok 6 (Nat.le_of_ble_eq_true rfl)) rfl rfl (Nat.le_of_ble_eq_true rfl) dX0_dayInTruth_16 (fun H locs hP hD hS => ?_)
  have h9R := zRe (ws' := [(w0, .inr (5, [.ref wk, .ref wl, .ref wc, .ref wp, .int wn, .int wh, .int wg])), (wk, .inl (cI, 125, .inl fk)), (wp, .inl (cP, 8, .inr (.inr (.inr (.inr fq))))), (j0, .inr (0, [.ref z0, .ref jp, .ref jc, .int cn, .int 0, .int tr, .int 60, .int hu, .int sd])), (jp, .inl (cP, 8, .inr (.inr (.inr (.inr fp))))), (z0, .inr (6, [.ref zl, .ref zs, .int sz, .int 0, .int gp])), (zl, .inl (cZ, 40, .inl fl)), (zs, .inl (cI, 40, .inl fs))]) hP hD rfl
  clear hP hD
  obtain ⟨hP, hD⟩ := h9R
  refine lv_iconst (v := 0) hx hb dX0_dayInTruth_19 (by decide) ?_
  refine lv_istore_n (lv' := [(2, .int 0), (0, .ref j0), (1, .ref w0)]) hx hb dX0_dayInTruth_20 rfl hl (by decide) rfl (fun ls hl => ?_)
  obtain ⟨i_21, hi_21⟩ : ∃ i : Int32, i = 0 := ⟨_, rfl⟩
  replace hl : lv_has ls 3 [(2, .int i_21), (0, .ref j0), (1, .ref w0)] := by rw [hi_21]; exact lv_sub hl [0, 1, 2] rfl
  have h1i_21 : i_21.toInt = 0 := by rw [hi_21]; decide
  obtain ⟨nfu, hni_21⟩ : ∃ nq9 : Nat, 3 ≤ i_21.toInt + (nq9 : Int) := ⟨((3 : Int) - 0).toNat, by omega⟩
  have hloi_21 : 0 ≤ i_21.toInt := by omega
  obtain ⟨g_1, hg_1⟩ : ∃ g : Nat → Int32, g = fk := ⟨_, rfl⟩
  obtain ⟨v_2, hv_2⟩ : ∃ g : Int32, g = 0 := ⟨_, rfl⟩
  have hbv_2 : 0 ≤ v_2.toInt ∧ v_2.toInt ≤ 24 := by rw [hv_2]; exact ⟨by decide, by decide⟩
  obtain ⟨v_3, hv_3⟩ : ∃ g : Int32, g = tr := ⟨_, rfl⟩
  obtain ⟨v_4, hv_4⟩ : ∃ g : Int32, g = 60 := ⟨_, rfl⟩
  have hbv_4 : 0 ≤ v_4.toInt ∧ v_4.toInt ≤ 300 := by rw [hv_4]; exact ⟨by decide, by decide⟩
  obtain ⟨v_5, hv_5⟩ : ∃ g : Int32, g = sd := ⟨_, rfl⟩
  obtain ⟨v_6, hv_6⟩ : ∃ g : Int32, g = 0 := ⟨_, rfl⟩
  have hbv_6 : 0 ≤ v_6.toInt ∧ v_6.toInt ≤ 40 := by rw [hv_6]; exact ⟨by decide, by decide⟩
  replace hP : va_P D vwCl [(w0, .inr (5, [.ref wk, .ref wl, .ref wc, .ref wp, .int wn, .int wh, .int wg])), (wk, .inl (cI, 125, .inl g_1)), (wp, .inl (cP, 8, .inr (.inr (.inr (.inr fq))))), (j0, .inr (0, [.ref z0, .ref jp, .ref jc, .int cn, .int v_2, .int v_3, .int v_4, .int hu, .int v_5])), (jp, .inl (cP, 8, .inr (.inr (.inr (.inr fp))))), (z0, .inr (6, [.ref zl, .ref zs, .int sz, .int v_6, .int gp])), (zl, .inl (cZ, 40, .inl fl)), (zs, .inl (cI, 40, .inl fs))] H := by rw [hg_1, hv_2, hv_3, hv_4, hv_5, hv_6]; exact hP
  replace hD : va_D (va_A [(w0, .inr (5, [.ref wk, .ref wl, .ref wc, .ref wp, .int wn, .int wh, .int wg])), (wk, .inl (cI, 125, .inl fk)), (wp, .inl (cP, 8, .inr (.inr (.inr (.inr fq))))), (j0, .inr (0, [.ref z0, .ref jp, .ref jc, .int cn, .int de, .int tr, .int se, .int hu, .int sd])), (jp, .inl (cP, 8, .inr (.inr (.inr (.inr fp))))), (z0, .inr (6, [.ref zl, .ref zs, .int sz, .int at_, .int gp])), (zl, .inl (cZ, 40, .inl fl)), (zs, .inl (cI, 40, .inl fs))] s.heap.size) [(w0, .inr (5, [.ref wk, .ref wl, .ref wc, .ref wp, .int wn, .int wh, .int wg])), (wk, .inl (cI, 125, .inl g_1)), (wp, .inl (cP, 8, .inr (.inr (.inr (.inr fq))))), (j0, .inr (0, [.ref z0, .ref jp, .ref jc, .int cn, .int v_2, .int v_3, .int v_4, .int hu, .int v_5])), (jp, .inl (cP, 8, .inr (.inr (.inr (.inr fp))))), (z0, .inr (6, [.ref zl, .ref zs, .int sz, .int v_6, .int gp])), (zl, .inl (cZ, 40, .inl fl)), (zs, .inl (cI, 40, .inl fs))] := by rw [hg_1, hv_2, hv_3, hv_4, hv_5, hv_6]; exact hD
  have hvi_21_0 : zDy fl fs gp.toInt sz.toInt kf af tf cn.toInt.toNat hu.toInt 3 0 0 60 tr sd = zDy fl fs gp.toInt sz.toInt kf af tf cn.toInt.toNat hu.toInt (3 - i_21.toInt).toNat (v_6 : Int32).toInt (v_2 : Int32).toInt (v_4 : Int32).toInt (v_3 : Int32) (v_5 : Int32) := by
    (try rw [hi_21]); (try rw [hg_1]); (try rw [hv_2]); (try rw [hv_3]); (try rw [hv_4]); (try rw [hv_5]); (try rw [hv_6]); (rw [show (3 - (0 : Int32).toInt).toNat = 3 from by decide, show (0 : Int32).toInt = 0 from by decide, show (60 : Int32).toInt = 60 from by decide])
  have hvi_21_1 : zKm kf af tf wn.toInt.toNat wh.toInt tw.toInt wg.toInt g_1 := by
    (try rw [hi_21]); (try rw [hg_1]); (try rw [hv_2]); (try rw [hv_3]); (try rw [hv_4]); (try rw [hv_5]); (try rw [hv_6]); exact hkm
  have hvi_21_2 : i_21.toInt ≤ 3 ∧ (v_6 : Int32).toInt ≤ sz.toInt := by
    (try rw [hi_21]); (try rw [hg_1]); (try rw [hv_2]); (try rw [hv_3]); (try rw [hv_4]); (try rw [hv_5]); (try rw [hv_6]); (have k0 : (0 : Int32).toInt = 0 := (by decide); omega)
  clear h1i_21 hi_21 hg_1 hv_2 hv_3 hv_4 hv_5 hv_6
  skip
  revert hni_21
  revert hloi_21
  revert hvi_21_2
  revert hvi_21_1
  revert hvi_21_0
  revert hbv_6
  revert hbv_4
  revert hbv_2
  revert hl
  revert hS
  revert hD
  revert hP
  revert ls
  revert locs
  revert H
  revert g_1
  revert v_2
  revert v_3
  revert v_4
  revert v_5
  revert v_6
  revert i_21
  induction nfu with
  | zero =>
    intro i_21 v_6 v_5 v_4 v_3 v_2 g_1 H locs ls hP hD hS hl hbv_2 hbv_4 hbv_6 hvi_21_0 hvi_21_1 hvi_21_2 hloi_21 hni_21
    have hzi_21 : 3 ≤ i_21.toInt := by omega
    refine lv_iload_n hx hb dX0_dayInTruth_21 rfl (lv_at hl 0 rfl) ?_
    refine lv_iconst (v := 3) hx hb dX0_dayInTruth_22 (by decide) ?_
    refine lv_icmp_ge (tgt := 67) hx hb dX0_dayInTruth_23 (by decide) (fun c_7 => ?_) (fun c_7 => ?_)
    · have fc_7 : 3 ≤ i_21.toInt := zf_le c_7 (by decide) rfl
      refine lv_iconst (v := 0) hx hb dX0_dayInTruth_67 (by decide) ?_
      exact W.zret (v := 0) hx hb hr (by decide) (fun t ht hW => ⟨⟨0, (v_2, v_3, v_4, v_5, v_6, g_1), rfl, ⟨(show 0 ≤ v_2.toInt ∧ v_2.toInt ≤ 24 from hbv_2), (show 0 ≤ v_6.toInt ∧ v_6.toInt ≤ 40 from hbv_6), (show zDy fl fs gp.toInt sz.toInt kf af tf cn.toInt.toNat hu.toInt 3 0 0 60 tr sd = ((0 : Int32).toInt, v_6.toInt, v_2.toInt, v_4.toInt, v_3, v_5) from by (rw [hvi_21_0]; first | (exact zDy_out (by omega)) | (rw [show (3 - i_21.toInt).toNat = 0 from by omega]; rfl))), (show zKm kf af tf wn.toInt.toNat wh.toInt tw.toInt wg.toInt g_1 from by exact hvi_21_1), (show (v_6.toInt ≤ sz.toInt) ∧ 0 ≤ v_4.toInt ∧ v_4.toInt ≤ 300 from by exact ⟨by omega, by omega, by omega⟩), ⟨by decide, by decide⟩⟩, zRet ht hP hD [0, 1, 2, 3, 4, 5, 6, 7] (by decide) rfl⟩, hS.F ht⟩) hS.2.2 dX0_dayInTruth_68
    · exfalso; have fc_7 : i_21.toInt < 3 := zf_nle c_7 (by decide) rfl; omega
  | succ nfu ih =>
    intro i_21 v_6 v_5 v_4 v_3 v_2 g_1 H locs ls hP hD hS hl hbv_2 hbv_4 hbv_6 hvi_21_0 hvi_21_1 hvi_21_2 hloi_21 hni_21
    refine lv_iload_n hx hb dX0_dayInTruth_21 rfl (lv_at hl 0 rfl) ?_
    refine lv_iconst (v := 3) hx hb dX0_dayInTruth_22 (by decide) ?_
    refine lv_icmp_ge (tgt := 67) hx hb dX0_dayInTruth_23 (by decide) (fun c_8 => ?_) (fun c_8 => ?_)
    · have fc_8 : 3 ≤ i_21.toInt := zf_le c_8 (by decide) rfl
      refine lv_iconst (v := 0) hx hb dX0_dayInTruth_67 (by decide) ?_
      exact W.zret (v := 0) hx hb hr (by decide) (fun t ht hW => ⟨⟨0, (v_2, v_3, v_4, v_5, v_6, g_1), rfl, ⟨(show 0 ≤ v_2.toInt ∧ v_2.toInt ≤ 24 from hbv_2), (show 0 ≤ v_6.toInt ∧ v_6.toInt ≤ 40 from hbv_6), (show zDy fl fs gp.toInt sz.toInt kf af tf cn.toInt.toNat hu.toInt 3 0 0 60 tr sd = ((0 : Int32).toInt, v_6.toInt, v_2.toInt, v_4.toInt, v_3, v_5) from by (rw [hvi_21_0]; first | (exact zDy_out (by omega)) | (rw [show (3 - i_21.toInt).toNat = 0 from by omega]; rfl))), (show zKm kf af tf wn.toInt.toNat wh.toInt tw.toInt wg.toInt g_1 from by exact hvi_21_1), (show (v_6.toInt ≤ sz.toInt) ∧ 0 ≤ v_4.toInt ∧ v_4.toInt ≤ 300 from by exact ⟨by omega, by omega, by omega⟩), ⟨by decide, by decide⟩⟩, zRet ht hP hD [0, 1, 2, 3, 4, 5, 6, 7] (by decide) rfl⟩, hS.F ht⟩) hS.2.2 dX0_dayInTruth_68
    · have fc_8 : i_21.toInt < 3 := zf_nle c_8 (by decide) rfl
      refine lv_aload_n hx hb dX0_dayInTruth_26 rfl (lv_at hl 1 rfl) ?_
      refine va_get (D := D) (ci := 0) (v := .int v_2) (C := RX0) (T := TX0) (N := 9) hx hb hts hi_X0_dayInTruth_0 hown hK hP 3 rfl rfl 4 (by decide) (hts (.fieldLink RX0 32 "TheLiningsInIt$Jacket" "depth" "I") (List.mem_of_getElem? (i := 3) rfl)) (fun _ h9 => h9) rfl dX0_dayInTruth_27 ?_
      refine lv_if_ne (tgt := 67) hx hb dX0_dayInTruth_30 (by decide) (fun c_9 => ?_) (fun c_9 => ?_)
      · have fc_9 : v_2.toInt ≠ 0 := zf_ne c_9 rfl (by decide)
        refine lv_iconst (v := 0) hx hb dX0_dayInTruth_67 (by decide) ?_
        exact W.zret (v := 0) hx hb hr (by decide) (fun t ht hW => ⟨⟨0, (v_2, v_3, v_4, v_5, v_6, g_1), rfl, ⟨(show 0 ≤ v_2.toInt ∧ v_2.toInt ≤ 24 from hbv_2), (show 0 ≤ v_6.toInt ∧ v_6.toInt ≤ 40 from hbv_6), (show zDy fl fs gp.toInt sz.toInt kf af tf cn.toInt.toNat hu.toInt 3 0 0 60 tr sd = ((0 : Int32).toInt, v_6.toInt, v_2.toInt, v_4.toInt, v_3, v_5) from by (rw [hvi_21_0]; first | (exact zDy_out (by omega)) | (rw [show (3 - i_21.toInt).toNat = 0 from by omega]; rfl))), (show zKm kf af tf wn.toInt.toNat wh.toInt tw.toInt wg.toInt g_1 from by exact hvi_21_1), (show (v_6.toInt ≤ sz.toInt) ∧ 0 ≤ v_4.toInt ∧ v_4.toInt ≤ 300 from by exact ⟨by omega, by omega, by omega⟩), ⟨by decide, by decide⟩⟩, zRet ht hP hD [0, 1, 2, 3, 4, 5, 6, 7] (by decide) rfl⟩, hS.F ht⟩) hS.2.2 dX0_dayInTruth_68
      · have fc_9 : v_2.toInt = 0 := zf_eq c_9 rfl (by decide)
        refine lv_aload_n hx hb dX0_dayInTruth_33 rfl (lv_at hl 1 rfl) ?_
        skip
        refine zw_Vv (As := []) (rest := []) (wr := [(w0, .inr (5, [.ref wk, .ref wl, .ref wc, .ref wp, .int wn, .int wh, .int wg])), (wk, .inl (cI, 125, .inl g_1)), (wp, .inl (cP, 8, .inr (.inr (.inr (.inr fq))))), (jp, .inl (cP, 8, .inr (.inr (.inr (.inr fp)))))]) ⟨hx, hb, hml, hown, hts⟩ (c_F_J_closeInTruth l D cI cJ cZ cP cS po j0 jp jc z0 zl zs (cn) (v_2) (v_3) (v_4) (hu) (v_5) (sz) (v_6) (gp) fl fs hy6 hy7 hbv_2.1 hbv_2.2 hy10 hy11 hy12 hy13 hbv_6.1 hbv_6.2 hy16 hy17 (by omega) hp_fl hp_fs H.size) (cwV 0 hts gX0_dayInTruth_X0_closeInTruth rfl rfl rfl ⟨rfl, dh_X0_closeInTruth⟩ ⟨Nat.le_of_ble_eq_true rfl, Nat.le_of_ble_eq_true rfl⟩) hK hN (hZ.kept hS) hP hD hS hA [3, 5, 6, 7] [0, 1, 2, 4] rfl rfl (by decide) (by decide) (by decide) (va_recv (q := (RX0, TX0, 9)) hK hP (ci := 0) (q0 := 3) rfl rfl) rfl hl.1 rfl (Nat.le_of_ble_eq_true rfl) dX0_dayInTruth_34 ⟨Nat.le_of_ble_eq_true rfl, Nat.le_of_ble_eq_true rfl⟩ (fun u_11 H locs hr_10 hP hD hS => ?_)
        obtain ⟨q_12, q_13, q_14⟩ := u_11
        try dsimp only at hr_10
        obtain ⟨hbq_12, hbq_14, hsr_10_0, hsr_10_1, hr_10⟩ := hr_10
        have h9R := zRe (ws' := [(w0, .inr (5, [.ref wk, .ref wl, .ref wc, .ref wp, .int wn, .int wh, .int wg])), (wk, .inl (cI, 125, .inl g_1)), (wp, .inl (cP, 8, .inr (.inr (.inr (.inr fq))))), (jp, .inl (cP, 8, .inr (.inr (.inr (.inr fp))))), (j0, .inr (0, [.ref z0, .ref jp, .ref jc, .int cn, .int q_12, .int v_3, .int v_4, .int hu, .int q_13])), (z0, .inr (6, [.ref zl, .ref zs, .int sz, .int q_14, .int gp])), (zl, .inl (cZ, 40, .inl fl)), (zs, .inl (cI, 40, .inl fs))]) hP hD rfl
        clear hP hD
        obtain ⟨hP, hD⟩ := h9R
        refine lv_aload_n hx hb dX0_dayInTruth_37 rfl (lv_at hl 1 rfl) ?_
        refine va_get (D := D) (ci := 0) (v := .ref z0) (C := RX0) (T := TX0) (N := 9) hx hb hts hi_X0_dayInTruth_0 hown hK hP 4 rfl rfl 0 (by decide) (hts (.fieldLink RX0 12 "TheLiningsInIt$Jacket" "zip" "LTheLiningsInIt$Zip;") (List.mem_of_getElem? (i := 1) rfl)) (fun _ h9 => h9) rfl dX0_dayInTruth_38 ?_
        refine va_get (D := D) (ci := 6) (v := .int q_14) (C := RX6) (T := TX6) (N := 5) hx hb hts hi_X0_dayInTruth_6 hown hK hP 5 rfl rfl 3 (by decide) (hts (.fieldLink RX0 63 "TheLiningsInIt$Zip" "at" "I") (List.mem_of_getElem? (i := 2) rfl)) (fun _ h9 => h9) rfl dX0_dayInTruth_41 ?_
        refine lv_aload_n hx hb dX0_dayInTruth_44 rfl (lv_at hl 1 rfl) ?_
        refine va_get (D := D) (ci := 0) (v := .ref z0) (C := RX0) (T := TX0) (N := 9) hx hb hts hi_X0_dayInTruth_0 hown hK hP 4 rfl rfl 0 (by decide) (hts (.fieldLink RX0 12 "TheLiningsInIt$Jacket" "zip" "LTheLiningsInIt$Zip;") (List.mem_of_getElem? (i := 1) rfl)) (fun _ h9 => h9) rfl dX0_dayInTruth_45 ?_
        refine va_get (D := D) (ci := 6) (v := .int sz) (C := RX6) (T := TX6) (N := 5) hx hb hts hi_X0_dayInTruth_6 hown hK hP 5 rfl rfl 2 (by decide) (hts (.fieldLink RX0 57 "TheLiningsInIt$Zip" "size" "I") (List.mem_of_getElem? (i := 5) rfl)) (fun _ h9 => h9) rfl dX0_dayInTruth_48 ?_
        refine lv_icmp_ne (tgt := 56) hx hb dX0_dayInTruth_51 (by decide) (fun c_15 => ?_) (fun c_15 => ?_)
        · have fc_15 : q_14.toInt ≠ sz.toInt := zf_ne c_15 rfl rfl
          refine lv_aload_n hx hb dX0_dayInTruth_56 rfl (lv_at hl 1 rfl) ?_
          refine lv_aload_n hx hb dX0_dayInTruth_57 rfl (lv_at hl 2 rfl) ?_
          skip
          refine zw_Vv (As := [.ref w0]) (rest := []) (wr := [(z0, .inr (6, [.ref zl, .ref zs, .int sz, .int q_14, .int gp])), (zl, .inl (cZ, 40, .inl fl)), (zs, .inl (cI, 40, .inl fs))]) ⟨hx, hb, hml, hown, hts⟩ (c_F_J_pullFree l D cI cJ cZ cP cS po w0 wk wl wc wp (wn) (wh) (wg) j0 jp jc z0 0 0 (cn) (q_12) (v_3) (v_4) (hu) (q_13) fp fq kf af tf (tw) g_1 hy0 hy1 hy2 hy3 hy4 hy5 hy6 hy7 hbq_12.1 hbq_12.2 hy10 hy11 hjw (by first | assumption | omega) (by first | assumption | omega) (by omega) (by omega) (by first | assumption | omega | decide) hbv_4.1 hbv_4.2 hjp H.size) (cwV 1 hts gX0_dayInTruth_X0_pullFreeInTruth rfl rfl rfl ⟨rfl, dh_X0_pullFreeInTruth⟩ ⟨Nat.le_of_ble_eq_true rfl, Nat.le_of_ble_eq_true rfl⟩) hK hN (hZ.kept hS) hP hD hS hA [0, 1, 2, 4, 3] [5, 6, 7] rfl rfl (by decide) (by decide) (by decide) (va_recv (q := (RX0, TX0, 9)) hK hP (ci := 0) (q0 := 4) rfl rfl) rfl hl.1 rfl (Nat.le_of_ble_eq_true rfl) dX0_dayInTruth_58 ⟨Nat.le_of_ble_eq_true rfl, Nat.le_of_ble_eq_true rfl⟩ (fun u_17 H locs hr_16 hP hD hS => ?_)
          obtain ⟨q_18, q_19, q_20, q_21, q_22⟩ := u_17
          try dsimp only at hr_16
          obtain ⟨hbq_18, hsr_16_0, hsr_16_1, hsr_16_2, hr_16⟩ := hr_16
          have h9R := zRe (ws' := [(z0, .inr (6, [.ref zl, .ref zs, .int sz, .int q_14, .int gp])), (zl, .inl (cZ, 40, .inl fl)), (zs, .inl (cI, 40, .inl fs)), (w0, .inr (5, [.ref wk, .ref wl, .ref wc, .ref wp, .int wn, .int wh, .int wg])), (wk, .inl (cI, 125, .inl q_22)), (wp, .inl (cP, 8, .inr (.inr (.inr (.inr fq))))), (j0, .inr (0, [.ref z0, .ref jp, .ref jc, .int cn, .int q_18, .int q_19, .int q_20, .int hu, .int q_21])), (jp, .inl (cP, 8, .inr (.inr (.inr (.inr fp)))))]) hP hD rfl
          clear hP hD
          obtain ⟨hP, hD⟩ := h9R
          obtain ⟨x_23, ex_23⟩ : ∃ y : Int32, y = i_21 + 1 := ⟨_, rfl⟩
          have qx_23 : x_23.toInt = i_21.toInt + 1 := dw_incK ex_23 fc_8 (by decide)
          refine lv_iinc (v := x_23) (lv' := [(2, .int x_23), (0, .ref j0), (1, .ref w0)]) hx hb dX0_dayInTruth_61 hl (k := 0) rfl ex_23.symm (by decide) rfl (fun ls hl => ?_)
          refine lv_goto (tgt := 21) hx hb dX0_dayInTruth_64 (by decide) ?_
          exact ih x_23 (q_14) (q_21) (q_20) (q_19) (q_18) (q_22) _ _ _ (hP.sub [3, 4, 5, 6, 7, 0, 1, 2] rfl) (hD.sub [3, 4, 5, 6, 7, 0, 1, 2] (by decide) rfl) hS (lv_sub hl [0, 1, 2] rfl) hbq_18 ⟨by omega, by omega⟩ hbq_14 (show zDy fl fs gp.toInt sz.toInt kf af tf cn.toInt.toNat hu.toInt 3 0 0 60 tr sd = zDy fl fs gp.toInt sz.toInt kf af tf cn.toInt.toNat hu.toInt (3 - x_23.toInt).toNat (q_14 : Int32).toInt (q_18 : Int32).toInt (q_20 : Int32).toInt (q_19 : Int32) (q_21 : Int32) from by (rw [hvi_21_0, show (3 - i_21.toInt).toNat = (3 - x_23.toInt).toNat + 1 from by omega]; exact zDy_on (by omega) hsr_10_0 (by omega) hsr_16_0)) (show zKm kf af tf wn.toInt.toNat wh.toInt tw.toInt wg.toInt q_22 from by exact hsr_16_1) (show x_23.toInt ≤ 3 ∧ (q_14 : Int32).toInt ≤ sz.toInt from by exact ⟨by omega, by omega⟩) (dw_lo hloi_21 qx_23) (dw_hn hni_21 qx_23)
        · have fc_15 : q_14.toInt = sz.toInt := zf_eq c_15 rfl rfl
          refine lv_iconst (v := 1) hx hb dX0_dayInTruth_54 (by decide) ?_
          exact W.zret (v := 1) hx hb hr (by decide) (fun t ht hW => ⟨⟨1, (q_12, v_3, v_4, q_13, q_14, g_1), rfl, ⟨(show 0 ≤ q_12.toInt ∧ q_12.toInt ≤ 24 from hbq_12), (show 0 ≤ q_14.toInt ∧ q_14.toInt ≤ 40 from hbq_14), (show zDy fl fs gp.toInt sz.toInt kf af tf cn.toInt.toNat hu.toInt 3 0 0 60 tr sd = ((1 : Int32).toInt, q_14.toInt, q_12.toInt, v_4.toInt, v_3, q_13) from by (rw [hvi_21_0, show (3 - i_21.toInt).toNat = (2 - i_21.toInt).toNat + 1 from by omega]; exact zDy_top (by omega) hsr_10_0 (by omega))), (show zKm kf af tf wn.toInt.toNat wh.toInt tw.toInt wg.toInt g_1 from by exact hvi_21_1), (show (q_14.toInt ≤ sz.toInt) ∧ 0 ≤ v_4.toInt ∧ v_4.toInt ≤ 300 from by exact ⟨by omega, by omega, by omega⟩), ⟨by decide, by decide⟩⟩, zRet ht hP hD [0, 1, 2, 4, 3, 5, 6, 7] (by decide) rfl⟩, hS.F ht⟩) hS.2.2 dX0_dayInTruth_55
end
section
set_option maxHeartbeats 4000000 in
set_option maxRecDepth 100000 in
theorem c_F_X_cases (l : Launch) (D : va_G) (cI cJ cZ cP cS : ClassId) (po : zPool) (x0 xs j0 k0 w0 rd mv xr : Nat) (im lf : Int32) (fr : Nat → Int32) (j0 jp jc z0 zl zs : Nat) (cn de tr se hu sd : Int32) (wk wl wc wp : Nat) (wn wh wg : Int32) (fq : Nat → Option Nat) (fk fl fc fjc : Nat → Int32) (fp : Nat → Option Nat) (kf af tf : Nat → Int32) (n w : Int32) (hy0 : 0 ≤ im.toInt) (hy1 : im.toInt ≤ 1) (hy2 : (-1) ≤ lf.toInt) (hy3 : lf.toInt ≤ 160) (hy4 : 0 ≤ cn.toInt) (hy5 : cn.toInt ≤ 8) (hy6 : 0 ≤ de.toInt) (hy7 : de.toInt ≤ 24) (hy8 : 0 ≤ hu.toInt) (hy9 : hu.toInt ≤ 9) (hy10 : 0 ≤ wn.toInt) (hy11 : wn.toInt ≤ 8) (hy12 : 0 ≤ wh.toInt) (hy13 : wh.toInt ≤ 9) (hy14 : 0 ≤ wg.toInt) (hy15 : wg.toInt ≤ 60) (hwq : zWP po fq) (hjp : zJP po fp cn kf af tf) (hy18 : 0 ≤ se.toInt) (hy19 : se.toInt ≤ 300) (hp_fc : zRg fc (0) 99) (hp_fjc : zRg fjc (0) 99) (hpz : Nat) : Met l yX7_cases wsX7_cases ({ frames := 10, cells := 0, slots := 0, locals := 264 }) (va_Pc [.ref x0, .int n, .int w] (zW D (zKT cI cJ cZ cP cS) po [(x0, .inr (7, [.ref xs, .ref j0, .ref k0, .ref w0, .ref rd, .ref mv, .ref xr, .int im, .int lf])), (xr, .inl (cI, 8, .inl fr)), (j0, .inr (0, [.ref z0, .ref jp, .ref jc, .int cn, .int de, .int tr, .int se, .int hu, .int sd])), (w0, .inr (5, [.ref wk, .ref wl, .ref wc, .ref wp, .int wn, .int wh, .int wg])), (wk, .inl (cI, 125, .inl fk)), (wl, .inl (cI, 125, .inl fl)), (wc, .inl (cI, 3, .inl fc)), (wp, .inl (cP, 8, .inr (.inr (.inr (.inr fq))))), (jp, .inl (cP, 8, .inr (.inr (.inr (.inr fp))))), (jc, .inl (cI, 3, .inl fjc))] hpz)) (va_Qi (fun (r : Int32) (u : (Int32) × (Int32) × (Int32) × (Nat → Int32) × (Nat → Int32) × (Nat → Int32) × (Nat → Option Nat) × (Nat → Int32)) => (0 ≤ u.1.toInt ∧ u.1.toInt ≤ 8) ∧ (0 ≤ u.2.1.toInt ∧ u.2.1.toInt ≤ 9) ∧ (0 ≤ u.2.2.1.toInt ∧ u.2.2.1.toInt ≤ 60) ∧ zRg u.2.2.2.2.2.1 (0) 99 ∧ zWP po u.2.2.2.2.2.2.1 ∧ (((w.toInt < 0 ∨ 2 < w.toInt) ∧ r.toInt = -15) ∨ ((0 ≤ w.toInt ∧ w.toInt ≤ 2) ∧ (((n.toInt < 0 ∨ 4 < n.toInt) ∧ r.toInt = -16) ∨ ((0 ≤ n.toInt ∧ n.toInt ≤ 4) ∧ ((w.toInt = 1 ∧ r.toInt = zNq kf af tf cn.toInt.toNat hu.toInt n.toInt de.toInt se.toInt) ∨ (w.toInt ≠ 1 ∧ r.toInt = zM kf af tf cn.toInt.toNat hu.toInt (if w.toInt = 2 then 0 else 1) n.toInt.toNat de.toInt se.toInt)))))) ∧ (True)) (zB D [(x0, .inr (7, [.ref xs, .ref j0, .ref k0, .ref w0, .ref rd, .ref mv, .ref xr, .int im, .int lf])), (xr, .inl (cI, 8, .inl fr)), (j0, .inr (0, [.ref z0, .ref jp, .ref jc, .int cn, .int de, .int tr, .int se, .int hu, .int sd])), (w0, .inr (5, [.ref wk, .ref wl, .ref wc, .ref wp, .int wn, .int wh, .int wg])), (wk, .inl (cI, 125, .inl fk)), (wl, .inl (cI, 125, .inl fl)), (wc, .inl (cI, 3, .inl fc)), (wp, .inl (cP, 8, .inr (.inr (.inr (.inr fq))))), (jp, .inl (cP, 8, .inr (.inr (.inr (.inr fp))))), (jc, .inl (cI, 3, .inl fjc))] hpz (fun (u : (Int32) × (Int32) × (Int32) × (Nat → Int32) × (Nat → Int32) × (Nat → Int32) × (Nat → Option Nat) × (Nat → Int32)) => [(x0, .inr (7, [.ref xs, .ref j0, .ref k0, .ref w0, .ref rd, .ref mv, .ref xr, .int im, .int lf])), (xr, .inl (cI, 8, .inl u.2.2.2.2.2.2.2)), (j0, .inr (0, [.ref z0, .ref jp, .ref jc, .int cn, .int de, .int tr, .int se, .int hu, .int sd])), (w0, .inr (5, [.ref wk, .ref wl, .ref wc, .ref wp, .int u.1, .int u.2.1, .int u.2.2.1])), (wk, .inl (cI, 125, .inl u.2.2.2.1)), (wl, .inl (cI, 125, .inl u.2.2.2.2.1)), (wc, .inl (cI, 3, .inl u.2.2.2.2.2.1)), (wp, .inl (cP, 8, .inr (.inr (.inr (.inr u.2.2.2.2.2.2.1))))), (jp, .inl (cP, 8, .inr (.inr (.inr (.inr fp))))), (jc, .inl (cI, 3, .inl fjc))])) (va_A [(x0, .inr (7, [.ref xs, .ref j0, .ref k0, .ref w0, .ref rd, .ref mv, .ref xr, .int im, .int lf])), (xr, .inl (cI, 8, .inl fr)), (j0, .inr (0, [.ref z0, .ref jp, .ref jc, .int cn, .int de, .int tr, .int se, .int hu, .int sd])), (w0, .inr (5, [.ref wk, .ref wl, .ref wc, .ref wp, .int wn, .int wh, .int wg])), (wk, .inl (cI, 125, .inl fk)), (wl, .inl (cI, 125, .inl fl)), (wc, .inl (cI, 3, .inl fc)), (wp, .inl (cP, 8, .inr (.inr (.inr (.inr fq))))), (jp, .inl (cP, 8, .inr (.inr (.inr (.inr fp))))), (jc, .inl (cI, 3, .inl fjc))] hpz)) 0 0 (va_A [(x0, .inr (7, [.ref xs, .ref j0, .ref k0, .ref w0, .ref rd, .ref mv, .ref xr, .int im, .int lf])), (xr, .inl (cI, 8, .inl fr)), (j0, .inr (0, [.ref z0, .ref jp, .ref jc, .int cn, .int de, .int tr, .int se, .int hu, .int sd])), (w0, .inr (5, [.ref wk, .ref wl, .ref wc, .ref wp, .int wn, .int wh, .int wg])), (wk, .inl (cI, 125, .inl fk)), (wl, .inl (cI, 125, .inl fl)), (wc, .inl (cI, 3, .inl fc)), (wp, .inl (cP, 8, .inr (.inr (.inr (.inr fq))))), (jp, .inl (cP, 8, .inr (.inr (.inr (.inr fp))))), (jc, .inl (cI, 3, .inl fjc))] hpz) := by
  refine Met.ofW (cc := cX7_cases) (maxL := 3) (ret := (some .int)) (by decide) rfl ?_
  intro p e s m args below meth c s₁ B hml hv
  obtain ⟨rfl, hsz, hP, hK, hD0, hN, hZ⟩ := hv
  have hx := B.exec
  have hb := B.bytes
  have hr := B.returns
  have hts := atoms_spec (ws := wsX7_cases) B.pre
  have hown : s.vm.findClass RX7 = some m.cls := findClass_of_methodNamed B.named
  have hlocks := B.notSynchronized
  subst hsz
  have hD := hD0.self (sz := s.heap.size)
  have hA := zA_of hD
  have hl := lv_entry ([.ref x0, .int n, .int w]) (n := 3) (Nat.le_of_ble_eq_true rfl)
  rw [lg_entry_eq]
  generalize (lg_sl ([.ref x0, .int n, .int w]) ++ List.replicate (3 - (lg_sl ([.ref x0, .int n, .int w])).length) Slot.unset).toArray = ls at hl ⊢
  replace hl : lv_has ls 3 [(0, .ref x0), (1, .int n), (2, .int w)] := hl
  refine zw_begin hP hD (fun H locs hP1 hS => ?_)
  clear hP
  have hP := hP1
  clear hP1
  refine lv_iload_n hx hb dX7_cases_0 rfl (lv_at hl 2 rfl) ?_
  refine lv_iconst (v := 0) hx hb dX7_cases_1 (by decide) ?_
  refine lv_iconst (v := 2) hx hb dX7_cases_2 (by decide) ?_
  have kc0 : (0 : Int32).toInt = 0 := by decide
  have kc2 : (2 : Int32).toInt = 2 := by decide
  refine zc_S (As := [.int w, .int 0, .int 2]) (rest := []) ⟨hx, hb, hml, hown, hts⟩ (c_within l D cI cJ cZ cP cS po (w) (0) (2) ) (va_cwS 3 hts gX7_cases_X7_within rfl rfl rfl dh_X7_within ⟨Nat.le_of_ble_eq_true rfl, Nat.le_of_ble_eq_true rfl⟩) hK hN (hZ.kept hS) rfl hl.1 rfl (Nat.le_of_ble_eq_true rfl) dX7_cases_3 ⟨Nat.le_of_ble_eq_true rfl, Nat.le_of_ble_eq_true rfl⟩ (fun r_1 hr_1 => ?_)
  rcases hr_1 with ⟨rfl, g_2⟩ | ⟨rfl, g_3, g_4⟩ | ⟨rfl, g_5, g_6⟩
  · refine lv_if_ne (tgt := 15) hx hb dX7_cases_6 (by decide) (fun c_7 => ?_) (fun c_7 => ?_)
    · exact absurd c_7 (by decide)
    · refine lv_aload_n hx hb dX7_cases_9 rfl (lv_at hl 0 rfl) ?_
      refine lv_iconst (v := 5) hx hb dX7_cases_10 (by decide) ?_
      skip
      refine zw_V (As := [.int 5]) (rest := []) (wr := [(j0, .inr (0, [.ref z0, .ref jp, .ref jc, .int cn, .int de, .int tr, .int se, .int hu, .int sd])), (w0, .inr (5, [.ref wk, .ref wl, .ref wc, .ref wp, .int wn, .int wh, .int wg])), (wk, .inl (cI, 125, .inl fk)), (wl, .inl (cI, 125, .inl fl)), (wc, .inl (cI, 3, .inl fc)), (wp, .inl (cP, 8, .inr (.inr (.inr (.inr fq))))), (jp, .inl (cP, 8, .inr (.inr (.inr (.inr fp))))), (jc, .inl (cI, 3, .inl fjc))]) ⟨hx, hb, hml, hown, hts⟩ (c_X_refuseLower_5 l D cI cJ cZ cP cS po x0 xs j0 k0 w0 rd mv xr (im) (lf) fr hy0 hy1 hy2 hy3 H.size) (cwV 1 hts gX7_cases_X7_refuseLower rfl rfl rfl ⟨rfl, dh_X7_refuseLower⟩ ⟨Nat.le_of_ble_eq_true rfl, Nat.le_of_ble_eq_true rfl⟩) hK hN (hZ.kept hS) hP hD hS hA [0, 1] [2, 3, 4, 5, 6, 7, 8, 9] rfl rfl (by decide) (by decide) (by decide) (va_recv (q := (RX7, TX7, 9)) hK hP (ci := 7) (q0 := 0) rfl rfl) rfl hl.1 rfl (Nat.le_of_ble_eq_true rfl) dX7_cases_11 ⟨Nat.le_of_ble_eq_true rfl, Nat.le_of_ble_eq_true rfl⟩ (fun r_8 u_9 H locs hr_8 hP hD hS => ?_)
      obtain ⟨q_10, rfl⟩ : ∃ z, z = u_9 := ⟨_, rfl⟩
      have h9R := zRe (ws' := [(j0, .inr (0, [.ref z0, .ref jp, .ref jc, .int cn, .int de, .int tr, .int se, .int hu, .int sd])), (w0, .inr (5, [.ref wk, .ref wl, .ref wc, .ref wp, .int wn, .int wh, .int wg])), (wk, .inl (cI, 125, .inl fk)), (wl, .inl (cI, 125, .inl fl)), (wc, .inl (cI, 3, .inl fc)), (wp, .inl (cP, 8, .inr (.inr (.inr (.inr fq))))), (jp, .inl (cP, 8, .inr (.inr (.inr (.inr fp))))), (jc, .inl (cI, 3, .inl fjc)), (x0, .inr (7, [.ref xs, .ref j0, .ref k0, .ref w0, .ref rd, .ref mv, .ref xr, .int im, .int lf])), (xr, .inl (cI, 8, .inl q_10))]) hP hD rfl
      clear hP hD
      obtain ⟨hP, hD⟩ := h9R
      obtain rfl := hr_8
      exact W.iret (v := (-15)) hx hb hr (fun t ht hW => ⟨⟨(-15), (wn, wh, wg, fk, fl, fc, fq, q_10), rfl, ⟨(show 0 ≤ wn.toInt ∧ wn.toInt ≤ 8 from ⟨hy10, hy11⟩), (show 0 ≤ wh.toInt ∧ wh.toInt ≤ 9 from ⟨hy12, hy13⟩), (show 0 ≤ wg.toInt ∧ wg.toInt ≤ 60 from ⟨hy14, hy15⟩), hp_fc, hwq, (show ((w.toInt < 0 ∨ 2 < w.toInt) ∧ ((-15) : Int32).toInt = -15) ∨ ((0 ≤ w.toInt ∧ w.toInt ≤ 2) ∧ (((n.toInt < 0 ∨ 4 < n.toInt) ∧ ((-15) : Int32).toInt = -16) ∨ ((0 ≤ n.toInt ∧ n.toInt ≤ 4) ∧ ((w.toInt = 1 ∧ ((-15) : Int32).toInt = zNq kf af tf cn.toInt.toNat hu.toInt n.toInt de.toInt se.toInt) ∨ (w.toInt ≠ 1 ∧ ((-15) : Int32).toInt = zM kf af tf cn.toInt.toNat hu.toInt (if w.toInt = 2 then 0 else 1) n.toInt.toNat de.toInt se.toInt))))) from by (have k15m : ((-15) : Int32).toInt = -15 := (by decide); have k9 : ((-15) : Int32).toInt = -15 := (by decide); omega)), trivial⟩, zRet ht hP hD [8, 9, 0, 1, 2, 3, 4, 5, 6, 7] (by decide) rfl⟩, hS.F ht⟩) hS.2.2 dX7_cases_14
  · refine lv_if_ne (tgt := 15) hx hb dX7_cases_6 (by decide) (fun c_11 => ?_) (fun c_11 => ?_)
    · exact absurd c_11 (by decide)
    · refine lv_aload_n hx hb dX7_cases_9 rfl (lv_at hl 0 rfl) ?_
      refine lv_iconst (v := 5) hx hb dX7_cases_10 (by decide) ?_
      skip
      refine zw_V (As := [.int 5]) (rest := []) (wr := [(j0, .inr (0, [.ref z0, .ref jp, .ref jc, .int cn, .int de, .int tr, .int se, .int hu, .int sd])), (w0, .inr (5, [.ref wk, .ref wl, .ref wc, .ref wp, .int wn, .int wh, .int wg])), (wk, .inl (cI, 125, .inl fk)), (wl, .inl (cI, 125, .inl fl)), (wc, .inl (cI, 3, .inl fc)), (wp, .inl (cP, 8, .inr (.inr (.inr (.inr fq))))), (jp, .inl (cP, 8, .inr (.inr (.inr (.inr fp))))), (jc, .inl (cI, 3, .inl fjc))]) ⟨hx, hb, hml, hown, hts⟩ (c_X_refuseLower_5 l D cI cJ cZ cP cS po x0 xs j0 k0 w0 rd mv xr (im) (lf) fr hy0 hy1 hy2 hy3 H.size) (cwV 1 hts gX7_cases_X7_refuseLower rfl rfl rfl ⟨rfl, dh_X7_refuseLower⟩ ⟨Nat.le_of_ble_eq_true rfl, Nat.le_of_ble_eq_true rfl⟩) hK hN (hZ.kept hS) hP hD hS hA [0, 1] [2, 3, 4, 5, 6, 7, 8, 9] rfl rfl (by decide) (by decide) (by decide) (va_recv (q := (RX7, TX7, 9)) hK hP (ci := 7) (q0 := 0) rfl rfl) rfl hl.1 rfl (Nat.le_of_ble_eq_true rfl) dX7_cases_11 ⟨Nat.le_of_ble_eq_true rfl, Nat.le_of_ble_eq_true rfl⟩ (fun r_12 u_13 H locs hr_12 hP hD hS => ?_)
      obtain ⟨q_14, rfl⟩ : ∃ z, z = u_13 := ⟨_, rfl⟩
      have h9R := zRe (ws' := [(j0, .inr (0, [.ref z0, .ref jp, .ref jc, .int cn, .int de, .int tr, .int se, .int hu, .int sd])), (w0, .inr (5, [.ref wk, .ref wl, .ref wc, .ref wp, .int wn, .int wh, .int wg])), (wk, .inl (cI, 125, .inl fk)), (wl, .inl (cI, 125, .inl fl)), (wc, .inl (cI, 3, .inl fc)), (wp, .inl (cP, 8, .inr (.inr (.inr (.inr fq))))), (jp, .inl (cP, 8, .inr (.inr (.inr (.inr fp))))), (jc, .inl (cI, 3, .inl fjc)), (x0, .inr (7, [.ref xs, .ref j0, .ref k0, .ref w0, .ref rd, .ref mv, .ref xr, .int im, .int lf])), (xr, .inl (cI, 8, .inl q_14))]) hP hD rfl
      clear hP hD
      obtain ⟨hP, hD⟩ := h9R
      obtain rfl := hr_12
      exact W.iret (v := (-15)) hx hb hr (fun t ht hW => ⟨⟨(-15), (wn, wh, wg, fk, fl, fc, fq, q_14), rfl, ⟨(show 0 ≤ wn.toInt ∧ wn.toInt ≤ 8 from ⟨hy10, hy11⟩), (show 0 ≤ wh.toInt ∧ wh.toInt ≤ 9 from ⟨hy12, hy13⟩), (show 0 ≤ wg.toInt ∧ wg.toInt ≤ 60 from ⟨hy14, hy15⟩), hp_fc, hwq, (show ((w.toInt < 0 ∨ 2 < w.toInt) ∧ ((-15) : Int32).toInt = -15) ∨ ((0 ≤ w.toInt ∧ w.toInt ≤ 2) ∧ (((n.toInt < 0 ∨ 4 < n.toInt) ∧ ((-15) : Int32).toInt = -16) ∨ ((0 ≤ n.toInt ∧ n.toInt ≤ 4) ∧ ((w.toInt = 1 ∧ ((-15) : Int32).toInt = zNq kf af tf cn.toInt.toNat hu.toInt n.toInt de.toInt se.toInt) ∨ (w.toInt ≠ 1 ∧ ((-15) : Int32).toInt = zM kf af tf cn.toInt.toNat hu.toInt (if w.toInt = 2 then 0 else 1) n.toInt.toNat de.toInt se.toInt))))) from by (have k15m : ((-15) : Int32).toInt = -15 := (by decide); have k9 : ((-15) : Int32).toInt = -15 := (by decide); omega)), trivial⟩, zRet ht hP hD [8, 9, 0, 1, 2, 3, 4, 5, 6, 7] (by decide) rfl⟩, hS.F ht⟩) hS.2.2 dX7_cases_14
  · refine lv_if_ne (tgt := 15) hx hb dX7_cases_6 (by decide) (fun c_15 => ?_) (fun c_15 => ?_)
    · refine lv_iload_n hx hb dX7_cases_15 rfl (lv_at hl 1 rfl) ?_
      refine lv_iconst (v := 0) hx hb dX7_cases_16 (by decide) ?_
      refine lv_iconst (v := 4) hx hb dX7_cases_17 (by decide) ?_
      have kc4 : (4 : Int32).toInt = 4 := by decide
      refine zc_S (As := [.int n, .int 0, .int 4]) (rest := []) ⟨hx, hb, hml, hown, hts⟩ (c_within l D cI cJ cZ cP cS po (n) (0) (4) ) (va_cwS 3 hts gX7_cases_X7_within rfl rfl rfl dh_X7_within ⟨Nat.le_of_ble_eq_true rfl, Nat.le_of_ble_eq_true rfl⟩) hK hN (hZ.kept hS) rfl hl.1 rfl (Nat.le_of_ble_eq_true rfl) dX7_cases_18 ⟨Nat.le_of_ble_eq_true rfl, Nat.le_of_ble_eq_true rfl⟩ (fun r_16 hr_16 => ?_)
      rcases hr_16 with ⟨rfl, g_17⟩ | ⟨rfl, g_18, g_19⟩ | ⟨rfl, g_20, g_21⟩
      · refine lv_if_ne (tgt := 31) hx hb dX7_cases_21 (by decide) (fun c_22 => ?_) (fun c_22 => ?_)
        · exact absurd c_22 (by decide)
        · refine lv_aload_n hx hb dX7_cases_24 rfl (lv_at hl 0 rfl) ?_
          refine lv_bipush (v := 6) hx hb dX7_cases_25 (by decide) ?_
          skip
          refine zw_V (As := [.int 6]) (rest := []) (wr := [(j0, .inr (0, [.ref z0, .ref jp, .ref jc, .int cn, .int de, .int tr, .int se, .int hu, .int sd])), (w0, .inr (5, [.ref wk, .ref wl, .ref wc, .ref wp, .int wn, .int wh, .int wg])), (wk, .inl (cI, 125, .inl fk)), (wl, .inl (cI, 125, .inl fl)), (wc, .inl (cI, 3, .inl fc)), (wp, .inl (cP, 8, .inr (.inr (.inr (.inr fq))))), (jp, .inl (cP, 8, .inr (.inr (.inr (.inr fp))))), (jc, .inl (cI, 3, .inl fjc))]) ⟨hx, hb, hml, hown, hts⟩ (c_X_refuseLower_6 l D cI cJ cZ cP cS po x0 xs j0 k0 w0 rd mv xr (im) (lf) fr hy0 hy1 hy2 hy3 H.size) (cwV 1 hts gX7_cases_X7_refuseLower rfl rfl rfl ⟨rfl, dh_X7_refuseLower⟩ ⟨Nat.le_of_ble_eq_true rfl, Nat.le_of_ble_eq_true rfl⟩) hK hN (hZ.kept hS) hP hD hS hA [0, 1] [2, 3, 4, 5, 6, 7, 8, 9] rfl rfl (by decide) (by decide) (by decide) (va_recv (q := (RX7, TX7, 9)) hK hP (ci := 7) (q0 := 0) rfl rfl) rfl hl.1 rfl (Nat.le_of_ble_eq_true rfl) dX7_cases_27 ⟨Nat.le_of_ble_eq_true rfl, Nat.le_of_ble_eq_true rfl⟩ (fun r_23 u_24 H locs hr_23 hP hD hS => ?_)
          obtain ⟨q_25, rfl⟩ : ∃ z, z = u_24 := ⟨_, rfl⟩
          have h9R := zRe (ws' := [(j0, .inr (0, [.ref z0, .ref jp, .ref jc, .int cn, .int de, .int tr, .int se, .int hu, .int sd])), (w0, .inr (5, [.ref wk, .ref wl, .ref wc, .ref wp, .int wn, .int wh, .int wg])), (wk, .inl (cI, 125, .inl fk)), (wl, .inl (cI, 125, .inl fl)), (wc, .inl (cI, 3, .inl fc)), (wp, .inl (cP, 8, .inr (.inr (.inr (.inr fq))))), (jp, .inl (cP, 8, .inr (.inr (.inr (.inr fp))))), (jc, .inl (cI, 3, .inl fjc)), (x0, .inr (7, [.ref xs, .ref j0, .ref k0, .ref w0, .ref rd, .ref mv, .ref xr, .int im, .int lf])), (xr, .inl (cI, 8, .inl q_25))]) hP hD rfl
          clear hP hD
          obtain ⟨hP, hD⟩ := h9R
          obtain rfl := hr_23
          exact W.iret (v := (-16)) hx hb hr (fun t ht hW => ⟨⟨(-16), (wn, wh, wg, fk, fl, fc, fq, q_25), rfl, ⟨(show 0 ≤ wn.toInt ∧ wn.toInt ≤ 8 from ⟨hy10, hy11⟩), (show 0 ≤ wh.toInt ∧ wh.toInt ≤ 9 from ⟨hy12, hy13⟩), (show 0 ≤ wg.toInt ∧ wg.toInt ≤ 60 from ⟨hy14, hy15⟩), hp_fc, hwq, (show ((w.toInt < 0 ∨ 2 < w.toInt) ∧ ((-16) : Int32).toInt = -15) ∨ ((0 ≤ w.toInt ∧ w.toInt ≤ 2) ∧ (((n.toInt < 0 ∨ 4 < n.toInt) ∧ ((-16) : Int32).toInt = -16) ∨ ((0 ≤ n.toInt ∧ n.toInt ≤ 4) ∧ ((w.toInt = 1 ∧ ((-16) : Int32).toInt = zNq kf af tf cn.toInt.toNat hu.toInt n.toInt de.toInt se.toInt) ∨ (w.toInt ≠ 1 ∧ ((-16) : Int32).toInt = zM kf af tf cn.toInt.toNat hu.toInt (if w.toInt = 2 then 0 else 1) n.toInt.toNat de.toInt se.toInt))))) from by (have k16m : ((-16) : Int32).toInt = -16 := (by decide); have k9 : ((-16) : Int32).toInt = -16 := (by decide); omega)), trivial⟩, zRet ht hP hD [8, 9, 0, 1, 2, 3, 4, 5, 6, 7] (by decide) rfl⟩, hS.F ht⟩) hS.2.2 dX7_cases_30
      · refine lv_if_ne (tgt := 31) hx hb dX7_cases_21 (by decide) (fun c_26 => ?_) (fun c_26 => ?_)
        · exact absurd c_26 (by decide)
        · refine lv_aload_n hx hb dX7_cases_24 rfl (lv_at hl 0 rfl) ?_
          refine lv_bipush (v := 6) hx hb dX7_cases_25 (by decide) ?_
          skip
          refine zw_V (As := [.int 6]) (rest := []) (wr := [(j0, .inr (0, [.ref z0, .ref jp, .ref jc, .int cn, .int de, .int tr, .int se, .int hu, .int sd])), (w0, .inr (5, [.ref wk, .ref wl, .ref wc, .ref wp, .int wn, .int wh, .int wg])), (wk, .inl (cI, 125, .inl fk)), (wl, .inl (cI, 125, .inl fl)), (wc, .inl (cI, 3, .inl fc)), (wp, .inl (cP, 8, .inr (.inr (.inr (.inr fq))))), (jp, .inl (cP, 8, .inr (.inr (.inr (.inr fp))))), (jc, .inl (cI, 3, .inl fjc))]) ⟨hx, hb, hml, hown, hts⟩ (c_X_refuseLower_6 l D cI cJ cZ cP cS po x0 xs j0 k0 w0 rd mv xr (im) (lf) fr hy0 hy1 hy2 hy3 H.size) (cwV 1 hts gX7_cases_X7_refuseLower rfl rfl rfl ⟨rfl, dh_X7_refuseLower⟩ ⟨Nat.le_of_ble_eq_true rfl, Nat.le_of_ble_eq_true rfl⟩) hK hN (hZ.kept hS) hP hD hS hA [0, 1] [2, 3, 4, 5, 6, 7, 8, 9] rfl rfl (by decide) (by decide) (by decide) (va_recv (q := (RX7, TX7, 9)) hK hP (ci := 7) (q0 := 0) rfl rfl) rfl hl.1 rfl (Nat.le_of_ble_eq_true rfl) dX7_cases_27 ⟨Nat.le_of_ble_eq_true rfl, Nat.le_of_ble_eq_true rfl⟩ (fun r_27 u_28 H locs hr_27 hP hD hS => ?_)
          obtain ⟨q_29, rfl⟩ : ∃ z, z = u_28 := ⟨_, rfl⟩
          have h9R := zRe (ws' := [(j0, .inr (0, [.ref z0, .ref jp, .ref jc, .int cn, .int de, .int tr, .int se, .int hu, .int sd])), (w0, .inr (5, [.ref wk, .ref wl, .ref wc, .ref wp, .int wn, .int wh, .int wg])), (wk, .inl (cI, 125, .inl fk)), (wl, .inl (cI, 125, .inl fl)), (wc, .inl (cI, 3, .inl fc)), (wp, .inl (cP, 8, .inr (.inr (.inr (.inr fq))))), (jp, .inl (cP, 8, .inr (.inr (.inr (.inr fp))))), (jc, .inl (cI, 3, .inl fjc)), (x0, .inr (7, [.ref xs, .ref j0, .ref k0, .ref w0, .ref rd, .ref mv, .ref xr, .int im, .int lf])), (xr, .inl (cI, 8, .inl q_29))]) hP hD rfl
          clear hP hD
          obtain ⟨hP, hD⟩ := h9R
          obtain rfl := hr_27
          exact W.iret (v := (-16)) hx hb hr (fun t ht hW => ⟨⟨(-16), (wn, wh, wg, fk, fl, fc, fq, q_29), rfl, ⟨(show 0 ≤ wn.toInt ∧ wn.toInt ≤ 8 from ⟨hy10, hy11⟩), (show 0 ≤ wh.toInt ∧ wh.toInt ≤ 9 from ⟨hy12, hy13⟩), (show 0 ≤ wg.toInt ∧ wg.toInt ≤ 60 from ⟨hy14, hy15⟩), hp_fc, hwq, (show ((w.toInt < 0 ∨ 2 < w.toInt) ∧ ((-16) : Int32).toInt = -15) ∨ ((0 ≤ w.toInt ∧ w.toInt ≤ 2) ∧ (((n.toInt < 0 ∨ 4 < n.toInt) ∧ ((-16) : Int32).toInt = -16) ∨ ((0 ≤ n.toInt ∧ n.toInt ≤ 4) ∧ ((w.toInt = 1 ∧ ((-16) : Int32).toInt = zNq kf af tf cn.toInt.toNat hu.toInt n.toInt de.toInt se.toInt) ∨ (w.toInt ≠ 1 ∧ ((-16) : Int32).toInt = zM kf af tf cn.toInt.toNat hu.toInt (if w.toInt = 2 then 0 else 1) n.toInt.toNat de.toInt se.toInt))))) from by (have k16m : ((-16) : Int32).toInt = -16 := (by decide); have k9 : ((-16) : Int32).toInt = -16 := (by decide); omega)), trivial⟩, zRet ht hP hD [8, 9, 0, 1, 2, 3, 4, 5, 6, 7] (by decide) rfl⟩, hS.F ht⟩) hS.2.2 dX7_cases_30
      · refine lv_if_ne (tgt := 31) hx hb dX7_cases_21 (by decide) (fun c_30 => ?_) (fun c_30 => ?_)
        · have hsp : n = 0 ∨ n = 1 ∨ n = 2 ∨ n = 3 ∨ n = 4 := by
            rcases (show n.toInt = 0 ∨ n.toInt = 1 ∨ n.toInt = 2 ∨ n.toInt = 3 ∨ n.toInt = 4 by omega) with h9 | h9 | h9 | h9 | h9
            · refine Or.inl ?_; exact zf_val h9 (by decide)
            · refine Or.inr (Or.inl ?_); exact zf_val h9 (by decide)
            · refine Or.inr (Or.inr (Or.inl ?_)); exact zf_val h9 (by decide)
            · refine Or.inr (Or.inr (Or.inr (Or.inl ?_))); exact zf_val h9 (by decide)
            · refine Or.inr (Or.inr (Or.inr (Or.inr (?_)))); exact zf_val h9 (by decide)
          rcases hsp with rfl | rfl | rfl | rfl | rfl
          · refine lv_aload_n hx hb dX7_cases_31 rfl (lv_at hl 0 rfl) ?_
            refine va_get (D := D) (ci := 7) (v := .ref w0) (C := RX7) (T := TX7) (N := 9) hx hb hts hi_X7_cases_7 hown hK hP 0 rfl rfl 3 (by decide) (hts (.fieldLink RX7 28 "TheLiningsInIt" "ways" "LTheLiningsInIt$Ways;") (List.mem_of_getElem? (i := 1) rfl)) (fun _ h9 => h9) rfl dX7_cases_32 ?_
            refine lv_aload_n hx hb dX7_cases_35 rfl (lv_at hl 0 rfl) ?_
            refine va_get (D := D) (ci := 7) (v := .ref j0) (C := RX7) (T := TX7) (N := 9) hx hb hts hi_X7_cases_7 hown hK hP 0 rfl rfl 1 (by decide) (hts (.fieldLink RX7 18 "TheLiningsInIt" "now" "LTheLiningsInIt$Jacket;") (List.mem_of_getElem? (i := 2) rfl)) (fun _ h9 => h9) rfl dX7_cases_36 ?_
            refine lv_aload_n hx hb dX7_cases_39 rfl (lv_at hl 0 rfl) ?_
            refine va_get (D := D) (ci := 7) (v := .ref j0) (C := RX7) (T := TX7) (N := 9) hx hb hts hi_X7_cases_7 hown hK hP 0 rfl rfl 1 (by decide) (hts (.fieldLink RX7 18 "TheLiningsInIt" "now" "LTheLiningsInIt$Jacket;") (List.mem_of_getElem? (i := 2) rfl)) (fun _ h9 => h9) rfl dX7_cases_40 ?_
            refine va_get (D := D) (ci := 0) (v := .int hu) (C := RX0) (T := TX0) (N := 9) hx hb hts hi_X7_cases_0 hown hK hP 2 rfl rfl 7 (by decide) (hts (.fieldLink RX7 116 "TheLiningsInIt$Jacket" "hurry" "I") (List.mem_of_getElem? (i := 3) rfl)) (fun _ h9 => h9) rfl dX7_cases_43 ?_
            refine lv_iload_n hx hb dX7_cases_46 rfl (lv_at hl 2 rfl) ?_
            refine lv_iconst (v := 2) hx hb dX7_cases_47 (by decide) ?_
            refine lv_icmp_eq (tgt := 55) hx hb dX7_cases_48 (by decide) (fun c_31 => ?_) (fun c_31 => ?_)
            · have fc_31 : w.toInt = 2 := zf_eq c_31 rfl (by decide)
              refine lv_iconst (v := 0) hx hb dX7_cases_55 (by decide) ?_
              skip
              refine zw_Vv (As := [.ref j0, .int hu, .int 0]) (rest := []) (wr := [(x0, .inr (7, [.ref xs, .ref j0, .ref k0, .ref w0, .ref rd, .ref mv, .ref xr, .int im, .int lf])), (xr, .inl (cI, 8, .inl fr))]) ⟨hx, hb, hml, hown, hts⟩ (c_F_W_look l D cI cJ cZ cP cS po w0 wk wl wc wp (wn) (wh) (wg) j0 jp jc z0 0 0 (cn) (de) (tr) (se) (hu) (sd) fp fq kf af tf fk fl fc fjc (hu) (0) hy10 hy11 hy12 hy13 hy14 hy15 hy4 hy5 hy6 hy7 hy8 hy9 hy8 hy9 hwq hjp hp_fc hp_fjc H.size) (cwV 3 hts gX7_cases_X5_look rfl rfl rfl ⟨rfl, dh_X5_look⟩ ⟨Nat.le_of_ble_eq_true rfl, Nat.le_of_ble_eq_true rfl⟩) hK hN (hZ.kept hS) hP hD hS hA [3, 4, 5, 6, 7, 2, 8, 9] [0, 1] rfl rfl (by decide) (by decide) (by decide) (va_recv (q := (RX5, TX5, 7)) hK hP (ci := 5) (q0 := 3) rfl rfl) rfl hl.1 rfl (Nat.le_of_ble_eq_true rfl) dX7_cases_56 ⟨Nat.le_of_ble_eq_true rfl, Nat.le_of_ble_eq_true rfl⟩ (fun u_33 H locs hr_32 hP hD hS => ?_)
              obtain ⟨q_34, q_35, q_36, q_37, q_38, q_39, q_40⟩ := u_33
              try dsimp only at hr_32
              obtain ⟨hbq_34, hbq_35, hbq_36, hpq_39, hwq_40, hsr_32_0, hsr_32_1, hsr_32_2, hsr_32_3, hsr_32_4, hsr_32_5, hr_32⟩ := hr_32
              have h9R := zRe (ws' := [(x0, .inr (7, [.ref xs, .ref j0, .ref k0, .ref w0, .ref rd, .ref mv, .ref xr, .int im, .int lf])), (xr, .inl (cI, 8, .inl fr)), (w0, .inr (5, [.ref wk, .ref wl, .ref wc, .ref wp, .int q_34, .int q_35, .int q_36])), (wk, .inl (cI, 125, .inl q_37)), (wl, .inl (cI, 125, .inl q_38)), (wc, .inl (cI, 3, .inl q_39)), (wp, .inl (cP, 8, .inr (.inr (.inr (.inr q_40))))), (j0, .inr (0, [.ref z0, .ref jp, .ref jc, .int cn, .int de, .int tr, .int se, .int hu, .int sd])), (jp, .inl (cP, 8, .inr (.inr (.inr (.inr fp))))), (jc, .inl (cI, 3, .inl fjc))]) hP hD rfl
              clear hP hD
              obtain ⟨hP, hD⟩ := h9R
              obtain ⟨ewn, ewh⟩ := hsr_32_2
              have ewn9 := congrArg Int32.toInt ewn
              have ewh9 := congrArg Int32.toInt ewh
              have hjw9 : zJW po q_40 q_34 kf af tf (0 : Int32) := by (intro j hj; exact hsr_32_0 j (by rw [← ewn]; exact hj))
              have hkm9 : zKm kf af tf q_34.toInt.toNat q_35.toInt (0 : Int32).toInt q_36.toInt q_37 := zKm_0 hsr_32_4
              have hgl9 : ∀ p : Nat, p < q_34.toInt.toNat → ((0 : Int32).toInt ≠ 0 ∨ (kf p).toInt ≠ 5) → (tf p).toInt ≤ q_36.toInt := fun p hp hl => hsr_32_1 p (by rw [ewn] at hp; omega) hl
              refine lv_iload_n hx hb dX7_cases_59 rfl (lv_at hl 2 rfl) ?_
              refine lv_iconst (v := 1) hx hb dX7_cases_60 (by decide) ?_
              refine lv_icmp_ne (tgt := 87) hx hb dX7_cases_61 (by decide) (fun c_41 => ?_) (fun c_41 => ?_)
              · have fc_41 : w.toInt ≠ 1 := zf_ne c_41 rfl (by decide)
                refine lv_aload_n hx hb dX7_cases_87 rfl (lv_at hl 0 rfl) ?_
                refine va_get (D := D) (ci := 7) (v := .ref w0) (C := RX7) (T := TX7) (N := 9) hx hb hts hi_X7_cases_7 hown hK hP 0 rfl rfl 3 (by decide) (hts (.fieldLink RX7 28 "TheLiningsInIt" "ways" "LTheLiningsInIt$Ways;") (List.mem_of_getElem? (i := 1) rfl)) (fun _ h9 => h9) rfl dX7_cases_88 ?_
                refine lv_iload_n hx hb dX7_cases_91 rfl (lv_at hl 1 rfl) ?_
                refine lv_aload_n hx hb dX7_cases_92 rfl (lv_at hl 0 rfl) ?_
                refine va_get (D := D) (ci := 7) (v := .ref j0) (C := RX7) (T := TX7) (N := 9) hx hb hts hi_X7_cases_7 hown hK hP 0 rfl rfl 1 (by decide) (hts (.fieldLink RX7 18 "TheLiningsInIt" "now" "LTheLiningsInIt$Jacket;") (List.mem_of_getElem? (i := 2) rfl)) (fun _ h9 => h9) rfl dX7_cases_93 ?_
                refine va_get (D := D) (ci := 0) (v := .int de) (C := RX0) (T := TX0) (N := 9) hx hb hts hi_X7_cases_0 hown hK hP 7 rfl rfl 4 (by decide) (hts (.fieldLink RX7 199 "TheLiningsInIt$Jacket" "depth" "I") (List.mem_of_getElem? (i := 4) rfl)) (fun _ h9 => h9) rfl dX7_cases_96 ?_
                refine lv_aload_n hx hb dX7_cases_99 rfl (lv_at hl 0 rfl) ?_
                refine va_get (D := D) (ci := 7) (v := .ref j0) (C := RX7) (T := TX7) (N := 9) hx hb hts hi_X7_cases_7 hown hK hP 0 rfl rfl 1 (by decide) (hts (.fieldLink RX7 18 "TheLiningsInIt" "now" "LTheLiningsInIt$Jacket;") (List.mem_of_getElem? (i := 2) rfl)) (fun _ h9 => h9) rfl dX7_cases_100 ?_
                refine va_get (D := D) (ci := 0) (v := .int se) (C := RX0) (T := TX0) (N := 9) hx hb hts hi_X7_cases_0 hown hK hP 7 rfl rfl 6 (by decide) (hts (.fieldLink RX7 202 "TheLiningsInIt$Jacket" "seconds" "I") (List.mem_of_getElem? (i := 5) rfl)) (fun _ h9 => h9) rfl dX7_cases_103 ?_
                skip
                refine zw_VN (As := [.int 0, .int de, .int se]) (rest := []) (wr := [(x0, .inr (7, [.ref xs, .ref j0, .ref k0, .ref w0, .ref rd, .ref mv, .ref xr, .int im, .int lf])), (xr, .inl (cI, 8, .inl fr)), (wl, .inl (cI, 125, .inl q_38)), (wc, .inl (cI, 3, .inl q_39)), (j0, .inr (0, [.ref z0, .ref jp, .ref jc, .int cn, .int de, .int tr, .int se, .int hu, .int sd])), (jp, .inl (cP, 8, .inr (.inr (.inr (.inr fp))))), (jc, .inl (cI, 3, .inl fjc))]) ⟨hx, hb, hml, hown, hts⟩ (c_F_W_most_0 l D cI cJ cZ cP cS po w0 wk wl wc wp (q_34) (q_35) (q_36) q_40 kf af tf (0) q_37 (de) (se) hbq_34.1 hbq_34.2 hbq_35.1 hbq_35.2 hbq_36.1 hbq_36.2 hjw9 (by first | assumption | omega) (by first | assumption | omega) hy6 hy7 hy18 hy19 H.size) ⟨(va_cnB 3 hts gX7_cases_X5_most_n208 rfl rfl rfl (hN.1 (RX7, 208, yX5_most) (List.mem_of_getElem? (i := 10) rfl)) (hts _ (List.mem_of_getElem? (i := 22) rfl)) dh_X5_most ⟨Nat.le_of_ble_eq_true rfl, Nat.le_of_ble_eq_true rfl⟩), (hts _ (List.mem_of_getElem? (i := 95) rfl)), (hts _ (List.mem_of_getElem? (i := 96) rfl))⟩ hK hN (hZ.kept hS) hP hD hS hA [2, 3, 6] [0, 1, 4, 5, 7, 8, 9] rfl rfl (by decide) (by decide) (by decide) (va_recv (q := (RX5, TX5, 7)) hK hP (ci := 5) (q0 := 2) rfl rfl) rfl hl.1 rfl (Nat.le_of_ble_eq_true rfl) dX7_cases_106 ⟨Nat.le_of_ble_eq_true rfl, Nat.le_of_ble_eq_true rfl⟩ (fun r_42 u_43 H locs hr_42 hP hD hS => ?_)
                obtain ⟨q_44, rfl⟩ : ∃ z, z = u_43 := ⟨_, rfl⟩
                obtain ⟨hsr_42_0, hsr_42_1, hr_42⟩ := hr_42
                have h9R := zRe (ws' := [(x0, .inr (7, [.ref xs, .ref j0, .ref k0, .ref w0, .ref rd, .ref mv, .ref xr, .int im, .int lf])), (xr, .inl (cI, 8, .inl fr)), (wl, .inl (cI, 125, .inl q_38)), (wc, .inl (cI, 3, .inl q_39)), (j0, .inr (0, [.ref z0, .ref jp, .ref jc, .int cn, .int de, .int tr, .int se, .int hu, .int sd])), (jp, .inl (cP, 8, .inr (.inr (.inr (.inr fp))))), (jc, .inl (cI, 3, .inl fjc)), (w0, .inr (5, [.ref wk, .ref wl, .ref wc, .ref wp, .int q_34, .int q_35, .int q_36])), (wk, .inl (cI, 125, .inl q_44)), (wp, .inl (cP, 8, .inr (.inr (.inr (.inr q_40)))))]) hP hD rfl
                clear hP hD
                obtain ⟨hP, hD⟩ := h9R
                obtain ⟨g_45, g_46⟩ := hr_42
                exact W.iret (v := r_42) hx hb hr (fun t ht hW => ⟨⟨r_42, (q_34, q_35, q_36, q_44, q_38, q_39, q_40, fr), rfl, ⟨(show 0 ≤ q_34.toInt ∧ q_34.toInt ≤ 8 from hbq_34), (show 0 ≤ q_35.toInt ∧ q_35.toInt ≤ 9 from hbq_35), (show 0 ≤ q_36.toInt ∧ q_36.toInt ≤ 60 from hbq_36), hpq_39, hwq_40, (show ((w.toInt < 0 ∨ 2 < w.toInt) ∧ (r_42 : Int32).toInt = -15) ∨ ((0 ≤ w.toInt ∧ w.toInt ≤ 2) ∧ ((((0 : Int32).toInt < 0 ∨ 4 < (0 : Int32).toInt) ∧ (r_42 : Int32).toInt = -16) ∨ ((0 ≤ (0 : Int32).toInt ∧ (0 : Int32).toInt ≤ 4) ∧ ((w.toInt = 1 ∧ (r_42 : Int32).toInt = zNq kf af tf cn.toInt.toNat hu.toInt (0 : Int32).toInt de.toInt se.toInt) ∨ (w.toInt ≠ 1 ∧ (r_42 : Int32).toInt = zM kf af tf cn.toInt.toNat hu.toInt (if w.toInt = 2 then 0 else 1) (0 : Int32).toInt.toNat de.toInt se.toInt))))) from by (have k0 : (0 : Int32).toInt = 0 := (by decide); have kte : (0 : Int32).toInt = 0 := (by decide); refine Or.inr ⟨by omega, Or.inr ⟨by omega, Or.inr ⟨by omega, (by have z := hsr_42_1; rw [kte, ewn, ewh] at z; rw [show (0 : Int32).toInt.toNat = 0 from by decide, if_pos (by omega)]; exact z)⟩⟩⟩)), trivial⟩, zRet ht hP hD [0, 1, 4, 7, 8, 2, 3, 9, 5, 6] (by decide) rfl⟩, hS.F ht⟩) hS.2.2 dX7_cases_109
              · exfalso; have fc_41 : w.toInt = 1 := zf_eq c_41 rfl (by decide); omega
            · have fc_31 : w.toInt ≠ 2 := zf_ne c_31 rfl (by decide)
              refine lv_iconst (v := 1) hx hb dX7_cases_51 (by decide) ?_
              refine lv_goto (tgt := 56) hx hb dX7_cases_52 (by decide) ?_
              have kc1 : (1 : Int32).toInt = 1 := by decide
              skip
              refine zw_Vv (As := [.ref j0, .int hu, .int 1]) (rest := []) (wr := [(x0, .inr (7, [.ref xs, .ref j0, .ref k0, .ref w0, .ref rd, .ref mv, .ref xr, .int im, .int lf])), (xr, .inl (cI, 8, .inl fr))]) ⟨hx, hb, hml, hown, hts⟩ (c_F_W_look l D cI cJ cZ cP cS po w0 wk wl wc wp (wn) (wh) (wg) j0 jp jc z0 0 0 (cn) (de) (tr) (se) (hu) (sd) fp fq kf af tf fk fl fc fjc (hu) (1) hy10 hy11 hy12 hy13 hy14 hy15 hy4 hy5 hy6 hy7 hy8 hy9 hy8 hy9 hwq hjp hp_fc hp_fjc H.size) (cwV 3 hts gX7_cases_X5_look rfl rfl rfl ⟨rfl, dh_X5_look⟩ ⟨Nat.le_of_ble_eq_true rfl, Nat.le_of_ble_eq_true rfl⟩) hK hN (hZ.kept hS) hP hD hS hA [3, 4, 5, 6, 7, 2, 8, 9] [0, 1] rfl rfl (by decide) (by decide) (by decide) (va_recv (q := (RX5, TX5, 7)) hK hP (ci := 5) (q0 := 3) rfl rfl) rfl hl.1 rfl (Nat.le_of_ble_eq_true rfl) dX7_cases_56 ⟨Nat.le_of_ble_eq_true rfl, Nat.le_of_ble_eq_true rfl⟩ (fun u_48 H locs hr_47 hP hD hS => ?_)
              obtain ⟨q_49, q_50, q_51, q_52, q_53, q_54, q_55⟩ := u_48
              try dsimp only at hr_47
              obtain ⟨hbq_49, hbq_50, hbq_51, hpq_54, hwq_55, hsr_47_0, hsr_47_1, hsr_47_2, hsr_47_3, hsr_47_4, hsr_47_5, hr_47⟩ := hr_47
              have h9R := zRe (ws' := [(x0, .inr (7, [.ref xs, .ref j0, .ref k0, .ref w0, .ref rd, .ref mv, .ref xr, .int im, .int lf])), (xr, .inl (cI, 8, .inl fr)), (w0, .inr (5, [.ref wk, .ref wl, .ref wc, .ref wp, .int q_49, .int q_50, .int q_51])), (wk, .inl (cI, 125, .inl q_52)), (wl, .inl (cI, 125, .inl q_53)), (wc, .inl (cI, 3, .inl q_54)), (wp, .inl (cP, 8, .inr (.inr (.inr (.inr q_55))))), (j0, .inr (0, [.ref z0, .ref jp, .ref jc, .int cn, .int de, .int tr, .int se, .int hu, .int sd])), (jp, .inl (cP, 8, .inr (.inr (.inr (.inr fp))))), (jc, .inl (cI, 3, .inl fjc))]) hP hD rfl
              clear hP hD
              obtain ⟨hP, hD⟩ := h9R
              obtain ⟨ewn, ewh⟩ := hsr_47_2
              have ewn9 := congrArg Int32.toInt ewn
              have ewh9 := congrArg Int32.toInt ewh
              have hjw9 : zJW po q_55 q_49 kf af tf (1 : Int32) := by (intro j hj; exact hsr_47_0 j (by rw [← ewn]; exact hj))
              have hkm9 : zKm kf af tf q_49.toInt.toNat q_50.toInt (1 : Int32).toInt q_51.toInt q_52 := zKm_0 hsr_47_4
              have hgl9 : ∀ p : Nat, p < q_49.toInt.toNat → ((1 : Int32).toInt ≠ 0 ∨ (kf p).toInt ≠ 5) → (tf p).toInt ≤ q_51.toInt := fun p hp hl => hsr_47_1 p (by rw [ewn] at hp; omega) hl
              have hkn9 : zKn kf af tf q_49.toInt.toNat q_50.toInt (q_54 0).toInt (q_54 1).toInt (q_54 2).toInt q_51.toInt q_53 := zKn_0 hsr_47_5
              have hgk9 : ∀ p : Nat, p < q_49.toInt.toNat → (tf p).toInt ≤ q_51.toInt := fun p hp => hgl9 p hp (Or.inl (by decide))
              refine lv_iload_n hx hb dX7_cases_59 rfl (lv_at hl 2 rfl) ?_
              refine lv_iconst (v := 1) hx hb dX7_cases_60 (by decide) ?_
              refine lv_icmp_ne (tgt := 87) hx hb dX7_cases_61 (by decide) (fun c_56 => ?_) (fun c_56 => ?_)
              · have fc_56 : w.toInt ≠ 1 := zf_ne c_56 rfl (by decide)
                refine lv_aload_n hx hb dX7_cases_87 rfl (lv_at hl 0 rfl) ?_
                refine va_get (D := D) (ci := 7) (v := .ref w0) (C := RX7) (T := TX7) (N := 9) hx hb hts hi_X7_cases_7 hown hK hP 0 rfl rfl 3 (by decide) (hts (.fieldLink RX7 28 "TheLiningsInIt" "ways" "LTheLiningsInIt$Ways;") (List.mem_of_getElem? (i := 1) rfl)) (fun _ h9 => h9) rfl dX7_cases_88 ?_
                refine lv_iload_n hx hb dX7_cases_91 rfl (lv_at hl 1 rfl) ?_
                refine lv_aload_n hx hb dX7_cases_92 rfl (lv_at hl 0 rfl) ?_
                refine va_get (D := D) (ci := 7) (v := .ref j0) (C := RX7) (T := TX7) (N := 9) hx hb hts hi_X7_cases_7 hown hK hP 0 rfl rfl 1 (by decide) (hts (.fieldLink RX7 18 "TheLiningsInIt" "now" "LTheLiningsInIt$Jacket;") (List.mem_of_getElem? (i := 2) rfl)) (fun _ h9 => h9) rfl dX7_cases_93 ?_
                refine va_get (D := D) (ci := 0) (v := .int de) (C := RX0) (T := TX0) (N := 9) hx hb hts hi_X7_cases_0 hown hK hP 7 rfl rfl 4 (by decide) (hts (.fieldLink RX7 199 "TheLiningsInIt$Jacket" "depth" "I") (List.mem_of_getElem? (i := 4) rfl)) (fun _ h9 => h9) rfl dX7_cases_96 ?_
                refine lv_aload_n hx hb dX7_cases_99 rfl (lv_at hl 0 rfl) ?_
                refine va_get (D := D) (ci := 7) (v := .ref j0) (C := RX7) (T := TX7) (N := 9) hx hb hts hi_X7_cases_7 hown hK hP 0 rfl rfl 1 (by decide) (hts (.fieldLink RX7 18 "TheLiningsInIt" "now" "LTheLiningsInIt$Jacket;") (List.mem_of_getElem? (i := 2) rfl)) (fun _ h9 => h9) rfl dX7_cases_100 ?_
                refine va_get (D := D) (ci := 0) (v := .int se) (C := RX0) (T := TX0) (N := 9) hx hb hts hi_X7_cases_0 hown hK hP 7 rfl rfl 6 (by decide) (hts (.fieldLink RX7 202 "TheLiningsInIt$Jacket" "seconds" "I") (List.mem_of_getElem? (i := 5) rfl)) (fun _ h9 => h9) rfl dX7_cases_103 ?_
                skip
                refine zw_VN (As := [.int 0, .int de, .int se]) (rest := []) (wr := [(x0, .inr (7, [.ref xs, .ref j0, .ref k0, .ref w0, .ref rd, .ref mv, .ref xr, .int im, .int lf])), (xr, .inl (cI, 8, .inl fr)), (wl, .inl (cI, 125, .inl q_53)), (wc, .inl (cI, 3, .inl q_54)), (j0, .inr (0, [.ref z0, .ref jp, .ref jc, .int cn, .int de, .int tr, .int se, .int hu, .int sd])), (jp, .inl (cP, 8, .inr (.inr (.inr (.inr fp))))), (jc, .inl (cI, 3, .inl fjc))]) ⟨hx, hb, hml, hown, hts⟩ (c_F_W_most_0 l D cI cJ cZ cP cS po w0 wk wl wc wp (q_49) (q_50) (q_51) q_55 kf af tf (1) q_52 (de) (se) hbq_49.1 hbq_49.2 hbq_50.1 hbq_50.2 hbq_51.1 hbq_51.2 hjw9 (by first | assumption | omega) (by first | assumption | omega) hy6 hy7 hy18 hy19 H.size) ⟨(va_cnB 3 hts gX7_cases_X5_most_n208 rfl rfl rfl (hN.1 (RX7, 208, yX5_most) (List.mem_of_getElem? (i := 10) rfl)) (hts _ (List.mem_of_getElem? (i := 22) rfl)) dh_X5_most ⟨Nat.le_of_ble_eq_true rfl, Nat.le_of_ble_eq_true rfl⟩), (hts _ (List.mem_of_getElem? (i := 95) rfl)), (hts _ (List.mem_of_getElem? (i := 96) rfl))⟩ hK hN (hZ.kept hS) hP hD hS hA [2, 3, 6] [0, 1, 4, 5, 7, 8, 9] rfl rfl (by decide) (by decide) (by decide) (va_recv (q := (RX5, TX5, 7)) hK hP (ci := 5) (q0 := 2) rfl rfl) rfl hl.1 rfl (Nat.le_of_ble_eq_true rfl) dX7_cases_106 ⟨Nat.le_of_ble_eq_true rfl, Nat.le_of_ble_eq_true rfl⟩ (fun r_57 u_58 H locs hr_57 hP hD hS => ?_)
                obtain ⟨q_59, rfl⟩ : ∃ z, z = u_58 := ⟨_, rfl⟩
                obtain ⟨hsr_57_0, hsr_57_1, hr_57⟩ := hr_57
                have h9R := zRe (ws' := [(x0, .inr (7, [.ref xs, .ref j0, .ref k0, .ref w0, .ref rd, .ref mv, .ref xr, .int im, .int lf])), (xr, .inl (cI, 8, .inl fr)), (wl, .inl (cI, 125, .inl q_53)), (wc, .inl (cI, 3, .inl q_54)), (j0, .inr (0, [.ref z0, .ref jp, .ref jc, .int cn, .int de, .int tr, .int se, .int hu, .int sd])), (jp, .inl (cP, 8, .inr (.inr (.inr (.inr fp))))), (jc, .inl (cI, 3, .inl fjc)), (w0, .inr (5, [.ref wk, .ref wl, .ref wc, .ref wp, .int q_49, .int q_50, .int q_51])), (wk, .inl (cI, 125, .inl q_59)), (wp, .inl (cP, 8, .inr (.inr (.inr (.inr q_55)))))]) hP hD rfl
                clear hP hD
                obtain ⟨hP, hD⟩ := h9R
                obtain ⟨g_60, g_61⟩ := hr_57
                exact W.iret (v := r_57) hx hb hr (fun t ht hW => ⟨⟨r_57, (q_49, q_50, q_51, q_59, q_53, q_54, q_55, fr), rfl, ⟨(show 0 ≤ q_49.toInt ∧ q_49.toInt ≤ 8 from hbq_49), (show 0 ≤ q_50.toInt ∧ q_50.toInt ≤ 9 from hbq_50), (show 0 ≤ q_51.toInt ∧ q_51.toInt ≤ 60 from hbq_51), hpq_54, hwq_55, (show ((w.toInt < 0 ∨ 2 < w.toInt) ∧ (r_57 : Int32).toInt = -15) ∨ ((0 ≤ w.toInt ∧ w.toInt ≤ 2) ∧ ((((0 : Int32).toInt < 0 ∨ 4 < (0 : Int32).toInt) ∧ (r_57 : Int32).toInt = -16) ∨ ((0 ≤ (0 : Int32).toInt ∧ (0 : Int32).toInt ≤ 4) ∧ ((w.toInt = 1 ∧ (r_57 : Int32).toInt = zNq kf af tf cn.toInt.toNat hu.toInt (0 : Int32).toInt de.toInt se.toInt) ∨ (w.toInt ≠ 1 ∧ (r_57 : Int32).toInt = zM kf af tf cn.toInt.toNat hu.toInt (if w.toInt = 2 then 0 else 1) (0 : Int32).toInt.toNat de.toInt se.toInt))))) from by (have k0 : (0 : Int32).toInt = 0 := (by decide); have kte : (1 : Int32).toInt = 1 := (by decide); refine Or.inr ⟨by omega, Or.inr ⟨by omega, Or.inr ⟨by omega, (by have z := hsr_57_1; rw [kte, ewn, ewh] at z; rw [show (0 : Int32).toInt.toNat = 0 from by decide, if_neg (by omega)]; exact z)⟩⟩⟩)), trivial⟩, zRet ht hP hD [0, 1, 4, 7, 8, 2, 3, 9, 5, 6] (by decide) rfl⟩, hS.F ht⟩) hS.2.2 dX7_cases_109
              · have fc_56 : w.toInt = 1 := zf_eq c_56 rfl (by decide)
                refine lv_aload_n hx hb dX7_cases_64 rfl (lv_at hl 0 rfl) ?_
                refine va_get (D := D) (ci := 7) (v := .ref w0) (C := RX7) (T := TX7) (N := 9) hx hb hts hi_X7_cases_7 hown hK hP 0 rfl rfl 3 (by decide) (hts (.fieldLink RX7 28 "TheLiningsInIt" "ways" "LTheLiningsInIt$Ways;") (List.mem_of_getElem? (i := 1) rfl)) (fun _ h9 => h9) rfl dX7_cases_65 ?_
                refine lv_iload_n hx hb dX7_cases_68 rfl (lv_at hl 1 rfl) ?_
                refine lv_aload_n hx hb dX7_cases_69 rfl (lv_at hl 0 rfl) ?_
                refine va_get (D := D) (ci := 7) (v := .ref j0) (C := RX7) (T := TX7) (N := 9) hx hb hts hi_X7_cases_7 hown hK hP 0 rfl rfl 1 (by decide) (hts (.fieldLink RX7 18 "TheLiningsInIt" "now" "LTheLiningsInIt$Jacket;") (List.mem_of_getElem? (i := 2) rfl)) (fun _ h9 => h9) rfl dX7_cases_70 ?_
                refine va_get (D := D) (ci := 0) (v := .int de) (C := RX0) (T := TX0) (N := 9) hx hb hts hi_X7_cases_0 hown hK hP 7 rfl rfl 4 (by decide) (hts (.fieldLink RX7 199 "TheLiningsInIt$Jacket" "depth" "I") (List.mem_of_getElem? (i := 4) rfl)) (fun _ h9 => h9) rfl dX7_cases_73 ?_
                refine lv_aload_n hx hb dX7_cases_76 rfl (lv_at hl 0 rfl) ?_
                refine va_get (D := D) (ci := 7) (v := .ref j0) (C := RX7) (T := TX7) (N := 9) hx hb hts hi_X7_cases_7 hown hK hP 0 rfl rfl 1 (by decide) (hts (.fieldLink RX7 18 "TheLiningsInIt" "now" "LTheLiningsInIt$Jacket;") (List.mem_of_getElem? (i := 2) rfl)) (fun _ h9 => h9) rfl dX7_cases_77 ?_
                refine va_get (D := D) (ci := 0) (v := .int se) (C := RX0) (T := TX0) (N := 9) hx hb hts hi_X7_cases_0 hown hK hP 7 rfl rfl 6 (by decide) (hts (.fieldLink RX7 202 "TheLiningsInIt$Jacket" "seconds" "I") (List.mem_of_getElem? (i := 5) rfl)) (fun _ h9 => h9) rfl dX7_cases_80 ?_
                skip
                refine zw_V (As := [.int 0, .int de, .int se]) (rest := []) (wr := [(x0, .inr (7, [.ref xs, .ref j0, .ref k0, .ref w0, .ref rd, .ref mv, .ref xr, .int im, .int lf])), (xr, .inl (cI, 8, .inl fr)), (wl, .inl (cI, 125, .inl q_53)), (wc, .inl (cI, 3, .inl q_54)), (j0, .inr (0, [.ref z0, .ref jp, .ref jc, .int cn, .int de, .int tr, .int se, .int hu, .int sd])), (jp, .inl (cP, 8, .inr (.inr (.inr (.inr fp))))), (jc, .inl (cI, 3, .inl fjc))]) ⟨hx, hb, hml, hown, hts⟩ (c_F_W_next_0 l D cI cJ cZ cP cS po w0 wk wl wc wp (q_49) (q_50) (q_51) q_55 kf af tf (1) q_52 (de) (se) hbq_49.1 hbq_49.2 hbq_50.1 hbq_50.2 hbq_51.1 hbq_51.2 hjw9 (by first | assumption | omega) (by first | assumption | omega) hy6 hy7 hy18 hy19 H.size) (cwV 3 hts gX7_cases_X5_next rfl rfl rfl ⟨rfl, dh_X5_next⟩ ⟨Nat.le_of_ble_eq_true rfl, Nat.le_of_ble_eq_true rfl⟩) hK hN (hZ.kept hS) hP hD hS hA [2, 3, 6] [0, 1, 4, 5, 7, 8, 9] rfl rfl (by decide) (by decide) (by decide) (va_recv (q := (RX5, TX5, 7)) hK hP (ci := 5) (q0 := 2) rfl rfl) rfl hl.1 rfl (Nat.le_of_ble_eq_true rfl) dX7_cases_83 ⟨Nat.le_of_ble_eq_true rfl, Nat.le_of_ble_eq_true rfl⟩ (fun r_62 u_63 H locs hr_62 hP hD hS => ?_)
                obtain ⟨q_64, rfl⟩ : ∃ z, z = u_63 := ⟨_, rfl⟩
                obtain ⟨hsr_62_0, hsr_62_1, hr_62⟩ := hr_62
                have h9R := zRe (ws' := [(x0, .inr (7, [.ref xs, .ref j0, .ref k0, .ref w0, .ref rd, .ref mv, .ref xr, .int im, .int lf])), (xr, .inl (cI, 8, .inl fr)), (wl, .inl (cI, 125, .inl q_53)), (wc, .inl (cI, 3, .inl q_54)), (j0, .inr (0, [.ref z0, .ref jp, .ref jc, .int cn, .int de, .int tr, .int se, .int hu, .int sd])), (jp, .inl (cP, 8, .inr (.inr (.inr (.inr fp))))), (jc, .inl (cI, 3, .inl fjc)), (w0, .inr (5, [.ref wk, .ref wl, .ref wc, .ref wp, .int q_49, .int q_50, .int q_51])), (wk, .inl (cI, 125, .inl q_64)), (wp, .inl (cP, 8, .inr (.inr (.inr (.inr q_55)))))]) hP hD rfl
                clear hP hD
                obtain ⟨hP, hD⟩ := h9R
                obtain ⟨g_65, g_66⟩ := hr_62
                exact W.iret (v := r_62) hx hb hr (fun t ht hW => ⟨⟨r_62, (q_49, q_50, q_51, q_64, q_53, q_54, q_55, fr), rfl, ⟨(show 0 ≤ q_49.toInt ∧ q_49.toInt ≤ 8 from hbq_49), (show 0 ≤ q_50.toInt ∧ q_50.toInt ≤ 9 from hbq_50), (show 0 ≤ q_51.toInt ∧ q_51.toInt ≤ 60 from hbq_51), hpq_54, hwq_55, (show ((w.toInt < 0 ∨ 2 < w.toInt) ∧ (r_62 : Int32).toInt = -15) ∨ ((0 ≤ w.toInt ∧ w.toInt ≤ 2) ∧ ((((0 : Int32).toInt < 0 ∨ 4 < (0 : Int32).toInt) ∧ (r_62 : Int32).toInt = -16) ∨ ((0 ≤ (0 : Int32).toInt ∧ (0 : Int32).toInt ≤ 4) ∧ ((w.toInt = 1 ∧ (r_62 : Int32).toInt = zNq kf af tf cn.toInt.toNat hu.toInt (0 : Int32).toInt de.toInt se.toInt) ∨ (w.toInt ≠ 1 ∧ (r_62 : Int32).toInt = zM kf af tf cn.toInt.toNat hu.toInt (if w.toInt = 2 then 0 else 1) (0 : Int32).toInt.toNat de.toInt se.toInt))))) from by (have k0 : (0 : Int32).toInt = 0 := (by decide); have kte : (1 : Int32).toInt = 1 := (by decide); refine Or.inr ⟨by omega, Or.inr ⟨by omega, Or.inl ⟨by omega, (by unfold zNq; rw [if_pos (by decide)]; exact hsr_62_1)⟩⟩⟩)), trivial⟩, zRet ht hP hD [0, 1, 4, 7, 8, 2, 3, 9, 5, 6] (by decide) rfl⟩, hS.F ht⟩) hS.2.2 dX7_cases_86
          · refine lv_aload_n hx hb dX7_cases_31 rfl (lv_at hl 0 rfl) ?_
            refine va_get (D := D) (ci := 7) (v := .ref w0) (C := RX7) (T := TX7) (N := 9) hx hb hts hi_X7_cases_7 hown hK hP 0 rfl rfl 3 (by decide) (hts (.fieldLink RX7 28 "TheLiningsInIt" "ways" "LTheLiningsInIt$Ways;") (List.mem_of_getElem? (i := 1) rfl)) (fun _ h9 => h9) rfl dX7_cases_32 ?_
            refine lv_aload_n hx hb dX7_cases_35 rfl (lv_at hl 0 rfl) ?_
            refine va_get (D := D) (ci := 7) (v := .ref j0) (C := RX7) (T := TX7) (N := 9) hx hb hts hi_X7_cases_7 hown hK hP 0 rfl rfl 1 (by decide) (hts (.fieldLink RX7 18 "TheLiningsInIt" "now" "LTheLiningsInIt$Jacket;") (List.mem_of_getElem? (i := 2) rfl)) (fun _ h9 => h9) rfl dX7_cases_36 ?_
            refine lv_aload_n hx hb dX7_cases_39 rfl (lv_at hl 0 rfl) ?_
            refine va_get (D := D) (ci := 7) (v := .ref j0) (C := RX7) (T := TX7) (N := 9) hx hb hts hi_X7_cases_7 hown hK hP 0 rfl rfl 1 (by decide) (hts (.fieldLink RX7 18 "TheLiningsInIt" "now" "LTheLiningsInIt$Jacket;") (List.mem_of_getElem? (i := 2) rfl)) (fun _ h9 => h9) rfl dX7_cases_40 ?_
            refine va_get (D := D) (ci := 0) (v := .int hu) (C := RX0) (T := TX0) (N := 9) hx hb hts hi_X7_cases_0 hown hK hP 2 rfl rfl 7 (by decide) (hts (.fieldLink RX7 116 "TheLiningsInIt$Jacket" "hurry" "I") (List.mem_of_getElem? (i := 3) rfl)) (fun _ h9 => h9) rfl dX7_cases_43 ?_
            refine lv_iload_n hx hb dX7_cases_46 rfl (lv_at hl 2 rfl) ?_
            refine lv_iconst (v := 2) hx hb dX7_cases_47 (by decide) ?_
            refine lv_icmp_eq (tgt := 55) hx hb dX7_cases_48 (by decide) (fun c_67 => ?_) (fun c_67 => ?_)
            · have fc_67 : w.toInt = 2 := zf_eq c_67 rfl (by decide)
              refine lv_iconst (v := 0) hx hb dX7_cases_55 (by decide) ?_
              skip
              refine zw_Vv (As := [.ref j0, .int hu, .int 0]) (rest := []) (wr := [(x0, .inr (7, [.ref xs, .ref j0, .ref k0, .ref w0, .ref rd, .ref mv, .ref xr, .int im, .int lf])), (xr, .inl (cI, 8, .inl fr))]) ⟨hx, hb, hml, hown, hts⟩ (c_F_W_look l D cI cJ cZ cP cS po w0 wk wl wc wp (wn) (wh) (wg) j0 jp jc z0 0 0 (cn) (de) (tr) (se) (hu) (sd) fp fq kf af tf fk fl fc fjc (hu) (0) hy10 hy11 hy12 hy13 hy14 hy15 hy4 hy5 hy6 hy7 hy8 hy9 hy8 hy9 hwq hjp hp_fc hp_fjc H.size) (cwV 3 hts gX7_cases_X5_look rfl rfl rfl ⟨rfl, dh_X5_look⟩ ⟨Nat.le_of_ble_eq_true rfl, Nat.le_of_ble_eq_true rfl⟩) hK hN (hZ.kept hS) hP hD hS hA [3, 4, 5, 6, 7, 2, 8, 9] [0, 1] rfl rfl (by decide) (by decide) (by decide) (va_recv (q := (RX5, TX5, 7)) hK hP (ci := 5) (q0 := 3) rfl rfl) rfl hl.1 rfl (Nat.le_of_ble_eq_true rfl) dX7_cases_56 ⟨Nat.le_of_ble_eq_true rfl, Nat.le_of_ble_eq_true rfl⟩ (fun u_69 H locs hr_68 hP hD hS => ?_)
              obtain ⟨q_70, q_71, q_72, q_73, q_74, q_75, q_76⟩ := u_69
              try dsimp only at hr_68
              obtain ⟨hbq_70, hbq_71, hbq_72, hpq_75, hwq_76, hsr_68_0, hsr_68_1, hsr_68_2, hsr_68_3, hsr_68_4, hsr_68_5, hr_68⟩ := hr_68
              have h9R := zRe (ws' := [(x0, .inr (7, [.ref xs, .ref j0, .ref k0, .ref w0, .ref rd, .ref mv, .ref xr, .int im, .int lf])), (xr, .inl (cI, 8, .inl fr)), (w0, .inr (5, [.ref wk, .ref wl, .ref wc, .ref wp, .int q_70, .int q_71, .int q_72])), (wk, .inl (cI, 125, .inl q_73)), (wl, .inl (cI, 125, .inl q_74)), (wc, .inl (cI, 3, .inl q_75)), (wp, .inl (cP, 8, .inr (.inr (.inr (.inr q_76))))), (j0, .inr (0, [.ref z0, .ref jp, .ref jc, .int cn, .int de, .int tr, .int se, .int hu, .int sd])), (jp, .inl (cP, 8, .inr (.inr (.inr (.inr fp))))), (jc, .inl (cI, 3, .inl fjc))]) hP hD rfl
              clear hP hD
              obtain ⟨hP, hD⟩ := h9R
              obtain ⟨ewn, ewh⟩ := hsr_68_2
              have ewn9 := congrArg Int32.toInt ewn
              have ewh9 := congrArg Int32.toInt ewh
              have hjw9 : zJW po q_76 q_70 kf af tf (0 : Int32) := by (intro j hj; exact hsr_68_0 j (by rw [← ewn]; exact hj))
              have hkm9 : zKm kf af tf q_70.toInt.toNat q_71.toInt (0 : Int32).toInt q_72.toInt q_73 := zKm_0 hsr_68_4
              have hgl9 : ∀ p : Nat, p < q_70.toInt.toNat → ((0 : Int32).toInt ≠ 0 ∨ (kf p).toInt ≠ 5) → (tf p).toInt ≤ q_72.toInt := fun p hp hl => hsr_68_1 p (by rw [ewn] at hp; omega) hl
              refine lv_iload_n hx hb dX7_cases_59 rfl (lv_at hl 2 rfl) ?_
              refine lv_iconst (v := 1) hx hb dX7_cases_60 (by decide) ?_
              refine lv_icmp_ne (tgt := 87) hx hb dX7_cases_61 (by decide) (fun c_77 => ?_) (fun c_77 => ?_)
              · have fc_77 : w.toInt ≠ 1 := zf_ne c_77 rfl (by decide)
                refine lv_aload_n hx hb dX7_cases_87 rfl (lv_at hl 0 rfl) ?_
                refine va_get (D := D) (ci := 7) (v := .ref w0) (C := RX7) (T := TX7) (N := 9) hx hb hts hi_X7_cases_7 hown hK hP 0 rfl rfl 3 (by decide) (hts (.fieldLink RX7 28 "TheLiningsInIt" "ways" "LTheLiningsInIt$Ways;") (List.mem_of_getElem? (i := 1) rfl)) (fun _ h9 => h9) rfl dX7_cases_88 ?_
                refine lv_iload_n hx hb dX7_cases_91 rfl (lv_at hl 1 rfl) ?_
                refine lv_aload_n hx hb dX7_cases_92 rfl (lv_at hl 0 rfl) ?_
                refine va_get (D := D) (ci := 7) (v := .ref j0) (C := RX7) (T := TX7) (N := 9) hx hb hts hi_X7_cases_7 hown hK hP 0 rfl rfl 1 (by decide) (hts (.fieldLink RX7 18 "TheLiningsInIt" "now" "LTheLiningsInIt$Jacket;") (List.mem_of_getElem? (i := 2) rfl)) (fun _ h9 => h9) rfl dX7_cases_93 ?_
                refine va_get (D := D) (ci := 0) (v := .int de) (C := RX0) (T := TX0) (N := 9) hx hb hts hi_X7_cases_0 hown hK hP 7 rfl rfl 4 (by decide) (hts (.fieldLink RX7 199 "TheLiningsInIt$Jacket" "depth" "I") (List.mem_of_getElem? (i := 4) rfl)) (fun _ h9 => h9) rfl dX7_cases_96 ?_
                refine lv_aload_n hx hb dX7_cases_99 rfl (lv_at hl 0 rfl) ?_
                refine va_get (D := D) (ci := 7) (v := .ref j0) (C := RX7) (T := TX7) (N := 9) hx hb hts hi_X7_cases_7 hown hK hP 0 rfl rfl 1 (by decide) (hts (.fieldLink RX7 18 "TheLiningsInIt" "now" "LTheLiningsInIt$Jacket;") (List.mem_of_getElem? (i := 2) rfl)) (fun _ h9 => h9) rfl dX7_cases_100 ?_
                refine va_get (D := D) (ci := 0) (v := .int se) (C := RX0) (T := TX0) (N := 9) hx hb hts hi_X7_cases_0 hown hK hP 7 rfl rfl 6 (by decide) (hts (.fieldLink RX7 202 "TheLiningsInIt$Jacket" "seconds" "I") (List.mem_of_getElem? (i := 5) rfl)) (fun _ h9 => h9) rfl dX7_cases_103 ?_
                skip
                refine zw_VN (As := [.int 1, .int de, .int se]) (rest := []) (wr := [(x0, .inr (7, [.ref xs, .ref j0, .ref k0, .ref w0, .ref rd, .ref mv, .ref xr, .int im, .int lf])), (xr, .inl (cI, 8, .inl fr)), (wl, .inl (cI, 125, .inl q_74)), (wc, .inl (cI, 3, .inl q_75)), (j0, .inr (0, [.ref z0, .ref jp, .ref jc, .int cn, .int de, .int tr, .int se, .int hu, .int sd])), (jp, .inl (cP, 8, .inr (.inr (.inr (.inr fp))))), (jc, .inl (cI, 3, .inl fjc))]) ⟨hx, hb, hml, hown, hts⟩ (c_F_W_most_1 l D cI cJ cZ cP cS po w0 wk wl wc wp (q_70) (q_71) (q_72) q_76 kf af tf (0) q_73 (de) (se) hbq_70.1 hbq_70.2 hbq_71.1 hbq_71.2 hbq_72.1 hbq_72.2 hjw9 (by first | assumption | omega) (by first | assumption | omega) hy6 hy7 hy18 hy19 H.size) ⟨(va_cnB 3 hts gX7_cases_X5_most_n208 rfl rfl rfl (hN.1 (RX7, 208, yX5_most) (List.mem_of_getElem? (i := 10) rfl)) (hts _ (List.mem_of_getElem? (i := 22) rfl)) dh_X5_most ⟨Nat.le_of_ble_eq_true rfl, Nat.le_of_ble_eq_true rfl⟩), (hts _ (List.mem_of_getElem? (i := 95) rfl)), (hts _ (List.mem_of_getElem? (i := 96) rfl))⟩ hK hN (hZ.kept hS) hP hD hS hA [2, 3, 6] [0, 1, 4, 5, 7, 8, 9] rfl rfl (by decide) (by decide) (by decide) (va_recv (q := (RX5, TX5, 7)) hK hP (ci := 5) (q0 := 2) rfl rfl) rfl hl.1 rfl (Nat.le_of_ble_eq_true rfl) dX7_cases_106 ⟨Nat.le_of_ble_eq_true rfl, Nat.le_of_ble_eq_true rfl⟩ (fun r_78 u_79 H locs hr_78 hP hD hS => ?_)
                obtain ⟨q_80, rfl⟩ : ∃ z, z = u_79 := ⟨_, rfl⟩
                obtain ⟨hsr_78_0, hsr_78_1, hr_78⟩ := hr_78
                have h9R := zRe (ws' := [(x0, .inr (7, [.ref xs, .ref j0, .ref k0, .ref w0, .ref rd, .ref mv, .ref xr, .int im, .int lf])), (xr, .inl (cI, 8, .inl fr)), (wl, .inl (cI, 125, .inl q_74)), (wc, .inl (cI, 3, .inl q_75)), (j0, .inr (0, [.ref z0, .ref jp, .ref jc, .int cn, .int de, .int tr, .int se, .int hu, .int sd])), (jp, .inl (cP, 8, .inr (.inr (.inr (.inr fp))))), (jc, .inl (cI, 3, .inl fjc)), (w0, .inr (5, [.ref wk, .ref wl, .ref wc, .ref wp, .int q_70, .int q_71, .int q_72])), (wk, .inl (cI, 125, .inl q_80)), (wp, .inl (cP, 8, .inr (.inr (.inr (.inr q_76)))))]) hP hD rfl
                clear hP hD
                obtain ⟨hP, hD⟩ := h9R
                obtain ⟨g_81, g_82⟩ := hr_78
                exact W.iret (v := r_78) hx hb hr (fun t ht hW => ⟨⟨r_78, (q_70, q_71, q_72, q_80, q_74, q_75, q_76, fr), rfl, ⟨(show 0 ≤ q_70.toInt ∧ q_70.toInt ≤ 8 from hbq_70), (show 0 ≤ q_71.toInt ∧ q_71.toInt ≤ 9 from hbq_71), (show 0 ≤ q_72.toInt ∧ q_72.toInt ≤ 60 from hbq_72), hpq_75, hwq_76, (show ((w.toInt < 0 ∨ 2 < w.toInt) ∧ (r_78 : Int32).toInt = -15) ∨ ((0 ≤ w.toInt ∧ w.toInt ≤ 2) ∧ ((((1 : Int32).toInt < 0 ∨ 4 < (1 : Int32).toInt) ∧ (r_78 : Int32).toInt = -16) ∨ ((0 ≤ (1 : Int32).toInt ∧ (1 : Int32).toInt ≤ 4) ∧ ((w.toInt = 1 ∧ (r_78 : Int32).toInt = zNq kf af tf cn.toInt.toNat hu.toInt (1 : Int32).toInt de.toInt se.toInt) ∨ (w.toInt ≠ 1 ∧ (r_78 : Int32).toInt = zM kf af tf cn.toInt.toNat hu.toInt (if w.toInt = 2 then 0 else 1) (1 : Int32).toInt.toNat de.toInt se.toInt))))) from by (have k1 : (1 : Int32).toInt = 1 := (by decide); have kte : (0 : Int32).toInt = 0 := (by decide); refine Or.inr ⟨by omega, Or.inr ⟨by omega, Or.inr ⟨by omega, (by have z := hsr_78_1; rw [kte, ewn, ewh] at z; rw [show (1 : Int32).toInt.toNat = 1 from by decide, if_pos (by omega)]; exact z)⟩⟩⟩)), trivial⟩, zRet ht hP hD [0, 1, 4, 7, 8, 2, 3, 9, 5, 6] (by decide) rfl⟩, hS.F ht⟩) hS.2.2 dX7_cases_109
              · exfalso; have fc_77 : w.toInt = 1 := zf_eq c_77 rfl (by decide); omega
            · have fc_67 : w.toInt ≠ 2 := zf_ne c_67 rfl (by decide)
              refine lv_iconst (v := 1) hx hb dX7_cases_51 (by decide) ?_
              refine lv_goto (tgt := 56) hx hb dX7_cases_52 (by decide) ?_
              have kc1 : (1 : Int32).toInt = 1 := by decide
              skip
              refine zw_Vv (As := [.ref j0, .int hu, .int 1]) (rest := []) (wr := [(x0, .inr (7, [.ref xs, .ref j0, .ref k0, .ref w0, .ref rd, .ref mv, .ref xr, .int im, .int lf])), (xr, .inl (cI, 8, .inl fr))]) ⟨hx, hb, hml, hown, hts⟩ (c_F_W_look l D cI cJ cZ cP cS po w0 wk wl wc wp (wn) (wh) (wg) j0 jp jc z0 0 0 (cn) (de) (tr) (se) (hu) (sd) fp fq kf af tf fk fl fc fjc (hu) (1) hy10 hy11 hy12 hy13 hy14 hy15 hy4 hy5 hy6 hy7 hy8 hy9 hy8 hy9 hwq hjp hp_fc hp_fjc H.size) (cwV 3 hts gX7_cases_X5_look rfl rfl rfl ⟨rfl, dh_X5_look⟩ ⟨Nat.le_of_ble_eq_true rfl, Nat.le_of_ble_eq_true rfl⟩) hK hN (hZ.kept hS) hP hD hS hA [3, 4, 5, 6, 7, 2, 8, 9] [0, 1] rfl rfl (by decide) (by decide) (by decide) (va_recv (q := (RX5, TX5, 7)) hK hP (ci := 5) (q0 := 3) rfl rfl) rfl hl.1 rfl (Nat.le_of_ble_eq_true rfl) dX7_cases_56 ⟨Nat.le_of_ble_eq_true rfl, Nat.le_of_ble_eq_true rfl⟩ (fun u_84 H locs hr_83 hP hD hS => ?_)
              obtain ⟨q_85, q_86, q_87, q_88, q_89, q_90, q_91⟩ := u_84
              try dsimp only at hr_83
              obtain ⟨hbq_85, hbq_86, hbq_87, hpq_90, hwq_91, hsr_83_0, hsr_83_1, hsr_83_2, hsr_83_3, hsr_83_4, hsr_83_5, hr_83⟩ := hr_83
              have h9R := zRe (ws' := [(x0, .inr (7, [.ref xs, .ref j0, .ref k0, .ref w0, .ref rd, .ref mv, .ref xr, .int im, .int lf])), (xr, .inl (cI, 8, .inl fr)), (w0, .inr (5, [.ref wk, .ref wl, .ref wc, .ref wp, .int q_85, .int q_86, .int q_87])), (wk, .inl (cI, 125, .inl q_88)), (wl, .inl (cI, 125, .inl q_89)), (wc, .inl (cI, 3, .inl q_90)), (wp, .inl (cP, 8, .inr (.inr (.inr (.inr q_91))))), (j0, .inr (0, [.ref z0, .ref jp, .ref jc, .int cn, .int de, .int tr, .int se, .int hu, .int sd])), (jp, .inl (cP, 8, .inr (.inr (.inr (.inr fp))))), (jc, .inl (cI, 3, .inl fjc))]) hP hD rfl
              clear hP hD
              obtain ⟨hP, hD⟩ := h9R
              obtain ⟨ewn, ewh⟩ := hsr_83_2
              have ewn9 := congrArg Int32.toInt ewn
              have ewh9 := congrArg Int32.toInt ewh
              have hjw9 : zJW po q_91 q_85 kf af tf (1 : Int32) := by (intro j hj; exact hsr_83_0 j (by rw [← ewn]; exact hj))
              have hkm9 : zKm kf af tf q_85.toInt.toNat q_86.toInt (1 : Int32).toInt q_87.toInt q_88 := zKm_0 hsr_83_4
              have hgl9 : ∀ p : Nat, p < q_85.toInt.toNat → ((1 : Int32).toInt ≠ 0 ∨ (kf p).toInt ≠ 5) → (tf p).toInt ≤ q_87.toInt := fun p hp hl => hsr_83_1 p (by rw [ewn] at hp; omega) hl
              have hkn9 : zKn kf af tf q_85.toInt.toNat q_86.toInt (q_90 0).toInt (q_90 1).toInt (q_90 2).toInt q_87.toInt q_89 := zKn_0 hsr_83_5
              have hgk9 : ∀ p : Nat, p < q_85.toInt.toNat → (tf p).toInt ≤ q_87.toInt := fun p hp => hgl9 p hp (Or.inl (by decide))
              refine lv_iload_n hx hb dX7_cases_59 rfl (lv_at hl 2 rfl) ?_
              refine lv_iconst (v := 1) hx hb dX7_cases_60 (by decide) ?_
              refine lv_icmp_ne (tgt := 87) hx hb dX7_cases_61 (by decide) (fun c_92 => ?_) (fun c_92 => ?_)
              · have fc_92 : w.toInt ≠ 1 := zf_ne c_92 rfl (by decide)
                refine lv_aload_n hx hb dX7_cases_87 rfl (lv_at hl 0 rfl) ?_
                refine va_get (D := D) (ci := 7) (v := .ref w0) (C := RX7) (T := TX7) (N := 9) hx hb hts hi_X7_cases_7 hown hK hP 0 rfl rfl 3 (by decide) (hts (.fieldLink RX7 28 "TheLiningsInIt" "ways" "LTheLiningsInIt$Ways;") (List.mem_of_getElem? (i := 1) rfl)) (fun _ h9 => h9) rfl dX7_cases_88 ?_
                refine lv_iload_n hx hb dX7_cases_91 rfl (lv_at hl 1 rfl) ?_
                refine lv_aload_n hx hb dX7_cases_92 rfl (lv_at hl 0 rfl) ?_
                refine va_get (D := D) (ci := 7) (v := .ref j0) (C := RX7) (T := TX7) (N := 9) hx hb hts hi_X7_cases_7 hown hK hP 0 rfl rfl 1 (by decide) (hts (.fieldLink RX7 18 "TheLiningsInIt" "now" "LTheLiningsInIt$Jacket;") (List.mem_of_getElem? (i := 2) rfl)) (fun _ h9 => h9) rfl dX7_cases_93 ?_
                refine va_get (D := D) (ci := 0) (v := .int de) (C := RX0) (T := TX0) (N := 9) hx hb hts hi_X7_cases_0 hown hK hP 7 rfl rfl 4 (by decide) (hts (.fieldLink RX7 199 "TheLiningsInIt$Jacket" "depth" "I") (List.mem_of_getElem? (i := 4) rfl)) (fun _ h9 => h9) rfl dX7_cases_96 ?_
                refine lv_aload_n hx hb dX7_cases_99 rfl (lv_at hl 0 rfl) ?_
                refine va_get (D := D) (ci := 7) (v := .ref j0) (C := RX7) (T := TX7) (N := 9) hx hb hts hi_X7_cases_7 hown hK hP 0 rfl rfl 1 (by decide) (hts (.fieldLink RX7 18 "TheLiningsInIt" "now" "LTheLiningsInIt$Jacket;") (List.mem_of_getElem? (i := 2) rfl)) (fun _ h9 => h9) rfl dX7_cases_100 ?_
                refine va_get (D := D) (ci := 0) (v := .int se) (C := RX0) (T := TX0) (N := 9) hx hb hts hi_X7_cases_0 hown hK hP 7 rfl rfl 6 (by decide) (hts (.fieldLink RX7 202 "TheLiningsInIt$Jacket" "seconds" "I") (List.mem_of_getElem? (i := 5) rfl)) (fun _ h9 => h9) rfl dX7_cases_103 ?_
                skip
                refine zw_VN (As := [.int 1, .int de, .int se]) (rest := []) (wr := [(x0, .inr (7, [.ref xs, .ref j0, .ref k0, .ref w0, .ref rd, .ref mv, .ref xr, .int im, .int lf])), (xr, .inl (cI, 8, .inl fr)), (wl, .inl (cI, 125, .inl q_89)), (wc, .inl (cI, 3, .inl q_90)), (j0, .inr (0, [.ref z0, .ref jp, .ref jc, .int cn, .int de, .int tr, .int se, .int hu, .int sd])), (jp, .inl (cP, 8, .inr (.inr (.inr (.inr fp))))), (jc, .inl (cI, 3, .inl fjc))]) ⟨hx, hb, hml, hown, hts⟩ (c_F_W_most_1 l D cI cJ cZ cP cS po w0 wk wl wc wp (q_85) (q_86) (q_87) q_91 kf af tf (1) q_88 (de) (se) hbq_85.1 hbq_85.2 hbq_86.1 hbq_86.2 hbq_87.1 hbq_87.2 hjw9 (by first | assumption | omega) (by first | assumption | omega) hy6 hy7 hy18 hy19 H.size) ⟨(va_cnB 3 hts gX7_cases_X5_most_n208 rfl rfl rfl (hN.1 (RX7, 208, yX5_most) (List.mem_of_getElem? (i := 10) rfl)) (hts _ (List.mem_of_getElem? (i := 22) rfl)) dh_X5_most ⟨Nat.le_of_ble_eq_true rfl, Nat.le_of_ble_eq_true rfl⟩), (hts _ (List.mem_of_getElem? (i := 95) rfl)), (hts _ (List.mem_of_getElem? (i := 96) rfl))⟩ hK hN (hZ.kept hS) hP hD hS hA [2, 3, 6] [0, 1, 4, 5, 7, 8, 9] rfl rfl (by decide) (by decide) (by decide) (va_recv (q := (RX5, TX5, 7)) hK hP (ci := 5) (q0 := 2) rfl rfl) rfl hl.1 rfl (Nat.le_of_ble_eq_true rfl) dX7_cases_106 ⟨Nat.le_of_ble_eq_true rfl, Nat.le_of_ble_eq_true rfl⟩ (fun r_93 u_94 H locs hr_93 hP hD hS => ?_)
                obtain ⟨q_95, rfl⟩ : ∃ z, z = u_94 := ⟨_, rfl⟩
                obtain ⟨hsr_93_0, hsr_93_1, hr_93⟩ := hr_93
                have h9R := zRe (ws' := [(x0, .inr (7, [.ref xs, .ref j0, .ref k0, .ref w0, .ref rd, .ref mv, .ref xr, .int im, .int lf])), (xr, .inl (cI, 8, .inl fr)), (wl, .inl (cI, 125, .inl q_89)), (wc, .inl (cI, 3, .inl q_90)), (j0, .inr (0, [.ref z0, .ref jp, .ref jc, .int cn, .int de, .int tr, .int se, .int hu, .int sd])), (jp, .inl (cP, 8, .inr (.inr (.inr (.inr fp))))), (jc, .inl (cI, 3, .inl fjc)), (w0, .inr (5, [.ref wk, .ref wl, .ref wc, .ref wp, .int q_85, .int q_86, .int q_87])), (wk, .inl (cI, 125, .inl q_95)), (wp, .inl (cP, 8, .inr (.inr (.inr (.inr q_91)))))]) hP hD rfl
                clear hP hD
                obtain ⟨hP, hD⟩ := h9R
                obtain ⟨g_96, g_97⟩ := hr_93
                exact W.iret (v := r_93) hx hb hr (fun t ht hW => ⟨⟨r_93, (q_85, q_86, q_87, q_95, q_89, q_90, q_91, fr), rfl, ⟨(show 0 ≤ q_85.toInt ∧ q_85.toInt ≤ 8 from hbq_85), (show 0 ≤ q_86.toInt ∧ q_86.toInt ≤ 9 from hbq_86), (show 0 ≤ q_87.toInt ∧ q_87.toInt ≤ 60 from hbq_87), hpq_90, hwq_91, (show ((w.toInt < 0 ∨ 2 < w.toInt) ∧ (r_93 : Int32).toInt = -15) ∨ ((0 ≤ w.toInt ∧ w.toInt ≤ 2) ∧ ((((1 : Int32).toInt < 0 ∨ 4 < (1 : Int32).toInt) ∧ (r_93 : Int32).toInt = -16) ∨ ((0 ≤ (1 : Int32).toInt ∧ (1 : Int32).toInt ≤ 4) ∧ ((w.toInt = 1 ∧ (r_93 : Int32).toInt = zNq kf af tf cn.toInt.toNat hu.toInt (1 : Int32).toInt de.toInt se.toInt) ∨ (w.toInt ≠ 1 ∧ (r_93 : Int32).toInt = zM kf af tf cn.toInt.toNat hu.toInt (if w.toInt = 2 then 0 else 1) (1 : Int32).toInt.toNat de.toInt se.toInt))))) from by (have k1 : (1 : Int32).toInt = 1 := (by decide); have kte : (1 : Int32).toInt = 1 := (by decide); refine Or.inr ⟨by omega, Or.inr ⟨by omega, Or.inr ⟨by omega, (by have z := hsr_93_1; rw [kte, ewn, ewh] at z; rw [show (1 : Int32).toInt.toNat = 1 from by decide, if_neg (by omega)]; exact z)⟩⟩⟩)), trivial⟩, zRet ht hP hD [0, 1, 4, 7, 8, 2, 3, 9, 5, 6] (by decide) rfl⟩, hS.F ht⟩) hS.2.2 dX7_cases_109
              · have fc_92 : w.toInt = 1 := zf_eq c_92 rfl (by decide)
                refine lv_aload_n hx hb dX7_cases_64 rfl (lv_at hl 0 rfl) ?_
                refine va_get (D := D) (ci := 7) (v := .ref w0) (C := RX7) (T := TX7) (N := 9) hx hb hts hi_X7_cases_7 hown hK hP 0 rfl rfl 3 (by decide) (hts (.fieldLink RX7 28 "TheLiningsInIt" "ways" "LTheLiningsInIt$Ways;") (List.mem_of_getElem? (i := 1) rfl)) (fun _ h9 => h9) rfl dX7_cases_65 ?_
                refine lv_iload_n hx hb dX7_cases_68 rfl (lv_at hl 1 rfl) ?_
                refine lv_aload_n hx hb dX7_cases_69 rfl (lv_at hl 0 rfl) ?_
                refine va_get (D := D) (ci := 7) (v := .ref j0) (C := RX7) (T := TX7) (N := 9) hx hb hts hi_X7_cases_7 hown hK hP 0 rfl rfl 1 (by decide) (hts (.fieldLink RX7 18 "TheLiningsInIt" "now" "LTheLiningsInIt$Jacket;") (List.mem_of_getElem? (i := 2) rfl)) (fun _ h9 => h9) rfl dX7_cases_70 ?_
                refine va_get (D := D) (ci := 0) (v := .int de) (C := RX0) (T := TX0) (N := 9) hx hb hts hi_X7_cases_0 hown hK hP 7 rfl rfl 4 (by decide) (hts (.fieldLink RX7 199 "TheLiningsInIt$Jacket" "depth" "I") (List.mem_of_getElem? (i := 4) rfl)) (fun _ h9 => h9) rfl dX7_cases_73 ?_
                refine lv_aload_n hx hb dX7_cases_76 rfl (lv_at hl 0 rfl) ?_
                refine va_get (D := D) (ci := 7) (v := .ref j0) (C := RX7) (T := TX7) (N := 9) hx hb hts hi_X7_cases_7 hown hK hP 0 rfl rfl 1 (by decide) (hts (.fieldLink RX7 18 "TheLiningsInIt" "now" "LTheLiningsInIt$Jacket;") (List.mem_of_getElem? (i := 2) rfl)) (fun _ h9 => h9) rfl dX7_cases_77 ?_
                refine va_get (D := D) (ci := 0) (v := .int se) (C := RX0) (T := TX0) (N := 9) hx hb hts hi_X7_cases_0 hown hK hP 7 rfl rfl 6 (by decide) (hts (.fieldLink RX7 202 "TheLiningsInIt$Jacket" "seconds" "I") (List.mem_of_getElem? (i := 5) rfl)) (fun _ h9 => h9) rfl dX7_cases_80 ?_
                skip
                refine zw_V (As := [.int 1, .int de, .int se]) (rest := []) (wr := [(x0, .inr (7, [.ref xs, .ref j0, .ref k0, .ref w0, .ref rd, .ref mv, .ref xr, .int im, .int lf])), (xr, .inl (cI, 8, .inl fr)), (wl, .inl (cI, 125, .inl q_89)), (wc, .inl (cI, 3, .inl q_90)), (j0, .inr (0, [.ref z0, .ref jp, .ref jc, .int cn, .int de, .int tr, .int se, .int hu, .int sd])), (jp, .inl (cP, 8, .inr (.inr (.inr (.inr fp))))), (jc, .inl (cI, 3, .inl fjc))]) ⟨hx, hb, hml, hown, hts⟩ (c_F_W_next_1 l D cI cJ cZ cP cS po w0 wk wl wc wp (q_85) (q_86) (q_87) q_91 kf af tf (1) q_88 (de) (se) hbq_85.1 hbq_85.2 hbq_86.1 hbq_86.2 hbq_87.1 hbq_87.2 hjw9 (by first | assumption | omega) (by first | assumption | omega) hy6 hy7 hy18 hy19 H.size) (cwV 3 hts gX7_cases_X5_next rfl rfl rfl ⟨rfl, dh_X5_next⟩ ⟨Nat.le_of_ble_eq_true rfl, Nat.le_of_ble_eq_true rfl⟩) hK hN (hZ.kept hS) hP hD hS hA [2, 3, 6] [0, 1, 4, 5, 7, 8, 9] rfl rfl (by decide) (by decide) (by decide) (va_recv (q := (RX5, TX5, 7)) hK hP (ci := 5) (q0 := 2) rfl rfl) rfl hl.1 rfl (Nat.le_of_ble_eq_true rfl) dX7_cases_83 ⟨Nat.le_of_ble_eq_true rfl, Nat.le_of_ble_eq_true rfl⟩ (fun r_98 u_99 H locs hr_98 hP hD hS => ?_)
                obtain ⟨q_100, rfl⟩ : ∃ z, z = u_99 := ⟨_, rfl⟩
                obtain ⟨hsr_98_0, hsr_98_1, hr_98⟩ := hr_98
                have h9R := zRe (ws' := [(x0, .inr (7, [.ref xs, .ref j0, .ref k0, .ref w0, .ref rd, .ref mv, .ref xr, .int im, .int lf])), (xr, .inl (cI, 8, .inl fr)), (wl, .inl (cI, 125, .inl q_89)), (wc, .inl (cI, 3, .inl q_90)), (j0, .inr (0, [.ref z0, .ref jp, .ref jc, .int cn, .int de, .int tr, .int se, .int hu, .int sd])), (jp, .inl (cP, 8, .inr (.inr (.inr (.inr fp))))), (jc, .inl (cI, 3, .inl fjc)), (w0, .inr (5, [.ref wk, .ref wl, .ref wc, .ref wp, .int q_85, .int q_86, .int q_87])), (wk, .inl (cI, 125, .inl q_100)), (wp, .inl (cP, 8, .inr (.inr (.inr (.inr q_91)))))]) hP hD rfl
                clear hP hD
                obtain ⟨hP, hD⟩ := h9R
                obtain ⟨g_101, g_102⟩ := hr_98
                exact W.iret (v := r_98) hx hb hr (fun t ht hW => ⟨⟨r_98, (q_85, q_86, q_87, q_100, q_89, q_90, q_91, fr), rfl, ⟨(show 0 ≤ q_85.toInt ∧ q_85.toInt ≤ 8 from hbq_85), (show 0 ≤ q_86.toInt ∧ q_86.toInt ≤ 9 from hbq_86), (show 0 ≤ q_87.toInt ∧ q_87.toInt ≤ 60 from hbq_87), hpq_90, hwq_91, (show ((w.toInt < 0 ∨ 2 < w.toInt) ∧ (r_98 : Int32).toInt = -15) ∨ ((0 ≤ w.toInt ∧ w.toInt ≤ 2) ∧ ((((1 : Int32).toInt < 0 ∨ 4 < (1 : Int32).toInt) ∧ (r_98 : Int32).toInt = -16) ∨ ((0 ≤ (1 : Int32).toInt ∧ (1 : Int32).toInt ≤ 4) ∧ ((w.toInt = 1 ∧ (r_98 : Int32).toInt = zNq kf af tf cn.toInt.toNat hu.toInt (1 : Int32).toInt de.toInt se.toInt) ∨ (w.toInt ≠ 1 ∧ (r_98 : Int32).toInt = zM kf af tf cn.toInt.toNat hu.toInt (if w.toInt = 2 then 0 else 1) (1 : Int32).toInt.toNat de.toInt se.toInt))))) from by (have k1 : (1 : Int32).toInt = 1 := (by decide); have kte : (1 : Int32).toInt = 1 := (by decide); refine Or.inr ⟨by omega, Or.inr ⟨by omega, Or.inl ⟨by omega, (by have z := hsr_98_1; rw [kte, ewn, ewh] at z; unfold zNq; rw [show (1 : Int32).toInt = 1 from by decide, if_neg (by decide), show ((1 : Int) - 1).toNat = 0 from by decide]; exact z)⟩⟩⟩)), trivial⟩, zRet ht hP hD [0, 1, 4, 7, 8, 2, 3, 9, 5, 6] (by decide) rfl⟩, hS.F ht⟩) hS.2.2 dX7_cases_86
          · refine lv_aload_n hx hb dX7_cases_31 rfl (lv_at hl 0 rfl) ?_
            refine va_get (D := D) (ci := 7) (v := .ref w0) (C := RX7) (T := TX7) (N := 9) hx hb hts hi_X7_cases_7 hown hK hP 0 rfl rfl 3 (by decide) (hts (.fieldLink RX7 28 "TheLiningsInIt" "ways" "LTheLiningsInIt$Ways;") (List.mem_of_getElem? (i := 1) rfl)) (fun _ h9 => h9) rfl dX7_cases_32 ?_
            refine lv_aload_n hx hb dX7_cases_35 rfl (lv_at hl 0 rfl) ?_
            refine va_get (D := D) (ci := 7) (v := .ref j0) (C := RX7) (T := TX7) (N := 9) hx hb hts hi_X7_cases_7 hown hK hP 0 rfl rfl 1 (by decide) (hts (.fieldLink RX7 18 "TheLiningsInIt" "now" "LTheLiningsInIt$Jacket;") (List.mem_of_getElem? (i := 2) rfl)) (fun _ h9 => h9) rfl dX7_cases_36 ?_
            refine lv_aload_n hx hb dX7_cases_39 rfl (lv_at hl 0 rfl) ?_
            refine va_get (D := D) (ci := 7) (v := .ref j0) (C := RX7) (T := TX7) (N := 9) hx hb hts hi_X7_cases_7 hown hK hP 0 rfl rfl 1 (by decide) (hts (.fieldLink RX7 18 "TheLiningsInIt" "now" "LTheLiningsInIt$Jacket;") (List.mem_of_getElem? (i := 2) rfl)) (fun _ h9 => h9) rfl dX7_cases_40 ?_
            refine va_get (D := D) (ci := 0) (v := .int hu) (C := RX0) (T := TX0) (N := 9) hx hb hts hi_X7_cases_0 hown hK hP 2 rfl rfl 7 (by decide) (hts (.fieldLink RX7 116 "TheLiningsInIt$Jacket" "hurry" "I") (List.mem_of_getElem? (i := 3) rfl)) (fun _ h9 => h9) rfl dX7_cases_43 ?_
            refine lv_iload_n hx hb dX7_cases_46 rfl (lv_at hl 2 rfl) ?_
            refine lv_iconst (v := 2) hx hb dX7_cases_47 (by decide) ?_
            refine lv_icmp_eq (tgt := 55) hx hb dX7_cases_48 (by decide) (fun c_103 => ?_) (fun c_103 => ?_)
            · have fc_103 : w.toInt = 2 := zf_eq c_103 rfl (by decide)
              refine lv_iconst (v := 0) hx hb dX7_cases_55 (by decide) ?_
              skip
              refine zw_Vv (As := [.ref j0, .int hu, .int 0]) (rest := []) (wr := [(x0, .inr (7, [.ref xs, .ref j0, .ref k0, .ref w0, .ref rd, .ref mv, .ref xr, .int im, .int lf])), (xr, .inl (cI, 8, .inl fr))]) ⟨hx, hb, hml, hown, hts⟩ (c_F_W_look l D cI cJ cZ cP cS po w0 wk wl wc wp (wn) (wh) (wg) j0 jp jc z0 0 0 (cn) (de) (tr) (se) (hu) (sd) fp fq kf af tf fk fl fc fjc (hu) (0) hy10 hy11 hy12 hy13 hy14 hy15 hy4 hy5 hy6 hy7 hy8 hy9 hy8 hy9 hwq hjp hp_fc hp_fjc H.size) (cwV 3 hts gX7_cases_X5_look rfl rfl rfl ⟨rfl, dh_X5_look⟩ ⟨Nat.le_of_ble_eq_true rfl, Nat.le_of_ble_eq_true rfl⟩) hK hN (hZ.kept hS) hP hD hS hA [3, 4, 5, 6, 7, 2, 8, 9] [0, 1] rfl rfl (by decide) (by decide) (by decide) (va_recv (q := (RX5, TX5, 7)) hK hP (ci := 5) (q0 := 3) rfl rfl) rfl hl.1 rfl (Nat.le_of_ble_eq_true rfl) dX7_cases_56 ⟨Nat.le_of_ble_eq_true rfl, Nat.le_of_ble_eq_true rfl⟩ (fun u_105 H locs hr_104 hP hD hS => ?_)
              obtain ⟨q_106, q_107, q_108, q_109, q_110, q_111, q_112⟩ := u_105
              try dsimp only at hr_104
              obtain ⟨hbq_106, hbq_107, hbq_108, hpq_111, hwq_112, hsr_104_0, hsr_104_1, hsr_104_2, hsr_104_3, hsr_104_4, hsr_104_5, hr_104⟩ := hr_104
              have h9R := zRe (ws' := [(x0, .inr (7, [.ref xs, .ref j0, .ref k0, .ref w0, .ref rd, .ref mv, .ref xr, .int im, .int lf])), (xr, .inl (cI, 8, .inl fr)), (w0, .inr (5, [.ref wk, .ref wl, .ref wc, .ref wp, .int q_106, .int q_107, .int q_108])), (wk, .inl (cI, 125, .inl q_109)), (wl, .inl (cI, 125, .inl q_110)), (wc, .inl (cI, 3, .inl q_111)), (wp, .inl (cP, 8, .inr (.inr (.inr (.inr q_112))))), (j0, .inr (0, [.ref z0, .ref jp, .ref jc, .int cn, .int de, .int tr, .int se, .int hu, .int sd])), (jp, .inl (cP, 8, .inr (.inr (.inr (.inr fp))))), (jc, .inl (cI, 3, .inl fjc))]) hP hD rfl
              clear hP hD
              obtain ⟨hP, hD⟩ := h9R
              obtain ⟨ewn, ewh⟩ := hsr_104_2
              have ewn9 := congrArg Int32.toInt ewn
              have ewh9 := congrArg Int32.toInt ewh
              have hjw9 : zJW po q_112 q_106 kf af tf (0 : Int32) := by (intro j hj; exact hsr_104_0 j (by rw [← ewn]; exact hj))
              have hkm9 : zKm kf af tf q_106.toInt.toNat q_107.toInt (0 : Int32).toInt q_108.toInt q_109 := zKm_0 hsr_104_4
              have hgl9 : ∀ p : Nat, p < q_106.toInt.toNat → ((0 : Int32).toInt ≠ 0 ∨ (kf p).toInt ≠ 5) → (tf p).toInt ≤ q_108.toInt := fun p hp hl => hsr_104_1 p (by rw [ewn] at hp; omega) hl
              refine lv_iload_n hx hb dX7_cases_59 rfl (lv_at hl 2 rfl) ?_
              refine lv_iconst (v := 1) hx hb dX7_cases_60 (by decide) ?_
              refine lv_icmp_ne (tgt := 87) hx hb dX7_cases_61 (by decide) (fun c_113 => ?_) (fun c_113 => ?_)
              · have fc_113 : w.toInt ≠ 1 := zf_ne c_113 rfl (by decide)
                refine lv_aload_n hx hb dX7_cases_87 rfl (lv_at hl 0 rfl) ?_
                refine va_get (D := D) (ci := 7) (v := .ref w0) (C := RX7) (T := TX7) (N := 9) hx hb hts hi_X7_cases_7 hown hK hP 0 rfl rfl 3 (by decide) (hts (.fieldLink RX7 28 "TheLiningsInIt" "ways" "LTheLiningsInIt$Ways;") (List.mem_of_getElem? (i := 1) rfl)) (fun _ h9 => h9) rfl dX7_cases_88 ?_
                refine lv_iload_n hx hb dX7_cases_91 rfl (lv_at hl 1 rfl) ?_
                refine lv_aload_n hx hb dX7_cases_92 rfl (lv_at hl 0 rfl) ?_
                refine va_get (D := D) (ci := 7) (v := .ref j0) (C := RX7) (T := TX7) (N := 9) hx hb hts hi_X7_cases_7 hown hK hP 0 rfl rfl 1 (by decide) (hts (.fieldLink RX7 18 "TheLiningsInIt" "now" "LTheLiningsInIt$Jacket;") (List.mem_of_getElem? (i := 2) rfl)) (fun _ h9 => h9) rfl dX7_cases_93 ?_
                refine va_get (D := D) (ci := 0) (v := .int de) (C := RX0) (T := TX0) (N := 9) hx hb hts hi_X7_cases_0 hown hK hP 7 rfl rfl 4 (by decide) (hts (.fieldLink RX7 199 "TheLiningsInIt$Jacket" "depth" "I") (List.mem_of_getElem? (i := 4) rfl)) (fun _ h9 => h9) rfl dX7_cases_96 ?_
                refine lv_aload_n hx hb dX7_cases_99 rfl (lv_at hl 0 rfl) ?_
                refine va_get (D := D) (ci := 7) (v := .ref j0) (C := RX7) (T := TX7) (N := 9) hx hb hts hi_X7_cases_7 hown hK hP 0 rfl rfl 1 (by decide) (hts (.fieldLink RX7 18 "TheLiningsInIt" "now" "LTheLiningsInIt$Jacket;") (List.mem_of_getElem? (i := 2) rfl)) (fun _ h9 => h9) rfl dX7_cases_100 ?_
                refine va_get (D := D) (ci := 0) (v := .int se) (C := RX0) (T := TX0) (N := 9) hx hb hts hi_X7_cases_0 hown hK hP 7 rfl rfl 6 (by decide) (hts (.fieldLink RX7 202 "TheLiningsInIt$Jacket" "seconds" "I") (List.mem_of_getElem? (i := 5) rfl)) (fun _ h9 => h9) rfl dX7_cases_103 ?_
                skip
                refine zw_VN (As := [.int 2, .int de, .int se]) (rest := []) (wr := [(x0, .inr (7, [.ref xs, .ref j0, .ref k0, .ref w0, .ref rd, .ref mv, .ref xr, .int im, .int lf])), (xr, .inl (cI, 8, .inl fr)), (wl, .inl (cI, 125, .inl q_110)), (wc, .inl (cI, 3, .inl q_111)), (j0, .inr (0, [.ref z0, .ref jp, .ref jc, .int cn, .int de, .int tr, .int se, .int hu, .int sd])), (jp, .inl (cP, 8, .inr (.inr (.inr (.inr fp))))), (jc, .inl (cI, 3, .inl fjc))]) ⟨hx, hb, hml, hown, hts⟩ (c_F_W_most_2 l D cI cJ cZ cP cS po w0 wk wl wc wp (q_106) (q_107) (q_108) q_112 kf af tf (0) q_109 (de) (se) hbq_106.1 hbq_106.2 hbq_107.1 hbq_107.2 hbq_108.1 hbq_108.2 hjw9 (by first | assumption | omega) (by first | assumption | omega) hy6 hy7 hy18 hy19 H.size) ⟨(va_cnB 3 hts gX7_cases_X5_most_n208 rfl rfl rfl (hN.1 (RX7, 208, yX5_most) (List.mem_of_getElem? (i := 10) rfl)) (hts _ (List.mem_of_getElem? (i := 22) rfl)) dh_X5_most ⟨Nat.le_of_ble_eq_true rfl, Nat.le_of_ble_eq_true rfl⟩), (hts _ (List.mem_of_getElem? (i := 95) rfl)), (hts _ (List.mem_of_getElem? (i := 96) rfl))⟩ hK hN (hZ.kept hS) hP hD hS hA [2, 3, 6] [0, 1, 4, 5, 7, 8, 9] rfl rfl (by decide) (by decide) (by decide) (va_recv (q := (RX5, TX5, 7)) hK hP (ci := 5) (q0 := 2) rfl rfl) rfl hl.1 rfl (Nat.le_of_ble_eq_true rfl) dX7_cases_106 ⟨Nat.le_of_ble_eq_true rfl, Nat.le_of_ble_eq_true rfl⟩ (fun r_114 u_115 H locs hr_114 hP hD hS => ?_)
                obtain ⟨q_116, rfl⟩ : ∃ z, z = u_115 := ⟨_, rfl⟩
                obtain ⟨hsr_114_0, hsr_114_1, hr_114⟩ := hr_114
                have h9R := zRe (ws' := [(x0, .inr (7, [.ref xs, .ref j0, .ref k0, .ref w0, .ref rd, .ref mv, .ref xr, .int im, .int lf])), (xr, .inl (cI, 8, .inl fr)), (wl, .inl (cI, 125, .inl q_110)), (wc, .inl (cI, 3, .inl q_111)), (j0, .inr (0, [.ref z0, .ref jp, .ref jc, .int cn, .int de, .int tr, .int se, .int hu, .int sd])), (jp, .inl (cP, 8, .inr (.inr (.inr (.inr fp))))), (jc, .inl (cI, 3, .inl fjc)), (w0, .inr (5, [.ref wk, .ref wl, .ref wc, .ref wp, .int q_106, .int q_107, .int q_108])), (wk, .inl (cI, 125, .inl q_116)), (wp, .inl (cP, 8, .inr (.inr (.inr (.inr q_112)))))]) hP hD rfl
                clear hP hD
                obtain ⟨hP, hD⟩ := h9R
                obtain ⟨g_117, g_118⟩ := hr_114
                exact W.iret (v := r_114) hx hb hr (fun t ht hW => ⟨⟨r_114, (q_106, q_107, q_108, q_116, q_110, q_111, q_112, fr), rfl, ⟨(show 0 ≤ q_106.toInt ∧ q_106.toInt ≤ 8 from hbq_106), (show 0 ≤ q_107.toInt ∧ q_107.toInt ≤ 9 from hbq_107), (show 0 ≤ q_108.toInt ∧ q_108.toInt ≤ 60 from hbq_108), hpq_111, hwq_112, (show ((w.toInt < 0 ∨ 2 < w.toInt) ∧ (r_114 : Int32).toInt = -15) ∨ ((0 ≤ w.toInt ∧ w.toInt ≤ 2) ∧ ((((2 : Int32).toInt < 0 ∨ 4 < (2 : Int32).toInt) ∧ (r_114 : Int32).toInt = -16) ∨ ((0 ≤ (2 : Int32).toInt ∧ (2 : Int32).toInt ≤ 4) ∧ ((w.toInt = 1 ∧ (r_114 : Int32).toInt = zNq kf af tf cn.toInt.toNat hu.toInt (2 : Int32).toInt de.toInt se.toInt) ∨ (w.toInt ≠ 1 ∧ (r_114 : Int32).toInt = zM kf af tf cn.toInt.toNat hu.toInt (if w.toInt = 2 then 0 else 1) (2 : Int32).toInt.toNat de.toInt se.toInt))))) from by (have k2 : (2 : Int32).toInt = 2 := (by decide); have kte : (0 : Int32).toInt = 0 := (by decide); refine Or.inr ⟨by omega, Or.inr ⟨by omega, Or.inr ⟨by omega, (by have z := hsr_114_1; rw [kte, ewn, ewh] at z; rw [show (2 : Int32).toInt.toNat = 2 from by decide, if_pos (by omega)]; exact z)⟩⟩⟩)), trivial⟩, zRet ht hP hD [0, 1, 4, 7, 8, 2, 3, 9, 5, 6] (by decide) rfl⟩, hS.F ht⟩) hS.2.2 dX7_cases_109
              · exfalso; have fc_113 : w.toInt = 1 := zf_eq c_113 rfl (by decide); omega
            · have fc_103 : w.toInt ≠ 2 := zf_ne c_103 rfl (by decide)
              refine lv_iconst (v := 1) hx hb dX7_cases_51 (by decide) ?_
              refine lv_goto (tgt := 56) hx hb dX7_cases_52 (by decide) ?_
              have kc1 : (1 : Int32).toInt = 1 := by decide
              skip
              refine zw_Vv (As := [.ref j0, .int hu, .int 1]) (rest := []) (wr := [(x0, .inr (7, [.ref xs, .ref j0, .ref k0, .ref w0, .ref rd, .ref mv, .ref xr, .int im, .int lf])), (xr, .inl (cI, 8, .inl fr))]) ⟨hx, hb, hml, hown, hts⟩ (c_F_W_look l D cI cJ cZ cP cS po w0 wk wl wc wp (wn) (wh) (wg) j0 jp jc z0 0 0 (cn) (de) (tr) (se) (hu) (sd) fp fq kf af tf fk fl fc fjc (hu) (1) hy10 hy11 hy12 hy13 hy14 hy15 hy4 hy5 hy6 hy7 hy8 hy9 hy8 hy9 hwq hjp hp_fc hp_fjc H.size) (cwV 3 hts gX7_cases_X5_look rfl rfl rfl ⟨rfl, dh_X5_look⟩ ⟨Nat.le_of_ble_eq_true rfl, Nat.le_of_ble_eq_true rfl⟩) hK hN (hZ.kept hS) hP hD hS hA [3, 4, 5, 6, 7, 2, 8, 9] [0, 1] rfl rfl (by decide) (by decide) (by decide) (va_recv (q := (RX5, TX5, 7)) hK hP (ci := 5) (q0 := 3) rfl rfl) rfl hl.1 rfl (Nat.le_of_ble_eq_true rfl) dX7_cases_56 ⟨Nat.le_of_ble_eq_true rfl, Nat.le_of_ble_eq_true rfl⟩ (fun u_120 H locs hr_119 hP hD hS => ?_)
              obtain ⟨q_121, q_122, q_123, q_124, q_125, q_126, q_127⟩ := u_120
              try dsimp only at hr_119
              obtain ⟨hbq_121, hbq_122, hbq_123, hpq_126, hwq_127, hsr_119_0, hsr_119_1, hsr_119_2, hsr_119_3, hsr_119_4, hsr_119_5, hr_119⟩ := hr_119
              have h9R := zRe (ws' := [(x0, .inr (7, [.ref xs, .ref j0, .ref k0, .ref w0, .ref rd, .ref mv, .ref xr, .int im, .int lf])), (xr, .inl (cI, 8, .inl fr)), (w0, .inr (5, [.ref wk, .ref wl, .ref wc, .ref wp, .int q_121, .int q_122, .int q_123])), (wk, .inl (cI, 125, .inl q_124)), (wl, .inl (cI, 125, .inl q_125)), (wc, .inl (cI, 3, .inl q_126)), (wp, .inl (cP, 8, .inr (.inr (.inr (.inr q_127))))), (j0, .inr (0, [.ref z0, .ref jp, .ref jc, .int cn, .int de, .int tr, .int se, .int hu, .int sd])), (jp, .inl (cP, 8, .inr (.inr (.inr (.inr fp))))), (jc, .inl (cI, 3, .inl fjc))]) hP hD rfl
              clear hP hD
              obtain ⟨hP, hD⟩ := h9R
              obtain ⟨ewn, ewh⟩ := hsr_119_2
              have ewn9 := congrArg Int32.toInt ewn
              have ewh9 := congrArg Int32.toInt ewh
              have hjw9 : zJW po q_127 q_121 kf af tf (1 : Int32) := by (intro j hj; exact hsr_119_0 j (by rw [← ewn]; exact hj))
              have hkm9 : zKm kf af tf q_121.toInt.toNat q_122.toInt (1 : Int32).toInt q_123.toInt q_124 := zKm_0 hsr_119_4
              have hgl9 : ∀ p : Nat, p < q_121.toInt.toNat → ((1 : Int32).toInt ≠ 0 ∨ (kf p).toInt ≠ 5) → (tf p).toInt ≤ q_123.toInt := fun p hp hl => hsr_119_1 p (by rw [ewn] at hp; omega) hl
              have hkn9 : zKn kf af tf q_121.toInt.toNat q_122.toInt (q_126 0).toInt (q_126 1).toInt (q_126 2).toInt q_123.toInt q_125 := zKn_0 hsr_119_5
              have hgk9 : ∀ p : Nat, p < q_121.toInt.toNat → (tf p).toInt ≤ q_123.toInt := fun p hp => hgl9 p hp (Or.inl (by decide))
              refine lv_iload_n hx hb dX7_cases_59 rfl (lv_at hl 2 rfl) ?_
              refine lv_iconst (v := 1) hx hb dX7_cases_60 (by decide) ?_
              refine lv_icmp_ne (tgt := 87) hx hb dX7_cases_61 (by decide) (fun c_128 => ?_) (fun c_128 => ?_)
              · have fc_128 : w.toInt ≠ 1 := zf_ne c_128 rfl (by decide)
                refine lv_aload_n hx hb dX7_cases_87 rfl (lv_at hl 0 rfl) ?_
                refine va_get (D := D) (ci := 7) (v := .ref w0) (C := RX7) (T := TX7) (N := 9) hx hb hts hi_X7_cases_7 hown hK hP 0 rfl rfl 3 (by decide) (hts (.fieldLink RX7 28 "TheLiningsInIt" "ways" "LTheLiningsInIt$Ways;") (List.mem_of_getElem? (i := 1) rfl)) (fun _ h9 => h9) rfl dX7_cases_88 ?_
                refine lv_iload_n hx hb dX7_cases_91 rfl (lv_at hl 1 rfl) ?_
                refine lv_aload_n hx hb dX7_cases_92 rfl (lv_at hl 0 rfl) ?_
                refine va_get (D := D) (ci := 7) (v := .ref j0) (C := RX7) (T := TX7) (N := 9) hx hb hts hi_X7_cases_7 hown hK hP 0 rfl rfl 1 (by decide) (hts (.fieldLink RX7 18 "TheLiningsInIt" "now" "LTheLiningsInIt$Jacket;") (List.mem_of_getElem? (i := 2) rfl)) (fun _ h9 => h9) rfl dX7_cases_93 ?_
                refine va_get (D := D) (ci := 0) (v := .int de) (C := RX0) (T := TX0) (N := 9) hx hb hts hi_X7_cases_0 hown hK hP 7 rfl rfl 4 (by decide) (hts (.fieldLink RX7 199 "TheLiningsInIt$Jacket" "depth" "I") (List.mem_of_getElem? (i := 4) rfl)) (fun _ h9 => h9) rfl dX7_cases_96 ?_
                refine lv_aload_n hx hb dX7_cases_99 rfl (lv_at hl 0 rfl) ?_
                refine va_get (D := D) (ci := 7) (v := .ref j0) (C := RX7) (T := TX7) (N := 9) hx hb hts hi_X7_cases_7 hown hK hP 0 rfl rfl 1 (by decide) (hts (.fieldLink RX7 18 "TheLiningsInIt" "now" "LTheLiningsInIt$Jacket;") (List.mem_of_getElem? (i := 2) rfl)) (fun _ h9 => h9) rfl dX7_cases_100 ?_
                refine va_get (D := D) (ci := 0) (v := .int se) (C := RX0) (T := TX0) (N := 9) hx hb hts hi_X7_cases_0 hown hK hP 7 rfl rfl 6 (by decide) (hts (.fieldLink RX7 202 "TheLiningsInIt$Jacket" "seconds" "I") (List.mem_of_getElem? (i := 5) rfl)) (fun _ h9 => h9) rfl dX7_cases_103 ?_
                skip
                refine zw_VN (As := [.int 2, .int de, .int se]) (rest := []) (wr := [(x0, .inr (7, [.ref xs, .ref j0, .ref k0, .ref w0, .ref rd, .ref mv, .ref xr, .int im, .int lf])), (xr, .inl (cI, 8, .inl fr)), (wl, .inl (cI, 125, .inl q_125)), (wc, .inl (cI, 3, .inl q_126)), (j0, .inr (0, [.ref z0, .ref jp, .ref jc, .int cn, .int de, .int tr, .int se, .int hu, .int sd])), (jp, .inl (cP, 8, .inr (.inr (.inr (.inr fp))))), (jc, .inl (cI, 3, .inl fjc))]) ⟨hx, hb, hml, hown, hts⟩ (c_F_W_most_2 l D cI cJ cZ cP cS po w0 wk wl wc wp (q_121) (q_122) (q_123) q_127 kf af tf (1) q_124 (de) (se) hbq_121.1 hbq_121.2 hbq_122.1 hbq_122.2 hbq_123.1 hbq_123.2 hjw9 (by first | assumption | omega) (by first | assumption | omega) hy6 hy7 hy18 hy19 H.size) ⟨(va_cnB 3 hts gX7_cases_X5_most_n208 rfl rfl rfl (hN.1 (RX7, 208, yX5_most) (List.mem_of_getElem? (i := 10) rfl)) (hts _ (List.mem_of_getElem? (i := 22) rfl)) dh_X5_most ⟨Nat.le_of_ble_eq_true rfl, Nat.le_of_ble_eq_true rfl⟩), (hts _ (List.mem_of_getElem? (i := 95) rfl)), (hts _ (List.mem_of_getElem? (i := 96) rfl))⟩ hK hN (hZ.kept hS) hP hD hS hA [2, 3, 6] [0, 1, 4, 5, 7, 8, 9] rfl rfl (by decide) (by decide) (by decide) (va_recv (q := (RX5, TX5, 7)) hK hP (ci := 5) (q0 := 2) rfl rfl) rfl hl.1 rfl (Nat.le_of_ble_eq_true rfl) dX7_cases_106 ⟨Nat.le_of_ble_eq_true rfl, Nat.le_of_ble_eq_true rfl⟩ (fun r_129 u_130 H locs hr_129 hP hD hS => ?_)
                obtain ⟨q_131, rfl⟩ : ∃ z, z = u_130 := ⟨_, rfl⟩
                obtain ⟨hsr_129_0, hsr_129_1, hr_129⟩ := hr_129
                have h9R := zRe (ws' := [(x0, .inr (7, [.ref xs, .ref j0, .ref k0, .ref w0, .ref rd, .ref mv, .ref xr, .int im, .int lf])), (xr, .inl (cI, 8, .inl fr)), (wl, .inl (cI, 125, .inl q_125)), (wc, .inl (cI, 3, .inl q_126)), (j0, .inr (0, [.ref z0, .ref jp, .ref jc, .int cn, .int de, .int tr, .int se, .int hu, .int sd])), (jp, .inl (cP, 8, .inr (.inr (.inr (.inr fp))))), (jc, .inl (cI, 3, .inl fjc)), (w0, .inr (5, [.ref wk, .ref wl, .ref wc, .ref wp, .int q_121, .int q_122, .int q_123])), (wk, .inl (cI, 125, .inl q_131)), (wp, .inl (cP, 8, .inr (.inr (.inr (.inr q_127)))))]) hP hD rfl
                clear hP hD
                obtain ⟨hP, hD⟩ := h9R
                obtain ⟨g_132, g_133⟩ := hr_129
                exact W.iret (v := r_129) hx hb hr (fun t ht hW => ⟨⟨r_129, (q_121, q_122, q_123, q_131, q_125, q_126, q_127, fr), rfl, ⟨(show 0 ≤ q_121.toInt ∧ q_121.toInt ≤ 8 from hbq_121), (show 0 ≤ q_122.toInt ∧ q_122.toInt ≤ 9 from hbq_122), (show 0 ≤ q_123.toInt ∧ q_123.toInt ≤ 60 from hbq_123), hpq_126, hwq_127, (show ((w.toInt < 0 ∨ 2 < w.toInt) ∧ (r_129 : Int32).toInt = -15) ∨ ((0 ≤ w.toInt ∧ w.toInt ≤ 2) ∧ ((((2 : Int32).toInt < 0 ∨ 4 < (2 : Int32).toInt) ∧ (r_129 : Int32).toInt = -16) ∨ ((0 ≤ (2 : Int32).toInt ∧ (2 : Int32).toInt ≤ 4) ∧ ((w.toInt = 1 ∧ (r_129 : Int32).toInt = zNq kf af tf cn.toInt.toNat hu.toInt (2 : Int32).toInt de.toInt se.toInt) ∨ (w.toInt ≠ 1 ∧ (r_129 : Int32).toInt = zM kf af tf cn.toInt.toNat hu.toInt (if w.toInt = 2 then 0 else 1) (2 : Int32).toInt.toNat de.toInt se.toInt))))) from by (have k2 : (2 : Int32).toInt = 2 := (by decide); have kte : (1 : Int32).toInt = 1 := (by decide); refine Or.inr ⟨by omega, Or.inr ⟨by omega, Or.inr ⟨by omega, (by have z := hsr_129_1; rw [kte, ewn, ewh] at z; rw [show (2 : Int32).toInt.toNat = 2 from by decide, if_neg (by omega)]; exact z)⟩⟩⟩)), trivial⟩, zRet ht hP hD [0, 1, 4, 7, 8, 2, 3, 9, 5, 6] (by decide) rfl⟩, hS.F ht⟩) hS.2.2 dX7_cases_109
              · have fc_128 : w.toInt = 1 := zf_eq c_128 rfl (by decide)
                refine lv_aload_n hx hb dX7_cases_64 rfl (lv_at hl 0 rfl) ?_
                refine va_get (D := D) (ci := 7) (v := .ref w0) (C := RX7) (T := TX7) (N := 9) hx hb hts hi_X7_cases_7 hown hK hP 0 rfl rfl 3 (by decide) (hts (.fieldLink RX7 28 "TheLiningsInIt" "ways" "LTheLiningsInIt$Ways;") (List.mem_of_getElem? (i := 1) rfl)) (fun _ h9 => h9) rfl dX7_cases_65 ?_
                refine lv_iload_n hx hb dX7_cases_68 rfl (lv_at hl 1 rfl) ?_
                refine lv_aload_n hx hb dX7_cases_69 rfl (lv_at hl 0 rfl) ?_
                refine va_get (D := D) (ci := 7) (v := .ref j0) (C := RX7) (T := TX7) (N := 9) hx hb hts hi_X7_cases_7 hown hK hP 0 rfl rfl 1 (by decide) (hts (.fieldLink RX7 18 "TheLiningsInIt" "now" "LTheLiningsInIt$Jacket;") (List.mem_of_getElem? (i := 2) rfl)) (fun _ h9 => h9) rfl dX7_cases_70 ?_
                refine va_get (D := D) (ci := 0) (v := .int de) (C := RX0) (T := TX0) (N := 9) hx hb hts hi_X7_cases_0 hown hK hP 7 rfl rfl 4 (by decide) (hts (.fieldLink RX7 199 "TheLiningsInIt$Jacket" "depth" "I") (List.mem_of_getElem? (i := 4) rfl)) (fun _ h9 => h9) rfl dX7_cases_73 ?_
                refine lv_aload_n hx hb dX7_cases_76 rfl (lv_at hl 0 rfl) ?_
                refine va_get (D := D) (ci := 7) (v := .ref j0) (C := RX7) (T := TX7) (N := 9) hx hb hts hi_X7_cases_7 hown hK hP 0 rfl rfl 1 (by decide) (hts (.fieldLink RX7 18 "TheLiningsInIt" "now" "LTheLiningsInIt$Jacket;") (List.mem_of_getElem? (i := 2) rfl)) (fun _ h9 => h9) rfl dX7_cases_77 ?_
                refine va_get (D := D) (ci := 0) (v := .int se) (C := RX0) (T := TX0) (N := 9) hx hb hts hi_X7_cases_0 hown hK hP 7 rfl rfl 6 (by decide) (hts (.fieldLink RX7 202 "TheLiningsInIt$Jacket" "seconds" "I") (List.mem_of_getElem? (i := 5) rfl)) (fun _ h9 => h9) rfl dX7_cases_80 ?_
                skip
                refine zw_V (As := [.int 2, .int de, .int se]) (rest := []) (wr := [(x0, .inr (7, [.ref xs, .ref j0, .ref k0, .ref w0, .ref rd, .ref mv, .ref xr, .int im, .int lf])), (xr, .inl (cI, 8, .inl fr)), (wl, .inl (cI, 125, .inl q_125)), (wc, .inl (cI, 3, .inl q_126)), (j0, .inr (0, [.ref z0, .ref jp, .ref jc, .int cn, .int de, .int tr, .int se, .int hu, .int sd])), (jp, .inl (cP, 8, .inr (.inr (.inr (.inr fp))))), (jc, .inl (cI, 3, .inl fjc))]) ⟨hx, hb, hml, hown, hts⟩ (c_F_W_next_2 l D cI cJ cZ cP cS po w0 wk wl wc wp (q_121) (q_122) (q_123) q_127 kf af tf (1) q_124 (de) (se) hbq_121.1 hbq_121.2 hbq_122.1 hbq_122.2 hbq_123.1 hbq_123.2 hjw9 (by first | assumption | omega) (by first | assumption | omega) hy6 hy7 hy18 hy19 H.size) (cwV 3 hts gX7_cases_X5_next rfl rfl rfl ⟨rfl, dh_X5_next⟩ ⟨Nat.le_of_ble_eq_true rfl, Nat.le_of_ble_eq_true rfl⟩) hK hN (hZ.kept hS) hP hD hS hA [2, 3, 6] [0, 1, 4, 5, 7, 8, 9] rfl rfl (by decide) (by decide) (by decide) (va_recv (q := (RX5, TX5, 7)) hK hP (ci := 5) (q0 := 2) rfl rfl) rfl hl.1 rfl (Nat.le_of_ble_eq_true rfl) dX7_cases_83 ⟨Nat.le_of_ble_eq_true rfl, Nat.le_of_ble_eq_true rfl⟩ (fun r_134 u_135 H locs hr_134 hP hD hS => ?_)
                obtain ⟨q_136, rfl⟩ : ∃ z, z = u_135 := ⟨_, rfl⟩
                obtain ⟨hsr_134_0, hsr_134_1, hr_134⟩ := hr_134
                have h9R := zRe (ws' := [(x0, .inr (7, [.ref xs, .ref j0, .ref k0, .ref w0, .ref rd, .ref mv, .ref xr, .int im, .int lf])), (xr, .inl (cI, 8, .inl fr)), (wl, .inl (cI, 125, .inl q_125)), (wc, .inl (cI, 3, .inl q_126)), (j0, .inr (0, [.ref z0, .ref jp, .ref jc, .int cn, .int de, .int tr, .int se, .int hu, .int sd])), (jp, .inl (cP, 8, .inr (.inr (.inr (.inr fp))))), (jc, .inl (cI, 3, .inl fjc)), (w0, .inr (5, [.ref wk, .ref wl, .ref wc, .ref wp, .int q_121, .int q_122, .int q_123])), (wk, .inl (cI, 125, .inl q_136)), (wp, .inl (cP, 8, .inr (.inr (.inr (.inr q_127)))))]) hP hD rfl
                clear hP hD
                obtain ⟨hP, hD⟩ := h9R
                obtain ⟨g_137, g_138⟩ := hr_134
                exact W.iret (v := r_134) hx hb hr (fun t ht hW => ⟨⟨r_134, (q_121, q_122, q_123, q_136, q_125, q_126, q_127, fr), rfl, ⟨(show 0 ≤ q_121.toInt ∧ q_121.toInt ≤ 8 from hbq_121), (show 0 ≤ q_122.toInt ∧ q_122.toInt ≤ 9 from hbq_122), (show 0 ≤ q_123.toInt ∧ q_123.toInt ≤ 60 from hbq_123), hpq_126, hwq_127, (show ((w.toInt < 0 ∨ 2 < w.toInt) ∧ (r_134 : Int32).toInt = -15) ∨ ((0 ≤ w.toInt ∧ w.toInt ≤ 2) ∧ ((((2 : Int32).toInt < 0 ∨ 4 < (2 : Int32).toInt) ∧ (r_134 : Int32).toInt = -16) ∨ ((0 ≤ (2 : Int32).toInt ∧ (2 : Int32).toInt ≤ 4) ∧ ((w.toInt = 1 ∧ (r_134 : Int32).toInt = zNq kf af tf cn.toInt.toNat hu.toInt (2 : Int32).toInt de.toInt se.toInt) ∨ (w.toInt ≠ 1 ∧ (r_134 : Int32).toInt = zM kf af tf cn.toInt.toNat hu.toInt (if w.toInt = 2 then 0 else 1) (2 : Int32).toInt.toNat de.toInt se.toInt))))) from by (have k2 : (2 : Int32).toInt = 2 := (by decide); have kte : (1 : Int32).toInt = 1 := (by decide); refine Or.inr ⟨by omega, Or.inr ⟨by omega, Or.inl ⟨by omega, (by have z := hsr_134_1; rw [kte, ewn, ewh] at z; unfold zNq; rw [show (2 : Int32).toInt = 2 from by decide, if_neg (by decide), show ((2 : Int) - 1).toNat = 1 from by decide]; exact z)⟩⟩⟩)), trivial⟩, zRet ht hP hD [0, 1, 4, 7, 8, 2, 3, 9, 5, 6] (by decide) rfl⟩, hS.F ht⟩) hS.2.2 dX7_cases_86
          · refine lv_aload_n hx hb dX7_cases_31 rfl (lv_at hl 0 rfl) ?_
            refine va_get (D := D) (ci := 7) (v := .ref w0) (C := RX7) (T := TX7) (N := 9) hx hb hts hi_X7_cases_7 hown hK hP 0 rfl rfl 3 (by decide) (hts (.fieldLink RX7 28 "TheLiningsInIt" "ways" "LTheLiningsInIt$Ways;") (List.mem_of_getElem? (i := 1) rfl)) (fun _ h9 => h9) rfl dX7_cases_32 ?_
            refine lv_aload_n hx hb dX7_cases_35 rfl (lv_at hl 0 rfl) ?_
            refine va_get (D := D) (ci := 7) (v := .ref j0) (C := RX7) (T := TX7) (N := 9) hx hb hts hi_X7_cases_7 hown hK hP 0 rfl rfl 1 (by decide) (hts (.fieldLink RX7 18 "TheLiningsInIt" "now" "LTheLiningsInIt$Jacket;") (List.mem_of_getElem? (i := 2) rfl)) (fun _ h9 => h9) rfl dX7_cases_36 ?_
            refine lv_aload_n hx hb dX7_cases_39 rfl (lv_at hl 0 rfl) ?_
            refine va_get (D := D) (ci := 7) (v := .ref j0) (C := RX7) (T := TX7) (N := 9) hx hb hts hi_X7_cases_7 hown hK hP 0 rfl rfl 1 (by decide) (hts (.fieldLink RX7 18 "TheLiningsInIt" "now" "LTheLiningsInIt$Jacket;") (List.mem_of_getElem? (i := 2) rfl)) (fun _ h9 => h9) rfl dX7_cases_40 ?_
            refine va_get (D := D) (ci := 0) (v := .int hu) (C := RX0) (T := TX0) (N := 9) hx hb hts hi_X7_cases_0 hown hK hP 2 rfl rfl 7 (by decide) (hts (.fieldLink RX7 116 "TheLiningsInIt$Jacket" "hurry" "I") (List.mem_of_getElem? (i := 3) rfl)) (fun _ h9 => h9) rfl dX7_cases_43 ?_
            refine lv_iload_n hx hb dX7_cases_46 rfl (lv_at hl 2 rfl) ?_
            refine lv_iconst (v := 2) hx hb dX7_cases_47 (by decide) ?_
            refine lv_icmp_eq (tgt := 55) hx hb dX7_cases_48 (by decide) (fun c_139 => ?_) (fun c_139 => ?_)
            · have fc_139 : w.toInt = 2 := zf_eq c_139 rfl (by decide)
              refine lv_iconst (v := 0) hx hb dX7_cases_55 (by decide) ?_
              skip
              refine zw_Vv (As := [.ref j0, .int hu, .int 0]) (rest := []) (wr := [(x0, .inr (7, [.ref xs, .ref j0, .ref k0, .ref w0, .ref rd, .ref mv, .ref xr, .int im, .int lf])), (xr, .inl (cI, 8, .inl fr))]) ⟨hx, hb, hml, hown, hts⟩ (c_F_W_look l D cI cJ cZ cP cS po w0 wk wl wc wp (wn) (wh) (wg) j0 jp jc z0 0 0 (cn) (de) (tr) (se) (hu) (sd) fp fq kf af tf fk fl fc fjc (hu) (0) hy10 hy11 hy12 hy13 hy14 hy15 hy4 hy5 hy6 hy7 hy8 hy9 hy8 hy9 hwq hjp hp_fc hp_fjc H.size) (cwV 3 hts gX7_cases_X5_look rfl rfl rfl ⟨rfl, dh_X5_look⟩ ⟨Nat.le_of_ble_eq_true rfl, Nat.le_of_ble_eq_true rfl⟩) hK hN (hZ.kept hS) hP hD hS hA [3, 4, 5, 6, 7, 2, 8, 9] [0, 1] rfl rfl (by decide) (by decide) (by decide) (va_recv (q := (RX5, TX5, 7)) hK hP (ci := 5) (q0 := 3) rfl rfl) rfl hl.1 rfl (Nat.le_of_ble_eq_true rfl) dX7_cases_56 ⟨Nat.le_of_ble_eq_true rfl, Nat.le_of_ble_eq_true rfl⟩ (fun u_141 H locs hr_140 hP hD hS => ?_)
              obtain ⟨q_142, q_143, q_144, q_145, q_146, q_147, q_148⟩ := u_141
              try dsimp only at hr_140
              obtain ⟨hbq_142, hbq_143, hbq_144, hpq_147, hwq_148, hsr_140_0, hsr_140_1, hsr_140_2, hsr_140_3, hsr_140_4, hsr_140_5, hr_140⟩ := hr_140
              have h9R := zRe (ws' := [(x0, .inr (7, [.ref xs, .ref j0, .ref k0, .ref w0, .ref rd, .ref mv, .ref xr, .int im, .int lf])), (xr, .inl (cI, 8, .inl fr)), (w0, .inr (5, [.ref wk, .ref wl, .ref wc, .ref wp, .int q_142, .int q_143, .int q_144])), (wk, .inl (cI, 125, .inl q_145)), (wl, .inl (cI, 125, .inl q_146)), (wc, .inl (cI, 3, .inl q_147)), (wp, .inl (cP, 8, .inr (.inr (.inr (.inr q_148))))), (j0, .inr (0, [.ref z0, .ref jp, .ref jc, .int cn, .int de, .int tr, .int se, .int hu, .int sd])), (jp, .inl (cP, 8, .inr (.inr (.inr (.inr fp))))), (jc, .inl (cI, 3, .inl fjc))]) hP hD rfl
              clear hP hD
              obtain ⟨hP, hD⟩ := h9R
              obtain ⟨ewn, ewh⟩ := hsr_140_2
              have ewn9 := congrArg Int32.toInt ewn
              have ewh9 := congrArg Int32.toInt ewh
              have hjw9 : zJW po q_148 q_142 kf af tf (0 : Int32) := by (intro j hj; exact hsr_140_0 j (by rw [← ewn]; exact hj))
              have hkm9 : zKm kf af tf q_142.toInt.toNat q_143.toInt (0 : Int32).toInt q_144.toInt q_145 := zKm_0 hsr_140_4
              have hgl9 : ∀ p : Nat, p < q_142.toInt.toNat → ((0 : Int32).toInt ≠ 0 ∨ (kf p).toInt ≠ 5) → (tf p).toInt ≤ q_144.toInt := fun p hp hl => hsr_140_1 p (by rw [ewn] at hp; omega) hl
              refine lv_iload_n hx hb dX7_cases_59 rfl (lv_at hl 2 rfl) ?_
              refine lv_iconst (v := 1) hx hb dX7_cases_60 (by decide) ?_
              refine lv_icmp_ne (tgt := 87) hx hb dX7_cases_61 (by decide) (fun c_149 => ?_) (fun c_149 => ?_)
              · have fc_149 : w.toInt ≠ 1 := zf_ne c_149 rfl (by decide)
                refine lv_aload_n hx hb dX7_cases_87 rfl (lv_at hl 0 rfl) ?_
                refine va_get (D := D) (ci := 7) (v := .ref w0) (C := RX7) (T := TX7) (N := 9) hx hb hts hi_X7_cases_7 hown hK hP 0 rfl rfl 3 (by decide) (hts (.fieldLink RX7 28 "TheLiningsInIt" "ways" "LTheLiningsInIt$Ways;") (List.mem_of_getElem? (i := 1) rfl)) (fun _ h9 => h9) rfl dX7_cases_88 ?_
                refine lv_iload_n hx hb dX7_cases_91 rfl (lv_at hl 1 rfl) ?_
                refine lv_aload_n hx hb dX7_cases_92 rfl (lv_at hl 0 rfl) ?_
                refine va_get (D := D) (ci := 7) (v := .ref j0) (C := RX7) (T := TX7) (N := 9) hx hb hts hi_X7_cases_7 hown hK hP 0 rfl rfl 1 (by decide) (hts (.fieldLink RX7 18 "TheLiningsInIt" "now" "LTheLiningsInIt$Jacket;") (List.mem_of_getElem? (i := 2) rfl)) (fun _ h9 => h9) rfl dX7_cases_93 ?_
                refine va_get (D := D) (ci := 0) (v := .int de) (C := RX0) (T := TX0) (N := 9) hx hb hts hi_X7_cases_0 hown hK hP 7 rfl rfl 4 (by decide) (hts (.fieldLink RX7 199 "TheLiningsInIt$Jacket" "depth" "I") (List.mem_of_getElem? (i := 4) rfl)) (fun _ h9 => h9) rfl dX7_cases_96 ?_
                refine lv_aload_n hx hb dX7_cases_99 rfl (lv_at hl 0 rfl) ?_
                refine va_get (D := D) (ci := 7) (v := .ref j0) (C := RX7) (T := TX7) (N := 9) hx hb hts hi_X7_cases_7 hown hK hP 0 rfl rfl 1 (by decide) (hts (.fieldLink RX7 18 "TheLiningsInIt" "now" "LTheLiningsInIt$Jacket;") (List.mem_of_getElem? (i := 2) rfl)) (fun _ h9 => h9) rfl dX7_cases_100 ?_
                refine va_get (D := D) (ci := 0) (v := .int se) (C := RX0) (T := TX0) (N := 9) hx hb hts hi_X7_cases_0 hown hK hP 7 rfl rfl 6 (by decide) (hts (.fieldLink RX7 202 "TheLiningsInIt$Jacket" "seconds" "I") (List.mem_of_getElem? (i := 5) rfl)) (fun _ h9 => h9) rfl dX7_cases_103 ?_
                skip
                refine zw_VN (As := [.int 3, .int de, .int se]) (rest := []) (wr := [(x0, .inr (7, [.ref xs, .ref j0, .ref k0, .ref w0, .ref rd, .ref mv, .ref xr, .int im, .int lf])), (xr, .inl (cI, 8, .inl fr)), (wl, .inl (cI, 125, .inl q_146)), (wc, .inl (cI, 3, .inl q_147)), (j0, .inr (0, [.ref z0, .ref jp, .ref jc, .int cn, .int de, .int tr, .int se, .int hu, .int sd])), (jp, .inl (cP, 8, .inr (.inr (.inr (.inr fp))))), (jc, .inl (cI, 3, .inl fjc))]) ⟨hx, hb, hml, hown, hts⟩ (c_F_W_most_3 l D cI cJ cZ cP cS po w0 wk wl wc wp (q_142) (q_143) (q_144) q_148 kf af tf (0) q_145 (de) (se) hbq_142.1 hbq_142.2 hbq_143.1 hbq_143.2 hbq_144.1 hbq_144.2 hjw9 (by first | assumption | omega) (by first | assumption | omega) hy6 hy7 hy18 hy19 H.size) ⟨(va_cnB 3 hts gX7_cases_X5_most_n208 rfl rfl rfl (hN.1 (RX7, 208, yX5_most) (List.mem_of_getElem? (i := 10) rfl)) (hts _ (List.mem_of_getElem? (i := 22) rfl)) dh_X5_most ⟨Nat.le_of_ble_eq_true rfl, Nat.le_of_ble_eq_true rfl⟩), (hts _ (List.mem_of_getElem? (i := 95) rfl)), (hts _ (List.mem_of_getElem? (i := 96) rfl))⟩ hK hN (hZ.kept hS) hP hD hS hA [2, 3, 6] [0, 1, 4, 5, 7, 8, 9] rfl rfl (by decide) (by decide) (by decide) (va_recv (q := (RX5, TX5, 7)) hK hP (ci := 5) (q0 := 2) rfl rfl) rfl hl.1 rfl (Nat.le_of_ble_eq_true rfl) dX7_cases_106 ⟨Nat.le_of_ble_eq_true rfl, Nat.le_of_ble_eq_true rfl⟩ (fun r_150 u_151 H locs hr_150 hP hD hS => ?_)
                obtain ⟨q_152, rfl⟩ : ∃ z, z = u_151 := ⟨_, rfl⟩
                obtain ⟨hsr_150_0, hsr_150_1, hr_150⟩ := hr_150
                have h9R := zRe (ws' := [(x0, .inr (7, [.ref xs, .ref j0, .ref k0, .ref w0, .ref rd, .ref mv, .ref xr, .int im, .int lf])), (xr, .inl (cI, 8, .inl fr)), (wl, .inl (cI, 125, .inl q_146)), (wc, .inl (cI, 3, .inl q_147)), (j0, .inr (0, [.ref z0, .ref jp, .ref jc, .int cn, .int de, .int tr, .int se, .int hu, .int sd])), (jp, .inl (cP, 8, .inr (.inr (.inr (.inr fp))))), (jc, .inl (cI, 3, .inl fjc)), (w0, .inr (5, [.ref wk, .ref wl, .ref wc, .ref wp, .int q_142, .int q_143, .int q_144])), (wk, .inl (cI, 125, .inl q_152)), (wp, .inl (cP, 8, .inr (.inr (.inr (.inr q_148)))))]) hP hD rfl
                clear hP hD
                obtain ⟨hP, hD⟩ := h9R
                obtain ⟨g_153, g_154⟩ := hr_150
                exact W.iret (v := r_150) hx hb hr (fun t ht hW => ⟨⟨r_150, (q_142, q_143, q_144, q_152, q_146, q_147, q_148, fr), rfl, ⟨(show 0 ≤ q_142.toInt ∧ q_142.toInt ≤ 8 from hbq_142), (show 0 ≤ q_143.toInt ∧ q_143.toInt ≤ 9 from hbq_143), (show 0 ≤ q_144.toInt ∧ q_144.toInt ≤ 60 from hbq_144), hpq_147, hwq_148, (show ((w.toInt < 0 ∨ 2 < w.toInt) ∧ (r_150 : Int32).toInt = -15) ∨ ((0 ≤ w.toInt ∧ w.toInt ≤ 2) ∧ ((((3 : Int32).toInt < 0 ∨ 4 < (3 : Int32).toInt) ∧ (r_150 : Int32).toInt = -16) ∨ ((0 ≤ (3 : Int32).toInt ∧ (3 : Int32).toInt ≤ 4) ∧ ((w.toInt = 1 ∧ (r_150 : Int32).toInt = zNq kf af tf cn.toInt.toNat hu.toInt (3 : Int32).toInt de.toInt se.toInt) ∨ (w.toInt ≠ 1 ∧ (r_150 : Int32).toInt = zM kf af tf cn.toInt.toNat hu.toInt (if w.toInt = 2 then 0 else 1) (3 : Int32).toInt.toNat de.toInt se.toInt))))) from by (have k3 : (3 : Int32).toInt = 3 := (by decide); have kte : (0 : Int32).toInt = 0 := (by decide); refine Or.inr ⟨by omega, Or.inr ⟨by omega, Or.inr ⟨by omega, (by have z := hsr_150_1; rw [kte, ewn, ewh] at z; rw [show (3 : Int32).toInt.toNat = 3 from by decide, if_pos (by omega)]; exact z)⟩⟩⟩)), trivial⟩, zRet ht hP hD [0, 1, 4, 7, 8, 2, 3, 9, 5, 6] (by decide) rfl⟩, hS.F ht⟩) hS.2.2 dX7_cases_109
              · exfalso; have fc_149 : w.toInt = 1 := zf_eq c_149 rfl (by decide); omega
            · have fc_139 : w.toInt ≠ 2 := zf_ne c_139 rfl (by decide)
              refine lv_iconst (v := 1) hx hb dX7_cases_51 (by decide) ?_
              refine lv_goto (tgt := 56) hx hb dX7_cases_52 (by decide) ?_
              have kc1 : (1 : Int32).toInt = 1 := by decide
              skip
              refine zw_Vv (As := [.ref j0, .int hu, .int 1]) (rest := []) (wr := [(x0, .inr (7, [.ref xs, .ref j0, .ref k0, .ref w0, .ref rd, .ref mv, .ref xr, .int im, .int lf])), (xr, .inl (cI, 8, .inl fr))]) ⟨hx, hb, hml, hown, hts⟩ (c_F_W_look l D cI cJ cZ cP cS po w0 wk wl wc wp (wn) (wh) (wg) j0 jp jc z0 0 0 (cn) (de) (tr) (se) (hu) (sd) fp fq kf af tf fk fl fc fjc (hu) (1) hy10 hy11 hy12 hy13 hy14 hy15 hy4 hy5 hy6 hy7 hy8 hy9 hy8 hy9 hwq hjp hp_fc hp_fjc H.size) (cwV 3 hts gX7_cases_X5_look rfl rfl rfl ⟨rfl, dh_X5_look⟩ ⟨Nat.le_of_ble_eq_true rfl, Nat.le_of_ble_eq_true rfl⟩) hK hN (hZ.kept hS) hP hD hS hA [3, 4, 5, 6, 7, 2, 8, 9] [0, 1] rfl rfl (by decide) (by decide) (by decide) (va_recv (q := (RX5, TX5, 7)) hK hP (ci := 5) (q0 := 3) rfl rfl) rfl hl.1 rfl (Nat.le_of_ble_eq_true rfl) dX7_cases_56 ⟨Nat.le_of_ble_eq_true rfl, Nat.le_of_ble_eq_true rfl⟩ (fun u_156 H locs hr_155 hP hD hS => ?_)
              obtain ⟨q_157, q_158, q_159, q_160, q_161, q_162, q_163⟩ := u_156
              try dsimp only at hr_155
              obtain ⟨hbq_157, hbq_158, hbq_159, hpq_162, hwq_163, hsr_155_0, hsr_155_1, hsr_155_2, hsr_155_3, hsr_155_4, hsr_155_5, hr_155⟩ := hr_155
              have h9R := zRe (ws' := [(x0, .inr (7, [.ref xs, .ref j0, .ref k0, .ref w0, .ref rd, .ref mv, .ref xr, .int im, .int lf])), (xr, .inl (cI, 8, .inl fr)), (w0, .inr (5, [.ref wk, .ref wl, .ref wc, .ref wp, .int q_157, .int q_158, .int q_159])), (wk, .inl (cI, 125, .inl q_160)), (wl, .inl (cI, 125, .inl q_161)), (wc, .inl (cI, 3, .inl q_162)), (wp, .inl (cP, 8, .inr (.inr (.inr (.inr q_163))))), (j0, .inr (0, [.ref z0, .ref jp, .ref jc, .int cn, .int de, .int tr, .int se, .int hu, .int sd])), (jp, .inl (cP, 8, .inr (.inr (.inr (.inr fp))))), (jc, .inl (cI, 3, .inl fjc))]) hP hD rfl
              clear hP hD
              obtain ⟨hP, hD⟩ := h9R
              obtain ⟨ewn, ewh⟩ := hsr_155_2
              have ewn9 := congrArg Int32.toInt ewn
              have ewh9 := congrArg Int32.toInt ewh
              have hjw9 : zJW po q_163 q_157 kf af tf (1 : Int32) := by (intro j hj; exact hsr_155_0 j (by rw [← ewn]; exact hj))
              have hkm9 : zKm kf af tf q_157.toInt.toNat q_158.toInt (1 : Int32).toInt q_159.toInt q_160 := zKm_0 hsr_155_4
              have hgl9 : ∀ p : Nat, p < q_157.toInt.toNat → ((1 : Int32).toInt ≠ 0 ∨ (kf p).toInt ≠ 5) → (tf p).toInt ≤ q_159.toInt := fun p hp hl => hsr_155_1 p (by rw [ewn] at hp; omega) hl
              have hkn9 : zKn kf af tf q_157.toInt.toNat q_158.toInt (q_162 0).toInt (q_162 1).toInt (q_162 2).toInt q_159.toInt q_161 := zKn_0 hsr_155_5
              have hgk9 : ∀ p : Nat, p < q_157.toInt.toNat → (tf p).toInt ≤ q_159.toInt := fun p hp => hgl9 p hp (Or.inl (by decide))
              refine lv_iload_n hx hb dX7_cases_59 rfl (lv_at hl 2 rfl) ?_
              refine lv_iconst (v := 1) hx hb dX7_cases_60 (by decide) ?_
              refine lv_icmp_ne (tgt := 87) hx hb dX7_cases_61 (by decide) (fun c_164 => ?_) (fun c_164 => ?_)
              · have fc_164 : w.toInt ≠ 1 := zf_ne c_164 rfl (by decide)
                refine lv_aload_n hx hb dX7_cases_87 rfl (lv_at hl 0 rfl) ?_
                refine va_get (D := D) (ci := 7) (v := .ref w0) (C := RX7) (T := TX7) (N := 9) hx hb hts hi_X7_cases_7 hown hK hP 0 rfl rfl 3 (by decide) (hts (.fieldLink RX7 28 "TheLiningsInIt" "ways" "LTheLiningsInIt$Ways;") (List.mem_of_getElem? (i := 1) rfl)) (fun _ h9 => h9) rfl dX7_cases_88 ?_
                refine lv_iload_n hx hb dX7_cases_91 rfl (lv_at hl 1 rfl) ?_
                refine lv_aload_n hx hb dX7_cases_92 rfl (lv_at hl 0 rfl) ?_
                refine va_get (D := D) (ci := 7) (v := .ref j0) (C := RX7) (T := TX7) (N := 9) hx hb hts hi_X7_cases_7 hown hK hP 0 rfl rfl 1 (by decide) (hts (.fieldLink RX7 18 "TheLiningsInIt" "now" "LTheLiningsInIt$Jacket;") (List.mem_of_getElem? (i := 2) rfl)) (fun _ h9 => h9) rfl dX7_cases_93 ?_
                refine va_get (D := D) (ci := 0) (v := .int de) (C := RX0) (T := TX0) (N := 9) hx hb hts hi_X7_cases_0 hown hK hP 7 rfl rfl 4 (by decide) (hts (.fieldLink RX7 199 "TheLiningsInIt$Jacket" "depth" "I") (List.mem_of_getElem? (i := 4) rfl)) (fun _ h9 => h9) rfl dX7_cases_96 ?_
                refine lv_aload_n hx hb dX7_cases_99 rfl (lv_at hl 0 rfl) ?_
                refine va_get (D := D) (ci := 7) (v := .ref j0) (C := RX7) (T := TX7) (N := 9) hx hb hts hi_X7_cases_7 hown hK hP 0 rfl rfl 1 (by decide) (hts (.fieldLink RX7 18 "TheLiningsInIt" "now" "LTheLiningsInIt$Jacket;") (List.mem_of_getElem? (i := 2) rfl)) (fun _ h9 => h9) rfl dX7_cases_100 ?_
                refine va_get (D := D) (ci := 0) (v := .int se) (C := RX0) (T := TX0) (N := 9) hx hb hts hi_X7_cases_0 hown hK hP 7 rfl rfl 6 (by decide) (hts (.fieldLink RX7 202 "TheLiningsInIt$Jacket" "seconds" "I") (List.mem_of_getElem? (i := 5) rfl)) (fun _ h9 => h9) rfl dX7_cases_103 ?_
                skip
                refine zw_VN (As := [.int 3, .int de, .int se]) (rest := []) (wr := [(x0, .inr (7, [.ref xs, .ref j0, .ref k0, .ref w0, .ref rd, .ref mv, .ref xr, .int im, .int lf])), (xr, .inl (cI, 8, .inl fr)), (wl, .inl (cI, 125, .inl q_161)), (wc, .inl (cI, 3, .inl q_162)), (j0, .inr (0, [.ref z0, .ref jp, .ref jc, .int cn, .int de, .int tr, .int se, .int hu, .int sd])), (jp, .inl (cP, 8, .inr (.inr (.inr (.inr fp))))), (jc, .inl (cI, 3, .inl fjc))]) ⟨hx, hb, hml, hown, hts⟩ (c_F_W_most_3 l D cI cJ cZ cP cS po w0 wk wl wc wp (q_157) (q_158) (q_159) q_163 kf af tf (1) q_160 (de) (se) hbq_157.1 hbq_157.2 hbq_158.1 hbq_158.2 hbq_159.1 hbq_159.2 hjw9 (by first | assumption | omega) (by first | assumption | omega) hy6 hy7 hy18 hy19 H.size) ⟨(va_cnB 3 hts gX7_cases_X5_most_n208 rfl rfl rfl (hN.1 (RX7, 208, yX5_most) (List.mem_of_getElem? (i := 10) rfl)) (hts _ (List.mem_of_getElem? (i := 22) rfl)) dh_X5_most ⟨Nat.le_of_ble_eq_true rfl, Nat.le_of_ble_eq_true rfl⟩), (hts _ (List.mem_of_getElem? (i := 95) rfl)), (hts _ (List.mem_of_getElem? (i := 96) rfl))⟩ hK hN (hZ.kept hS) hP hD hS hA [2, 3, 6] [0, 1, 4, 5, 7, 8, 9] rfl rfl (by decide) (by decide) (by decide) (va_recv (q := (RX5, TX5, 7)) hK hP (ci := 5) (q0 := 2) rfl rfl) rfl hl.1 rfl (Nat.le_of_ble_eq_true rfl) dX7_cases_106 ⟨Nat.le_of_ble_eq_true rfl, Nat.le_of_ble_eq_true rfl⟩ (fun r_165 u_166 H locs hr_165 hP hD hS => ?_)
                obtain ⟨q_167, rfl⟩ : ∃ z, z = u_166 := ⟨_, rfl⟩
                obtain ⟨hsr_165_0, hsr_165_1, hr_165⟩ := hr_165
                have h9R := zRe (ws' := [(x0, .inr (7, [.ref xs, .ref j0, .ref k0, .ref w0, .ref rd, .ref mv, .ref xr, .int im, .int lf])), (xr, .inl (cI, 8, .inl fr)), (wl, .inl (cI, 125, .inl q_161)), (wc, .inl (cI, 3, .inl q_162)), (j0, .inr (0, [.ref z0, .ref jp, .ref jc, .int cn, .int de, .int tr, .int se, .int hu, .int sd])), (jp, .inl (cP, 8, .inr (.inr (.inr (.inr fp))))), (jc, .inl (cI, 3, .inl fjc)), (w0, .inr (5, [.ref wk, .ref wl, .ref wc, .ref wp, .int q_157, .int q_158, .int q_159])), (wk, .inl (cI, 125, .inl q_167)), (wp, .inl (cP, 8, .inr (.inr (.inr (.inr q_163)))))]) hP hD rfl
                clear hP hD
                obtain ⟨hP, hD⟩ := h9R
                obtain ⟨g_168, g_169⟩ := hr_165
                exact W.iret (v := r_165) hx hb hr (fun t ht hW => ⟨⟨r_165, (q_157, q_158, q_159, q_167, q_161, q_162, q_163, fr), rfl, ⟨(show 0 ≤ q_157.toInt ∧ q_157.toInt ≤ 8 from hbq_157), (show 0 ≤ q_158.toInt ∧ q_158.toInt ≤ 9 from hbq_158), (show 0 ≤ q_159.toInt ∧ q_159.toInt ≤ 60 from hbq_159), hpq_162, hwq_163, (show ((w.toInt < 0 ∨ 2 < w.toInt) ∧ (r_165 : Int32).toInt = -15) ∨ ((0 ≤ w.toInt ∧ w.toInt ≤ 2) ∧ ((((3 : Int32).toInt < 0 ∨ 4 < (3 : Int32).toInt) ∧ (r_165 : Int32).toInt = -16) ∨ ((0 ≤ (3 : Int32).toInt ∧ (3 : Int32).toInt ≤ 4) ∧ ((w.toInt = 1 ∧ (r_165 : Int32).toInt = zNq kf af tf cn.toInt.toNat hu.toInt (3 : Int32).toInt de.toInt se.toInt) ∨ (w.toInt ≠ 1 ∧ (r_165 : Int32).toInt = zM kf af tf cn.toInt.toNat hu.toInt (if w.toInt = 2 then 0 else 1) (3 : Int32).toInt.toNat de.toInt se.toInt))))) from by (have k3 : (3 : Int32).toInt = 3 := (by decide); have kte : (1 : Int32).toInt = 1 := (by decide); refine Or.inr ⟨by omega, Or.inr ⟨by omega, Or.inr ⟨by omega, (by have z := hsr_165_1; rw [kte, ewn, ewh] at z; rw [show (3 : Int32).toInt.toNat = 3 from by decide, if_neg (by omega)]; exact z)⟩⟩⟩)), trivial⟩, zRet ht hP hD [0, 1, 4, 7, 8, 2, 3, 9, 5, 6] (by decide) rfl⟩, hS.F ht⟩) hS.2.2 dX7_cases_109
              · have fc_164 : w.toInt = 1 := zf_eq c_164 rfl (by decide)
                refine lv_aload_n hx hb dX7_cases_64 rfl (lv_at hl 0 rfl) ?_
                refine va_get (D := D) (ci := 7) (v := .ref w0) (C := RX7) (T := TX7) (N := 9) hx hb hts hi_X7_cases_7 hown hK hP 0 rfl rfl 3 (by decide) (hts (.fieldLink RX7 28 "TheLiningsInIt" "ways" "LTheLiningsInIt$Ways;") (List.mem_of_getElem? (i := 1) rfl)) (fun _ h9 => h9) rfl dX7_cases_65 ?_
                refine lv_iload_n hx hb dX7_cases_68 rfl (lv_at hl 1 rfl) ?_
                refine lv_aload_n hx hb dX7_cases_69 rfl (lv_at hl 0 rfl) ?_
                refine va_get (D := D) (ci := 7) (v := .ref j0) (C := RX7) (T := TX7) (N := 9) hx hb hts hi_X7_cases_7 hown hK hP 0 rfl rfl 1 (by decide) (hts (.fieldLink RX7 18 "TheLiningsInIt" "now" "LTheLiningsInIt$Jacket;") (List.mem_of_getElem? (i := 2) rfl)) (fun _ h9 => h9) rfl dX7_cases_70 ?_
                refine va_get (D := D) (ci := 0) (v := .int de) (C := RX0) (T := TX0) (N := 9) hx hb hts hi_X7_cases_0 hown hK hP 7 rfl rfl 4 (by decide) (hts (.fieldLink RX7 199 "TheLiningsInIt$Jacket" "depth" "I") (List.mem_of_getElem? (i := 4) rfl)) (fun _ h9 => h9) rfl dX7_cases_73 ?_
                refine lv_aload_n hx hb dX7_cases_76 rfl (lv_at hl 0 rfl) ?_
                refine va_get (D := D) (ci := 7) (v := .ref j0) (C := RX7) (T := TX7) (N := 9) hx hb hts hi_X7_cases_7 hown hK hP 0 rfl rfl 1 (by decide) (hts (.fieldLink RX7 18 "TheLiningsInIt" "now" "LTheLiningsInIt$Jacket;") (List.mem_of_getElem? (i := 2) rfl)) (fun _ h9 => h9) rfl dX7_cases_77 ?_
                refine va_get (D := D) (ci := 0) (v := .int se) (C := RX0) (T := TX0) (N := 9) hx hb hts hi_X7_cases_0 hown hK hP 7 rfl rfl 6 (by decide) (hts (.fieldLink RX7 202 "TheLiningsInIt$Jacket" "seconds" "I") (List.mem_of_getElem? (i := 5) rfl)) (fun _ h9 => h9) rfl dX7_cases_80 ?_
                skip
                refine zw_V (As := [.int 3, .int de, .int se]) (rest := []) (wr := [(x0, .inr (7, [.ref xs, .ref j0, .ref k0, .ref w0, .ref rd, .ref mv, .ref xr, .int im, .int lf])), (xr, .inl (cI, 8, .inl fr)), (wl, .inl (cI, 125, .inl q_161)), (wc, .inl (cI, 3, .inl q_162)), (j0, .inr (0, [.ref z0, .ref jp, .ref jc, .int cn, .int de, .int tr, .int se, .int hu, .int sd])), (jp, .inl (cP, 8, .inr (.inr (.inr (.inr fp))))), (jc, .inl (cI, 3, .inl fjc))]) ⟨hx, hb, hml, hown, hts⟩ (c_F_W_next_3 l D cI cJ cZ cP cS po w0 wk wl wc wp (q_157) (q_158) (q_159) q_163 kf af tf (1) q_160 (de) (se) hbq_157.1 hbq_157.2 hbq_158.1 hbq_158.2 hbq_159.1 hbq_159.2 hjw9 (by first | assumption | omega) (by first | assumption | omega) hy6 hy7 hy18 hy19 H.size) (cwV 3 hts gX7_cases_X5_next rfl rfl rfl ⟨rfl, dh_X5_next⟩ ⟨Nat.le_of_ble_eq_true rfl, Nat.le_of_ble_eq_true rfl⟩) hK hN (hZ.kept hS) hP hD hS hA [2, 3, 6] [0, 1, 4, 5, 7, 8, 9] rfl rfl (by decide) (by decide) (by decide) (va_recv (q := (RX5, TX5, 7)) hK hP (ci := 5) (q0 := 2) rfl rfl) rfl hl.1 rfl (Nat.le_of_ble_eq_true rfl) dX7_cases_83 ⟨Nat.le_of_ble_eq_true rfl, Nat.le_of_ble_eq_true rfl⟩ (fun r_170 u_171 H locs hr_170 hP hD hS => ?_)
                obtain ⟨q_172, rfl⟩ : ∃ z, z = u_171 := ⟨_, rfl⟩
                obtain ⟨hsr_170_0, hsr_170_1, hr_170⟩ := hr_170
                have h9R := zRe (ws' := [(x0, .inr (7, [.ref xs, .ref j0, .ref k0, .ref w0, .ref rd, .ref mv, .ref xr, .int im, .int lf])), (xr, .inl (cI, 8, .inl fr)), (wl, .inl (cI, 125, .inl q_161)), (wc, .inl (cI, 3, .inl q_162)), (j0, .inr (0, [.ref z0, .ref jp, .ref jc, .int cn, .int de, .int tr, .int se, .int hu, .int sd])), (jp, .inl (cP, 8, .inr (.inr (.inr (.inr fp))))), (jc, .inl (cI, 3, .inl fjc)), (w0, .inr (5, [.ref wk, .ref wl, .ref wc, .ref wp, .int q_157, .int q_158, .int q_159])), (wk, .inl (cI, 125, .inl q_172)), (wp, .inl (cP, 8, .inr (.inr (.inr (.inr q_163)))))]) hP hD rfl
                clear hP hD
                obtain ⟨hP, hD⟩ := h9R
                obtain ⟨g_173, g_174⟩ := hr_170
                exact W.iret (v := r_170) hx hb hr (fun t ht hW => ⟨⟨r_170, (q_157, q_158, q_159, q_172, q_161, q_162, q_163, fr), rfl, ⟨(show 0 ≤ q_157.toInt ∧ q_157.toInt ≤ 8 from hbq_157), (show 0 ≤ q_158.toInt ∧ q_158.toInt ≤ 9 from hbq_158), (show 0 ≤ q_159.toInt ∧ q_159.toInt ≤ 60 from hbq_159), hpq_162, hwq_163, (show ((w.toInt < 0 ∨ 2 < w.toInt) ∧ (r_170 : Int32).toInt = -15) ∨ ((0 ≤ w.toInt ∧ w.toInt ≤ 2) ∧ ((((3 : Int32).toInt < 0 ∨ 4 < (3 : Int32).toInt) ∧ (r_170 : Int32).toInt = -16) ∨ ((0 ≤ (3 : Int32).toInt ∧ (3 : Int32).toInt ≤ 4) ∧ ((w.toInt = 1 ∧ (r_170 : Int32).toInt = zNq kf af tf cn.toInt.toNat hu.toInt (3 : Int32).toInt de.toInt se.toInt) ∨ (w.toInt ≠ 1 ∧ (r_170 : Int32).toInt = zM kf af tf cn.toInt.toNat hu.toInt (if w.toInt = 2 then 0 else 1) (3 : Int32).toInt.toNat de.toInt se.toInt))))) from by (have k3 : (3 : Int32).toInt = 3 := (by decide); have kte : (1 : Int32).toInt = 1 := (by decide); refine Or.inr ⟨by omega, Or.inr ⟨by omega, Or.inl ⟨by omega, (by have z := hsr_170_1; rw [kte, ewn, ewh] at z; unfold zNq; rw [show (3 : Int32).toInt = 3 from by decide, if_neg (by decide), show ((3 : Int) - 1).toNat = 2 from by decide]; exact z)⟩⟩⟩)), trivial⟩, zRet ht hP hD [0, 1, 4, 7, 8, 2, 3, 9, 5, 6] (by decide) rfl⟩, hS.F ht⟩) hS.2.2 dX7_cases_86
          · refine lv_aload_n hx hb dX7_cases_31 rfl (lv_at hl 0 rfl) ?_
            refine va_get (D := D) (ci := 7) (v := .ref w0) (C := RX7) (T := TX7) (N := 9) hx hb hts hi_X7_cases_7 hown hK hP 0 rfl rfl 3 (by decide) (hts (.fieldLink RX7 28 "TheLiningsInIt" "ways" "LTheLiningsInIt$Ways;") (List.mem_of_getElem? (i := 1) rfl)) (fun _ h9 => h9) rfl dX7_cases_32 ?_
            refine lv_aload_n hx hb dX7_cases_35 rfl (lv_at hl 0 rfl) ?_
            refine va_get (D := D) (ci := 7) (v := .ref j0) (C := RX7) (T := TX7) (N := 9) hx hb hts hi_X7_cases_7 hown hK hP 0 rfl rfl 1 (by decide) (hts (.fieldLink RX7 18 "TheLiningsInIt" "now" "LTheLiningsInIt$Jacket;") (List.mem_of_getElem? (i := 2) rfl)) (fun _ h9 => h9) rfl dX7_cases_36 ?_
            refine lv_aload_n hx hb dX7_cases_39 rfl (lv_at hl 0 rfl) ?_
            refine va_get (D := D) (ci := 7) (v := .ref j0) (C := RX7) (T := TX7) (N := 9) hx hb hts hi_X7_cases_7 hown hK hP 0 rfl rfl 1 (by decide) (hts (.fieldLink RX7 18 "TheLiningsInIt" "now" "LTheLiningsInIt$Jacket;") (List.mem_of_getElem? (i := 2) rfl)) (fun _ h9 => h9) rfl dX7_cases_40 ?_
            refine va_get (D := D) (ci := 0) (v := .int hu) (C := RX0) (T := TX0) (N := 9) hx hb hts hi_X7_cases_0 hown hK hP 2 rfl rfl 7 (by decide) (hts (.fieldLink RX7 116 "TheLiningsInIt$Jacket" "hurry" "I") (List.mem_of_getElem? (i := 3) rfl)) (fun _ h9 => h9) rfl dX7_cases_43 ?_
            refine lv_iload_n hx hb dX7_cases_46 rfl (lv_at hl 2 rfl) ?_
            refine lv_iconst (v := 2) hx hb dX7_cases_47 (by decide) ?_
            refine lv_icmp_eq (tgt := 55) hx hb dX7_cases_48 (by decide) (fun c_175 => ?_) (fun c_175 => ?_)
            · have fc_175 : w.toInt = 2 := zf_eq c_175 rfl (by decide)
              refine lv_iconst (v := 0) hx hb dX7_cases_55 (by decide) ?_
              skip
              refine zw_Vv (As := [.ref j0, .int hu, .int 0]) (rest := []) (wr := [(x0, .inr (7, [.ref xs, .ref j0, .ref k0, .ref w0, .ref rd, .ref mv, .ref xr, .int im, .int lf])), (xr, .inl (cI, 8, .inl fr))]) ⟨hx, hb, hml, hown, hts⟩ (c_F_W_look l D cI cJ cZ cP cS po w0 wk wl wc wp (wn) (wh) (wg) j0 jp jc z0 0 0 (cn) (de) (tr) (se) (hu) (sd) fp fq kf af tf fk fl fc fjc (hu) (0) hy10 hy11 hy12 hy13 hy14 hy15 hy4 hy5 hy6 hy7 hy8 hy9 hy8 hy9 hwq hjp hp_fc hp_fjc H.size) (cwV 3 hts gX7_cases_X5_look rfl rfl rfl ⟨rfl, dh_X5_look⟩ ⟨Nat.le_of_ble_eq_true rfl, Nat.le_of_ble_eq_true rfl⟩) hK hN (hZ.kept hS) hP hD hS hA [3, 4, 5, 6, 7, 2, 8, 9] [0, 1] rfl rfl (by decide) (by decide) (by decide) (va_recv (q := (RX5, TX5, 7)) hK hP (ci := 5) (q0 := 3) rfl rfl) rfl hl.1 rfl (Nat.le_of_ble_eq_true rfl) dX7_cases_56 ⟨Nat.le_of_ble_eq_true rfl, Nat.le_of_ble_eq_true rfl⟩ (fun u_177 H locs hr_176 hP hD hS => ?_)
              obtain ⟨q_178, q_179, q_180, q_181, q_182, q_183, q_184⟩ := u_177
              try dsimp only at hr_176
              obtain ⟨hbq_178, hbq_179, hbq_180, hpq_183, hwq_184, hsr_176_0, hsr_176_1, hsr_176_2, hsr_176_3, hsr_176_4, hsr_176_5, hr_176⟩ := hr_176
              have h9R := zRe (ws' := [(x0, .inr (7, [.ref xs, .ref j0, .ref k0, .ref w0, .ref rd, .ref mv, .ref xr, .int im, .int lf])), (xr, .inl (cI, 8, .inl fr)), (w0, .inr (5, [.ref wk, .ref wl, .ref wc, .ref wp, .int q_178, .int q_179, .int q_180])), (wk, .inl (cI, 125, .inl q_181)), (wl, .inl (cI, 125, .inl q_182)), (wc, .inl (cI, 3, .inl q_183)), (wp, .inl (cP, 8, .inr (.inr (.inr (.inr q_184))))), (j0, .inr (0, [.ref z0, .ref jp, .ref jc, .int cn, .int de, .int tr, .int se, .int hu, .int sd])), (jp, .inl (cP, 8, .inr (.inr (.inr (.inr fp))))), (jc, .inl (cI, 3, .inl fjc))]) hP hD rfl
              clear hP hD
              obtain ⟨hP, hD⟩ := h9R
              obtain ⟨ewn, ewh⟩ := hsr_176_2
              have ewn9 := congrArg Int32.toInt ewn
              have ewh9 := congrArg Int32.toInt ewh
              have hjw9 : zJW po q_184 q_178 kf af tf (0 : Int32) := by (intro j hj; exact hsr_176_0 j (by rw [← ewn]; exact hj))
              have hkm9 : zKm kf af tf q_178.toInt.toNat q_179.toInt (0 : Int32).toInt q_180.toInt q_181 := zKm_0 hsr_176_4
              have hgl9 : ∀ p : Nat, p < q_178.toInt.toNat → ((0 : Int32).toInt ≠ 0 ∨ (kf p).toInt ≠ 5) → (tf p).toInt ≤ q_180.toInt := fun p hp hl => hsr_176_1 p (by rw [ewn] at hp; omega) hl
              refine lv_iload_n hx hb dX7_cases_59 rfl (lv_at hl 2 rfl) ?_
              refine lv_iconst (v := 1) hx hb dX7_cases_60 (by decide) ?_
              refine lv_icmp_ne (tgt := 87) hx hb dX7_cases_61 (by decide) (fun c_185 => ?_) (fun c_185 => ?_)
              · have fc_185 : w.toInt ≠ 1 := zf_ne c_185 rfl (by decide)
                refine lv_aload_n hx hb dX7_cases_87 rfl (lv_at hl 0 rfl) ?_
                refine va_get (D := D) (ci := 7) (v := .ref w0) (C := RX7) (T := TX7) (N := 9) hx hb hts hi_X7_cases_7 hown hK hP 0 rfl rfl 3 (by decide) (hts (.fieldLink RX7 28 "TheLiningsInIt" "ways" "LTheLiningsInIt$Ways;") (List.mem_of_getElem? (i := 1) rfl)) (fun _ h9 => h9) rfl dX7_cases_88 ?_
                refine lv_iload_n hx hb dX7_cases_91 rfl (lv_at hl 1 rfl) ?_
                refine lv_aload_n hx hb dX7_cases_92 rfl (lv_at hl 0 rfl) ?_
                refine va_get (D := D) (ci := 7) (v := .ref j0) (C := RX7) (T := TX7) (N := 9) hx hb hts hi_X7_cases_7 hown hK hP 0 rfl rfl 1 (by decide) (hts (.fieldLink RX7 18 "TheLiningsInIt" "now" "LTheLiningsInIt$Jacket;") (List.mem_of_getElem? (i := 2) rfl)) (fun _ h9 => h9) rfl dX7_cases_93 ?_
                refine va_get (D := D) (ci := 0) (v := .int de) (C := RX0) (T := TX0) (N := 9) hx hb hts hi_X7_cases_0 hown hK hP 7 rfl rfl 4 (by decide) (hts (.fieldLink RX7 199 "TheLiningsInIt$Jacket" "depth" "I") (List.mem_of_getElem? (i := 4) rfl)) (fun _ h9 => h9) rfl dX7_cases_96 ?_
                refine lv_aload_n hx hb dX7_cases_99 rfl (lv_at hl 0 rfl) ?_
                refine va_get (D := D) (ci := 7) (v := .ref j0) (C := RX7) (T := TX7) (N := 9) hx hb hts hi_X7_cases_7 hown hK hP 0 rfl rfl 1 (by decide) (hts (.fieldLink RX7 18 "TheLiningsInIt" "now" "LTheLiningsInIt$Jacket;") (List.mem_of_getElem? (i := 2) rfl)) (fun _ h9 => h9) rfl dX7_cases_100 ?_
                refine va_get (D := D) (ci := 0) (v := .int se) (C := RX0) (T := TX0) (N := 9) hx hb hts hi_X7_cases_0 hown hK hP 7 rfl rfl 6 (by decide) (hts (.fieldLink RX7 202 "TheLiningsInIt$Jacket" "seconds" "I") (List.mem_of_getElem? (i := 5) rfl)) (fun _ h9 => h9) rfl dX7_cases_103 ?_
                skip
                refine zw_VN (As := [.int 4, .int de, .int se]) (rest := []) (wr := [(x0, .inr (7, [.ref xs, .ref j0, .ref k0, .ref w0, .ref rd, .ref mv, .ref xr, .int im, .int lf])), (xr, .inl (cI, 8, .inl fr)), (wl, .inl (cI, 125, .inl q_182)), (wc, .inl (cI, 3, .inl q_183)), (j0, .inr (0, [.ref z0, .ref jp, .ref jc, .int cn, .int de, .int tr, .int se, .int hu, .int sd])), (jp, .inl (cP, 8, .inr (.inr (.inr (.inr fp))))), (jc, .inl (cI, 3, .inl fjc))]) ⟨hx, hb, hml, hown, hts⟩ (c_F_W_most_4 l D cI cJ cZ cP cS po w0 wk wl wc wp (q_178) (q_179) (q_180) q_184 kf af tf (0) q_181 (de) (se) hbq_178.1 hbq_178.2 hbq_179.1 hbq_179.2 hbq_180.1 hbq_180.2 hjw9 (by first | assumption | omega) (by first | assumption | omega) hy6 hy7 hy18 hy19 H.size) ⟨(va_cnB 3 hts gX7_cases_X5_most_n208 rfl rfl rfl (hN.1 (RX7, 208, yX5_most) (List.mem_of_getElem? (i := 10) rfl)) (hts _ (List.mem_of_getElem? (i := 22) rfl)) dh_X5_most ⟨Nat.le_of_ble_eq_true rfl, Nat.le_of_ble_eq_true rfl⟩), (hts _ (List.mem_of_getElem? (i := 95) rfl)), (hts _ (List.mem_of_getElem? (i := 96) rfl))⟩ hK hN (hZ.kept hS) hP hD hS hA [2, 3, 6] [0, 1, 4, 5, 7, 8, 9] rfl rfl (by decide) (by decide) (by decide) (va_recv (q := (RX5, TX5, 7)) hK hP (ci := 5) (q0 := 2) rfl rfl) rfl hl.1 rfl (Nat.le_of_ble_eq_true rfl) dX7_cases_106 ⟨Nat.le_of_ble_eq_true rfl, Nat.le_of_ble_eq_true rfl⟩ (fun r_186 u_187 H locs hr_186 hP hD hS => ?_)
                obtain ⟨q_188, rfl⟩ : ∃ z, z = u_187 := ⟨_, rfl⟩
                obtain ⟨hsr_186_0, hsr_186_1, hr_186⟩ := hr_186
                have h9R := zRe (ws' := [(x0, .inr (7, [.ref xs, .ref j0, .ref k0, .ref w0, .ref rd, .ref mv, .ref xr, .int im, .int lf])), (xr, .inl (cI, 8, .inl fr)), (wl, .inl (cI, 125, .inl q_182)), (wc, .inl (cI, 3, .inl q_183)), (j0, .inr (0, [.ref z0, .ref jp, .ref jc, .int cn, .int de, .int tr, .int se, .int hu, .int sd])), (jp, .inl (cP, 8, .inr (.inr (.inr (.inr fp))))), (jc, .inl (cI, 3, .inl fjc)), (w0, .inr (5, [.ref wk, .ref wl, .ref wc, .ref wp, .int q_178, .int q_179, .int q_180])), (wk, .inl (cI, 125, .inl q_188)), (wp, .inl (cP, 8, .inr (.inr (.inr (.inr q_184)))))]) hP hD rfl
                clear hP hD
                obtain ⟨hP, hD⟩ := h9R
                obtain ⟨g_189, g_190⟩ := hr_186
                exact W.iret (v := r_186) hx hb hr (fun t ht hW => ⟨⟨r_186, (q_178, q_179, q_180, q_188, q_182, q_183, q_184, fr), rfl, ⟨(show 0 ≤ q_178.toInt ∧ q_178.toInt ≤ 8 from hbq_178), (show 0 ≤ q_179.toInt ∧ q_179.toInt ≤ 9 from hbq_179), (show 0 ≤ q_180.toInt ∧ q_180.toInt ≤ 60 from hbq_180), hpq_183, hwq_184, (show ((w.toInt < 0 ∨ 2 < w.toInt) ∧ (r_186 : Int32).toInt = -15) ∨ ((0 ≤ w.toInt ∧ w.toInt ≤ 2) ∧ ((((4 : Int32).toInt < 0 ∨ 4 < (4 : Int32).toInt) ∧ (r_186 : Int32).toInt = -16) ∨ ((0 ≤ (4 : Int32).toInt ∧ (4 : Int32).toInt ≤ 4) ∧ ((w.toInt = 1 ∧ (r_186 : Int32).toInt = zNq kf af tf cn.toInt.toNat hu.toInt (4 : Int32).toInt de.toInt se.toInt) ∨ (w.toInt ≠ 1 ∧ (r_186 : Int32).toInt = zM kf af tf cn.toInt.toNat hu.toInt (if w.toInt = 2 then 0 else 1) (4 : Int32).toInt.toNat de.toInt se.toInt))))) from by (have k4 : (4 : Int32).toInt = 4 := (by decide); have kte : (0 : Int32).toInt = 0 := (by decide); refine Or.inr ⟨by omega, Or.inr ⟨by omega, Or.inr ⟨by omega, (by have z := hsr_186_1; rw [kte, ewn, ewh] at z; rw [show (4 : Int32).toInt.toNat = 4 from by decide, if_pos (by omega)]; exact z)⟩⟩⟩)), trivial⟩, zRet ht hP hD [0, 1, 4, 7, 8, 2, 3, 9, 5, 6] (by decide) rfl⟩, hS.F ht⟩) hS.2.2 dX7_cases_109
              · exfalso; have fc_185 : w.toInt = 1 := zf_eq c_185 rfl (by decide); omega
            · have fc_175 : w.toInt ≠ 2 := zf_ne c_175 rfl (by decide)
              refine lv_iconst (v := 1) hx hb dX7_cases_51 (by decide) ?_
              refine lv_goto (tgt := 56) hx hb dX7_cases_52 (by decide) ?_
              have kc1 : (1 : Int32).toInt = 1 := by decide
              skip
              refine zw_Vv (As := [.ref j0, .int hu, .int 1]) (rest := []) (wr := [(x0, .inr (7, [.ref xs, .ref j0, .ref k0, .ref w0, .ref rd, .ref mv, .ref xr, .int im, .int lf])), (xr, .inl (cI, 8, .inl fr))]) ⟨hx, hb, hml, hown, hts⟩ (c_F_W_look l D cI cJ cZ cP cS po w0 wk wl wc wp (wn) (wh) (wg) j0 jp jc z0 0 0 (cn) (de) (tr) (se) (hu) (sd) fp fq kf af tf fk fl fc fjc (hu) (1) hy10 hy11 hy12 hy13 hy14 hy15 hy4 hy5 hy6 hy7 hy8 hy9 hy8 hy9 hwq hjp hp_fc hp_fjc H.size) (cwV 3 hts gX7_cases_X5_look rfl rfl rfl ⟨rfl, dh_X5_look⟩ ⟨Nat.le_of_ble_eq_true rfl, Nat.le_of_ble_eq_true rfl⟩) hK hN (hZ.kept hS) hP hD hS hA [3, 4, 5, 6, 7, 2, 8, 9] [0, 1] rfl rfl (by decide) (by decide) (by decide) (va_recv (q := (RX5, TX5, 7)) hK hP (ci := 5) (q0 := 3) rfl rfl) rfl hl.1 rfl (Nat.le_of_ble_eq_true rfl) dX7_cases_56 ⟨Nat.le_of_ble_eq_true rfl, Nat.le_of_ble_eq_true rfl⟩ (fun u_192 H locs hr_191 hP hD hS => ?_)
              obtain ⟨q_193, q_194, q_195, q_196, q_197, q_198, q_199⟩ := u_192
              try dsimp only at hr_191
              obtain ⟨hbq_193, hbq_194, hbq_195, hpq_198, hwq_199, hsr_191_0, hsr_191_1, hsr_191_2, hsr_191_3, hsr_191_4, hsr_191_5, hr_191⟩ := hr_191
              have h9R := zRe (ws' := [(x0, .inr (7, [.ref xs, .ref j0, .ref k0, .ref w0, .ref rd, .ref mv, .ref xr, .int im, .int lf])), (xr, .inl (cI, 8, .inl fr)), (w0, .inr (5, [.ref wk, .ref wl, .ref wc, .ref wp, .int q_193, .int q_194, .int q_195])), (wk, .inl (cI, 125, .inl q_196)), (wl, .inl (cI, 125, .inl q_197)), (wc, .inl (cI, 3, .inl q_198)), (wp, .inl (cP, 8, .inr (.inr (.inr (.inr q_199))))), (j0, .inr (0, [.ref z0, .ref jp, .ref jc, .int cn, .int de, .int tr, .int se, .int hu, .int sd])), (jp, .inl (cP, 8, .inr (.inr (.inr (.inr fp))))), (jc, .inl (cI, 3, .inl fjc))]) hP hD rfl
              clear hP hD
              obtain ⟨hP, hD⟩ := h9R
              obtain ⟨ewn, ewh⟩ := hsr_191_2
              have ewn9 := congrArg Int32.toInt ewn
              have ewh9 := congrArg Int32.toInt ewh
              have hjw9 : zJW po q_199 q_193 kf af tf (1 : Int32) := by (intro j hj; exact hsr_191_0 j (by rw [← ewn]; exact hj))
              have hkm9 : zKm kf af tf q_193.toInt.toNat q_194.toInt (1 : Int32).toInt q_195.toInt q_196 := zKm_0 hsr_191_4
              have hgl9 : ∀ p : Nat, p < q_193.toInt.toNat → ((1 : Int32).toInt ≠ 0 ∨ (kf p).toInt ≠ 5) → (tf p).toInt ≤ q_195.toInt := fun p hp hl => hsr_191_1 p (by rw [ewn] at hp; omega) hl
              have hkn9 : zKn kf af tf q_193.toInt.toNat q_194.toInt (q_198 0).toInt (q_198 1).toInt (q_198 2).toInt q_195.toInt q_197 := zKn_0 hsr_191_5
              have hgk9 : ∀ p : Nat, p < q_193.toInt.toNat → (tf p).toInt ≤ q_195.toInt := fun p hp => hgl9 p hp (Or.inl (by decide))
              refine lv_iload_n hx hb dX7_cases_59 rfl (lv_at hl 2 rfl) ?_
              refine lv_iconst (v := 1) hx hb dX7_cases_60 (by decide) ?_
              refine lv_icmp_ne (tgt := 87) hx hb dX7_cases_61 (by decide) (fun c_200 => ?_) (fun c_200 => ?_)
              · have fc_200 : w.toInt ≠ 1 := zf_ne c_200 rfl (by decide)
                refine lv_aload_n hx hb dX7_cases_87 rfl (lv_at hl 0 rfl) ?_
                refine va_get (D := D) (ci := 7) (v := .ref w0) (C := RX7) (T := TX7) (N := 9) hx hb hts hi_X7_cases_7 hown hK hP 0 rfl rfl 3 (by decide) (hts (.fieldLink RX7 28 "TheLiningsInIt" "ways" "LTheLiningsInIt$Ways;") (List.mem_of_getElem? (i := 1) rfl)) (fun _ h9 => h9) rfl dX7_cases_88 ?_
                refine lv_iload_n hx hb dX7_cases_91 rfl (lv_at hl 1 rfl) ?_
                refine lv_aload_n hx hb dX7_cases_92 rfl (lv_at hl 0 rfl) ?_
                refine va_get (D := D) (ci := 7) (v := .ref j0) (C := RX7) (T := TX7) (N := 9) hx hb hts hi_X7_cases_7 hown hK hP 0 rfl rfl 1 (by decide) (hts (.fieldLink RX7 18 "TheLiningsInIt" "now" "LTheLiningsInIt$Jacket;") (List.mem_of_getElem? (i := 2) rfl)) (fun _ h9 => h9) rfl dX7_cases_93 ?_
                refine va_get (D := D) (ci := 0) (v := .int de) (C := RX0) (T := TX0) (N := 9) hx hb hts hi_X7_cases_0 hown hK hP 7 rfl rfl 4 (by decide) (hts (.fieldLink RX7 199 "TheLiningsInIt$Jacket" "depth" "I") (List.mem_of_getElem? (i := 4) rfl)) (fun _ h9 => h9) rfl dX7_cases_96 ?_
                refine lv_aload_n hx hb dX7_cases_99 rfl (lv_at hl 0 rfl) ?_
                refine va_get (D := D) (ci := 7) (v := .ref j0) (C := RX7) (T := TX7) (N := 9) hx hb hts hi_X7_cases_7 hown hK hP 0 rfl rfl 1 (by decide) (hts (.fieldLink RX7 18 "TheLiningsInIt" "now" "LTheLiningsInIt$Jacket;") (List.mem_of_getElem? (i := 2) rfl)) (fun _ h9 => h9) rfl dX7_cases_100 ?_
                refine va_get (D := D) (ci := 0) (v := .int se) (C := RX0) (T := TX0) (N := 9) hx hb hts hi_X7_cases_0 hown hK hP 7 rfl rfl 6 (by decide) (hts (.fieldLink RX7 202 "TheLiningsInIt$Jacket" "seconds" "I") (List.mem_of_getElem? (i := 5) rfl)) (fun _ h9 => h9) rfl dX7_cases_103 ?_
                skip
                refine zw_VN (As := [.int 4, .int de, .int se]) (rest := []) (wr := [(x0, .inr (7, [.ref xs, .ref j0, .ref k0, .ref w0, .ref rd, .ref mv, .ref xr, .int im, .int lf])), (xr, .inl (cI, 8, .inl fr)), (wl, .inl (cI, 125, .inl q_197)), (wc, .inl (cI, 3, .inl q_198)), (j0, .inr (0, [.ref z0, .ref jp, .ref jc, .int cn, .int de, .int tr, .int se, .int hu, .int sd])), (jp, .inl (cP, 8, .inr (.inr (.inr (.inr fp))))), (jc, .inl (cI, 3, .inl fjc))]) ⟨hx, hb, hml, hown, hts⟩ (c_F_W_most_4 l D cI cJ cZ cP cS po w0 wk wl wc wp (q_193) (q_194) (q_195) q_199 kf af tf (1) q_196 (de) (se) hbq_193.1 hbq_193.2 hbq_194.1 hbq_194.2 hbq_195.1 hbq_195.2 hjw9 (by first | assumption | omega) (by first | assumption | omega) hy6 hy7 hy18 hy19 H.size) ⟨(va_cnB 3 hts gX7_cases_X5_most_n208 rfl rfl rfl (hN.1 (RX7, 208, yX5_most) (List.mem_of_getElem? (i := 10) rfl)) (hts _ (List.mem_of_getElem? (i := 22) rfl)) dh_X5_most ⟨Nat.le_of_ble_eq_true rfl, Nat.le_of_ble_eq_true rfl⟩), (hts _ (List.mem_of_getElem? (i := 95) rfl)), (hts _ (List.mem_of_getElem? (i := 96) rfl))⟩ hK hN (hZ.kept hS) hP hD hS hA [2, 3, 6] [0, 1, 4, 5, 7, 8, 9] rfl rfl (by decide) (by decide) (by decide) (va_recv (q := (RX5, TX5, 7)) hK hP (ci := 5) (q0 := 2) rfl rfl) rfl hl.1 rfl (Nat.le_of_ble_eq_true rfl) dX7_cases_106 ⟨Nat.le_of_ble_eq_true rfl, Nat.le_of_ble_eq_true rfl⟩ (fun r_201 u_202 H locs hr_201 hP hD hS => ?_)
                obtain ⟨q_203, rfl⟩ : ∃ z, z = u_202 := ⟨_, rfl⟩
                obtain ⟨hsr_201_0, hsr_201_1, hr_201⟩ := hr_201
                have h9R := zRe (ws' := [(x0, .inr (7, [.ref xs, .ref j0, .ref k0, .ref w0, .ref rd, .ref mv, .ref xr, .int im, .int lf])), (xr, .inl (cI, 8, .inl fr)), (wl, .inl (cI, 125, .inl q_197)), (wc, .inl (cI, 3, .inl q_198)), (j0, .inr (0, [.ref z0, .ref jp, .ref jc, .int cn, .int de, .int tr, .int se, .int hu, .int sd])), (jp, .inl (cP, 8, .inr (.inr (.inr (.inr fp))))), (jc, .inl (cI, 3, .inl fjc)), (w0, .inr (5, [.ref wk, .ref wl, .ref wc, .ref wp, .int q_193, .int q_194, .int q_195])), (wk, .inl (cI, 125, .inl q_203)), (wp, .inl (cP, 8, .inr (.inr (.inr (.inr q_199)))))]) hP hD rfl
                clear hP hD
                obtain ⟨hP, hD⟩ := h9R
                obtain ⟨g_204, g_205⟩ := hr_201
                exact W.iret (v := r_201) hx hb hr (fun t ht hW => ⟨⟨r_201, (q_193, q_194, q_195, q_203, q_197, q_198, q_199, fr), rfl, ⟨(show 0 ≤ q_193.toInt ∧ q_193.toInt ≤ 8 from hbq_193), (show 0 ≤ q_194.toInt ∧ q_194.toInt ≤ 9 from hbq_194), (show 0 ≤ q_195.toInt ∧ q_195.toInt ≤ 60 from hbq_195), hpq_198, hwq_199, (show ((w.toInt < 0 ∨ 2 < w.toInt) ∧ (r_201 : Int32).toInt = -15) ∨ ((0 ≤ w.toInt ∧ w.toInt ≤ 2) ∧ ((((4 : Int32).toInt < 0 ∨ 4 < (4 : Int32).toInt) ∧ (r_201 : Int32).toInt = -16) ∨ ((0 ≤ (4 : Int32).toInt ∧ (4 : Int32).toInt ≤ 4) ∧ ((w.toInt = 1 ∧ (r_201 : Int32).toInt = zNq kf af tf cn.toInt.toNat hu.toInt (4 : Int32).toInt de.toInt se.toInt) ∨ (w.toInt ≠ 1 ∧ (r_201 : Int32).toInt = zM kf af tf cn.toInt.toNat hu.toInt (if w.toInt = 2 then 0 else 1) (4 : Int32).toInt.toNat de.toInt se.toInt))))) from by (have k4 : (4 : Int32).toInt = 4 := (by decide); have kte : (1 : Int32).toInt = 1 := (by decide); refine Or.inr ⟨by omega, Or.inr ⟨by omega, Or.inr ⟨by omega, (by have z := hsr_201_1; rw [kte, ewn, ewh] at z; rw [show (4 : Int32).toInt.toNat = 4 from by decide, if_neg (by omega)]; exact z)⟩⟩⟩)), trivial⟩, zRet ht hP hD [0, 1, 4, 7, 8, 2, 3, 9, 5, 6] (by decide) rfl⟩, hS.F ht⟩) hS.2.2 dX7_cases_109
              · have fc_200 : w.toInt = 1 := zf_eq c_200 rfl (by decide)
                refine lv_aload_n hx hb dX7_cases_64 rfl (lv_at hl 0 rfl) ?_
                refine va_get (D := D) (ci := 7) (v := .ref w0) (C := RX7) (T := TX7) (N := 9) hx hb hts hi_X7_cases_7 hown hK hP 0 rfl rfl 3 (by decide) (hts (.fieldLink RX7 28 "TheLiningsInIt" "ways" "LTheLiningsInIt$Ways;") (List.mem_of_getElem? (i := 1) rfl)) (fun _ h9 => h9) rfl dX7_cases_65 ?_
                refine lv_iload_n hx hb dX7_cases_68 rfl (lv_at hl 1 rfl) ?_
                refine lv_aload_n hx hb dX7_cases_69 rfl (lv_at hl 0 rfl) ?_
                refine va_get (D := D) (ci := 7) (v := .ref j0) (C := RX7) (T := TX7) (N := 9) hx hb hts hi_X7_cases_7 hown hK hP 0 rfl rfl 1 (by decide) (hts (.fieldLink RX7 18 "TheLiningsInIt" "now" "LTheLiningsInIt$Jacket;") (List.mem_of_getElem? (i := 2) rfl)) (fun _ h9 => h9) rfl dX7_cases_70 ?_
                refine va_get (D := D) (ci := 0) (v := .int de) (C := RX0) (T := TX0) (N := 9) hx hb hts hi_X7_cases_0 hown hK hP 7 rfl rfl 4 (by decide) (hts (.fieldLink RX7 199 "TheLiningsInIt$Jacket" "depth" "I") (List.mem_of_getElem? (i := 4) rfl)) (fun _ h9 => h9) rfl dX7_cases_73 ?_
                refine lv_aload_n hx hb dX7_cases_76 rfl (lv_at hl 0 rfl) ?_
                refine va_get (D := D) (ci := 7) (v := .ref j0) (C := RX7) (T := TX7) (N := 9) hx hb hts hi_X7_cases_7 hown hK hP 0 rfl rfl 1 (by decide) (hts (.fieldLink RX7 18 "TheLiningsInIt" "now" "LTheLiningsInIt$Jacket;") (List.mem_of_getElem? (i := 2) rfl)) (fun _ h9 => h9) rfl dX7_cases_77 ?_
                refine va_get (D := D) (ci := 0) (v := .int se) (C := RX0) (T := TX0) (N := 9) hx hb hts hi_X7_cases_0 hown hK hP 7 rfl rfl 6 (by decide) (hts (.fieldLink RX7 202 "TheLiningsInIt$Jacket" "seconds" "I") (List.mem_of_getElem? (i := 5) rfl)) (fun _ h9 => h9) rfl dX7_cases_80 ?_
                skip
                refine zw_V (As := [.int 4, .int de, .int se]) (rest := []) (wr := [(x0, .inr (7, [.ref xs, .ref j0, .ref k0, .ref w0, .ref rd, .ref mv, .ref xr, .int im, .int lf])), (xr, .inl (cI, 8, .inl fr)), (wl, .inl (cI, 125, .inl q_197)), (wc, .inl (cI, 3, .inl q_198)), (j0, .inr (0, [.ref z0, .ref jp, .ref jc, .int cn, .int de, .int tr, .int se, .int hu, .int sd])), (jp, .inl (cP, 8, .inr (.inr (.inr (.inr fp))))), (jc, .inl (cI, 3, .inl fjc))]) ⟨hx, hb, hml, hown, hts⟩ (c_F_W_next_4 l D cI cJ cZ cP cS po w0 wk wl wc wp (q_193) (q_194) (q_195) q_199 kf af tf (1) q_196 (de) (se) hbq_193.1 hbq_193.2 hbq_194.1 hbq_194.2 hbq_195.1 hbq_195.2 hjw9 (by first | assumption | omega) (by first | assumption | omega) hy6 hy7 hy18 hy19 H.size) (cwV 3 hts gX7_cases_X5_next rfl rfl rfl ⟨rfl, dh_X5_next⟩ ⟨Nat.le_of_ble_eq_true rfl, Nat.le_of_ble_eq_true rfl⟩) hK hN (hZ.kept hS) hP hD hS hA [2, 3, 6] [0, 1, 4, 5, 7, 8, 9] rfl rfl (by decide) (by decide) (by decide) (va_recv (q := (RX5, TX5, 7)) hK hP (ci := 5) (q0 := 2) rfl rfl) rfl hl.1 rfl (Nat.le_of_ble_eq_true rfl) dX7_cases_83 ⟨Nat.le_of_ble_eq_true rfl, Nat.le_of_ble_eq_true rfl⟩ (fun r_206 u_207 H locs hr_206 hP hD hS => ?_)
                obtain ⟨q_208, rfl⟩ : ∃ z, z = u_207 := ⟨_, rfl⟩
                obtain ⟨hsr_206_0, hsr_206_1, hr_206⟩ := hr_206
                have h9R := zRe (ws' := [(x0, .inr (7, [.ref xs, .ref j0, .ref k0, .ref w0, .ref rd, .ref mv, .ref xr, .int im, .int lf])), (xr, .inl (cI, 8, .inl fr)), (wl, .inl (cI, 125, .inl q_197)), (wc, .inl (cI, 3, .inl q_198)), (j0, .inr (0, [.ref z0, .ref jp, .ref jc, .int cn, .int de, .int tr, .int se, .int hu, .int sd])), (jp, .inl (cP, 8, .inr (.inr (.inr (.inr fp))))), (jc, .inl (cI, 3, .inl fjc)), (w0, .inr (5, [.ref wk, .ref wl, .ref wc, .ref wp, .int q_193, .int q_194, .int q_195])), (wk, .inl (cI, 125, .inl q_208)), (wp, .inl (cP, 8, .inr (.inr (.inr (.inr q_199)))))]) hP hD rfl
                clear hP hD
                obtain ⟨hP, hD⟩ := h9R
                obtain ⟨g_209, g_210⟩ := hr_206
                exact W.iret (v := r_206) hx hb hr (fun t ht hW => ⟨⟨r_206, (q_193, q_194, q_195, q_208, q_197, q_198, q_199, fr), rfl, ⟨(show 0 ≤ q_193.toInt ∧ q_193.toInt ≤ 8 from hbq_193), (show 0 ≤ q_194.toInt ∧ q_194.toInt ≤ 9 from hbq_194), (show 0 ≤ q_195.toInt ∧ q_195.toInt ≤ 60 from hbq_195), hpq_198, hwq_199, (show ((w.toInt < 0 ∨ 2 < w.toInt) ∧ (r_206 : Int32).toInt = -15) ∨ ((0 ≤ w.toInt ∧ w.toInt ≤ 2) ∧ ((((4 : Int32).toInt < 0 ∨ 4 < (4 : Int32).toInt) ∧ (r_206 : Int32).toInt = -16) ∨ ((0 ≤ (4 : Int32).toInt ∧ (4 : Int32).toInt ≤ 4) ∧ ((w.toInt = 1 ∧ (r_206 : Int32).toInt = zNq kf af tf cn.toInt.toNat hu.toInt (4 : Int32).toInt de.toInt se.toInt) ∨ (w.toInt ≠ 1 ∧ (r_206 : Int32).toInt = zM kf af tf cn.toInt.toNat hu.toInt (if w.toInt = 2 then 0 else 1) (4 : Int32).toInt.toNat de.toInt se.toInt))))) from by (have k4 : (4 : Int32).toInt = 4 := (by decide); have kte : (1 : Int32).toInt = 1 := (by decide); refine Or.inr ⟨by omega, Or.inr ⟨by omega, Or.inl ⟨by omega, (by have z := hsr_206_1; rw [kte, ewn, ewh] at z; unfold zNq; rw [show (4 : Int32).toInt = 4 from by decide, if_neg (by decide), show ((4 : Int) - 1).toNat = 3 from by decide]; exact z)⟩⟩⟩)), trivial⟩, zRet ht hP hD [0, 1, 4, 7, 8, 2, 3, 9, 5, 6] (by decide) rfl⟩, hS.F ht⟩) hS.2.2 dX7_cases_86
        · exact absurd c_30 (by decide)
    · exact absurd c_15 (by decide)
set_option maxHeartbeats 4000000 in
set_option maxRecDepth 100000 in
theorem c_F_X_line (l : Launch) (D : va_G) (cI cJ cZ cP cS : ClassId) (po : zPool) (x0 xs j0 k0 w0 rd mv xr : Nat) (im lf : Int32) (fr : Nat → Int32) (j0 jp jc z0 zl zs : Nat) (cn de tr se hu sd : Int32) (wk wl wc wp : Nat) (wn wh wg : Int32) (fq : Nat → Option Nat) (fk fl fc fjc : Nat → Int32) (fp : Nat → Option Nat) (kf af tf : Nat → Int32) (n w : Int32) (hy0 : 0 ≤ im.toInt) (hy1 : im.toInt ≤ 1) (hy2 : (-1) ≤ lf.toInt) (hy3 : lf.toInt ≤ 160) (hy4 : 0 ≤ cn.toInt) (hy5 : cn.toInt ≤ 8) (hy6 : 0 ≤ de.toInt) (hy7 : de.toInt ≤ 24) (hy8 : 0 ≤ hu.toInt) (hy9 : hu.toInt ≤ 9) (hy10 : 0 ≤ wn.toInt) (hy11 : wn.toInt ≤ 8) (hy12 : 0 ≤ wh.toInt) (hy13 : wh.toInt ≤ 9) (hy14 : 0 ≤ wg.toInt) (hy15 : wg.toInt ≤ 60) (hwq : zWP po fq) (hjp : zJP po fp cn kf af tf) (hy18 : 0 ≤ se.toInt) (hy19 : se.toInt ≤ 300) (hp_fc : zRg fc (0) 99) (hp_fjc : zRg fjc (0) 99) (hpz : Nat) : Met l yX7_line wsX7_line ({ frames := 12, cells := 0, slots := 0, locals := 317 }) (va_Pc [.ref x0, .int n, .int w] (zW D (zKT cI cJ cZ cP cS) po [(x0, .inr (7, [.ref xs, .ref j0, .ref k0, .ref w0, .ref rd, .ref mv, .ref xr, .int im, .int lf])), (xr, .inl (cI, 8, .inl fr)), (j0, .inr (0, [.ref z0, .ref jp, .ref jc, .int cn, .int de, .int tr, .int se, .int hu, .int sd])), (w0, .inr (5, [.ref wk, .ref wl, .ref wc, .ref wp, .int wn, .int wh, .int wg])), (wk, .inl (cI, 125, .inl fk)), (wl, .inl (cI, 125, .inl fl)), (wc, .inl (cI, 3, .inl fc)), (wp, .inl (cP, 8, .inr (.inr (.inr (.inr fq))))), (jp, .inl (cP, 8, .inr (.inr (.inr (.inr fp))))), (jc, .inl (cI, 3, .inl fjc))] hpz)) (va_Qi (fun (r : Int32) (u : (Int32) × (Int32) × (Int32) × (Nat → Int32) × (Nat → Int32) × (Nat → Int32) × (Nat → Option Nat) × (Nat → Int32)) => (0 ≤ u.1.toInt ∧ u.1.toInt ≤ 8) ∧ (0 ≤ u.2.1.toInt ∧ u.2.1.toInt ≤ 9) ∧ (0 ≤ u.2.2.1.toInt ∧ u.2.2.1.toInt ≤ 60) ∧ zRg u.2.2.2.2.2.1 (0) 99 ∧ zWP po u.2.2.2.2.2.2.1 ∧ (((w.toInt < 0 ∨ 1 < w.toInt) ∧ r.toInt = -15) ∨ ((0 ≤ w.toInt ∧ w.toInt ≤ 1) ∧ (((n.toInt < 0 ∨ 4 < n.toInt) ∧ r.toInt = -16) ∨ ((0 ≤ n.toInt ∧ n.toInt ≤ 4) ∧ ((w.toInt = 1 ∧ r.toInt = zLr kf af tf cn.toInt.toNat hu.toInt (fjc 0).toInt (fjc 1).toInt (fjc 2).toInt n.toInt.toNat de.toInt se.toInt) ∨ (w.toInt = 0 ∧ r.toInt = zLn kf af tf cn.toInt.toNat hu.toInt (fjc 0).toInt (fjc 1).toInt (fjc 2).toInt n.toInt.toNat de.toInt se.toInt)))))) ∧ (True)) (zB D [(x0, .inr (7, [.ref xs, .ref j0, .ref k0, .ref w0, .ref rd, .ref mv, .ref xr, .int im, .int lf])), (xr, .inl (cI, 8, .inl fr)), (j0, .inr (0, [.ref z0, .ref jp, .ref jc, .int cn, .int de, .int tr, .int se, .int hu, .int sd])), (w0, .inr (5, [.ref wk, .ref wl, .ref wc, .ref wp, .int wn, .int wh, .int wg])), (wk, .inl (cI, 125, .inl fk)), (wl, .inl (cI, 125, .inl fl)), (wc, .inl (cI, 3, .inl fc)), (wp, .inl (cP, 8, .inr (.inr (.inr (.inr fq))))), (jp, .inl (cP, 8, .inr (.inr (.inr (.inr fp))))), (jc, .inl (cI, 3, .inl fjc))] hpz (fun (u : (Int32) × (Int32) × (Int32) × (Nat → Int32) × (Nat → Int32) × (Nat → Int32) × (Nat → Option Nat) × (Nat → Int32)) => [(x0, .inr (7, [.ref xs, .ref j0, .ref k0, .ref w0, .ref rd, .ref mv, .ref xr, .int im, .int lf])), (xr, .inl (cI, 8, .inl u.2.2.2.2.2.2.2)), (j0, .inr (0, [.ref z0, .ref jp, .ref jc, .int cn, .int de, .int tr, .int se, .int hu, .int sd])), (w0, .inr (5, [.ref wk, .ref wl, .ref wc, .ref wp, .int u.1, .int u.2.1, .int u.2.2.1])), (wk, .inl (cI, 125, .inl u.2.2.2.1)), (wl, .inl (cI, 125, .inl u.2.2.2.2.1)), (wc, .inl (cI, 3, .inl u.2.2.2.2.2.1)), (wp, .inl (cP, 8, .inr (.inr (.inr (.inr u.2.2.2.2.2.2.1))))), (jp, .inl (cP, 8, .inr (.inr (.inr (.inr fp))))), (jc, .inl (cI, 3, .inl fjc))])) (va_A [(x0, .inr (7, [.ref xs, .ref j0, .ref k0, .ref w0, .ref rd, .ref mv, .ref xr, .int im, .int lf])), (xr, .inl (cI, 8, .inl fr)), (j0, .inr (0, [.ref z0, .ref jp, .ref jc, .int cn, .int de, .int tr, .int se, .int hu, .int sd])), (w0, .inr (5, [.ref wk, .ref wl, .ref wc, .ref wp, .int wn, .int wh, .int wg])), (wk, .inl (cI, 125, .inl fk)), (wl, .inl (cI, 125, .inl fl)), (wc, .inl (cI, 3, .inl fc)), (wp, .inl (cP, 8, .inr (.inr (.inr (.inr fq))))), (jp, .inl (cP, 8, .inr (.inr (.inr (.inr fp))))), (jc, .inl (cI, 3, .inl fjc))] hpz)) 0 0 (va_A [(x0, .inr (7, [.ref xs, .ref j0, .ref k0, .ref w0, .ref rd, .ref mv, .ref xr, .int im, .int lf])), (xr, .inl (cI, 8, .inl fr)), (j0, .inr (0, [.ref z0, .ref jp, .ref jc, .int cn, .int de, .int tr, .int se, .int hu, .int sd])), (w0, .inr (5, [.ref wk, .ref wl, .ref wc, .ref wp, .int wn, .int wh, .int wg])), (wk, .inl (cI, 125, .inl fk)), (wl, .inl (cI, 125, .inl fl)), (wc, .inl (cI, 3, .inl fc)), (wp, .inl (cP, 8, .inr (.inr (.inr (.inr fq))))), (jp, .inl (cP, 8, .inr (.inr (.inr (.inr fp))))), (jc, .inl (cI, 3, .inl fjc))] hpz) := by
  refine Met.ofW (cc := cX7_line) (maxL := 3) (ret := (some .int)) (by decide) rfl ?_
  intro p e s m args below meth c s₁ B hml hv
  obtain ⟨rfl, hsz, hP, hK, hD0, hN, hZ⟩ := hv
  have hx := B.exec
  have hb := B.bytes
  have hr := B.returns
  have hts := atoms_spec (ws := wsX7_line) B.pre
  have hown : s.vm.findClass RX7 = some m.cls := findClass_of_methodNamed B.named
  have hlocks := B.notSynchronized
  subst hsz
  have hD := hD0.self (sz := s.heap.size)
  have hA := zA_of hD
  have hl := lv_entry ([.ref x0, .int n, .int w]) (n := 3) (Nat.le_of_ble_eq_true rfl)
  rw [lg_entry_eq]
  generalize (lg_sl ([.ref x0, .int n, .int w]) ++ List.replicate (3 - (lg_sl ([.ref x0, .int n, .int w])).length) Slot.unset).toArray = ls at hl ⊢
  replace hl : lv_has ls 3 [(0, .ref x0), (1, .int n), (2, .int w)] := hl
  refine zw_begin hP hD (fun H locs hP1 hS => ?_)
  clear hP
  have hP := hP1
  clear hP1
  refine lv_iload_n hx hb dX7_line_0 rfl (lv_at hl 2 rfl) ?_
  refine lv_iconst (v := 0) hx hb dX7_line_1 (by decide) ?_
  refine lv_iconst (v := 1) hx hb dX7_line_2 (by decide) ?_
  have kc0 : (0 : Int32).toInt = 0 := by decide
  have kc1 : (1 : Int32).toInt = 1 := by decide
  refine zc_S (As := [.int w, .int 0, .int 1]) (rest := []) ⟨hx, hb, hml, hown, hts⟩ (c_within l D cI cJ cZ cP cS po (w) (0) (1) ) (va_cwS 3 hts gX7_line_X7_within rfl rfl rfl dh_X7_within ⟨Nat.le_of_ble_eq_true rfl, Nat.le_of_ble_eq_true rfl⟩) hK hN (hZ.kept hS) rfl hl.1 rfl (Nat.le_of_ble_eq_true rfl) dX7_line_3 ⟨Nat.le_of_ble_eq_true rfl, Nat.le_of_ble_eq_true rfl⟩ (fun r_1 hr_1 => ?_)
  rcases hr_1 with ⟨rfl, g_2⟩ | ⟨rfl, g_3, g_4⟩ | ⟨rfl, g_5, g_6⟩
  · refine lv_if_ne (tgt := 15) hx hb dX7_line_6 (by decide) (fun c_7 => ?_) (fun c_7 => ?_)
    · exact absurd c_7 (by decide)
    · refine lv_aload_n hx hb dX7_line_9 rfl (lv_at hl 0 rfl) ?_
      refine lv_iconst (v := 5) hx hb dX7_line_10 (by decide) ?_
      skip
      refine zw_V (As := [.int 5]) (rest := []) (wr := [(j0, .inr (0, [.ref z0, .ref jp, .ref jc, .int cn, .int de, .int tr, .int se, .int hu, .int sd])), (w0, .inr (5, [.ref wk, .ref wl, .ref wc, .ref wp, .int wn, .int wh, .int wg])), (wk, .inl (cI, 125, .inl fk)), (wl, .inl (cI, 125, .inl fl)), (wc, .inl (cI, 3, .inl fc)), (wp, .inl (cP, 8, .inr (.inr (.inr (.inr fq))))), (jp, .inl (cP, 8, .inr (.inr (.inr (.inr fp))))), (jc, .inl (cI, 3, .inl fjc))]) ⟨hx, hb, hml, hown, hts⟩ (c_X_refuseLower_5 l D cI cJ cZ cP cS po x0 xs j0 k0 w0 rd mv xr (im) (lf) fr hy0 hy1 hy2 hy3 H.size) (cwV 1 hts gX7_line_X7_refuseLower rfl rfl rfl ⟨rfl, dh_X7_refuseLower⟩ ⟨Nat.le_of_ble_eq_true rfl, Nat.le_of_ble_eq_true rfl⟩) hK hN (hZ.kept hS) hP hD hS hA [0, 1] [2, 3, 4, 5, 6, 7, 8, 9] rfl rfl (by decide) (by decide) (by decide) (va_recv (q := (RX7, TX7, 9)) hK hP (ci := 7) (q0 := 0) rfl rfl) rfl hl.1 rfl (Nat.le_of_ble_eq_true rfl) dX7_line_11 ⟨Nat.le_of_ble_eq_true rfl, Nat.le_of_ble_eq_true rfl⟩ (fun r_8 u_9 H locs hr_8 hP hD hS => ?_)
      obtain ⟨q_10, rfl⟩ : ∃ z, z = u_9 := ⟨_, rfl⟩
      have h9R := zRe (ws' := [(j0, .inr (0, [.ref z0, .ref jp, .ref jc, .int cn, .int de, .int tr, .int se, .int hu, .int sd])), (w0, .inr (5, [.ref wk, .ref wl, .ref wc, .ref wp, .int wn, .int wh, .int wg])), (wk, .inl (cI, 125, .inl fk)), (wl, .inl (cI, 125, .inl fl)), (wc, .inl (cI, 3, .inl fc)), (wp, .inl (cP, 8, .inr (.inr (.inr (.inr fq))))), (jp, .inl (cP, 8, .inr (.inr (.inr (.inr fp))))), (jc, .inl (cI, 3, .inl fjc)), (x0, .inr (7, [.ref xs, .ref j0, .ref k0, .ref w0, .ref rd, .ref mv, .ref xr, .int im, .int lf])), (xr, .inl (cI, 8, .inl q_10))]) hP hD rfl
      clear hP hD
      obtain ⟨hP, hD⟩ := h9R
      obtain rfl := hr_8
      exact W.iret (v := (-15)) hx hb hr (fun t ht hW => ⟨⟨(-15), (wn, wh, wg, fk, fl, fc, fq, q_10), rfl, ⟨(show 0 ≤ wn.toInt ∧ wn.toInt ≤ 8 from ⟨hy10, hy11⟩), (show 0 ≤ wh.toInt ∧ wh.toInt ≤ 9 from ⟨hy12, hy13⟩), (show 0 ≤ wg.toInt ∧ wg.toInt ≤ 60 from ⟨hy14, hy15⟩), hp_fc, hwq, (show ((w.toInt < 0 ∨ 1 < w.toInt) ∧ ((-15) : Int32).toInt = -15) ∨ ((0 ≤ w.toInt ∧ w.toInt ≤ 1) ∧ (((n.toInt < 0 ∨ 4 < n.toInt) ∧ ((-15) : Int32).toInt = -16) ∨ ((0 ≤ n.toInt ∧ n.toInt ≤ 4) ∧ ((w.toInt = 1 ∧ ((-15) : Int32).toInt = zLr kf af tf cn.toInt.toNat hu.toInt (fjc 0).toInt (fjc 1).toInt (fjc 2).toInt n.toInt.toNat de.toInt se.toInt) ∨ (w.toInt = 0 ∧ ((-15) : Int32).toInt = zLn kf af tf cn.toInt.toNat hu.toInt (fjc 0).toInt (fjc 1).toInt (fjc 2).toInt n.toInt.toNat de.toInt se.toInt))))) from by (have k15m : ((-15) : Int32).toInt = -15 := (by decide); have k9 : ((-15) : Int32).toInt = -15 := (by decide); omega)), trivial⟩, zRet ht hP hD [8, 9, 0, 1, 2, 3, 4, 5, 6, 7] (by decide) rfl⟩, hS.F ht⟩) hS.2.2 dX7_line_14
  · refine lv_if_ne (tgt := 15) hx hb dX7_line_6 (by decide) (fun c_11 => ?_) (fun c_11 => ?_)
    · exact absurd c_11 (by decide)
    · refine lv_aload_n hx hb dX7_line_9 rfl (lv_at hl 0 rfl) ?_
      refine lv_iconst (v := 5) hx hb dX7_line_10 (by decide) ?_
      skip
      refine zw_V (As := [.int 5]) (rest := []) (wr := [(j0, .inr (0, [.ref z0, .ref jp, .ref jc, .int cn, .int de, .int tr, .int se, .int hu, .int sd])), (w0, .inr (5, [.ref wk, .ref wl, .ref wc, .ref wp, .int wn, .int wh, .int wg])), (wk, .inl (cI, 125, .inl fk)), (wl, .inl (cI, 125, .inl fl)), (wc, .inl (cI, 3, .inl fc)), (wp, .inl (cP, 8, .inr (.inr (.inr (.inr fq))))), (jp, .inl (cP, 8, .inr (.inr (.inr (.inr fp))))), (jc, .inl (cI, 3, .inl fjc))]) ⟨hx, hb, hml, hown, hts⟩ (c_X_refuseLower_5 l D cI cJ cZ cP cS po x0 xs j0 k0 w0 rd mv xr (im) (lf) fr hy0 hy1 hy2 hy3 H.size) (cwV 1 hts gX7_line_X7_refuseLower rfl rfl rfl ⟨rfl, dh_X7_refuseLower⟩ ⟨Nat.le_of_ble_eq_true rfl, Nat.le_of_ble_eq_true rfl⟩) hK hN (hZ.kept hS) hP hD hS hA [0, 1] [2, 3, 4, 5, 6, 7, 8, 9] rfl rfl (by decide) (by decide) (by decide) (va_recv (q := (RX7, TX7, 9)) hK hP (ci := 7) (q0 := 0) rfl rfl) rfl hl.1 rfl (Nat.le_of_ble_eq_true rfl) dX7_line_11 ⟨Nat.le_of_ble_eq_true rfl, Nat.le_of_ble_eq_true rfl⟩ (fun r_12 u_13 H locs hr_12 hP hD hS => ?_)
      obtain ⟨q_14, rfl⟩ : ∃ z, z = u_13 := ⟨_, rfl⟩
      have h9R := zRe (ws' := [(j0, .inr (0, [.ref z0, .ref jp, .ref jc, .int cn, .int de, .int tr, .int se, .int hu, .int sd])), (w0, .inr (5, [.ref wk, .ref wl, .ref wc, .ref wp, .int wn, .int wh, .int wg])), (wk, .inl (cI, 125, .inl fk)), (wl, .inl (cI, 125, .inl fl)), (wc, .inl (cI, 3, .inl fc)), (wp, .inl (cP, 8, .inr (.inr (.inr (.inr fq))))), (jp, .inl (cP, 8, .inr (.inr (.inr (.inr fp))))), (jc, .inl (cI, 3, .inl fjc)), (x0, .inr (7, [.ref xs, .ref j0, .ref k0, .ref w0, .ref rd, .ref mv, .ref xr, .int im, .int lf])), (xr, .inl (cI, 8, .inl q_14))]) hP hD rfl
      clear hP hD
      obtain ⟨hP, hD⟩ := h9R
      obtain rfl := hr_12
      exact W.iret (v := (-15)) hx hb hr (fun t ht hW => ⟨⟨(-15), (wn, wh, wg, fk, fl, fc, fq, q_14), rfl, ⟨(show 0 ≤ wn.toInt ∧ wn.toInt ≤ 8 from ⟨hy10, hy11⟩), (show 0 ≤ wh.toInt ∧ wh.toInt ≤ 9 from ⟨hy12, hy13⟩), (show 0 ≤ wg.toInt ∧ wg.toInt ≤ 60 from ⟨hy14, hy15⟩), hp_fc, hwq, (show ((w.toInt < 0 ∨ 1 < w.toInt) ∧ ((-15) : Int32).toInt = -15) ∨ ((0 ≤ w.toInt ∧ w.toInt ≤ 1) ∧ (((n.toInt < 0 ∨ 4 < n.toInt) ∧ ((-15) : Int32).toInt = -16) ∨ ((0 ≤ n.toInt ∧ n.toInt ≤ 4) ∧ ((w.toInt = 1 ∧ ((-15) : Int32).toInt = zLr kf af tf cn.toInt.toNat hu.toInt (fjc 0).toInt (fjc 1).toInt (fjc 2).toInt n.toInt.toNat de.toInt se.toInt) ∨ (w.toInt = 0 ∧ ((-15) : Int32).toInt = zLn kf af tf cn.toInt.toNat hu.toInt (fjc 0).toInt (fjc 1).toInt (fjc 2).toInt n.toInt.toNat de.toInt se.toInt))))) from by (have k15m : ((-15) : Int32).toInt = -15 := (by decide); have k9 : ((-15) : Int32).toInt = -15 := (by decide); omega)), trivial⟩, zRet ht hP hD [8, 9, 0, 1, 2, 3, 4, 5, 6, 7] (by decide) rfl⟩, hS.F ht⟩) hS.2.2 dX7_line_14
  · refine lv_if_ne (tgt := 15) hx hb dX7_line_6 (by decide) (fun c_15 => ?_) (fun c_15 => ?_)
    · refine lv_iload_n hx hb dX7_line_15 rfl (lv_at hl 1 rfl) ?_
      refine lv_iconst (v := 0) hx hb dX7_line_16 (by decide) ?_
      refine lv_iconst (v := 4) hx hb dX7_line_17 (by decide) ?_
      have kc4 : (4 : Int32).toInt = 4 := by decide
      refine zc_S (As := [.int n, .int 0, .int 4]) (rest := []) ⟨hx, hb, hml, hown, hts⟩ (c_within l D cI cJ cZ cP cS po (n) (0) (4) ) (va_cwS 3 hts gX7_line_X7_within rfl rfl rfl dh_X7_within ⟨Nat.le_of_ble_eq_true rfl, Nat.le_of_ble_eq_true rfl⟩) hK hN (hZ.kept hS) rfl hl.1 rfl (Nat.le_of_ble_eq_true rfl) dX7_line_18 ⟨Nat.le_of_ble_eq_true rfl, Nat.le_of_ble_eq_true rfl⟩ (fun r_16 hr_16 => ?_)
      rcases hr_16 with ⟨rfl, g_17⟩ | ⟨rfl, g_18, g_19⟩ | ⟨rfl, g_20, g_21⟩
      · refine lv_if_ne (tgt := 31) hx hb dX7_line_21 (by decide) (fun c_22 => ?_) (fun c_22 => ?_)
        · exact absurd c_22 (by decide)
        · refine lv_aload_n hx hb dX7_line_24 rfl (lv_at hl 0 rfl) ?_
          refine lv_bipush (v := 6) hx hb dX7_line_25 (by decide) ?_
          skip
          refine zw_V (As := [.int 6]) (rest := []) (wr := [(j0, .inr (0, [.ref z0, .ref jp, .ref jc, .int cn, .int de, .int tr, .int se, .int hu, .int sd])), (w0, .inr (5, [.ref wk, .ref wl, .ref wc, .ref wp, .int wn, .int wh, .int wg])), (wk, .inl (cI, 125, .inl fk)), (wl, .inl (cI, 125, .inl fl)), (wc, .inl (cI, 3, .inl fc)), (wp, .inl (cP, 8, .inr (.inr (.inr (.inr fq))))), (jp, .inl (cP, 8, .inr (.inr (.inr (.inr fp))))), (jc, .inl (cI, 3, .inl fjc))]) ⟨hx, hb, hml, hown, hts⟩ (c_X_refuseLower_6 l D cI cJ cZ cP cS po x0 xs j0 k0 w0 rd mv xr (im) (lf) fr hy0 hy1 hy2 hy3 H.size) (cwV 1 hts gX7_line_X7_refuseLower rfl rfl rfl ⟨rfl, dh_X7_refuseLower⟩ ⟨Nat.le_of_ble_eq_true rfl, Nat.le_of_ble_eq_true rfl⟩) hK hN (hZ.kept hS) hP hD hS hA [0, 1] [2, 3, 4, 5, 6, 7, 8, 9] rfl rfl (by decide) (by decide) (by decide) (va_recv (q := (RX7, TX7, 9)) hK hP (ci := 7) (q0 := 0) rfl rfl) rfl hl.1 rfl (Nat.le_of_ble_eq_true rfl) dX7_line_27 ⟨Nat.le_of_ble_eq_true rfl, Nat.le_of_ble_eq_true rfl⟩ (fun r_23 u_24 H locs hr_23 hP hD hS => ?_)
          obtain ⟨q_25, rfl⟩ : ∃ z, z = u_24 := ⟨_, rfl⟩
          have h9R := zRe (ws' := [(j0, .inr (0, [.ref z0, .ref jp, .ref jc, .int cn, .int de, .int tr, .int se, .int hu, .int sd])), (w0, .inr (5, [.ref wk, .ref wl, .ref wc, .ref wp, .int wn, .int wh, .int wg])), (wk, .inl (cI, 125, .inl fk)), (wl, .inl (cI, 125, .inl fl)), (wc, .inl (cI, 3, .inl fc)), (wp, .inl (cP, 8, .inr (.inr (.inr (.inr fq))))), (jp, .inl (cP, 8, .inr (.inr (.inr (.inr fp))))), (jc, .inl (cI, 3, .inl fjc)), (x0, .inr (7, [.ref xs, .ref j0, .ref k0, .ref w0, .ref rd, .ref mv, .ref xr, .int im, .int lf])), (xr, .inl (cI, 8, .inl q_25))]) hP hD rfl
          clear hP hD
          obtain ⟨hP, hD⟩ := h9R
          obtain rfl := hr_23
          exact W.iret (v := (-16)) hx hb hr (fun t ht hW => ⟨⟨(-16), (wn, wh, wg, fk, fl, fc, fq, q_25), rfl, ⟨(show 0 ≤ wn.toInt ∧ wn.toInt ≤ 8 from ⟨hy10, hy11⟩), (show 0 ≤ wh.toInt ∧ wh.toInt ≤ 9 from ⟨hy12, hy13⟩), (show 0 ≤ wg.toInt ∧ wg.toInt ≤ 60 from ⟨hy14, hy15⟩), hp_fc, hwq, (show ((w.toInt < 0 ∨ 1 < w.toInt) ∧ ((-16) : Int32).toInt = -15) ∨ ((0 ≤ w.toInt ∧ w.toInt ≤ 1) ∧ (((n.toInt < 0 ∨ 4 < n.toInt) ∧ ((-16) : Int32).toInt = -16) ∨ ((0 ≤ n.toInt ∧ n.toInt ≤ 4) ∧ ((w.toInt = 1 ∧ ((-16) : Int32).toInt = zLr kf af tf cn.toInt.toNat hu.toInt (fjc 0).toInt (fjc 1).toInt (fjc 2).toInt n.toInt.toNat de.toInt se.toInt) ∨ (w.toInt = 0 ∧ ((-16) : Int32).toInt = zLn kf af tf cn.toInt.toNat hu.toInt (fjc 0).toInt (fjc 1).toInt (fjc 2).toInt n.toInt.toNat de.toInt se.toInt))))) from by (have k16m : ((-16) : Int32).toInt = -16 := (by decide); have k9 : ((-16) : Int32).toInt = -16 := (by decide); omega)), trivial⟩, zRet ht hP hD [8, 9, 0, 1, 2, 3, 4, 5, 6, 7] (by decide) rfl⟩, hS.F ht⟩) hS.2.2 dX7_line_30
      · refine lv_if_ne (tgt := 31) hx hb dX7_line_21 (by decide) (fun c_26 => ?_) (fun c_26 => ?_)
        · exact absurd c_26 (by decide)
        · refine lv_aload_n hx hb dX7_line_24 rfl (lv_at hl 0 rfl) ?_
          refine lv_bipush (v := 6) hx hb dX7_line_25 (by decide) ?_
          skip
          refine zw_V (As := [.int 6]) (rest := []) (wr := [(j0, .inr (0, [.ref z0, .ref jp, .ref jc, .int cn, .int de, .int tr, .int se, .int hu, .int sd])), (w0, .inr (5, [.ref wk, .ref wl, .ref wc, .ref wp, .int wn, .int wh, .int wg])), (wk, .inl (cI, 125, .inl fk)), (wl, .inl (cI, 125, .inl fl)), (wc, .inl (cI, 3, .inl fc)), (wp, .inl (cP, 8, .inr (.inr (.inr (.inr fq))))), (jp, .inl (cP, 8, .inr (.inr (.inr (.inr fp))))), (jc, .inl (cI, 3, .inl fjc))]) ⟨hx, hb, hml, hown, hts⟩ (c_X_refuseLower_6 l D cI cJ cZ cP cS po x0 xs j0 k0 w0 rd mv xr (im) (lf) fr hy0 hy1 hy2 hy3 H.size) (cwV 1 hts gX7_line_X7_refuseLower rfl rfl rfl ⟨rfl, dh_X7_refuseLower⟩ ⟨Nat.le_of_ble_eq_true rfl, Nat.le_of_ble_eq_true rfl⟩) hK hN (hZ.kept hS) hP hD hS hA [0, 1] [2, 3, 4, 5, 6, 7, 8, 9] rfl rfl (by decide) (by decide) (by decide) (va_recv (q := (RX7, TX7, 9)) hK hP (ci := 7) (q0 := 0) rfl rfl) rfl hl.1 rfl (Nat.le_of_ble_eq_true rfl) dX7_line_27 ⟨Nat.le_of_ble_eq_true rfl, Nat.le_of_ble_eq_true rfl⟩ (fun r_27 u_28 H locs hr_27 hP hD hS => ?_)
          obtain ⟨q_29, rfl⟩ : ∃ z, z = u_28 := ⟨_, rfl⟩
          have h9R := zRe (ws' := [(j0, .inr (0, [.ref z0, .ref jp, .ref jc, .int cn, .int de, .int tr, .int se, .int hu, .int sd])), (w0, .inr (5, [.ref wk, .ref wl, .ref wc, .ref wp, .int wn, .int wh, .int wg])), (wk, .inl (cI, 125, .inl fk)), (wl, .inl (cI, 125, .inl fl)), (wc, .inl (cI, 3, .inl fc)), (wp, .inl (cP, 8, .inr (.inr (.inr (.inr fq))))), (jp, .inl (cP, 8, .inr (.inr (.inr (.inr fp))))), (jc, .inl (cI, 3, .inl fjc)), (x0, .inr (7, [.ref xs, .ref j0, .ref k0, .ref w0, .ref rd, .ref mv, .ref xr, .int im, .int lf])), (xr, .inl (cI, 8, .inl q_29))]) hP hD rfl
          clear hP hD
          obtain ⟨hP, hD⟩ := h9R
          obtain rfl := hr_27
          exact W.iret (v := (-16)) hx hb hr (fun t ht hW => ⟨⟨(-16), (wn, wh, wg, fk, fl, fc, fq, q_29), rfl, ⟨(show 0 ≤ wn.toInt ∧ wn.toInt ≤ 8 from ⟨hy10, hy11⟩), (show 0 ≤ wh.toInt ∧ wh.toInt ≤ 9 from ⟨hy12, hy13⟩), (show 0 ≤ wg.toInt ∧ wg.toInt ≤ 60 from ⟨hy14, hy15⟩), hp_fc, hwq, (show ((w.toInt < 0 ∨ 1 < w.toInt) ∧ ((-16) : Int32).toInt = -15) ∨ ((0 ≤ w.toInt ∧ w.toInt ≤ 1) ∧ (((n.toInt < 0 ∨ 4 < n.toInt) ∧ ((-16) : Int32).toInt = -16) ∨ ((0 ≤ n.toInt ∧ n.toInt ≤ 4) ∧ ((w.toInt = 1 ∧ ((-16) : Int32).toInt = zLr kf af tf cn.toInt.toNat hu.toInt (fjc 0).toInt (fjc 1).toInt (fjc 2).toInt n.toInt.toNat de.toInt se.toInt) ∨ (w.toInt = 0 ∧ ((-16) : Int32).toInt = zLn kf af tf cn.toInt.toNat hu.toInt (fjc 0).toInt (fjc 1).toInt (fjc 2).toInt n.toInt.toNat de.toInt se.toInt))))) from by (have k16m : ((-16) : Int32).toInt = -16 := (by decide); have k9 : ((-16) : Int32).toInt = -16 := (by decide); omega)), trivial⟩, zRet ht hP hD [8, 9, 0, 1, 2, 3, 4, 5, 6, 7] (by decide) rfl⟩, hS.F ht⟩) hS.2.2 dX7_line_30
      · refine lv_if_ne (tgt := 31) hx hb dX7_line_21 (by decide) (fun c_30 => ?_) (fun c_30 => ?_)
        · have hsp : n = 0 ∨ n = 1 ∨ n = 2 ∨ n = 3 ∨ n = 4 := by
            rcases (show n.toInt = 0 ∨ n.toInt = 1 ∨ n.toInt = 2 ∨ n.toInt = 3 ∨ n.toInt = 4 by omega) with h9 | h9 | h9 | h9 | h9
            · refine Or.inl ?_; exact zf_val h9 (by decide)
            · refine Or.inr (Or.inl ?_); exact zf_val h9 (by decide)
            · refine Or.inr (Or.inr (Or.inl ?_)); exact zf_val h9 (by decide)
            · refine Or.inr (Or.inr (Or.inr (Or.inl ?_))); exact zf_val h9 (by decide)
            · refine Or.inr (Or.inr (Or.inr (Or.inr (?_)))); exact zf_val h9 (by decide)
          rcases hsp with rfl | rfl | rfl | rfl | rfl
          · refine lv_aload_n hx hb dX7_line_31 rfl (lv_at hl 0 rfl) ?_
            refine va_get (D := D) (ci := 7) (v := .ref w0) (C := RX7) (T := TX7) (N := 9) hx hb hts hi_X7_line_7 hown hK hP 0 rfl rfl 3 (by decide) (hts (.fieldLink RX7 28 "TheLiningsInIt" "ways" "LTheLiningsInIt$Ways;") (List.mem_of_getElem? (i := 1) rfl)) (fun _ h9 => h9) rfl dX7_line_32 ?_
            refine lv_aload_n hx hb dX7_line_35 rfl (lv_at hl 0 rfl) ?_
            refine va_get (D := D) (ci := 7) (v := .ref j0) (C := RX7) (T := TX7) (N := 9) hx hb hts hi_X7_line_7 hown hK hP 0 rfl rfl 1 (by decide) (hts (.fieldLink RX7 18 "TheLiningsInIt" "now" "LTheLiningsInIt$Jacket;") (List.mem_of_getElem? (i := 2) rfl)) (fun _ h9 => h9) rfl dX7_line_36 ?_
            refine lv_aload_n hx hb dX7_line_39 rfl (lv_at hl 0 rfl) ?_
            refine va_get (D := D) (ci := 7) (v := .ref j0) (C := RX7) (T := TX7) (N := 9) hx hb hts hi_X7_line_7 hown hK hP 0 rfl rfl 1 (by decide) (hts (.fieldLink RX7 18 "TheLiningsInIt" "now" "LTheLiningsInIt$Jacket;") (List.mem_of_getElem? (i := 2) rfl)) (fun _ h9 => h9) rfl dX7_line_40 ?_
            refine va_get (D := D) (ci := 0) (v := .int hu) (C := RX0) (T := TX0) (N := 9) hx hb hts hi_X7_line_0 hown hK hP 2 rfl rfl 7 (by decide) (hts (.fieldLink RX7 116 "TheLiningsInIt$Jacket" "hurry" "I") (List.mem_of_getElem? (i := 3) rfl)) (fun _ h9 => h9) rfl dX7_line_43 ?_
            refine lv_iconst (v := 1) hx hb dX7_line_46 (by decide) ?_
            skip
            refine zw_Vv (As := [.ref j0, .int hu, .int 1]) (rest := []) (wr := [(x0, .inr (7, [.ref xs, .ref j0, .ref k0, .ref w0, .ref rd, .ref mv, .ref xr, .int im, .int lf])), (xr, .inl (cI, 8, .inl fr))]) ⟨hx, hb, hml, hown, hts⟩ (c_F_W_look l D cI cJ cZ cP cS po w0 wk wl wc wp (wn) (wh) (wg) j0 jp jc z0 0 0 (cn) (de) (tr) (se) (hu) (sd) fp fq kf af tf fk fl fc fjc (hu) (1) hy10 hy11 hy12 hy13 hy14 hy15 hy4 hy5 hy6 hy7 hy8 hy9 hy8 hy9 hwq hjp hp_fc hp_fjc H.size) (cwV 3 hts gX7_line_X5_look rfl rfl rfl ⟨rfl, dh_X5_look⟩ ⟨Nat.le_of_ble_eq_true rfl, Nat.le_of_ble_eq_true rfl⟩) hK hN (hZ.kept hS) hP hD hS hA [3, 4, 5, 6, 7, 2, 8, 9] [0, 1] rfl rfl (by decide) (by decide) (by decide) (va_recv (q := (RX5, TX5, 7)) hK hP (ci := 5) (q0 := 3) rfl rfl) rfl hl.1 rfl (Nat.le_of_ble_eq_true rfl) dX7_line_47 ⟨Nat.le_of_ble_eq_true rfl, Nat.le_of_ble_eq_true rfl⟩ (fun u_32 H locs hr_31 hP hD hS => ?_)
            obtain ⟨q_33, q_34, q_35, q_36, q_37, q_38, q_39⟩ := u_32
            try dsimp only at hr_31
            obtain ⟨hbq_33, hbq_34, hbq_35, hpq_38, hwq_39, hsr_31_0, hsr_31_1, hsr_31_2, hsr_31_3, hsr_31_4, hsr_31_5, hr_31⟩ := hr_31
            have h9R := zRe (ws' := [(x0, .inr (7, [.ref xs, .ref j0, .ref k0, .ref w0, .ref rd, .ref mv, .ref xr, .int im, .int lf])), (xr, .inl (cI, 8, .inl fr)), (w0, .inr (5, [.ref wk, .ref wl, .ref wc, .ref wp, .int q_33, .int q_34, .int q_35])), (wk, .inl (cI, 125, .inl q_36)), (wl, .inl (cI, 125, .inl q_37)), (wc, .inl (cI, 3, .inl q_38)), (wp, .inl (cP, 8, .inr (.inr (.inr (.inr q_39))))), (j0, .inr (0, [.ref z0, .ref jp, .ref jc, .int cn, .int de, .int tr, .int se, .int hu, .int sd])), (jp, .inl (cP, 8, .inr (.inr (.inr (.inr fp))))), (jc, .inl (cI, 3, .inl fjc))]) hP hD rfl
            clear hP hD
            obtain ⟨hP, hD⟩ := h9R
            obtain ⟨ewn, ewh⟩ := hsr_31_2
            have ewn9 := congrArg Int32.toInt ewn
            have ewh9 := congrArg Int32.toInt ewh
            have hjw9 : zJW po q_39 q_33 kf af tf (1 : Int32) := by (intro j hj; exact hsr_31_0 j (by rw [← ewn]; exact hj))
            have hkm9 : zKm kf af tf q_33.toInt.toNat q_34.toInt (1 : Int32).toInt q_35.toInt q_36 := zKm_0 hsr_31_4
            have hgl9 : ∀ p : Nat, p < q_33.toInt.toNat → ((1 : Int32).toInt ≠ 0 ∨ (kf p).toInt ≠ 5) → (tf p).toInt ≤ q_35.toInt := fun p hp hl => hsr_31_1 p (by rw [ewn] at hp; omega) hl
            have hkn9 : zKn kf af tf q_33.toInt.toNat q_34.toInt (q_38 0).toInt (q_38 1).toInt (q_38 2).toInt q_35.toInt q_37 := zKn_0 hsr_31_5
            have hgk9 : ∀ p : Nat, p < q_33.toInt.toNat → (tf p).toInt ≤ q_35.toInt := fun p hp => hgl9 p hp (Or.inl (by decide))
            refine lv_iload_n hx hb dX7_line_50 rfl (lv_at hl 2 rfl) ?_
            refine lv_iconst (v := 1) hx hb dX7_line_51 (by decide) ?_
            refine lv_icmp_ne (tgt := 78) hx hb dX7_line_52 (by decide) (fun c_40 => ?_) (fun c_40 => ?_)
            · have fc_40 : w.toInt ≠ 1 := zf_ne c_40 rfl (by decide)
              refine lv_aload_n hx hb dX7_line_78 rfl (lv_at hl 0 rfl) ?_
              refine va_get (D := D) (ci := 7) (v := .ref w0) (C := RX7) (T := TX7) (N := 9) hx hb hts hi_X7_line_7 hown hK hP 0 rfl rfl 3 (by decide) (hts (.fieldLink RX7 28 "TheLiningsInIt" "ways" "LTheLiningsInIt$Ways;") (List.mem_of_getElem? (i := 1) rfl)) (fun _ h9 => h9) rfl dX7_line_79 ?_
              refine lv_iload_n hx hb dX7_line_82 rfl (lv_at hl 1 rfl) ?_
              refine lv_aload_n hx hb dX7_line_83 rfl (lv_at hl 0 rfl) ?_
              refine va_get (D := D) (ci := 7) (v := .ref j0) (C := RX7) (T := TX7) (N := 9) hx hb hts hi_X7_line_7 hown hK hP 0 rfl rfl 1 (by decide) (hts (.fieldLink RX7 18 "TheLiningsInIt" "now" "LTheLiningsInIt$Jacket;") (List.mem_of_getElem? (i := 2) rfl)) (fun _ h9 => h9) rfl dX7_line_84 ?_
              refine va_get (D := D) (ci := 0) (v := .int de) (C := RX0) (T := TX0) (N := 9) hx hb hts hi_X7_line_0 hown hK hP 7 rfl rfl 4 (by decide) (hts (.fieldLink RX7 199 "TheLiningsInIt$Jacket" "depth" "I") (List.mem_of_getElem? (i := 4) rfl)) (fun _ h9 => h9) rfl dX7_line_87 ?_
              refine lv_aload_n hx hb dX7_line_90 rfl (lv_at hl 0 rfl) ?_
              refine va_get (D := D) (ci := 7) (v := .ref j0) (C := RX7) (T := TX7) (N := 9) hx hb hts hi_X7_line_7 hown hK hP 0 rfl rfl 1 (by decide) (hts (.fieldLink RX7 18 "TheLiningsInIt" "now" "LTheLiningsInIt$Jacket;") (List.mem_of_getElem? (i := 2) rfl)) (fun _ h9 => h9) rfl dX7_line_91 ?_
              refine va_get (D := D) (ci := 0) (v := .int se) (C := RX0) (T := TX0) (N := 9) hx hb hts hi_X7_line_0 hown hK hP 7 rfl rfl 6 (by decide) (hts (.fieldLink RX7 202 "TheLiningsInIt$Jacket" "seconds" "I") (List.mem_of_getElem? (i := 5) rfl)) (fun _ h9 => h9) rfl dX7_line_94 ?_
              skip
              refine zw_VN (As := [.int 0, .int de, .int se]) (rest := []) (wr := [(x0, .inr (7, [.ref xs, .ref j0, .ref k0, .ref w0, .ref rd, .ref mv, .ref xr, .int im, .int lf])), (xr, .inl (cI, 8, .inl fr)), (wk, .inl (cI, 125, .inl q_36)), (j0, .inr (0, [.ref z0, .ref jp, .ref jc, .int cn, .int de, .int tr, .int se, .int hu, .int sd])), (jp, .inl (cP, 8, .inr (.inr (.inr (.inr fp))))), (jc, .inl (cI, 3, .inl fjc))]) ⟨hx, hb, hml, hown, hts⟩ (c_F_W_least_0 l D cI cJ cZ cP cS po w0 wk wl wc wp (q_33) (q_34) (q_35) q_39 kf af tf (1) q_37 q_38 (de) (se) hbq_33.1 hbq_33.2 hbq_34.1 hbq_34.2 hbq_35.1 hbq_35.2 hjw9 (by first | assumption | omega) (by first | assumption | omega) (by first | assumption | omega | decide) hy6 hy7 hy18 hy19 hpq_38 H.size) ⟨(va_cnB 3 hts gX7_line_X5_least_n214 rfl rfl rfl (hN.1 (RX7, 214, yX5_least) (List.mem_of_getElem? (i := 11) rfl)) (hts _ (List.mem_of_getElem? (i := 22) rfl)) dh_X5_least ⟨Nat.le_of_ble_eq_true rfl, Nat.le_of_ble_eq_true rfl⟩), (hts _ (List.mem_of_getElem? (i := 59) rfl)), (hts _ (List.mem_of_getElem? (i := 60) rfl))⟩ hK hN (hZ.kept hS) hP hD hS hA [2, 4, 5, 6] [0, 1, 3, 7, 8, 9] rfl rfl (by decide) (by decide) (by decide) (va_recv (q := (RX5, TX5, 7)) hK hP (ci := 5) (q0 := 2) rfl rfl) rfl hl.1 rfl (Nat.le_of_ble_eq_true rfl) dX7_line_97 ⟨Nat.le_of_ble_eq_true rfl, Nat.le_of_ble_eq_true rfl⟩ (fun r_41 u_42 H locs hr_41 hP hD hS => ?_)
              obtain ⟨q_43, rfl⟩ : ∃ z, z = u_42 := ⟨_, rfl⟩
              obtain ⟨hsr_41_0, hsr_41_1, hr_41⟩ := hr_41
              have h9R := zRe (ws' := [(x0, .inr (7, [.ref xs, .ref j0, .ref k0, .ref w0, .ref rd, .ref mv, .ref xr, .int im, .int lf])), (xr, .inl (cI, 8, .inl fr)), (wk, .inl (cI, 125, .inl q_36)), (j0, .inr (0, [.ref z0, .ref jp, .ref jc, .int cn, .int de, .int tr, .int se, .int hu, .int sd])), (jp, .inl (cP, 8, .inr (.inr (.inr (.inr fp))))), (jc, .inl (cI, 3, .inl fjc)), (w0, .inr (5, [.ref wk, .ref wl, .ref wc, .ref wp, .int q_33, .int q_34, .int q_35])), (wl, .inl (cI, 125, .inl q_43)), (wc, .inl (cI, 3, .inl q_38)), (wp, .inl (cP, 8, .inr (.inr (.inr (.inr q_39)))))]) hP hD rfl
              clear hP hD
              obtain ⟨hP, hD⟩ := h9R
              obtain ⟨g_44, g_45⟩ := hr_41
              exact W.iret (v := r_41) hx hb hr (fun t ht hW => ⟨⟨r_41, (q_33, q_34, q_35, q_36, q_43, q_38, q_39, fr), rfl, ⟨(show 0 ≤ q_33.toInt ∧ q_33.toInt ≤ 8 from hbq_33), (show 0 ≤ q_34.toInt ∧ q_34.toInt ≤ 9 from hbq_34), (show 0 ≤ q_35.toInt ∧ q_35.toInt ≤ 60 from hbq_35), hpq_38, hwq_39, (show ((w.toInt < 0 ∨ 1 < w.toInt) ∧ (r_41 : Int32).toInt = -15) ∨ ((0 ≤ w.toInt ∧ w.toInt ≤ 1) ∧ ((((0 : Int32).toInt < 0 ∨ 4 < (0 : Int32).toInt) ∧ (r_41 : Int32).toInt = -16) ∨ ((0 ≤ (0 : Int32).toInt ∧ (0 : Int32).toInt ≤ 4) ∧ ((w.toInt = 1 ∧ (r_41 : Int32).toInt = zLr kf af tf cn.toInt.toNat hu.toInt (fjc 0).toInt (fjc 1).toInt (fjc 2).toInt (0 : Int32).toInt.toNat de.toInt se.toInt) ∨ (w.toInt = 0 ∧ (r_41 : Int32).toInt = zLn kf af tf cn.toInt.toNat hu.toInt (fjc 0).toInt (fjc 1).toInt (fjc 2).toInt (0 : Int32).toInt.toNat de.toInt se.toInt))))) from by (have k0 : (0 : Int32).toInt = 0 := (by decide); refine Or.inr ⟨by omega, Or.inr ⟨by omega, Or.inr ⟨by omega, (by have z := hsr_41_1; rw [ewn, ewh, hsr_31_3 0 (by decide), hsr_31_3 1 (by decide), hsr_31_3 2 (by decide)] at z; rw [show (0 : Int32).toInt.toNat = 0 from by decide]; exact z)⟩⟩⟩)), trivial⟩, zRet ht hP hD [0, 1, 3, 6, 2, 7, 8, 9, 4, 5] (by decide) rfl⟩, hS.F ht⟩) hS.2.2 dX7_line_100
            · have fc_40 : w.toInt = 1 := zf_eq c_40 rfl (by decide)
              refine lv_aload_n hx hb dX7_line_55 rfl (lv_at hl 0 rfl) ?_
              refine va_get (D := D) (ci := 7) (v := .ref w0) (C := RX7) (T := TX7) (N := 9) hx hb hts hi_X7_line_7 hown hK hP 0 rfl rfl 3 (by decide) (hts (.fieldLink RX7 28 "TheLiningsInIt" "ways" "LTheLiningsInIt$Ways;") (List.mem_of_getElem? (i := 1) rfl)) (fun _ h9 => h9) rfl dX7_line_56 ?_
              refine lv_iload_n hx hb dX7_line_59 rfl (lv_at hl 1 rfl) ?_
              refine lv_aload_n hx hb dX7_line_60 rfl (lv_at hl 0 rfl) ?_
              refine va_get (D := D) (ci := 7) (v := .ref j0) (C := RX7) (T := TX7) (N := 9) hx hb hts hi_X7_line_7 hown hK hP 0 rfl rfl 1 (by decide) (hts (.fieldLink RX7 18 "TheLiningsInIt" "now" "LTheLiningsInIt$Jacket;") (List.mem_of_getElem? (i := 2) rfl)) (fun _ h9 => h9) rfl dX7_line_61 ?_
              refine va_get (D := D) (ci := 0) (v := .int de) (C := RX0) (T := TX0) (N := 9) hx hb hts hi_X7_line_0 hown hK hP 7 rfl rfl 4 (by decide) (hts (.fieldLink RX7 199 "TheLiningsInIt$Jacket" "depth" "I") (List.mem_of_getElem? (i := 4) rfl)) (fun _ h9 => h9) rfl dX7_line_64 ?_
              refine lv_aload_n hx hb dX7_line_67 rfl (lv_at hl 0 rfl) ?_
              refine va_get (D := D) (ci := 7) (v := .ref j0) (C := RX7) (T := TX7) (N := 9) hx hb hts hi_X7_line_7 hown hK hP 0 rfl rfl 1 (by decide) (hts (.fieldLink RX7 18 "TheLiningsInIt" "now" "LTheLiningsInIt$Jacket;") (List.mem_of_getElem? (i := 2) rfl)) (fun _ h9 => h9) rfl dX7_line_68 ?_
              refine va_get (D := D) (ci := 0) (v := .int se) (C := RX0) (T := TX0) (N := 9) hx hb hts hi_X7_line_0 hown hK hP 7 rfl rfl 6 (by decide) (hts (.fieldLink RX7 202 "TheLiningsInIt$Jacket" "seconds" "I") (List.mem_of_getElem? (i := 5) rfl)) (fun _ h9 => h9) rfl dX7_line_71 ?_
              skip
              refine zw_V (As := [.int 0, .int de, .int se]) (rest := []) (wr := [(x0, .inr (7, [.ref xs, .ref j0, .ref k0, .ref w0, .ref rd, .ref mv, .ref xr, .int im, .int lf])), (xr, .inl (cI, 8, .inl fr)), (wk, .inl (cI, 125, .inl q_36)), (j0, .inr (0, [.ref z0, .ref jp, .ref jc, .int cn, .int de, .int tr, .int se, .int hu, .int sd])), (jp, .inl (cP, 8, .inr (.inr (.inr (.inr fp))))), (jc, .inl (cI, 3, .inl fjc))]) ⟨hx, hb, hml, hown, hts⟩ (c_F_W_first_0 l D cI cJ cZ cP cS po w0 wk wl wc wp (q_33) (q_34) (q_35) q_39 kf af tf (1) q_37 q_38 (de) (se) hbq_33.1 hbq_33.2 hbq_34.1 hbq_34.2 hbq_35.1 hbq_35.2 hjw9 (by first | assumption | omega) (by first | assumption | omega) (by first | assumption | omega | decide) hy6 hy7 hy18 hy19 hpq_38 H.size) (cwV 3 hts gX7_line_X5_first rfl rfl rfl ⟨rfl, dh_X5_first⟩ ⟨Nat.le_of_ble_eq_true rfl, Nat.le_of_ble_eq_true rfl⟩) hK hN (hZ.kept hS) hP hD hS hA [2, 4, 5, 6] [0, 1, 3, 7, 8, 9] rfl rfl (by decide) (by decide) (by decide) (va_recv (q := (RX5, TX5, 7)) hK hP (ci := 5) (q0 := 2) rfl rfl) rfl hl.1 rfl (Nat.le_of_ble_eq_true rfl) dX7_line_74 ⟨Nat.le_of_ble_eq_true rfl, Nat.le_of_ble_eq_true rfl⟩ (fun r_46 u_47 H locs hr_46 hP hD hS => ?_)
              obtain ⟨q_48, rfl⟩ : ∃ z, z = u_47 := ⟨_, rfl⟩
              obtain ⟨hsr_46_0, hsr_46_1, hr_46⟩ := hr_46
              have h9R := zRe (ws' := [(x0, .inr (7, [.ref xs, .ref j0, .ref k0, .ref w0, .ref rd, .ref mv, .ref xr, .int im, .int lf])), (xr, .inl (cI, 8, .inl fr)), (wk, .inl (cI, 125, .inl q_36)), (j0, .inr (0, [.ref z0, .ref jp, .ref jc, .int cn, .int de, .int tr, .int se, .int hu, .int sd])), (jp, .inl (cP, 8, .inr (.inr (.inr (.inr fp))))), (jc, .inl (cI, 3, .inl fjc)), (w0, .inr (5, [.ref wk, .ref wl, .ref wc, .ref wp, .int q_33, .int q_34, .int q_35])), (wl, .inl (cI, 125, .inl q_48)), (wc, .inl (cI, 3, .inl q_38)), (wp, .inl (cP, 8, .inr (.inr (.inr (.inr q_39)))))]) hP hD rfl
              clear hP hD
              obtain ⟨hP, hD⟩ := h9R
              obtain ⟨g_49, g_50⟩ := hr_46
              exact W.iret (v := r_46) hx hb hr (fun t ht hW => ⟨⟨r_46, (q_33, q_34, q_35, q_36, q_48, q_38, q_39, fr), rfl, ⟨(show 0 ≤ q_33.toInt ∧ q_33.toInt ≤ 8 from hbq_33), (show 0 ≤ q_34.toInt ∧ q_34.toInt ≤ 9 from hbq_34), (show 0 ≤ q_35.toInt ∧ q_35.toInt ≤ 60 from hbq_35), hpq_38, hwq_39, (show ((w.toInt < 0 ∨ 1 < w.toInt) ∧ (r_46 : Int32).toInt = -15) ∨ ((0 ≤ w.toInt ∧ w.toInt ≤ 1) ∧ ((((0 : Int32).toInt < 0 ∨ 4 < (0 : Int32).toInt) ∧ (r_46 : Int32).toInt = -16) ∨ ((0 ≤ (0 : Int32).toInt ∧ (0 : Int32).toInt ≤ 4) ∧ ((w.toInt = 1 ∧ (r_46 : Int32).toInt = zLr kf af tf cn.toInt.toNat hu.toInt (fjc 0).toInt (fjc 1).toInt (fjc 2).toInt (0 : Int32).toInt.toNat de.toInt se.toInt) ∨ (w.toInt = 0 ∧ (r_46 : Int32).toInt = zLn kf af tf cn.toInt.toNat hu.toInt (fjc 0).toInt (fjc 1).toInt (fjc 2).toInt (0 : Int32).toInt.toNat de.toInt se.toInt))))) from by (have k0 : (0 : Int32).toInt = 0 := (by decide); refine Or.inr ⟨by omega, Or.inr ⟨by omega, Or.inl ⟨by omega, (by have z := hsr_46_1; rw [hsr_31_3 1 (by decide), hsr_31_3 2 (by decide)] at z; unfold zLr; rw [show (0 : Int32).toInt.toNat = 0 from by decide, if_pos (Or.inl rfl : (0 : Nat) = 0 ∨ _)]; exact z)⟩⟩⟩)), trivial⟩, zRet ht hP hD [0, 1, 3, 6, 2, 7, 8, 9, 4, 5] (by decide) rfl⟩, hS.F ht⟩) hS.2.2 dX7_line_77
          · refine lv_aload_n hx hb dX7_line_31 rfl (lv_at hl 0 rfl) ?_
            refine va_get (D := D) (ci := 7) (v := .ref w0) (C := RX7) (T := TX7) (N := 9) hx hb hts hi_X7_line_7 hown hK hP 0 rfl rfl 3 (by decide) (hts (.fieldLink RX7 28 "TheLiningsInIt" "ways" "LTheLiningsInIt$Ways;") (List.mem_of_getElem? (i := 1) rfl)) (fun _ h9 => h9) rfl dX7_line_32 ?_
            refine lv_aload_n hx hb dX7_line_35 rfl (lv_at hl 0 rfl) ?_
            refine va_get (D := D) (ci := 7) (v := .ref j0) (C := RX7) (T := TX7) (N := 9) hx hb hts hi_X7_line_7 hown hK hP 0 rfl rfl 1 (by decide) (hts (.fieldLink RX7 18 "TheLiningsInIt" "now" "LTheLiningsInIt$Jacket;") (List.mem_of_getElem? (i := 2) rfl)) (fun _ h9 => h9) rfl dX7_line_36 ?_
            refine lv_aload_n hx hb dX7_line_39 rfl (lv_at hl 0 rfl) ?_
            refine va_get (D := D) (ci := 7) (v := .ref j0) (C := RX7) (T := TX7) (N := 9) hx hb hts hi_X7_line_7 hown hK hP 0 rfl rfl 1 (by decide) (hts (.fieldLink RX7 18 "TheLiningsInIt" "now" "LTheLiningsInIt$Jacket;") (List.mem_of_getElem? (i := 2) rfl)) (fun _ h9 => h9) rfl dX7_line_40 ?_
            refine va_get (D := D) (ci := 0) (v := .int hu) (C := RX0) (T := TX0) (N := 9) hx hb hts hi_X7_line_0 hown hK hP 2 rfl rfl 7 (by decide) (hts (.fieldLink RX7 116 "TheLiningsInIt$Jacket" "hurry" "I") (List.mem_of_getElem? (i := 3) rfl)) (fun _ h9 => h9) rfl dX7_line_43 ?_
            refine lv_iconst (v := 1) hx hb dX7_line_46 (by decide) ?_
            skip
            refine zw_Vv (As := [.ref j0, .int hu, .int 1]) (rest := []) (wr := [(x0, .inr (7, [.ref xs, .ref j0, .ref k0, .ref w0, .ref rd, .ref mv, .ref xr, .int im, .int lf])), (xr, .inl (cI, 8, .inl fr))]) ⟨hx, hb, hml, hown, hts⟩ (c_F_W_look l D cI cJ cZ cP cS po w0 wk wl wc wp (wn) (wh) (wg) j0 jp jc z0 0 0 (cn) (de) (tr) (se) (hu) (sd) fp fq kf af tf fk fl fc fjc (hu) (1) hy10 hy11 hy12 hy13 hy14 hy15 hy4 hy5 hy6 hy7 hy8 hy9 hy8 hy9 hwq hjp hp_fc hp_fjc H.size) (cwV 3 hts gX7_line_X5_look rfl rfl rfl ⟨rfl, dh_X5_look⟩ ⟨Nat.le_of_ble_eq_true rfl, Nat.le_of_ble_eq_true rfl⟩) hK hN (hZ.kept hS) hP hD hS hA [3, 4, 5, 6, 7, 2, 8, 9] [0, 1] rfl rfl (by decide) (by decide) (by decide) (va_recv (q := (RX5, TX5, 7)) hK hP (ci := 5) (q0 := 3) rfl rfl) rfl hl.1 rfl (Nat.le_of_ble_eq_true rfl) dX7_line_47 ⟨Nat.le_of_ble_eq_true rfl, Nat.le_of_ble_eq_true rfl⟩ (fun u_52 H locs hr_51 hP hD hS => ?_)
            obtain ⟨q_53, q_54, q_55, q_56, q_57, q_58, q_59⟩ := u_52
            try dsimp only at hr_51
            obtain ⟨hbq_53, hbq_54, hbq_55, hpq_58, hwq_59, hsr_51_0, hsr_51_1, hsr_51_2, hsr_51_3, hsr_51_4, hsr_51_5, hr_51⟩ := hr_51
            have h9R := zRe (ws' := [(x0, .inr (7, [.ref xs, .ref j0, .ref k0, .ref w0, .ref rd, .ref mv, .ref xr, .int im, .int lf])), (xr, .inl (cI, 8, .inl fr)), (w0, .inr (5, [.ref wk, .ref wl, .ref wc, .ref wp, .int q_53, .int q_54, .int q_55])), (wk, .inl (cI, 125, .inl q_56)), (wl, .inl (cI, 125, .inl q_57)), (wc, .inl (cI, 3, .inl q_58)), (wp, .inl (cP, 8, .inr (.inr (.inr (.inr q_59))))), (j0, .inr (0, [.ref z0, .ref jp, .ref jc, .int cn, .int de, .int tr, .int se, .int hu, .int sd])), (jp, .inl (cP, 8, .inr (.inr (.inr (.inr fp))))), (jc, .inl (cI, 3, .inl fjc))]) hP hD rfl
            clear hP hD
            obtain ⟨hP, hD⟩ := h9R
            obtain ⟨ewn, ewh⟩ := hsr_51_2
            have ewn9 := congrArg Int32.toInt ewn
            have ewh9 := congrArg Int32.toInt ewh
            have hjw9 : zJW po q_59 q_53 kf af tf (1 : Int32) := by (intro j hj; exact hsr_51_0 j (by rw [← ewn]; exact hj))
            have hkm9 : zKm kf af tf q_53.toInt.toNat q_54.toInt (1 : Int32).toInt q_55.toInt q_56 := zKm_0 hsr_51_4
            have hgl9 : ∀ p : Nat, p < q_53.toInt.toNat → ((1 : Int32).toInt ≠ 0 ∨ (kf p).toInt ≠ 5) → (tf p).toInt ≤ q_55.toInt := fun p hp hl => hsr_51_1 p (by rw [ewn] at hp; omega) hl
            have hkn9 : zKn kf af tf q_53.toInt.toNat q_54.toInt (q_58 0).toInt (q_58 1).toInt (q_58 2).toInt q_55.toInt q_57 := zKn_0 hsr_51_5
            have hgk9 : ∀ p : Nat, p < q_53.toInt.toNat → (tf p).toInt ≤ q_55.toInt := fun p hp => hgl9 p hp (Or.inl (by decide))
            refine lv_iload_n hx hb dX7_line_50 rfl (lv_at hl 2 rfl) ?_
            refine lv_iconst (v := 1) hx hb dX7_line_51 (by decide) ?_
            refine lv_icmp_ne (tgt := 78) hx hb dX7_line_52 (by decide) (fun c_60 => ?_) (fun c_60 => ?_)
            · have fc_60 : w.toInt ≠ 1 := zf_ne c_60 rfl (by decide)
              refine lv_aload_n hx hb dX7_line_78 rfl (lv_at hl 0 rfl) ?_
              refine va_get (D := D) (ci := 7) (v := .ref w0) (C := RX7) (T := TX7) (N := 9) hx hb hts hi_X7_line_7 hown hK hP 0 rfl rfl 3 (by decide) (hts (.fieldLink RX7 28 "TheLiningsInIt" "ways" "LTheLiningsInIt$Ways;") (List.mem_of_getElem? (i := 1) rfl)) (fun _ h9 => h9) rfl dX7_line_79 ?_
              refine lv_iload_n hx hb dX7_line_82 rfl (lv_at hl 1 rfl) ?_
              refine lv_aload_n hx hb dX7_line_83 rfl (lv_at hl 0 rfl) ?_
              refine va_get (D := D) (ci := 7) (v := .ref j0) (C := RX7) (T := TX7) (N := 9) hx hb hts hi_X7_line_7 hown hK hP 0 rfl rfl 1 (by decide) (hts (.fieldLink RX7 18 "TheLiningsInIt" "now" "LTheLiningsInIt$Jacket;") (List.mem_of_getElem? (i := 2) rfl)) (fun _ h9 => h9) rfl dX7_line_84 ?_
              refine va_get (D := D) (ci := 0) (v := .int de) (C := RX0) (T := TX0) (N := 9) hx hb hts hi_X7_line_0 hown hK hP 7 rfl rfl 4 (by decide) (hts (.fieldLink RX7 199 "TheLiningsInIt$Jacket" "depth" "I") (List.mem_of_getElem? (i := 4) rfl)) (fun _ h9 => h9) rfl dX7_line_87 ?_
              refine lv_aload_n hx hb dX7_line_90 rfl (lv_at hl 0 rfl) ?_
              refine va_get (D := D) (ci := 7) (v := .ref j0) (C := RX7) (T := TX7) (N := 9) hx hb hts hi_X7_line_7 hown hK hP 0 rfl rfl 1 (by decide) (hts (.fieldLink RX7 18 "TheLiningsInIt" "now" "LTheLiningsInIt$Jacket;") (List.mem_of_getElem? (i := 2) rfl)) (fun _ h9 => h9) rfl dX7_line_91 ?_
              refine va_get (D := D) (ci := 0) (v := .int se) (C := RX0) (T := TX0) (N := 9) hx hb hts hi_X7_line_0 hown hK hP 7 rfl rfl 6 (by decide) (hts (.fieldLink RX7 202 "TheLiningsInIt$Jacket" "seconds" "I") (List.mem_of_getElem? (i := 5) rfl)) (fun _ h9 => h9) rfl dX7_line_94 ?_
              skip
              refine zw_VN (As := [.int 1, .int de, .int se]) (rest := []) (wr := [(x0, .inr (7, [.ref xs, .ref j0, .ref k0, .ref w0, .ref rd, .ref mv, .ref xr, .int im, .int lf])), (xr, .inl (cI, 8, .inl fr)), (wk, .inl (cI, 125, .inl q_56)), (j0, .inr (0, [.ref z0, .ref jp, .ref jc, .int cn, .int de, .int tr, .int se, .int hu, .int sd])), (jp, .inl (cP, 8, .inr (.inr (.inr (.inr fp))))), (jc, .inl (cI, 3, .inl fjc))]) ⟨hx, hb, hml, hown, hts⟩ (c_F_W_least_1 l D cI cJ cZ cP cS po w0 wk wl wc wp (q_53) (q_54) (q_55) q_59 kf af tf (1) q_57 q_58 (de) (se) hbq_53.1 hbq_53.2 hbq_54.1 hbq_54.2 hbq_55.1 hbq_55.2 hjw9 (by first | assumption | omega) (by first | assumption | omega) (by first | assumption | omega | decide) hy6 hy7 hy18 hy19 hpq_58 H.size) ⟨(va_cnB 3 hts gX7_line_X5_least_n214 rfl rfl rfl (hN.1 (RX7, 214, yX5_least) (List.mem_of_getElem? (i := 11) rfl)) (hts _ (List.mem_of_getElem? (i := 22) rfl)) dh_X5_least ⟨Nat.le_of_ble_eq_true rfl, Nat.le_of_ble_eq_true rfl⟩), (hts _ (List.mem_of_getElem? (i := 59) rfl)), (hts _ (List.mem_of_getElem? (i := 60) rfl))⟩ hK hN (hZ.kept hS) hP hD hS hA [2, 4, 5, 6] [0, 1, 3, 7, 8, 9] rfl rfl (by decide) (by decide) (by decide) (va_recv (q := (RX5, TX5, 7)) hK hP (ci := 5) (q0 := 2) rfl rfl) rfl hl.1 rfl (Nat.le_of_ble_eq_true rfl) dX7_line_97 ⟨Nat.le_of_ble_eq_true rfl, Nat.le_of_ble_eq_true rfl⟩ (fun r_61 u_62 H locs hr_61 hP hD hS => ?_)
              obtain ⟨q_63, rfl⟩ : ∃ z, z = u_62 := ⟨_, rfl⟩
              obtain ⟨hsr_61_0, hsr_61_1, hr_61⟩ := hr_61
              have h9R := zRe (ws' := [(x0, .inr (7, [.ref xs, .ref j0, .ref k0, .ref w0, .ref rd, .ref mv, .ref xr, .int im, .int lf])), (xr, .inl (cI, 8, .inl fr)), (wk, .inl (cI, 125, .inl q_56)), (j0, .inr (0, [.ref z0, .ref jp, .ref jc, .int cn, .int de, .int tr, .int se, .int hu, .int sd])), (jp, .inl (cP, 8, .inr (.inr (.inr (.inr fp))))), (jc, .inl (cI, 3, .inl fjc)), (w0, .inr (5, [.ref wk, .ref wl, .ref wc, .ref wp, .int q_53, .int q_54, .int q_55])), (wl, .inl (cI, 125, .inl q_63)), (wc, .inl (cI, 3, .inl q_58)), (wp, .inl (cP, 8, .inr (.inr (.inr (.inr q_59)))))]) hP hD rfl
              clear hP hD
              obtain ⟨hP, hD⟩ := h9R
              obtain ⟨g_64, g_65⟩ := hr_61
              exact W.iret (v := r_61) hx hb hr (fun t ht hW => ⟨⟨r_61, (q_53, q_54, q_55, q_56, q_63, q_58, q_59, fr), rfl, ⟨(show 0 ≤ q_53.toInt ∧ q_53.toInt ≤ 8 from hbq_53), (show 0 ≤ q_54.toInt ∧ q_54.toInt ≤ 9 from hbq_54), (show 0 ≤ q_55.toInt ∧ q_55.toInt ≤ 60 from hbq_55), hpq_58, hwq_59, (show ((w.toInt < 0 ∨ 1 < w.toInt) ∧ (r_61 : Int32).toInt = -15) ∨ ((0 ≤ w.toInt ∧ w.toInt ≤ 1) ∧ ((((1 : Int32).toInt < 0 ∨ 4 < (1 : Int32).toInt) ∧ (r_61 : Int32).toInt = -16) ∨ ((0 ≤ (1 : Int32).toInt ∧ (1 : Int32).toInt ≤ 4) ∧ ((w.toInt = 1 ∧ (r_61 : Int32).toInt = zLr kf af tf cn.toInt.toNat hu.toInt (fjc 0).toInt (fjc 1).toInt (fjc 2).toInt (1 : Int32).toInt.toNat de.toInt se.toInt) ∨ (w.toInt = 0 ∧ (r_61 : Int32).toInt = zLn kf af tf cn.toInt.toNat hu.toInt (fjc 0).toInt (fjc 1).toInt (fjc 2).toInt (1 : Int32).toInt.toNat de.toInt se.toInt))))) from by (have k1 : (1 : Int32).toInt = 1 := (by decide); refine Or.inr ⟨by omega, Or.inr ⟨by omega, Or.inr ⟨by omega, (by have z := hsr_61_1; rw [ewn, ewh, hsr_51_3 0 (by decide), hsr_51_3 1 (by decide), hsr_51_3 2 (by decide)] at z; rw [show (1 : Int32).toInt.toNat = 1 from by decide]; exact z)⟩⟩⟩)), trivial⟩, zRet ht hP hD [0, 1, 3, 6, 2, 7, 8, 9, 4, 5] (by decide) rfl⟩, hS.F ht⟩) hS.2.2 dX7_line_100
            · have fc_60 : w.toInt = 1 := zf_eq c_60 rfl (by decide)
              refine lv_aload_n hx hb dX7_line_55 rfl (lv_at hl 0 rfl) ?_
              refine va_get (D := D) (ci := 7) (v := .ref w0) (C := RX7) (T := TX7) (N := 9) hx hb hts hi_X7_line_7 hown hK hP 0 rfl rfl 3 (by decide) (hts (.fieldLink RX7 28 "TheLiningsInIt" "ways" "LTheLiningsInIt$Ways;") (List.mem_of_getElem? (i := 1) rfl)) (fun _ h9 => h9) rfl dX7_line_56 ?_
              refine lv_iload_n hx hb dX7_line_59 rfl (lv_at hl 1 rfl) ?_
              refine lv_aload_n hx hb dX7_line_60 rfl (lv_at hl 0 rfl) ?_
              refine va_get (D := D) (ci := 7) (v := .ref j0) (C := RX7) (T := TX7) (N := 9) hx hb hts hi_X7_line_7 hown hK hP 0 rfl rfl 1 (by decide) (hts (.fieldLink RX7 18 "TheLiningsInIt" "now" "LTheLiningsInIt$Jacket;") (List.mem_of_getElem? (i := 2) rfl)) (fun _ h9 => h9) rfl dX7_line_61 ?_
              refine va_get (D := D) (ci := 0) (v := .int de) (C := RX0) (T := TX0) (N := 9) hx hb hts hi_X7_line_0 hown hK hP 7 rfl rfl 4 (by decide) (hts (.fieldLink RX7 199 "TheLiningsInIt$Jacket" "depth" "I") (List.mem_of_getElem? (i := 4) rfl)) (fun _ h9 => h9) rfl dX7_line_64 ?_
              refine lv_aload_n hx hb dX7_line_67 rfl (lv_at hl 0 rfl) ?_
              refine va_get (D := D) (ci := 7) (v := .ref j0) (C := RX7) (T := TX7) (N := 9) hx hb hts hi_X7_line_7 hown hK hP 0 rfl rfl 1 (by decide) (hts (.fieldLink RX7 18 "TheLiningsInIt" "now" "LTheLiningsInIt$Jacket;") (List.mem_of_getElem? (i := 2) rfl)) (fun _ h9 => h9) rfl dX7_line_68 ?_
              refine va_get (D := D) (ci := 0) (v := .int se) (C := RX0) (T := TX0) (N := 9) hx hb hts hi_X7_line_0 hown hK hP 7 rfl rfl 6 (by decide) (hts (.fieldLink RX7 202 "TheLiningsInIt$Jacket" "seconds" "I") (List.mem_of_getElem? (i := 5) rfl)) (fun _ h9 => h9) rfl dX7_line_71 ?_
              skip
              refine zw_V (As := [.int 1, .int de, .int se]) (rest := []) (wr := [(x0, .inr (7, [.ref xs, .ref j0, .ref k0, .ref w0, .ref rd, .ref mv, .ref xr, .int im, .int lf])), (xr, .inl (cI, 8, .inl fr)), (wk, .inl (cI, 125, .inl q_56)), (j0, .inr (0, [.ref z0, .ref jp, .ref jc, .int cn, .int de, .int tr, .int se, .int hu, .int sd])), (jp, .inl (cP, 8, .inr (.inr (.inr (.inr fp))))), (jc, .inl (cI, 3, .inl fjc))]) ⟨hx, hb, hml, hown, hts⟩ (c_F_W_first_1 l D cI cJ cZ cP cS po w0 wk wl wc wp (q_53) (q_54) (q_55) q_59 kf af tf (1) q_57 q_58 (de) (se) hbq_53.1 hbq_53.2 hbq_54.1 hbq_54.2 hbq_55.1 hbq_55.2 hjw9 (by first | assumption | omega) (by first | assumption | omega) (by first | assumption | omega | decide) hy6 hy7 hy18 hy19 hpq_58 H.size) (cwV 3 hts gX7_line_X5_first rfl rfl rfl ⟨rfl, dh_X5_first⟩ ⟨Nat.le_of_ble_eq_true rfl, Nat.le_of_ble_eq_true rfl⟩) hK hN (hZ.kept hS) hP hD hS hA [2, 4, 5, 6] [0, 1, 3, 7, 8, 9] rfl rfl (by decide) (by decide) (by decide) (va_recv (q := (RX5, TX5, 7)) hK hP (ci := 5) (q0 := 2) rfl rfl) rfl hl.1 rfl (Nat.le_of_ble_eq_true rfl) dX7_line_74 ⟨Nat.le_of_ble_eq_true rfl, Nat.le_of_ble_eq_true rfl⟩ (fun r_66 u_67 H locs hr_66 hP hD hS => ?_)
              obtain ⟨q_68, rfl⟩ : ∃ z, z = u_67 := ⟨_, rfl⟩
              obtain ⟨hsr_66_0, hsr_66_1, hr_66⟩ := hr_66
              have h9R := zRe (ws' := [(x0, .inr (7, [.ref xs, .ref j0, .ref k0, .ref w0, .ref rd, .ref mv, .ref xr, .int im, .int lf])), (xr, .inl (cI, 8, .inl fr)), (wk, .inl (cI, 125, .inl q_56)), (j0, .inr (0, [.ref z0, .ref jp, .ref jc, .int cn, .int de, .int tr, .int se, .int hu, .int sd])), (jp, .inl (cP, 8, .inr (.inr (.inr (.inr fp))))), (jc, .inl (cI, 3, .inl fjc)), (w0, .inr (5, [.ref wk, .ref wl, .ref wc, .ref wp, .int q_53, .int q_54, .int q_55])), (wl, .inl (cI, 125, .inl q_68)), (wc, .inl (cI, 3, .inl q_58)), (wp, .inl (cP, 8, .inr (.inr (.inr (.inr q_59)))))]) hP hD rfl
              clear hP hD
              obtain ⟨hP, hD⟩ := h9R
              obtain ⟨g_69, g_70⟩ := hr_66
              exact W.iret (v := r_66) hx hb hr (fun t ht hW => ⟨⟨r_66, (q_53, q_54, q_55, q_56, q_68, q_58, q_59, fr), rfl, ⟨(show 0 ≤ q_53.toInt ∧ q_53.toInt ≤ 8 from hbq_53), (show 0 ≤ q_54.toInt ∧ q_54.toInt ≤ 9 from hbq_54), (show 0 ≤ q_55.toInt ∧ q_55.toInt ≤ 60 from hbq_55), hpq_58, hwq_59, (show ((w.toInt < 0 ∨ 1 < w.toInt) ∧ (r_66 : Int32).toInt = -15) ∨ ((0 ≤ w.toInt ∧ w.toInt ≤ 1) ∧ ((((1 : Int32).toInt < 0 ∨ 4 < (1 : Int32).toInt) ∧ (r_66 : Int32).toInt = -16) ∨ ((0 ≤ (1 : Int32).toInt ∧ (1 : Int32).toInt ≤ 4) ∧ ((w.toInt = 1 ∧ (r_66 : Int32).toInt = zLr kf af tf cn.toInt.toNat hu.toInt (fjc 0).toInt (fjc 1).toInt (fjc 2).toInt (1 : Int32).toInt.toNat de.toInt se.toInt) ∨ (w.toInt = 0 ∧ (r_66 : Int32).toInt = zLn kf af tf cn.toInt.toNat hu.toInt (fjc 0).toInt (fjc 1).toInt (fjc 2).toInt (1 : Int32).toInt.toNat de.toInt se.toInt))))) from by (have k1 : (1 : Int32).toInt = 1 := (by decide); refine Or.inr ⟨by omega, Or.inr ⟨by omega, Or.inl ⟨by omega, (by have z := hsr_66_1; rw [ewn, ewh, hsr_51_3 0 (by decide), hsr_51_3 1 (by decide), hsr_51_3 2 (by decide)] at z; unfold zLr; rw [show (1 : Int32).toInt.toNat = 1 from by decide, show (1 : Nat) - 1 = 0 from by decide]; rw [z]; by_cases c : de.toInt = 0; (rw [if_pos c, if_pos c]); (rw [if_neg c, if_neg c]; split; (rename_i c2; rw [if_pos (Or.inr c2)]); (rename_i c2; rw [if_neg (fun q => q.elim (by decide) c2)])))⟩⟩⟩)), trivial⟩, zRet ht hP hD [0, 1, 3, 6, 2, 7, 8, 9, 4, 5] (by decide) rfl⟩, hS.F ht⟩) hS.2.2 dX7_line_77
          · refine lv_aload_n hx hb dX7_line_31 rfl (lv_at hl 0 rfl) ?_
            refine va_get (D := D) (ci := 7) (v := .ref w0) (C := RX7) (T := TX7) (N := 9) hx hb hts hi_X7_line_7 hown hK hP 0 rfl rfl 3 (by decide) (hts (.fieldLink RX7 28 "TheLiningsInIt" "ways" "LTheLiningsInIt$Ways;") (List.mem_of_getElem? (i := 1) rfl)) (fun _ h9 => h9) rfl dX7_line_32 ?_
            refine lv_aload_n hx hb dX7_line_35 rfl (lv_at hl 0 rfl) ?_
            refine va_get (D := D) (ci := 7) (v := .ref j0) (C := RX7) (T := TX7) (N := 9) hx hb hts hi_X7_line_7 hown hK hP 0 rfl rfl 1 (by decide) (hts (.fieldLink RX7 18 "TheLiningsInIt" "now" "LTheLiningsInIt$Jacket;") (List.mem_of_getElem? (i := 2) rfl)) (fun _ h9 => h9) rfl dX7_line_36 ?_
            refine lv_aload_n hx hb dX7_line_39 rfl (lv_at hl 0 rfl) ?_
            refine va_get (D := D) (ci := 7) (v := .ref j0) (C := RX7) (T := TX7) (N := 9) hx hb hts hi_X7_line_7 hown hK hP 0 rfl rfl 1 (by decide) (hts (.fieldLink RX7 18 "TheLiningsInIt" "now" "LTheLiningsInIt$Jacket;") (List.mem_of_getElem? (i := 2) rfl)) (fun _ h9 => h9) rfl dX7_line_40 ?_
            refine va_get (D := D) (ci := 0) (v := .int hu) (C := RX0) (T := TX0) (N := 9) hx hb hts hi_X7_line_0 hown hK hP 2 rfl rfl 7 (by decide) (hts (.fieldLink RX7 116 "TheLiningsInIt$Jacket" "hurry" "I") (List.mem_of_getElem? (i := 3) rfl)) (fun _ h9 => h9) rfl dX7_line_43 ?_
            refine lv_iconst (v := 1) hx hb dX7_line_46 (by decide) ?_
            skip
            refine zw_Vv (As := [.ref j0, .int hu, .int 1]) (rest := []) (wr := [(x0, .inr (7, [.ref xs, .ref j0, .ref k0, .ref w0, .ref rd, .ref mv, .ref xr, .int im, .int lf])), (xr, .inl (cI, 8, .inl fr))]) ⟨hx, hb, hml, hown, hts⟩ (c_F_W_look l D cI cJ cZ cP cS po w0 wk wl wc wp (wn) (wh) (wg) j0 jp jc z0 0 0 (cn) (de) (tr) (se) (hu) (sd) fp fq kf af tf fk fl fc fjc (hu) (1) hy10 hy11 hy12 hy13 hy14 hy15 hy4 hy5 hy6 hy7 hy8 hy9 hy8 hy9 hwq hjp hp_fc hp_fjc H.size) (cwV 3 hts gX7_line_X5_look rfl rfl rfl ⟨rfl, dh_X5_look⟩ ⟨Nat.le_of_ble_eq_true rfl, Nat.le_of_ble_eq_true rfl⟩) hK hN (hZ.kept hS) hP hD hS hA [3, 4, 5, 6, 7, 2, 8, 9] [0, 1] rfl rfl (by decide) (by decide) (by decide) (va_recv (q := (RX5, TX5, 7)) hK hP (ci := 5) (q0 := 3) rfl rfl) rfl hl.1 rfl (Nat.le_of_ble_eq_true rfl) dX7_line_47 ⟨Nat.le_of_ble_eq_true rfl, Nat.le_of_ble_eq_true rfl⟩ (fun u_72 H locs hr_71 hP hD hS => ?_)
            obtain ⟨q_73, q_74, q_75, q_76, q_77, q_78, q_79⟩ := u_72
            try dsimp only at hr_71
            obtain ⟨hbq_73, hbq_74, hbq_75, hpq_78, hwq_79, hsr_71_0, hsr_71_1, hsr_71_2, hsr_71_3, hsr_71_4, hsr_71_5, hr_71⟩ := hr_71
            have h9R := zRe (ws' := [(x0, .inr (7, [.ref xs, .ref j0, .ref k0, .ref w0, .ref rd, .ref mv, .ref xr, .int im, .int lf])), (xr, .inl (cI, 8, .inl fr)), (w0, .inr (5, [.ref wk, .ref wl, .ref wc, .ref wp, .int q_73, .int q_74, .int q_75])), (wk, .inl (cI, 125, .inl q_76)), (wl, .inl (cI, 125, .inl q_77)), (wc, .inl (cI, 3, .inl q_78)), (wp, .inl (cP, 8, .inr (.inr (.inr (.inr q_79))))), (j0, .inr (0, [.ref z0, .ref jp, .ref jc, .int cn, .int de, .int tr, .int se, .int hu, .int sd])), (jp, .inl (cP, 8, .inr (.inr (.inr (.inr fp))))), (jc, .inl (cI, 3, .inl fjc))]) hP hD rfl
            clear hP hD
            obtain ⟨hP, hD⟩ := h9R
            obtain ⟨ewn, ewh⟩ := hsr_71_2
            have ewn9 := congrArg Int32.toInt ewn
            have ewh9 := congrArg Int32.toInt ewh
            have hjw9 : zJW po q_79 q_73 kf af tf (1 : Int32) := by (intro j hj; exact hsr_71_0 j (by rw [← ewn]; exact hj))
            have hkm9 : zKm kf af tf q_73.toInt.toNat q_74.toInt (1 : Int32).toInt q_75.toInt q_76 := zKm_0 hsr_71_4
            have hgl9 : ∀ p : Nat, p < q_73.toInt.toNat → ((1 : Int32).toInt ≠ 0 ∨ (kf p).toInt ≠ 5) → (tf p).toInt ≤ q_75.toInt := fun p hp hl => hsr_71_1 p (by rw [ewn] at hp; omega) hl
            have hkn9 : zKn kf af tf q_73.toInt.toNat q_74.toInt (q_78 0).toInt (q_78 1).toInt (q_78 2).toInt q_75.toInt q_77 := zKn_0 hsr_71_5
            have hgk9 : ∀ p : Nat, p < q_73.toInt.toNat → (tf p).toInt ≤ q_75.toInt := fun p hp => hgl9 p hp (Or.inl (by decide))
            refine lv_iload_n hx hb dX7_line_50 rfl (lv_at hl 2 rfl) ?_
            refine lv_iconst (v := 1) hx hb dX7_line_51 (by decide) ?_
            refine lv_icmp_ne (tgt := 78) hx hb dX7_line_52 (by decide) (fun c_80 => ?_) (fun c_80 => ?_)
            · have fc_80 : w.toInt ≠ 1 := zf_ne c_80 rfl (by decide)
              refine lv_aload_n hx hb dX7_line_78 rfl (lv_at hl 0 rfl) ?_
              refine va_get (D := D) (ci := 7) (v := .ref w0) (C := RX7) (T := TX7) (N := 9) hx hb hts hi_X7_line_7 hown hK hP 0 rfl rfl 3 (by decide) (hts (.fieldLink RX7 28 "TheLiningsInIt" "ways" "LTheLiningsInIt$Ways;") (List.mem_of_getElem? (i := 1) rfl)) (fun _ h9 => h9) rfl dX7_line_79 ?_
              refine lv_iload_n hx hb dX7_line_82 rfl (lv_at hl 1 rfl) ?_
              refine lv_aload_n hx hb dX7_line_83 rfl (lv_at hl 0 rfl) ?_
              refine va_get (D := D) (ci := 7) (v := .ref j0) (C := RX7) (T := TX7) (N := 9) hx hb hts hi_X7_line_7 hown hK hP 0 rfl rfl 1 (by decide) (hts (.fieldLink RX7 18 "TheLiningsInIt" "now" "LTheLiningsInIt$Jacket;") (List.mem_of_getElem? (i := 2) rfl)) (fun _ h9 => h9) rfl dX7_line_84 ?_
              refine va_get (D := D) (ci := 0) (v := .int de) (C := RX0) (T := TX0) (N := 9) hx hb hts hi_X7_line_0 hown hK hP 7 rfl rfl 4 (by decide) (hts (.fieldLink RX7 199 "TheLiningsInIt$Jacket" "depth" "I") (List.mem_of_getElem? (i := 4) rfl)) (fun _ h9 => h9) rfl dX7_line_87 ?_
              refine lv_aload_n hx hb dX7_line_90 rfl (lv_at hl 0 rfl) ?_
              refine va_get (D := D) (ci := 7) (v := .ref j0) (C := RX7) (T := TX7) (N := 9) hx hb hts hi_X7_line_7 hown hK hP 0 rfl rfl 1 (by decide) (hts (.fieldLink RX7 18 "TheLiningsInIt" "now" "LTheLiningsInIt$Jacket;") (List.mem_of_getElem? (i := 2) rfl)) (fun _ h9 => h9) rfl dX7_line_91 ?_
              refine va_get (D := D) (ci := 0) (v := .int se) (C := RX0) (T := TX0) (N := 9) hx hb hts hi_X7_line_0 hown hK hP 7 rfl rfl 6 (by decide) (hts (.fieldLink RX7 202 "TheLiningsInIt$Jacket" "seconds" "I") (List.mem_of_getElem? (i := 5) rfl)) (fun _ h9 => h9) rfl dX7_line_94 ?_
              skip
              refine zw_VN (As := [.int 2, .int de, .int se]) (rest := []) (wr := [(x0, .inr (7, [.ref xs, .ref j0, .ref k0, .ref w0, .ref rd, .ref mv, .ref xr, .int im, .int lf])), (xr, .inl (cI, 8, .inl fr)), (wk, .inl (cI, 125, .inl q_76)), (j0, .inr (0, [.ref z0, .ref jp, .ref jc, .int cn, .int de, .int tr, .int se, .int hu, .int sd])), (jp, .inl (cP, 8, .inr (.inr (.inr (.inr fp))))), (jc, .inl (cI, 3, .inl fjc))]) ⟨hx, hb, hml, hown, hts⟩ (c_F_W_least_2 l D cI cJ cZ cP cS po w0 wk wl wc wp (q_73) (q_74) (q_75) q_79 kf af tf (1) q_77 q_78 (de) (se) hbq_73.1 hbq_73.2 hbq_74.1 hbq_74.2 hbq_75.1 hbq_75.2 hjw9 (by first | assumption | omega) (by first | assumption | omega) (by first | assumption | omega | decide) hy6 hy7 hy18 hy19 hpq_78 H.size) ⟨(va_cnB 3 hts gX7_line_X5_least_n214 rfl rfl rfl (hN.1 (RX7, 214, yX5_least) (List.mem_of_getElem? (i := 11) rfl)) (hts _ (List.mem_of_getElem? (i := 22) rfl)) dh_X5_least ⟨Nat.le_of_ble_eq_true rfl, Nat.le_of_ble_eq_true rfl⟩), (hts _ (List.mem_of_getElem? (i := 59) rfl)), (hts _ (List.mem_of_getElem? (i := 60) rfl))⟩ hK hN (hZ.kept hS) hP hD hS hA [2, 4, 5, 6] [0, 1, 3, 7, 8, 9] rfl rfl (by decide) (by decide) (by decide) (va_recv (q := (RX5, TX5, 7)) hK hP (ci := 5) (q0 := 2) rfl rfl) rfl hl.1 rfl (Nat.le_of_ble_eq_true rfl) dX7_line_97 ⟨Nat.le_of_ble_eq_true rfl, Nat.le_of_ble_eq_true rfl⟩ (fun r_81 u_82 H locs hr_81 hP hD hS => ?_)
              obtain ⟨q_83, rfl⟩ : ∃ z, z = u_82 := ⟨_, rfl⟩
              obtain ⟨hsr_81_0, hsr_81_1, hr_81⟩ := hr_81
              have h9R := zRe (ws' := [(x0, .inr (7, [.ref xs, .ref j0, .ref k0, .ref w0, .ref rd, .ref mv, .ref xr, .int im, .int lf])), (xr, .inl (cI, 8, .inl fr)), (wk, .inl (cI, 125, .inl q_76)), (j0, .inr (0, [.ref z0, .ref jp, .ref jc, .int cn, .int de, .int tr, .int se, .int hu, .int sd])), (jp, .inl (cP, 8, .inr (.inr (.inr (.inr fp))))), (jc, .inl (cI, 3, .inl fjc)), (w0, .inr (5, [.ref wk, .ref wl, .ref wc, .ref wp, .int q_73, .int q_74, .int q_75])), (wl, .inl (cI, 125, .inl q_83)), (wc, .inl (cI, 3, .inl q_78)), (wp, .inl (cP, 8, .inr (.inr (.inr (.inr q_79)))))]) hP hD rfl
              clear hP hD
              obtain ⟨hP, hD⟩ := h9R
              obtain ⟨g_84, g_85⟩ := hr_81
              exact W.iret (v := r_81) hx hb hr (fun t ht hW => ⟨⟨r_81, (q_73, q_74, q_75, q_76, q_83, q_78, q_79, fr), rfl, ⟨(show 0 ≤ q_73.toInt ∧ q_73.toInt ≤ 8 from hbq_73), (show 0 ≤ q_74.toInt ∧ q_74.toInt ≤ 9 from hbq_74), (show 0 ≤ q_75.toInt ∧ q_75.toInt ≤ 60 from hbq_75), hpq_78, hwq_79, (show ((w.toInt < 0 ∨ 1 < w.toInt) ∧ (r_81 : Int32).toInt = -15) ∨ ((0 ≤ w.toInt ∧ w.toInt ≤ 1) ∧ ((((2 : Int32).toInt < 0 ∨ 4 < (2 : Int32).toInt) ∧ (r_81 : Int32).toInt = -16) ∨ ((0 ≤ (2 : Int32).toInt ∧ (2 : Int32).toInt ≤ 4) ∧ ((w.toInt = 1 ∧ (r_81 : Int32).toInt = zLr kf af tf cn.toInt.toNat hu.toInt (fjc 0).toInt (fjc 1).toInt (fjc 2).toInt (2 : Int32).toInt.toNat de.toInt se.toInt) ∨ (w.toInt = 0 ∧ (r_81 : Int32).toInt = zLn kf af tf cn.toInt.toNat hu.toInt (fjc 0).toInt (fjc 1).toInt (fjc 2).toInt (2 : Int32).toInt.toNat de.toInt se.toInt))))) from by (have k2 : (2 : Int32).toInt = 2 := (by decide); refine Or.inr ⟨by omega, Or.inr ⟨by omega, Or.inr ⟨by omega, (by have z := hsr_81_1; rw [ewn, ewh, hsr_71_3 0 (by decide), hsr_71_3 1 (by decide), hsr_71_3 2 (by decide)] at z; rw [show (2 : Int32).toInt.toNat = 2 from by decide]; exact z)⟩⟩⟩)), trivial⟩, zRet ht hP hD [0, 1, 3, 6, 2, 7, 8, 9, 4, 5] (by decide) rfl⟩, hS.F ht⟩) hS.2.2 dX7_line_100
            · have fc_80 : w.toInt = 1 := zf_eq c_80 rfl (by decide)
              refine lv_aload_n hx hb dX7_line_55 rfl (lv_at hl 0 rfl) ?_
              refine va_get (D := D) (ci := 7) (v := .ref w0) (C := RX7) (T := TX7) (N := 9) hx hb hts hi_X7_line_7 hown hK hP 0 rfl rfl 3 (by decide) (hts (.fieldLink RX7 28 "TheLiningsInIt" "ways" "LTheLiningsInIt$Ways;") (List.mem_of_getElem? (i := 1) rfl)) (fun _ h9 => h9) rfl dX7_line_56 ?_
              refine lv_iload_n hx hb dX7_line_59 rfl (lv_at hl 1 rfl) ?_
              refine lv_aload_n hx hb dX7_line_60 rfl (lv_at hl 0 rfl) ?_
              refine va_get (D := D) (ci := 7) (v := .ref j0) (C := RX7) (T := TX7) (N := 9) hx hb hts hi_X7_line_7 hown hK hP 0 rfl rfl 1 (by decide) (hts (.fieldLink RX7 18 "TheLiningsInIt" "now" "LTheLiningsInIt$Jacket;") (List.mem_of_getElem? (i := 2) rfl)) (fun _ h9 => h9) rfl dX7_line_61 ?_
              refine va_get (D := D) (ci := 0) (v := .int de) (C := RX0) (T := TX0) (N := 9) hx hb hts hi_X7_line_0 hown hK hP 7 rfl rfl 4 (by decide) (hts (.fieldLink RX7 199 "TheLiningsInIt$Jacket" "depth" "I") (List.mem_of_getElem? (i := 4) rfl)) (fun _ h9 => h9) rfl dX7_line_64 ?_
              refine lv_aload_n hx hb dX7_line_67 rfl (lv_at hl 0 rfl) ?_
              refine va_get (D := D) (ci := 7) (v := .ref j0) (C := RX7) (T := TX7) (N := 9) hx hb hts hi_X7_line_7 hown hK hP 0 rfl rfl 1 (by decide) (hts (.fieldLink RX7 18 "TheLiningsInIt" "now" "LTheLiningsInIt$Jacket;") (List.mem_of_getElem? (i := 2) rfl)) (fun _ h9 => h9) rfl dX7_line_68 ?_
              refine va_get (D := D) (ci := 0) (v := .int se) (C := RX0) (T := TX0) (N := 9) hx hb hts hi_X7_line_0 hown hK hP 7 rfl rfl 6 (by decide) (hts (.fieldLink RX7 202 "TheLiningsInIt$Jacket" "seconds" "I") (List.mem_of_getElem? (i := 5) rfl)) (fun _ h9 => h9) rfl dX7_line_71 ?_
              skip
              refine zw_V (As := [.int 2, .int de, .int se]) (rest := []) (wr := [(x0, .inr (7, [.ref xs, .ref j0, .ref k0, .ref w0, .ref rd, .ref mv, .ref xr, .int im, .int lf])), (xr, .inl (cI, 8, .inl fr)), (wk, .inl (cI, 125, .inl q_76)), (j0, .inr (0, [.ref z0, .ref jp, .ref jc, .int cn, .int de, .int tr, .int se, .int hu, .int sd])), (jp, .inl (cP, 8, .inr (.inr (.inr (.inr fp))))), (jc, .inl (cI, 3, .inl fjc))]) ⟨hx, hb, hml, hown, hts⟩ (c_F_W_first_2 l D cI cJ cZ cP cS po w0 wk wl wc wp (q_73) (q_74) (q_75) q_79 kf af tf (1) q_77 q_78 (de) (se) hbq_73.1 hbq_73.2 hbq_74.1 hbq_74.2 hbq_75.1 hbq_75.2 hjw9 (by first | assumption | omega) (by first | assumption | omega) (by first | assumption | omega | decide) hy6 hy7 hy18 hy19 hpq_78 H.size) (cwV 3 hts gX7_line_X5_first rfl rfl rfl ⟨rfl, dh_X5_first⟩ ⟨Nat.le_of_ble_eq_true rfl, Nat.le_of_ble_eq_true rfl⟩) hK hN (hZ.kept hS) hP hD hS hA [2, 4, 5, 6] [0, 1, 3, 7, 8, 9] rfl rfl (by decide) (by decide) (by decide) (va_recv (q := (RX5, TX5, 7)) hK hP (ci := 5) (q0 := 2) rfl rfl) rfl hl.1 rfl (Nat.le_of_ble_eq_true rfl) dX7_line_74 ⟨Nat.le_of_ble_eq_true rfl, Nat.le_of_ble_eq_true rfl⟩ (fun r_86 u_87 H locs hr_86 hP hD hS => ?_)
              obtain ⟨q_88, rfl⟩ : ∃ z, z = u_87 := ⟨_, rfl⟩
              obtain ⟨hsr_86_0, hsr_86_1, hr_86⟩ := hr_86
              have h9R := zRe (ws' := [(x0, .inr (7, [.ref xs, .ref j0, .ref k0, .ref w0, .ref rd, .ref mv, .ref xr, .int im, .int lf])), (xr, .inl (cI, 8, .inl fr)), (wk, .inl (cI, 125, .inl q_76)), (j0, .inr (0, [.ref z0, .ref jp, .ref jc, .int cn, .int de, .int tr, .int se, .int hu, .int sd])), (jp, .inl (cP, 8, .inr (.inr (.inr (.inr fp))))), (jc, .inl (cI, 3, .inl fjc)), (w0, .inr (5, [.ref wk, .ref wl, .ref wc, .ref wp, .int q_73, .int q_74, .int q_75])), (wl, .inl (cI, 125, .inl q_88)), (wc, .inl (cI, 3, .inl q_78)), (wp, .inl (cP, 8, .inr (.inr (.inr (.inr q_79)))))]) hP hD rfl
              clear hP hD
              obtain ⟨hP, hD⟩ := h9R
              obtain ⟨g_89, g_90⟩ := hr_86
              exact W.iret (v := r_86) hx hb hr (fun t ht hW => ⟨⟨r_86, (q_73, q_74, q_75, q_76, q_88, q_78, q_79, fr), rfl, ⟨(show 0 ≤ q_73.toInt ∧ q_73.toInt ≤ 8 from hbq_73), (show 0 ≤ q_74.toInt ∧ q_74.toInt ≤ 9 from hbq_74), (show 0 ≤ q_75.toInt ∧ q_75.toInt ≤ 60 from hbq_75), hpq_78, hwq_79, (show ((w.toInt < 0 ∨ 1 < w.toInt) ∧ (r_86 : Int32).toInt = -15) ∨ ((0 ≤ w.toInt ∧ w.toInt ≤ 1) ∧ ((((2 : Int32).toInt < 0 ∨ 4 < (2 : Int32).toInt) ∧ (r_86 : Int32).toInt = -16) ∨ ((0 ≤ (2 : Int32).toInt ∧ (2 : Int32).toInt ≤ 4) ∧ ((w.toInt = 1 ∧ (r_86 : Int32).toInt = zLr kf af tf cn.toInt.toNat hu.toInt (fjc 0).toInt (fjc 1).toInt (fjc 2).toInt (2 : Int32).toInt.toNat de.toInt se.toInt) ∨ (w.toInt = 0 ∧ (r_86 : Int32).toInt = zLn kf af tf cn.toInt.toNat hu.toInt (fjc 0).toInt (fjc 1).toInt (fjc 2).toInt (2 : Int32).toInt.toNat de.toInt se.toInt))))) from by (have k2 : (2 : Int32).toInt = 2 := (by decide); refine Or.inr ⟨by omega, Or.inr ⟨by omega, Or.inl ⟨by omega, (by have z := hsr_86_1; rw [ewn, ewh, hsr_71_3 0 (by decide), hsr_71_3 1 (by decide), hsr_71_3 2 (by decide)] at z; unfold zLr; rw [show (2 : Int32).toInt.toNat = 2 from by decide, show (2 : Nat) - 1 = 1 from by decide]; rw [z]; by_cases c : de.toInt = 0; (rw [if_pos c, if_pos c]); (rw [if_neg c, if_neg c]; split; (rename_i c2; rw [if_pos (Or.inr c2)]); (rename_i c2; rw [if_neg (fun q => q.elim (by decide) c2)])))⟩⟩⟩)), trivial⟩, zRet ht hP hD [0, 1, 3, 6, 2, 7, 8, 9, 4, 5] (by decide) rfl⟩, hS.F ht⟩) hS.2.2 dX7_line_77
          · refine lv_aload_n hx hb dX7_line_31 rfl (lv_at hl 0 rfl) ?_
            refine va_get (D := D) (ci := 7) (v := .ref w0) (C := RX7) (T := TX7) (N := 9) hx hb hts hi_X7_line_7 hown hK hP 0 rfl rfl 3 (by decide) (hts (.fieldLink RX7 28 "TheLiningsInIt" "ways" "LTheLiningsInIt$Ways;") (List.mem_of_getElem? (i := 1) rfl)) (fun _ h9 => h9) rfl dX7_line_32 ?_
            refine lv_aload_n hx hb dX7_line_35 rfl (lv_at hl 0 rfl) ?_
            refine va_get (D := D) (ci := 7) (v := .ref j0) (C := RX7) (T := TX7) (N := 9) hx hb hts hi_X7_line_7 hown hK hP 0 rfl rfl 1 (by decide) (hts (.fieldLink RX7 18 "TheLiningsInIt" "now" "LTheLiningsInIt$Jacket;") (List.mem_of_getElem? (i := 2) rfl)) (fun _ h9 => h9) rfl dX7_line_36 ?_
            refine lv_aload_n hx hb dX7_line_39 rfl (lv_at hl 0 rfl) ?_
            refine va_get (D := D) (ci := 7) (v := .ref j0) (C := RX7) (T := TX7) (N := 9) hx hb hts hi_X7_line_7 hown hK hP 0 rfl rfl 1 (by decide) (hts (.fieldLink RX7 18 "TheLiningsInIt" "now" "LTheLiningsInIt$Jacket;") (List.mem_of_getElem? (i := 2) rfl)) (fun _ h9 => h9) rfl dX7_line_40 ?_
            refine va_get (D := D) (ci := 0) (v := .int hu) (C := RX0) (T := TX0) (N := 9) hx hb hts hi_X7_line_0 hown hK hP 2 rfl rfl 7 (by decide) (hts (.fieldLink RX7 116 "TheLiningsInIt$Jacket" "hurry" "I") (List.mem_of_getElem? (i := 3) rfl)) (fun _ h9 => h9) rfl dX7_line_43 ?_
            refine lv_iconst (v := 1) hx hb dX7_line_46 (by decide) ?_
            skip
            refine zw_Vv (As := [.ref j0, .int hu, .int 1]) (rest := []) (wr := [(x0, .inr (7, [.ref xs, .ref j0, .ref k0, .ref w0, .ref rd, .ref mv, .ref xr, .int im, .int lf])), (xr, .inl (cI, 8, .inl fr))]) ⟨hx, hb, hml, hown, hts⟩ (c_F_W_look l D cI cJ cZ cP cS po w0 wk wl wc wp (wn) (wh) (wg) j0 jp jc z0 0 0 (cn) (de) (tr) (se) (hu) (sd) fp fq kf af tf fk fl fc fjc (hu) (1) hy10 hy11 hy12 hy13 hy14 hy15 hy4 hy5 hy6 hy7 hy8 hy9 hy8 hy9 hwq hjp hp_fc hp_fjc H.size) (cwV 3 hts gX7_line_X5_look rfl rfl rfl ⟨rfl, dh_X5_look⟩ ⟨Nat.le_of_ble_eq_true rfl, Nat.le_of_ble_eq_true rfl⟩) hK hN (hZ.kept hS) hP hD hS hA [3, 4, 5, 6, 7, 2, 8, 9] [0, 1] rfl rfl (by decide) (by decide) (by decide) (va_recv (q := (RX5, TX5, 7)) hK hP (ci := 5) (q0 := 3) rfl rfl) rfl hl.1 rfl (Nat.le_of_ble_eq_true rfl) dX7_line_47 ⟨Nat.le_of_ble_eq_true rfl, Nat.le_of_ble_eq_true rfl⟩ (fun u_92 H locs hr_91 hP hD hS => ?_)
            obtain ⟨q_93, q_94, q_95, q_96, q_97, q_98, q_99⟩ := u_92
            try dsimp only at hr_91
            obtain ⟨hbq_93, hbq_94, hbq_95, hpq_98, hwq_99, hsr_91_0, hsr_91_1, hsr_91_2, hsr_91_3, hsr_91_4, hsr_91_5, hr_91⟩ := hr_91
            have h9R := zRe (ws' := [(x0, .inr (7, [.ref xs, .ref j0, .ref k0, .ref w0, .ref rd, .ref mv, .ref xr, .int im, .int lf])), (xr, .inl (cI, 8, .inl fr)), (w0, .inr (5, [.ref wk, .ref wl, .ref wc, .ref wp, .int q_93, .int q_94, .int q_95])), (wk, .inl (cI, 125, .inl q_96)), (wl, .inl (cI, 125, .inl q_97)), (wc, .inl (cI, 3, .inl q_98)), (wp, .inl (cP, 8, .inr (.inr (.inr (.inr q_99))))), (j0, .inr (0, [.ref z0, .ref jp, .ref jc, .int cn, .int de, .int tr, .int se, .int hu, .int sd])), (jp, .inl (cP, 8, .inr (.inr (.inr (.inr fp))))), (jc, .inl (cI, 3, .inl fjc))]) hP hD rfl
            clear hP hD
            obtain ⟨hP, hD⟩ := h9R
            obtain ⟨ewn, ewh⟩ := hsr_91_2
            have ewn9 := congrArg Int32.toInt ewn
            have ewh9 := congrArg Int32.toInt ewh
            have hjw9 : zJW po q_99 q_93 kf af tf (1 : Int32) := by (intro j hj; exact hsr_91_0 j (by rw [← ewn]; exact hj))
            have hkm9 : zKm kf af tf q_93.toInt.toNat q_94.toInt (1 : Int32).toInt q_95.toInt q_96 := zKm_0 hsr_91_4
            have hgl9 : ∀ p : Nat, p < q_93.toInt.toNat → ((1 : Int32).toInt ≠ 0 ∨ (kf p).toInt ≠ 5) → (tf p).toInt ≤ q_95.toInt := fun p hp hl => hsr_91_1 p (by rw [ewn] at hp; omega) hl
            have hkn9 : zKn kf af tf q_93.toInt.toNat q_94.toInt (q_98 0).toInt (q_98 1).toInt (q_98 2).toInt q_95.toInt q_97 := zKn_0 hsr_91_5
            have hgk9 : ∀ p : Nat, p < q_93.toInt.toNat → (tf p).toInt ≤ q_95.toInt := fun p hp => hgl9 p hp (Or.inl (by decide))
            refine lv_iload_n hx hb dX7_line_50 rfl (lv_at hl 2 rfl) ?_
            refine lv_iconst (v := 1) hx hb dX7_line_51 (by decide) ?_
            refine lv_icmp_ne (tgt := 78) hx hb dX7_line_52 (by decide) (fun c_100 => ?_) (fun c_100 => ?_)
            · have fc_100 : w.toInt ≠ 1 := zf_ne c_100 rfl (by decide)
              refine lv_aload_n hx hb dX7_line_78 rfl (lv_at hl 0 rfl) ?_
              refine va_get (D := D) (ci := 7) (v := .ref w0) (C := RX7) (T := TX7) (N := 9) hx hb hts hi_X7_line_7 hown hK hP 0 rfl rfl 3 (by decide) (hts (.fieldLink RX7 28 "TheLiningsInIt" "ways" "LTheLiningsInIt$Ways;") (List.mem_of_getElem? (i := 1) rfl)) (fun _ h9 => h9) rfl dX7_line_79 ?_
              refine lv_iload_n hx hb dX7_line_82 rfl (lv_at hl 1 rfl) ?_
              refine lv_aload_n hx hb dX7_line_83 rfl (lv_at hl 0 rfl) ?_
              refine va_get (D := D) (ci := 7) (v := .ref j0) (C := RX7) (T := TX7) (N := 9) hx hb hts hi_X7_line_7 hown hK hP 0 rfl rfl 1 (by decide) (hts (.fieldLink RX7 18 "TheLiningsInIt" "now" "LTheLiningsInIt$Jacket;") (List.mem_of_getElem? (i := 2) rfl)) (fun _ h9 => h9) rfl dX7_line_84 ?_
              refine va_get (D := D) (ci := 0) (v := .int de) (C := RX0) (T := TX0) (N := 9) hx hb hts hi_X7_line_0 hown hK hP 7 rfl rfl 4 (by decide) (hts (.fieldLink RX7 199 "TheLiningsInIt$Jacket" "depth" "I") (List.mem_of_getElem? (i := 4) rfl)) (fun _ h9 => h9) rfl dX7_line_87 ?_
              refine lv_aload_n hx hb dX7_line_90 rfl (lv_at hl 0 rfl) ?_
              refine va_get (D := D) (ci := 7) (v := .ref j0) (C := RX7) (T := TX7) (N := 9) hx hb hts hi_X7_line_7 hown hK hP 0 rfl rfl 1 (by decide) (hts (.fieldLink RX7 18 "TheLiningsInIt" "now" "LTheLiningsInIt$Jacket;") (List.mem_of_getElem? (i := 2) rfl)) (fun _ h9 => h9) rfl dX7_line_91 ?_
              refine va_get (D := D) (ci := 0) (v := .int se) (C := RX0) (T := TX0) (N := 9) hx hb hts hi_X7_line_0 hown hK hP 7 rfl rfl 6 (by decide) (hts (.fieldLink RX7 202 "TheLiningsInIt$Jacket" "seconds" "I") (List.mem_of_getElem? (i := 5) rfl)) (fun _ h9 => h9) rfl dX7_line_94 ?_
              skip
              refine zw_VN (As := [.int 3, .int de, .int se]) (rest := []) (wr := [(x0, .inr (7, [.ref xs, .ref j0, .ref k0, .ref w0, .ref rd, .ref mv, .ref xr, .int im, .int lf])), (xr, .inl (cI, 8, .inl fr)), (wk, .inl (cI, 125, .inl q_96)), (j0, .inr (0, [.ref z0, .ref jp, .ref jc, .int cn, .int de, .int tr, .int se, .int hu, .int sd])), (jp, .inl (cP, 8, .inr (.inr (.inr (.inr fp))))), (jc, .inl (cI, 3, .inl fjc))]) ⟨hx, hb, hml, hown, hts⟩ (c_F_W_least_3 l D cI cJ cZ cP cS po w0 wk wl wc wp (q_93) (q_94) (q_95) q_99 kf af tf (1) q_97 q_98 (de) (se) hbq_93.1 hbq_93.2 hbq_94.1 hbq_94.2 hbq_95.1 hbq_95.2 hjw9 (by first | assumption | omega) (by first | assumption | omega) (by first | assumption | omega | decide) hy6 hy7 hy18 hy19 hpq_98 H.size) ⟨(va_cnB 3 hts gX7_line_X5_least_n214 rfl rfl rfl (hN.1 (RX7, 214, yX5_least) (List.mem_of_getElem? (i := 11) rfl)) (hts _ (List.mem_of_getElem? (i := 22) rfl)) dh_X5_least ⟨Nat.le_of_ble_eq_true rfl, Nat.le_of_ble_eq_true rfl⟩), (hts _ (List.mem_of_getElem? (i := 59) rfl)), (hts _ (List.mem_of_getElem? (i := 60) rfl))⟩ hK hN (hZ.kept hS) hP hD hS hA [2, 4, 5, 6] [0, 1, 3, 7, 8, 9] rfl rfl (by decide) (by decide) (by decide) (va_recv (q := (RX5, TX5, 7)) hK hP (ci := 5) (q0 := 2) rfl rfl) rfl hl.1 rfl (Nat.le_of_ble_eq_true rfl) dX7_line_97 ⟨Nat.le_of_ble_eq_true rfl, Nat.le_of_ble_eq_true rfl⟩ (fun r_101 u_102 H locs hr_101 hP hD hS => ?_)
              obtain ⟨q_103, rfl⟩ : ∃ z, z = u_102 := ⟨_, rfl⟩
              obtain ⟨hsr_101_0, hsr_101_1, hr_101⟩ := hr_101
              have h9R := zRe (ws' := [(x0, .inr (7, [.ref xs, .ref j0, .ref k0, .ref w0, .ref rd, .ref mv, .ref xr, .int im, .int lf])), (xr, .inl (cI, 8, .inl fr)), (wk, .inl (cI, 125, .inl q_96)), (j0, .inr (0, [.ref z0, .ref jp, .ref jc, .int cn, .int de, .int tr, .int se, .int hu, .int sd])), (jp, .inl (cP, 8, .inr (.inr (.inr (.inr fp))))), (jc, .inl (cI, 3, .inl fjc)), (w0, .inr (5, [.ref wk, .ref wl, .ref wc, .ref wp, .int q_93, .int q_94, .int q_95])), (wl, .inl (cI, 125, .inl q_103)), (wc, .inl (cI, 3, .inl q_98)), (wp, .inl (cP, 8, .inr (.inr (.inr (.inr q_99)))))]) hP hD rfl
              clear hP hD
              obtain ⟨hP, hD⟩ := h9R
              obtain ⟨g_104, g_105⟩ := hr_101
              exact W.iret (v := r_101) hx hb hr (fun t ht hW => ⟨⟨r_101, (q_93, q_94, q_95, q_96, q_103, q_98, q_99, fr), rfl, ⟨(show 0 ≤ q_93.toInt ∧ q_93.toInt ≤ 8 from hbq_93), (show 0 ≤ q_94.toInt ∧ q_94.toInt ≤ 9 from hbq_94), (show 0 ≤ q_95.toInt ∧ q_95.toInt ≤ 60 from hbq_95), hpq_98, hwq_99, (show ((w.toInt < 0 ∨ 1 < w.toInt) ∧ (r_101 : Int32).toInt = -15) ∨ ((0 ≤ w.toInt ∧ w.toInt ≤ 1) ∧ ((((3 : Int32).toInt < 0 ∨ 4 < (3 : Int32).toInt) ∧ (r_101 : Int32).toInt = -16) ∨ ((0 ≤ (3 : Int32).toInt ∧ (3 : Int32).toInt ≤ 4) ∧ ((w.toInt = 1 ∧ (r_101 : Int32).toInt = zLr kf af tf cn.toInt.toNat hu.toInt (fjc 0).toInt (fjc 1).toInt (fjc 2).toInt (3 : Int32).toInt.toNat de.toInt se.toInt) ∨ (w.toInt = 0 ∧ (r_101 : Int32).toInt = zLn kf af tf cn.toInt.toNat hu.toInt (fjc 0).toInt (fjc 1).toInt (fjc 2).toInt (3 : Int32).toInt.toNat de.toInt se.toInt))))) from by (have k3 : (3 : Int32).toInt = 3 := (by decide); refine Or.inr ⟨by omega, Or.inr ⟨by omega, Or.inr ⟨by omega, (by have z := hsr_101_1; rw [ewn, ewh, hsr_91_3 0 (by decide), hsr_91_3 1 (by decide), hsr_91_3 2 (by decide)] at z; rw [show (3 : Int32).toInt.toNat = 3 from by decide]; exact z)⟩⟩⟩)), trivial⟩, zRet ht hP hD [0, 1, 3, 6, 2, 7, 8, 9, 4, 5] (by decide) rfl⟩, hS.F ht⟩) hS.2.2 dX7_line_100
            · have fc_100 : w.toInt = 1 := zf_eq c_100 rfl (by decide)
              refine lv_aload_n hx hb dX7_line_55 rfl (lv_at hl 0 rfl) ?_
              refine va_get (D := D) (ci := 7) (v := .ref w0) (C := RX7) (T := TX7) (N := 9) hx hb hts hi_X7_line_7 hown hK hP 0 rfl rfl 3 (by decide) (hts (.fieldLink RX7 28 "TheLiningsInIt" "ways" "LTheLiningsInIt$Ways;") (List.mem_of_getElem? (i := 1) rfl)) (fun _ h9 => h9) rfl dX7_line_56 ?_
              refine lv_iload_n hx hb dX7_line_59 rfl (lv_at hl 1 rfl) ?_
              refine lv_aload_n hx hb dX7_line_60 rfl (lv_at hl 0 rfl) ?_
              refine va_get (D := D) (ci := 7) (v := .ref j0) (C := RX7) (T := TX7) (N := 9) hx hb hts hi_X7_line_7 hown hK hP 0 rfl rfl 1 (by decide) (hts (.fieldLink RX7 18 "TheLiningsInIt" "now" "LTheLiningsInIt$Jacket;") (List.mem_of_getElem? (i := 2) rfl)) (fun _ h9 => h9) rfl dX7_line_61 ?_
              refine va_get (D := D) (ci := 0) (v := .int de) (C := RX0) (T := TX0) (N := 9) hx hb hts hi_X7_line_0 hown hK hP 7 rfl rfl 4 (by decide) (hts (.fieldLink RX7 199 "TheLiningsInIt$Jacket" "depth" "I") (List.mem_of_getElem? (i := 4) rfl)) (fun _ h9 => h9) rfl dX7_line_64 ?_
              refine lv_aload_n hx hb dX7_line_67 rfl (lv_at hl 0 rfl) ?_
              refine va_get (D := D) (ci := 7) (v := .ref j0) (C := RX7) (T := TX7) (N := 9) hx hb hts hi_X7_line_7 hown hK hP 0 rfl rfl 1 (by decide) (hts (.fieldLink RX7 18 "TheLiningsInIt" "now" "LTheLiningsInIt$Jacket;") (List.mem_of_getElem? (i := 2) rfl)) (fun _ h9 => h9) rfl dX7_line_68 ?_
              refine va_get (D := D) (ci := 0) (v := .int se) (C := RX0) (T := TX0) (N := 9) hx hb hts hi_X7_line_0 hown hK hP 7 rfl rfl 6 (by decide) (hts (.fieldLink RX7 202 "TheLiningsInIt$Jacket" "seconds" "I") (List.mem_of_getElem? (i := 5) rfl)) (fun _ h9 => h9) rfl dX7_line_71 ?_
              skip
              refine zw_V (As := [.int 3, .int de, .int se]) (rest := []) (wr := [(x0, .inr (7, [.ref xs, .ref j0, .ref k0, .ref w0, .ref rd, .ref mv, .ref xr, .int im, .int lf])), (xr, .inl (cI, 8, .inl fr)), (wk, .inl (cI, 125, .inl q_96)), (j0, .inr (0, [.ref z0, .ref jp, .ref jc, .int cn, .int de, .int tr, .int se, .int hu, .int sd])), (jp, .inl (cP, 8, .inr (.inr (.inr (.inr fp))))), (jc, .inl (cI, 3, .inl fjc))]) ⟨hx, hb, hml, hown, hts⟩ (c_F_W_first_3 l D cI cJ cZ cP cS po w0 wk wl wc wp (q_93) (q_94) (q_95) q_99 kf af tf (1) q_97 q_98 (de) (se) hbq_93.1 hbq_93.2 hbq_94.1 hbq_94.2 hbq_95.1 hbq_95.2 hjw9 (by first | assumption | omega) (by first | assumption | omega) (by first | assumption | omega | decide) hy6 hy7 hy18 hy19 hpq_98 H.size) (cwV 3 hts gX7_line_X5_first rfl rfl rfl ⟨rfl, dh_X5_first⟩ ⟨Nat.le_of_ble_eq_true rfl, Nat.le_of_ble_eq_true rfl⟩) hK hN (hZ.kept hS) hP hD hS hA [2, 4, 5, 6] [0, 1, 3, 7, 8, 9] rfl rfl (by decide) (by decide) (by decide) (va_recv (q := (RX5, TX5, 7)) hK hP (ci := 5) (q0 := 2) rfl rfl) rfl hl.1 rfl (Nat.le_of_ble_eq_true rfl) dX7_line_74 ⟨Nat.le_of_ble_eq_true rfl, Nat.le_of_ble_eq_true rfl⟩ (fun r_106 u_107 H locs hr_106 hP hD hS => ?_)
              obtain ⟨q_108, rfl⟩ : ∃ z, z = u_107 := ⟨_, rfl⟩
              obtain ⟨hsr_106_0, hsr_106_1, hr_106⟩ := hr_106
              have h9R := zRe (ws' := [(x0, .inr (7, [.ref xs, .ref j0, .ref k0, .ref w0, .ref rd, .ref mv, .ref xr, .int im, .int lf])), (xr, .inl (cI, 8, .inl fr)), (wk, .inl (cI, 125, .inl q_96)), (j0, .inr (0, [.ref z0, .ref jp, .ref jc, .int cn, .int de, .int tr, .int se, .int hu, .int sd])), (jp, .inl (cP, 8, .inr (.inr (.inr (.inr fp))))), (jc, .inl (cI, 3, .inl fjc)), (w0, .inr (5, [.ref wk, .ref wl, .ref wc, .ref wp, .int q_93, .int q_94, .int q_95])), (wl, .inl (cI, 125, .inl q_108)), (wc, .inl (cI, 3, .inl q_98)), (wp, .inl (cP, 8, .inr (.inr (.inr (.inr q_99)))))]) hP hD rfl
              clear hP hD
              obtain ⟨hP, hD⟩ := h9R
              obtain ⟨g_109, g_110⟩ := hr_106
              exact W.iret (v := r_106) hx hb hr (fun t ht hW => ⟨⟨r_106, (q_93, q_94, q_95, q_96, q_108, q_98, q_99, fr), rfl, ⟨(show 0 ≤ q_93.toInt ∧ q_93.toInt ≤ 8 from hbq_93), (show 0 ≤ q_94.toInt ∧ q_94.toInt ≤ 9 from hbq_94), (show 0 ≤ q_95.toInt ∧ q_95.toInt ≤ 60 from hbq_95), hpq_98, hwq_99, (show ((w.toInt < 0 ∨ 1 < w.toInt) ∧ (r_106 : Int32).toInt = -15) ∨ ((0 ≤ w.toInt ∧ w.toInt ≤ 1) ∧ ((((3 : Int32).toInt < 0 ∨ 4 < (3 : Int32).toInt) ∧ (r_106 : Int32).toInt = -16) ∨ ((0 ≤ (3 : Int32).toInt ∧ (3 : Int32).toInt ≤ 4) ∧ ((w.toInt = 1 ∧ (r_106 : Int32).toInt = zLr kf af tf cn.toInt.toNat hu.toInt (fjc 0).toInt (fjc 1).toInt (fjc 2).toInt (3 : Int32).toInt.toNat de.toInt se.toInt) ∨ (w.toInt = 0 ∧ (r_106 : Int32).toInt = zLn kf af tf cn.toInt.toNat hu.toInt (fjc 0).toInt (fjc 1).toInt (fjc 2).toInt (3 : Int32).toInt.toNat de.toInt se.toInt))))) from by (have k3 : (3 : Int32).toInt = 3 := (by decide); refine Or.inr ⟨by omega, Or.inr ⟨by omega, Or.inl ⟨by omega, (by have z := hsr_106_1; rw [ewn, ewh, hsr_91_3 0 (by decide), hsr_91_3 1 (by decide), hsr_91_3 2 (by decide)] at z; unfold zLr; rw [show (3 : Int32).toInt.toNat = 3 from by decide, show (3 : Nat) - 1 = 2 from by decide]; rw [z]; by_cases c : de.toInt = 0; (rw [if_pos c, if_pos c]); (rw [if_neg c, if_neg c]; split; (rename_i c2; rw [if_pos (Or.inr c2)]); (rename_i c2; rw [if_neg (fun q => q.elim (by decide) c2)])))⟩⟩⟩)), trivial⟩, zRet ht hP hD [0, 1, 3, 6, 2, 7, 8, 9, 4, 5] (by decide) rfl⟩, hS.F ht⟩) hS.2.2 dX7_line_77
          · refine lv_aload_n hx hb dX7_line_31 rfl (lv_at hl 0 rfl) ?_
            refine va_get (D := D) (ci := 7) (v := .ref w0) (C := RX7) (T := TX7) (N := 9) hx hb hts hi_X7_line_7 hown hK hP 0 rfl rfl 3 (by decide) (hts (.fieldLink RX7 28 "TheLiningsInIt" "ways" "LTheLiningsInIt$Ways;") (List.mem_of_getElem? (i := 1) rfl)) (fun _ h9 => h9) rfl dX7_line_32 ?_
            refine lv_aload_n hx hb dX7_line_35 rfl (lv_at hl 0 rfl) ?_
            refine va_get (D := D) (ci := 7) (v := .ref j0) (C := RX7) (T := TX7) (N := 9) hx hb hts hi_X7_line_7 hown hK hP 0 rfl rfl 1 (by decide) (hts (.fieldLink RX7 18 "TheLiningsInIt" "now" "LTheLiningsInIt$Jacket;") (List.mem_of_getElem? (i := 2) rfl)) (fun _ h9 => h9) rfl dX7_line_36 ?_
            refine lv_aload_n hx hb dX7_line_39 rfl (lv_at hl 0 rfl) ?_
            refine va_get (D := D) (ci := 7) (v := .ref j0) (C := RX7) (T := TX7) (N := 9) hx hb hts hi_X7_line_7 hown hK hP 0 rfl rfl 1 (by decide) (hts (.fieldLink RX7 18 "TheLiningsInIt" "now" "LTheLiningsInIt$Jacket;") (List.mem_of_getElem? (i := 2) rfl)) (fun _ h9 => h9) rfl dX7_line_40 ?_
            refine va_get (D := D) (ci := 0) (v := .int hu) (C := RX0) (T := TX0) (N := 9) hx hb hts hi_X7_line_0 hown hK hP 2 rfl rfl 7 (by decide) (hts (.fieldLink RX7 116 "TheLiningsInIt$Jacket" "hurry" "I") (List.mem_of_getElem? (i := 3) rfl)) (fun _ h9 => h9) rfl dX7_line_43 ?_
            refine lv_iconst (v := 1) hx hb dX7_line_46 (by decide) ?_
            skip
            refine zw_Vv (As := [.ref j0, .int hu, .int 1]) (rest := []) (wr := [(x0, .inr (7, [.ref xs, .ref j0, .ref k0, .ref w0, .ref rd, .ref mv, .ref xr, .int im, .int lf])), (xr, .inl (cI, 8, .inl fr))]) ⟨hx, hb, hml, hown, hts⟩ (c_F_W_look l D cI cJ cZ cP cS po w0 wk wl wc wp (wn) (wh) (wg) j0 jp jc z0 0 0 (cn) (de) (tr) (se) (hu) (sd) fp fq kf af tf fk fl fc fjc (hu) (1) hy10 hy11 hy12 hy13 hy14 hy15 hy4 hy5 hy6 hy7 hy8 hy9 hy8 hy9 hwq hjp hp_fc hp_fjc H.size) (cwV 3 hts gX7_line_X5_look rfl rfl rfl ⟨rfl, dh_X5_look⟩ ⟨Nat.le_of_ble_eq_true rfl, Nat.le_of_ble_eq_true rfl⟩) hK hN (hZ.kept hS) hP hD hS hA [3, 4, 5, 6, 7, 2, 8, 9] [0, 1] rfl rfl (by decide) (by decide) (by decide) (va_recv (q := (RX5, TX5, 7)) hK hP (ci := 5) (q0 := 3) rfl rfl) rfl hl.1 rfl (Nat.le_of_ble_eq_true rfl) dX7_line_47 ⟨Nat.le_of_ble_eq_true rfl, Nat.le_of_ble_eq_true rfl⟩ (fun u_112 H locs hr_111 hP hD hS => ?_)
            obtain ⟨q_113, q_114, q_115, q_116, q_117, q_118, q_119⟩ := u_112
            try dsimp only at hr_111
            obtain ⟨hbq_113, hbq_114, hbq_115, hpq_118, hwq_119, hsr_111_0, hsr_111_1, hsr_111_2, hsr_111_3, hsr_111_4, hsr_111_5, hr_111⟩ := hr_111
            have h9R := zRe (ws' := [(x0, .inr (7, [.ref xs, .ref j0, .ref k0, .ref w0, .ref rd, .ref mv, .ref xr, .int im, .int lf])), (xr, .inl (cI, 8, .inl fr)), (w0, .inr (5, [.ref wk, .ref wl, .ref wc, .ref wp, .int q_113, .int q_114, .int q_115])), (wk, .inl (cI, 125, .inl q_116)), (wl, .inl (cI, 125, .inl q_117)), (wc, .inl (cI, 3, .inl q_118)), (wp, .inl (cP, 8, .inr (.inr (.inr (.inr q_119))))), (j0, .inr (0, [.ref z0, .ref jp, .ref jc, .int cn, .int de, .int tr, .int se, .int hu, .int sd])), (jp, .inl (cP, 8, .inr (.inr (.inr (.inr fp))))), (jc, .inl (cI, 3, .inl fjc))]) hP hD rfl
            clear hP hD
            obtain ⟨hP, hD⟩ := h9R
            obtain ⟨ewn, ewh⟩ := hsr_111_2
            have ewn9 := congrArg Int32.toInt ewn
            have ewh9 := congrArg Int32.toInt ewh
            have hjw9 : zJW po q_119 q_113 kf af tf (1 : Int32) := by (intro j hj; exact hsr_111_0 j (by rw [← ewn]; exact hj))
            have hkm9 : zKm kf af tf q_113.toInt.toNat q_114.toInt (1 : Int32).toInt q_115.toInt q_116 := zKm_0 hsr_111_4
            have hgl9 : ∀ p : Nat, p < q_113.toInt.toNat → ((1 : Int32).toInt ≠ 0 ∨ (kf p).toInt ≠ 5) → (tf p).toInt ≤ q_115.toInt := fun p hp hl => hsr_111_1 p (by rw [ewn] at hp; omega) hl
            have hkn9 : zKn kf af tf q_113.toInt.toNat q_114.toInt (q_118 0).toInt (q_118 1).toInt (q_118 2).toInt q_115.toInt q_117 := zKn_0 hsr_111_5
            have hgk9 : ∀ p : Nat, p < q_113.toInt.toNat → (tf p).toInt ≤ q_115.toInt := fun p hp => hgl9 p hp (Or.inl (by decide))
            refine lv_iload_n hx hb dX7_line_50 rfl (lv_at hl 2 rfl) ?_
            refine lv_iconst (v := 1) hx hb dX7_line_51 (by decide) ?_
            refine lv_icmp_ne (tgt := 78) hx hb dX7_line_52 (by decide) (fun c_120 => ?_) (fun c_120 => ?_)
            · have fc_120 : w.toInt ≠ 1 := zf_ne c_120 rfl (by decide)
              refine lv_aload_n hx hb dX7_line_78 rfl (lv_at hl 0 rfl) ?_
              refine va_get (D := D) (ci := 7) (v := .ref w0) (C := RX7) (T := TX7) (N := 9) hx hb hts hi_X7_line_7 hown hK hP 0 rfl rfl 3 (by decide) (hts (.fieldLink RX7 28 "TheLiningsInIt" "ways" "LTheLiningsInIt$Ways;") (List.mem_of_getElem? (i := 1) rfl)) (fun _ h9 => h9) rfl dX7_line_79 ?_
              refine lv_iload_n hx hb dX7_line_82 rfl (lv_at hl 1 rfl) ?_
              refine lv_aload_n hx hb dX7_line_83 rfl (lv_at hl 0 rfl) ?_
              refine va_get (D := D) (ci := 7) (v := .ref j0) (C := RX7) (T := TX7) (N := 9) hx hb hts hi_X7_line_7 hown hK hP 0 rfl rfl 1 (by decide) (hts (.fieldLink RX7 18 "TheLiningsInIt" "now" "LTheLiningsInIt$Jacket;") (List.mem_of_getElem? (i := 2) rfl)) (fun _ h9 => h9) rfl dX7_line_84 ?_
              refine va_get (D := D) (ci := 0) (v := .int de) (C := RX0) (T := TX0) (N := 9) hx hb hts hi_X7_line_0 hown hK hP 7 rfl rfl 4 (by decide) (hts (.fieldLink RX7 199 "TheLiningsInIt$Jacket" "depth" "I") (List.mem_of_getElem? (i := 4) rfl)) (fun _ h9 => h9) rfl dX7_line_87 ?_
              refine lv_aload_n hx hb dX7_line_90 rfl (lv_at hl 0 rfl) ?_
              refine va_get (D := D) (ci := 7) (v := .ref j0) (C := RX7) (T := TX7) (N := 9) hx hb hts hi_X7_line_7 hown hK hP 0 rfl rfl 1 (by decide) (hts (.fieldLink RX7 18 "TheLiningsInIt" "now" "LTheLiningsInIt$Jacket;") (List.mem_of_getElem? (i := 2) rfl)) (fun _ h9 => h9) rfl dX7_line_91 ?_
              refine va_get (D := D) (ci := 0) (v := .int se) (C := RX0) (T := TX0) (N := 9) hx hb hts hi_X7_line_0 hown hK hP 7 rfl rfl 6 (by decide) (hts (.fieldLink RX7 202 "TheLiningsInIt$Jacket" "seconds" "I") (List.mem_of_getElem? (i := 5) rfl)) (fun _ h9 => h9) rfl dX7_line_94 ?_
              skip
              refine zw_VN (As := [.int 4, .int de, .int se]) (rest := []) (wr := [(x0, .inr (7, [.ref xs, .ref j0, .ref k0, .ref w0, .ref rd, .ref mv, .ref xr, .int im, .int lf])), (xr, .inl (cI, 8, .inl fr)), (wk, .inl (cI, 125, .inl q_116)), (j0, .inr (0, [.ref z0, .ref jp, .ref jc, .int cn, .int de, .int tr, .int se, .int hu, .int sd])), (jp, .inl (cP, 8, .inr (.inr (.inr (.inr fp))))), (jc, .inl (cI, 3, .inl fjc))]) ⟨hx, hb, hml, hown, hts⟩ (c_F_W_least_4 l D cI cJ cZ cP cS po w0 wk wl wc wp (q_113) (q_114) (q_115) q_119 kf af tf (1) q_117 q_118 (de) (se) hbq_113.1 hbq_113.2 hbq_114.1 hbq_114.2 hbq_115.1 hbq_115.2 hjw9 (by first | assumption | omega) (by first | assumption | omega) (by first | assumption | omega | decide) hy6 hy7 hy18 hy19 hpq_118 H.size) ⟨(va_cnB 3 hts gX7_line_X5_least_n214 rfl rfl rfl (hN.1 (RX7, 214, yX5_least) (List.mem_of_getElem? (i := 11) rfl)) (hts _ (List.mem_of_getElem? (i := 22) rfl)) dh_X5_least ⟨Nat.le_of_ble_eq_true rfl, Nat.le_of_ble_eq_true rfl⟩), (hts _ (List.mem_of_getElem? (i := 59) rfl)), (hts _ (List.mem_of_getElem? (i := 60) rfl))⟩ hK hN (hZ.kept hS) hP hD hS hA [2, 4, 5, 6] [0, 1, 3, 7, 8, 9] rfl rfl (by decide) (by decide) (by decide) (va_recv (q := (RX5, TX5, 7)) hK hP (ci := 5) (q0 := 2) rfl rfl) rfl hl.1 rfl (Nat.le_of_ble_eq_true rfl) dX7_line_97 ⟨Nat.le_of_ble_eq_true rfl, Nat.le_of_ble_eq_true rfl⟩ (fun r_121 u_122 H locs hr_121 hP hD hS => ?_)
              obtain ⟨q_123, rfl⟩ : ∃ z, z = u_122 := ⟨_, rfl⟩
              obtain ⟨hsr_121_0, hsr_121_1, hr_121⟩ := hr_121
              have h9R := zRe (ws' := [(x0, .inr (7, [.ref xs, .ref j0, .ref k0, .ref w0, .ref rd, .ref mv, .ref xr, .int im, .int lf])), (xr, .inl (cI, 8, .inl fr)), (wk, .inl (cI, 125, .inl q_116)), (j0, .inr (0, [.ref z0, .ref jp, .ref jc, .int cn, .int de, .int tr, .int se, .int hu, .int sd])), (jp, .inl (cP, 8, .inr (.inr (.inr (.inr fp))))), (jc, .inl (cI, 3, .inl fjc)), (w0, .inr (5, [.ref wk, .ref wl, .ref wc, .ref wp, .int q_113, .int q_114, .int q_115])), (wl, .inl (cI, 125, .inl q_123)), (wc, .inl (cI, 3, .inl q_118)), (wp, .inl (cP, 8, .inr (.inr (.inr (.inr q_119)))))]) hP hD rfl
              clear hP hD
              obtain ⟨hP, hD⟩ := h9R
              obtain ⟨g_124, g_125⟩ := hr_121
              exact W.iret (v := r_121) hx hb hr (fun t ht hW => ⟨⟨r_121, (q_113, q_114, q_115, q_116, q_123, q_118, q_119, fr), rfl, ⟨(show 0 ≤ q_113.toInt ∧ q_113.toInt ≤ 8 from hbq_113), (show 0 ≤ q_114.toInt ∧ q_114.toInt ≤ 9 from hbq_114), (show 0 ≤ q_115.toInt ∧ q_115.toInt ≤ 60 from hbq_115), hpq_118, hwq_119, (show ((w.toInt < 0 ∨ 1 < w.toInt) ∧ (r_121 : Int32).toInt = -15) ∨ ((0 ≤ w.toInt ∧ w.toInt ≤ 1) ∧ ((((4 : Int32).toInt < 0 ∨ 4 < (4 : Int32).toInt) ∧ (r_121 : Int32).toInt = -16) ∨ ((0 ≤ (4 : Int32).toInt ∧ (4 : Int32).toInt ≤ 4) ∧ ((w.toInt = 1 ∧ (r_121 : Int32).toInt = zLr kf af tf cn.toInt.toNat hu.toInt (fjc 0).toInt (fjc 1).toInt (fjc 2).toInt (4 : Int32).toInt.toNat de.toInt se.toInt) ∨ (w.toInt = 0 ∧ (r_121 : Int32).toInt = zLn kf af tf cn.toInt.toNat hu.toInt (fjc 0).toInt (fjc 1).toInt (fjc 2).toInt (4 : Int32).toInt.toNat de.toInt se.toInt))))) from by (have k4 : (4 : Int32).toInt = 4 := (by decide); refine Or.inr ⟨by omega, Or.inr ⟨by omega, Or.inr ⟨by omega, (by have z := hsr_121_1; rw [ewn, ewh, hsr_111_3 0 (by decide), hsr_111_3 1 (by decide), hsr_111_3 2 (by decide)] at z; rw [show (4 : Int32).toInt.toNat = 4 from by decide]; exact z)⟩⟩⟩)), trivial⟩, zRet ht hP hD [0, 1, 3, 6, 2, 7, 8, 9, 4, 5] (by decide) rfl⟩, hS.F ht⟩) hS.2.2 dX7_line_100
            · have fc_120 : w.toInt = 1 := zf_eq c_120 rfl (by decide)
              refine lv_aload_n hx hb dX7_line_55 rfl (lv_at hl 0 rfl) ?_
              refine va_get (D := D) (ci := 7) (v := .ref w0) (C := RX7) (T := TX7) (N := 9) hx hb hts hi_X7_line_7 hown hK hP 0 rfl rfl 3 (by decide) (hts (.fieldLink RX7 28 "TheLiningsInIt" "ways" "LTheLiningsInIt$Ways;") (List.mem_of_getElem? (i := 1) rfl)) (fun _ h9 => h9) rfl dX7_line_56 ?_
              refine lv_iload_n hx hb dX7_line_59 rfl (lv_at hl 1 rfl) ?_
              refine lv_aload_n hx hb dX7_line_60 rfl (lv_at hl 0 rfl) ?_
              refine va_get (D := D) (ci := 7) (v := .ref j0) (C := RX7) (T := TX7) (N := 9) hx hb hts hi_X7_line_7 hown hK hP 0 rfl rfl 1 (by decide) (hts (.fieldLink RX7 18 "TheLiningsInIt" "now" "LTheLiningsInIt$Jacket;") (List.mem_of_getElem? (i := 2) rfl)) (fun _ h9 => h9) rfl dX7_line_61 ?_
              refine va_get (D := D) (ci := 0) (v := .int de) (C := RX0) (T := TX0) (N := 9) hx hb hts hi_X7_line_0 hown hK hP 7 rfl rfl 4 (by decide) (hts (.fieldLink RX7 199 "TheLiningsInIt$Jacket" "depth" "I") (List.mem_of_getElem? (i := 4) rfl)) (fun _ h9 => h9) rfl dX7_line_64 ?_
              refine lv_aload_n hx hb dX7_line_67 rfl (lv_at hl 0 rfl) ?_
              refine va_get (D := D) (ci := 7) (v := .ref j0) (C := RX7) (T := TX7) (N := 9) hx hb hts hi_X7_line_7 hown hK hP 0 rfl rfl 1 (by decide) (hts (.fieldLink RX7 18 "TheLiningsInIt" "now" "LTheLiningsInIt$Jacket;") (List.mem_of_getElem? (i := 2) rfl)) (fun _ h9 => h9) rfl dX7_line_68 ?_
              refine va_get (D := D) (ci := 0) (v := .int se) (C := RX0) (T := TX0) (N := 9) hx hb hts hi_X7_line_0 hown hK hP 7 rfl rfl 6 (by decide) (hts (.fieldLink RX7 202 "TheLiningsInIt$Jacket" "seconds" "I") (List.mem_of_getElem? (i := 5) rfl)) (fun _ h9 => h9) rfl dX7_line_71 ?_
              skip
              refine zw_V (As := [.int 4, .int de, .int se]) (rest := []) (wr := [(x0, .inr (7, [.ref xs, .ref j0, .ref k0, .ref w0, .ref rd, .ref mv, .ref xr, .int im, .int lf])), (xr, .inl (cI, 8, .inl fr)), (wk, .inl (cI, 125, .inl q_116)), (j0, .inr (0, [.ref z0, .ref jp, .ref jc, .int cn, .int de, .int tr, .int se, .int hu, .int sd])), (jp, .inl (cP, 8, .inr (.inr (.inr (.inr fp))))), (jc, .inl (cI, 3, .inl fjc))]) ⟨hx, hb, hml, hown, hts⟩ (c_F_W_first_4 l D cI cJ cZ cP cS po w0 wk wl wc wp (q_113) (q_114) (q_115) q_119 kf af tf (1) q_117 q_118 (de) (se) hbq_113.1 hbq_113.2 hbq_114.1 hbq_114.2 hbq_115.1 hbq_115.2 hjw9 (by first | assumption | omega) (by first | assumption | omega) (by first | assumption | omega | decide) hy6 hy7 hy18 hy19 hpq_118 H.size) (cwV 3 hts gX7_line_X5_first rfl rfl rfl ⟨rfl, dh_X5_first⟩ ⟨Nat.le_of_ble_eq_true rfl, Nat.le_of_ble_eq_true rfl⟩) hK hN (hZ.kept hS) hP hD hS hA [2, 4, 5, 6] [0, 1, 3, 7, 8, 9] rfl rfl (by decide) (by decide) (by decide) (va_recv (q := (RX5, TX5, 7)) hK hP (ci := 5) (q0 := 2) rfl rfl) rfl hl.1 rfl (Nat.le_of_ble_eq_true rfl) dX7_line_74 ⟨Nat.le_of_ble_eq_true rfl, Nat.le_of_ble_eq_true rfl⟩ (fun r_126 u_127 H locs hr_126 hP hD hS => ?_)
              obtain ⟨q_128, rfl⟩ : ∃ z, z = u_127 := ⟨_, rfl⟩
              obtain ⟨hsr_126_0, hsr_126_1, hr_126⟩ := hr_126
              have h9R := zRe (ws' := [(x0, .inr (7, [.ref xs, .ref j0, .ref k0, .ref w0, .ref rd, .ref mv, .ref xr, .int im, .int lf])), (xr, .inl (cI, 8, .inl fr)), (wk, .inl (cI, 125, .inl q_116)), (j0, .inr (0, [.ref z0, .ref jp, .ref jc, .int cn, .int de, .int tr, .int se, .int hu, .int sd])), (jp, .inl (cP, 8, .inr (.inr (.inr (.inr fp))))), (jc, .inl (cI, 3, .inl fjc)), (w0, .inr (5, [.ref wk, .ref wl, .ref wc, .ref wp, .int q_113, .int q_114, .int q_115])), (wl, .inl (cI, 125, .inl q_128)), (wc, .inl (cI, 3, .inl q_118)), (wp, .inl (cP, 8, .inr (.inr (.inr (.inr q_119)))))]) hP hD rfl
              clear hP hD
              obtain ⟨hP, hD⟩ := h9R
              obtain ⟨g_129, g_130⟩ := hr_126
              exact W.iret (v := r_126) hx hb hr (fun t ht hW => ⟨⟨r_126, (q_113, q_114, q_115, q_116, q_128, q_118, q_119, fr), rfl, ⟨(show 0 ≤ q_113.toInt ∧ q_113.toInt ≤ 8 from hbq_113), (show 0 ≤ q_114.toInt ∧ q_114.toInt ≤ 9 from hbq_114), (show 0 ≤ q_115.toInt ∧ q_115.toInt ≤ 60 from hbq_115), hpq_118, hwq_119, (show ((w.toInt < 0 ∨ 1 < w.toInt) ∧ (r_126 : Int32).toInt = -15) ∨ ((0 ≤ w.toInt ∧ w.toInt ≤ 1) ∧ ((((4 : Int32).toInt < 0 ∨ 4 < (4 : Int32).toInt) ∧ (r_126 : Int32).toInt = -16) ∨ ((0 ≤ (4 : Int32).toInt ∧ (4 : Int32).toInt ≤ 4) ∧ ((w.toInt = 1 ∧ (r_126 : Int32).toInt = zLr kf af tf cn.toInt.toNat hu.toInt (fjc 0).toInt (fjc 1).toInt (fjc 2).toInt (4 : Int32).toInt.toNat de.toInt se.toInt) ∨ (w.toInt = 0 ∧ (r_126 : Int32).toInt = zLn kf af tf cn.toInt.toNat hu.toInt (fjc 0).toInt (fjc 1).toInt (fjc 2).toInt (4 : Int32).toInt.toNat de.toInt se.toInt))))) from by (have k4 : (4 : Int32).toInt = 4 := (by decide); refine Or.inr ⟨by omega, Or.inr ⟨by omega, Or.inl ⟨by omega, (by have z := hsr_126_1; rw [ewn, ewh, hsr_111_3 0 (by decide), hsr_111_3 1 (by decide), hsr_111_3 2 (by decide)] at z; unfold zLr; rw [show (4 : Int32).toInt.toNat = 4 from by decide, show (4 : Nat) - 1 = 3 from by decide]; rw [z]; by_cases c : de.toInt = 0; (rw [if_pos c, if_pos c]); (rw [if_neg c, if_neg c]; split; (rename_i c2; rw [if_pos (Or.inr c2)]); (rename_i c2; rw [if_neg (fun q => q.elim (by decide) c2)])))⟩⟩⟩)), trivial⟩, zRet ht hP hD [0, 1, 3, 6, 2, 7, 8, 9, 4, 5] (by decide) rfl⟩, hS.F ht⟩) hS.2.2 dX7_line_77
        · exact absurd c_30 (by decide)
    · exact absurd c_15 (by decide)
set_option maxHeartbeats 4000000 in
set_option maxRecDepth 100000 in
theorem c_F_X_casesBy_0 (l : Launch) (D : va_G) (cI cJ cZ cP cS : ClassId) (po : zPool) (x0 xs j0 k0 w0 rd mv xr : Nat) (im lf : Int32) (fr : Nat → Int32) (j0 jp jc z0 zl zs : Nat) (cn de tr se hu sd : Int32) (wk wl wc wp : Nat) (wn wh wg : Int32) (fq : Nat → Option Nat) (fk fl fc fjc : Nat → Int32) (fp : Nat → Option Nat) (kf af tf : Nat → Int32) (h : Int32) (hy0 : 0 ≤ im.toInt) (hy1 : im.toInt ≤ 1) (hy2 : (-1) ≤ lf.toInt) (hy3 : lf.toInt ≤ 160) (hy4 : 0 ≤ cn.toInt) (hy5 : cn.toInt ≤ 8) (hy6 : 0 ≤ de.toInt) (hy7 : de.toInt ≤ 24) (hy8 : 0 ≤ hu.toInt) (hy9 : hu.toInt ≤ 9) (hy10 : 0 ≤ wn.toInt) (hy11 : wn.toInt ≤ 8) (hy12 : 0 ≤ wh.toInt) (hy13 : wh.toInt ≤ 9) (hy14 : 0 ≤ wg.toInt) (hy15 : wg.toInt ≤ 60) (hwq : zWP po fq) (hjp : zJP po fp cn kf af tf) (hy18 : 0 ≤ se.toInt) (hy19 : se.toInt ≤ 300) (hy20 : 0 ≤ h.toInt) (hy21 : h.toInt ≤ 9) (hp_fc : zRg fc (0) 99) (hp_fjc : zRg fjc (0) 99) (hpz : Nat) : Met l yX7_casesBy wsX7_casesBy ({ frames := 3, cells := 0, slots := 0, locals := 126 }) (va_Pc [.ref x0, .int h, .int 0] (zW D (zKT cI cJ cZ cP cS) po [(x0, .inr (7, [.ref xs, .ref j0, .ref k0, .ref w0, .ref rd, .ref mv, .ref xr, .int im, .int lf])), (j0, .inr (0, [.ref z0, .ref jp, .ref jc, .int cn, .int de, .int tr, .int se, .int hu, .int sd])), (w0, .inr (5, [.ref wk, .ref wl, .ref wc, .ref wp, .int wn, .int wh, .int wg])), (wk, .inl (cI, 125, .inl fk)), (wl, .inl (cI, 125, .inl fl)), (wc, .inl (cI, 3, .inl fc)), (wp, .inl (cP, 8, .inr (.inr (.inr (.inr fq))))), (jp, .inl (cP, 8, .inr (.inr (.inr (.inr fp))))), (jc, .inl (cI, 3, .inl fjc))] hpz)) (va_Qi (fun (r : Int32) (u : (Int32) × (Int32) × (Int32) × (Nat → Int32) × (Nat → Int32) × (Nat → Int32) × (Nat → Option Nat)) => (0 ≤ u.1.toInt ∧ u.1.toInt ≤ 8) ∧ (0 ≤ u.2.1.toInt ∧ u.2.1.toInt ≤ 9) ∧ (0 ≤ u.2.2.1.toInt ∧ u.2.2.1.toInt ≤ 60) ∧ zRg u.2.2.2.2.2.1 (0) 99 ∧ zWP po u.2.2.2.2.2.2 ∧ (r.toInt = zM kf af tf cn.toInt.toNat h.toInt 1 0 de.toInt se.toInt) ∧ (0 ≤ r.toInt ∧ r.toInt ≤ 1)) (zB D [(x0, .inr (7, [.ref xs, .ref j0, .ref k0, .ref w0, .ref rd, .ref mv, .ref xr, .int im, .int lf])), (j0, .inr (0, [.ref z0, .ref jp, .ref jc, .int cn, .int de, .int tr, .int se, .int hu, .int sd])), (w0, .inr (5, [.ref wk, .ref wl, .ref wc, .ref wp, .int wn, .int wh, .int wg])), (wk, .inl (cI, 125, .inl fk)), (wl, .inl (cI, 125, .inl fl)), (wc, .inl (cI, 3, .inl fc)), (wp, .inl (cP, 8, .inr (.inr (.inr (.inr fq))))), (jp, .inl (cP, 8, .inr (.inr (.inr (.inr fp))))), (jc, .inl (cI, 3, .inl fjc))] hpz (fun (u : (Int32) × (Int32) × (Int32) × (Nat → Int32) × (Nat → Int32) × (Nat → Int32) × (Nat → Option Nat)) => [(x0, .inr (7, [.ref xs, .ref j0, .ref k0, .ref w0, .ref rd, .ref mv, .ref xr, .int im, .int lf])), (j0, .inr (0, [.ref z0, .ref jp, .ref jc, .int cn, .int de, .int tr, .int se, .int hu, .int sd])), (w0, .inr (5, [.ref wk, .ref wl, .ref wc, .ref wp, .int u.1, .int u.2.1, .int u.2.2.1])), (wk, .inl (cI, 125, .inl u.2.2.2.1)), (wl, .inl (cI, 125, .inl u.2.2.2.2.1)), (wc, .inl (cI, 3, .inl u.2.2.2.2.2.1)), (wp, .inl (cP, 8, .inr (.inr (.inr (.inr u.2.2.2.2.2.2))))), (jp, .inl (cP, 8, .inr (.inr (.inr (.inr fp))))), (jc, .inl (cI, 3, .inl fjc))])) (va_A [(x0, .inr (7, [.ref xs, .ref j0, .ref k0, .ref w0, .ref rd, .ref mv, .ref xr, .int im, .int lf])), (j0, .inr (0, [.ref z0, .ref jp, .ref jc, .int cn, .int de, .int tr, .int se, .int hu, .int sd])), (w0, .inr (5, [.ref wk, .ref wl, .ref wc, .ref wp, .int wn, .int wh, .int wg])), (wk, .inl (cI, 125, .inl fk)), (wl, .inl (cI, 125, .inl fl)), (wc, .inl (cI, 3, .inl fc)), (wp, .inl (cP, 8, .inr (.inr (.inr (.inr fq))))), (jp, .inl (cP, 8, .inr (.inr (.inr (.inr fp))))), (jc, .inl (cI, 3, .inl fjc))] hpz)) 0 0 (va_A [(x0, .inr (7, [.ref xs, .ref j0, .ref k0, .ref w0, .ref rd, .ref mv, .ref xr, .int im, .int lf])), (j0, .inr (0, [.ref z0, .ref jp, .ref jc, .int cn, .int de, .int tr, .int se, .int hu, .int sd])), (w0, .inr (5, [.ref wk, .ref wl, .ref wc, .ref wp, .int wn, .int wh, .int wg])), (wk, .inl (cI, 125, .inl fk)), (wl, .inl (cI, 125, .inl fl)), (wc, .inl (cI, 3, .inl fc)), (wp, .inl (cP, 8, .inr (.inr (.inr (.inr fq))))), (jp, .inl (cP, 8, .inr (.inr (.inr (.inr fp))))), (jc, .inl (cI, 3, .inl fjc))] hpz) := by
  refine Met.ofW (cc := cX7_casesBy) (maxL := 3) (ret := (some .int)) (by decide) rfl ?_
  intro p e s m args below meth c s₁ B hml hv
  obtain ⟨rfl, hsz, hP, hK, hD0, hN, hZ⟩ := hv
  have hx := B.exec
  have hb := B.bytes
  have hr := B.returns
  have hts := atoms_spec (ws := wsX7_casesBy) B.pre
  have hown : s.vm.findClass RX7 = some m.cls := findClass_of_methodNamed B.named
  have hlocks := B.notSynchronized
  subst hsz
  have hD := hD0.self (sz := s.heap.size)
  have hA := zA_of hD
  have hl := lv_entry ([.ref x0, .int h, .int 0]) (n := 3) (Nat.le_of_ble_eq_true rfl)
  rw [lg_entry_eq]
  generalize (lg_sl ([.ref x0, .int h, .int 0]) ++ List.replicate (3 - (lg_sl ([.ref x0, .int h, .int 0])).length) Slot.unset).toArray = ls at hl ⊢
  replace hl : lv_has ls 3 [(0, .ref x0), (1, .int h), (2, .int 0)] := hl
  refine zw_begin hP hD (fun H locs hP1 hS => ?_)
  clear hP
  have hP := hP1
  clear hP1
  refine lv_aload_n hx hb dX7_casesBy_0 rfl (lv_at hl 0 rfl) ?_
  refine va_get (D := D) (ci := 7) (v := .ref w0) (C := RX7) (T := TX7) (N := 9) hx hb hts hi_X7_casesBy_7 hown hK hP 0 rfl rfl 3 (by decide) (hts (.fieldLink RX7 28 "TheLiningsInIt" "ways" "LTheLiningsInIt$Ways;") (List.mem_of_getElem? (i := 1) rfl)) (fun _ h9 => h9) rfl dX7_casesBy_1 ?_
  refine lv_aload_n hx hb dX7_casesBy_4 rfl (lv_at hl 0 rfl) ?_
  refine va_get (D := D) (ci := 7) (v := .ref j0) (C := RX7) (T := TX7) (N := 9) hx hb hts hi_X7_casesBy_7 hown hK hP 0 rfl rfl 1 (by decide) (hts (.fieldLink RX7 18 "TheLiningsInIt" "now" "LTheLiningsInIt$Jacket;") (List.mem_of_getElem? (i := 2) rfl)) (fun _ h9 => h9) rfl dX7_casesBy_5 ?_
  refine lv_iload_n hx hb dX7_casesBy_8 rfl (lv_at hl 1 rfl) ?_
  refine lv_iconst (v := 1) hx hb dX7_casesBy_9 (by decide) ?_
  have kc1 : (1 : Int32).toInt = 1 := by decide
  skip
  refine zw_Vv (As := [.ref j0, .int h, .int 1]) (rest := []) (wr := [(x0, .inr (7, [.ref xs, .ref j0, .ref k0, .ref w0, .ref rd, .ref mv, .ref xr, .int im, .int lf]))]) ⟨hx, hb, hml, hown, hts⟩ (c_F_W_look l D cI cJ cZ cP cS po w0 wk wl wc wp (wn) (wh) (wg) j0 jp jc z0 0 0 (cn) (de) (tr) (se) (hu) (sd) fp fq kf af tf fk fl fc fjc (h) (1) hy10 hy11 hy12 hy13 hy14 hy15 hy4 hy5 hy6 hy7 hy8 hy9 hy20 hy21 hwq hjp hp_fc hp_fjc H.size) (cwV 3 hts gX7_casesBy_X5_look rfl rfl rfl ⟨rfl, dh_X5_look⟩ ⟨Nat.le_of_ble_eq_true rfl, Nat.le_of_ble_eq_true rfl⟩) hK hN (hZ.kept hS) hP hD hS hA [2, 3, 4, 5, 6, 1, 7, 8] [0] rfl rfl (by decide) (by decide) (by decide) (va_recv (q := (RX5, TX5, 7)) hK hP (ci := 5) (q0 := 2) rfl rfl) rfl hl.1 rfl (Nat.le_of_ble_eq_true rfl) dX7_casesBy_10 ⟨Nat.le_of_ble_eq_true rfl, Nat.le_of_ble_eq_true rfl⟩ (fun u_2 H locs hr_1 hP hD hS => ?_)
  obtain ⟨q_3, q_4, q_5, q_6, q_7, q_8, q_9⟩ := u_2
  try dsimp only at hr_1
  obtain ⟨hbq_3, hbq_4, hbq_5, hpq_8, hwq_9, hsr_1_0, hsr_1_1, hsr_1_2, hsr_1_3, hsr_1_4, hsr_1_5, hr_1⟩ := hr_1
  have h9R := zRe (ws' := [(x0, .inr (7, [.ref xs, .ref j0, .ref k0, .ref w0, .ref rd, .ref mv, .ref xr, .int im, .int lf])), (w0, .inr (5, [.ref wk, .ref wl, .ref wc, .ref wp, .int q_3, .int q_4, .int q_5])), (wk, .inl (cI, 125, .inl q_6)), (wl, .inl (cI, 125, .inl q_7)), (wc, .inl (cI, 3, .inl q_8)), (wp, .inl (cP, 8, .inr (.inr (.inr (.inr q_9))))), (j0, .inr (0, [.ref z0, .ref jp, .ref jc, .int cn, .int de, .int tr, .int se, .int hu, .int sd])), (jp, .inl (cP, 8, .inr (.inr (.inr (.inr fp))))), (jc, .inl (cI, 3, .inl fjc))]) hP hD rfl
  clear hP hD
  obtain ⟨hP, hD⟩ := h9R
  obtain ⟨ewn, ewh⟩ := hsr_1_2
  have ewn9 := congrArg Int32.toInt ewn
  have ewh9 := congrArg Int32.toInt ewh
  have hjw9 : zJW po q_9 q_3 kf af tf (1 : Int32) := by (intro j hj; exact hsr_1_0 j (by rw [← ewn]; exact hj))
  have hkm9 : zKm kf af tf q_3.toInt.toNat q_4.toInt (1 : Int32).toInt q_5.toInt q_6 := zKm_0 hsr_1_4
  have hgl9 : ∀ p : Nat, p < q_3.toInt.toNat → ((1 : Int32).toInt ≠ 0 ∨ (kf p).toInt ≠ 5) → (tf p).toInt ≤ q_5.toInt := fun p hp hl => hsr_1_1 p (by rw [ewn] at hp; omega) hl
  have hkn9 : zKn kf af tf q_3.toInt.toNat q_4.toInt (q_8 0).toInt (q_8 1).toInt (q_8 2).toInt q_5.toInt q_7 := zKn_0 hsr_1_5
  have hgk9 : ∀ p : Nat, p < q_3.toInt.toNat → (tf p).toInt ≤ q_5.toInt := fun p hp => hgl9 p hp (Or.inl (by decide))
  refine lv_aload_n hx hb dX7_casesBy_13 rfl (lv_at hl 0 rfl) ?_
  refine va_get (D := D) (ci := 7) (v := .ref w0) (C := RX7) (T := TX7) (N := 9) hx hb hts hi_X7_casesBy_7 hown hK hP 0 rfl rfl 3 (by decide) (hts (.fieldLink RX7 28 "TheLiningsInIt" "ways" "LTheLiningsInIt$Ways;") (List.mem_of_getElem? (i := 1) rfl)) (fun _ h9 => h9) rfl dX7_casesBy_14 ?_
  refine lv_iload_n hx hb dX7_casesBy_17 rfl (lv_at hl 2 rfl) ?_
  refine lv_aload_n hx hb dX7_casesBy_18 rfl (lv_at hl 0 rfl) ?_
  refine va_get (D := D) (ci := 7) (v := .ref j0) (C := RX7) (T := TX7) (N := 9) hx hb hts hi_X7_casesBy_7 hown hK hP 0 rfl rfl 1 (by decide) (hts (.fieldLink RX7 18 "TheLiningsInIt" "now" "LTheLiningsInIt$Jacket;") (List.mem_of_getElem? (i := 2) rfl)) (fun _ h9 => h9) rfl dX7_casesBy_19 ?_
  refine va_get (D := D) (ci := 0) (v := .int de) (C := RX0) (T := TX0) (N := 9) hx hb hts hi_X7_casesBy_0 hown hK hP 6 rfl rfl 4 (by decide) (hts (.fieldLink RX7 199 "TheLiningsInIt$Jacket" "depth" "I") (List.mem_of_getElem? (i := 3) rfl)) (fun _ h9 => h9) rfl dX7_casesBy_22 ?_
  refine lv_aload_n hx hb dX7_casesBy_25 rfl (lv_at hl 0 rfl) ?_
  refine va_get (D := D) (ci := 7) (v := .ref j0) (C := RX7) (T := TX7) (N := 9) hx hb hts hi_X7_casesBy_7 hown hK hP 0 rfl rfl 1 (by decide) (hts (.fieldLink RX7 18 "TheLiningsInIt" "now" "LTheLiningsInIt$Jacket;") (List.mem_of_getElem? (i := 2) rfl)) (fun _ h9 => h9) rfl dX7_casesBy_26 ?_
  refine va_get (D := D) (ci := 0) (v := .int se) (C := RX0) (T := TX0) (N := 9) hx hb hts hi_X7_casesBy_0 hown hK hP 6 rfl rfl 6 (by decide) (hts (.fieldLink RX7 202 "TheLiningsInIt$Jacket" "seconds" "I") (List.mem_of_getElem? (i := 4) rfl)) (fun _ h9 => h9) rfl dX7_casesBy_29 ?_
  skip
  refine zw_VN (As := [.int 0, .int de, .int se]) (rest := []) (wr := [(x0, .inr (7, [.ref xs, .ref j0, .ref k0, .ref w0, .ref rd, .ref mv, .ref xr, .int im, .int lf])), (wl, .inl (cI, 125, .inl q_7)), (wc, .inl (cI, 3, .inl q_8)), (j0, .inr (0, [.ref z0, .ref jp, .ref jc, .int cn, .int de, .int tr, .int se, .int hu, .int sd])), (jp, .inl (cP, 8, .inr (.inr (.inr (.inr fp))))), (jc, .inl (cI, 3, .inl fjc))]) ⟨hx, hb, hml, hown, hts⟩ (c_F_W_most_0 l D cI cJ cZ cP cS po w0 wk wl wc wp (q_3) (q_4) (q_5) q_9 kf af tf (1) q_6 (de) (se) hbq_3.1 hbq_3.2 hbq_4.1 hbq_4.2 hbq_5.1 hbq_5.2 hjw9 (by first | assumption | omega) (by first | assumption | omega) hy6 hy7 hy18 hy19 H.size) ⟨(va_cnB 3 hts gX7_casesBy_X5_most_n208 rfl rfl rfl (hN.1 (RX7, 208, yX5_most) (List.mem_of_getElem? (i := 10) rfl)) (hts _ (List.mem_of_getElem? (i := 8) rfl)) dh_X5_most ⟨Nat.le_of_ble_eq_true rfl, Nat.le_of_ble_eq_true rfl⟩), (hts _ (List.mem_of_getElem? (i := 43) rfl)), (hts _ (List.mem_of_getElem? (i := 44) rfl))⟩ hK hN (hZ.kept hS) hP hD hS hA [1, 2, 5] [0, 3, 4, 6, 7, 8] rfl rfl (by decide) (by decide) (by decide) (va_recv (q := (RX5, TX5, 7)) hK hP (ci := 5) (q0 := 1) rfl rfl) rfl hl.1 rfl (Nat.le_of_ble_eq_true rfl) dX7_casesBy_32 ⟨Nat.le_of_ble_eq_true rfl, Nat.le_of_ble_eq_true rfl⟩ (fun r_10 u_11 H locs hr_10 hP hD hS => ?_)
  obtain ⟨q_12, rfl⟩ : ∃ z, z = u_11 := ⟨_, rfl⟩
  obtain ⟨hsr_10_0, hsr_10_1, hr_10⟩ := hr_10
  have h9R := zRe (ws' := [(x0, .inr (7, [.ref xs, .ref j0, .ref k0, .ref w0, .ref rd, .ref mv, .ref xr, .int im, .int lf])), (wl, .inl (cI, 125, .inl q_7)), (wc, .inl (cI, 3, .inl q_8)), (j0, .inr (0, [.ref z0, .ref jp, .ref jc, .int cn, .int de, .int tr, .int se, .int hu, .int sd])), (jp, .inl (cP, 8, .inr (.inr (.inr (.inr fp))))), (jc, .inl (cI, 3, .inl fjc)), (w0, .inr (5, [.ref wk, .ref wl, .ref wc, .ref wp, .int q_3, .int q_4, .int q_5])), (wk, .inl (cI, 125, .inl q_12)), (wp, .inl (cP, 8, .inr (.inr (.inr (.inr q_9)))))]) hP hD rfl
  clear hP hD
  obtain ⟨hP, hD⟩ := h9R
  obtain ⟨g_13, g_14⟩ := hr_10
  exact W.iret (v := r_10) hx hb hr (fun t ht hW => ⟨⟨r_10, (q_3, q_4, q_5, q_12, q_7, q_8, q_9), rfl, ⟨(show 0 ≤ q_3.toInt ∧ q_3.toInt ≤ 8 from hbq_3), (show 0 ≤ q_4.toInt ∧ q_4.toInt ≤ 9 from hbq_4), (show 0 ≤ q_5.toInt ∧ q_5.toInt ≤ 60 from hbq_5), hpq_8, hwq_9, (show (r_10 : Int32).toInt = zM kf af tf cn.toInt.toNat h.toInt 1 0 de.toInt se.toInt from by (have kte : (1 : Int32).toInt = 1 := (by decide); have z := hsr_10_1; rw [kte, ewn, ewh] at z; exact z)), ⟨by omega, by omega⟩⟩, zRet ht hP hD [0, 3, 6, 7, 1, 2, 8, 4, 5] (by decide) rfl⟩, hS.F ht⟩) hS.2.2 dX7_casesBy_35
set_option maxHeartbeats 4000000 in
set_option maxRecDepth 100000 in
theorem c_F_X_casesBy_1 (l : Launch) (D : va_G) (cI cJ cZ cP cS : ClassId) (po : zPool) (x0 xs j0 k0 w0 rd mv xr : Nat) (im lf : Int32) (fr : Nat → Int32) (j0 jp jc z0 zl zs : Nat) (cn de tr se hu sd : Int32) (wk wl wc wp : Nat) (wn wh wg : Int32) (fq : Nat → Option Nat) (fk fl fc fjc : Nat → Int32) (fp : Nat → Option Nat) (kf af tf : Nat → Int32) (h : Int32) (hy0 : 0 ≤ im.toInt) (hy1 : im.toInt ≤ 1) (hy2 : (-1) ≤ lf.toInt) (hy3 : lf.toInt ≤ 160) (hy4 : 0 ≤ cn.toInt) (hy5 : cn.toInt ≤ 8) (hy6 : 0 ≤ de.toInt) (hy7 : de.toInt ≤ 24) (hy8 : 0 ≤ hu.toInt) (hy9 : hu.toInt ≤ 9) (hy10 : 0 ≤ wn.toInt) (hy11 : wn.toInt ≤ 8) (hy12 : 0 ≤ wh.toInt) (hy13 : wh.toInt ≤ 9) (hy14 : 0 ≤ wg.toInt) (hy15 : wg.toInt ≤ 60) (hwq : zWP po fq) (hjp : zJP po fp cn kf af tf) (hy18 : 0 ≤ se.toInt) (hy19 : se.toInt ≤ 300) (hy20 : 0 ≤ h.toInt) (hy21 : h.toInt ≤ 9) (hp_fc : zRg fc (0) 99) (hp_fjc : zRg fjc (0) 99) (hpz : Nat) : Met l yX7_casesBy wsX7_casesBy ({ frames := 4, cells := 0, slots := 0, locals := 126 }) (va_Pc [.ref x0, .int h, .int 1] (zW D (zKT cI cJ cZ cP cS) po [(x0, .inr (7, [.ref xs, .ref j0, .ref k0, .ref w0, .ref rd, .ref mv, .ref xr, .int im, .int lf])), (j0, .inr (0, [.ref z0, .ref jp, .ref jc, .int cn, .int de, .int tr, .int se, .int hu, .int sd])), (w0, .inr (5, [.ref wk, .ref wl, .ref wc, .ref wp, .int wn, .int wh, .int wg])), (wk, .inl (cI, 125, .inl fk)), (wl, .inl (cI, 125, .inl fl)), (wc, .inl (cI, 3, .inl fc)), (wp, .inl (cP, 8, .inr (.inr (.inr (.inr fq))))), (jp, .inl (cP, 8, .inr (.inr (.inr (.inr fp))))), (jc, .inl (cI, 3, .inl fjc))] hpz)) (va_Qi (fun (r : Int32) (u : (Int32) × (Int32) × (Int32) × (Nat → Int32) × (Nat → Int32) × (Nat → Int32) × (Nat → Option Nat)) => (0 ≤ u.1.toInt ∧ u.1.toInt ≤ 8) ∧ (0 ≤ u.2.1.toInt ∧ u.2.1.toInt ≤ 9) ∧ (0 ≤ u.2.2.1.toInt ∧ u.2.2.1.toInt ≤ 60) ∧ zRg u.2.2.2.2.2.1 (0) 99 ∧ zWP po u.2.2.2.2.2.2 ∧ (r.toInt = zM kf af tf cn.toInt.toNat h.toInt 1 1 de.toInt se.toInt) ∧ (0 ≤ r.toInt ∧ r.toInt ≤ 12)) (zB D [(x0, .inr (7, [.ref xs, .ref j0, .ref k0, .ref w0, .ref rd, .ref mv, .ref xr, .int im, .int lf])), (j0, .inr (0, [.ref z0, .ref jp, .ref jc, .int cn, .int de, .int tr, .int se, .int hu, .int sd])), (w0, .inr (5, [.ref wk, .ref wl, .ref wc, .ref wp, .int wn, .int wh, .int wg])), (wk, .inl (cI, 125, .inl fk)), (wl, .inl (cI, 125, .inl fl)), (wc, .inl (cI, 3, .inl fc)), (wp, .inl (cP, 8, .inr (.inr (.inr (.inr fq))))), (jp, .inl (cP, 8, .inr (.inr (.inr (.inr fp))))), (jc, .inl (cI, 3, .inl fjc))] hpz (fun (u : (Int32) × (Int32) × (Int32) × (Nat → Int32) × (Nat → Int32) × (Nat → Int32) × (Nat → Option Nat)) => [(x0, .inr (7, [.ref xs, .ref j0, .ref k0, .ref w0, .ref rd, .ref mv, .ref xr, .int im, .int lf])), (j0, .inr (0, [.ref z0, .ref jp, .ref jc, .int cn, .int de, .int tr, .int se, .int hu, .int sd])), (w0, .inr (5, [.ref wk, .ref wl, .ref wc, .ref wp, .int u.1, .int u.2.1, .int u.2.2.1])), (wk, .inl (cI, 125, .inl u.2.2.2.1)), (wl, .inl (cI, 125, .inl u.2.2.2.2.1)), (wc, .inl (cI, 3, .inl u.2.2.2.2.2.1)), (wp, .inl (cP, 8, .inr (.inr (.inr (.inr u.2.2.2.2.2.2))))), (jp, .inl (cP, 8, .inr (.inr (.inr (.inr fp))))), (jc, .inl (cI, 3, .inl fjc))])) (va_A [(x0, .inr (7, [.ref xs, .ref j0, .ref k0, .ref w0, .ref rd, .ref mv, .ref xr, .int im, .int lf])), (j0, .inr (0, [.ref z0, .ref jp, .ref jc, .int cn, .int de, .int tr, .int se, .int hu, .int sd])), (w0, .inr (5, [.ref wk, .ref wl, .ref wc, .ref wp, .int wn, .int wh, .int wg])), (wk, .inl (cI, 125, .inl fk)), (wl, .inl (cI, 125, .inl fl)), (wc, .inl (cI, 3, .inl fc)), (wp, .inl (cP, 8, .inr (.inr (.inr (.inr fq))))), (jp, .inl (cP, 8, .inr (.inr (.inr (.inr fp))))), (jc, .inl (cI, 3, .inl fjc))] hpz)) 0 0 (va_A [(x0, .inr (7, [.ref xs, .ref j0, .ref k0, .ref w0, .ref rd, .ref mv, .ref xr, .int im, .int lf])), (j0, .inr (0, [.ref z0, .ref jp, .ref jc, .int cn, .int de, .int tr, .int se, .int hu, .int sd])), (w0, .inr (5, [.ref wk, .ref wl, .ref wc, .ref wp, .int wn, .int wh, .int wg])), (wk, .inl (cI, 125, .inl fk)), (wl, .inl (cI, 125, .inl fl)), (wc, .inl (cI, 3, .inl fc)), (wp, .inl (cP, 8, .inr (.inr (.inr (.inr fq))))), (jp, .inl (cP, 8, .inr (.inr (.inr (.inr fp))))), (jc, .inl (cI, 3, .inl fjc))] hpz) := by
  refine Met.ofW (cc := cX7_casesBy) (maxL := 3) (ret := (some .int)) (by decide) rfl ?_
  intro p e s m args below meth c s₁ B hml hv
  obtain ⟨rfl, hsz, hP, hK, hD0, hN, hZ⟩ := hv
  have hx := B.exec
  have hb := B.bytes
  have hr := B.returns
  have hts := atoms_spec (ws := wsX7_casesBy) B.pre
  have hown : s.vm.findClass RX7 = some m.cls := findClass_of_methodNamed B.named
  have hlocks := B.notSynchronized
  subst hsz
  have hD := hD0.self (sz := s.heap.size)
  have hA := zA_of hD
  have hl := lv_entry ([.ref x0, .int h, .int 1]) (n := 3) (Nat.le_of_ble_eq_true rfl)
  rw [lg_entry_eq]
  generalize (lg_sl ([.ref x0, .int h, .int 1]) ++ List.replicate (3 - (lg_sl ([.ref x0, .int h, .int 1])).length) Slot.unset).toArray = ls at hl ⊢
  replace hl : lv_has ls 3 [(0, .ref x0), (1, .int h), (2, .int 1)] := hl
  refine zw_begin hP hD (fun H locs hP1 hS => ?_)
  clear hP
  have hP := hP1
  clear hP1
  refine lv_aload_n hx hb dX7_casesBy_0 rfl (lv_at hl 0 rfl) ?_
  refine va_get (D := D) (ci := 7) (v := .ref w0) (C := RX7) (T := TX7) (N := 9) hx hb hts hi_X7_casesBy_7 hown hK hP 0 rfl rfl 3 (by decide) (hts (.fieldLink RX7 28 "TheLiningsInIt" "ways" "LTheLiningsInIt$Ways;") (List.mem_of_getElem? (i := 1) rfl)) (fun _ h9 => h9) rfl dX7_casesBy_1 ?_
  refine lv_aload_n hx hb dX7_casesBy_4 rfl (lv_at hl 0 rfl) ?_
  refine va_get (D := D) (ci := 7) (v := .ref j0) (C := RX7) (T := TX7) (N := 9) hx hb hts hi_X7_casesBy_7 hown hK hP 0 rfl rfl 1 (by decide) (hts (.fieldLink RX7 18 "TheLiningsInIt" "now" "LTheLiningsInIt$Jacket;") (List.mem_of_getElem? (i := 2) rfl)) (fun _ h9 => h9) rfl dX7_casesBy_5 ?_
  refine lv_iload_n hx hb dX7_casesBy_8 rfl (lv_at hl 1 rfl) ?_
  refine lv_iconst (v := 1) hx hb dX7_casesBy_9 (by decide) ?_
  have kc1 : (1 : Int32).toInt = 1 := by decide
  skip
  refine zw_Vv (As := [.ref j0, .int h, .int 1]) (rest := []) (wr := [(x0, .inr (7, [.ref xs, .ref j0, .ref k0, .ref w0, .ref rd, .ref mv, .ref xr, .int im, .int lf]))]) ⟨hx, hb, hml, hown, hts⟩ (c_F_W_look l D cI cJ cZ cP cS po w0 wk wl wc wp (wn) (wh) (wg) j0 jp jc z0 0 0 (cn) (de) (tr) (se) (hu) (sd) fp fq kf af tf fk fl fc fjc (h) (1) hy10 hy11 hy12 hy13 hy14 hy15 hy4 hy5 hy6 hy7 hy8 hy9 hy20 hy21 hwq hjp hp_fc hp_fjc H.size) (cwV 3 hts gX7_casesBy_X5_look rfl rfl rfl ⟨rfl, dh_X5_look⟩ ⟨Nat.le_of_ble_eq_true rfl, Nat.le_of_ble_eq_true rfl⟩) hK hN (hZ.kept hS) hP hD hS hA [2, 3, 4, 5, 6, 1, 7, 8] [0] rfl rfl (by decide) (by decide) (by decide) (va_recv (q := (RX5, TX5, 7)) hK hP (ci := 5) (q0 := 2) rfl rfl) rfl hl.1 rfl (Nat.le_of_ble_eq_true rfl) dX7_casesBy_10 ⟨Nat.le_of_ble_eq_true rfl, Nat.le_of_ble_eq_true rfl⟩ (fun u_2 H locs hr_1 hP hD hS => ?_)
  obtain ⟨q_3, q_4, q_5, q_6, q_7, q_8, q_9⟩ := u_2
  try dsimp only at hr_1
  obtain ⟨hbq_3, hbq_4, hbq_5, hpq_8, hwq_9, hsr_1_0, hsr_1_1, hsr_1_2, hsr_1_3, hsr_1_4, hsr_1_5, hr_1⟩ := hr_1
  have h9R := zRe (ws' := [(x0, .inr (7, [.ref xs, .ref j0, .ref k0, .ref w0, .ref rd, .ref mv, .ref xr, .int im, .int lf])), (w0, .inr (5, [.ref wk, .ref wl, .ref wc, .ref wp, .int q_3, .int q_4, .int q_5])), (wk, .inl (cI, 125, .inl q_6)), (wl, .inl (cI, 125, .inl q_7)), (wc, .inl (cI, 3, .inl q_8)), (wp, .inl (cP, 8, .inr (.inr (.inr (.inr q_9))))), (j0, .inr (0, [.ref z0, .ref jp, .ref jc, .int cn, .int de, .int tr, .int se, .int hu, .int sd])), (jp, .inl (cP, 8, .inr (.inr (.inr (.inr fp))))), (jc, .inl (cI, 3, .inl fjc))]) hP hD rfl
  clear hP hD
  obtain ⟨hP, hD⟩ := h9R
  obtain ⟨ewn, ewh⟩ := hsr_1_2
  have ewn9 := congrArg Int32.toInt ewn
  have ewh9 := congrArg Int32.toInt ewh
  have hjw9 : zJW po q_9 q_3 kf af tf (1 : Int32) := by (intro j hj; exact hsr_1_0 j (by rw [← ewn]; exact hj))
  have hkm9 : zKm kf af tf q_3.toInt.toNat q_4.toInt (1 : Int32).toInt q_5.toInt q_6 := zKm_0 hsr_1_4
  have hgl9 : ∀ p : Nat, p < q_3.toInt.toNat → ((1 : Int32).toInt ≠ 0 ∨ (kf p).toInt ≠ 5) → (tf p).toInt ≤ q_5.toInt := fun p hp hl => hsr_1_1 p (by rw [ewn] at hp; omega) hl
  have hkn9 : zKn kf af tf q_3.toInt.toNat q_4.toInt (q_8 0).toInt (q_8 1).toInt (q_8 2).toInt q_5.toInt q_7 := zKn_0 hsr_1_5
  have hgk9 : ∀ p : Nat, p < q_3.toInt.toNat → (tf p).toInt ≤ q_5.toInt := fun p hp => hgl9 p hp (Or.inl (by decide))
  refine lv_aload_n hx hb dX7_casesBy_13 rfl (lv_at hl 0 rfl) ?_
  refine va_get (D := D) (ci := 7) (v := .ref w0) (C := RX7) (T := TX7) (N := 9) hx hb hts hi_X7_casesBy_7 hown hK hP 0 rfl rfl 3 (by decide) (hts (.fieldLink RX7 28 "TheLiningsInIt" "ways" "LTheLiningsInIt$Ways;") (List.mem_of_getElem? (i := 1) rfl)) (fun _ h9 => h9) rfl dX7_casesBy_14 ?_
  refine lv_iload_n hx hb dX7_casesBy_17 rfl (lv_at hl 2 rfl) ?_
  refine lv_aload_n hx hb dX7_casesBy_18 rfl (lv_at hl 0 rfl) ?_
  refine va_get (D := D) (ci := 7) (v := .ref j0) (C := RX7) (T := TX7) (N := 9) hx hb hts hi_X7_casesBy_7 hown hK hP 0 rfl rfl 1 (by decide) (hts (.fieldLink RX7 18 "TheLiningsInIt" "now" "LTheLiningsInIt$Jacket;") (List.mem_of_getElem? (i := 2) rfl)) (fun _ h9 => h9) rfl dX7_casesBy_19 ?_
  refine va_get (D := D) (ci := 0) (v := .int de) (C := RX0) (T := TX0) (N := 9) hx hb hts hi_X7_casesBy_0 hown hK hP 6 rfl rfl 4 (by decide) (hts (.fieldLink RX7 199 "TheLiningsInIt$Jacket" "depth" "I") (List.mem_of_getElem? (i := 3) rfl)) (fun _ h9 => h9) rfl dX7_casesBy_22 ?_
  refine lv_aload_n hx hb dX7_casesBy_25 rfl (lv_at hl 0 rfl) ?_
  refine va_get (D := D) (ci := 7) (v := .ref j0) (C := RX7) (T := TX7) (N := 9) hx hb hts hi_X7_casesBy_7 hown hK hP 0 rfl rfl 1 (by decide) (hts (.fieldLink RX7 18 "TheLiningsInIt" "now" "LTheLiningsInIt$Jacket;") (List.mem_of_getElem? (i := 2) rfl)) (fun _ h9 => h9) rfl dX7_casesBy_26 ?_
  refine va_get (D := D) (ci := 0) (v := .int se) (C := RX0) (T := TX0) (N := 9) hx hb hts hi_X7_casesBy_0 hown hK hP 6 rfl rfl 6 (by decide) (hts (.fieldLink RX7 202 "TheLiningsInIt$Jacket" "seconds" "I") (List.mem_of_getElem? (i := 4) rfl)) (fun _ h9 => h9) rfl dX7_casesBy_29 ?_
  skip
  refine zw_VN (As := [.int 1, .int de, .int se]) (rest := []) (wr := [(x0, .inr (7, [.ref xs, .ref j0, .ref k0, .ref w0, .ref rd, .ref mv, .ref xr, .int im, .int lf])), (wl, .inl (cI, 125, .inl q_7)), (wc, .inl (cI, 3, .inl q_8)), (j0, .inr (0, [.ref z0, .ref jp, .ref jc, .int cn, .int de, .int tr, .int se, .int hu, .int sd])), (jp, .inl (cP, 8, .inr (.inr (.inr (.inr fp))))), (jc, .inl (cI, 3, .inl fjc))]) ⟨hx, hb, hml, hown, hts⟩ (c_F_W_most_1 l D cI cJ cZ cP cS po w0 wk wl wc wp (q_3) (q_4) (q_5) q_9 kf af tf (1) q_6 (de) (se) hbq_3.1 hbq_3.2 hbq_4.1 hbq_4.2 hbq_5.1 hbq_5.2 hjw9 (by first | assumption | omega) (by first | assumption | omega) hy6 hy7 hy18 hy19 H.size) ⟨(va_cnB 3 hts gX7_casesBy_X5_most_n208 rfl rfl rfl (hN.1 (RX7, 208, yX5_most) (List.mem_of_getElem? (i := 10) rfl)) (hts _ (List.mem_of_getElem? (i := 8) rfl)) dh_X5_most ⟨Nat.le_of_ble_eq_true rfl, Nat.le_of_ble_eq_true rfl⟩), (hts _ (List.mem_of_getElem? (i := 43) rfl)), (hts _ (List.mem_of_getElem? (i := 44) rfl))⟩ hK hN (hZ.kept hS) hP hD hS hA [1, 2, 5] [0, 3, 4, 6, 7, 8] rfl rfl (by decide) (by decide) (by decide) (va_recv (q := (RX5, TX5, 7)) hK hP (ci := 5) (q0 := 1) rfl rfl) rfl hl.1 rfl (Nat.le_of_ble_eq_true rfl) dX7_casesBy_32 ⟨Nat.le_of_ble_eq_true rfl, Nat.le_of_ble_eq_true rfl⟩ (fun r_10 u_11 H locs hr_10 hP hD hS => ?_)
  obtain ⟨q_12, rfl⟩ : ∃ z, z = u_11 := ⟨_, rfl⟩
  obtain ⟨hsr_10_0, hsr_10_1, hr_10⟩ := hr_10
  have h9R := zRe (ws' := [(x0, .inr (7, [.ref xs, .ref j0, .ref k0, .ref w0, .ref rd, .ref mv, .ref xr, .int im, .int lf])), (wl, .inl (cI, 125, .inl q_7)), (wc, .inl (cI, 3, .inl q_8)), (j0, .inr (0, [.ref z0, .ref jp, .ref jc, .int cn, .int de, .int tr, .int se, .int hu, .int sd])), (jp, .inl (cP, 8, .inr (.inr (.inr (.inr fp))))), (jc, .inl (cI, 3, .inl fjc)), (w0, .inr (5, [.ref wk, .ref wl, .ref wc, .ref wp, .int q_3, .int q_4, .int q_5])), (wk, .inl (cI, 125, .inl q_12)), (wp, .inl (cP, 8, .inr (.inr (.inr (.inr q_9)))))]) hP hD rfl
  clear hP hD
  obtain ⟨hP, hD⟩ := h9R
  obtain ⟨g_13, g_14⟩ := hr_10
  exact W.iret (v := r_10) hx hb hr (fun t ht hW => ⟨⟨r_10, (q_3, q_4, q_5, q_12, q_7, q_8, q_9), rfl, ⟨(show 0 ≤ q_3.toInt ∧ q_3.toInt ≤ 8 from hbq_3), (show 0 ≤ q_4.toInt ∧ q_4.toInt ≤ 9 from hbq_4), (show 0 ≤ q_5.toInt ∧ q_5.toInt ≤ 60 from hbq_5), hpq_8, hwq_9, (show (r_10 : Int32).toInt = zM kf af tf cn.toInt.toNat h.toInt 1 1 de.toInt se.toInt from by (have kte : (1 : Int32).toInt = 1 := (by decide); have z := hsr_10_1; rw [kte, ewn, ewh] at z; exact z)), ⟨by omega, by omega⟩⟩, zRet ht hP hD [0, 3, 6, 7, 1, 2, 8, 4, 5] (by decide) rfl⟩, hS.F ht⟩) hS.2.2 dX7_casesBy_35
set_option maxHeartbeats 4000000 in
set_option maxRecDepth 100000 in
theorem c_F_X_casesBy_2 (l : Launch) (D : va_G) (cI cJ cZ cP cS : ClassId) (po : zPool) (x0 xs j0 k0 w0 rd mv xr : Nat) (im lf : Int32) (fr : Nat → Int32) (j0 jp jc z0 zl zs : Nat) (cn de tr se hu sd : Int32) (wk wl wc wp : Nat) (wn wh wg : Int32) (fq : Nat → Option Nat) (fk fl fc fjc : Nat → Int32) (fp : Nat → Option Nat) (kf af tf : Nat → Int32) (h : Int32) (hy0 : 0 ≤ im.toInt) (hy1 : im.toInt ≤ 1) (hy2 : (-1) ≤ lf.toInt) (hy3 : lf.toInt ≤ 160) (hy4 : 0 ≤ cn.toInt) (hy5 : cn.toInt ≤ 8) (hy6 : 0 ≤ de.toInt) (hy7 : de.toInt ≤ 24) (hy8 : 0 ≤ hu.toInt) (hy9 : hu.toInt ≤ 9) (hy10 : 0 ≤ wn.toInt) (hy11 : wn.toInt ≤ 8) (hy12 : 0 ≤ wh.toInt) (hy13 : wh.toInt ≤ 9) (hy14 : 0 ≤ wg.toInt) (hy15 : wg.toInt ≤ 60) (hwq : zWP po fq) (hjp : zJP po fp cn kf af tf) (hy18 : 0 ≤ se.toInt) (hy19 : se.toInt ≤ 300) (hy20 : 0 ≤ h.toInt) (hy21 : h.toInt ≤ 9) (hp_fc : zRg fc (0) 99) (hp_fjc : zRg fjc (0) 99) (hpz : Nat) : Met l yX7_casesBy wsX7_casesBy ({ frames := 6, cells := 0, slots := 0, locals := 154 }) (va_Pc [.ref x0, .int h, .int 2] (zW D (zKT cI cJ cZ cP cS) po [(x0, .inr (7, [.ref xs, .ref j0, .ref k0, .ref w0, .ref rd, .ref mv, .ref xr, .int im, .int lf])), (j0, .inr (0, [.ref z0, .ref jp, .ref jc, .int cn, .int de, .int tr, .int se, .int hu, .int sd])), (w0, .inr (5, [.ref wk, .ref wl, .ref wc, .ref wp, .int wn, .int wh, .int wg])), (wk, .inl (cI, 125, .inl fk)), (wl, .inl (cI, 125, .inl fl)), (wc, .inl (cI, 3, .inl fc)), (wp, .inl (cP, 8, .inr (.inr (.inr (.inr fq))))), (jp, .inl (cP, 8, .inr (.inr (.inr (.inr fp))))), (jc, .inl (cI, 3, .inl fjc))] hpz)) (va_Qi (fun (r : Int32) (u : (Int32) × (Int32) × (Int32) × (Nat → Int32) × (Nat → Int32) × (Nat → Int32) × (Nat → Option Nat)) => (0 ≤ u.1.toInt ∧ u.1.toInt ≤ 8) ∧ (0 ≤ u.2.1.toInt ∧ u.2.1.toInt ≤ 9) ∧ (0 ≤ u.2.2.1.toInt ∧ u.2.2.1.toInt ≤ 60) ∧ zRg u.2.2.2.2.2.1 (0) 99 ∧ zWP po u.2.2.2.2.2.2 ∧ (r.toInt = zM kf af tf cn.toInt.toNat h.toInt 1 2 de.toInt se.toInt) ∧ (0 ≤ r.toInt ∧ r.toInt ≤ 144)) (zB D [(x0, .inr (7, [.ref xs, .ref j0, .ref k0, .ref w0, .ref rd, .ref mv, .ref xr, .int im, .int lf])), (j0, .inr (0, [.ref z0, .ref jp, .ref jc, .int cn, .int de, .int tr, .int se, .int hu, .int sd])), (w0, .inr (5, [.ref wk, .ref wl, .ref wc, .ref wp, .int wn, .int wh, .int wg])), (wk, .inl (cI, 125, .inl fk)), (wl, .inl (cI, 125, .inl fl)), (wc, .inl (cI, 3, .inl fc)), (wp, .inl (cP, 8, .inr (.inr (.inr (.inr fq))))), (jp, .inl (cP, 8, .inr (.inr (.inr (.inr fp))))), (jc, .inl (cI, 3, .inl fjc))] hpz (fun (u : (Int32) × (Int32) × (Int32) × (Nat → Int32) × (Nat → Int32) × (Nat → Int32) × (Nat → Option Nat)) => [(x0, .inr (7, [.ref xs, .ref j0, .ref k0, .ref w0, .ref rd, .ref mv, .ref xr, .int im, .int lf])), (j0, .inr (0, [.ref z0, .ref jp, .ref jc, .int cn, .int de, .int tr, .int se, .int hu, .int sd])), (w0, .inr (5, [.ref wk, .ref wl, .ref wc, .ref wp, .int u.1, .int u.2.1, .int u.2.2.1])), (wk, .inl (cI, 125, .inl u.2.2.2.1)), (wl, .inl (cI, 125, .inl u.2.2.2.2.1)), (wc, .inl (cI, 3, .inl u.2.2.2.2.2.1)), (wp, .inl (cP, 8, .inr (.inr (.inr (.inr u.2.2.2.2.2.2))))), (jp, .inl (cP, 8, .inr (.inr (.inr (.inr fp))))), (jc, .inl (cI, 3, .inl fjc))])) (va_A [(x0, .inr (7, [.ref xs, .ref j0, .ref k0, .ref w0, .ref rd, .ref mv, .ref xr, .int im, .int lf])), (j0, .inr (0, [.ref z0, .ref jp, .ref jc, .int cn, .int de, .int tr, .int se, .int hu, .int sd])), (w0, .inr (5, [.ref wk, .ref wl, .ref wc, .ref wp, .int wn, .int wh, .int wg])), (wk, .inl (cI, 125, .inl fk)), (wl, .inl (cI, 125, .inl fl)), (wc, .inl (cI, 3, .inl fc)), (wp, .inl (cP, 8, .inr (.inr (.inr (.inr fq))))), (jp, .inl (cP, 8, .inr (.inr (.inr (.inr fp))))), (jc, .inl (cI, 3, .inl fjc))] hpz)) 0 0 (va_A [(x0, .inr (7, [.ref xs, .ref j0, .ref k0, .ref w0, .ref rd, .ref mv, .ref xr, .int im, .int lf])), (j0, .inr (0, [.ref z0, .ref jp, .ref jc, .int cn, .int de, .int tr, .int se, .int hu, .int sd])), (w0, .inr (5, [.ref wk, .ref wl, .ref wc, .ref wp, .int wn, .int wh, .int wg])), (wk, .inl (cI, 125, .inl fk)), (wl, .inl (cI, 125, .inl fl)), (wc, .inl (cI, 3, .inl fc)), (wp, .inl (cP, 8, .inr (.inr (.inr (.inr fq))))), (jp, .inl (cP, 8, .inr (.inr (.inr (.inr fp))))), (jc, .inl (cI, 3, .inl fjc))] hpz) := by
  refine Met.ofW (cc := cX7_casesBy) (maxL := 3) (ret := (some .int)) (by decide) rfl ?_
  intro p e s m args below meth c s₁ B hml hv
  obtain ⟨rfl, hsz, hP, hK, hD0, hN, hZ⟩ := hv
  have hx := B.exec
  have hb := B.bytes
  have hr := B.returns
  have hts := atoms_spec (ws := wsX7_casesBy) B.pre
  have hown : s.vm.findClass RX7 = some m.cls := findClass_of_methodNamed B.named
  have hlocks := B.notSynchronized
  subst hsz
  have hD := hD0.self (sz := s.heap.size)
  have hA := zA_of hD
  have hl := lv_entry ([.ref x0, .int h, .int 2]) (n := 3) (Nat.le_of_ble_eq_true rfl)
  rw [lg_entry_eq]
  generalize (lg_sl ([.ref x0, .int h, .int 2]) ++ List.replicate (3 - (lg_sl ([.ref x0, .int h, .int 2])).length) Slot.unset).toArray = ls at hl ⊢
  replace hl : lv_has ls 3 [(0, .ref x0), (1, .int h), (2, .int 2)] := hl
  refine zw_begin hP hD (fun H locs hP1 hS => ?_)
  clear hP
  have hP := hP1
  clear hP1
  refine lv_aload_n hx hb dX7_casesBy_0 rfl (lv_at hl 0 rfl) ?_
  refine va_get (D := D) (ci := 7) (v := .ref w0) (C := RX7) (T := TX7) (N := 9) hx hb hts hi_X7_casesBy_7 hown hK hP 0 rfl rfl 3 (by decide) (hts (.fieldLink RX7 28 "TheLiningsInIt" "ways" "LTheLiningsInIt$Ways;") (List.mem_of_getElem? (i := 1) rfl)) (fun _ h9 => h9) rfl dX7_casesBy_1 ?_
  refine lv_aload_n hx hb dX7_casesBy_4 rfl (lv_at hl 0 rfl) ?_
  refine va_get (D := D) (ci := 7) (v := .ref j0) (C := RX7) (T := TX7) (N := 9) hx hb hts hi_X7_casesBy_7 hown hK hP 0 rfl rfl 1 (by decide) (hts (.fieldLink RX7 18 "TheLiningsInIt" "now" "LTheLiningsInIt$Jacket;") (List.mem_of_getElem? (i := 2) rfl)) (fun _ h9 => h9) rfl dX7_casesBy_5 ?_
  refine lv_iload_n hx hb dX7_casesBy_8 rfl (lv_at hl 1 rfl) ?_
  refine lv_iconst (v := 1) hx hb dX7_casesBy_9 (by decide) ?_
  have kc1 : (1 : Int32).toInt = 1 := by decide
  skip
  refine zw_Vv (As := [.ref j0, .int h, .int 1]) (rest := []) (wr := [(x0, .inr (7, [.ref xs, .ref j0, .ref k0, .ref w0, .ref rd, .ref mv, .ref xr, .int im, .int lf]))]) ⟨hx, hb, hml, hown, hts⟩ (c_F_W_look l D cI cJ cZ cP cS po w0 wk wl wc wp (wn) (wh) (wg) j0 jp jc z0 0 0 (cn) (de) (tr) (se) (hu) (sd) fp fq kf af tf fk fl fc fjc (h) (1) hy10 hy11 hy12 hy13 hy14 hy15 hy4 hy5 hy6 hy7 hy8 hy9 hy20 hy21 hwq hjp hp_fc hp_fjc H.size) (cwV 3 hts gX7_casesBy_X5_look rfl rfl rfl ⟨rfl, dh_X5_look⟩ ⟨Nat.le_of_ble_eq_true rfl, Nat.le_of_ble_eq_true rfl⟩) hK hN (hZ.kept hS) hP hD hS hA [2, 3, 4, 5, 6, 1, 7, 8] [0] rfl rfl (by decide) (by decide) (by decide) (va_recv (q := (RX5, TX5, 7)) hK hP (ci := 5) (q0 := 2) rfl rfl) rfl hl.1 rfl (Nat.le_of_ble_eq_true rfl) dX7_casesBy_10 ⟨Nat.le_of_ble_eq_true rfl, Nat.le_of_ble_eq_true rfl⟩ (fun u_2 H locs hr_1 hP hD hS => ?_)
  obtain ⟨q_3, q_4, q_5, q_6, q_7, q_8, q_9⟩ := u_2
  try dsimp only at hr_1
  obtain ⟨hbq_3, hbq_4, hbq_5, hpq_8, hwq_9, hsr_1_0, hsr_1_1, hsr_1_2, hsr_1_3, hsr_1_4, hsr_1_5, hr_1⟩ := hr_1
  have h9R := zRe (ws' := [(x0, .inr (7, [.ref xs, .ref j0, .ref k0, .ref w0, .ref rd, .ref mv, .ref xr, .int im, .int lf])), (w0, .inr (5, [.ref wk, .ref wl, .ref wc, .ref wp, .int q_3, .int q_4, .int q_5])), (wk, .inl (cI, 125, .inl q_6)), (wl, .inl (cI, 125, .inl q_7)), (wc, .inl (cI, 3, .inl q_8)), (wp, .inl (cP, 8, .inr (.inr (.inr (.inr q_9))))), (j0, .inr (0, [.ref z0, .ref jp, .ref jc, .int cn, .int de, .int tr, .int se, .int hu, .int sd])), (jp, .inl (cP, 8, .inr (.inr (.inr (.inr fp))))), (jc, .inl (cI, 3, .inl fjc))]) hP hD rfl
  clear hP hD
  obtain ⟨hP, hD⟩ := h9R
  obtain ⟨ewn, ewh⟩ := hsr_1_2
  have ewn9 := congrArg Int32.toInt ewn
  have ewh9 := congrArg Int32.toInt ewh
  have hjw9 : zJW po q_9 q_3 kf af tf (1 : Int32) := by (intro j hj; exact hsr_1_0 j (by rw [← ewn]; exact hj))
  have hkm9 : zKm kf af tf q_3.toInt.toNat q_4.toInt (1 : Int32).toInt q_5.toInt q_6 := zKm_0 hsr_1_4
  have hgl9 : ∀ p : Nat, p < q_3.toInt.toNat → ((1 : Int32).toInt ≠ 0 ∨ (kf p).toInt ≠ 5) → (tf p).toInt ≤ q_5.toInt := fun p hp hl => hsr_1_1 p (by rw [ewn] at hp; omega) hl
  have hkn9 : zKn kf af tf q_3.toInt.toNat q_4.toInt (q_8 0).toInt (q_8 1).toInt (q_8 2).toInt q_5.toInt q_7 := zKn_0 hsr_1_5
  have hgk9 : ∀ p : Nat, p < q_3.toInt.toNat → (tf p).toInt ≤ q_5.toInt := fun p hp => hgl9 p hp (Or.inl (by decide))
  refine lv_aload_n hx hb dX7_casesBy_13 rfl (lv_at hl 0 rfl) ?_
  refine va_get (D := D) (ci := 7) (v := .ref w0) (C := RX7) (T := TX7) (N := 9) hx hb hts hi_X7_casesBy_7 hown hK hP 0 rfl rfl 3 (by decide) (hts (.fieldLink RX7 28 "TheLiningsInIt" "ways" "LTheLiningsInIt$Ways;") (List.mem_of_getElem? (i := 1) rfl)) (fun _ h9 => h9) rfl dX7_casesBy_14 ?_
  refine lv_iload_n hx hb dX7_casesBy_17 rfl (lv_at hl 2 rfl) ?_
  refine lv_aload_n hx hb dX7_casesBy_18 rfl (lv_at hl 0 rfl) ?_
  refine va_get (D := D) (ci := 7) (v := .ref j0) (C := RX7) (T := TX7) (N := 9) hx hb hts hi_X7_casesBy_7 hown hK hP 0 rfl rfl 1 (by decide) (hts (.fieldLink RX7 18 "TheLiningsInIt" "now" "LTheLiningsInIt$Jacket;") (List.mem_of_getElem? (i := 2) rfl)) (fun _ h9 => h9) rfl dX7_casesBy_19 ?_
  refine va_get (D := D) (ci := 0) (v := .int de) (C := RX0) (T := TX0) (N := 9) hx hb hts hi_X7_casesBy_0 hown hK hP 6 rfl rfl 4 (by decide) (hts (.fieldLink RX7 199 "TheLiningsInIt$Jacket" "depth" "I") (List.mem_of_getElem? (i := 3) rfl)) (fun _ h9 => h9) rfl dX7_casesBy_22 ?_
  refine lv_aload_n hx hb dX7_casesBy_25 rfl (lv_at hl 0 rfl) ?_
  refine va_get (D := D) (ci := 7) (v := .ref j0) (C := RX7) (T := TX7) (N := 9) hx hb hts hi_X7_casesBy_7 hown hK hP 0 rfl rfl 1 (by decide) (hts (.fieldLink RX7 18 "TheLiningsInIt" "now" "LTheLiningsInIt$Jacket;") (List.mem_of_getElem? (i := 2) rfl)) (fun _ h9 => h9) rfl dX7_casesBy_26 ?_
  refine va_get (D := D) (ci := 0) (v := .int se) (C := RX0) (T := TX0) (N := 9) hx hb hts hi_X7_casesBy_0 hown hK hP 6 rfl rfl 6 (by decide) (hts (.fieldLink RX7 202 "TheLiningsInIt$Jacket" "seconds" "I") (List.mem_of_getElem? (i := 4) rfl)) (fun _ h9 => h9) rfl dX7_casesBy_29 ?_
  skip
  refine zw_VN (As := [.int 2, .int de, .int se]) (rest := []) (wr := [(x0, .inr (7, [.ref xs, .ref j0, .ref k0, .ref w0, .ref rd, .ref mv, .ref xr, .int im, .int lf])), (wl, .inl (cI, 125, .inl q_7)), (wc, .inl (cI, 3, .inl q_8)), (j0, .inr (0, [.ref z0, .ref jp, .ref jc, .int cn, .int de, .int tr, .int se, .int hu, .int sd])), (jp, .inl (cP, 8, .inr (.inr (.inr (.inr fp))))), (jc, .inl (cI, 3, .inl fjc))]) ⟨hx, hb, hml, hown, hts⟩ (c_F_W_most_2 l D cI cJ cZ cP cS po w0 wk wl wc wp (q_3) (q_4) (q_5) q_9 kf af tf (1) q_6 (de) (se) hbq_3.1 hbq_3.2 hbq_4.1 hbq_4.2 hbq_5.1 hbq_5.2 hjw9 (by first | assumption | omega) (by first | assumption | omega) hy6 hy7 hy18 hy19 H.size) ⟨(va_cnB 3 hts gX7_casesBy_X5_most_n208 rfl rfl rfl (hN.1 (RX7, 208, yX5_most) (List.mem_of_getElem? (i := 10) rfl)) (hts _ (List.mem_of_getElem? (i := 8) rfl)) dh_X5_most ⟨Nat.le_of_ble_eq_true rfl, Nat.le_of_ble_eq_true rfl⟩), (hts _ (List.mem_of_getElem? (i := 43) rfl)), (hts _ (List.mem_of_getElem? (i := 44) rfl))⟩ hK hN (hZ.kept hS) hP hD hS hA [1, 2, 5] [0, 3, 4, 6, 7, 8] rfl rfl (by decide) (by decide) (by decide) (va_recv (q := (RX5, TX5, 7)) hK hP (ci := 5) (q0 := 1) rfl rfl) rfl hl.1 rfl (Nat.le_of_ble_eq_true rfl) dX7_casesBy_32 ⟨Nat.le_of_ble_eq_true rfl, Nat.le_of_ble_eq_true rfl⟩ (fun r_10 u_11 H locs hr_10 hP hD hS => ?_)
  obtain ⟨q_12, rfl⟩ : ∃ z, z = u_11 := ⟨_, rfl⟩
  obtain ⟨hsr_10_0, hsr_10_1, hr_10⟩ := hr_10
  have h9R := zRe (ws' := [(x0, .inr (7, [.ref xs, .ref j0, .ref k0, .ref w0, .ref rd, .ref mv, .ref xr, .int im, .int lf])), (wl, .inl (cI, 125, .inl q_7)), (wc, .inl (cI, 3, .inl q_8)), (j0, .inr (0, [.ref z0, .ref jp, .ref jc, .int cn, .int de, .int tr, .int se, .int hu, .int sd])), (jp, .inl (cP, 8, .inr (.inr (.inr (.inr fp))))), (jc, .inl (cI, 3, .inl fjc)), (w0, .inr (5, [.ref wk, .ref wl, .ref wc, .ref wp, .int q_3, .int q_4, .int q_5])), (wk, .inl (cI, 125, .inl q_12)), (wp, .inl (cP, 8, .inr (.inr (.inr (.inr q_9)))))]) hP hD rfl
  clear hP hD
  obtain ⟨hP, hD⟩ := h9R
  obtain ⟨g_13, g_14⟩ := hr_10
  exact W.iret (v := r_10) hx hb hr (fun t ht hW => ⟨⟨r_10, (q_3, q_4, q_5, q_12, q_7, q_8, q_9), rfl, ⟨(show 0 ≤ q_3.toInt ∧ q_3.toInt ≤ 8 from hbq_3), (show 0 ≤ q_4.toInt ∧ q_4.toInt ≤ 9 from hbq_4), (show 0 ≤ q_5.toInt ∧ q_5.toInt ≤ 60 from hbq_5), hpq_8, hwq_9, (show (r_10 : Int32).toInt = zM kf af tf cn.toInt.toNat h.toInt 1 2 de.toInt se.toInt from by (have kte : (1 : Int32).toInt = 1 := (by decide); have z := hsr_10_1; rw [kte, ewn, ewh] at z; exact z)), ⟨by omega, by omega⟩⟩, zRet ht hP hD [0, 3, 6, 7, 1, 2, 8, 4, 5] (by decide) rfl⟩, hS.F ht⟩) hS.2.2 dX7_casesBy_35
set_option maxHeartbeats 4000000 in
set_option maxRecDepth 100000 in
theorem c_F_X_casesBy_3 (l : Launch) (D : va_G) (cI cJ cZ cP cS : ClassId) (po : zPool) (x0 xs j0 k0 w0 rd mv xr : Nat) (im lf : Int32) (fr : Nat → Int32) (j0 jp jc z0 zl zs : Nat) (cn de tr se hu sd : Int32) (wk wl wc wp : Nat) (wn wh wg : Int32) (fq : Nat → Option Nat) (fk fl fc fjc : Nat → Int32) (fp : Nat → Option Nat) (kf af tf : Nat → Int32) (h : Int32) (hy0 : 0 ≤ im.toInt) (hy1 : im.toInt ≤ 1) (hy2 : (-1) ≤ lf.toInt) (hy3 : lf.toInt ≤ 160) (hy4 : 0 ≤ cn.toInt) (hy5 : cn.toInt ≤ 8) (hy6 : 0 ≤ de.toInt) (hy7 : de.toInt ≤ 24) (hy8 : 0 ≤ hu.toInt) (hy9 : hu.toInt ≤ 9) (hy10 : 0 ≤ wn.toInt) (hy11 : wn.toInt ≤ 8) (hy12 : 0 ≤ wh.toInt) (hy13 : wh.toInt ≤ 9) (hy14 : 0 ≤ wg.toInt) (hy15 : wg.toInt ≤ 60) (hwq : zWP po fq) (hjp : zJP po fp cn kf af tf) (hy18 : 0 ≤ se.toInt) (hy19 : se.toInt ≤ 300) (hy20 : 0 ≤ h.toInt) (hy21 : h.toInt ≤ 9) (hp_fc : zRg fc (0) 99) (hp_fjc : zRg fjc (0) 99) (hpz : Nat) : Met l yX7_casesBy wsX7_casesBy ({ frames := 8, cells := 0, slots := 0, locals := 209 }) (va_Pc [.ref x0, .int h, .int 3] (zW D (zKT cI cJ cZ cP cS) po [(x0, .inr (7, [.ref xs, .ref j0, .ref k0, .ref w0, .ref rd, .ref mv, .ref xr, .int im, .int lf])), (j0, .inr (0, [.ref z0, .ref jp, .ref jc, .int cn, .int de, .int tr, .int se, .int hu, .int sd])), (w0, .inr (5, [.ref wk, .ref wl, .ref wc, .ref wp, .int wn, .int wh, .int wg])), (wk, .inl (cI, 125, .inl fk)), (wl, .inl (cI, 125, .inl fl)), (wc, .inl (cI, 3, .inl fc)), (wp, .inl (cP, 8, .inr (.inr (.inr (.inr fq))))), (jp, .inl (cP, 8, .inr (.inr (.inr (.inr fp))))), (jc, .inl (cI, 3, .inl fjc))] hpz)) (va_Qi (fun (r : Int32) (u : (Int32) × (Int32) × (Int32) × (Nat → Int32) × (Nat → Int32) × (Nat → Int32) × (Nat → Option Nat)) => (0 ≤ u.1.toInt ∧ u.1.toInt ≤ 8) ∧ (0 ≤ u.2.1.toInt ∧ u.2.1.toInt ≤ 9) ∧ (0 ≤ u.2.2.1.toInt ∧ u.2.2.1.toInt ≤ 60) ∧ zRg u.2.2.2.2.2.1 (0) 99 ∧ zWP po u.2.2.2.2.2.2 ∧ (r.toInt = zM kf af tf cn.toInt.toNat h.toInt 1 3 de.toInt se.toInt) ∧ (0 ≤ r.toInt ∧ r.toInt ≤ 1728)) (zB D [(x0, .inr (7, [.ref xs, .ref j0, .ref k0, .ref w0, .ref rd, .ref mv, .ref xr, .int im, .int lf])), (j0, .inr (0, [.ref z0, .ref jp, .ref jc, .int cn, .int de, .int tr, .int se, .int hu, .int sd])), (w0, .inr (5, [.ref wk, .ref wl, .ref wc, .ref wp, .int wn, .int wh, .int wg])), (wk, .inl (cI, 125, .inl fk)), (wl, .inl (cI, 125, .inl fl)), (wc, .inl (cI, 3, .inl fc)), (wp, .inl (cP, 8, .inr (.inr (.inr (.inr fq))))), (jp, .inl (cP, 8, .inr (.inr (.inr (.inr fp))))), (jc, .inl (cI, 3, .inl fjc))] hpz (fun (u : (Int32) × (Int32) × (Int32) × (Nat → Int32) × (Nat → Int32) × (Nat → Int32) × (Nat → Option Nat)) => [(x0, .inr (7, [.ref xs, .ref j0, .ref k0, .ref w0, .ref rd, .ref mv, .ref xr, .int im, .int lf])), (j0, .inr (0, [.ref z0, .ref jp, .ref jc, .int cn, .int de, .int tr, .int se, .int hu, .int sd])), (w0, .inr (5, [.ref wk, .ref wl, .ref wc, .ref wp, .int u.1, .int u.2.1, .int u.2.2.1])), (wk, .inl (cI, 125, .inl u.2.2.2.1)), (wl, .inl (cI, 125, .inl u.2.2.2.2.1)), (wc, .inl (cI, 3, .inl u.2.2.2.2.2.1)), (wp, .inl (cP, 8, .inr (.inr (.inr (.inr u.2.2.2.2.2.2))))), (jp, .inl (cP, 8, .inr (.inr (.inr (.inr fp))))), (jc, .inl (cI, 3, .inl fjc))])) (va_A [(x0, .inr (7, [.ref xs, .ref j0, .ref k0, .ref w0, .ref rd, .ref mv, .ref xr, .int im, .int lf])), (j0, .inr (0, [.ref z0, .ref jp, .ref jc, .int cn, .int de, .int tr, .int se, .int hu, .int sd])), (w0, .inr (5, [.ref wk, .ref wl, .ref wc, .ref wp, .int wn, .int wh, .int wg])), (wk, .inl (cI, 125, .inl fk)), (wl, .inl (cI, 125, .inl fl)), (wc, .inl (cI, 3, .inl fc)), (wp, .inl (cP, 8, .inr (.inr (.inr (.inr fq))))), (jp, .inl (cP, 8, .inr (.inr (.inr (.inr fp))))), (jc, .inl (cI, 3, .inl fjc))] hpz)) 0 0 (va_A [(x0, .inr (7, [.ref xs, .ref j0, .ref k0, .ref w0, .ref rd, .ref mv, .ref xr, .int im, .int lf])), (j0, .inr (0, [.ref z0, .ref jp, .ref jc, .int cn, .int de, .int tr, .int se, .int hu, .int sd])), (w0, .inr (5, [.ref wk, .ref wl, .ref wc, .ref wp, .int wn, .int wh, .int wg])), (wk, .inl (cI, 125, .inl fk)), (wl, .inl (cI, 125, .inl fl)), (wc, .inl (cI, 3, .inl fc)), (wp, .inl (cP, 8, .inr (.inr (.inr (.inr fq))))), (jp, .inl (cP, 8, .inr (.inr (.inr (.inr fp))))), (jc, .inl (cI, 3, .inl fjc))] hpz) := by
  refine Met.ofW (cc := cX7_casesBy) (maxL := 3) (ret := (some .int)) (by decide) rfl ?_
  intro p e s m args below meth c s₁ B hml hv
  obtain ⟨rfl, hsz, hP, hK, hD0, hN, hZ⟩ := hv
  have hx := B.exec
  have hb := B.bytes
  have hr := B.returns
  have hts := atoms_spec (ws := wsX7_casesBy) B.pre
  have hown : s.vm.findClass RX7 = some m.cls := findClass_of_methodNamed B.named
  have hlocks := B.notSynchronized
  subst hsz
  have hD := hD0.self (sz := s.heap.size)
  have hA := zA_of hD
  have hl := lv_entry ([.ref x0, .int h, .int 3]) (n := 3) (Nat.le_of_ble_eq_true rfl)
  rw [lg_entry_eq]
  generalize (lg_sl ([.ref x0, .int h, .int 3]) ++ List.replicate (3 - (lg_sl ([.ref x0, .int h, .int 3])).length) Slot.unset).toArray = ls at hl ⊢
  replace hl : lv_has ls 3 [(0, .ref x0), (1, .int h), (2, .int 3)] := hl
  refine zw_begin hP hD (fun H locs hP1 hS => ?_)
  clear hP
  have hP := hP1
  clear hP1
  refine lv_aload_n hx hb dX7_casesBy_0 rfl (lv_at hl 0 rfl) ?_
  refine va_get (D := D) (ci := 7) (v := .ref w0) (C := RX7) (T := TX7) (N := 9) hx hb hts hi_X7_casesBy_7 hown hK hP 0 rfl rfl 3 (by decide) (hts (.fieldLink RX7 28 "TheLiningsInIt" "ways" "LTheLiningsInIt$Ways;") (List.mem_of_getElem? (i := 1) rfl)) (fun _ h9 => h9) rfl dX7_casesBy_1 ?_
  refine lv_aload_n hx hb dX7_casesBy_4 rfl (lv_at hl 0 rfl) ?_
  refine va_get (D := D) (ci := 7) (v := .ref j0) (C := RX7) (T := TX7) (N := 9) hx hb hts hi_X7_casesBy_7 hown hK hP 0 rfl rfl 1 (by decide) (hts (.fieldLink RX7 18 "TheLiningsInIt" "now" "LTheLiningsInIt$Jacket;") (List.mem_of_getElem? (i := 2) rfl)) (fun _ h9 => h9) rfl dX7_casesBy_5 ?_
  refine lv_iload_n hx hb dX7_casesBy_8 rfl (lv_at hl 1 rfl) ?_
  refine lv_iconst (v := 1) hx hb dX7_casesBy_9 (by decide) ?_
  have kc1 : (1 : Int32).toInt = 1 := by decide
  skip
  refine zw_Vv (As := [.ref j0, .int h, .int 1]) (rest := []) (wr := [(x0, .inr (7, [.ref xs, .ref j0, .ref k0, .ref w0, .ref rd, .ref mv, .ref xr, .int im, .int lf]))]) ⟨hx, hb, hml, hown, hts⟩ (c_F_W_look l D cI cJ cZ cP cS po w0 wk wl wc wp (wn) (wh) (wg) j0 jp jc z0 0 0 (cn) (de) (tr) (se) (hu) (sd) fp fq kf af tf fk fl fc fjc (h) (1) hy10 hy11 hy12 hy13 hy14 hy15 hy4 hy5 hy6 hy7 hy8 hy9 hy20 hy21 hwq hjp hp_fc hp_fjc H.size) (cwV 3 hts gX7_casesBy_X5_look rfl rfl rfl ⟨rfl, dh_X5_look⟩ ⟨Nat.le_of_ble_eq_true rfl, Nat.le_of_ble_eq_true rfl⟩) hK hN (hZ.kept hS) hP hD hS hA [2, 3, 4, 5, 6, 1, 7, 8] [0] rfl rfl (by decide) (by decide) (by decide) (va_recv (q := (RX5, TX5, 7)) hK hP (ci := 5) (q0 := 2) rfl rfl) rfl hl.1 rfl (Nat.le_of_ble_eq_true rfl) dX7_casesBy_10 ⟨Nat.le_of_ble_eq_true rfl, Nat.le_of_ble_eq_true rfl⟩ (fun u_2 H locs hr_1 hP hD hS => ?_)
  obtain ⟨q_3, q_4, q_5, q_6, q_7, q_8, q_9⟩ := u_2
  try dsimp only at hr_1
  obtain ⟨hbq_3, hbq_4, hbq_5, hpq_8, hwq_9, hsr_1_0, hsr_1_1, hsr_1_2, hsr_1_3, hsr_1_4, hsr_1_5, hr_1⟩ := hr_1
  have h9R := zRe (ws' := [(x0, .inr (7, [.ref xs, .ref j0, .ref k0, .ref w0, .ref rd, .ref mv, .ref xr, .int im, .int lf])), (w0, .inr (5, [.ref wk, .ref wl, .ref wc, .ref wp, .int q_3, .int q_4, .int q_5])), (wk, .inl (cI, 125, .inl q_6)), (wl, .inl (cI, 125, .inl q_7)), (wc, .inl (cI, 3, .inl q_8)), (wp, .inl (cP, 8, .inr (.inr (.inr (.inr q_9))))), (j0, .inr (0, [.ref z0, .ref jp, .ref jc, .int cn, .int de, .int tr, .int se, .int hu, .int sd])), (jp, .inl (cP, 8, .inr (.inr (.inr (.inr fp))))), (jc, .inl (cI, 3, .inl fjc))]) hP hD rfl
  clear hP hD
  obtain ⟨hP, hD⟩ := h9R
  obtain ⟨ewn, ewh⟩ := hsr_1_2
  have ewn9 := congrArg Int32.toInt ewn
  have ewh9 := congrArg Int32.toInt ewh
  have hjw9 : zJW po q_9 q_3 kf af tf (1 : Int32) := by (intro j hj; exact hsr_1_0 j (by rw [← ewn]; exact hj))
  have hkm9 : zKm kf af tf q_3.toInt.toNat q_4.toInt (1 : Int32).toInt q_5.toInt q_6 := zKm_0 hsr_1_4
  have hgl9 : ∀ p : Nat, p < q_3.toInt.toNat → ((1 : Int32).toInt ≠ 0 ∨ (kf p).toInt ≠ 5) → (tf p).toInt ≤ q_5.toInt := fun p hp hl => hsr_1_1 p (by rw [ewn] at hp; omega) hl
  have hkn9 : zKn kf af tf q_3.toInt.toNat q_4.toInt (q_8 0).toInt (q_8 1).toInt (q_8 2).toInt q_5.toInt q_7 := zKn_0 hsr_1_5
  have hgk9 : ∀ p : Nat, p < q_3.toInt.toNat → (tf p).toInt ≤ q_5.toInt := fun p hp => hgl9 p hp (Or.inl (by decide))
  refine lv_aload_n hx hb dX7_casesBy_13 rfl (lv_at hl 0 rfl) ?_
  refine va_get (D := D) (ci := 7) (v := .ref w0) (C := RX7) (T := TX7) (N := 9) hx hb hts hi_X7_casesBy_7 hown hK hP 0 rfl rfl 3 (by decide) (hts (.fieldLink RX7 28 "TheLiningsInIt" "ways" "LTheLiningsInIt$Ways;") (List.mem_of_getElem? (i := 1) rfl)) (fun _ h9 => h9) rfl dX7_casesBy_14 ?_
  refine lv_iload_n hx hb dX7_casesBy_17 rfl (lv_at hl 2 rfl) ?_
  refine lv_aload_n hx hb dX7_casesBy_18 rfl (lv_at hl 0 rfl) ?_
  refine va_get (D := D) (ci := 7) (v := .ref j0) (C := RX7) (T := TX7) (N := 9) hx hb hts hi_X7_casesBy_7 hown hK hP 0 rfl rfl 1 (by decide) (hts (.fieldLink RX7 18 "TheLiningsInIt" "now" "LTheLiningsInIt$Jacket;") (List.mem_of_getElem? (i := 2) rfl)) (fun _ h9 => h9) rfl dX7_casesBy_19 ?_
  refine va_get (D := D) (ci := 0) (v := .int de) (C := RX0) (T := TX0) (N := 9) hx hb hts hi_X7_casesBy_0 hown hK hP 6 rfl rfl 4 (by decide) (hts (.fieldLink RX7 199 "TheLiningsInIt$Jacket" "depth" "I") (List.mem_of_getElem? (i := 3) rfl)) (fun _ h9 => h9) rfl dX7_casesBy_22 ?_
  refine lv_aload_n hx hb dX7_casesBy_25 rfl (lv_at hl 0 rfl) ?_
  refine va_get (D := D) (ci := 7) (v := .ref j0) (C := RX7) (T := TX7) (N := 9) hx hb hts hi_X7_casesBy_7 hown hK hP 0 rfl rfl 1 (by decide) (hts (.fieldLink RX7 18 "TheLiningsInIt" "now" "LTheLiningsInIt$Jacket;") (List.mem_of_getElem? (i := 2) rfl)) (fun _ h9 => h9) rfl dX7_casesBy_26 ?_
  refine va_get (D := D) (ci := 0) (v := .int se) (C := RX0) (T := TX0) (N := 9) hx hb hts hi_X7_casesBy_0 hown hK hP 6 rfl rfl 6 (by decide) (hts (.fieldLink RX7 202 "TheLiningsInIt$Jacket" "seconds" "I") (List.mem_of_getElem? (i := 4) rfl)) (fun _ h9 => h9) rfl dX7_casesBy_29 ?_
  skip
  refine zw_VN (As := [.int 3, .int de, .int se]) (rest := []) (wr := [(x0, .inr (7, [.ref xs, .ref j0, .ref k0, .ref w0, .ref rd, .ref mv, .ref xr, .int im, .int lf])), (wl, .inl (cI, 125, .inl q_7)), (wc, .inl (cI, 3, .inl q_8)), (j0, .inr (0, [.ref z0, .ref jp, .ref jc, .int cn, .int de, .int tr, .int se, .int hu, .int sd])), (jp, .inl (cP, 8, .inr (.inr (.inr (.inr fp))))), (jc, .inl (cI, 3, .inl fjc))]) ⟨hx, hb, hml, hown, hts⟩ (c_F_W_most_3 l D cI cJ cZ cP cS po w0 wk wl wc wp (q_3) (q_4) (q_5) q_9 kf af tf (1) q_6 (de) (se) hbq_3.1 hbq_3.2 hbq_4.1 hbq_4.2 hbq_5.1 hbq_5.2 hjw9 (by first | assumption | omega) (by first | assumption | omega) hy6 hy7 hy18 hy19 H.size) ⟨(va_cnB 3 hts gX7_casesBy_X5_most_n208 rfl rfl rfl (hN.1 (RX7, 208, yX5_most) (List.mem_of_getElem? (i := 10) rfl)) (hts _ (List.mem_of_getElem? (i := 8) rfl)) dh_X5_most ⟨Nat.le_of_ble_eq_true rfl, Nat.le_of_ble_eq_true rfl⟩), (hts _ (List.mem_of_getElem? (i := 43) rfl)), (hts _ (List.mem_of_getElem? (i := 44) rfl))⟩ hK hN (hZ.kept hS) hP hD hS hA [1, 2, 5] [0, 3, 4, 6, 7, 8] rfl rfl (by decide) (by decide) (by decide) (va_recv (q := (RX5, TX5, 7)) hK hP (ci := 5) (q0 := 1) rfl rfl) rfl hl.1 rfl (Nat.le_of_ble_eq_true rfl) dX7_casesBy_32 ⟨Nat.le_of_ble_eq_true rfl, Nat.le_of_ble_eq_true rfl⟩ (fun r_10 u_11 H locs hr_10 hP hD hS => ?_)
  obtain ⟨q_12, rfl⟩ : ∃ z, z = u_11 := ⟨_, rfl⟩
  obtain ⟨hsr_10_0, hsr_10_1, hr_10⟩ := hr_10
  have h9R := zRe (ws' := [(x0, .inr (7, [.ref xs, .ref j0, .ref k0, .ref w0, .ref rd, .ref mv, .ref xr, .int im, .int lf])), (wl, .inl (cI, 125, .inl q_7)), (wc, .inl (cI, 3, .inl q_8)), (j0, .inr (0, [.ref z0, .ref jp, .ref jc, .int cn, .int de, .int tr, .int se, .int hu, .int sd])), (jp, .inl (cP, 8, .inr (.inr (.inr (.inr fp))))), (jc, .inl (cI, 3, .inl fjc)), (w0, .inr (5, [.ref wk, .ref wl, .ref wc, .ref wp, .int q_3, .int q_4, .int q_5])), (wk, .inl (cI, 125, .inl q_12)), (wp, .inl (cP, 8, .inr (.inr (.inr (.inr q_9)))))]) hP hD rfl
  clear hP hD
  obtain ⟨hP, hD⟩ := h9R
  obtain ⟨g_13, g_14⟩ := hr_10
  exact W.iret (v := r_10) hx hb hr (fun t ht hW => ⟨⟨r_10, (q_3, q_4, q_5, q_12, q_7, q_8, q_9), rfl, ⟨(show 0 ≤ q_3.toInt ∧ q_3.toInt ≤ 8 from hbq_3), (show 0 ≤ q_4.toInt ∧ q_4.toInt ≤ 9 from hbq_4), (show 0 ≤ q_5.toInt ∧ q_5.toInt ≤ 60 from hbq_5), hpq_8, hwq_9, (show (r_10 : Int32).toInt = zM kf af tf cn.toInt.toNat h.toInt 1 3 de.toInt se.toInt from by (have kte : (1 : Int32).toInt = 1 := (by decide); have z := hsr_10_1; rw [kte, ewn, ewh] at z; exact z)), ⟨by omega, by omega⟩⟩, zRet ht hP hD [0, 3, 6, 7, 1, 2, 8, 4, 5] (by decide) rfl⟩, hS.F ht⟩) hS.2.2 dX7_casesBy_35
set_option maxHeartbeats 4000000 in
set_option maxRecDepth 100000 in
theorem c_F_X_casesBy_4 (l : Launch) (D : va_G) (cI cJ cZ cP cS : ClassId) (po : zPool) (x0 xs j0 k0 w0 rd mv xr : Nat) (im lf : Int32) (fr : Nat → Int32) (j0 jp jc z0 zl zs : Nat) (cn de tr se hu sd : Int32) (wk wl wc wp : Nat) (wn wh wg : Int32) (fq : Nat → Option Nat) (fk fl fc fjc : Nat → Int32) (fp : Nat → Option Nat) (kf af tf : Nat → Int32) (h : Int32) (hy0 : 0 ≤ im.toInt) (hy1 : im.toInt ≤ 1) (hy2 : (-1) ≤ lf.toInt) (hy3 : lf.toInt ≤ 160) (hy4 : 0 ≤ cn.toInt) (hy5 : cn.toInt ≤ 8) (hy6 : 0 ≤ de.toInt) (hy7 : de.toInt ≤ 24) (hy8 : 0 ≤ hu.toInt) (hy9 : hu.toInt ≤ 9) (hy10 : 0 ≤ wn.toInt) (hy11 : wn.toInt ≤ 8) (hy12 : 0 ≤ wh.toInt) (hy13 : wh.toInt ≤ 9) (hy14 : 0 ≤ wg.toInt) (hy15 : wg.toInt ≤ 60) (hwq : zWP po fq) (hjp : zJP po fp cn kf af tf) (hy18 : 0 ≤ se.toInt) (hy19 : se.toInt ≤ 300) (hy20 : 0 ≤ h.toInt) (hy21 : h.toInt ≤ 9) (hp_fc : zRg fc (0) 99) (hp_fjc : zRg fjc (0) 99) (hpz : Nat) : Met l yX7_casesBy wsX7_casesBy ({ frames := 10, cells := 0, slots := 0, locals := 264 }) (va_Pc [.ref x0, .int h, .int 4] (zW D (zKT cI cJ cZ cP cS) po [(x0, .inr (7, [.ref xs, .ref j0, .ref k0, .ref w0, .ref rd, .ref mv, .ref xr, .int im, .int lf])), (j0, .inr (0, [.ref z0, .ref jp, .ref jc, .int cn, .int de, .int tr, .int se, .int hu, .int sd])), (w0, .inr (5, [.ref wk, .ref wl, .ref wc, .ref wp, .int wn, .int wh, .int wg])), (wk, .inl (cI, 125, .inl fk)), (wl, .inl (cI, 125, .inl fl)), (wc, .inl (cI, 3, .inl fc)), (wp, .inl (cP, 8, .inr (.inr (.inr (.inr fq))))), (jp, .inl (cP, 8, .inr (.inr (.inr (.inr fp))))), (jc, .inl (cI, 3, .inl fjc))] hpz)) (va_Qi (fun (r : Int32) (u : (Int32) × (Int32) × (Int32) × (Nat → Int32) × (Nat → Int32) × (Nat → Int32) × (Nat → Option Nat)) => (0 ≤ u.1.toInt ∧ u.1.toInt ≤ 8) ∧ (0 ≤ u.2.1.toInt ∧ u.2.1.toInt ≤ 9) ∧ (0 ≤ u.2.2.1.toInt ∧ u.2.2.1.toInt ≤ 60) ∧ zRg u.2.2.2.2.2.1 (0) 99 ∧ zWP po u.2.2.2.2.2.2 ∧ (r.toInt = zM kf af tf cn.toInt.toNat h.toInt 1 4 de.toInt se.toInt) ∧ (0 ≤ r.toInt ∧ r.toInt ≤ 20736)) (zB D [(x0, .inr (7, [.ref xs, .ref j0, .ref k0, .ref w0, .ref rd, .ref mv, .ref xr, .int im, .int lf])), (j0, .inr (0, [.ref z0, .ref jp, .ref jc, .int cn, .int de, .int tr, .int se, .int hu, .int sd])), (w0, .inr (5, [.ref wk, .ref wl, .ref wc, .ref wp, .int wn, .int wh, .int wg])), (wk, .inl (cI, 125, .inl fk)), (wl, .inl (cI, 125, .inl fl)), (wc, .inl (cI, 3, .inl fc)), (wp, .inl (cP, 8, .inr (.inr (.inr (.inr fq))))), (jp, .inl (cP, 8, .inr (.inr (.inr (.inr fp))))), (jc, .inl (cI, 3, .inl fjc))] hpz (fun (u : (Int32) × (Int32) × (Int32) × (Nat → Int32) × (Nat → Int32) × (Nat → Int32) × (Nat → Option Nat)) => [(x0, .inr (7, [.ref xs, .ref j0, .ref k0, .ref w0, .ref rd, .ref mv, .ref xr, .int im, .int lf])), (j0, .inr (0, [.ref z0, .ref jp, .ref jc, .int cn, .int de, .int tr, .int se, .int hu, .int sd])), (w0, .inr (5, [.ref wk, .ref wl, .ref wc, .ref wp, .int u.1, .int u.2.1, .int u.2.2.1])), (wk, .inl (cI, 125, .inl u.2.2.2.1)), (wl, .inl (cI, 125, .inl u.2.2.2.2.1)), (wc, .inl (cI, 3, .inl u.2.2.2.2.2.1)), (wp, .inl (cP, 8, .inr (.inr (.inr (.inr u.2.2.2.2.2.2))))), (jp, .inl (cP, 8, .inr (.inr (.inr (.inr fp))))), (jc, .inl (cI, 3, .inl fjc))])) (va_A [(x0, .inr (7, [.ref xs, .ref j0, .ref k0, .ref w0, .ref rd, .ref mv, .ref xr, .int im, .int lf])), (j0, .inr (0, [.ref z0, .ref jp, .ref jc, .int cn, .int de, .int tr, .int se, .int hu, .int sd])), (w0, .inr (5, [.ref wk, .ref wl, .ref wc, .ref wp, .int wn, .int wh, .int wg])), (wk, .inl (cI, 125, .inl fk)), (wl, .inl (cI, 125, .inl fl)), (wc, .inl (cI, 3, .inl fc)), (wp, .inl (cP, 8, .inr (.inr (.inr (.inr fq))))), (jp, .inl (cP, 8, .inr (.inr (.inr (.inr fp))))), (jc, .inl (cI, 3, .inl fjc))] hpz)) 0 0 (va_A [(x0, .inr (7, [.ref xs, .ref j0, .ref k0, .ref w0, .ref rd, .ref mv, .ref xr, .int im, .int lf])), (j0, .inr (0, [.ref z0, .ref jp, .ref jc, .int cn, .int de, .int tr, .int se, .int hu, .int sd])), (w0, .inr (5, [.ref wk, .ref wl, .ref wc, .ref wp, .int wn, .int wh, .int wg])), (wk, .inl (cI, 125, .inl fk)), (wl, .inl (cI, 125, .inl fl)), (wc, .inl (cI, 3, .inl fc)), (wp, .inl (cP, 8, .inr (.inr (.inr (.inr fq))))), (jp, .inl (cP, 8, .inr (.inr (.inr (.inr fp))))), (jc, .inl (cI, 3, .inl fjc))] hpz) := by
  refine Met.ofW (cc := cX7_casesBy) (maxL := 3) (ret := (some .int)) (by decide) rfl ?_
  intro p e s m args below meth c s₁ B hml hv
  obtain ⟨rfl, hsz, hP, hK, hD0, hN, hZ⟩ := hv
  have hx := B.exec
  have hb := B.bytes
  have hr := B.returns
  have hts := atoms_spec (ws := wsX7_casesBy) B.pre
  have hown : s.vm.findClass RX7 = some m.cls := findClass_of_methodNamed B.named
  have hlocks := B.notSynchronized
  subst hsz
  have hD := hD0.self (sz := s.heap.size)
  have hA := zA_of hD
  have hl := lv_entry ([.ref x0, .int h, .int 4]) (n := 3) (Nat.le_of_ble_eq_true rfl)
  rw [lg_entry_eq]
  generalize (lg_sl ([.ref x0, .int h, .int 4]) ++ List.replicate (3 - (lg_sl ([.ref x0, .int h, .int 4])).length) Slot.unset).toArray = ls at hl ⊢
  replace hl : lv_has ls 3 [(0, .ref x0), (1, .int h), (2, .int 4)] := hl
  refine zw_begin hP hD (fun H locs hP1 hS => ?_)
  clear hP
  have hP := hP1
  clear hP1
  refine lv_aload_n hx hb dX7_casesBy_0 rfl (lv_at hl 0 rfl) ?_
  refine va_get (D := D) (ci := 7) (v := .ref w0) (C := RX7) (T := TX7) (N := 9) hx hb hts hi_X7_casesBy_7 hown hK hP 0 rfl rfl 3 (by decide) (hts (.fieldLink RX7 28 "TheLiningsInIt" "ways" "LTheLiningsInIt$Ways;") (List.mem_of_getElem? (i := 1) rfl)) (fun _ h9 => h9) rfl dX7_casesBy_1 ?_
  refine lv_aload_n hx hb dX7_casesBy_4 rfl (lv_at hl 0 rfl) ?_
  refine va_get (D := D) (ci := 7) (v := .ref j0) (C := RX7) (T := TX7) (N := 9) hx hb hts hi_X7_casesBy_7 hown hK hP 0 rfl rfl 1 (by decide) (hts (.fieldLink RX7 18 "TheLiningsInIt" "now" "LTheLiningsInIt$Jacket;") (List.mem_of_getElem? (i := 2) rfl)) (fun _ h9 => h9) rfl dX7_casesBy_5 ?_
  refine lv_iload_n hx hb dX7_casesBy_8 rfl (lv_at hl 1 rfl) ?_
  refine lv_iconst (v := 1) hx hb dX7_casesBy_9 (by decide) ?_
  have kc1 : (1 : Int32).toInt = 1 := by decide
  skip
  refine zw_Vv (As := [.ref j0, .int h, .int 1]) (rest := []) (wr := [(x0, .inr (7, [.ref xs, .ref j0, .ref k0, .ref w0, .ref rd, .ref mv, .ref xr, .int im, .int lf]))]) ⟨hx, hb, hml, hown, hts⟩ (c_F_W_look l D cI cJ cZ cP cS po w0 wk wl wc wp (wn) (wh) (wg) j0 jp jc z0 0 0 (cn) (de) (tr) (se) (hu) (sd) fp fq kf af tf fk fl fc fjc (h) (1) hy10 hy11 hy12 hy13 hy14 hy15 hy4 hy5 hy6 hy7 hy8 hy9 hy20 hy21 hwq hjp hp_fc hp_fjc H.size) (cwV 3 hts gX7_casesBy_X5_look rfl rfl rfl ⟨rfl, dh_X5_look⟩ ⟨Nat.le_of_ble_eq_true rfl, Nat.le_of_ble_eq_true rfl⟩) hK hN (hZ.kept hS) hP hD hS hA [2, 3, 4, 5, 6, 1, 7, 8] [0] rfl rfl (by decide) (by decide) (by decide) (va_recv (q := (RX5, TX5, 7)) hK hP (ci := 5) (q0 := 2) rfl rfl) rfl hl.1 rfl (Nat.le_of_ble_eq_true rfl) dX7_casesBy_10 ⟨Nat.le_of_ble_eq_true rfl, Nat.le_of_ble_eq_true rfl⟩ (fun u_2 H locs hr_1 hP hD hS => ?_)
  obtain ⟨q_3, q_4, q_5, q_6, q_7, q_8, q_9⟩ := u_2
  try dsimp only at hr_1
  obtain ⟨hbq_3, hbq_4, hbq_5, hpq_8, hwq_9, hsr_1_0, hsr_1_1, hsr_1_2, hsr_1_3, hsr_1_4, hsr_1_5, hr_1⟩ := hr_1
  have h9R := zRe (ws' := [(x0, .inr (7, [.ref xs, .ref j0, .ref k0, .ref w0, .ref rd, .ref mv, .ref xr, .int im, .int lf])), (w0, .inr (5, [.ref wk, .ref wl, .ref wc, .ref wp, .int q_3, .int q_4, .int q_5])), (wk, .inl (cI, 125, .inl q_6)), (wl, .inl (cI, 125, .inl q_7)), (wc, .inl (cI, 3, .inl q_8)), (wp, .inl (cP, 8, .inr (.inr (.inr (.inr q_9))))), (j0, .inr (0, [.ref z0, .ref jp, .ref jc, .int cn, .int de, .int tr, .int se, .int hu, .int sd])), (jp, .inl (cP, 8, .inr (.inr (.inr (.inr fp))))), (jc, .inl (cI, 3, .inl fjc))]) hP hD rfl
  clear hP hD
  obtain ⟨hP, hD⟩ := h9R
  obtain ⟨ewn, ewh⟩ := hsr_1_2
  have ewn9 := congrArg Int32.toInt ewn
  have ewh9 := congrArg Int32.toInt ewh
  have hjw9 : zJW po q_9 q_3 kf af tf (1 : Int32) := by (intro j hj; exact hsr_1_0 j (by rw [← ewn]; exact hj))
  have hkm9 : zKm kf af tf q_3.toInt.toNat q_4.toInt (1 : Int32).toInt q_5.toInt q_6 := zKm_0 hsr_1_4
  have hgl9 : ∀ p : Nat, p < q_3.toInt.toNat → ((1 : Int32).toInt ≠ 0 ∨ (kf p).toInt ≠ 5) → (tf p).toInt ≤ q_5.toInt := fun p hp hl => hsr_1_1 p (by rw [ewn] at hp; omega) hl
  have hkn9 : zKn kf af tf q_3.toInt.toNat q_4.toInt (q_8 0).toInt (q_8 1).toInt (q_8 2).toInt q_5.toInt q_7 := zKn_0 hsr_1_5
  have hgk9 : ∀ p : Nat, p < q_3.toInt.toNat → (tf p).toInt ≤ q_5.toInt := fun p hp => hgl9 p hp (Or.inl (by decide))
  refine lv_aload_n hx hb dX7_casesBy_13 rfl (lv_at hl 0 rfl) ?_
  refine va_get (D := D) (ci := 7) (v := .ref w0) (C := RX7) (T := TX7) (N := 9) hx hb hts hi_X7_casesBy_7 hown hK hP 0 rfl rfl 3 (by decide) (hts (.fieldLink RX7 28 "TheLiningsInIt" "ways" "LTheLiningsInIt$Ways;") (List.mem_of_getElem? (i := 1) rfl)) (fun _ h9 => h9) rfl dX7_casesBy_14 ?_
  refine lv_iload_n hx hb dX7_casesBy_17 rfl (lv_at hl 2 rfl) ?_
  refine lv_aload_n hx hb dX7_casesBy_18 rfl (lv_at hl 0 rfl) ?_
  refine va_get (D := D) (ci := 7) (v := .ref j0) (C := RX7) (T := TX7) (N := 9) hx hb hts hi_X7_casesBy_7 hown hK hP 0 rfl rfl 1 (by decide) (hts (.fieldLink RX7 18 "TheLiningsInIt" "now" "LTheLiningsInIt$Jacket;") (List.mem_of_getElem? (i := 2) rfl)) (fun _ h9 => h9) rfl dX7_casesBy_19 ?_
  refine va_get (D := D) (ci := 0) (v := .int de) (C := RX0) (T := TX0) (N := 9) hx hb hts hi_X7_casesBy_0 hown hK hP 6 rfl rfl 4 (by decide) (hts (.fieldLink RX7 199 "TheLiningsInIt$Jacket" "depth" "I") (List.mem_of_getElem? (i := 3) rfl)) (fun _ h9 => h9) rfl dX7_casesBy_22 ?_
  refine lv_aload_n hx hb dX7_casesBy_25 rfl (lv_at hl 0 rfl) ?_
  refine va_get (D := D) (ci := 7) (v := .ref j0) (C := RX7) (T := TX7) (N := 9) hx hb hts hi_X7_casesBy_7 hown hK hP 0 rfl rfl 1 (by decide) (hts (.fieldLink RX7 18 "TheLiningsInIt" "now" "LTheLiningsInIt$Jacket;") (List.mem_of_getElem? (i := 2) rfl)) (fun _ h9 => h9) rfl dX7_casesBy_26 ?_
  refine va_get (D := D) (ci := 0) (v := .int se) (C := RX0) (T := TX0) (N := 9) hx hb hts hi_X7_casesBy_0 hown hK hP 6 rfl rfl 6 (by decide) (hts (.fieldLink RX7 202 "TheLiningsInIt$Jacket" "seconds" "I") (List.mem_of_getElem? (i := 4) rfl)) (fun _ h9 => h9) rfl dX7_casesBy_29 ?_
  skip
  refine zw_VN (As := [.int 4, .int de, .int se]) (rest := []) (wr := [(x0, .inr (7, [.ref xs, .ref j0, .ref k0, .ref w0, .ref rd, .ref mv, .ref xr, .int im, .int lf])), (wl, .inl (cI, 125, .inl q_7)), (wc, .inl (cI, 3, .inl q_8)), (j0, .inr (0, [.ref z0, .ref jp, .ref jc, .int cn, .int de, .int tr, .int se, .int hu, .int sd])), (jp, .inl (cP, 8, .inr (.inr (.inr (.inr fp))))), (jc, .inl (cI, 3, .inl fjc))]) ⟨hx, hb, hml, hown, hts⟩ (c_F_W_most_4 l D cI cJ cZ cP cS po w0 wk wl wc wp (q_3) (q_4) (q_5) q_9 kf af tf (1) q_6 (de) (se) hbq_3.1 hbq_3.2 hbq_4.1 hbq_4.2 hbq_5.1 hbq_5.2 hjw9 (by first | assumption | omega) (by first | assumption | omega) hy6 hy7 hy18 hy19 H.size) ⟨(va_cnB 3 hts gX7_casesBy_X5_most_n208 rfl rfl rfl (hN.1 (RX7, 208, yX5_most) (List.mem_of_getElem? (i := 10) rfl)) (hts _ (List.mem_of_getElem? (i := 8) rfl)) dh_X5_most ⟨Nat.le_of_ble_eq_true rfl, Nat.le_of_ble_eq_true rfl⟩), (hts _ (List.mem_of_getElem? (i := 43) rfl)), (hts _ (List.mem_of_getElem? (i := 44) rfl))⟩ hK hN (hZ.kept hS) hP hD hS hA [1, 2, 5] [0, 3, 4, 6, 7, 8] rfl rfl (by decide) (by decide) (by decide) (va_recv (q := (RX5, TX5, 7)) hK hP (ci := 5) (q0 := 1) rfl rfl) rfl hl.1 rfl (Nat.le_of_ble_eq_true rfl) dX7_casesBy_32 ⟨Nat.le_of_ble_eq_true rfl, Nat.le_of_ble_eq_true rfl⟩ (fun r_10 u_11 H locs hr_10 hP hD hS => ?_)
  obtain ⟨q_12, rfl⟩ : ∃ z, z = u_11 := ⟨_, rfl⟩
  obtain ⟨hsr_10_0, hsr_10_1, hr_10⟩ := hr_10
  have h9R := zRe (ws' := [(x0, .inr (7, [.ref xs, .ref j0, .ref k0, .ref w0, .ref rd, .ref mv, .ref xr, .int im, .int lf])), (wl, .inl (cI, 125, .inl q_7)), (wc, .inl (cI, 3, .inl q_8)), (j0, .inr (0, [.ref z0, .ref jp, .ref jc, .int cn, .int de, .int tr, .int se, .int hu, .int sd])), (jp, .inl (cP, 8, .inr (.inr (.inr (.inr fp))))), (jc, .inl (cI, 3, .inl fjc)), (w0, .inr (5, [.ref wk, .ref wl, .ref wc, .ref wp, .int q_3, .int q_4, .int q_5])), (wk, .inl (cI, 125, .inl q_12)), (wp, .inl (cP, 8, .inr (.inr (.inr (.inr q_9)))))]) hP hD rfl
  clear hP hD
  obtain ⟨hP, hD⟩ := h9R
  obtain ⟨g_13, g_14⟩ := hr_10
  exact W.iret (v := r_10) hx hb hr (fun t ht hW => ⟨⟨r_10, (q_3, q_4, q_5, q_12, q_7, q_8, q_9), rfl, ⟨(show 0 ≤ q_3.toInt ∧ q_3.toInt ≤ 8 from hbq_3), (show 0 ≤ q_4.toInt ∧ q_4.toInt ≤ 9 from hbq_4), (show 0 ≤ q_5.toInt ∧ q_5.toInt ≤ 60 from hbq_5), hpq_8, hwq_9, (show (r_10 : Int32).toInt = zM kf af tf cn.toInt.toNat h.toInt 1 4 de.toInt se.toInt from by (have kte : (1 : Int32).toInt = 1 := (by decide); have z := hsr_10_1; rw [kte, ewn, ewh] at z; exact z)), ⟨by omega, by omega⟩⟩, zRet ht hP hD [0, 3, 6, 7, 1, 2, 8, 4, 5] (by decide) rfl⟩, hS.F ht⟩) hS.2.2 dX7_casesBy_35
end
section
set_option maxHeartbeats 4000000 in
set_option maxRecDepth 100000 in
theorem c_F_X_haste (l : Launch) (D : va_G) (cI cJ cZ cP cS : ClassId) (po : zPool) (x0 xs j0 k0 w0 rd mv xr : Nat) (im lf : Int32) (fr : Nat → Int32) (j0 jp jc z0 zl zs : Nat) (cn de tr se hu sd : Int32) (wk wl wc wp : Nat) (wn wh wg : Int32) (fq : Nat → Option Nat) (fk fl fc fjc : Nat → Int32) (fp : Nat → Option Nat) (kf af tf : Nat → Int32) (n w : Int32) (hy0 : 0 ≤ im.toInt) (hy1 : im.toInt ≤ 1) (hy2 : (-1) ≤ lf.toInt) (hy3 : lf.toInt ≤ 160) (hy4 : 0 ≤ cn.toInt) (hy5 : cn.toInt ≤ 8) (hy6 : 0 ≤ de.toInt) (hy7 : de.toInt ≤ 24) (hy8 : 0 ≤ hu.toInt) (hy9 : hu.toInt ≤ 9) (hy10 : 0 ≤ wn.toInt) (hy11 : wn.toInt ≤ 8) (hy12 : 0 ≤ wh.toInt) (hy13 : wh.toInt ≤ 9) (hy14 : 0 ≤ wg.toInt) (hy15 : wg.toInt ≤ 60) (hwq : zWP po fq) (hjp : zJP po fp cn kf af tf) (hy18 : 0 ≤ se.toInt) (hy19 : se.toInt ≤ 300) (hp_fc : zRg fc (0) 99) (hp_fjc : zRg fjc (0) 99) (hpz : Nat) : Met l yX7_haste wsX7_haste ({ frames := 11, cells := 0, slots := 0, locals := 286 }) (va_Pc [.ref x0, .int n, .int w] (zW D (zKT cI cJ cZ cP cS) po [(x0, .inr (7, [.ref xs, .ref j0, .ref k0, .ref w0, .ref rd, .ref mv, .ref xr, .int im, .int lf])), (xr, .inl (cI, 8, .inl fr)), (j0, .inr (0, [.ref z0, .ref jp, .ref jc, .int cn, .int de, .int tr, .int se, .int hu, .int sd])), (w0, .inr (5, [.ref wk, .ref wl, .ref wc, .ref wp, .int wn, .int wh, .int wg])), (wk, .inl (cI, 125, .inl fk)), (wl, .inl (cI, 125, .inl fl)), (wc, .inl (cI, 3, .inl fc)), (wp, .inl (cP, 8, .inr (.inr (.inr (.inr fq))))), (jp, .inl (cP, 8, .inr (.inr (.inr (.inr fp))))), (jc, .inl (cI, 3, .inl fjc))] hpz)) (va_Qi (fun (r : Int32) (u : (Int32) × (Int32) × (Int32) × (Nat → Int32) × (Nat → Int32) × (Nat → Int32) × (Nat → Option Nat) × (Nat → Int32)) => (0 ≤ u.1.toInt ∧ u.1.toInt ≤ 8) ∧ (0 ≤ u.2.1.toInt ∧ u.2.1.toInt ≤ 9) ∧ (0 ≤ u.2.2.1.toInt ∧ u.2.2.1.toInt ≤ 60) ∧ zRg u.2.2.2.2.2.1 (0) 99 ∧ zWP po u.2.2.2.2.2.2.1 ∧ (((w.toInt < 0 ∨ 1 < w.toInt) ∧ r.toInt = -5) ∨ ((0 ≤ w.toInt ∧ w.toInt ≤ 1) ∧ (((n.toInt < 0 ∨ 4 < n.toInt) ∧ r.toInt = -6) ∨ ((0 ≤ n.toInt ∧ n.toInt ≤ 4) ∧ ((w.toInt = 1 ∧ r.toInt = (if (zHv kf af tf cn.toInt.toNat n.toInt.toNat de.toInt se.toInt) 9 < (zHv kf af tf cn.toInt.toNat n.toInt.toNat de.toInt se.toInt) 0 then 1 else 0)) ∨ (w.toInt = 0 ∧ r.toInt = (zHs (zHv kf af tf cn.toInt.toNat n.toInt.toNat de.toInt se.toInt) 9 : Nat))))))) ∧ (True)) (zB D [(x0, .inr (7, [.ref xs, .ref j0, .ref k0, .ref w0, .ref rd, .ref mv, .ref xr, .int im, .int lf])), (xr, .inl (cI, 8, .inl fr)), (j0, .inr (0, [.ref z0, .ref jp, .ref jc, .int cn, .int de, .int tr, .int se, .int hu, .int sd])), (w0, .inr (5, [.ref wk, .ref wl, .ref wc, .ref wp, .int wn, .int wh, .int wg])), (wk, .inl (cI, 125, .inl fk)), (wl, .inl (cI, 125, .inl fl)), (wc, .inl (cI, 3, .inl fc)), (wp, .inl (cP, 8, .inr (.inr (.inr (.inr fq))))), (jp, .inl (cP, 8, .inr (.inr (.inr (.inr fp))))), (jc, .inl (cI, 3, .inl fjc))] hpz (fun (u : (Int32) × (Int32) × (Int32) × (Nat → Int32) × (Nat → Int32) × (Nat → Int32) × (Nat → Option Nat) × (Nat → Int32)) => [(x0, .inr (7, [.ref xs, .ref j0, .ref k0, .ref w0, .ref rd, .ref mv, .ref xr, .int im, .int lf])), (xr, .inl (cI, 8, .inl u.2.2.2.2.2.2.2)), (j0, .inr (0, [.ref z0, .ref jp, .ref jc, .int cn, .int de, .int tr, .int se, .int hu, .int sd])), (w0, .inr (5, [.ref wk, .ref wl, .ref wc, .ref wp, .int u.1, .int u.2.1, .int u.2.2.1])), (wk, .inl (cI, 125, .inl u.2.2.2.1)), (wl, .inl (cI, 125, .inl u.2.2.2.2.1)), (wc, .inl (cI, 3, .inl u.2.2.2.2.2.1)), (wp, .inl (cP, 8, .inr (.inr (.inr (.inr u.2.2.2.2.2.2.1))))), (jp, .inl (cP, 8, .inr (.inr (.inr (.inr fp))))), (jc, .inl (cI, 3, .inl fjc))])) (va_A [(x0, .inr (7, [.ref xs, .ref j0, .ref k0, .ref w0, .ref rd, .ref mv, .ref xr, .int im, .int lf])), (xr, .inl (cI, 8, .inl fr)), (j0, .inr (0, [.ref z0, .ref jp, .ref jc, .int cn, .int de, .int tr, .int se, .int hu, .int sd])), (w0, .inr (5, [.ref wk, .ref wl, .ref wc, .ref wp, .int wn, .int wh, .int wg])), (wk, .inl (cI, 125, .inl fk)), (wl, .inl (cI, 125, .inl fl)), (wc, .inl (cI, 3, .inl fc)), (wp, .inl (cP, 8, .inr (.inr (.inr (.inr fq))))), (jp, .inl (cP, 8, .inr (.inr (.inr (.inr fp))))), (jc, .inl (cI, 3, .inl fjc))] hpz)) 0 0 (va_A [(x0, .inr (7, [.ref xs, .ref j0, .ref k0, .ref w0, .ref rd, .ref mv, .ref xr, .int im, .int lf])), (xr, .inl (cI, 8, .inl fr)), (j0, .inr (0, [.ref z0, .ref jp, .ref jc, .int cn, .int de, .int tr, .int se, .int hu, .int sd])), (w0, .inr (5, [.ref wk, .ref wl, .ref wc, .ref wp, .int wn, .int wh, .int wg])), (wk, .inl (cI, 125, .inl fk)), (wl, .inl (cI, 125, .inl fl)), (wc, .inl (cI, 3, .inl fc)), (wp, .inl (cP, 8, .inr (.inr (.inr (.inr fq))))), (jp, .inl (cP, 8, .inr (.inr (.inr (.inr fp))))), (jc, .inl (cI, 3, .inl fjc))] hpz) := by
  refine Met.ofW (cc := cX7_haste) (maxL := 7) (ret := (some .int)) (by decide) rfl ?_
  intro p e s m args below meth c s₁ B hml hv
  obtain ⟨rfl, hsz, hP, hK, hD0, hN, hZ⟩ := hv
  have hx := B.exec
  have hb := B.bytes
  have hr := B.returns
  have hts := atoms_spec (ws := wsX7_haste) B.pre
  have hown : s.vm.findClass RX7 = some m.cls := findClass_of_methodNamed B.named
  have hlocks := B.notSynchronized
  subst hsz
  have hD := hD0.self (sz := s.heap.size)
  have hA := zA_of hD
  have hl := lv_entry ([.ref x0, .int n, .int w]) (n := 7) (Nat.le_of_ble_eq_true rfl)
  rw [lg_entry_eq]
  generalize (lg_sl ([.ref x0, .int n, .int w]) ++ List.replicate (7 - (lg_sl ([.ref x0, .int n, .int w])).length) Slot.unset).toArray = ls at hl ⊢
  replace hl : lv_has ls 7 [(0, .ref x0), (1, .int n), (2, .int w)] := hl
  refine zw_begin hP hD (fun H locs hP1 hS => ?_)
  clear hP
  have hP := hP1
  clear hP1
  refine lv_iload_n hx hb dX7_haste_0 rfl (lv_at hl 2 rfl) ?_
  refine lv_iconst (v := 0) hx hb dX7_haste_1 (by decide) ?_
  refine lv_iconst (v := 1) hx hb dX7_haste_2 (by decide) ?_
  have kc0 : (0 : Int32).toInt = 0 := by decide
  have kc1 : (1 : Int32).toInt = 1 := by decide
  refine zc_S (As := [.int w, .int 0, .int 1]) (rest := []) ⟨hx, hb, hml, hown, hts⟩ (c_within l D cI cJ cZ cP cS po (w) (0) (1) ) (va_cwS 3 hts gX7_haste_X7_within rfl rfl rfl dh_X7_within ⟨Nat.le_of_ble_eq_true rfl, Nat.le_of_ble_eq_true rfl⟩) hK hN (hZ.kept hS) rfl hl.1 rfl (Nat.le_of_ble_eq_true rfl) dX7_haste_3 ⟨Nat.le_of_ble_eq_true rfl, Nat.le_of_ble_eq_true rfl⟩ (fun r_1 hr_1 => ?_)
  rcases hr_1 with ⟨rfl, g_2⟩ | ⟨rfl, g_3, g_4⟩ | ⟨rfl, g_5, g_6⟩
  · refine lv_if_ne (tgt := 15) hx hb dX7_haste_6 (by decide) (fun c_7 => ?_) (fun c_7 => ?_)
    · exact absurd c_7 (by decide)
    · refine lv_aload_n hx hb dX7_haste_9 rfl (lv_at hl 0 rfl) ?_
      refine lv_iconst (v := 5) hx hb dX7_haste_10 (by decide) ?_
      skip
      refine zw_V (As := [.int 5]) (rest := []) (wr := [(j0, .inr (0, [.ref z0, .ref jp, .ref jc, .int cn, .int de, .int tr, .int se, .int hu, .int sd])), (w0, .inr (5, [.ref wk, .ref wl, .ref wc, .ref wp, .int wn, .int wh, .int wg])), (wk, .inl (cI, 125, .inl fk)), (wl, .inl (cI, 125, .inl fl)), (wc, .inl (cI, 3, .inl fc)), (wp, .inl (cP, 8, .inr (.inr (.inr (.inr fq))))), (jp, .inl (cP, 8, .inr (.inr (.inr (.inr fp))))), (jc, .inl (cI, 3, .inl fjc))]) ⟨hx, hb, hml, hown, hts⟩ (c_X_refuse_5 l D cI cJ cZ cP cS po x0 xs j0 k0 w0 rd mv xr (im) (lf) fr hy0 hy1 hy2 hy3 H.size) (cwV 1 hts gX7_haste_X7_refuse rfl rfl rfl ⟨rfl, dh_X7_refuse⟩ ⟨Nat.le_of_ble_eq_true rfl, Nat.le_of_ble_eq_true rfl⟩) hK hN (hZ.kept hS) hP hD hS hA [0, 1] [2, 3, 4, 5, 6, 7, 8, 9] rfl rfl (by decide) (by decide) (by decide) (va_recv (q := (RX7, TX7, 9)) hK hP (ci := 7) (q0 := 0) rfl rfl) rfl hl.1 rfl (Nat.le_of_ble_eq_true rfl) dX7_haste_11 ⟨Nat.le_of_ble_eq_true rfl, Nat.le_of_ble_eq_true rfl⟩ (fun r_8 u_9 H locs hr_8 hP hD hS => ?_)
      obtain ⟨q_10, rfl⟩ : ∃ z, z = u_9 := ⟨_, rfl⟩
      have h9R := zRe (ws' := [(j0, .inr (0, [.ref z0, .ref jp, .ref jc, .int cn, .int de, .int tr, .int se, .int hu, .int sd])), (w0, .inr (5, [.ref wk, .ref wl, .ref wc, .ref wp, .int wn, .int wh, .int wg])), (wk, .inl (cI, 125, .inl fk)), (wl, .inl (cI, 125, .inl fl)), (wc, .inl (cI, 3, .inl fc)), (wp, .inl (cP, 8, .inr (.inr (.inr (.inr fq))))), (jp, .inl (cP, 8, .inr (.inr (.inr (.inr fp))))), (jc, .inl (cI, 3, .inl fjc)), (x0, .inr (7, [.ref xs, .ref j0, .ref k0, .ref w0, .ref rd, .ref mv, .ref xr, .int im, .int lf])), (xr, .inl (cI, 8, .inl q_10))]) hP hD rfl
      clear hP hD
      obtain ⟨hP, hD⟩ := h9R
      obtain rfl := hr_8
      exact W.iret (v := (-5)) hx hb hr (fun t ht hW => ⟨⟨(-5), (wn, wh, wg, fk, fl, fc, fq, q_10), rfl, ⟨(show 0 ≤ wn.toInt ∧ wn.toInt ≤ 8 from ⟨hy10, hy11⟩), (show 0 ≤ wh.toInt ∧ wh.toInt ≤ 9 from ⟨hy12, hy13⟩), (show 0 ≤ wg.toInt ∧ wg.toInt ≤ 60 from ⟨hy14, hy15⟩), hp_fc, hwq, (show ((w.toInt < 0 ∨ 1 < w.toInt) ∧ ((-5) : Int32).toInt = -5) ∨ ((0 ≤ w.toInt ∧ w.toInt ≤ 1) ∧ (((n.toInt < 0 ∨ 4 < n.toInt) ∧ ((-5) : Int32).toInt = -6) ∨ ((0 ≤ n.toInt ∧ n.toInt ≤ 4) ∧ ((w.toInt = 1 ∧ ((-5) : Int32).toInt = (if (zHv kf af tf cn.toInt.toNat n.toInt.toNat de.toInt se.toInt) 9 < (zHv kf af tf cn.toInt.toNat n.toInt.toNat de.toInt se.toInt) 0 then 1 else 0)) ∨ (w.toInt = 0 ∧ ((-5) : Int32).toInt = (zHs (zHv kf af tf cn.toInt.toNat n.toInt.toNat de.toInt se.toInt) 9 : Nat)))))) from by (have k5m : ((-5) : Int32).toInt = -5 := (by decide); have k9 : ((-5) : Int32).toInt = -5 := (by decide); omega)), trivial⟩, zRet ht hP hD [8, 9, 0, 1, 2, 3, 4, 5, 6, 7] (by decide) rfl⟩, hS.F ht⟩) hS.2.2 dX7_haste_14
  · refine lv_if_ne (tgt := 15) hx hb dX7_haste_6 (by decide) (fun c_11 => ?_) (fun c_11 => ?_)
    · exact absurd c_11 (by decide)
    · refine lv_aload_n hx hb dX7_haste_9 rfl (lv_at hl 0 rfl) ?_
      refine lv_iconst (v := 5) hx hb dX7_haste_10 (by decide) ?_
      skip
      refine zw_V (As := [.int 5]) (rest := []) (wr := [(j0, .inr (0, [.ref z0, .ref jp, .ref jc, .int cn, .int de, .int tr, .int se, .int hu, .int sd])), (w0, .inr (5, [.ref wk, .ref wl, .ref wc, .ref wp, .int wn, .int wh, .int wg])), (wk, .inl (cI, 125, .inl fk)), (wl, .inl (cI, 125, .inl fl)), (wc, .inl (cI, 3, .inl fc)), (wp, .inl (cP, 8, .inr (.inr (.inr (.inr fq))))), (jp, .inl (cP, 8, .inr (.inr (.inr (.inr fp))))), (jc, .inl (cI, 3, .inl fjc))]) ⟨hx, hb, hml, hown, hts⟩ (c_X_refuse_5 l D cI cJ cZ cP cS po x0 xs j0 k0 w0 rd mv xr (im) (lf) fr hy0 hy1 hy2 hy3 H.size) (cwV 1 hts gX7_haste_X7_refuse rfl rfl rfl ⟨rfl, dh_X7_refuse⟩ ⟨Nat.le_of_ble_eq_true rfl, Nat.le_of_ble_eq_true rfl⟩) hK hN (hZ.kept hS) hP hD hS hA [0, 1] [2, 3, 4, 5, 6, 7, 8, 9] rfl rfl (by decide) (by decide) (by decide) (va_recv (q := (RX7, TX7, 9)) hK hP (ci := 7) (q0 := 0) rfl rfl) rfl hl.1 rfl (Nat.le_of_ble_eq_true rfl) dX7_haste_11 ⟨Nat.le_of_ble_eq_true rfl, Nat.le_of_ble_eq_true rfl⟩ (fun r_12 u_13 H locs hr_12 hP hD hS => ?_)
      obtain ⟨q_14, rfl⟩ : ∃ z, z = u_13 := ⟨_, rfl⟩
      have h9R := zRe (ws' := [(j0, .inr (0, [.ref z0, .ref jp, .ref jc, .int cn, .int de, .int tr, .int se, .int hu, .int sd])), (w0, .inr (5, [.ref wk, .ref wl, .ref wc, .ref wp, .int wn, .int wh, .int wg])), (wk, .inl (cI, 125, .inl fk)), (wl, .inl (cI, 125, .inl fl)), (wc, .inl (cI, 3, .inl fc)), (wp, .inl (cP, 8, .inr (.inr (.inr (.inr fq))))), (jp, .inl (cP, 8, .inr (.inr (.inr (.inr fp))))), (jc, .inl (cI, 3, .inl fjc)), (x0, .inr (7, [.ref xs, .ref j0, .ref k0, .ref w0, .ref rd, .ref mv, .ref xr, .int im, .int lf])), (xr, .inl (cI, 8, .inl q_14))]) hP hD rfl
      clear hP hD
      obtain ⟨hP, hD⟩ := h9R
      obtain rfl := hr_12
      exact W.iret (v := (-5)) hx hb hr (fun t ht hW => ⟨⟨(-5), (wn, wh, wg, fk, fl, fc, fq, q_14), rfl, ⟨(show 0 ≤ wn.toInt ∧ wn.toInt ≤ 8 from ⟨hy10, hy11⟩), (show 0 ≤ wh.toInt ∧ wh.toInt ≤ 9 from ⟨hy12, hy13⟩), (show 0 ≤ wg.toInt ∧ wg.toInt ≤ 60 from ⟨hy14, hy15⟩), hp_fc, hwq, (show ((w.toInt < 0 ∨ 1 < w.toInt) ∧ ((-5) : Int32).toInt = -5) ∨ ((0 ≤ w.toInt ∧ w.toInt ≤ 1) ∧ (((n.toInt < 0 ∨ 4 < n.toInt) ∧ ((-5) : Int32).toInt = -6) ∨ ((0 ≤ n.toInt ∧ n.toInt ≤ 4) ∧ ((w.toInt = 1 ∧ ((-5) : Int32).toInt = (if (zHv kf af tf cn.toInt.toNat n.toInt.toNat de.toInt se.toInt) 9 < (zHv kf af tf cn.toInt.toNat n.toInt.toNat de.toInt se.toInt) 0 then 1 else 0)) ∨ (w.toInt = 0 ∧ ((-5) : Int32).toInt = (zHs (zHv kf af tf cn.toInt.toNat n.toInt.toNat de.toInt se.toInt) 9 : Nat)))))) from by (have k5m : ((-5) : Int32).toInt = -5 := (by decide); have k9 : ((-5) : Int32).toInt = -5 := (by decide); omega)), trivial⟩, zRet ht hP hD [8, 9, 0, 1, 2, 3, 4, 5, 6, 7] (by decide) rfl⟩, hS.F ht⟩) hS.2.2 dX7_haste_14
  · refine lv_if_ne (tgt := 15) hx hb dX7_haste_6 (by decide) (fun c_15 => ?_) (fun c_15 => ?_)
    · refine lv_iload_n hx hb dX7_haste_15 rfl (lv_at hl 1 rfl) ?_
      refine lv_iconst (v := 0) hx hb dX7_haste_16 (by decide) ?_
      refine lv_iconst (v := 4) hx hb dX7_haste_17 (by decide) ?_
      have kc4 : (4 : Int32).toInt = 4 := by decide
      refine zc_S (As := [.int n, .int 0, .int 4]) (rest := []) ⟨hx, hb, hml, hown, hts⟩ (c_within l D cI cJ cZ cP cS po (n) (0) (4) ) (va_cwS 3 hts gX7_haste_X7_within rfl rfl rfl dh_X7_within ⟨Nat.le_of_ble_eq_true rfl, Nat.le_of_ble_eq_true rfl⟩) hK hN (hZ.kept hS) rfl hl.1 rfl (Nat.le_of_ble_eq_true rfl) dX7_haste_18 ⟨Nat.le_of_ble_eq_true rfl, Nat.le_of_ble_eq_true rfl⟩ (fun r_16 hr_16 => ?_)
      rcases hr_16 with ⟨rfl, g_17⟩ | ⟨rfl, g_18, g_19⟩ | ⟨rfl, g_20, g_21⟩
      · refine lv_if_ne (tgt := 31) hx hb dX7_haste_21 (by decide) (fun c_22 => ?_) (fun c_22 => ?_)
        · exact absurd c_22 (by decide)
        · refine lv_aload_n hx hb dX7_haste_24 rfl (lv_at hl 0 rfl) ?_
          refine lv_bipush (v := 6) hx hb dX7_haste_25 (by decide) ?_
          skip
          refine zw_V (As := [.int 6]) (rest := []) (wr := [(j0, .inr (0, [.ref z0, .ref jp, .ref jc, .int cn, .int de, .int tr, .int se, .int hu, .int sd])), (w0, .inr (5, [.ref wk, .ref wl, .ref wc, .ref wp, .int wn, .int wh, .int wg])), (wk, .inl (cI, 125, .inl fk)), (wl, .inl (cI, 125, .inl fl)), (wc, .inl (cI, 3, .inl fc)), (wp, .inl (cP, 8, .inr (.inr (.inr (.inr fq))))), (jp, .inl (cP, 8, .inr (.inr (.inr (.inr fp))))), (jc, .inl (cI, 3, .inl fjc))]) ⟨hx, hb, hml, hown, hts⟩ (c_X_refuse_6 l D cI cJ cZ cP cS po x0 xs j0 k0 w0 rd mv xr (im) (lf) fr hy0 hy1 hy2 hy3 H.size) (cwV 1 hts gX7_haste_X7_refuse rfl rfl rfl ⟨rfl, dh_X7_refuse⟩ ⟨Nat.le_of_ble_eq_true rfl, Nat.le_of_ble_eq_true rfl⟩) hK hN (hZ.kept hS) hP hD hS hA [0, 1] [2, 3, 4, 5, 6, 7, 8, 9] rfl rfl (by decide) (by decide) (by decide) (va_recv (q := (RX7, TX7, 9)) hK hP (ci := 7) (q0 := 0) rfl rfl) rfl hl.1 rfl (Nat.le_of_ble_eq_true rfl) dX7_haste_27 ⟨Nat.le_of_ble_eq_true rfl, Nat.le_of_ble_eq_true rfl⟩ (fun r_23 u_24 H locs hr_23 hP hD hS => ?_)
          obtain ⟨q_25, rfl⟩ : ∃ z, z = u_24 := ⟨_, rfl⟩
          have h9R := zRe (ws' := [(j0, .inr (0, [.ref z0, .ref jp, .ref jc, .int cn, .int de, .int tr, .int se, .int hu, .int sd])), (w0, .inr (5, [.ref wk, .ref wl, .ref wc, .ref wp, .int wn, .int wh, .int wg])), (wk, .inl (cI, 125, .inl fk)), (wl, .inl (cI, 125, .inl fl)), (wc, .inl (cI, 3, .inl fc)), (wp, .inl (cP, 8, .inr (.inr (.inr (.inr fq))))), (jp, .inl (cP, 8, .inr (.inr (.inr (.inr fp))))), (jc, .inl (cI, 3, .inl fjc)), (x0, .inr (7, [.ref xs, .ref j0, .ref k0, .ref w0, .ref rd, .ref mv, .ref xr, .int im, .int lf])), (xr, .inl (cI, 8, .inl q_25))]) hP hD rfl
          clear hP hD
          obtain ⟨hP, hD⟩ := h9R
          obtain rfl := hr_23
          exact W.iret (v := (-6)) hx hb hr (fun t ht hW => ⟨⟨(-6), (wn, wh, wg, fk, fl, fc, fq, q_25), rfl, ⟨(show 0 ≤ wn.toInt ∧ wn.toInt ≤ 8 from ⟨hy10, hy11⟩), (show 0 ≤ wh.toInt ∧ wh.toInt ≤ 9 from ⟨hy12, hy13⟩), (show 0 ≤ wg.toInt ∧ wg.toInt ≤ 60 from ⟨hy14, hy15⟩), hp_fc, hwq, (show ((w.toInt < 0 ∨ 1 < w.toInt) ∧ ((-6) : Int32).toInt = -5) ∨ ((0 ≤ w.toInt ∧ w.toInt ≤ 1) ∧ (((n.toInt < 0 ∨ 4 < n.toInt) ∧ ((-6) : Int32).toInt = -6) ∨ ((0 ≤ n.toInt ∧ n.toInt ≤ 4) ∧ ((w.toInt = 1 ∧ ((-6) : Int32).toInt = (if (zHv kf af tf cn.toInt.toNat n.toInt.toNat de.toInt se.toInt) 9 < (zHv kf af tf cn.toInt.toNat n.toInt.toNat de.toInt se.toInt) 0 then 1 else 0)) ∨ (w.toInt = 0 ∧ ((-6) : Int32).toInt = (zHs (zHv kf af tf cn.toInt.toNat n.toInt.toNat de.toInt se.toInt) 9 : Nat)))))) from by (have k6m : ((-6) : Int32).toInt = -6 := (by decide); have k9 : ((-6) : Int32).toInt = -6 := (by decide); omega)), trivial⟩, zRet ht hP hD [8, 9, 0, 1, 2, 3, 4, 5, 6, 7] (by decide) rfl⟩, hS.F ht⟩) hS.2.2 dX7_haste_30
      · refine lv_if_ne (tgt := 31) hx hb dX7_haste_21 (by decide) (fun c_26 => ?_) (fun c_26 => ?_)
        · exact absurd c_26 (by decide)
        · refine lv_aload_n hx hb dX7_haste_24 rfl (lv_at hl 0 rfl) ?_
          refine lv_bipush (v := 6) hx hb dX7_haste_25 (by decide) ?_
          skip
          refine zw_V (As := [.int 6]) (rest := []) (wr := [(j0, .inr (0, [.ref z0, .ref jp, .ref jc, .int cn, .int de, .int tr, .int se, .int hu, .int sd])), (w0, .inr (5, [.ref wk, .ref wl, .ref wc, .ref wp, .int wn, .int wh, .int wg])), (wk, .inl (cI, 125, .inl fk)), (wl, .inl (cI, 125, .inl fl)), (wc, .inl (cI, 3, .inl fc)), (wp, .inl (cP, 8, .inr (.inr (.inr (.inr fq))))), (jp, .inl (cP, 8, .inr (.inr (.inr (.inr fp))))), (jc, .inl (cI, 3, .inl fjc))]) ⟨hx, hb, hml, hown, hts⟩ (c_X_refuse_6 l D cI cJ cZ cP cS po x0 xs j0 k0 w0 rd mv xr (im) (lf) fr hy0 hy1 hy2 hy3 H.size) (cwV 1 hts gX7_haste_X7_refuse rfl rfl rfl ⟨rfl, dh_X7_refuse⟩ ⟨Nat.le_of_ble_eq_true rfl, Nat.le_of_ble_eq_true rfl⟩) hK hN (hZ.kept hS) hP hD hS hA [0, 1] [2, 3, 4, 5, 6, 7, 8, 9] rfl rfl (by decide) (by decide) (by decide) (va_recv (q := (RX7, TX7, 9)) hK hP (ci := 7) (q0 := 0) rfl rfl) rfl hl.1 rfl (Nat.le_of_ble_eq_true rfl) dX7_haste_27 ⟨Nat.le_of_ble_eq_true rfl, Nat.le_of_ble_eq_true rfl⟩ (fun r_27 u_28 H locs hr_27 hP hD hS => ?_)
          obtain ⟨q_29, rfl⟩ : ∃ z, z = u_28 := ⟨_, rfl⟩
          have h9R := zRe (ws' := [(j0, .inr (0, [.ref z0, .ref jp, .ref jc, .int cn, .int de, .int tr, .int se, .int hu, .int sd])), (w0, .inr (5, [.ref wk, .ref wl, .ref wc, .ref wp, .int wn, .int wh, .int wg])), (wk, .inl (cI, 125, .inl fk)), (wl, .inl (cI, 125, .inl fl)), (wc, .inl (cI, 3, .inl fc)), (wp, .inl (cP, 8, .inr (.inr (.inr (.inr fq))))), (jp, .inl (cP, 8, .inr (.inr (.inr (.inr fp))))), (jc, .inl (cI, 3, .inl fjc)), (x0, .inr (7, [.ref xs, .ref j0, .ref k0, .ref w0, .ref rd, .ref mv, .ref xr, .int im, .int lf])), (xr, .inl (cI, 8, .inl q_29))]) hP hD rfl
          clear hP hD
          obtain ⟨hP, hD⟩ := h9R
          obtain rfl := hr_27
          exact W.iret (v := (-6)) hx hb hr (fun t ht hW => ⟨⟨(-6), (wn, wh, wg, fk, fl, fc, fq, q_29), rfl, ⟨(show 0 ≤ wn.toInt ∧ wn.toInt ≤ 8 from ⟨hy10, hy11⟩), (show 0 ≤ wh.toInt ∧ wh.toInt ≤ 9 from ⟨hy12, hy13⟩), (show 0 ≤ wg.toInt ∧ wg.toInt ≤ 60 from ⟨hy14, hy15⟩), hp_fc, hwq, (show ((w.toInt < 0 ∨ 1 < w.toInt) ∧ ((-6) : Int32).toInt = -5) ∨ ((0 ≤ w.toInt ∧ w.toInt ≤ 1) ∧ (((n.toInt < 0 ∨ 4 < n.toInt) ∧ ((-6) : Int32).toInt = -6) ∨ ((0 ≤ n.toInt ∧ n.toInt ≤ 4) ∧ ((w.toInt = 1 ∧ ((-6) : Int32).toInt = (if (zHv kf af tf cn.toInt.toNat n.toInt.toNat de.toInt se.toInt) 9 < (zHv kf af tf cn.toInt.toNat n.toInt.toNat de.toInt se.toInt) 0 then 1 else 0)) ∨ (w.toInt = 0 ∧ ((-6) : Int32).toInt = (zHs (zHv kf af tf cn.toInt.toNat n.toInt.toNat de.toInt se.toInt) 9 : Nat)))))) from by (have k6m : ((-6) : Int32).toInt = -6 := (by decide); have k9 : ((-6) : Int32).toInt = -6 := (by decide); omega)), trivial⟩, zRet ht hP hD [8, 9, 0, 1, 2, 3, 4, 5, 6, 7] (by decide) rfl⟩, hS.F ht⟩) hS.2.2 dX7_haste_30
      · refine lv_if_ne (tgt := 31) hx hb dX7_haste_21 (by decide) (fun c_30 => ?_) (fun c_30 => ?_)
        · have hsp : n = 0 ∨ n = 1 ∨ n = 2 ∨ n = 3 ∨ n = 4 := by
            rcases (show n.toInt = 0 ∨ n.toInt = 1 ∨ n.toInt = 2 ∨ n.toInt = 3 ∨ n.toInt = 4 by omega) with h9 | h9 | h9 | h9 | h9
            · refine Or.inl ?_; exact zf_val h9 (by decide)
            · refine Or.inr (Or.inl ?_); exact zf_val h9 (by decide)
            · refine Or.inr (Or.inr (Or.inl ?_)); exact zf_val h9 (by decide)
            · refine Or.inr (Or.inr (Or.inr (Or.inl ?_))); exact zf_val h9 (by decide)
            · refine Or.inr (Or.inr (Or.inr (Or.inr (?_)))); exact zf_val h9 (by decide)
          rcases hsp with rfl | rfl | rfl | rfl | rfl
          · refine lv_iload_n hx hb dX7_haste_31 rfl (lv_at hl 2 rfl) ?_
            refine lv_iconst (v := 1) hx hb dX7_haste_32 (by decide) ?_
            refine lv_icmp_ne (tgt := 58) hx hb dX7_haste_33 (by decide) (fun c_31 => ?_) (fun c_31 => ?_)
            · have fc_31 : w.toInt ≠ 1 := zf_ne c_31 rfl (by decide)
              refine lv_iconst (v := 0) hx hb dX7_haste_58 (by decide) ?_
              refine lv_istore_n (lv' := [(3, .int 0), (0, .ref x0), (1, .int 0), (2, .int w)]) hx hb dX7_haste_59 rfl hl (by decide) rfl (fun ls hl => ?_)
              refine lv_aload_n hx hb dX7_haste_60 rfl (lv_at hl 1 rfl) ?_
              refine lv_iconst (v := 0) hx hb dX7_haste_61 (by decide) ?_
              refine lv_iload_n hx hb dX7_haste_62 rfl (lv_at hl 2 rfl) ?_
              skip
              refine zw_V (As := [.int 0, .int 0]) (rest := []) (wr := [(xr, .inl (cI, 8, .inl fr))]) ⟨hx, hb, hml, hown, hts⟩ (c_F_X_casesBy_0 l D cI cJ cZ cP cS po x0 xs j0 k0 w0 rd mv xr (im) (lf) ((fun _ => 0)) j0 jp jc z0 0 0 (cn) (de) (tr) (se) (hu) (sd) wk wl wc wp (wn) (wh) (wg) fq fk fl fc fjc fp kf af tf (0) hy0 hy1 hy2 hy3 hy4 hy5 hy6 hy7 hy8 hy9 hy10 hy11 hy12 hy13 hy14 hy15 hwq hjp hy18 hy19 (by omega) (by omega) hp_fc hp_fjc H.size) (cwV 2 hts gX7_haste_X7_casesBy rfl rfl rfl ⟨rfl, dh_X7_casesBy⟩ ⟨Nat.le_of_ble_eq_true rfl, Nat.le_of_ble_eq_true rfl⟩) hK hN (hZ.kept hS) hP hD hS hA [0, 2, 3, 4, 5, 6, 7, 8, 9] [1] rfl rfl (by decide) (by decide) (by decide) (va_recv (q := (RX7, TX7, 9)) hK hP (ci := 7) (q0 := 0) rfl rfl) rfl hl.1 rfl (Nat.le_of_ble_eq_true rfl) dX7_haste_63 ⟨Nat.le_of_ble_eq_true rfl, Nat.le_of_ble_eq_true rfl⟩ (fun r_32 u_33 H locs hr_32 hP hD hS => ?_)
              obtain ⟨q_34, q_35, q_36, q_37, q_38, q_39, q_40⟩ := u_33
              try dsimp only at hr_32
              obtain ⟨hbq_34, hbq_35, hbq_36, hpq_39, hwq_40, hsr_32_0, hr_32⟩ := hr_32
              have h9R := zRe (ws' := [(xr, .inl (cI, 8, .inl fr)), (x0, .inr (7, [.ref xs, .ref j0, .ref k0, .ref w0, .ref rd, .ref mv, .ref xr, .int im, .int lf])), (j0, .inr (0, [.ref z0, .ref jp, .ref jc, .int cn, .int de, .int tr, .int se, .int hu, .int sd])), (w0, .inr (5, [.ref wk, .ref wl, .ref wc, .ref wp, .int q_34, .int q_35, .int q_36])), (wk, .inl (cI, 125, .inl q_37)), (wl, .inl (cI, 125, .inl q_38)), (wc, .inl (cI, 3, .inl q_39)), (wp, .inl (cP, 8, .inr (.inr (.inr (.inr q_40))))), (jp, .inl (cP, 8, .inr (.inr (.inr (.inr fp))))), (jc, .inl (cI, 3, .inl fjc))]) hP hD rfl
              clear hP hD
              obtain ⟨hP, hD⟩ := h9R
              obtain ⟨g_41, g_42⟩ := hr_32
              refine lv_istore (lv' := [(4, .int r_32), (3, .int 0), (0, .ref x0), (1, .int 0), (2, .int w)]) hx hb dX7_haste_66 hl (by decide) rfl (fun ls hl => ?_)
              refine lv_iconst (v := 1) hx hb dX7_haste_68 (by decide) ?_
              refine lv_istore (lv' := [(5, .int 1), (4, .int r_32), (3, .int 0), (0, .ref x0), (1, .int 0), (2, .int w)]) hx hb dX7_haste_69 hl (by decide) rfl (fun ls hl => ?_)
              obtain ⟨i_71, hi_71⟩ : ∃ i : Int32, i = 1 := ⟨_, rfl⟩
              replace hl : lv_has ls 7 [(5, .int i_71), (4, .int r_32), (3, .int 0), (0, .ref x0), (1, .int 0), (2, .int w)] := by rw [hi_71]; exact lv_sub hl [0, 1, 2, 3, 4, 5] rfl
              have h1i_71 : i_71.toInt = 1 := by rw [hi_71]; decide
              obtain ⟨nfu, hni_71⟩ : ∃ nq9 : Nat, 10 ≤ i_71.toInt + (nq9 : Int) := ⟨((10 : Int) - 1).toNat, by omega⟩
              have hloi_71 : 1 ≤ i_71.toInt := by omega
              obtain ⟨g_43, hg_43⟩ : ∃ g : Nat → Int32, g = q_37 := ⟨_, rfl⟩
              obtain ⟨g_44, hg_44⟩ : ∃ g : Nat → Int32, g = q_38 := ⟨_, rfl⟩
              obtain ⟨g_45, hg_45⟩ : ∃ g : Nat → Int32, g = q_39 := ⟨_, rfl⟩
              have hpg_45 : zRg g_45 (0) 99 := by rw [hg_45]; exact hpq_39
              obtain ⟨g_46, hg_46⟩ : ∃ g : Nat → Option Nat, g = q_40 := ⟨_, rfl⟩
              have hwg_46 : zWP po g_46 := by rw [hg_46]; exact hwq_40
              obtain ⟨v_47, hv_47⟩ : ∃ g : Int32, g = q_34 := ⟨_, rfl⟩
              have hbv_47 : 0 ≤ v_47.toInt ∧ v_47.toInt ≤ 8 := by rw [hv_47]; exact ⟨by omega, by omega⟩
              obtain ⟨v_48, hv_48⟩ : ∃ g : Int32, g = q_35 := ⟨_, rfl⟩
              have hbv_48 : 0 ≤ v_48.toInt ∧ v_48.toInt ≤ 9 := by rw [hv_48]; exact ⟨by omega, by omega⟩
              obtain ⟨v_49, hv_49⟩ : ∃ g : Int32, g = q_36 := ⟨_, rfl⟩
              have hbv_49 : 0 ≤ v_49.toInt ∧ v_49.toInt ≤ 60 := by rw [hv_49]; exact ⟨by omega, by omega⟩
              replace hP : va_P D vwCl [(xr, .inl (cI, 8, .inl fr)), (x0, .inr (7, [.ref xs, .ref j0, .ref k0, .ref w0, .ref rd, .ref mv, .ref xr, .int im, .int lf])), (j0, .inr (0, [.ref z0, .ref jp, .ref jc, .int cn, .int de, .int tr, .int se, .int hu, .int sd])), (w0, .inr (5, [.ref wk, .ref wl, .ref wc, .ref wp, .int v_47, .int v_48, .int v_49])), (wk, .inl (cI, 125, .inl g_43)), (wl, .inl (cI, 125, .inl g_44)), (wc, .inl (cI, 3, .inl g_45)), (wp, .inl (cP, 8, .inr (.inr (.inr (.inr g_46))))), (jp, .inl (cP, 8, .inr (.inr (.inr (.inr fp))))), (jc, .inl (cI, 3, .inl fjc))] H := by rw [hg_43, hg_44, hg_45, hg_46, hv_47, hv_48, hv_49]; exact hP
              replace hD : va_D (va_A [(x0, .inr (7, [.ref xs, .ref j0, .ref k0, .ref w0, .ref rd, .ref mv, .ref xr, .int im, .int lf])), (xr, .inl (cI, 8, .inl fr)), (j0, .inr (0, [.ref z0, .ref jp, .ref jc, .int cn, .int de, .int tr, .int se, .int hu, .int sd])), (w0, .inr (5, [.ref wk, .ref wl, .ref wc, .ref wp, .int wn, .int wh, .int wg])), (wk, .inl (cI, 125, .inl fk)), (wl, .inl (cI, 125, .inl fl)), (wc, .inl (cI, 3, .inl fc)), (wp, .inl (cP, 8, .inr (.inr (.inr (.inr fq))))), (jp, .inl (cP, 8, .inr (.inr (.inr (.inr fp))))), (jc, .inl (cI, 3, .inl fjc))] s.heap.size) [(xr, .inl (cI, 8, .inl fr)), (x0, .inr (7, [.ref xs, .ref j0, .ref k0, .ref w0, .ref rd, .ref mv, .ref xr, .int im, .int lf])), (j0, .inr (0, [.ref z0, .ref jp, .ref jc, .int cn, .int de, .int tr, .int se, .int hu, .int sd])), (w0, .inr (5, [.ref wk, .ref wl, .ref wc, .ref wp, .int v_47, .int v_48, .int v_49])), (wk, .inl (cI, 125, .inl g_43)), (wl, .inl (cI, 125, .inl g_44)), (wc, .inl (cI, 3, .inl g_45)), (wp, .inl (cP, 8, .inr (.inr (.inr (.inr g_46))))), (jp, .inl (cP, 8, .inr (.inr (.inr (.inr fp))))), (jc, .inl (cI, 3, .inl fjc))] := by rw [hg_43, hg_44, hg_45, hg_46, hv_47, hv_48, hv_49]; exact hD
              obtain ⟨v_50, hv_50⟩ : ∃ g : Int32, g = 0 := ⟨_, rfl⟩
              obtain ⟨v_51, hv_51⟩ : ∃ g : Int32, g = r_32 := ⟨_, rfl⟩
              replace hl : lv_has ls 7 [(5, .int i_71), (4, .int v_51), (3, .int v_50), (0, .ref x0), (1, .int 0), (2, .int w)] := by rw [hv_50, hv_51]; exact hl
              have hbv_50 : 0 ≤ v_50.toInt ∧ v_50.toInt ≤ 9 := by rw [hv_50]; exact ⟨by decide, by decide⟩
              have hbv_51 : 0 ≤ v_51.toInt ∧ v_51.toInt ≤ 20736 := by rw [hv_51]; exact ⟨by omega, by omega⟩
              have hvi_71_0 : (v_50 : Int32).toInt = (zHs (zHv kf af tf cn.toInt.toNat 0 de.toInt se.toInt) (i_71.toInt - 1).toNat : Nat) := by
                (try rw [hi_71]); (try rw [hg_43]); (try rw [hg_44]); (try rw [hg_45]); (try rw [hg_46]); (try rw [hv_47]); (try rw [hv_48]); (try rw [hv_49]); (try rw [hv_50]); (try rw [hv_51]); (rw [show ((1 : Int32).toInt - 1).toNat = 0 from by decide]; show (0 : Int32).toInt = ((0 : Nat) : Int); decide)
              have hvi_71_1 : (v_51 : Int32).toInt = (zHv kf af tf cn.toInt.toNat 0 de.toInt se.toInt) (zHs (zHv kf af tf cn.toInt.toNat 0 de.toInt se.toInt) (i_71.toInt - 1).toNat) := by
                (try rw [hi_71]); (try rw [hg_43]); (try rw [hg_44]); (try rw [hg_45]); (try rw [hg_46]); (try rw [hv_47]); (try rw [hv_48]); (try rw [hv_49]); (try rw [hv_50]); (try rw [hv_51]); (have z := hsr_32_0; rw [show (0 : Int32).toInt = ((0 : Nat) : Int) from by decide] at z; rw [show ((1 : Int32).toInt - 1).toNat = 0 from by decide]; exact z)
              have hvi_71_2 : 1 ≤ i_71.toInt ∧ i_71.toInt ≤ 10 := by
                (try rw [hi_71]); (try rw [hg_43]); (try rw [hg_44]); (try rw [hg_45]); (try rw [hg_46]); (try rw [hv_47]); (try rw [hv_48]); (try rw [hv_49]); (try rw [hv_50]); (try rw [hv_51]); (have k1 : (1 : Int32).toInt = 1 := (by decide); omega)
              clear h1i_71 hi_71 hg_43 hg_44 hg_45 hg_46 hv_47 hv_48 hv_49 hv_50 hv_51
              skip
              revert hni_71
              revert hloi_71
              revert hvi_71_2
              revert hvi_71_1
              revert hvi_71_0
              revert hbv_51
              revert hbv_50
              revert hbv_49
              revert hbv_48
              revert hbv_47
              revert hwg_46
              revert hpg_45
              revert hl
              revert hS
              revert hD
              revert hP
              revert ls
              revert locs
              revert H
              revert g_43
              revert g_44
              revert g_45
              revert g_46
              revert v_47
              revert v_48
              revert v_49
              revert v_51
              revert v_50
              revert i_71
              induction nfu with
              | zero =>
                intro i_71 v_50 v_51 v_49 v_48 v_47 g_46 g_45 g_44 g_43 H locs ls hP hD hS hl hpg_45 hwg_46 hbv_47 hbv_48 hbv_49 hbv_50 hbv_51 hvi_71_0 hvi_71_1 hvi_71_2 hloi_71 hni_71
                have hzi_71 : 10 ≤ i_71.toInt := by omega
                refine lv_iload hx hb dX7_haste_71 (lv_at hl 0 rfl) ?_
                refine lv_bipush (v := 9) hx hb dX7_haste_73 (by decide) ?_
                refine lv_icmp_gt (tgt := 107) hx hb dX7_haste_75 (by decide) (fun c_52 => ?_) (fun c_52 => ?_)
                · have fc_52 : 9 < i_71.toInt := zf_lt c_52 (by decide) rfl
                  refine lv_iload_n hx hb dX7_haste_107 rfl (lv_at hl 2 rfl) ?_
                  exact W.iret (v := v_50) hx hb hr (fun t ht hW => ⟨⟨v_50, (v_47, v_48, v_49, g_43, g_44, g_45, g_46, fr), rfl, ⟨(show 0 ≤ v_47.toInt ∧ v_47.toInt ≤ 8 from hbv_47), (show 0 ≤ v_48.toInt ∧ v_48.toInt ≤ 9 from hbv_48), (show 0 ≤ v_49.toInt ∧ v_49.toInt ≤ 60 from hbv_49), hpg_45, hwg_46, (show ((w.toInt < 0 ∨ 1 < w.toInt) ∧ (v_50 : Int32).toInt = -5) ∨ ((0 ≤ w.toInt ∧ w.toInt ≤ 1) ∧ ((((0 : Int32).toInt < 0 ∨ 4 < (0 : Int32).toInt) ∧ (v_50 : Int32).toInt = -6) ∨ ((0 ≤ (0 : Int32).toInt ∧ (0 : Int32).toInt ≤ 4) ∧ ((w.toInt = 1 ∧ (v_50 : Int32).toInt = (if (zHv kf af tf cn.toInt.toNat (0 : Int32).toInt.toNat de.toInt se.toInt) 9 < (zHv kf af tf cn.toInt.toNat (0 : Int32).toInt.toNat de.toInt se.toInt) 0 then 1 else 0)) ∨ (w.toInt = 0 ∧ (v_50 : Int32).toInt = (zHs (zHv kf af tf cn.toInt.toNat (0 : Int32).toInt.toNat de.toInt se.toInt) 9 : Nat)))))) from by (have k0 : (0 : Int32).toInt = 0 := (by decide); have k9_ : (9 : Int32).toInt = 9 := (by decide); have k0_ : (0 : Int32).toInt = 0 := (by decide); refine Or.inr ⟨by omega, Or.inr ⟨by omega, Or.inr ⟨by omega, (by rw [show (0 : Int32).toInt.toNat = 0 from by decide]; have h9 : (i_71.toInt - 1).toNat = 9 := (by omega); have z := hvi_71_0; rw [h9] at z; exact z)⟩⟩⟩)), trivial⟩, zRet ht hP hD [1, 0, 2, 3, 4, 5, 6, 7, 8, 9] (by decide) rfl⟩, hS.F ht⟩) hS.2.2 dX7_haste_108
                · exfalso; have fc_52 : i_71.toInt ≤ 9 := zf_nlt c_52 (by decide) rfl; omega
              | succ nfu ih =>
                intro i_71 v_50 v_51 v_49 v_48 v_47 g_46 g_45 g_44 g_43 H locs ls hP hD hS hl hpg_45 hwg_46 hbv_47 hbv_48 hbv_49 hbv_50 hbv_51 hvi_71_0 hvi_71_1 hvi_71_2 hloi_71 hni_71
                refine lv_iload hx hb dX7_haste_71 (lv_at hl 0 rfl) ?_
                refine lv_bipush (v := 9) hx hb dX7_haste_73 (by decide) ?_
                refine lv_icmp_gt (tgt := 107) hx hb dX7_haste_75 (by decide) (fun c_53 => ?_) (fun c_53 => ?_)
                · have fc_53 : 9 < i_71.toInt := zf_lt c_53 (by decide) rfl
                  refine lv_iload_n hx hb dX7_haste_107 rfl (lv_at hl 2 rfl) ?_
                  exact W.iret (v := v_50) hx hb hr (fun t ht hW => ⟨⟨v_50, (v_47, v_48, v_49, g_43, g_44, g_45, g_46, fr), rfl, ⟨(show 0 ≤ v_47.toInt ∧ v_47.toInt ≤ 8 from hbv_47), (show 0 ≤ v_48.toInt ∧ v_48.toInt ≤ 9 from hbv_48), (show 0 ≤ v_49.toInt ∧ v_49.toInt ≤ 60 from hbv_49), hpg_45, hwg_46, (show ((w.toInt < 0 ∨ 1 < w.toInt) ∧ (v_50 : Int32).toInt = -5) ∨ ((0 ≤ w.toInt ∧ w.toInt ≤ 1) ∧ ((((0 : Int32).toInt < 0 ∨ 4 < (0 : Int32).toInt) ∧ (v_50 : Int32).toInt = -6) ∨ ((0 ≤ (0 : Int32).toInt ∧ (0 : Int32).toInt ≤ 4) ∧ ((w.toInt = 1 ∧ (v_50 : Int32).toInt = (if (zHv kf af tf cn.toInt.toNat (0 : Int32).toInt.toNat de.toInt se.toInt) 9 < (zHv kf af tf cn.toInt.toNat (0 : Int32).toInt.toNat de.toInt se.toInt) 0 then 1 else 0)) ∨ (w.toInt = 0 ∧ (v_50 : Int32).toInt = (zHs (zHv kf af tf cn.toInt.toNat (0 : Int32).toInt.toNat de.toInt se.toInt) 9 : Nat)))))) from by (have k0 : (0 : Int32).toInt = 0 := (by decide); have k9_ : (9 : Int32).toInt = 9 := (by decide); have k0_ : (0 : Int32).toInt = 0 := (by decide); refine Or.inr ⟨by omega, Or.inr ⟨by omega, Or.inr ⟨by omega, (by rw [show (0 : Int32).toInt.toNat = 0 from by decide]; have h9 : (i_71.toInt - 1).toNat = 9 := (by omega); have z := hvi_71_0; rw [h9] at z; exact z)⟩⟩⟩)), trivial⟩, zRet ht hP hD [1, 0, 2, 3, 4, 5, 6, 7, 8, 9] (by decide) rfl⟩, hS.F ht⟩) hS.2.2 dX7_haste_108
                · have fc_53 : i_71.toInt ≤ 9 := zf_nlt c_53 (by decide) rfl
                  refine lv_aload_n hx hb dX7_haste_78 rfl (lv_at hl 3 rfl) ?_
                  refine lv_iload hx hb dX7_haste_79 (lv_at hl 0 rfl) ?_
                  refine lv_iload_n hx hb dX7_haste_81 rfl (lv_at hl 4 rfl) ?_
                  skip
                  refine zw_V (As := [.int i_71, .int 0]) (rest := []) (wr := [(xr, .inl (cI, 8, .inl fr))]) ⟨hx, hb, hml, hown, hts⟩ (c_F_X_casesBy_0 l D cI cJ cZ cP cS po x0 xs j0 k0 w0 rd mv xr (im) (lf) ((fun _ => 0)) j0 jp jc z0 0 0 (cn) (de) (tr) (se) (hu) (sd) wk wl wc wp (v_47) (v_48) (v_49) g_46 g_43 g_44 g_45 fjc fp kf af tf (i_71) hy0 hy1 hy2 hy3 hy4 hy5 hy6 hy7 hy8 hy9 hbv_47.1 hbv_47.2 hbv_48.1 hbv_48.2 hbv_49.1 hbv_49.2 hwg_46 hjp hy18 hy19 (by omega) (by omega) hpg_45 hp_fjc H.size) (cwV 2 hts gX7_haste_X7_casesBy rfl rfl rfl ⟨rfl, dh_X7_casesBy⟩ ⟨Nat.le_of_ble_eq_true rfl, Nat.le_of_ble_eq_true rfl⟩) hK hN (hZ.kept hS) hP hD hS hA [1, 2, 3, 4, 5, 6, 7, 8, 9] [0] rfl rfl (by decide) (by decide) (by decide) (va_recv (q := (RX7, TX7, 9)) hK hP (ci := 7) (q0 := 1) rfl rfl) rfl hl.1 rfl (Nat.le_of_ble_eq_true rfl) dX7_haste_82 ⟨Nat.le_of_ble_eq_true rfl, Nat.le_of_ble_eq_true rfl⟩ (fun r_54 u_55 H locs hr_54 hP hD hS => ?_)
                  obtain ⟨q_56, q_57, q_58, q_59, q_60, q_61, q_62⟩ := u_55
                  try dsimp only at hr_54
                  obtain ⟨hbq_56, hbq_57, hbq_58, hpq_61, hwq_62, hsr_54_0, hr_54⟩ := hr_54
                  have h9R := zRe (ws' := [(xr, .inl (cI, 8, .inl fr)), (x0, .inr (7, [.ref xs, .ref j0, .ref k0, .ref w0, .ref rd, .ref mv, .ref xr, .int im, .int lf])), (j0, .inr (0, [.ref z0, .ref jp, .ref jc, .int cn, .int de, .int tr, .int se, .int hu, .int sd])), (w0, .inr (5, [.ref wk, .ref wl, .ref wc, .ref wp, .int q_56, .int q_57, .int q_58])), (wk, .inl (cI, 125, .inl q_59)), (wl, .inl (cI, 125, .inl q_60)), (wc, .inl (cI, 3, .inl q_61)), (wp, .inl (cP, 8, .inr (.inr (.inr (.inr q_62))))), (jp, .inl (cP, 8, .inr (.inr (.inr (.inr fp))))), (jc, .inl (cI, 3, .inl fjc))]) hP hD rfl
                  clear hP hD
                  obtain ⟨hP, hD⟩ := h9R
                  obtain ⟨g_63, g_64⟩ := hr_54
                  refine lv_istore (lv' := [(6, .int r_54), (5, .int i_71), (4, .int v_51), (3, .int v_50), (0, .ref x0), (1, .int 0), (2, .int w)]) hx hb dX7_haste_85 hl (by decide) rfl (fun ls hl => ?_)
                  refine lv_iload hx hb dX7_haste_87 (lv_at hl 0 rfl) ?_
                  refine lv_iload hx hb dX7_haste_89 (lv_at hl 2 rfl) ?_
                  refine lv_icmp_le (tgt := 101) hx hb dX7_haste_91 (by decide) (fun c_65 => ?_) (fun c_65 => ?_)
                  · have fc_65 : r_54.toInt ≤ v_51.toInt := zf_le c_65 rfl rfl
                    obtain ⟨x_66, ex_66⟩ : ∃ y : Int32, y = i_71 + 1 := ⟨_, rfl⟩
                    have qx_66 : x_66.toInt = i_71.toInt + 1 := by rw [ex_66]; exact zf_add rfl (by decide) (by omega) (by omega)
                    refine lv_iinc (v := x_66) (lv' := [(5, .int x_66), (6, .int r_54), (4, .int v_51), (3, .int v_50), (0, .ref x0), (1, .int 0), (2, .int w)]) hx hb dX7_haste_101 hl (k := 1) rfl ex_66.symm (by decide) rfl (fun ls hl => ?_)
                    refine lv_goto (tgt := 71) hx hb dX7_haste_104 (by decide) ?_
                    exact ih x_66 v_50 v_51 (q_58) (q_57) (q_56) (q_62) (q_61) (q_60) (q_59) _ _ _ (hP.sub [0, 1, 2, 3, 4, 5, 6, 7, 8, 9] rfl) (hD.sub [0, 1, 2, 3, 4, 5, 6, 7, 8, 9] (by decide) rfl) hS (lv_sub hl [0, 2, 3, 4, 5, 6] rfl) hpq_61 hwq_62 hbq_56 hbq_57 hbq_58 hbv_50 hbv_51 (show (v_50 : Int32).toInt = (zHs (zHv kf af tf cn.toInt.toNat 0 de.toInt se.toInt) (x_66.toInt - 1).toNat : Nat) from by (have hx : (x_66.toInt - 1).toNat = (i_71.toInt - 1).toNat + 1 := (by omega); have y1 : (zHv kf af tf cn.toInt.toNat 0 de.toInt se.toInt) ((i_71.toInt - 1).toNat + 1) = r_54.toInt := (by have z := hsr_54_0; unfold zHv; rw [show (((i_71.toInt - 1).toNat + 1 : Nat) : Int) = i_71.toInt from by omega]; exact z.symm); rw [hx, zHs_s, y1, ← hvi_71_1]; first | (rw [if_pos (by omega)]; omega) | (rw [if_neg (by omega)]; exact hvi_71_0))) (show (v_51 : Int32).toInt = (zHv kf af tf cn.toInt.toNat 0 de.toInt se.toInt) (zHs (zHv kf af tf cn.toInt.toNat 0 de.toInt se.toInt) (x_66.toInt - 1).toNat) from by (have hx : (x_66.toInt - 1).toNat = (i_71.toInt - 1).toNat + 1 := (by omega); have y1 : (zHv kf af tf cn.toInt.toNat 0 de.toInt se.toInt) ((i_71.toInt - 1).toNat + 1) = r_54.toInt := (by have z := hsr_54_0; unfold zHv; rw [show (((i_71.toInt - 1).toNat + 1 : Nat) : Int) = i_71.toInt from by omega]; exact z.symm); rw [hx, zHs_s, y1]; first | (rw [if_pos (by rw [← hvi_71_1]; omega), y1]) | (rw [if_neg (by rw [← hvi_71_1]; omega)]; exact hvi_71_1))) (show 1 ≤ x_66.toInt ∧ x_66.toInt ≤ 10 from by exact ⟨by omega, by omega⟩) (dw_lo hloi_71 qx_66) (dw_hn hni_71 qx_66)
                  · have fc_65 : v_51.toInt < r_54.toInt := zf_nle c_65 rfl rfl
                    refine lv_iload hx hb dX7_haste_94 (lv_at hl 0 rfl) ?_
                    refine lv_istore (lv' := [(4, .int r_54), (6, .int r_54), (5, .int i_71), (3, .int v_50), (0, .ref x0), (1, .int 0), (2, .int w)]) hx hb dX7_haste_96 hl (by decide) rfl (fun ls hl => ?_)
                    refine lv_iload hx hb dX7_haste_98 (lv_at hl 2 rfl) ?_
                    refine lv_istore_n (lv' := [(3, .int i_71), (4, .int r_54), (6, .int r_54), (5, .int i_71), (0, .ref x0), (1, .int 0), (2, .int w)]) hx hb dX7_haste_100 rfl hl (by decide) rfl (fun ls hl => ?_)
                    obtain ⟨x_67, ex_67⟩ : ∃ y : Int32, y = i_71 + 1 := ⟨_, rfl⟩
                    have qx_67 : x_67.toInt = i_71.toInt + 1 := by rw [ex_67]; exact zf_add rfl (by decide) (by omega) (by omega)
                    refine lv_iinc (v := x_67) (lv' := [(5, .int x_67), (3, .int i_71), (4, .int r_54), (6, .int r_54), (0, .ref x0), (1, .int 0), (2, .int w)]) hx hb dX7_haste_101 hl (k := 3) rfl ex_67.symm (by decide) rfl (fun ls hl => ?_)
                    refine lv_goto (tgt := 71) hx hb dX7_haste_104 (by decide) ?_
                    exact ih x_67 i_71 r_54 (q_58) (q_57) (q_56) (q_62) (q_61) (q_60) (q_59) _ _ _ (hP.sub [0, 1, 2, 3, 4, 5, 6, 7, 8, 9] rfl) (hD.sub [0, 1, 2, 3, 4, 5, 6, 7, 8, 9] (by decide) rfl) hS (lv_sub hl [0, 2, 1, 4, 5, 6] rfl) hpq_61 hwq_62 hbq_56 hbq_57 hbq_58 ⟨by omega, by omega⟩ ⟨by omega, by omega⟩ (show (i_71 : Int32).toInt = (zHs (zHv kf af tf cn.toInt.toNat 0 de.toInt se.toInt) (x_67.toInt - 1).toNat : Nat) from by (have hx : (x_67.toInt - 1).toNat = (i_71.toInt - 1).toNat + 1 := (by omega); have y1 : (zHv kf af tf cn.toInt.toNat 0 de.toInt se.toInt) ((i_71.toInt - 1).toNat + 1) = r_54.toInt := (by have z := hsr_54_0; unfold zHv; rw [show (((i_71.toInt - 1).toNat + 1 : Nat) : Int) = i_71.toInt from by omega]; exact z.symm); rw [hx, zHs_s, y1, ← hvi_71_1]; first | (rw [if_pos (by omega)]; omega) | (rw [if_neg (by omega)]; exact hvi_71_0))) (show (r_54 : Int32).toInt = (zHv kf af tf cn.toInt.toNat 0 de.toInt se.toInt) (zHs (zHv kf af tf cn.toInt.toNat 0 de.toInt se.toInt) (x_67.toInt - 1).toNat) from by (have hx : (x_67.toInt - 1).toNat = (i_71.toInt - 1).toNat + 1 := (by omega); have y1 : (zHv kf af tf cn.toInt.toNat 0 de.toInt se.toInt) ((i_71.toInt - 1).toNat + 1) = r_54.toInt := (by have z := hsr_54_0; unfold zHv; rw [show (((i_71.toInt - 1).toNat + 1 : Nat) : Int) = i_71.toInt from by omega]; exact z.symm); rw [hx, zHs_s, y1]; first | (rw [if_pos (by rw [← hvi_71_1]; omega), y1]) | (rw [if_neg (by rw [← hvi_71_1]; omega)]; exact hvi_71_1))) (show 1 ≤ x_67.toInt ∧ x_67.toInt ≤ 10 from by exact ⟨by omega, by omega⟩) (dw_lo hloi_71 qx_67) (dw_hn hni_71 qx_67)
            · have fc_31 : w.toInt = 1 := zf_eq c_31 rfl (by decide)
              refine lv_aload_n hx hb dX7_haste_36 rfl (lv_at hl 0 rfl) ?_
              refine lv_bipush (v := 9) hx hb dX7_haste_37 (by decide) ?_
              refine lv_iload_n hx hb dX7_haste_39 rfl (lv_at hl 1 rfl) ?_
              have kc9 : (9 : Int32).toInt = 9 := by decide
              skip
              refine zw_V (As := [.int 9, .int 0]) (rest := []) (wr := [(xr, .inl (cI, 8, .inl fr))]) ⟨hx, hb, hml, hown, hts⟩ (c_F_X_casesBy_0 l D cI cJ cZ cP cS po x0 xs j0 k0 w0 rd mv xr (im) (lf) ((fun _ => 0)) j0 jp jc z0 0 0 (cn) (de) (tr) (se) (hu) (sd) wk wl wc wp (wn) (wh) (wg) fq fk fl fc fjc fp kf af tf (9) hy0 hy1 hy2 hy3 hy4 hy5 hy6 hy7 hy8 hy9 hy10 hy11 hy12 hy13 hy14 hy15 hwq hjp hy18 hy19 (by omega) (by omega) hp_fc hp_fjc H.size) (cwV 2 hts gX7_haste_X7_casesBy rfl rfl rfl ⟨rfl, dh_X7_casesBy⟩ ⟨Nat.le_of_ble_eq_true rfl, Nat.le_of_ble_eq_true rfl⟩) hK hN (hZ.kept hS) hP hD hS hA [0, 2, 3, 4, 5, 6, 7, 8, 9] [1] rfl rfl (by decide) (by decide) (by decide) (va_recv (q := (RX7, TX7, 9)) hK hP (ci := 7) (q0 := 0) rfl rfl) rfl hl.1 rfl (Nat.le_of_ble_eq_true rfl) dX7_haste_40 ⟨Nat.le_of_ble_eq_true rfl, Nat.le_of_ble_eq_true rfl⟩ (fun r_68 u_69 H locs hr_68 hP hD hS => ?_)
              obtain ⟨q_70, q_71, q_72, q_73, q_74, q_75, q_76⟩ := u_69
              try dsimp only at hr_68
              obtain ⟨hbq_70, hbq_71, hbq_72, hpq_75, hwq_76, hsr_68_0, hr_68⟩ := hr_68
              have h9R := zRe (ws' := [(xr, .inl (cI, 8, .inl fr)), (x0, .inr (7, [.ref xs, .ref j0, .ref k0, .ref w0, .ref rd, .ref mv, .ref xr, .int im, .int lf])), (j0, .inr (0, [.ref z0, .ref jp, .ref jc, .int cn, .int de, .int tr, .int se, .int hu, .int sd])), (w0, .inr (5, [.ref wk, .ref wl, .ref wc, .ref wp, .int q_70, .int q_71, .int q_72])), (wk, .inl (cI, 125, .inl q_73)), (wl, .inl (cI, 125, .inl q_74)), (wc, .inl (cI, 3, .inl q_75)), (wp, .inl (cP, 8, .inr (.inr (.inr (.inr q_76))))), (jp, .inl (cP, 8, .inr (.inr (.inr (.inr fp))))), (jc, .inl (cI, 3, .inl fjc))]) hP hD rfl
              clear hP hD
              obtain ⟨hP, hD⟩ := h9R
              obtain ⟨g_77, g_78⟩ := hr_68
              refine lv_aload_n hx hb dX7_haste_43 rfl (lv_at hl 0 rfl) ?_
              refine lv_iconst (v := 0) hx hb dX7_haste_44 (by decide) ?_
              refine lv_iload_n hx hb dX7_haste_45 rfl (lv_at hl 1 rfl) ?_
              skip
              refine zw_V (As := [.int 0, .int 0]) (rest := [.int r_68]) (wr := [(xr, .inl (cI, 8, .inl fr))]) ⟨hx, hb, hml, hown, hts⟩ (c_F_X_casesBy_0 l D cI cJ cZ cP cS po x0 xs j0 k0 w0 rd mv xr (im) (lf) ((fun _ => 0)) j0 jp jc z0 0 0 (cn) (de) (tr) (se) (hu) (sd) wk wl wc wp (q_70) (q_71) (q_72) q_76 q_73 q_74 q_75 fjc fp kf af tf (0) hy0 hy1 hy2 hy3 hy4 hy5 hy6 hy7 hy8 hy9 hbq_70.1 hbq_70.2 hbq_71.1 hbq_71.2 hbq_72.1 hbq_72.2 hwq_76 hjp hy18 hy19 (by omega) (by omega) hpq_75 hp_fjc H.size) (cwV 2 hts gX7_haste_X7_casesBy rfl rfl rfl ⟨rfl, dh_X7_casesBy⟩ ⟨Nat.le_of_ble_eq_true rfl, Nat.le_of_ble_eq_true rfl⟩) hK hN (hZ.kept hS) hP hD hS hA [1, 2, 3, 4, 5, 6, 7, 8, 9] [0] rfl rfl (by decide) (by decide) (by decide) (va_recv (q := (RX7, TX7, 9)) hK hP (ci := 7) (q0 := 1) rfl rfl) rfl hl.1 rfl (Nat.le_of_ble_eq_true rfl) dX7_haste_46 ⟨Nat.le_of_ble_eq_true rfl, Nat.le_of_ble_eq_true rfl⟩ (fun r_79 u_80 H locs hr_79 hP hD hS => ?_)
              obtain ⟨q_81, q_82, q_83, q_84, q_85, q_86, q_87⟩ := u_80
              try dsimp only at hr_79
              obtain ⟨hbq_81, hbq_82, hbq_83, hpq_86, hwq_87, hsr_79_0, hr_79⟩ := hr_79
              have h9R := zRe (ws' := [(xr, .inl (cI, 8, .inl fr)), (x0, .inr (7, [.ref xs, .ref j0, .ref k0, .ref w0, .ref rd, .ref mv, .ref xr, .int im, .int lf])), (j0, .inr (0, [.ref z0, .ref jp, .ref jc, .int cn, .int de, .int tr, .int se, .int hu, .int sd])), (w0, .inr (5, [.ref wk, .ref wl, .ref wc, .ref wp, .int q_81, .int q_82, .int q_83])), (wk, .inl (cI, 125, .inl q_84)), (wl, .inl (cI, 125, .inl q_85)), (wc, .inl (cI, 3, .inl q_86)), (wp, .inl (cP, 8, .inr (.inr (.inr (.inr q_87))))), (jp, .inl (cP, 8, .inr (.inr (.inr (.inr fp))))), (jc, .inl (cI, 3, .inl fjc))]) hP hD rfl
              clear hP hD
              obtain ⟨hP, hD⟩ := h9R
              obtain ⟨g_88, g_89⟩ := hr_79
              refine lv_icmp_ge (tgt := 56) hx hb dX7_haste_49 (by decide) (fun c_90 => ?_) (fun c_90 => ?_)
              · have fc_90 : r_79.toInt ≤ r_68.toInt := zf_le c_90 rfl rfl
                refine lv_iconst (v := 0) hx hb dX7_haste_56 (by decide) ?_
                exact W.iret (v := 0) hx hb hr (fun t ht hW => ⟨⟨0, (q_81, q_82, q_83, q_84, q_85, q_86, q_87, fr), rfl, ⟨(show 0 ≤ q_81.toInt ∧ q_81.toInt ≤ 8 from hbq_81), (show 0 ≤ q_82.toInt ∧ q_82.toInt ≤ 9 from hbq_82), (show 0 ≤ q_83.toInt ∧ q_83.toInt ≤ 60 from hbq_83), hpq_86, hwq_87, (show ((w.toInt < 0 ∨ 1 < w.toInt) ∧ (0 : Int32).toInt = -5) ∨ ((0 ≤ w.toInt ∧ w.toInt ≤ 1) ∧ ((((0 : Int32).toInt < 0 ∨ 4 < (0 : Int32).toInt) ∧ (0 : Int32).toInt = -6) ∨ ((0 ≤ (0 : Int32).toInt ∧ (0 : Int32).toInt ≤ 4) ∧ ((w.toInt = 1 ∧ (0 : Int32).toInt = (if (zHv kf af tf cn.toInt.toNat (0 : Int32).toInt.toNat de.toInt se.toInt) 9 < (zHv kf af tf cn.toInt.toNat (0 : Int32).toInt.toNat de.toInt se.toInt) 0 then 1 else 0)) ∨ (w.toInt = 0 ∧ (0 : Int32).toInt = (zHs (zHv kf af tf cn.toInt.toNat (0 : Int32).toInt.toNat de.toInt se.toInt) 9 : Nat)))))) from by (have k0 : (0 : Int32).toInt = 0 := (by decide); have k9 : (0 : Int32).toInt = 0 := (by decide); have k9_ : (9 : Int32).toInt = 9 := (by decide); have k0_ : (0 : Int32).toInt = 0 := (by decide); refine Or.inr ⟨by omega, Or.inr ⟨by omega, Or.inl ⟨by omega, (by rw [show (0 : Int32).toInt.toNat = 0 from by decide]; have z1 := hsr_68_0; have z2 := hsr_79_0; rw [k9_] at z1; rw [k0_] at z2; have y1 : (zHv kf af tf cn.toInt.toNat 0 de.toInt se.toInt) 9 = r_68.toInt := z1.symm; have y2 : (zHv kf af tf cn.toInt.toNat 0 de.toInt se.toInt) 0 = r_79.toInt := z2.symm; rw [y1, y2]; first | (rw [if_neg (by omega)]; omega) | (rw [if_pos (by omega)]; omega))⟩⟩⟩)), trivial⟩, zRet ht hP hD [1, 0, 2, 3, 4, 5, 6, 7, 8, 9] (by decide) rfl⟩, hS.F ht⟩) hS.2.2 dX7_haste_57
              · have fc_90 : r_68.toInt < r_79.toInt := zf_nle c_90 rfl rfl
                refine lv_iconst (v := 1) hx hb dX7_haste_52 (by decide) ?_
                refine lv_goto (tgt := 57) hx hb dX7_haste_53 (by decide) ?_
                exact W.iret (v := 1) hx hb hr (fun t ht hW => ⟨⟨1, (q_81, q_82, q_83, q_84, q_85, q_86, q_87, fr), rfl, ⟨(show 0 ≤ q_81.toInt ∧ q_81.toInt ≤ 8 from hbq_81), (show 0 ≤ q_82.toInt ∧ q_82.toInt ≤ 9 from hbq_82), (show 0 ≤ q_83.toInt ∧ q_83.toInt ≤ 60 from hbq_83), hpq_86, hwq_87, (show ((w.toInt < 0 ∨ 1 < w.toInt) ∧ (1 : Int32).toInt = -5) ∨ ((0 ≤ w.toInt ∧ w.toInt ≤ 1) ∧ ((((0 : Int32).toInt < 0 ∨ 4 < (0 : Int32).toInt) ∧ (1 : Int32).toInt = -6) ∨ ((0 ≤ (0 : Int32).toInt ∧ (0 : Int32).toInt ≤ 4) ∧ ((w.toInt = 1 ∧ (1 : Int32).toInt = (if (zHv kf af tf cn.toInt.toNat (0 : Int32).toInt.toNat de.toInt se.toInt) 9 < (zHv kf af tf cn.toInt.toNat (0 : Int32).toInt.toNat de.toInt se.toInt) 0 then 1 else 0)) ∨ (w.toInt = 0 ∧ (1 : Int32).toInt = (zHs (zHv kf af tf cn.toInt.toNat (0 : Int32).toInt.toNat de.toInt se.toInt) 9 : Nat)))))) from by (have k0 : (0 : Int32).toInt = 0 := (by decide); have k1 : (1 : Int32).toInt = 1 := (by decide); have k9 : (1 : Int32).toInt = 1 := (by decide); have k9_ : (9 : Int32).toInt = 9 := (by decide); have k0_ : (0 : Int32).toInt = 0 := (by decide); refine Or.inr ⟨by omega, Or.inr ⟨by omega, Or.inl ⟨by omega, (by rw [show (0 : Int32).toInt.toNat = 0 from by decide]; have z1 := hsr_68_0; have z2 := hsr_79_0; rw [k9_] at z1; rw [k0_] at z2; have y1 : (zHv kf af tf cn.toInt.toNat 0 de.toInt se.toInt) 9 = r_68.toInt := z1.symm; have y2 : (zHv kf af tf cn.toInt.toNat 0 de.toInt se.toInt) 0 = r_79.toInt := z2.symm; rw [y1, y2]; first | (rw [if_pos (by omega)]; omega) | (rw [if_neg (by omega)]; omega))⟩⟩⟩)), trivial⟩, zRet ht hP hD [1, 0, 2, 3, 4, 5, 6, 7, 8, 9] (by decide) rfl⟩, hS.F ht⟩) hS.2.2 dX7_haste_57
          · refine lv_iload_n hx hb dX7_haste_31 rfl (lv_at hl 2 rfl) ?_
            refine lv_iconst (v := 1) hx hb dX7_haste_32 (by decide) ?_
            refine lv_icmp_ne (tgt := 58) hx hb dX7_haste_33 (by decide) (fun c_91 => ?_) (fun c_91 => ?_)
            · have fc_91 : w.toInt ≠ 1 := zf_ne c_91 rfl (by decide)
              refine lv_iconst (v := 0) hx hb dX7_haste_58 (by decide) ?_
              refine lv_istore_n (lv' := [(3, .int 0), (0, .ref x0), (1, .int 1), (2, .int w)]) hx hb dX7_haste_59 rfl hl (by decide) rfl (fun ls hl => ?_)
              refine lv_aload_n hx hb dX7_haste_60 rfl (lv_at hl 1 rfl) ?_
              refine lv_iconst (v := 0) hx hb dX7_haste_61 (by decide) ?_
              refine lv_iload_n hx hb dX7_haste_62 rfl (lv_at hl 2 rfl) ?_
              skip
              refine zw_V (As := [.int 0, .int 1]) (rest := []) (wr := [(xr, .inl (cI, 8, .inl fr))]) ⟨hx, hb, hml, hown, hts⟩ (c_F_X_casesBy_1 l D cI cJ cZ cP cS po x0 xs j0 k0 w0 rd mv xr (im) (lf) ((fun _ => 0)) j0 jp jc z0 0 0 (cn) (de) (tr) (se) (hu) (sd) wk wl wc wp (wn) (wh) (wg) fq fk fl fc fjc fp kf af tf (0) hy0 hy1 hy2 hy3 hy4 hy5 hy6 hy7 hy8 hy9 hy10 hy11 hy12 hy13 hy14 hy15 hwq hjp hy18 hy19 (by omega) (by omega) hp_fc hp_fjc H.size) (cwV 2 hts gX7_haste_X7_casesBy rfl rfl rfl ⟨rfl, dh_X7_casesBy⟩ ⟨Nat.le_of_ble_eq_true rfl, Nat.le_of_ble_eq_true rfl⟩) hK hN (hZ.kept hS) hP hD hS hA [0, 2, 3, 4, 5, 6, 7, 8, 9] [1] rfl rfl (by decide) (by decide) (by decide) (va_recv (q := (RX7, TX7, 9)) hK hP (ci := 7) (q0 := 0) rfl rfl) rfl hl.1 rfl (Nat.le_of_ble_eq_true rfl) dX7_haste_63 ⟨Nat.le_of_ble_eq_true rfl, Nat.le_of_ble_eq_true rfl⟩ (fun r_92 u_93 H locs hr_92 hP hD hS => ?_)
              obtain ⟨q_94, q_95, q_96, q_97, q_98, q_99, q_100⟩ := u_93
              try dsimp only at hr_92
              obtain ⟨hbq_94, hbq_95, hbq_96, hpq_99, hwq_100, hsr_92_0, hr_92⟩ := hr_92
              have h9R := zRe (ws' := [(xr, .inl (cI, 8, .inl fr)), (x0, .inr (7, [.ref xs, .ref j0, .ref k0, .ref w0, .ref rd, .ref mv, .ref xr, .int im, .int lf])), (j0, .inr (0, [.ref z0, .ref jp, .ref jc, .int cn, .int de, .int tr, .int se, .int hu, .int sd])), (w0, .inr (5, [.ref wk, .ref wl, .ref wc, .ref wp, .int q_94, .int q_95, .int q_96])), (wk, .inl (cI, 125, .inl q_97)), (wl, .inl (cI, 125, .inl q_98)), (wc, .inl (cI, 3, .inl q_99)), (wp, .inl (cP, 8, .inr (.inr (.inr (.inr q_100))))), (jp, .inl (cP, 8, .inr (.inr (.inr (.inr fp))))), (jc, .inl (cI, 3, .inl fjc))]) hP hD rfl
              clear hP hD
              obtain ⟨hP, hD⟩ := h9R
              obtain ⟨g_101, g_102⟩ := hr_92
              refine lv_istore (lv' := [(4, .int r_92), (3, .int 0), (0, .ref x0), (1, .int 1), (2, .int w)]) hx hb dX7_haste_66 hl (by decide) rfl (fun ls hl => ?_)
              refine lv_iconst (v := 1) hx hb dX7_haste_68 (by decide) ?_
              refine lv_istore (lv' := [(5, .int 1), (4, .int r_92), (3, .int 0), (0, .ref x0), (1, .int 1), (2, .int w)]) hx hb dX7_haste_69 hl (by decide) rfl (fun ls hl => ?_)
              obtain ⟨i_71, hi_71⟩ : ∃ i : Int32, i = 1 := ⟨_, rfl⟩
              replace hl : lv_has ls 7 [(5, .int i_71), (4, .int r_92), (3, .int 0), (0, .ref x0), (1, .int 1), (2, .int w)] := by rw [hi_71]; exact lv_sub hl [0, 1, 2, 3, 4, 5] rfl
              have h1i_71 : i_71.toInt = 1 := by rw [hi_71]; decide
              obtain ⟨nfu, hni_71⟩ : ∃ nq9 : Nat, 10 ≤ i_71.toInt + (nq9 : Int) := ⟨((10 : Int) - 1).toNat, by omega⟩
              have hloi_71 : 1 ≤ i_71.toInt := by omega
              obtain ⟨g_103, hg_103⟩ : ∃ g : Nat → Int32, g = q_97 := ⟨_, rfl⟩
              obtain ⟨g_104, hg_104⟩ : ∃ g : Nat → Int32, g = q_98 := ⟨_, rfl⟩
              obtain ⟨g_105, hg_105⟩ : ∃ g : Nat → Int32, g = q_99 := ⟨_, rfl⟩
              have hpg_105 : zRg g_105 (0) 99 := by rw [hg_105]; exact hpq_99
              obtain ⟨g_106, hg_106⟩ : ∃ g : Nat → Option Nat, g = q_100 := ⟨_, rfl⟩
              have hwg_106 : zWP po g_106 := by rw [hg_106]; exact hwq_100
              obtain ⟨v_107, hv_107⟩ : ∃ g : Int32, g = q_94 := ⟨_, rfl⟩
              have hbv_107 : 0 ≤ v_107.toInt ∧ v_107.toInt ≤ 8 := by rw [hv_107]; exact ⟨by omega, by omega⟩
              obtain ⟨v_108, hv_108⟩ : ∃ g : Int32, g = q_95 := ⟨_, rfl⟩
              have hbv_108 : 0 ≤ v_108.toInt ∧ v_108.toInt ≤ 9 := by rw [hv_108]; exact ⟨by omega, by omega⟩
              obtain ⟨v_109, hv_109⟩ : ∃ g : Int32, g = q_96 := ⟨_, rfl⟩
              have hbv_109 : 0 ≤ v_109.toInt ∧ v_109.toInt ≤ 60 := by rw [hv_109]; exact ⟨by omega, by omega⟩
              replace hP : va_P D vwCl [(xr, .inl (cI, 8, .inl fr)), (x0, .inr (7, [.ref xs, .ref j0, .ref k0, .ref w0, .ref rd, .ref mv, .ref xr, .int im, .int lf])), (j0, .inr (0, [.ref z0, .ref jp, .ref jc, .int cn, .int de, .int tr, .int se, .int hu, .int sd])), (w0, .inr (5, [.ref wk, .ref wl, .ref wc, .ref wp, .int v_107, .int v_108, .int v_109])), (wk, .inl (cI, 125, .inl g_103)), (wl, .inl (cI, 125, .inl g_104)), (wc, .inl (cI, 3, .inl g_105)), (wp, .inl (cP, 8, .inr (.inr (.inr (.inr g_106))))), (jp, .inl (cP, 8, .inr (.inr (.inr (.inr fp))))), (jc, .inl (cI, 3, .inl fjc))] H := by rw [hg_103, hg_104, hg_105, hg_106, hv_107, hv_108, hv_109]; exact hP
              replace hD : va_D (va_A [(x0, .inr (7, [.ref xs, .ref j0, .ref k0, .ref w0, .ref rd, .ref mv, .ref xr, .int im, .int lf])), (xr, .inl (cI, 8, .inl fr)), (j0, .inr (0, [.ref z0, .ref jp, .ref jc, .int cn, .int de, .int tr, .int se, .int hu, .int sd])), (w0, .inr (5, [.ref wk, .ref wl, .ref wc, .ref wp, .int wn, .int wh, .int wg])), (wk, .inl (cI, 125, .inl fk)), (wl, .inl (cI, 125, .inl fl)), (wc, .inl (cI, 3, .inl fc)), (wp, .inl (cP, 8, .inr (.inr (.inr (.inr fq))))), (jp, .inl (cP, 8, .inr (.inr (.inr (.inr fp))))), (jc, .inl (cI, 3, .inl fjc))] s.heap.size) [(xr, .inl (cI, 8, .inl fr)), (x0, .inr (7, [.ref xs, .ref j0, .ref k0, .ref w0, .ref rd, .ref mv, .ref xr, .int im, .int lf])), (j0, .inr (0, [.ref z0, .ref jp, .ref jc, .int cn, .int de, .int tr, .int se, .int hu, .int sd])), (w0, .inr (5, [.ref wk, .ref wl, .ref wc, .ref wp, .int v_107, .int v_108, .int v_109])), (wk, .inl (cI, 125, .inl g_103)), (wl, .inl (cI, 125, .inl g_104)), (wc, .inl (cI, 3, .inl g_105)), (wp, .inl (cP, 8, .inr (.inr (.inr (.inr g_106))))), (jp, .inl (cP, 8, .inr (.inr (.inr (.inr fp))))), (jc, .inl (cI, 3, .inl fjc))] := by rw [hg_103, hg_104, hg_105, hg_106, hv_107, hv_108, hv_109]; exact hD
              obtain ⟨v_110, hv_110⟩ : ∃ g : Int32, g = 0 := ⟨_, rfl⟩
              obtain ⟨v_111, hv_111⟩ : ∃ g : Int32, g = r_92 := ⟨_, rfl⟩
              replace hl : lv_has ls 7 [(5, .int i_71), (4, .int v_111), (3, .int v_110), (0, .ref x0), (1, .int 1), (2, .int w)] := by rw [hv_110, hv_111]; exact hl
              have hbv_110 : 0 ≤ v_110.toInt ∧ v_110.toInt ≤ 9 := by rw [hv_110]; exact ⟨by decide, by decide⟩
              have hbv_111 : 0 ≤ v_111.toInt ∧ v_111.toInt ≤ 20736 := by rw [hv_111]; exact ⟨by omega, by omega⟩
              have hvi_71_0 : (v_110 : Int32).toInt = (zHs (zHv kf af tf cn.toInt.toNat 1 de.toInt se.toInt) (i_71.toInt - 1).toNat : Nat) := by
                (try rw [hi_71]); (try rw [hg_103]); (try rw [hg_104]); (try rw [hg_105]); (try rw [hg_106]); (try rw [hv_107]); (try rw [hv_108]); (try rw [hv_109]); (try rw [hv_110]); (try rw [hv_111]); (rw [show ((1 : Int32).toInt - 1).toNat = 0 from by decide]; show (0 : Int32).toInt = ((0 : Nat) : Int); decide)
              have hvi_71_1 : (v_111 : Int32).toInt = (zHv kf af tf cn.toInt.toNat 1 de.toInt se.toInt) (zHs (zHv kf af tf cn.toInt.toNat 1 de.toInt se.toInt) (i_71.toInt - 1).toNat) := by
                (try rw [hi_71]); (try rw [hg_103]); (try rw [hg_104]); (try rw [hg_105]); (try rw [hg_106]); (try rw [hv_107]); (try rw [hv_108]); (try rw [hv_109]); (try rw [hv_110]); (try rw [hv_111]); (have z := hsr_92_0; rw [show (0 : Int32).toInt = ((0 : Nat) : Int) from by decide] at z; rw [show ((1 : Int32).toInt - 1).toNat = 0 from by decide]; exact z)
              have hvi_71_2 : 1 ≤ i_71.toInt ∧ i_71.toInt ≤ 10 := by
                (try rw [hi_71]); (try rw [hg_103]); (try rw [hg_104]); (try rw [hg_105]); (try rw [hg_106]); (try rw [hv_107]); (try rw [hv_108]); (try rw [hv_109]); (try rw [hv_110]); (try rw [hv_111]); (have k1 : (1 : Int32).toInt = 1 := (by decide); omega)
              clear h1i_71 hi_71 hg_103 hg_104 hg_105 hg_106 hv_107 hv_108 hv_109 hv_110 hv_111
              skip
              revert hni_71
              revert hloi_71
              revert hvi_71_2
              revert hvi_71_1
              revert hvi_71_0
              revert hbv_111
              revert hbv_110
              revert hbv_109
              revert hbv_108
              revert hbv_107
              revert hwg_106
              revert hpg_105
              revert hl
              revert hS
              revert hD
              revert hP
              revert ls
              revert locs
              revert H
              revert g_103
              revert g_104
              revert g_105
              revert g_106
              revert v_107
              revert v_108
              revert v_109
              revert v_111
              revert v_110
              revert i_71
              induction nfu with
              | zero =>
                intro i_71 v_110 v_111 v_109 v_108 v_107 g_106 g_105 g_104 g_103 H locs ls hP hD hS hl hpg_105 hwg_106 hbv_107 hbv_108 hbv_109 hbv_110 hbv_111 hvi_71_0 hvi_71_1 hvi_71_2 hloi_71 hni_71
                have hzi_71 : 10 ≤ i_71.toInt := by omega
                refine lv_iload hx hb dX7_haste_71 (lv_at hl 0 rfl) ?_
                refine lv_bipush (v := 9) hx hb dX7_haste_73 (by decide) ?_
                refine lv_icmp_gt (tgt := 107) hx hb dX7_haste_75 (by decide) (fun c_112 => ?_) (fun c_112 => ?_)
                · have fc_112 : 9 < i_71.toInt := zf_lt c_112 (by decide) rfl
                  refine lv_iload_n hx hb dX7_haste_107 rfl (lv_at hl 2 rfl) ?_
                  exact W.iret (v := v_110) hx hb hr (fun t ht hW => ⟨⟨v_110, (v_107, v_108, v_109, g_103, g_104, g_105, g_106, fr), rfl, ⟨(show 0 ≤ v_107.toInt ∧ v_107.toInt ≤ 8 from hbv_107), (show 0 ≤ v_108.toInt ∧ v_108.toInt ≤ 9 from hbv_108), (show 0 ≤ v_109.toInt ∧ v_109.toInt ≤ 60 from hbv_109), hpg_105, hwg_106, (show ((w.toInt < 0 ∨ 1 < w.toInt) ∧ (v_110 : Int32).toInt = -5) ∨ ((0 ≤ w.toInt ∧ w.toInt ≤ 1) ∧ ((((1 : Int32).toInt < 0 ∨ 4 < (1 : Int32).toInt) ∧ (v_110 : Int32).toInt = -6) ∨ ((0 ≤ (1 : Int32).toInt ∧ (1 : Int32).toInt ≤ 4) ∧ ((w.toInt = 1 ∧ (v_110 : Int32).toInt = (if (zHv kf af tf cn.toInt.toNat (1 : Int32).toInt.toNat de.toInt se.toInt) 9 < (zHv kf af tf cn.toInt.toNat (1 : Int32).toInt.toNat de.toInt se.toInt) 0 then 1 else 0)) ∨ (w.toInt = 0 ∧ (v_110 : Int32).toInt = (zHs (zHv kf af tf cn.toInt.toNat (1 : Int32).toInt.toNat de.toInt se.toInt) 9 : Nat)))))) from by (have k1 : (1 : Int32).toInt = 1 := (by decide); have k9_ : (9 : Int32).toInt = 9 := (by decide); have k0_ : (0 : Int32).toInt = 0 := (by decide); refine Or.inr ⟨by omega, Or.inr ⟨by omega, Or.inr ⟨by omega, (by rw [show (1 : Int32).toInt.toNat = 1 from by decide]; have h9 : (i_71.toInt - 1).toNat = 9 := (by omega); have z := hvi_71_0; rw [h9] at z; exact z)⟩⟩⟩)), trivial⟩, zRet ht hP hD [1, 0, 2, 3, 4, 5, 6, 7, 8, 9] (by decide) rfl⟩, hS.F ht⟩) hS.2.2 dX7_haste_108
                · exfalso; have fc_112 : i_71.toInt ≤ 9 := zf_nlt c_112 (by decide) rfl; omega
              | succ nfu ih =>
                intro i_71 v_110 v_111 v_109 v_108 v_107 g_106 g_105 g_104 g_103 H locs ls hP hD hS hl hpg_105 hwg_106 hbv_107 hbv_108 hbv_109 hbv_110 hbv_111 hvi_71_0 hvi_71_1 hvi_71_2 hloi_71 hni_71
                refine lv_iload hx hb dX7_haste_71 (lv_at hl 0 rfl) ?_
                refine lv_bipush (v := 9) hx hb dX7_haste_73 (by decide) ?_
                refine lv_icmp_gt (tgt := 107) hx hb dX7_haste_75 (by decide) (fun c_113 => ?_) (fun c_113 => ?_)
                · have fc_113 : 9 < i_71.toInt := zf_lt c_113 (by decide) rfl
                  refine lv_iload_n hx hb dX7_haste_107 rfl (lv_at hl 2 rfl) ?_
                  exact W.iret (v := v_110) hx hb hr (fun t ht hW => ⟨⟨v_110, (v_107, v_108, v_109, g_103, g_104, g_105, g_106, fr), rfl, ⟨(show 0 ≤ v_107.toInt ∧ v_107.toInt ≤ 8 from hbv_107), (show 0 ≤ v_108.toInt ∧ v_108.toInt ≤ 9 from hbv_108), (show 0 ≤ v_109.toInt ∧ v_109.toInt ≤ 60 from hbv_109), hpg_105, hwg_106, (show ((w.toInt < 0 ∨ 1 < w.toInt) ∧ (v_110 : Int32).toInt = -5) ∨ ((0 ≤ w.toInt ∧ w.toInt ≤ 1) ∧ ((((1 : Int32).toInt < 0 ∨ 4 < (1 : Int32).toInt) ∧ (v_110 : Int32).toInt = -6) ∨ ((0 ≤ (1 : Int32).toInt ∧ (1 : Int32).toInt ≤ 4) ∧ ((w.toInt = 1 ∧ (v_110 : Int32).toInt = (if (zHv kf af tf cn.toInt.toNat (1 : Int32).toInt.toNat de.toInt se.toInt) 9 < (zHv kf af tf cn.toInt.toNat (1 : Int32).toInt.toNat de.toInt se.toInt) 0 then 1 else 0)) ∨ (w.toInt = 0 ∧ (v_110 : Int32).toInt = (zHs (zHv kf af tf cn.toInt.toNat (1 : Int32).toInt.toNat de.toInt se.toInt) 9 : Nat)))))) from by (have k1 : (1 : Int32).toInt = 1 := (by decide); have k9_ : (9 : Int32).toInt = 9 := (by decide); have k0_ : (0 : Int32).toInt = 0 := (by decide); refine Or.inr ⟨by omega, Or.inr ⟨by omega, Or.inr ⟨by omega, (by rw [show (1 : Int32).toInt.toNat = 1 from by decide]; have h9 : (i_71.toInt - 1).toNat = 9 := (by omega); have z := hvi_71_0; rw [h9] at z; exact z)⟩⟩⟩)), trivial⟩, zRet ht hP hD [1, 0, 2, 3, 4, 5, 6, 7, 8, 9] (by decide) rfl⟩, hS.F ht⟩) hS.2.2 dX7_haste_108
                · have fc_113 : i_71.toInt ≤ 9 := zf_nlt c_113 (by decide) rfl
                  refine lv_aload_n hx hb dX7_haste_78 rfl (lv_at hl 3 rfl) ?_
                  refine lv_iload hx hb dX7_haste_79 (lv_at hl 0 rfl) ?_
                  refine lv_iload_n hx hb dX7_haste_81 rfl (lv_at hl 4 rfl) ?_
                  skip
                  refine zw_V (As := [.int i_71, .int 1]) (rest := []) (wr := [(xr, .inl (cI, 8, .inl fr))]) ⟨hx, hb, hml, hown, hts⟩ (c_F_X_casesBy_1 l D cI cJ cZ cP cS po x0 xs j0 k0 w0 rd mv xr (im) (lf) ((fun _ => 0)) j0 jp jc z0 0 0 (cn) (de) (tr) (se) (hu) (sd) wk wl wc wp (v_107) (v_108) (v_109) g_106 g_103 g_104 g_105 fjc fp kf af tf (i_71) hy0 hy1 hy2 hy3 hy4 hy5 hy6 hy7 hy8 hy9 hbv_107.1 hbv_107.2 hbv_108.1 hbv_108.2 hbv_109.1 hbv_109.2 hwg_106 hjp hy18 hy19 (by omega) (by omega) hpg_105 hp_fjc H.size) (cwV 2 hts gX7_haste_X7_casesBy rfl rfl rfl ⟨rfl, dh_X7_casesBy⟩ ⟨Nat.le_of_ble_eq_true rfl, Nat.le_of_ble_eq_true rfl⟩) hK hN (hZ.kept hS) hP hD hS hA [1, 2, 3, 4, 5, 6, 7, 8, 9] [0] rfl rfl (by decide) (by decide) (by decide) (va_recv (q := (RX7, TX7, 9)) hK hP (ci := 7) (q0 := 1) rfl rfl) rfl hl.1 rfl (Nat.le_of_ble_eq_true rfl) dX7_haste_82 ⟨Nat.le_of_ble_eq_true rfl, Nat.le_of_ble_eq_true rfl⟩ (fun r_114 u_115 H locs hr_114 hP hD hS => ?_)
                  obtain ⟨q_116, q_117, q_118, q_119, q_120, q_121, q_122⟩ := u_115
                  try dsimp only at hr_114
                  obtain ⟨hbq_116, hbq_117, hbq_118, hpq_121, hwq_122, hsr_114_0, hr_114⟩ := hr_114
                  have h9R := zRe (ws' := [(xr, .inl (cI, 8, .inl fr)), (x0, .inr (7, [.ref xs, .ref j0, .ref k0, .ref w0, .ref rd, .ref mv, .ref xr, .int im, .int lf])), (j0, .inr (0, [.ref z0, .ref jp, .ref jc, .int cn, .int de, .int tr, .int se, .int hu, .int sd])), (w0, .inr (5, [.ref wk, .ref wl, .ref wc, .ref wp, .int q_116, .int q_117, .int q_118])), (wk, .inl (cI, 125, .inl q_119)), (wl, .inl (cI, 125, .inl q_120)), (wc, .inl (cI, 3, .inl q_121)), (wp, .inl (cP, 8, .inr (.inr (.inr (.inr q_122))))), (jp, .inl (cP, 8, .inr (.inr (.inr (.inr fp))))), (jc, .inl (cI, 3, .inl fjc))]) hP hD rfl
                  clear hP hD
                  obtain ⟨hP, hD⟩ := h9R
                  obtain ⟨g_123, g_124⟩ := hr_114
                  refine lv_istore (lv' := [(6, .int r_114), (5, .int i_71), (4, .int v_111), (3, .int v_110), (0, .ref x0), (1, .int 1), (2, .int w)]) hx hb dX7_haste_85 hl (by decide) rfl (fun ls hl => ?_)
                  refine lv_iload hx hb dX7_haste_87 (lv_at hl 0 rfl) ?_
                  refine lv_iload hx hb dX7_haste_89 (lv_at hl 2 rfl) ?_
                  refine lv_icmp_le (tgt := 101) hx hb dX7_haste_91 (by decide) (fun c_125 => ?_) (fun c_125 => ?_)
                  · have fc_125 : r_114.toInt ≤ v_111.toInt := zf_le c_125 rfl rfl
                    obtain ⟨x_126, ex_126⟩ : ∃ y : Int32, y = i_71 + 1 := ⟨_, rfl⟩
                    have qx_126 : x_126.toInt = i_71.toInt + 1 := by rw [ex_126]; exact zf_add rfl (by decide) (by omega) (by omega)
                    refine lv_iinc (v := x_126) (lv' := [(5, .int x_126), (6, .int r_114), (4, .int v_111), (3, .int v_110), (0, .ref x0), (1, .int 1), (2, .int w)]) hx hb dX7_haste_101 hl (k := 1) rfl ex_126.symm (by decide) rfl (fun ls hl => ?_)
                    refine lv_goto (tgt := 71) hx hb dX7_haste_104 (by decide) ?_
                    exact ih x_126 v_110 v_111 (q_118) (q_117) (q_116) (q_122) (q_121) (q_120) (q_119) _ _ _ (hP.sub [0, 1, 2, 3, 4, 5, 6, 7, 8, 9] rfl) (hD.sub [0, 1, 2, 3, 4, 5, 6, 7, 8, 9] (by decide) rfl) hS (lv_sub hl [0, 2, 3, 4, 5, 6] rfl) hpq_121 hwq_122 hbq_116 hbq_117 hbq_118 hbv_110 hbv_111 (show (v_110 : Int32).toInt = (zHs (zHv kf af tf cn.toInt.toNat 1 de.toInt se.toInt) (x_126.toInt - 1).toNat : Nat) from by (have hx : (x_126.toInt - 1).toNat = (i_71.toInt - 1).toNat + 1 := (by omega); have y1 : (zHv kf af tf cn.toInt.toNat 1 de.toInt se.toInt) ((i_71.toInt - 1).toNat + 1) = r_114.toInt := (by have z := hsr_114_0; unfold zHv; rw [show (((i_71.toInt - 1).toNat + 1 : Nat) : Int) = i_71.toInt from by omega]; exact z.symm); rw [hx, zHs_s, y1, ← hvi_71_1]; first | (rw [if_pos (by omega)]; omega) | (rw [if_neg (by omega)]; exact hvi_71_0))) (show (v_111 : Int32).toInt = (zHv kf af tf cn.toInt.toNat 1 de.toInt se.toInt) (zHs (zHv kf af tf cn.toInt.toNat 1 de.toInt se.toInt) (x_126.toInt - 1).toNat) from by (have hx : (x_126.toInt - 1).toNat = (i_71.toInt - 1).toNat + 1 := (by omega); have y1 : (zHv kf af tf cn.toInt.toNat 1 de.toInt se.toInt) ((i_71.toInt - 1).toNat + 1) = r_114.toInt := (by have z := hsr_114_0; unfold zHv; rw [show (((i_71.toInt - 1).toNat + 1 : Nat) : Int) = i_71.toInt from by omega]; exact z.symm); rw [hx, zHs_s, y1]; first | (rw [if_pos (by rw [← hvi_71_1]; omega), y1]) | (rw [if_neg (by rw [← hvi_71_1]; omega)]; exact hvi_71_1))) (show 1 ≤ x_126.toInt ∧ x_126.toInt ≤ 10 from by exact ⟨by omega, by omega⟩) (dw_lo hloi_71 qx_126) (dw_hn hni_71 qx_126)
                  · have fc_125 : v_111.toInt < r_114.toInt := zf_nle c_125 rfl rfl
                    refine lv_iload hx hb dX7_haste_94 (lv_at hl 0 rfl) ?_
                    refine lv_istore (lv' := [(4, .int r_114), (6, .int r_114), (5, .int i_71), (3, .int v_110), (0, .ref x0), (1, .int 1), (2, .int w)]) hx hb dX7_haste_96 hl (by decide) rfl (fun ls hl => ?_)
                    refine lv_iload hx hb dX7_haste_98 (lv_at hl 2 rfl) ?_
                    refine lv_istore_n (lv' := [(3, .int i_71), (4, .int r_114), (6, .int r_114), (5, .int i_71), (0, .ref x0), (1, .int 1), (2, .int w)]) hx hb dX7_haste_100 rfl hl (by decide) rfl (fun ls hl => ?_)
                    obtain ⟨x_127, ex_127⟩ : ∃ y : Int32, y = i_71 + 1 := ⟨_, rfl⟩
                    have qx_127 : x_127.toInt = i_71.toInt + 1 := by rw [ex_127]; exact zf_add rfl (by decide) (by omega) (by omega)
                    refine lv_iinc (v := x_127) (lv' := [(5, .int x_127), (3, .int i_71), (4, .int r_114), (6, .int r_114), (0, .ref x0), (1, .int 1), (2, .int w)]) hx hb dX7_haste_101 hl (k := 3) rfl ex_127.symm (by decide) rfl (fun ls hl => ?_)
                    refine lv_goto (tgt := 71) hx hb dX7_haste_104 (by decide) ?_
                    exact ih x_127 i_71 r_114 (q_118) (q_117) (q_116) (q_122) (q_121) (q_120) (q_119) _ _ _ (hP.sub [0, 1, 2, 3, 4, 5, 6, 7, 8, 9] rfl) (hD.sub [0, 1, 2, 3, 4, 5, 6, 7, 8, 9] (by decide) rfl) hS (lv_sub hl [0, 2, 1, 4, 5, 6] rfl) hpq_121 hwq_122 hbq_116 hbq_117 hbq_118 ⟨by omega, by omega⟩ ⟨by omega, by omega⟩ (show (i_71 : Int32).toInt = (zHs (zHv kf af tf cn.toInt.toNat 1 de.toInt se.toInt) (x_127.toInt - 1).toNat : Nat) from by (have hx : (x_127.toInt - 1).toNat = (i_71.toInt - 1).toNat + 1 := (by omega); have y1 : (zHv kf af tf cn.toInt.toNat 1 de.toInt se.toInt) ((i_71.toInt - 1).toNat + 1) = r_114.toInt := (by have z := hsr_114_0; unfold zHv; rw [show (((i_71.toInt - 1).toNat + 1 : Nat) : Int) = i_71.toInt from by omega]; exact z.symm); rw [hx, zHs_s, y1, ← hvi_71_1]; first | (rw [if_pos (by omega)]; omega) | (rw [if_neg (by omega)]; exact hvi_71_0))) (show (r_114 : Int32).toInt = (zHv kf af tf cn.toInt.toNat 1 de.toInt se.toInt) (zHs (zHv kf af tf cn.toInt.toNat 1 de.toInt se.toInt) (x_127.toInt - 1).toNat) from by (have hx : (x_127.toInt - 1).toNat = (i_71.toInt - 1).toNat + 1 := (by omega); have y1 : (zHv kf af tf cn.toInt.toNat 1 de.toInt se.toInt) ((i_71.toInt - 1).toNat + 1) = r_114.toInt := (by have z := hsr_114_0; unfold zHv; rw [show (((i_71.toInt - 1).toNat + 1 : Nat) : Int) = i_71.toInt from by omega]; exact z.symm); rw [hx, zHs_s, y1]; first | (rw [if_pos (by rw [← hvi_71_1]; omega), y1]) | (rw [if_neg (by rw [← hvi_71_1]; omega)]; exact hvi_71_1))) (show 1 ≤ x_127.toInt ∧ x_127.toInt ≤ 10 from by exact ⟨by omega, by omega⟩) (dw_lo hloi_71 qx_127) (dw_hn hni_71 qx_127)
            · have fc_91 : w.toInt = 1 := zf_eq c_91 rfl (by decide)
              refine lv_aload_n hx hb dX7_haste_36 rfl (lv_at hl 0 rfl) ?_
              refine lv_bipush (v := 9) hx hb dX7_haste_37 (by decide) ?_
              refine lv_iload_n hx hb dX7_haste_39 rfl (lv_at hl 1 rfl) ?_
              have kc9 : (9 : Int32).toInt = 9 := by decide
              skip
              refine zw_V (As := [.int 9, .int 1]) (rest := []) (wr := [(xr, .inl (cI, 8, .inl fr))]) ⟨hx, hb, hml, hown, hts⟩ (c_F_X_casesBy_1 l D cI cJ cZ cP cS po x0 xs j0 k0 w0 rd mv xr (im) (lf) ((fun _ => 0)) j0 jp jc z0 0 0 (cn) (de) (tr) (se) (hu) (sd) wk wl wc wp (wn) (wh) (wg) fq fk fl fc fjc fp kf af tf (9) hy0 hy1 hy2 hy3 hy4 hy5 hy6 hy7 hy8 hy9 hy10 hy11 hy12 hy13 hy14 hy15 hwq hjp hy18 hy19 (by omega) (by omega) hp_fc hp_fjc H.size) (cwV 2 hts gX7_haste_X7_casesBy rfl rfl rfl ⟨rfl, dh_X7_casesBy⟩ ⟨Nat.le_of_ble_eq_true rfl, Nat.le_of_ble_eq_true rfl⟩) hK hN (hZ.kept hS) hP hD hS hA [0, 2, 3, 4, 5, 6, 7, 8, 9] [1] rfl rfl (by decide) (by decide) (by decide) (va_recv (q := (RX7, TX7, 9)) hK hP (ci := 7) (q0 := 0) rfl rfl) rfl hl.1 rfl (Nat.le_of_ble_eq_true rfl) dX7_haste_40 ⟨Nat.le_of_ble_eq_true rfl, Nat.le_of_ble_eq_true rfl⟩ (fun r_128 u_129 H locs hr_128 hP hD hS => ?_)
              obtain ⟨q_130, q_131, q_132, q_133, q_134, q_135, q_136⟩ := u_129
              try dsimp only at hr_128
              obtain ⟨hbq_130, hbq_131, hbq_132, hpq_135, hwq_136, hsr_128_0, hr_128⟩ := hr_128
              have h9R := zRe (ws' := [(xr, .inl (cI, 8, .inl fr)), (x0, .inr (7, [.ref xs, .ref j0, .ref k0, .ref w0, .ref rd, .ref mv, .ref xr, .int im, .int lf])), (j0, .inr (0, [.ref z0, .ref jp, .ref jc, .int cn, .int de, .int tr, .int se, .int hu, .int sd])), (w0, .inr (5, [.ref wk, .ref wl, .ref wc, .ref wp, .int q_130, .int q_131, .int q_132])), (wk, .inl (cI, 125, .inl q_133)), (wl, .inl (cI, 125, .inl q_134)), (wc, .inl (cI, 3, .inl q_135)), (wp, .inl (cP, 8, .inr (.inr (.inr (.inr q_136))))), (jp, .inl (cP, 8, .inr (.inr (.inr (.inr fp))))), (jc, .inl (cI, 3, .inl fjc))]) hP hD rfl
              clear hP hD
              obtain ⟨hP, hD⟩ := h9R
              obtain ⟨g_137, g_138⟩ := hr_128
              refine lv_aload_n hx hb dX7_haste_43 rfl (lv_at hl 0 rfl) ?_
              refine lv_iconst (v := 0) hx hb dX7_haste_44 (by decide) ?_
              refine lv_iload_n hx hb dX7_haste_45 rfl (lv_at hl 1 rfl) ?_
              skip
              refine zw_V (As := [.int 0, .int 1]) (rest := [.int r_128]) (wr := [(xr, .inl (cI, 8, .inl fr))]) ⟨hx, hb, hml, hown, hts⟩ (c_F_X_casesBy_1 l D cI cJ cZ cP cS po x0 xs j0 k0 w0 rd mv xr (im) (lf) ((fun _ => 0)) j0 jp jc z0 0 0 (cn) (de) (tr) (se) (hu) (sd) wk wl wc wp (q_130) (q_131) (q_132) q_136 q_133 q_134 q_135 fjc fp kf af tf (0) hy0 hy1 hy2 hy3 hy4 hy5 hy6 hy7 hy8 hy9 hbq_130.1 hbq_130.2 hbq_131.1 hbq_131.2 hbq_132.1 hbq_132.2 hwq_136 hjp hy18 hy19 (by omega) (by omega) hpq_135 hp_fjc H.size) (cwV 2 hts gX7_haste_X7_casesBy rfl rfl rfl ⟨rfl, dh_X7_casesBy⟩ ⟨Nat.le_of_ble_eq_true rfl, Nat.le_of_ble_eq_true rfl⟩) hK hN (hZ.kept hS) hP hD hS hA [1, 2, 3, 4, 5, 6, 7, 8, 9] [0] rfl rfl (by decide) (by decide) (by decide) (va_recv (q := (RX7, TX7, 9)) hK hP (ci := 7) (q0 := 1) rfl rfl) rfl hl.1 rfl (Nat.le_of_ble_eq_true rfl) dX7_haste_46 ⟨Nat.le_of_ble_eq_true rfl, Nat.le_of_ble_eq_true rfl⟩ (fun r_139 u_140 H locs hr_139 hP hD hS => ?_)
              obtain ⟨q_141, q_142, q_143, q_144, q_145, q_146, q_147⟩ := u_140
              try dsimp only at hr_139
              obtain ⟨hbq_141, hbq_142, hbq_143, hpq_146, hwq_147, hsr_139_0, hr_139⟩ := hr_139
              have h9R := zRe (ws' := [(xr, .inl (cI, 8, .inl fr)), (x0, .inr (7, [.ref xs, .ref j0, .ref k0, .ref w0, .ref rd, .ref mv, .ref xr, .int im, .int lf])), (j0, .inr (0, [.ref z0, .ref jp, .ref jc, .int cn, .int de, .int tr, .int se, .int hu, .int sd])), (w0, .inr (5, [.ref wk, .ref wl, .ref wc, .ref wp, .int q_141, .int q_142, .int q_143])), (wk, .inl (cI, 125, .inl q_144)), (wl, .inl (cI, 125, .inl q_145)), (wc, .inl (cI, 3, .inl q_146)), (wp, .inl (cP, 8, .inr (.inr (.inr (.inr q_147))))), (jp, .inl (cP, 8, .inr (.inr (.inr (.inr fp))))), (jc, .inl (cI, 3, .inl fjc))]) hP hD rfl
              clear hP hD
              obtain ⟨hP, hD⟩ := h9R
              obtain ⟨g_148, g_149⟩ := hr_139
              refine lv_icmp_ge (tgt := 56) hx hb dX7_haste_49 (by decide) (fun c_150 => ?_) (fun c_150 => ?_)
              · have fc_150 : r_139.toInt ≤ r_128.toInt := zf_le c_150 rfl rfl
                refine lv_iconst (v := 0) hx hb dX7_haste_56 (by decide) ?_
                exact W.iret (v := 0) hx hb hr (fun t ht hW => ⟨⟨0, (q_141, q_142, q_143, q_144, q_145, q_146, q_147, fr), rfl, ⟨(show 0 ≤ q_141.toInt ∧ q_141.toInt ≤ 8 from hbq_141), (show 0 ≤ q_142.toInt ∧ q_142.toInt ≤ 9 from hbq_142), (show 0 ≤ q_143.toInt ∧ q_143.toInt ≤ 60 from hbq_143), hpq_146, hwq_147, (show ((w.toInt < 0 ∨ 1 < w.toInt) ∧ (0 : Int32).toInt = -5) ∨ ((0 ≤ w.toInt ∧ w.toInt ≤ 1) ∧ ((((1 : Int32).toInt < 0 ∨ 4 < (1 : Int32).toInt) ∧ (0 : Int32).toInt = -6) ∨ ((0 ≤ (1 : Int32).toInt ∧ (1 : Int32).toInt ≤ 4) ∧ ((w.toInt = 1 ∧ (0 : Int32).toInt = (if (zHv kf af tf cn.toInt.toNat (1 : Int32).toInt.toNat de.toInt se.toInt) 9 < (zHv kf af tf cn.toInt.toNat (1 : Int32).toInt.toNat de.toInt se.toInt) 0 then 1 else 0)) ∨ (w.toInt = 0 ∧ (0 : Int32).toInt = (zHs (zHv kf af tf cn.toInt.toNat (1 : Int32).toInt.toNat de.toInt se.toInt) 9 : Nat)))))) from by (have k0 : (0 : Int32).toInt = 0 := (by decide); have k1 : (1 : Int32).toInt = 1 := (by decide); have k9 : (0 : Int32).toInt = 0 := (by decide); have k9_ : (9 : Int32).toInt = 9 := (by decide); have k0_ : (0 : Int32).toInt = 0 := (by decide); refine Or.inr ⟨by omega, Or.inr ⟨by omega, Or.inl ⟨by omega, (by rw [show (1 : Int32).toInt.toNat = 1 from by decide]; have z1 := hsr_128_0; have z2 := hsr_139_0; rw [k9_] at z1; rw [k0_] at z2; have y1 : (zHv kf af tf cn.toInt.toNat 1 de.toInt se.toInt) 9 = r_128.toInt := z1.symm; have y2 : (zHv kf af tf cn.toInt.toNat 1 de.toInt se.toInt) 0 = r_139.toInt := z2.symm; rw [y1, y2]; first | (rw [if_neg (by omega)]; omega) | (rw [if_pos (by omega)]; omega))⟩⟩⟩)), trivial⟩, zRet ht hP hD [1, 0, 2, 3, 4, 5, 6, 7, 8, 9] (by decide) rfl⟩, hS.F ht⟩) hS.2.2 dX7_haste_57
              · have fc_150 : r_128.toInt < r_139.toInt := zf_nle c_150 rfl rfl
                refine lv_iconst (v := 1) hx hb dX7_haste_52 (by decide) ?_
                refine lv_goto (tgt := 57) hx hb dX7_haste_53 (by decide) ?_
                exact W.iret (v := 1) hx hb hr (fun t ht hW => ⟨⟨1, (q_141, q_142, q_143, q_144, q_145, q_146, q_147, fr), rfl, ⟨(show 0 ≤ q_141.toInt ∧ q_141.toInt ≤ 8 from hbq_141), (show 0 ≤ q_142.toInt ∧ q_142.toInt ≤ 9 from hbq_142), (show 0 ≤ q_143.toInt ∧ q_143.toInt ≤ 60 from hbq_143), hpq_146, hwq_147, (show ((w.toInt < 0 ∨ 1 < w.toInt) ∧ (1 : Int32).toInt = -5) ∨ ((0 ≤ w.toInt ∧ w.toInt ≤ 1) ∧ ((((1 : Int32).toInt < 0 ∨ 4 < (1 : Int32).toInt) ∧ (1 : Int32).toInt = -6) ∨ ((0 ≤ (1 : Int32).toInt ∧ (1 : Int32).toInt ≤ 4) ∧ ((w.toInt = 1 ∧ (1 : Int32).toInt = (if (zHv kf af tf cn.toInt.toNat (1 : Int32).toInt.toNat de.toInt se.toInt) 9 < (zHv kf af tf cn.toInt.toNat (1 : Int32).toInt.toNat de.toInt se.toInt) 0 then 1 else 0)) ∨ (w.toInt = 0 ∧ (1 : Int32).toInt = (zHs (zHv kf af tf cn.toInt.toNat (1 : Int32).toInt.toNat de.toInt se.toInt) 9 : Nat)))))) from by (have k1 : (1 : Int32).toInt = 1 := (by decide); have k9 : (1 : Int32).toInt = 1 := (by decide); have k9_ : (9 : Int32).toInt = 9 := (by decide); have k0_ : (0 : Int32).toInt = 0 := (by decide); refine Or.inr ⟨by omega, Or.inr ⟨by omega, Or.inl ⟨by omega, (by rw [show (1 : Int32).toInt.toNat = 1 from by decide]; have z1 := hsr_128_0; have z2 := hsr_139_0; rw [k9_] at z1; rw [k0_] at z2; have y1 : (zHv kf af tf cn.toInt.toNat 1 de.toInt se.toInt) 9 = r_128.toInt := z1.symm; have y2 : (zHv kf af tf cn.toInt.toNat 1 de.toInt se.toInt) 0 = r_139.toInt := z2.symm; rw [y1, y2]; first | (rw [if_pos (by omega)]; omega) | (rw [if_neg (by omega)]; omega))⟩⟩⟩)), trivial⟩, zRet ht hP hD [1, 0, 2, 3, 4, 5, 6, 7, 8, 9] (by decide) rfl⟩, hS.F ht⟩) hS.2.2 dX7_haste_57
          · refine lv_iload_n hx hb dX7_haste_31 rfl (lv_at hl 2 rfl) ?_
            refine lv_iconst (v := 1) hx hb dX7_haste_32 (by decide) ?_
            refine lv_icmp_ne (tgt := 58) hx hb dX7_haste_33 (by decide) (fun c_151 => ?_) (fun c_151 => ?_)
            · have fc_151 : w.toInt ≠ 1 := zf_ne c_151 rfl (by decide)
              refine lv_iconst (v := 0) hx hb dX7_haste_58 (by decide) ?_
              refine lv_istore_n (lv' := [(3, .int 0), (0, .ref x0), (1, .int 2), (2, .int w)]) hx hb dX7_haste_59 rfl hl (by decide) rfl (fun ls hl => ?_)
              refine lv_aload_n hx hb dX7_haste_60 rfl (lv_at hl 1 rfl) ?_
              refine lv_iconst (v := 0) hx hb dX7_haste_61 (by decide) ?_
              refine lv_iload_n hx hb dX7_haste_62 rfl (lv_at hl 2 rfl) ?_
              skip
              refine zw_V (As := [.int 0, .int 2]) (rest := []) (wr := [(xr, .inl (cI, 8, .inl fr))]) ⟨hx, hb, hml, hown, hts⟩ (c_F_X_casesBy_2 l D cI cJ cZ cP cS po x0 xs j0 k0 w0 rd mv xr (im) (lf) ((fun _ => 0)) j0 jp jc z0 0 0 (cn) (de) (tr) (se) (hu) (sd) wk wl wc wp (wn) (wh) (wg) fq fk fl fc fjc fp kf af tf (0) hy0 hy1 hy2 hy3 hy4 hy5 hy6 hy7 hy8 hy9 hy10 hy11 hy12 hy13 hy14 hy15 hwq hjp hy18 hy19 (by omega) (by omega) hp_fc hp_fjc H.size) (cwV 2 hts gX7_haste_X7_casesBy rfl rfl rfl ⟨rfl, dh_X7_casesBy⟩ ⟨Nat.le_of_ble_eq_true rfl, Nat.le_of_ble_eq_true rfl⟩) hK hN (hZ.kept hS) hP hD hS hA [0, 2, 3, 4, 5, 6, 7, 8, 9] [1] rfl rfl (by decide) (by decide) (by decide) (va_recv (q := (RX7, TX7, 9)) hK hP (ci := 7) (q0 := 0) rfl rfl) rfl hl.1 rfl (Nat.le_of_ble_eq_true rfl) dX7_haste_63 ⟨Nat.le_of_ble_eq_true rfl, Nat.le_of_ble_eq_true rfl⟩ (fun r_152 u_153 H locs hr_152 hP hD hS => ?_)
              obtain ⟨q_154, q_155, q_156, q_157, q_158, q_159, q_160⟩ := u_153
              try dsimp only at hr_152
              obtain ⟨hbq_154, hbq_155, hbq_156, hpq_159, hwq_160, hsr_152_0, hr_152⟩ := hr_152
              have h9R := zRe (ws' := [(xr, .inl (cI, 8, .inl fr)), (x0, .inr (7, [.ref xs, .ref j0, .ref k0, .ref w0, .ref rd, .ref mv, .ref xr, .int im, .int lf])), (j0, .inr (0, [.ref z0, .ref jp, .ref jc, .int cn, .int de, .int tr, .int se, .int hu, .int sd])), (w0, .inr (5, [.ref wk, .ref wl, .ref wc, .ref wp, .int q_154, .int q_155, .int q_156])), (wk, .inl (cI, 125, .inl q_157)), (wl, .inl (cI, 125, .inl q_158)), (wc, .inl (cI, 3, .inl q_159)), (wp, .inl (cP, 8, .inr (.inr (.inr (.inr q_160))))), (jp, .inl (cP, 8, .inr (.inr (.inr (.inr fp))))), (jc, .inl (cI, 3, .inl fjc))]) hP hD rfl
              clear hP hD
              obtain ⟨hP, hD⟩ := h9R
              obtain ⟨g_161, g_162⟩ := hr_152
              refine lv_istore (lv' := [(4, .int r_152), (3, .int 0), (0, .ref x0), (1, .int 2), (2, .int w)]) hx hb dX7_haste_66 hl (by decide) rfl (fun ls hl => ?_)
              refine lv_iconst (v := 1) hx hb dX7_haste_68 (by decide) ?_
              refine lv_istore (lv' := [(5, .int 1), (4, .int r_152), (3, .int 0), (0, .ref x0), (1, .int 2), (2, .int w)]) hx hb dX7_haste_69 hl (by decide) rfl (fun ls hl => ?_)
              obtain ⟨i_71, hi_71⟩ : ∃ i : Int32, i = 1 := ⟨_, rfl⟩
              replace hl : lv_has ls 7 [(5, .int i_71), (4, .int r_152), (3, .int 0), (0, .ref x0), (1, .int 2), (2, .int w)] := by rw [hi_71]; exact lv_sub hl [0, 1, 2, 3, 4, 5] rfl
              have h1i_71 : i_71.toInt = 1 := by rw [hi_71]; decide
              obtain ⟨nfu, hni_71⟩ : ∃ nq9 : Nat, 10 ≤ i_71.toInt + (nq9 : Int) := ⟨((10 : Int) - 1).toNat, by omega⟩
              have hloi_71 : 1 ≤ i_71.toInt := by omega
              obtain ⟨g_163, hg_163⟩ : ∃ g : Nat → Int32, g = q_157 := ⟨_, rfl⟩
              obtain ⟨g_164, hg_164⟩ : ∃ g : Nat → Int32, g = q_158 := ⟨_, rfl⟩
              obtain ⟨g_165, hg_165⟩ : ∃ g : Nat → Int32, g = q_159 := ⟨_, rfl⟩
              have hpg_165 : zRg g_165 (0) 99 := by rw [hg_165]; exact hpq_159
              obtain ⟨g_166, hg_166⟩ : ∃ g : Nat → Option Nat, g = q_160 := ⟨_, rfl⟩
              have hwg_166 : zWP po g_166 := by rw [hg_166]; exact hwq_160
              obtain ⟨v_167, hv_167⟩ : ∃ g : Int32, g = q_154 := ⟨_, rfl⟩
              have hbv_167 : 0 ≤ v_167.toInt ∧ v_167.toInt ≤ 8 := by rw [hv_167]; exact ⟨by omega, by omega⟩
              obtain ⟨v_168, hv_168⟩ : ∃ g : Int32, g = q_155 := ⟨_, rfl⟩
              have hbv_168 : 0 ≤ v_168.toInt ∧ v_168.toInt ≤ 9 := by rw [hv_168]; exact ⟨by omega, by omega⟩
              obtain ⟨v_169, hv_169⟩ : ∃ g : Int32, g = q_156 := ⟨_, rfl⟩
              have hbv_169 : 0 ≤ v_169.toInt ∧ v_169.toInt ≤ 60 := by rw [hv_169]; exact ⟨by omega, by omega⟩
              replace hP : va_P D vwCl [(xr, .inl (cI, 8, .inl fr)), (x0, .inr (7, [.ref xs, .ref j0, .ref k0, .ref w0, .ref rd, .ref mv, .ref xr, .int im, .int lf])), (j0, .inr (0, [.ref z0, .ref jp, .ref jc, .int cn, .int de, .int tr, .int se, .int hu, .int sd])), (w0, .inr (5, [.ref wk, .ref wl, .ref wc, .ref wp, .int v_167, .int v_168, .int v_169])), (wk, .inl (cI, 125, .inl g_163)), (wl, .inl (cI, 125, .inl g_164)), (wc, .inl (cI, 3, .inl g_165)), (wp, .inl (cP, 8, .inr (.inr (.inr (.inr g_166))))), (jp, .inl (cP, 8, .inr (.inr (.inr (.inr fp))))), (jc, .inl (cI, 3, .inl fjc))] H := by rw [hg_163, hg_164, hg_165, hg_166, hv_167, hv_168, hv_169]; exact hP
              replace hD : va_D (va_A [(x0, .inr (7, [.ref xs, .ref j0, .ref k0, .ref w0, .ref rd, .ref mv, .ref xr, .int im, .int lf])), (xr, .inl (cI, 8, .inl fr)), (j0, .inr (0, [.ref z0, .ref jp, .ref jc, .int cn, .int de, .int tr, .int se, .int hu, .int sd])), (w0, .inr (5, [.ref wk, .ref wl, .ref wc, .ref wp, .int wn, .int wh, .int wg])), (wk, .inl (cI, 125, .inl fk)), (wl, .inl (cI, 125, .inl fl)), (wc, .inl (cI, 3, .inl fc)), (wp, .inl (cP, 8, .inr (.inr (.inr (.inr fq))))), (jp, .inl (cP, 8, .inr (.inr (.inr (.inr fp))))), (jc, .inl (cI, 3, .inl fjc))] s.heap.size) [(xr, .inl (cI, 8, .inl fr)), (x0, .inr (7, [.ref xs, .ref j0, .ref k0, .ref w0, .ref rd, .ref mv, .ref xr, .int im, .int lf])), (j0, .inr (0, [.ref z0, .ref jp, .ref jc, .int cn, .int de, .int tr, .int se, .int hu, .int sd])), (w0, .inr (5, [.ref wk, .ref wl, .ref wc, .ref wp, .int v_167, .int v_168, .int v_169])), (wk, .inl (cI, 125, .inl g_163)), (wl, .inl (cI, 125, .inl g_164)), (wc, .inl (cI, 3, .inl g_165)), (wp, .inl (cP, 8, .inr (.inr (.inr (.inr g_166))))), (jp, .inl (cP, 8, .inr (.inr (.inr (.inr fp))))), (jc, .inl (cI, 3, .inl fjc))] := by rw [hg_163, hg_164, hg_165, hg_166, hv_167, hv_168, hv_169]; exact hD
              obtain ⟨v_170, hv_170⟩ : ∃ g : Int32, g = 0 := ⟨_, rfl⟩
              obtain ⟨v_171, hv_171⟩ : ∃ g : Int32, g = r_152 := ⟨_, rfl⟩
              replace hl : lv_has ls 7 [(5, .int i_71), (4, .int v_171), (3, .int v_170), (0, .ref x0), (1, .int 2), (2, .int w)] := by rw [hv_170, hv_171]; exact hl
              have hbv_170 : 0 ≤ v_170.toInt ∧ v_170.toInt ≤ 9 := by rw [hv_170]; exact ⟨by decide, by decide⟩
              have hbv_171 : 0 ≤ v_171.toInt ∧ v_171.toInt ≤ 20736 := by rw [hv_171]; exact ⟨by omega, by omega⟩
              have hvi_71_0 : (v_170 : Int32).toInt = (zHs (zHv kf af tf cn.toInt.toNat 2 de.toInt se.toInt) (i_71.toInt - 1).toNat : Nat) := by
                (try rw [hi_71]); (try rw [hg_163]); (try rw [hg_164]); (try rw [hg_165]); (try rw [hg_166]); (try rw [hv_167]); (try rw [hv_168]); (try rw [hv_169]); (try rw [hv_170]); (try rw [hv_171]); (rw [show ((1 : Int32).toInt - 1).toNat = 0 from by decide]; show (0 : Int32).toInt = ((0 : Nat) : Int); decide)
              have hvi_71_1 : (v_171 : Int32).toInt = (zHv kf af tf cn.toInt.toNat 2 de.toInt se.toInt) (zHs (zHv kf af tf cn.toInt.toNat 2 de.toInt se.toInt) (i_71.toInt - 1).toNat) := by
                (try rw [hi_71]); (try rw [hg_163]); (try rw [hg_164]); (try rw [hg_165]); (try rw [hg_166]); (try rw [hv_167]); (try rw [hv_168]); (try rw [hv_169]); (try rw [hv_170]); (try rw [hv_171]); (have z := hsr_152_0; rw [show (0 : Int32).toInt = ((0 : Nat) : Int) from by decide] at z; rw [show ((1 : Int32).toInt - 1).toNat = 0 from by decide]; exact z)
              have hvi_71_2 : 1 ≤ i_71.toInt ∧ i_71.toInt ≤ 10 := by
                (try rw [hi_71]); (try rw [hg_163]); (try rw [hg_164]); (try rw [hg_165]); (try rw [hg_166]); (try rw [hv_167]); (try rw [hv_168]); (try rw [hv_169]); (try rw [hv_170]); (try rw [hv_171]); (have k1 : (1 : Int32).toInt = 1 := (by decide); omega)
              clear h1i_71 hi_71 hg_163 hg_164 hg_165 hg_166 hv_167 hv_168 hv_169 hv_170 hv_171
              skip
              revert hni_71
              revert hloi_71
              revert hvi_71_2
              revert hvi_71_1
              revert hvi_71_0
              revert hbv_171
              revert hbv_170
              revert hbv_169
              revert hbv_168
              revert hbv_167
              revert hwg_166
              revert hpg_165
              revert hl
              revert hS
              revert hD
              revert hP
              revert ls
              revert locs
              revert H
              revert g_163
              revert g_164
              revert g_165
              revert g_166
              revert v_167
              revert v_168
              revert v_169
              revert v_171
              revert v_170
              revert i_71
              induction nfu with
              | zero =>
                intro i_71 v_170 v_171 v_169 v_168 v_167 g_166 g_165 g_164 g_163 H locs ls hP hD hS hl hpg_165 hwg_166 hbv_167 hbv_168 hbv_169 hbv_170 hbv_171 hvi_71_0 hvi_71_1 hvi_71_2 hloi_71 hni_71
                have hzi_71 : 10 ≤ i_71.toInt := by omega
                refine lv_iload hx hb dX7_haste_71 (lv_at hl 0 rfl) ?_
                refine lv_bipush (v := 9) hx hb dX7_haste_73 (by decide) ?_
                refine lv_icmp_gt (tgt := 107) hx hb dX7_haste_75 (by decide) (fun c_172 => ?_) (fun c_172 => ?_)
                · have fc_172 : 9 < i_71.toInt := zf_lt c_172 (by decide) rfl
                  refine lv_iload_n hx hb dX7_haste_107 rfl (lv_at hl 2 rfl) ?_
                  exact W.iret (v := v_170) hx hb hr (fun t ht hW => ⟨⟨v_170, (v_167, v_168, v_169, g_163, g_164, g_165, g_166, fr), rfl, ⟨(show 0 ≤ v_167.toInt ∧ v_167.toInt ≤ 8 from hbv_167), (show 0 ≤ v_168.toInt ∧ v_168.toInt ≤ 9 from hbv_168), (show 0 ≤ v_169.toInt ∧ v_169.toInt ≤ 60 from hbv_169), hpg_165, hwg_166, (show ((w.toInt < 0 ∨ 1 < w.toInt) ∧ (v_170 : Int32).toInt = -5) ∨ ((0 ≤ w.toInt ∧ w.toInt ≤ 1) ∧ ((((2 : Int32).toInt < 0 ∨ 4 < (2 : Int32).toInt) ∧ (v_170 : Int32).toInt = -6) ∨ ((0 ≤ (2 : Int32).toInt ∧ (2 : Int32).toInt ≤ 4) ∧ ((w.toInt = 1 ∧ (v_170 : Int32).toInt = (if (zHv kf af tf cn.toInt.toNat (2 : Int32).toInt.toNat de.toInt se.toInt) 9 < (zHv kf af tf cn.toInt.toNat (2 : Int32).toInt.toNat de.toInt se.toInt) 0 then 1 else 0)) ∨ (w.toInt = 0 ∧ (v_170 : Int32).toInt = (zHs (zHv kf af tf cn.toInt.toNat (2 : Int32).toInt.toNat de.toInt se.toInt) 9 : Nat)))))) from by (have k2 : (2 : Int32).toInt = 2 := (by decide); have k9_ : (9 : Int32).toInt = 9 := (by decide); have k0_ : (0 : Int32).toInt = 0 := (by decide); refine Or.inr ⟨by omega, Or.inr ⟨by omega, Or.inr ⟨by omega, (by rw [show (2 : Int32).toInt.toNat = 2 from by decide]; have h9 : (i_71.toInt - 1).toNat = 9 := (by omega); have z := hvi_71_0; rw [h9] at z; exact z)⟩⟩⟩)), trivial⟩, zRet ht hP hD [1, 0, 2, 3, 4, 5, 6, 7, 8, 9] (by decide) rfl⟩, hS.F ht⟩) hS.2.2 dX7_haste_108
                · exfalso; have fc_172 : i_71.toInt ≤ 9 := zf_nlt c_172 (by decide) rfl; omega
              | succ nfu ih =>
                intro i_71 v_170 v_171 v_169 v_168 v_167 g_166 g_165 g_164 g_163 H locs ls hP hD hS hl hpg_165 hwg_166 hbv_167 hbv_168 hbv_169 hbv_170 hbv_171 hvi_71_0 hvi_71_1 hvi_71_2 hloi_71 hni_71
                refine lv_iload hx hb dX7_haste_71 (lv_at hl 0 rfl) ?_
                refine lv_bipush (v := 9) hx hb dX7_haste_73 (by decide) ?_
                refine lv_icmp_gt (tgt := 107) hx hb dX7_haste_75 (by decide) (fun c_173 => ?_) (fun c_173 => ?_)
                · have fc_173 : 9 < i_71.toInt := zf_lt c_173 (by decide) rfl
                  refine lv_iload_n hx hb dX7_haste_107 rfl (lv_at hl 2 rfl) ?_
                  exact W.iret (v := v_170) hx hb hr (fun t ht hW => ⟨⟨v_170, (v_167, v_168, v_169, g_163, g_164, g_165, g_166, fr), rfl, ⟨(show 0 ≤ v_167.toInt ∧ v_167.toInt ≤ 8 from hbv_167), (show 0 ≤ v_168.toInt ∧ v_168.toInt ≤ 9 from hbv_168), (show 0 ≤ v_169.toInt ∧ v_169.toInt ≤ 60 from hbv_169), hpg_165, hwg_166, (show ((w.toInt < 0 ∨ 1 < w.toInt) ∧ (v_170 : Int32).toInt = -5) ∨ ((0 ≤ w.toInt ∧ w.toInt ≤ 1) ∧ ((((2 : Int32).toInt < 0 ∨ 4 < (2 : Int32).toInt) ∧ (v_170 : Int32).toInt = -6) ∨ ((0 ≤ (2 : Int32).toInt ∧ (2 : Int32).toInt ≤ 4) ∧ ((w.toInt = 1 ∧ (v_170 : Int32).toInt = (if (zHv kf af tf cn.toInt.toNat (2 : Int32).toInt.toNat de.toInt se.toInt) 9 < (zHv kf af tf cn.toInt.toNat (2 : Int32).toInt.toNat de.toInt se.toInt) 0 then 1 else 0)) ∨ (w.toInt = 0 ∧ (v_170 : Int32).toInt = (zHs (zHv kf af tf cn.toInt.toNat (2 : Int32).toInt.toNat de.toInt se.toInt) 9 : Nat)))))) from by (have k2 : (2 : Int32).toInt = 2 := (by decide); have k9_ : (9 : Int32).toInt = 9 := (by decide); have k0_ : (0 : Int32).toInt = 0 := (by decide); refine Or.inr ⟨by omega, Or.inr ⟨by omega, Or.inr ⟨by omega, (by rw [show (2 : Int32).toInt.toNat = 2 from by decide]; have h9 : (i_71.toInt - 1).toNat = 9 := (by omega); have z := hvi_71_0; rw [h9] at z; exact z)⟩⟩⟩)), trivial⟩, zRet ht hP hD [1, 0, 2, 3, 4, 5, 6, 7, 8, 9] (by decide) rfl⟩, hS.F ht⟩) hS.2.2 dX7_haste_108
                · have fc_173 : i_71.toInt ≤ 9 := zf_nlt c_173 (by decide) rfl
                  refine lv_aload_n hx hb dX7_haste_78 rfl (lv_at hl 3 rfl) ?_
                  refine lv_iload hx hb dX7_haste_79 (lv_at hl 0 rfl) ?_
                  refine lv_iload_n hx hb dX7_haste_81 rfl (lv_at hl 4 rfl) ?_
                  skip
                  refine zw_V (As := [.int i_71, .int 2]) (rest := []) (wr := [(xr, .inl (cI, 8, .inl fr))]) ⟨hx, hb, hml, hown, hts⟩ (c_F_X_casesBy_2 l D cI cJ cZ cP cS po x0 xs j0 k0 w0 rd mv xr (im) (lf) ((fun _ => 0)) j0 jp jc z0 0 0 (cn) (de) (tr) (se) (hu) (sd) wk wl wc wp (v_167) (v_168) (v_169) g_166 g_163 g_164 g_165 fjc fp kf af tf (i_71) hy0 hy1 hy2 hy3 hy4 hy5 hy6 hy7 hy8 hy9 hbv_167.1 hbv_167.2 hbv_168.1 hbv_168.2 hbv_169.1 hbv_169.2 hwg_166 hjp hy18 hy19 (by omega) (by omega) hpg_165 hp_fjc H.size) (cwV 2 hts gX7_haste_X7_casesBy rfl rfl rfl ⟨rfl, dh_X7_casesBy⟩ ⟨Nat.le_of_ble_eq_true rfl, Nat.le_of_ble_eq_true rfl⟩) hK hN (hZ.kept hS) hP hD hS hA [1, 2, 3, 4, 5, 6, 7, 8, 9] [0] rfl rfl (by decide) (by decide) (by decide) (va_recv (q := (RX7, TX7, 9)) hK hP (ci := 7) (q0 := 1) rfl rfl) rfl hl.1 rfl (Nat.le_of_ble_eq_true rfl) dX7_haste_82 ⟨Nat.le_of_ble_eq_true rfl, Nat.le_of_ble_eq_true rfl⟩ (fun r_174 u_175 H locs hr_174 hP hD hS => ?_)
                  obtain ⟨q_176, q_177, q_178, q_179, q_180, q_181, q_182⟩ := u_175
                  try dsimp only at hr_174
                  obtain ⟨hbq_176, hbq_177, hbq_178, hpq_181, hwq_182, hsr_174_0, hr_174⟩ := hr_174
                  have h9R := zRe (ws' := [(xr, .inl (cI, 8, .inl fr)), (x0, .inr (7, [.ref xs, .ref j0, .ref k0, .ref w0, .ref rd, .ref mv, .ref xr, .int im, .int lf])), (j0, .inr (0, [.ref z0, .ref jp, .ref jc, .int cn, .int de, .int tr, .int se, .int hu, .int sd])), (w0, .inr (5, [.ref wk, .ref wl, .ref wc, .ref wp, .int q_176, .int q_177, .int q_178])), (wk, .inl (cI, 125, .inl q_179)), (wl, .inl (cI, 125, .inl q_180)), (wc, .inl (cI, 3, .inl q_181)), (wp, .inl (cP, 8, .inr (.inr (.inr (.inr q_182))))), (jp, .inl (cP, 8, .inr (.inr (.inr (.inr fp))))), (jc, .inl (cI, 3, .inl fjc))]) hP hD rfl
                  clear hP hD
                  obtain ⟨hP, hD⟩ := h9R
                  obtain ⟨g_183, g_184⟩ := hr_174
                  refine lv_istore (lv' := [(6, .int r_174), (5, .int i_71), (4, .int v_171), (3, .int v_170), (0, .ref x0), (1, .int 2), (2, .int w)]) hx hb dX7_haste_85 hl (by decide) rfl (fun ls hl => ?_)
                  refine lv_iload hx hb dX7_haste_87 (lv_at hl 0 rfl) ?_
                  refine lv_iload hx hb dX7_haste_89 (lv_at hl 2 rfl) ?_
                  refine lv_icmp_le (tgt := 101) hx hb dX7_haste_91 (by decide) (fun c_185 => ?_) (fun c_185 => ?_)
                  · have fc_185 : r_174.toInt ≤ v_171.toInt := zf_le c_185 rfl rfl
                    obtain ⟨x_186, ex_186⟩ : ∃ y : Int32, y = i_71 + 1 := ⟨_, rfl⟩
                    have qx_186 : x_186.toInt = i_71.toInt + 1 := by rw [ex_186]; exact zf_add rfl (by decide) (by omega) (by omega)
                    refine lv_iinc (v := x_186) (lv' := [(5, .int x_186), (6, .int r_174), (4, .int v_171), (3, .int v_170), (0, .ref x0), (1, .int 2), (2, .int w)]) hx hb dX7_haste_101 hl (k := 1) rfl ex_186.symm (by decide) rfl (fun ls hl => ?_)
                    refine lv_goto (tgt := 71) hx hb dX7_haste_104 (by decide) ?_
                    exact ih x_186 v_170 v_171 (q_178) (q_177) (q_176) (q_182) (q_181) (q_180) (q_179) _ _ _ (hP.sub [0, 1, 2, 3, 4, 5, 6, 7, 8, 9] rfl) (hD.sub [0, 1, 2, 3, 4, 5, 6, 7, 8, 9] (by decide) rfl) hS (lv_sub hl [0, 2, 3, 4, 5, 6] rfl) hpq_181 hwq_182 hbq_176 hbq_177 hbq_178 hbv_170 hbv_171 (show (v_170 : Int32).toInt = (zHs (zHv kf af tf cn.toInt.toNat 2 de.toInt se.toInt) (x_186.toInt - 1).toNat : Nat) from by (have hx : (x_186.toInt - 1).toNat = (i_71.toInt - 1).toNat + 1 := (by omega); have y1 : (zHv kf af tf cn.toInt.toNat 2 de.toInt se.toInt) ((i_71.toInt - 1).toNat + 1) = r_174.toInt := (by have z := hsr_174_0; unfold zHv; rw [show (((i_71.toInt - 1).toNat + 1 : Nat) : Int) = i_71.toInt from by omega]; exact z.symm); rw [hx, zHs_s, y1, ← hvi_71_1]; first | (rw [if_pos (by omega)]; omega) | (rw [if_neg (by omega)]; exact hvi_71_0))) (show (v_171 : Int32).toInt = (zHv kf af tf cn.toInt.toNat 2 de.toInt se.toInt) (zHs (zHv kf af tf cn.toInt.toNat 2 de.toInt se.toInt) (x_186.toInt - 1).toNat) from by (have hx : (x_186.toInt - 1).toNat = (i_71.toInt - 1).toNat + 1 := (by omega); have y1 : (zHv kf af tf cn.toInt.toNat 2 de.toInt se.toInt) ((i_71.toInt - 1).toNat + 1) = r_174.toInt := (by have z := hsr_174_0; unfold zHv; rw [show (((i_71.toInt - 1).toNat + 1 : Nat) : Int) = i_71.toInt from by omega]; exact z.symm); rw [hx, zHs_s, y1]; first | (rw [if_pos (by rw [← hvi_71_1]; omega), y1]) | (rw [if_neg (by rw [← hvi_71_1]; omega)]; exact hvi_71_1))) (show 1 ≤ x_186.toInt ∧ x_186.toInt ≤ 10 from by exact ⟨by omega, by omega⟩) (dw_lo hloi_71 qx_186) (dw_hn hni_71 qx_186)
                  · have fc_185 : v_171.toInt < r_174.toInt := zf_nle c_185 rfl rfl
                    refine lv_iload hx hb dX7_haste_94 (lv_at hl 0 rfl) ?_
                    refine lv_istore (lv' := [(4, .int r_174), (6, .int r_174), (5, .int i_71), (3, .int v_170), (0, .ref x0), (1, .int 2), (2, .int w)]) hx hb dX7_haste_96 hl (by decide) rfl (fun ls hl => ?_)
                    refine lv_iload hx hb dX7_haste_98 (lv_at hl 2 rfl) ?_
                    refine lv_istore_n (lv' := [(3, .int i_71), (4, .int r_174), (6, .int r_174), (5, .int i_71), (0, .ref x0), (1, .int 2), (2, .int w)]) hx hb dX7_haste_100 rfl hl (by decide) rfl (fun ls hl => ?_)
                    obtain ⟨x_187, ex_187⟩ : ∃ y : Int32, y = i_71 + 1 := ⟨_, rfl⟩
                    have qx_187 : x_187.toInt = i_71.toInt + 1 := by rw [ex_187]; exact zf_add rfl (by decide) (by omega) (by omega)
                    refine lv_iinc (v := x_187) (lv' := [(5, .int x_187), (3, .int i_71), (4, .int r_174), (6, .int r_174), (0, .ref x0), (1, .int 2), (2, .int w)]) hx hb dX7_haste_101 hl (k := 3) rfl ex_187.symm (by decide) rfl (fun ls hl => ?_)
                    refine lv_goto (tgt := 71) hx hb dX7_haste_104 (by decide) ?_
                    exact ih x_187 i_71 r_174 (q_178) (q_177) (q_176) (q_182) (q_181) (q_180) (q_179) _ _ _ (hP.sub [0, 1, 2, 3, 4, 5, 6, 7, 8, 9] rfl) (hD.sub [0, 1, 2, 3, 4, 5, 6, 7, 8, 9] (by decide) rfl) hS (lv_sub hl [0, 2, 1, 4, 5, 6] rfl) hpq_181 hwq_182 hbq_176 hbq_177 hbq_178 ⟨by omega, by omega⟩ ⟨by omega, by omega⟩ (show (i_71 : Int32).toInt = (zHs (zHv kf af tf cn.toInt.toNat 2 de.toInt se.toInt) (x_187.toInt - 1).toNat : Nat) from by (have hx : (x_187.toInt - 1).toNat = (i_71.toInt - 1).toNat + 1 := (by omega); have y1 : (zHv kf af tf cn.toInt.toNat 2 de.toInt se.toInt) ((i_71.toInt - 1).toNat + 1) = r_174.toInt := (by have z := hsr_174_0; unfold zHv; rw [show (((i_71.toInt - 1).toNat + 1 : Nat) : Int) = i_71.toInt from by omega]; exact z.symm); rw [hx, zHs_s, y1, ← hvi_71_1]; first | (rw [if_pos (by omega)]; omega) | (rw [if_neg (by omega)]; exact hvi_71_0))) (show (r_174 : Int32).toInt = (zHv kf af tf cn.toInt.toNat 2 de.toInt se.toInt) (zHs (zHv kf af tf cn.toInt.toNat 2 de.toInt se.toInt) (x_187.toInt - 1).toNat) from by (have hx : (x_187.toInt - 1).toNat = (i_71.toInt - 1).toNat + 1 := (by omega); have y1 : (zHv kf af tf cn.toInt.toNat 2 de.toInt se.toInt) ((i_71.toInt - 1).toNat + 1) = r_174.toInt := (by have z := hsr_174_0; unfold zHv; rw [show (((i_71.toInt - 1).toNat + 1 : Nat) : Int) = i_71.toInt from by omega]; exact z.symm); rw [hx, zHs_s, y1]; first | (rw [if_pos (by rw [← hvi_71_1]; omega), y1]) | (rw [if_neg (by rw [← hvi_71_1]; omega)]; exact hvi_71_1))) (show 1 ≤ x_187.toInt ∧ x_187.toInt ≤ 10 from by exact ⟨by omega, by omega⟩) (dw_lo hloi_71 qx_187) (dw_hn hni_71 qx_187)
            · have fc_151 : w.toInt = 1 := zf_eq c_151 rfl (by decide)
              refine lv_aload_n hx hb dX7_haste_36 rfl (lv_at hl 0 rfl) ?_
              refine lv_bipush (v := 9) hx hb dX7_haste_37 (by decide) ?_
              refine lv_iload_n hx hb dX7_haste_39 rfl (lv_at hl 1 rfl) ?_
              have kc9 : (9 : Int32).toInt = 9 := by decide
              skip
              refine zw_V (As := [.int 9, .int 2]) (rest := []) (wr := [(xr, .inl (cI, 8, .inl fr))]) ⟨hx, hb, hml, hown, hts⟩ (c_F_X_casesBy_2 l D cI cJ cZ cP cS po x0 xs j0 k0 w0 rd mv xr (im) (lf) ((fun _ => 0)) j0 jp jc z0 0 0 (cn) (de) (tr) (se) (hu) (sd) wk wl wc wp (wn) (wh) (wg) fq fk fl fc fjc fp kf af tf (9) hy0 hy1 hy2 hy3 hy4 hy5 hy6 hy7 hy8 hy9 hy10 hy11 hy12 hy13 hy14 hy15 hwq hjp hy18 hy19 (by omega) (by omega) hp_fc hp_fjc H.size) (cwV 2 hts gX7_haste_X7_casesBy rfl rfl rfl ⟨rfl, dh_X7_casesBy⟩ ⟨Nat.le_of_ble_eq_true rfl, Nat.le_of_ble_eq_true rfl⟩) hK hN (hZ.kept hS) hP hD hS hA [0, 2, 3, 4, 5, 6, 7, 8, 9] [1] rfl rfl (by decide) (by decide) (by decide) (va_recv (q := (RX7, TX7, 9)) hK hP (ci := 7) (q0 := 0) rfl rfl) rfl hl.1 rfl (Nat.le_of_ble_eq_true rfl) dX7_haste_40 ⟨Nat.le_of_ble_eq_true rfl, Nat.le_of_ble_eq_true rfl⟩ (fun r_188 u_189 H locs hr_188 hP hD hS => ?_)
              obtain ⟨q_190, q_191, q_192, q_193, q_194, q_195, q_196⟩ := u_189
              try dsimp only at hr_188
              obtain ⟨hbq_190, hbq_191, hbq_192, hpq_195, hwq_196, hsr_188_0, hr_188⟩ := hr_188
              have h9R := zRe (ws' := [(xr, .inl (cI, 8, .inl fr)), (x0, .inr (7, [.ref xs, .ref j0, .ref k0, .ref w0, .ref rd, .ref mv, .ref xr, .int im, .int lf])), (j0, .inr (0, [.ref z0, .ref jp, .ref jc, .int cn, .int de, .int tr, .int se, .int hu, .int sd])), (w0, .inr (5, [.ref wk, .ref wl, .ref wc, .ref wp, .int q_190, .int q_191, .int q_192])), (wk, .inl (cI, 125, .inl q_193)), (wl, .inl (cI, 125, .inl q_194)), (wc, .inl (cI, 3, .inl q_195)), (wp, .inl (cP, 8, .inr (.inr (.inr (.inr q_196))))), (jp, .inl (cP, 8, .inr (.inr (.inr (.inr fp))))), (jc, .inl (cI, 3, .inl fjc))]) hP hD rfl
              clear hP hD
              obtain ⟨hP, hD⟩ := h9R
              obtain ⟨g_197, g_198⟩ := hr_188
              refine lv_aload_n hx hb dX7_haste_43 rfl (lv_at hl 0 rfl) ?_
              refine lv_iconst (v := 0) hx hb dX7_haste_44 (by decide) ?_
              refine lv_iload_n hx hb dX7_haste_45 rfl (lv_at hl 1 rfl) ?_
              skip
              refine zw_V (As := [.int 0, .int 2]) (rest := [.int r_188]) (wr := [(xr, .inl (cI, 8, .inl fr))]) ⟨hx, hb, hml, hown, hts⟩ (c_F_X_casesBy_2 l D cI cJ cZ cP cS po x0 xs j0 k0 w0 rd mv xr (im) (lf) ((fun _ => 0)) j0 jp jc z0 0 0 (cn) (de) (tr) (se) (hu) (sd) wk wl wc wp (q_190) (q_191) (q_192) q_196 q_193 q_194 q_195 fjc fp kf af tf (0) hy0 hy1 hy2 hy3 hy4 hy5 hy6 hy7 hy8 hy9 hbq_190.1 hbq_190.2 hbq_191.1 hbq_191.2 hbq_192.1 hbq_192.2 hwq_196 hjp hy18 hy19 (by omega) (by omega) hpq_195 hp_fjc H.size) (cwV 2 hts gX7_haste_X7_casesBy rfl rfl rfl ⟨rfl, dh_X7_casesBy⟩ ⟨Nat.le_of_ble_eq_true rfl, Nat.le_of_ble_eq_true rfl⟩) hK hN (hZ.kept hS) hP hD hS hA [1, 2, 3, 4, 5, 6, 7, 8, 9] [0] rfl rfl (by decide) (by decide) (by decide) (va_recv (q := (RX7, TX7, 9)) hK hP (ci := 7) (q0 := 1) rfl rfl) rfl hl.1 rfl (Nat.le_of_ble_eq_true rfl) dX7_haste_46 ⟨Nat.le_of_ble_eq_true rfl, Nat.le_of_ble_eq_true rfl⟩ (fun r_199 u_200 H locs hr_199 hP hD hS => ?_)
              obtain ⟨q_201, q_202, q_203, q_204, q_205, q_206, q_207⟩ := u_200
              try dsimp only at hr_199
              obtain ⟨hbq_201, hbq_202, hbq_203, hpq_206, hwq_207, hsr_199_0, hr_199⟩ := hr_199
              have h9R := zRe (ws' := [(xr, .inl (cI, 8, .inl fr)), (x0, .inr (7, [.ref xs, .ref j0, .ref k0, .ref w0, .ref rd, .ref mv, .ref xr, .int im, .int lf])), (j0, .inr (0, [.ref z0, .ref jp, .ref jc, .int cn, .int de, .int tr, .int se, .int hu, .int sd])), (w0, .inr (5, [.ref wk, .ref wl, .ref wc, .ref wp, .int q_201, .int q_202, .int q_203])), (wk, .inl (cI, 125, .inl q_204)), (wl, .inl (cI, 125, .inl q_205)), (wc, .inl (cI, 3, .inl q_206)), (wp, .inl (cP, 8, .inr (.inr (.inr (.inr q_207))))), (jp, .inl (cP, 8, .inr (.inr (.inr (.inr fp))))), (jc, .inl (cI, 3, .inl fjc))]) hP hD rfl
              clear hP hD
              obtain ⟨hP, hD⟩ := h9R
              obtain ⟨g_208, g_209⟩ := hr_199
              refine lv_icmp_ge (tgt := 56) hx hb dX7_haste_49 (by decide) (fun c_210 => ?_) (fun c_210 => ?_)
              · have fc_210 : r_199.toInt ≤ r_188.toInt := zf_le c_210 rfl rfl
                refine lv_iconst (v := 0) hx hb dX7_haste_56 (by decide) ?_
                exact W.iret (v := 0) hx hb hr (fun t ht hW => ⟨⟨0, (q_201, q_202, q_203, q_204, q_205, q_206, q_207, fr), rfl, ⟨(show 0 ≤ q_201.toInt ∧ q_201.toInt ≤ 8 from hbq_201), (show 0 ≤ q_202.toInt ∧ q_202.toInt ≤ 9 from hbq_202), (show 0 ≤ q_203.toInt ∧ q_203.toInt ≤ 60 from hbq_203), hpq_206, hwq_207, (show ((w.toInt < 0 ∨ 1 < w.toInt) ∧ (0 : Int32).toInt = -5) ∨ ((0 ≤ w.toInt ∧ w.toInt ≤ 1) ∧ ((((2 : Int32).toInt < 0 ∨ 4 < (2 : Int32).toInt) ∧ (0 : Int32).toInt = -6) ∨ ((0 ≤ (2 : Int32).toInt ∧ (2 : Int32).toInt ≤ 4) ∧ ((w.toInt = 1 ∧ (0 : Int32).toInt = (if (zHv kf af tf cn.toInt.toNat (2 : Int32).toInt.toNat de.toInt se.toInt) 9 < (zHv kf af tf cn.toInt.toNat (2 : Int32).toInt.toNat de.toInt se.toInt) 0 then 1 else 0)) ∨ (w.toInt = 0 ∧ (0 : Int32).toInt = (zHs (zHv kf af tf cn.toInt.toNat (2 : Int32).toInt.toNat de.toInt se.toInt) 9 : Nat)))))) from by (have k0 : (0 : Int32).toInt = 0 := (by decide); have k2 : (2 : Int32).toInt = 2 := (by decide); have k9 : (0 : Int32).toInt = 0 := (by decide); have k9_ : (9 : Int32).toInt = 9 := (by decide); have k0_ : (0 : Int32).toInt = 0 := (by decide); refine Or.inr ⟨by omega, Or.inr ⟨by omega, Or.inl ⟨by omega, (by rw [show (2 : Int32).toInt.toNat = 2 from by decide]; have z1 := hsr_188_0; have z2 := hsr_199_0; rw [k9_] at z1; rw [k0_] at z2; have y1 : (zHv kf af tf cn.toInt.toNat 2 de.toInt se.toInt) 9 = r_188.toInt := z1.symm; have y2 : (zHv kf af tf cn.toInt.toNat 2 de.toInt se.toInt) 0 = r_199.toInt := z2.symm; rw [y1, y2]; first | (rw [if_neg (by omega)]; omega) | (rw [if_pos (by omega)]; omega))⟩⟩⟩)), trivial⟩, zRet ht hP hD [1, 0, 2, 3, 4, 5, 6, 7, 8, 9] (by decide) rfl⟩, hS.F ht⟩) hS.2.2 dX7_haste_57
              · have fc_210 : r_188.toInt < r_199.toInt := zf_nle c_210 rfl rfl
                refine lv_iconst (v := 1) hx hb dX7_haste_52 (by decide) ?_
                refine lv_goto (tgt := 57) hx hb dX7_haste_53 (by decide) ?_
                exact W.iret (v := 1) hx hb hr (fun t ht hW => ⟨⟨1, (q_201, q_202, q_203, q_204, q_205, q_206, q_207, fr), rfl, ⟨(show 0 ≤ q_201.toInt ∧ q_201.toInt ≤ 8 from hbq_201), (show 0 ≤ q_202.toInt ∧ q_202.toInt ≤ 9 from hbq_202), (show 0 ≤ q_203.toInt ∧ q_203.toInt ≤ 60 from hbq_203), hpq_206, hwq_207, (show ((w.toInt < 0 ∨ 1 < w.toInt) ∧ (1 : Int32).toInt = -5) ∨ ((0 ≤ w.toInt ∧ w.toInt ≤ 1) ∧ ((((2 : Int32).toInt < 0 ∨ 4 < (2 : Int32).toInt) ∧ (1 : Int32).toInt = -6) ∨ ((0 ≤ (2 : Int32).toInt ∧ (2 : Int32).toInt ≤ 4) ∧ ((w.toInt = 1 ∧ (1 : Int32).toInt = (if (zHv kf af tf cn.toInt.toNat (2 : Int32).toInt.toNat de.toInt se.toInt) 9 < (zHv kf af tf cn.toInt.toNat (2 : Int32).toInt.toNat de.toInt se.toInt) 0 then 1 else 0)) ∨ (w.toInt = 0 ∧ (1 : Int32).toInt = (zHs (zHv kf af tf cn.toInt.toNat (2 : Int32).toInt.toNat de.toInt se.toInt) 9 : Nat)))))) from by (have k1 : (1 : Int32).toInt = 1 := (by decide); have k2 : (2 : Int32).toInt = 2 := (by decide); have k9 : (1 : Int32).toInt = 1 := (by decide); have k9_ : (9 : Int32).toInt = 9 := (by decide); have k0_ : (0 : Int32).toInt = 0 := (by decide); refine Or.inr ⟨by omega, Or.inr ⟨by omega, Or.inl ⟨by omega, (by rw [show (2 : Int32).toInt.toNat = 2 from by decide]; have z1 := hsr_188_0; have z2 := hsr_199_0; rw [k9_] at z1; rw [k0_] at z2; have y1 : (zHv kf af tf cn.toInt.toNat 2 de.toInt se.toInt) 9 = r_188.toInt := z1.symm; have y2 : (zHv kf af tf cn.toInt.toNat 2 de.toInt se.toInt) 0 = r_199.toInt := z2.symm; rw [y1, y2]; first | (rw [if_pos (by omega)]; omega) | (rw [if_neg (by omega)]; omega))⟩⟩⟩)), trivial⟩, zRet ht hP hD [1, 0, 2, 3, 4, 5, 6, 7, 8, 9] (by decide) rfl⟩, hS.F ht⟩) hS.2.2 dX7_haste_57
          · refine lv_iload_n hx hb dX7_haste_31 rfl (lv_at hl 2 rfl) ?_
            refine lv_iconst (v := 1) hx hb dX7_haste_32 (by decide) ?_
            refine lv_icmp_ne (tgt := 58) hx hb dX7_haste_33 (by decide) (fun c_211 => ?_) (fun c_211 => ?_)
            · have fc_211 : w.toInt ≠ 1 := zf_ne c_211 rfl (by decide)
              refine lv_iconst (v := 0) hx hb dX7_haste_58 (by decide) ?_
              refine lv_istore_n (lv' := [(3, .int 0), (0, .ref x0), (1, .int 3), (2, .int w)]) hx hb dX7_haste_59 rfl hl (by decide) rfl (fun ls hl => ?_)
              refine lv_aload_n hx hb dX7_haste_60 rfl (lv_at hl 1 rfl) ?_
              refine lv_iconst (v := 0) hx hb dX7_haste_61 (by decide) ?_
              refine lv_iload_n hx hb dX7_haste_62 rfl (lv_at hl 2 rfl) ?_
              skip
              refine zw_V (As := [.int 0, .int 3]) (rest := []) (wr := [(xr, .inl (cI, 8, .inl fr))]) ⟨hx, hb, hml, hown, hts⟩ (c_F_X_casesBy_3 l D cI cJ cZ cP cS po x0 xs j0 k0 w0 rd mv xr (im) (lf) ((fun _ => 0)) j0 jp jc z0 0 0 (cn) (de) (tr) (se) (hu) (sd) wk wl wc wp (wn) (wh) (wg) fq fk fl fc fjc fp kf af tf (0) hy0 hy1 hy2 hy3 hy4 hy5 hy6 hy7 hy8 hy9 hy10 hy11 hy12 hy13 hy14 hy15 hwq hjp hy18 hy19 (by omega) (by omega) hp_fc hp_fjc H.size) (cwV 2 hts gX7_haste_X7_casesBy rfl rfl rfl ⟨rfl, dh_X7_casesBy⟩ ⟨Nat.le_of_ble_eq_true rfl, Nat.le_of_ble_eq_true rfl⟩) hK hN (hZ.kept hS) hP hD hS hA [0, 2, 3, 4, 5, 6, 7, 8, 9] [1] rfl rfl (by decide) (by decide) (by decide) (va_recv (q := (RX7, TX7, 9)) hK hP (ci := 7) (q0 := 0) rfl rfl) rfl hl.1 rfl (Nat.le_of_ble_eq_true rfl) dX7_haste_63 ⟨Nat.le_of_ble_eq_true rfl, Nat.le_of_ble_eq_true rfl⟩ (fun r_212 u_213 H locs hr_212 hP hD hS => ?_)
              obtain ⟨q_214, q_215, q_216, q_217, q_218, q_219, q_220⟩ := u_213
              try dsimp only at hr_212
              obtain ⟨hbq_214, hbq_215, hbq_216, hpq_219, hwq_220, hsr_212_0, hr_212⟩ := hr_212
              have h9R := zRe (ws' := [(xr, .inl (cI, 8, .inl fr)), (x0, .inr (7, [.ref xs, .ref j0, .ref k0, .ref w0, .ref rd, .ref mv, .ref xr, .int im, .int lf])), (j0, .inr (0, [.ref z0, .ref jp, .ref jc, .int cn, .int de, .int tr, .int se, .int hu, .int sd])), (w0, .inr (5, [.ref wk, .ref wl, .ref wc, .ref wp, .int q_214, .int q_215, .int q_216])), (wk, .inl (cI, 125, .inl q_217)), (wl, .inl (cI, 125, .inl q_218)), (wc, .inl (cI, 3, .inl q_219)), (wp, .inl (cP, 8, .inr (.inr (.inr (.inr q_220))))), (jp, .inl (cP, 8, .inr (.inr (.inr (.inr fp))))), (jc, .inl (cI, 3, .inl fjc))]) hP hD rfl
              clear hP hD
              obtain ⟨hP, hD⟩ := h9R
              obtain ⟨g_221, g_222⟩ := hr_212
              refine lv_istore (lv' := [(4, .int r_212), (3, .int 0), (0, .ref x0), (1, .int 3), (2, .int w)]) hx hb dX7_haste_66 hl (by decide) rfl (fun ls hl => ?_)
              refine lv_iconst (v := 1) hx hb dX7_haste_68 (by decide) ?_
              refine lv_istore (lv' := [(5, .int 1), (4, .int r_212), (3, .int 0), (0, .ref x0), (1, .int 3), (2, .int w)]) hx hb dX7_haste_69 hl (by decide) rfl (fun ls hl => ?_)
              obtain ⟨i_71, hi_71⟩ : ∃ i : Int32, i = 1 := ⟨_, rfl⟩
              replace hl : lv_has ls 7 [(5, .int i_71), (4, .int r_212), (3, .int 0), (0, .ref x0), (1, .int 3), (2, .int w)] := by rw [hi_71]; exact lv_sub hl [0, 1, 2, 3, 4, 5] rfl
              have h1i_71 : i_71.toInt = 1 := by rw [hi_71]; decide
              obtain ⟨nfu, hni_71⟩ : ∃ nq9 : Nat, 10 ≤ i_71.toInt + (nq9 : Int) := ⟨((10 : Int) - 1).toNat, by omega⟩
              have hloi_71 : 1 ≤ i_71.toInt := by omega
              obtain ⟨g_223, hg_223⟩ : ∃ g : Nat → Int32, g = q_217 := ⟨_, rfl⟩
              obtain ⟨g_224, hg_224⟩ : ∃ g : Nat → Int32, g = q_218 := ⟨_, rfl⟩
              obtain ⟨g_225, hg_225⟩ : ∃ g : Nat → Int32, g = q_219 := ⟨_, rfl⟩
              have hpg_225 : zRg g_225 (0) 99 := by rw [hg_225]; exact hpq_219
              obtain ⟨g_226, hg_226⟩ : ∃ g : Nat → Option Nat, g = q_220 := ⟨_, rfl⟩
              have hwg_226 : zWP po g_226 := by rw [hg_226]; exact hwq_220
              obtain ⟨v_227, hv_227⟩ : ∃ g : Int32, g = q_214 := ⟨_, rfl⟩
              have hbv_227 : 0 ≤ v_227.toInt ∧ v_227.toInt ≤ 8 := by rw [hv_227]; exact ⟨by omega, by omega⟩
              obtain ⟨v_228, hv_228⟩ : ∃ g : Int32, g = q_215 := ⟨_, rfl⟩
              have hbv_228 : 0 ≤ v_228.toInt ∧ v_228.toInt ≤ 9 := by rw [hv_228]; exact ⟨by omega, by omega⟩
              obtain ⟨v_229, hv_229⟩ : ∃ g : Int32, g = q_216 := ⟨_, rfl⟩
              have hbv_229 : 0 ≤ v_229.toInt ∧ v_229.toInt ≤ 60 := by rw [hv_229]; exact ⟨by omega, by omega⟩
              replace hP : va_P D vwCl [(xr, .inl (cI, 8, .inl fr)), (x0, .inr (7, [.ref xs, .ref j0, .ref k0, .ref w0, .ref rd, .ref mv, .ref xr, .int im, .int lf])), (j0, .inr (0, [.ref z0, .ref jp, .ref jc, .int cn, .int de, .int tr, .int se, .int hu, .int sd])), (w0, .inr (5, [.ref wk, .ref wl, .ref wc, .ref wp, .int v_227, .int v_228, .int v_229])), (wk, .inl (cI, 125, .inl g_223)), (wl, .inl (cI, 125, .inl g_224)), (wc, .inl (cI, 3, .inl g_225)), (wp, .inl (cP, 8, .inr (.inr (.inr (.inr g_226))))), (jp, .inl (cP, 8, .inr (.inr (.inr (.inr fp))))), (jc, .inl (cI, 3, .inl fjc))] H := by rw [hg_223, hg_224, hg_225, hg_226, hv_227, hv_228, hv_229]; exact hP
              replace hD : va_D (va_A [(x0, .inr (7, [.ref xs, .ref j0, .ref k0, .ref w0, .ref rd, .ref mv, .ref xr, .int im, .int lf])), (xr, .inl (cI, 8, .inl fr)), (j0, .inr (0, [.ref z0, .ref jp, .ref jc, .int cn, .int de, .int tr, .int se, .int hu, .int sd])), (w0, .inr (5, [.ref wk, .ref wl, .ref wc, .ref wp, .int wn, .int wh, .int wg])), (wk, .inl (cI, 125, .inl fk)), (wl, .inl (cI, 125, .inl fl)), (wc, .inl (cI, 3, .inl fc)), (wp, .inl (cP, 8, .inr (.inr (.inr (.inr fq))))), (jp, .inl (cP, 8, .inr (.inr (.inr (.inr fp))))), (jc, .inl (cI, 3, .inl fjc))] s.heap.size) [(xr, .inl (cI, 8, .inl fr)), (x0, .inr (7, [.ref xs, .ref j0, .ref k0, .ref w0, .ref rd, .ref mv, .ref xr, .int im, .int lf])), (j0, .inr (0, [.ref z0, .ref jp, .ref jc, .int cn, .int de, .int tr, .int se, .int hu, .int sd])), (w0, .inr (5, [.ref wk, .ref wl, .ref wc, .ref wp, .int v_227, .int v_228, .int v_229])), (wk, .inl (cI, 125, .inl g_223)), (wl, .inl (cI, 125, .inl g_224)), (wc, .inl (cI, 3, .inl g_225)), (wp, .inl (cP, 8, .inr (.inr (.inr (.inr g_226))))), (jp, .inl (cP, 8, .inr (.inr (.inr (.inr fp))))), (jc, .inl (cI, 3, .inl fjc))] := by rw [hg_223, hg_224, hg_225, hg_226, hv_227, hv_228, hv_229]; exact hD
              obtain ⟨v_230, hv_230⟩ : ∃ g : Int32, g = 0 := ⟨_, rfl⟩
              obtain ⟨v_231, hv_231⟩ : ∃ g : Int32, g = r_212 := ⟨_, rfl⟩
              replace hl : lv_has ls 7 [(5, .int i_71), (4, .int v_231), (3, .int v_230), (0, .ref x0), (1, .int 3), (2, .int w)] := by rw [hv_230, hv_231]; exact hl
              have hbv_230 : 0 ≤ v_230.toInt ∧ v_230.toInt ≤ 9 := by rw [hv_230]; exact ⟨by decide, by decide⟩
              have hbv_231 : 0 ≤ v_231.toInt ∧ v_231.toInt ≤ 20736 := by rw [hv_231]; exact ⟨by omega, by omega⟩
              have hvi_71_0 : (v_230 : Int32).toInt = (zHs (zHv kf af tf cn.toInt.toNat 3 de.toInt se.toInt) (i_71.toInt - 1).toNat : Nat) := by
                (try rw [hi_71]); (try rw [hg_223]); (try rw [hg_224]); (try rw [hg_225]); (try rw [hg_226]); (try rw [hv_227]); (try rw [hv_228]); (try rw [hv_229]); (try rw [hv_230]); (try rw [hv_231]); (rw [show ((1 : Int32).toInt - 1).toNat = 0 from by decide]; show (0 : Int32).toInt = ((0 : Nat) : Int); decide)
              have hvi_71_1 : (v_231 : Int32).toInt = (zHv kf af tf cn.toInt.toNat 3 de.toInt se.toInt) (zHs (zHv kf af tf cn.toInt.toNat 3 de.toInt se.toInt) (i_71.toInt - 1).toNat) := by
                (try rw [hi_71]); (try rw [hg_223]); (try rw [hg_224]); (try rw [hg_225]); (try rw [hg_226]); (try rw [hv_227]); (try rw [hv_228]); (try rw [hv_229]); (try rw [hv_230]); (try rw [hv_231]); (have z := hsr_212_0; rw [show (0 : Int32).toInt = ((0 : Nat) : Int) from by decide] at z; rw [show ((1 : Int32).toInt - 1).toNat = 0 from by decide]; exact z)
              have hvi_71_2 : 1 ≤ i_71.toInt ∧ i_71.toInt ≤ 10 := by
                (try rw [hi_71]); (try rw [hg_223]); (try rw [hg_224]); (try rw [hg_225]); (try rw [hg_226]); (try rw [hv_227]); (try rw [hv_228]); (try rw [hv_229]); (try rw [hv_230]); (try rw [hv_231]); (have k1 : (1 : Int32).toInt = 1 := (by decide); omega)
              clear h1i_71 hi_71 hg_223 hg_224 hg_225 hg_226 hv_227 hv_228 hv_229 hv_230 hv_231
              skip
              revert hni_71
              revert hloi_71
              revert hvi_71_2
              revert hvi_71_1
              revert hvi_71_0
              revert hbv_231
              revert hbv_230
              revert hbv_229
              revert hbv_228
              revert hbv_227
              revert hwg_226
              revert hpg_225
              revert hl
              revert hS
              revert hD
              revert hP
              revert ls
              revert locs
              revert H
              revert g_223
              revert g_224
              revert g_225
              revert g_226
              revert v_227
              revert v_228
              revert v_229
              revert v_231
              revert v_230
              revert i_71
              induction nfu with
              | zero =>
                intro i_71 v_230 v_231 v_229 v_228 v_227 g_226 g_225 g_224 g_223 H locs ls hP hD hS hl hpg_225 hwg_226 hbv_227 hbv_228 hbv_229 hbv_230 hbv_231 hvi_71_0 hvi_71_1 hvi_71_2 hloi_71 hni_71
                have hzi_71 : 10 ≤ i_71.toInt := by omega
                refine lv_iload hx hb dX7_haste_71 (lv_at hl 0 rfl) ?_
                refine lv_bipush (v := 9) hx hb dX7_haste_73 (by decide) ?_
                refine lv_icmp_gt (tgt := 107) hx hb dX7_haste_75 (by decide) (fun c_232 => ?_) (fun c_232 => ?_)
                · have fc_232 : 9 < i_71.toInt := zf_lt c_232 (by decide) rfl
                  refine lv_iload_n hx hb dX7_haste_107 rfl (lv_at hl 2 rfl) ?_
                  exact W.iret (v := v_230) hx hb hr (fun t ht hW => ⟨⟨v_230, (v_227, v_228, v_229, g_223, g_224, g_225, g_226, fr), rfl, ⟨(show 0 ≤ v_227.toInt ∧ v_227.toInt ≤ 8 from hbv_227), (show 0 ≤ v_228.toInt ∧ v_228.toInt ≤ 9 from hbv_228), (show 0 ≤ v_229.toInt ∧ v_229.toInt ≤ 60 from hbv_229), hpg_225, hwg_226, (show ((w.toInt < 0 ∨ 1 < w.toInt) ∧ (v_230 : Int32).toInt = -5) ∨ ((0 ≤ w.toInt ∧ w.toInt ≤ 1) ∧ ((((3 : Int32).toInt < 0 ∨ 4 < (3 : Int32).toInt) ∧ (v_230 : Int32).toInt = -6) ∨ ((0 ≤ (3 : Int32).toInt ∧ (3 : Int32).toInt ≤ 4) ∧ ((w.toInt = 1 ∧ (v_230 : Int32).toInt = (if (zHv kf af tf cn.toInt.toNat (3 : Int32).toInt.toNat de.toInt se.toInt) 9 < (zHv kf af tf cn.toInt.toNat (3 : Int32).toInt.toNat de.toInt se.toInt) 0 then 1 else 0)) ∨ (w.toInt = 0 ∧ (v_230 : Int32).toInt = (zHs (zHv kf af tf cn.toInt.toNat (3 : Int32).toInt.toNat de.toInt se.toInt) 9 : Nat)))))) from by (have k3 : (3 : Int32).toInt = 3 := (by decide); have k9_ : (9 : Int32).toInt = 9 := (by decide); have k0_ : (0 : Int32).toInt = 0 := (by decide); refine Or.inr ⟨by omega, Or.inr ⟨by omega, Or.inr ⟨by omega, (by rw [show (3 : Int32).toInt.toNat = 3 from by decide]; have h9 : (i_71.toInt - 1).toNat = 9 := (by omega); have z := hvi_71_0; rw [h9] at z; exact z)⟩⟩⟩)), trivial⟩, zRet ht hP hD [1, 0, 2, 3, 4, 5, 6, 7, 8, 9] (by decide) rfl⟩, hS.F ht⟩) hS.2.2 dX7_haste_108
                · exfalso; have fc_232 : i_71.toInt ≤ 9 := zf_nlt c_232 (by decide) rfl; omega
              | succ nfu ih =>
                intro i_71 v_230 v_231 v_229 v_228 v_227 g_226 g_225 g_224 g_223 H locs ls hP hD hS hl hpg_225 hwg_226 hbv_227 hbv_228 hbv_229 hbv_230 hbv_231 hvi_71_0 hvi_71_1 hvi_71_2 hloi_71 hni_71
                refine lv_iload hx hb dX7_haste_71 (lv_at hl 0 rfl) ?_
                refine lv_bipush (v := 9) hx hb dX7_haste_73 (by decide) ?_
                refine lv_icmp_gt (tgt := 107) hx hb dX7_haste_75 (by decide) (fun c_233 => ?_) (fun c_233 => ?_)
                · have fc_233 : 9 < i_71.toInt := zf_lt c_233 (by decide) rfl
                  refine lv_iload_n hx hb dX7_haste_107 rfl (lv_at hl 2 rfl) ?_
                  exact W.iret (v := v_230) hx hb hr (fun t ht hW => ⟨⟨v_230, (v_227, v_228, v_229, g_223, g_224, g_225, g_226, fr), rfl, ⟨(show 0 ≤ v_227.toInt ∧ v_227.toInt ≤ 8 from hbv_227), (show 0 ≤ v_228.toInt ∧ v_228.toInt ≤ 9 from hbv_228), (show 0 ≤ v_229.toInt ∧ v_229.toInt ≤ 60 from hbv_229), hpg_225, hwg_226, (show ((w.toInt < 0 ∨ 1 < w.toInt) ∧ (v_230 : Int32).toInt = -5) ∨ ((0 ≤ w.toInt ∧ w.toInt ≤ 1) ∧ ((((3 : Int32).toInt < 0 ∨ 4 < (3 : Int32).toInt) ∧ (v_230 : Int32).toInt = -6) ∨ ((0 ≤ (3 : Int32).toInt ∧ (3 : Int32).toInt ≤ 4) ∧ ((w.toInt = 1 ∧ (v_230 : Int32).toInt = (if (zHv kf af tf cn.toInt.toNat (3 : Int32).toInt.toNat de.toInt se.toInt) 9 < (zHv kf af tf cn.toInt.toNat (3 : Int32).toInt.toNat de.toInt se.toInt) 0 then 1 else 0)) ∨ (w.toInt = 0 ∧ (v_230 : Int32).toInt = (zHs (zHv kf af tf cn.toInt.toNat (3 : Int32).toInt.toNat de.toInt se.toInt) 9 : Nat)))))) from by (have k3 : (3 : Int32).toInt = 3 := (by decide); have k9_ : (9 : Int32).toInt = 9 := (by decide); have k0_ : (0 : Int32).toInt = 0 := (by decide); refine Or.inr ⟨by omega, Or.inr ⟨by omega, Or.inr ⟨by omega, (by rw [show (3 : Int32).toInt.toNat = 3 from by decide]; have h9 : (i_71.toInt - 1).toNat = 9 := (by omega); have z := hvi_71_0; rw [h9] at z; exact z)⟩⟩⟩)), trivial⟩, zRet ht hP hD [1, 0, 2, 3, 4, 5, 6, 7, 8, 9] (by decide) rfl⟩, hS.F ht⟩) hS.2.2 dX7_haste_108
                · have fc_233 : i_71.toInt ≤ 9 := zf_nlt c_233 (by decide) rfl
                  refine lv_aload_n hx hb dX7_haste_78 rfl (lv_at hl 3 rfl) ?_
                  refine lv_iload hx hb dX7_haste_79 (lv_at hl 0 rfl) ?_
                  refine lv_iload_n hx hb dX7_haste_81 rfl (lv_at hl 4 rfl) ?_
                  skip
                  refine zw_V (As := [.int i_71, .int 3]) (rest := []) (wr := [(xr, .inl (cI, 8, .inl fr))]) ⟨hx, hb, hml, hown, hts⟩ (c_F_X_casesBy_3 l D cI cJ cZ cP cS po x0 xs j0 k0 w0 rd mv xr (im) (lf) ((fun _ => 0)) j0 jp jc z0 0 0 (cn) (de) (tr) (se) (hu) (sd) wk wl wc wp (v_227) (v_228) (v_229) g_226 g_223 g_224 g_225 fjc fp kf af tf (i_71) hy0 hy1 hy2 hy3 hy4 hy5 hy6 hy7 hy8 hy9 hbv_227.1 hbv_227.2 hbv_228.1 hbv_228.2 hbv_229.1 hbv_229.2 hwg_226 hjp hy18 hy19 (by omega) (by omega) hpg_225 hp_fjc H.size) (cwV 2 hts gX7_haste_X7_casesBy rfl rfl rfl ⟨rfl, dh_X7_casesBy⟩ ⟨Nat.le_of_ble_eq_true rfl, Nat.le_of_ble_eq_true rfl⟩) hK hN (hZ.kept hS) hP hD hS hA [1, 2, 3, 4, 5, 6, 7, 8, 9] [0] rfl rfl (by decide) (by decide) (by decide) (va_recv (q := (RX7, TX7, 9)) hK hP (ci := 7) (q0 := 1) rfl rfl) rfl hl.1 rfl (Nat.le_of_ble_eq_true rfl) dX7_haste_82 ⟨Nat.le_of_ble_eq_true rfl, Nat.le_of_ble_eq_true rfl⟩ (fun r_234 u_235 H locs hr_234 hP hD hS => ?_)
                  obtain ⟨q_236, q_237, q_238, q_239, q_240, q_241, q_242⟩ := u_235
                  try dsimp only at hr_234
                  obtain ⟨hbq_236, hbq_237, hbq_238, hpq_241, hwq_242, hsr_234_0, hr_234⟩ := hr_234
                  have h9R := zRe (ws' := [(xr, .inl (cI, 8, .inl fr)), (x0, .inr (7, [.ref xs, .ref j0, .ref k0, .ref w0, .ref rd, .ref mv, .ref xr, .int im, .int lf])), (j0, .inr (0, [.ref z0, .ref jp, .ref jc, .int cn, .int de, .int tr, .int se, .int hu, .int sd])), (w0, .inr (5, [.ref wk, .ref wl, .ref wc, .ref wp, .int q_236, .int q_237, .int q_238])), (wk, .inl (cI, 125, .inl q_239)), (wl, .inl (cI, 125, .inl q_240)), (wc, .inl (cI, 3, .inl q_241)), (wp, .inl (cP, 8, .inr (.inr (.inr (.inr q_242))))), (jp, .inl (cP, 8, .inr (.inr (.inr (.inr fp))))), (jc, .inl (cI, 3, .inl fjc))]) hP hD rfl
                  clear hP hD
                  obtain ⟨hP, hD⟩ := h9R
                  obtain ⟨g_243, g_244⟩ := hr_234
                  refine lv_istore (lv' := [(6, .int r_234), (5, .int i_71), (4, .int v_231), (3, .int v_230), (0, .ref x0), (1, .int 3), (2, .int w)]) hx hb dX7_haste_85 hl (by decide) rfl (fun ls hl => ?_)
                  refine lv_iload hx hb dX7_haste_87 (lv_at hl 0 rfl) ?_
                  refine lv_iload hx hb dX7_haste_89 (lv_at hl 2 rfl) ?_
                  refine lv_icmp_le (tgt := 101) hx hb dX7_haste_91 (by decide) (fun c_245 => ?_) (fun c_245 => ?_)
                  · have fc_245 : r_234.toInt ≤ v_231.toInt := zf_le c_245 rfl rfl
                    obtain ⟨x_246, ex_246⟩ : ∃ y : Int32, y = i_71 + 1 := ⟨_, rfl⟩
                    have qx_246 : x_246.toInt = i_71.toInt + 1 := by rw [ex_246]; exact zf_add rfl (by decide) (by omega) (by omega)
                    refine lv_iinc (v := x_246) (lv' := [(5, .int x_246), (6, .int r_234), (4, .int v_231), (3, .int v_230), (0, .ref x0), (1, .int 3), (2, .int w)]) hx hb dX7_haste_101 hl (k := 1) rfl ex_246.symm (by decide) rfl (fun ls hl => ?_)
                    refine lv_goto (tgt := 71) hx hb dX7_haste_104 (by decide) ?_
                    exact ih x_246 v_230 v_231 (q_238) (q_237) (q_236) (q_242) (q_241) (q_240) (q_239) _ _ _ (hP.sub [0, 1, 2, 3, 4, 5, 6, 7, 8, 9] rfl) (hD.sub [0, 1, 2, 3, 4, 5, 6, 7, 8, 9] (by decide) rfl) hS (lv_sub hl [0, 2, 3, 4, 5, 6] rfl) hpq_241 hwq_242 hbq_236 hbq_237 hbq_238 hbv_230 hbv_231 (show (v_230 : Int32).toInt = (zHs (zHv kf af tf cn.toInt.toNat 3 de.toInt se.toInt) (x_246.toInt - 1).toNat : Nat) from by (have hx : (x_246.toInt - 1).toNat = (i_71.toInt - 1).toNat + 1 := (by omega); have y1 : (zHv kf af tf cn.toInt.toNat 3 de.toInt se.toInt) ((i_71.toInt - 1).toNat + 1) = r_234.toInt := (by have z := hsr_234_0; unfold zHv; rw [show (((i_71.toInt - 1).toNat + 1 : Nat) : Int) = i_71.toInt from by omega]; exact z.symm); rw [hx, zHs_s, y1, ← hvi_71_1]; first | (rw [if_pos (by omega)]; omega) | (rw [if_neg (by omega)]; exact hvi_71_0))) (show (v_231 : Int32).toInt = (zHv kf af tf cn.toInt.toNat 3 de.toInt se.toInt) (zHs (zHv kf af tf cn.toInt.toNat 3 de.toInt se.toInt) (x_246.toInt - 1).toNat) from by (have hx : (x_246.toInt - 1).toNat = (i_71.toInt - 1).toNat + 1 := (by omega); have y1 : (zHv kf af tf cn.toInt.toNat 3 de.toInt se.toInt) ((i_71.toInt - 1).toNat + 1) = r_234.toInt := (by have z := hsr_234_0; unfold zHv; rw [show (((i_71.toInt - 1).toNat + 1 : Nat) : Int) = i_71.toInt from by omega]; exact z.symm); rw [hx, zHs_s, y1]; first | (rw [if_pos (by rw [← hvi_71_1]; omega), y1]) | (rw [if_neg (by rw [← hvi_71_1]; omega)]; exact hvi_71_1))) (show 1 ≤ x_246.toInt ∧ x_246.toInt ≤ 10 from by exact ⟨by omega, by omega⟩) (dw_lo hloi_71 qx_246) (dw_hn hni_71 qx_246)
                  · have fc_245 : v_231.toInt < r_234.toInt := zf_nle c_245 rfl rfl
                    refine lv_iload hx hb dX7_haste_94 (lv_at hl 0 rfl) ?_
                    refine lv_istore (lv' := [(4, .int r_234), (6, .int r_234), (5, .int i_71), (3, .int v_230), (0, .ref x0), (1, .int 3), (2, .int w)]) hx hb dX7_haste_96 hl (by decide) rfl (fun ls hl => ?_)
                    refine lv_iload hx hb dX7_haste_98 (lv_at hl 2 rfl) ?_
                    refine lv_istore_n (lv' := [(3, .int i_71), (4, .int r_234), (6, .int r_234), (5, .int i_71), (0, .ref x0), (1, .int 3), (2, .int w)]) hx hb dX7_haste_100 rfl hl (by decide) rfl (fun ls hl => ?_)
                    obtain ⟨x_247, ex_247⟩ : ∃ y : Int32, y = i_71 + 1 := ⟨_, rfl⟩
                    have qx_247 : x_247.toInt = i_71.toInt + 1 := by rw [ex_247]; exact zf_add rfl (by decide) (by omega) (by omega)
                    refine lv_iinc (v := x_247) (lv' := [(5, .int x_247), (3, .int i_71), (4, .int r_234), (6, .int r_234), (0, .ref x0), (1, .int 3), (2, .int w)]) hx hb dX7_haste_101 hl (k := 3) rfl ex_247.symm (by decide) rfl (fun ls hl => ?_)
                    refine lv_goto (tgt := 71) hx hb dX7_haste_104 (by decide) ?_
                    exact ih x_247 i_71 r_234 (q_238) (q_237) (q_236) (q_242) (q_241) (q_240) (q_239) _ _ _ (hP.sub [0, 1, 2, 3, 4, 5, 6, 7, 8, 9] rfl) (hD.sub [0, 1, 2, 3, 4, 5, 6, 7, 8, 9] (by decide) rfl) hS (lv_sub hl [0, 2, 1, 4, 5, 6] rfl) hpq_241 hwq_242 hbq_236 hbq_237 hbq_238 ⟨by omega, by omega⟩ ⟨by omega, by omega⟩ (show (i_71 : Int32).toInt = (zHs (zHv kf af tf cn.toInt.toNat 3 de.toInt se.toInt) (x_247.toInt - 1).toNat : Nat) from by (have hx : (x_247.toInt - 1).toNat = (i_71.toInt - 1).toNat + 1 := (by omega); have y1 : (zHv kf af tf cn.toInt.toNat 3 de.toInt se.toInt) ((i_71.toInt - 1).toNat + 1) = r_234.toInt := (by have z := hsr_234_0; unfold zHv; rw [show (((i_71.toInt - 1).toNat + 1 : Nat) : Int) = i_71.toInt from by omega]; exact z.symm); rw [hx, zHs_s, y1, ← hvi_71_1]; first | (rw [if_pos (by omega)]; omega) | (rw [if_neg (by omega)]; exact hvi_71_0))) (show (r_234 : Int32).toInt = (zHv kf af tf cn.toInt.toNat 3 de.toInt se.toInt) (zHs (zHv kf af tf cn.toInt.toNat 3 de.toInt se.toInt) (x_247.toInt - 1).toNat) from by (have hx : (x_247.toInt - 1).toNat = (i_71.toInt - 1).toNat + 1 := (by omega); have y1 : (zHv kf af tf cn.toInt.toNat 3 de.toInt se.toInt) ((i_71.toInt - 1).toNat + 1) = r_234.toInt := (by have z := hsr_234_0; unfold zHv; rw [show (((i_71.toInt - 1).toNat + 1 : Nat) : Int) = i_71.toInt from by omega]; exact z.symm); rw [hx, zHs_s, y1]; first | (rw [if_pos (by rw [← hvi_71_1]; omega), y1]) | (rw [if_neg (by rw [← hvi_71_1]; omega)]; exact hvi_71_1))) (show 1 ≤ x_247.toInt ∧ x_247.toInt ≤ 10 from by exact ⟨by omega, by omega⟩) (dw_lo hloi_71 qx_247) (dw_hn hni_71 qx_247)
            · have fc_211 : w.toInt = 1 := zf_eq c_211 rfl (by decide)
              refine lv_aload_n hx hb dX7_haste_36 rfl (lv_at hl 0 rfl) ?_
              refine lv_bipush (v := 9) hx hb dX7_haste_37 (by decide) ?_
              refine lv_iload_n hx hb dX7_haste_39 rfl (lv_at hl 1 rfl) ?_
              have kc9 : (9 : Int32).toInt = 9 := by decide
              skip
              refine zw_V (As := [.int 9, .int 3]) (rest := []) (wr := [(xr, .inl (cI, 8, .inl fr))]) ⟨hx, hb, hml, hown, hts⟩ (c_F_X_casesBy_3 l D cI cJ cZ cP cS po x0 xs j0 k0 w0 rd mv xr (im) (lf) ((fun _ => 0)) j0 jp jc z0 0 0 (cn) (de) (tr) (se) (hu) (sd) wk wl wc wp (wn) (wh) (wg) fq fk fl fc fjc fp kf af tf (9) hy0 hy1 hy2 hy3 hy4 hy5 hy6 hy7 hy8 hy9 hy10 hy11 hy12 hy13 hy14 hy15 hwq hjp hy18 hy19 (by omega) (by omega) hp_fc hp_fjc H.size) (cwV 2 hts gX7_haste_X7_casesBy rfl rfl rfl ⟨rfl, dh_X7_casesBy⟩ ⟨Nat.le_of_ble_eq_true rfl, Nat.le_of_ble_eq_true rfl⟩) hK hN (hZ.kept hS) hP hD hS hA [0, 2, 3, 4, 5, 6, 7, 8, 9] [1] rfl rfl (by decide) (by decide) (by decide) (va_recv (q := (RX7, TX7, 9)) hK hP (ci := 7) (q0 := 0) rfl rfl) rfl hl.1 rfl (Nat.le_of_ble_eq_true rfl) dX7_haste_40 ⟨Nat.le_of_ble_eq_true rfl, Nat.le_of_ble_eq_true rfl⟩ (fun r_248 u_249 H locs hr_248 hP hD hS => ?_)
              obtain ⟨q_250, q_251, q_252, q_253, q_254, q_255, q_256⟩ := u_249
              try dsimp only at hr_248
              obtain ⟨hbq_250, hbq_251, hbq_252, hpq_255, hwq_256, hsr_248_0, hr_248⟩ := hr_248
              have h9R := zRe (ws' := [(xr, .inl (cI, 8, .inl fr)), (x0, .inr (7, [.ref xs, .ref j0, .ref k0, .ref w0, .ref rd, .ref mv, .ref xr, .int im, .int lf])), (j0, .inr (0, [.ref z0, .ref jp, .ref jc, .int cn, .int de, .int tr, .int se, .int hu, .int sd])), (w0, .inr (5, [.ref wk, .ref wl, .ref wc, .ref wp, .int q_250, .int q_251, .int q_252])), (wk, .inl (cI, 125, .inl q_253)), (wl, .inl (cI, 125, .inl q_254)), (wc, .inl (cI, 3, .inl q_255)), (wp, .inl (cP, 8, .inr (.inr (.inr (.inr q_256))))), (jp, .inl (cP, 8, .inr (.inr (.inr (.inr fp))))), (jc, .inl (cI, 3, .inl fjc))]) hP hD rfl
              clear hP hD
              obtain ⟨hP, hD⟩ := h9R
              obtain ⟨g_257, g_258⟩ := hr_248
              refine lv_aload_n hx hb dX7_haste_43 rfl (lv_at hl 0 rfl) ?_
              refine lv_iconst (v := 0) hx hb dX7_haste_44 (by decide) ?_
              refine lv_iload_n hx hb dX7_haste_45 rfl (lv_at hl 1 rfl) ?_
              skip
              refine zw_V (As := [.int 0, .int 3]) (rest := [.int r_248]) (wr := [(xr, .inl (cI, 8, .inl fr))]) ⟨hx, hb, hml, hown, hts⟩ (c_F_X_casesBy_3 l D cI cJ cZ cP cS po x0 xs j0 k0 w0 rd mv xr (im) (lf) ((fun _ => 0)) j0 jp jc z0 0 0 (cn) (de) (tr) (se) (hu) (sd) wk wl wc wp (q_250) (q_251) (q_252) q_256 q_253 q_254 q_255 fjc fp kf af tf (0) hy0 hy1 hy2 hy3 hy4 hy5 hy6 hy7 hy8 hy9 hbq_250.1 hbq_250.2 hbq_251.1 hbq_251.2 hbq_252.1 hbq_252.2 hwq_256 hjp hy18 hy19 (by omega) (by omega) hpq_255 hp_fjc H.size) (cwV 2 hts gX7_haste_X7_casesBy rfl rfl rfl ⟨rfl, dh_X7_casesBy⟩ ⟨Nat.le_of_ble_eq_true rfl, Nat.le_of_ble_eq_true rfl⟩) hK hN (hZ.kept hS) hP hD hS hA [1, 2, 3, 4, 5, 6, 7, 8, 9] [0] rfl rfl (by decide) (by decide) (by decide) (va_recv (q := (RX7, TX7, 9)) hK hP (ci := 7) (q0 := 1) rfl rfl) rfl hl.1 rfl (Nat.le_of_ble_eq_true rfl) dX7_haste_46 ⟨Nat.le_of_ble_eq_true rfl, Nat.le_of_ble_eq_true rfl⟩ (fun r_259 u_260 H locs hr_259 hP hD hS => ?_)
              obtain ⟨q_261, q_262, q_263, q_264, q_265, q_266, q_267⟩ := u_260
              try dsimp only at hr_259
              obtain ⟨hbq_261, hbq_262, hbq_263, hpq_266, hwq_267, hsr_259_0, hr_259⟩ := hr_259
              have h9R := zRe (ws' := [(xr, .inl (cI, 8, .inl fr)), (x0, .inr (7, [.ref xs, .ref j0, .ref k0, .ref w0, .ref rd, .ref mv, .ref xr, .int im, .int lf])), (j0, .inr (0, [.ref z0, .ref jp, .ref jc, .int cn, .int de, .int tr, .int se, .int hu, .int sd])), (w0, .inr (5, [.ref wk, .ref wl, .ref wc, .ref wp, .int q_261, .int q_262, .int q_263])), (wk, .inl (cI, 125, .inl q_264)), (wl, .inl (cI, 125, .inl q_265)), (wc, .inl (cI, 3, .inl q_266)), (wp, .inl (cP, 8, .inr (.inr (.inr (.inr q_267))))), (jp, .inl (cP, 8, .inr (.inr (.inr (.inr fp))))), (jc, .inl (cI, 3, .inl fjc))]) hP hD rfl
              clear hP hD
              obtain ⟨hP, hD⟩ := h9R
              obtain ⟨g_268, g_269⟩ := hr_259
              refine lv_icmp_ge (tgt := 56) hx hb dX7_haste_49 (by decide) (fun c_270 => ?_) (fun c_270 => ?_)
              · have fc_270 : r_259.toInt ≤ r_248.toInt := zf_le c_270 rfl rfl
                refine lv_iconst (v := 0) hx hb dX7_haste_56 (by decide) ?_
                exact W.iret (v := 0) hx hb hr (fun t ht hW => ⟨⟨0, (q_261, q_262, q_263, q_264, q_265, q_266, q_267, fr), rfl, ⟨(show 0 ≤ q_261.toInt ∧ q_261.toInt ≤ 8 from hbq_261), (show 0 ≤ q_262.toInt ∧ q_262.toInt ≤ 9 from hbq_262), (show 0 ≤ q_263.toInt ∧ q_263.toInt ≤ 60 from hbq_263), hpq_266, hwq_267, (show ((w.toInt < 0 ∨ 1 < w.toInt) ∧ (0 : Int32).toInt = -5) ∨ ((0 ≤ w.toInt ∧ w.toInt ≤ 1) ∧ ((((3 : Int32).toInt < 0 ∨ 4 < (3 : Int32).toInt) ∧ (0 : Int32).toInt = -6) ∨ ((0 ≤ (3 : Int32).toInt ∧ (3 : Int32).toInt ≤ 4) ∧ ((w.toInt = 1 ∧ (0 : Int32).toInt = (if (zHv kf af tf cn.toInt.toNat (3 : Int32).toInt.toNat de.toInt se.toInt) 9 < (zHv kf af tf cn.toInt.toNat (3 : Int32).toInt.toNat de.toInt se.toInt) 0 then 1 else 0)) ∨ (w.toInt = 0 ∧ (0 : Int32).toInt = (zHs (zHv kf af tf cn.toInt.toNat (3 : Int32).toInt.toNat de.toInt se.toInt) 9 : Nat)))))) from by (have k0 : (0 : Int32).toInt = 0 := (by decide); have k3 : (3 : Int32).toInt = 3 := (by decide); have k9 : (0 : Int32).toInt = 0 := (by decide); have k9_ : (9 : Int32).toInt = 9 := (by decide); have k0_ : (0 : Int32).toInt = 0 := (by decide); refine Or.inr ⟨by omega, Or.inr ⟨by omega, Or.inl ⟨by omega, (by rw [show (3 : Int32).toInt.toNat = 3 from by decide]; have z1 := hsr_248_0; have z2 := hsr_259_0; rw [k9_] at z1; rw [k0_] at z2; have y1 : (zHv kf af tf cn.toInt.toNat 3 de.toInt se.toInt) 9 = r_248.toInt := z1.symm; have y2 : (zHv kf af tf cn.toInt.toNat 3 de.toInt se.toInt) 0 = r_259.toInt := z2.symm; rw [y1, y2]; first | (rw [if_neg (by omega)]; omega) | (rw [if_pos (by omega)]; omega))⟩⟩⟩)), trivial⟩, zRet ht hP hD [1, 0, 2, 3, 4, 5, 6, 7, 8, 9] (by decide) rfl⟩, hS.F ht⟩) hS.2.2 dX7_haste_57
              · have fc_270 : r_248.toInt < r_259.toInt := zf_nle c_270 rfl rfl
                refine lv_iconst (v := 1) hx hb dX7_haste_52 (by decide) ?_
                refine lv_goto (tgt := 57) hx hb dX7_haste_53 (by decide) ?_
                exact W.iret (v := 1) hx hb hr (fun t ht hW => ⟨⟨1, (q_261, q_262, q_263, q_264, q_265, q_266, q_267, fr), rfl, ⟨(show 0 ≤ q_261.toInt ∧ q_261.toInt ≤ 8 from hbq_261), (show 0 ≤ q_262.toInt ∧ q_262.toInt ≤ 9 from hbq_262), (show 0 ≤ q_263.toInt ∧ q_263.toInt ≤ 60 from hbq_263), hpq_266, hwq_267, (show ((w.toInt < 0 ∨ 1 < w.toInt) ∧ (1 : Int32).toInt = -5) ∨ ((0 ≤ w.toInt ∧ w.toInt ≤ 1) ∧ ((((3 : Int32).toInt < 0 ∨ 4 < (3 : Int32).toInt) ∧ (1 : Int32).toInt = -6) ∨ ((0 ≤ (3 : Int32).toInt ∧ (3 : Int32).toInt ≤ 4) ∧ ((w.toInt = 1 ∧ (1 : Int32).toInt = (if (zHv kf af tf cn.toInt.toNat (3 : Int32).toInt.toNat de.toInt se.toInt) 9 < (zHv kf af tf cn.toInt.toNat (3 : Int32).toInt.toNat de.toInt se.toInt) 0 then 1 else 0)) ∨ (w.toInt = 0 ∧ (1 : Int32).toInt = (zHs (zHv kf af tf cn.toInt.toNat (3 : Int32).toInt.toNat de.toInt se.toInt) 9 : Nat)))))) from by (have k1 : (1 : Int32).toInt = 1 := (by decide); have k3 : (3 : Int32).toInt = 3 := (by decide); have k9 : (1 : Int32).toInt = 1 := (by decide); have k9_ : (9 : Int32).toInt = 9 := (by decide); have k0_ : (0 : Int32).toInt = 0 := (by decide); refine Or.inr ⟨by omega, Or.inr ⟨by omega, Or.inl ⟨by omega, (by rw [show (3 : Int32).toInt.toNat = 3 from by decide]; have z1 := hsr_248_0; have z2 := hsr_259_0; rw [k9_] at z1; rw [k0_] at z2; have y1 : (zHv kf af tf cn.toInt.toNat 3 de.toInt se.toInt) 9 = r_248.toInt := z1.symm; have y2 : (zHv kf af tf cn.toInt.toNat 3 de.toInt se.toInt) 0 = r_259.toInt := z2.symm; rw [y1, y2]; first | (rw [if_pos (by omega)]; omega) | (rw [if_neg (by omega)]; omega))⟩⟩⟩)), trivial⟩, zRet ht hP hD [1, 0, 2, 3, 4, 5, 6, 7, 8, 9] (by decide) rfl⟩, hS.F ht⟩) hS.2.2 dX7_haste_57
          · refine lv_iload_n hx hb dX7_haste_31 rfl (lv_at hl 2 rfl) ?_
            refine lv_iconst (v := 1) hx hb dX7_haste_32 (by decide) ?_
            refine lv_icmp_ne (tgt := 58) hx hb dX7_haste_33 (by decide) (fun c_271 => ?_) (fun c_271 => ?_)
            · have fc_271 : w.toInt ≠ 1 := zf_ne c_271 rfl (by decide)
              refine lv_iconst (v := 0) hx hb dX7_haste_58 (by decide) ?_
              refine lv_istore_n (lv' := [(3, .int 0), (0, .ref x0), (1, .int 4), (2, .int w)]) hx hb dX7_haste_59 rfl hl (by decide) rfl (fun ls hl => ?_)
              refine lv_aload_n hx hb dX7_haste_60 rfl (lv_at hl 1 rfl) ?_
              refine lv_iconst (v := 0) hx hb dX7_haste_61 (by decide) ?_
              refine lv_iload_n hx hb dX7_haste_62 rfl (lv_at hl 2 rfl) ?_
              skip
              refine zw_V (As := [.int 0, .int 4]) (rest := []) (wr := [(xr, .inl (cI, 8, .inl fr))]) ⟨hx, hb, hml, hown, hts⟩ (c_F_X_casesBy_4 l D cI cJ cZ cP cS po x0 xs j0 k0 w0 rd mv xr (im) (lf) ((fun _ => 0)) j0 jp jc z0 0 0 (cn) (de) (tr) (se) (hu) (sd) wk wl wc wp (wn) (wh) (wg) fq fk fl fc fjc fp kf af tf (0) hy0 hy1 hy2 hy3 hy4 hy5 hy6 hy7 hy8 hy9 hy10 hy11 hy12 hy13 hy14 hy15 hwq hjp hy18 hy19 (by omega) (by omega) hp_fc hp_fjc H.size) (cwV 2 hts gX7_haste_X7_casesBy rfl rfl rfl ⟨rfl, dh_X7_casesBy⟩ ⟨Nat.le_of_ble_eq_true rfl, Nat.le_of_ble_eq_true rfl⟩) hK hN (hZ.kept hS) hP hD hS hA [0, 2, 3, 4, 5, 6, 7, 8, 9] [1] rfl rfl (by decide) (by decide) (by decide) (va_recv (q := (RX7, TX7, 9)) hK hP (ci := 7) (q0 := 0) rfl rfl) rfl hl.1 rfl (Nat.le_of_ble_eq_true rfl) dX7_haste_63 ⟨Nat.le_of_ble_eq_true rfl, Nat.le_of_ble_eq_true rfl⟩ (fun r_272 u_273 H locs hr_272 hP hD hS => ?_)
              obtain ⟨q_274, q_275, q_276, q_277, q_278, q_279, q_280⟩ := u_273
              try dsimp only at hr_272
              obtain ⟨hbq_274, hbq_275, hbq_276, hpq_279, hwq_280, hsr_272_0, hr_272⟩ := hr_272
              have h9R := zRe (ws' := [(xr, .inl (cI, 8, .inl fr)), (x0, .inr (7, [.ref xs, .ref j0, .ref k0, .ref w0, .ref rd, .ref mv, .ref xr, .int im, .int lf])), (j0, .inr (0, [.ref z0, .ref jp, .ref jc, .int cn, .int de, .int tr, .int se, .int hu, .int sd])), (w0, .inr (5, [.ref wk, .ref wl, .ref wc, .ref wp, .int q_274, .int q_275, .int q_276])), (wk, .inl (cI, 125, .inl q_277)), (wl, .inl (cI, 125, .inl q_278)), (wc, .inl (cI, 3, .inl q_279)), (wp, .inl (cP, 8, .inr (.inr (.inr (.inr q_280))))), (jp, .inl (cP, 8, .inr (.inr (.inr (.inr fp))))), (jc, .inl (cI, 3, .inl fjc))]) hP hD rfl
              clear hP hD
              obtain ⟨hP, hD⟩ := h9R
              obtain ⟨g_281, g_282⟩ := hr_272
              refine lv_istore (lv' := [(4, .int r_272), (3, .int 0), (0, .ref x0), (1, .int 4), (2, .int w)]) hx hb dX7_haste_66 hl (by decide) rfl (fun ls hl => ?_)
              refine lv_iconst (v := 1) hx hb dX7_haste_68 (by decide) ?_
              refine lv_istore (lv' := [(5, .int 1), (4, .int r_272), (3, .int 0), (0, .ref x0), (1, .int 4), (2, .int w)]) hx hb dX7_haste_69 hl (by decide) rfl (fun ls hl => ?_)
              obtain ⟨i_71, hi_71⟩ : ∃ i : Int32, i = 1 := ⟨_, rfl⟩
              replace hl : lv_has ls 7 [(5, .int i_71), (4, .int r_272), (3, .int 0), (0, .ref x0), (1, .int 4), (2, .int w)] := by rw [hi_71]; exact lv_sub hl [0, 1, 2, 3, 4, 5] rfl
              have h1i_71 : i_71.toInt = 1 := by rw [hi_71]; decide
              obtain ⟨nfu, hni_71⟩ : ∃ nq9 : Nat, 10 ≤ i_71.toInt + (nq9 : Int) := ⟨((10 : Int) - 1).toNat, by omega⟩
              have hloi_71 : 1 ≤ i_71.toInt := by omega
              obtain ⟨g_283, hg_283⟩ : ∃ g : Nat → Int32, g = q_277 := ⟨_, rfl⟩
              obtain ⟨g_284, hg_284⟩ : ∃ g : Nat → Int32, g = q_278 := ⟨_, rfl⟩
              obtain ⟨g_285, hg_285⟩ : ∃ g : Nat → Int32, g = q_279 := ⟨_, rfl⟩
              have hpg_285 : zRg g_285 (0) 99 := by rw [hg_285]; exact hpq_279
              obtain ⟨g_286, hg_286⟩ : ∃ g : Nat → Option Nat, g = q_280 := ⟨_, rfl⟩
              have hwg_286 : zWP po g_286 := by rw [hg_286]; exact hwq_280
              obtain ⟨v_287, hv_287⟩ : ∃ g : Int32, g = q_274 := ⟨_, rfl⟩
              have hbv_287 : 0 ≤ v_287.toInt ∧ v_287.toInt ≤ 8 := by rw [hv_287]; exact ⟨by omega, by omega⟩
              obtain ⟨v_288, hv_288⟩ : ∃ g : Int32, g = q_275 := ⟨_, rfl⟩
              have hbv_288 : 0 ≤ v_288.toInt ∧ v_288.toInt ≤ 9 := by rw [hv_288]; exact ⟨by omega, by omega⟩
              obtain ⟨v_289, hv_289⟩ : ∃ g : Int32, g = q_276 := ⟨_, rfl⟩
              have hbv_289 : 0 ≤ v_289.toInt ∧ v_289.toInt ≤ 60 := by rw [hv_289]; exact ⟨by omega, by omega⟩
              replace hP : va_P D vwCl [(xr, .inl (cI, 8, .inl fr)), (x0, .inr (7, [.ref xs, .ref j0, .ref k0, .ref w0, .ref rd, .ref mv, .ref xr, .int im, .int lf])), (j0, .inr (0, [.ref z0, .ref jp, .ref jc, .int cn, .int de, .int tr, .int se, .int hu, .int sd])), (w0, .inr (5, [.ref wk, .ref wl, .ref wc, .ref wp, .int v_287, .int v_288, .int v_289])), (wk, .inl (cI, 125, .inl g_283)), (wl, .inl (cI, 125, .inl g_284)), (wc, .inl (cI, 3, .inl g_285)), (wp, .inl (cP, 8, .inr (.inr (.inr (.inr g_286))))), (jp, .inl (cP, 8, .inr (.inr (.inr (.inr fp))))), (jc, .inl (cI, 3, .inl fjc))] H := by rw [hg_283, hg_284, hg_285, hg_286, hv_287, hv_288, hv_289]; exact hP
              replace hD : va_D (va_A [(x0, .inr (7, [.ref xs, .ref j0, .ref k0, .ref w0, .ref rd, .ref mv, .ref xr, .int im, .int lf])), (xr, .inl (cI, 8, .inl fr)), (j0, .inr (0, [.ref z0, .ref jp, .ref jc, .int cn, .int de, .int tr, .int se, .int hu, .int sd])), (w0, .inr (5, [.ref wk, .ref wl, .ref wc, .ref wp, .int wn, .int wh, .int wg])), (wk, .inl (cI, 125, .inl fk)), (wl, .inl (cI, 125, .inl fl)), (wc, .inl (cI, 3, .inl fc)), (wp, .inl (cP, 8, .inr (.inr (.inr (.inr fq))))), (jp, .inl (cP, 8, .inr (.inr (.inr (.inr fp))))), (jc, .inl (cI, 3, .inl fjc))] s.heap.size) [(xr, .inl (cI, 8, .inl fr)), (x0, .inr (7, [.ref xs, .ref j0, .ref k0, .ref w0, .ref rd, .ref mv, .ref xr, .int im, .int lf])), (j0, .inr (0, [.ref z0, .ref jp, .ref jc, .int cn, .int de, .int tr, .int se, .int hu, .int sd])), (w0, .inr (5, [.ref wk, .ref wl, .ref wc, .ref wp, .int v_287, .int v_288, .int v_289])), (wk, .inl (cI, 125, .inl g_283)), (wl, .inl (cI, 125, .inl g_284)), (wc, .inl (cI, 3, .inl g_285)), (wp, .inl (cP, 8, .inr (.inr (.inr (.inr g_286))))), (jp, .inl (cP, 8, .inr (.inr (.inr (.inr fp))))), (jc, .inl (cI, 3, .inl fjc))] := by rw [hg_283, hg_284, hg_285, hg_286, hv_287, hv_288, hv_289]; exact hD
              obtain ⟨v_290, hv_290⟩ : ∃ g : Int32, g = 0 := ⟨_, rfl⟩
              obtain ⟨v_291, hv_291⟩ : ∃ g : Int32, g = r_272 := ⟨_, rfl⟩
              replace hl : lv_has ls 7 [(5, .int i_71), (4, .int v_291), (3, .int v_290), (0, .ref x0), (1, .int 4), (2, .int w)] := by rw [hv_290, hv_291]; exact hl
              have hbv_290 : 0 ≤ v_290.toInt ∧ v_290.toInt ≤ 9 := by rw [hv_290]; exact ⟨by decide, by decide⟩
              have hbv_291 : 0 ≤ v_291.toInt ∧ v_291.toInt ≤ 20736 := by rw [hv_291]; exact ⟨by omega, by omega⟩
              have hvi_71_0 : (v_290 : Int32).toInt = (zHs (zHv kf af tf cn.toInt.toNat 4 de.toInt se.toInt) (i_71.toInt - 1).toNat : Nat) := by
                (try rw [hi_71]); (try rw [hg_283]); (try rw [hg_284]); (try rw [hg_285]); (try rw [hg_286]); (try rw [hv_287]); (try rw [hv_288]); (try rw [hv_289]); (try rw [hv_290]); (try rw [hv_291]); (rw [show ((1 : Int32).toInt - 1).toNat = 0 from by decide]; show (0 : Int32).toInt = ((0 : Nat) : Int); decide)
              have hvi_71_1 : (v_291 : Int32).toInt = (zHv kf af tf cn.toInt.toNat 4 de.toInt se.toInt) (zHs (zHv kf af tf cn.toInt.toNat 4 de.toInt se.toInt) (i_71.toInt - 1).toNat) := by
                (try rw [hi_71]); (try rw [hg_283]); (try rw [hg_284]); (try rw [hg_285]); (try rw [hg_286]); (try rw [hv_287]); (try rw [hv_288]); (try rw [hv_289]); (try rw [hv_290]); (try rw [hv_291]); (have z := hsr_272_0; rw [show (0 : Int32).toInt = ((0 : Nat) : Int) from by decide] at z; rw [show ((1 : Int32).toInt - 1).toNat = 0 from by decide]; exact z)
              have hvi_71_2 : 1 ≤ i_71.toInt ∧ i_71.toInt ≤ 10 := by
                (try rw [hi_71]); (try rw [hg_283]); (try rw [hg_284]); (try rw [hg_285]); (try rw [hg_286]); (try rw [hv_287]); (try rw [hv_288]); (try rw [hv_289]); (try rw [hv_290]); (try rw [hv_291]); (have k1 : (1 : Int32).toInt = 1 := (by decide); omega)
              clear h1i_71 hi_71 hg_283 hg_284 hg_285 hg_286 hv_287 hv_288 hv_289 hv_290 hv_291
              skip
              revert hni_71
              revert hloi_71
              revert hvi_71_2
              revert hvi_71_1
              revert hvi_71_0
              revert hbv_291
              revert hbv_290
              revert hbv_289
              revert hbv_288
              revert hbv_287
              revert hwg_286
              revert hpg_285
              revert hl
              revert hS
              revert hD
              revert hP
              revert ls
              revert locs
              revert H
              revert g_283
              revert g_284
              revert g_285
              revert g_286
              revert v_287
              revert v_288
              revert v_289
              revert v_291
              revert v_290
              revert i_71
              induction nfu with
              | zero =>
                intro i_71 v_290 v_291 v_289 v_288 v_287 g_286 g_285 g_284 g_283 H locs ls hP hD hS hl hpg_285 hwg_286 hbv_287 hbv_288 hbv_289 hbv_290 hbv_291 hvi_71_0 hvi_71_1 hvi_71_2 hloi_71 hni_71
                have hzi_71 : 10 ≤ i_71.toInt := by omega
                refine lv_iload hx hb dX7_haste_71 (lv_at hl 0 rfl) ?_
                refine lv_bipush (v := 9) hx hb dX7_haste_73 (by decide) ?_
                refine lv_icmp_gt (tgt := 107) hx hb dX7_haste_75 (by decide) (fun c_292 => ?_) (fun c_292 => ?_)
                · have fc_292 : 9 < i_71.toInt := zf_lt c_292 (by decide) rfl
                  refine lv_iload_n hx hb dX7_haste_107 rfl (lv_at hl 2 rfl) ?_
                  exact W.iret (v := v_290) hx hb hr (fun t ht hW => ⟨⟨v_290, (v_287, v_288, v_289, g_283, g_284, g_285, g_286, fr), rfl, ⟨(show 0 ≤ v_287.toInt ∧ v_287.toInt ≤ 8 from hbv_287), (show 0 ≤ v_288.toInt ∧ v_288.toInt ≤ 9 from hbv_288), (show 0 ≤ v_289.toInt ∧ v_289.toInt ≤ 60 from hbv_289), hpg_285, hwg_286, (show ((w.toInt < 0 ∨ 1 < w.toInt) ∧ (v_290 : Int32).toInt = -5) ∨ ((0 ≤ w.toInt ∧ w.toInt ≤ 1) ∧ ((((4 : Int32).toInt < 0 ∨ 4 < (4 : Int32).toInt) ∧ (v_290 : Int32).toInt = -6) ∨ ((0 ≤ (4 : Int32).toInt ∧ (4 : Int32).toInt ≤ 4) ∧ ((w.toInt = 1 ∧ (v_290 : Int32).toInt = (if (zHv kf af tf cn.toInt.toNat (4 : Int32).toInt.toNat de.toInt se.toInt) 9 < (zHv kf af tf cn.toInt.toNat (4 : Int32).toInt.toNat de.toInt se.toInt) 0 then 1 else 0)) ∨ (w.toInt = 0 ∧ (v_290 : Int32).toInt = (zHs (zHv kf af tf cn.toInt.toNat (4 : Int32).toInt.toNat de.toInt se.toInt) 9 : Nat)))))) from by (have k4 : (4 : Int32).toInt = 4 := (by decide); have k9_ : (9 : Int32).toInt = 9 := (by decide); have k0_ : (0 : Int32).toInt = 0 := (by decide); refine Or.inr ⟨by omega, Or.inr ⟨by omega, Or.inr ⟨by omega, (by rw [show (4 : Int32).toInt.toNat = 4 from by decide]; have h9 : (i_71.toInt - 1).toNat = 9 := (by omega); have z := hvi_71_0; rw [h9] at z; exact z)⟩⟩⟩)), trivial⟩, zRet ht hP hD [1, 0, 2, 3, 4, 5, 6, 7, 8, 9] (by decide) rfl⟩, hS.F ht⟩) hS.2.2 dX7_haste_108
                · exfalso; have fc_292 : i_71.toInt ≤ 9 := zf_nlt c_292 (by decide) rfl; omega
              | succ nfu ih =>
                intro i_71 v_290 v_291 v_289 v_288 v_287 g_286 g_285 g_284 g_283 H locs ls hP hD hS hl hpg_285 hwg_286 hbv_287 hbv_288 hbv_289 hbv_290 hbv_291 hvi_71_0 hvi_71_1 hvi_71_2 hloi_71 hni_71
                refine lv_iload hx hb dX7_haste_71 (lv_at hl 0 rfl) ?_
                refine lv_bipush (v := 9) hx hb dX7_haste_73 (by decide) ?_
                refine lv_icmp_gt (tgt := 107) hx hb dX7_haste_75 (by decide) (fun c_293 => ?_) (fun c_293 => ?_)
                · have fc_293 : 9 < i_71.toInt := zf_lt c_293 (by decide) rfl
                  refine lv_iload_n hx hb dX7_haste_107 rfl (lv_at hl 2 rfl) ?_
                  exact W.iret (v := v_290) hx hb hr (fun t ht hW => ⟨⟨v_290, (v_287, v_288, v_289, g_283, g_284, g_285, g_286, fr), rfl, ⟨(show 0 ≤ v_287.toInt ∧ v_287.toInt ≤ 8 from hbv_287), (show 0 ≤ v_288.toInt ∧ v_288.toInt ≤ 9 from hbv_288), (show 0 ≤ v_289.toInt ∧ v_289.toInt ≤ 60 from hbv_289), hpg_285, hwg_286, (show ((w.toInt < 0 ∨ 1 < w.toInt) ∧ (v_290 : Int32).toInt = -5) ∨ ((0 ≤ w.toInt ∧ w.toInt ≤ 1) ∧ ((((4 : Int32).toInt < 0 ∨ 4 < (4 : Int32).toInt) ∧ (v_290 : Int32).toInt = -6) ∨ ((0 ≤ (4 : Int32).toInt ∧ (4 : Int32).toInt ≤ 4) ∧ ((w.toInt = 1 ∧ (v_290 : Int32).toInt = (if (zHv kf af tf cn.toInt.toNat (4 : Int32).toInt.toNat de.toInt se.toInt) 9 < (zHv kf af tf cn.toInt.toNat (4 : Int32).toInt.toNat de.toInt se.toInt) 0 then 1 else 0)) ∨ (w.toInt = 0 ∧ (v_290 : Int32).toInt = (zHs (zHv kf af tf cn.toInt.toNat (4 : Int32).toInt.toNat de.toInt se.toInt) 9 : Nat)))))) from by (have k4 : (4 : Int32).toInt = 4 := (by decide); have k9_ : (9 : Int32).toInt = 9 := (by decide); have k0_ : (0 : Int32).toInt = 0 := (by decide); refine Or.inr ⟨by omega, Or.inr ⟨by omega, Or.inr ⟨by omega, (by rw [show (4 : Int32).toInt.toNat = 4 from by decide]; have h9 : (i_71.toInt - 1).toNat = 9 := (by omega); have z := hvi_71_0; rw [h9] at z; exact z)⟩⟩⟩)), trivial⟩, zRet ht hP hD [1, 0, 2, 3, 4, 5, 6, 7, 8, 9] (by decide) rfl⟩, hS.F ht⟩) hS.2.2 dX7_haste_108
                · have fc_293 : i_71.toInt ≤ 9 := zf_nlt c_293 (by decide) rfl
                  refine lv_aload_n hx hb dX7_haste_78 rfl (lv_at hl 3 rfl) ?_
                  refine lv_iload hx hb dX7_haste_79 (lv_at hl 0 rfl) ?_
                  refine lv_iload_n hx hb dX7_haste_81 rfl (lv_at hl 4 rfl) ?_
                  skip
                  refine zw_V (As := [.int i_71, .int 4]) (rest := []) (wr := [(xr, .inl (cI, 8, .inl fr))]) ⟨hx, hb, hml, hown, hts⟩ (c_F_X_casesBy_4 l D cI cJ cZ cP cS po x0 xs j0 k0 w0 rd mv xr (im) (lf) ((fun _ => 0)) j0 jp jc z0 0 0 (cn) (de) (tr) (se) (hu) (sd) wk wl wc wp (v_287) (v_288) (v_289) g_286 g_283 g_284 g_285 fjc fp kf af tf (i_71) hy0 hy1 hy2 hy3 hy4 hy5 hy6 hy7 hy8 hy9 hbv_287.1 hbv_287.2 hbv_288.1 hbv_288.2 hbv_289.1 hbv_289.2 hwg_286 hjp hy18 hy19 (by omega) (by omega) hpg_285 hp_fjc H.size) (cwV 2 hts gX7_haste_X7_casesBy rfl rfl rfl ⟨rfl, dh_X7_casesBy⟩ ⟨Nat.le_of_ble_eq_true rfl, Nat.le_of_ble_eq_true rfl⟩) hK hN (hZ.kept hS) hP hD hS hA [1, 2, 3, 4, 5, 6, 7, 8, 9] [0] rfl rfl (by decide) (by decide) (by decide) (va_recv (q := (RX7, TX7, 9)) hK hP (ci := 7) (q0 := 1) rfl rfl) rfl hl.1 rfl (Nat.le_of_ble_eq_true rfl) dX7_haste_82 ⟨Nat.le_of_ble_eq_true rfl, Nat.le_of_ble_eq_true rfl⟩ (fun r_294 u_295 H locs hr_294 hP hD hS => ?_)
                  obtain ⟨q_296, q_297, q_298, q_299, q_300, q_301, q_302⟩ := u_295
                  try dsimp only at hr_294
                  obtain ⟨hbq_296, hbq_297, hbq_298, hpq_301, hwq_302, hsr_294_0, hr_294⟩ := hr_294
                  have h9R := zRe (ws' := [(xr, .inl (cI, 8, .inl fr)), (x0, .inr (7, [.ref xs, .ref j0, .ref k0, .ref w0, .ref rd, .ref mv, .ref xr, .int im, .int lf])), (j0, .inr (0, [.ref z0, .ref jp, .ref jc, .int cn, .int de, .int tr, .int se, .int hu, .int sd])), (w0, .inr (5, [.ref wk, .ref wl, .ref wc, .ref wp, .int q_296, .int q_297, .int q_298])), (wk, .inl (cI, 125, .inl q_299)), (wl, .inl (cI, 125, .inl q_300)), (wc, .inl (cI, 3, .inl q_301)), (wp, .inl (cP, 8, .inr (.inr (.inr (.inr q_302))))), (jp, .inl (cP, 8, .inr (.inr (.inr (.inr fp))))), (jc, .inl (cI, 3, .inl fjc))]) hP hD rfl
                  clear hP hD
                  obtain ⟨hP, hD⟩ := h9R
                  obtain ⟨g_303, g_304⟩ := hr_294
                  refine lv_istore (lv' := [(6, .int r_294), (5, .int i_71), (4, .int v_291), (3, .int v_290), (0, .ref x0), (1, .int 4), (2, .int w)]) hx hb dX7_haste_85 hl (by decide) rfl (fun ls hl => ?_)
                  refine lv_iload hx hb dX7_haste_87 (lv_at hl 0 rfl) ?_
                  refine lv_iload hx hb dX7_haste_89 (lv_at hl 2 rfl) ?_
                  refine lv_icmp_le (tgt := 101) hx hb dX7_haste_91 (by decide) (fun c_305 => ?_) (fun c_305 => ?_)
                  · have fc_305 : r_294.toInt ≤ v_291.toInt := zf_le c_305 rfl rfl
                    obtain ⟨x_306, ex_306⟩ : ∃ y : Int32, y = i_71 + 1 := ⟨_, rfl⟩
                    have qx_306 : x_306.toInt = i_71.toInt + 1 := by rw [ex_306]; exact zf_add rfl (by decide) (by omega) (by omega)
                    refine lv_iinc (v := x_306) (lv' := [(5, .int x_306), (6, .int r_294), (4, .int v_291), (3, .int v_290), (0, .ref x0), (1, .int 4), (2, .int w)]) hx hb dX7_haste_101 hl (k := 1) rfl ex_306.symm (by decide) rfl (fun ls hl => ?_)
                    refine lv_goto (tgt := 71) hx hb dX7_haste_104 (by decide) ?_
                    exact ih x_306 v_290 v_291 (q_298) (q_297) (q_296) (q_302) (q_301) (q_300) (q_299) _ _ _ (hP.sub [0, 1, 2, 3, 4, 5, 6, 7, 8, 9] rfl) (hD.sub [0, 1, 2, 3, 4, 5, 6, 7, 8, 9] (by decide) rfl) hS (lv_sub hl [0, 2, 3, 4, 5, 6] rfl) hpq_301 hwq_302 hbq_296 hbq_297 hbq_298 hbv_290 hbv_291 (show (v_290 : Int32).toInt = (zHs (zHv kf af tf cn.toInt.toNat 4 de.toInt se.toInt) (x_306.toInt - 1).toNat : Nat) from by (have hx : (x_306.toInt - 1).toNat = (i_71.toInt - 1).toNat + 1 := (by omega); have y1 : (zHv kf af tf cn.toInt.toNat 4 de.toInt se.toInt) ((i_71.toInt - 1).toNat + 1) = r_294.toInt := (by have z := hsr_294_0; unfold zHv; rw [show (((i_71.toInt - 1).toNat + 1 : Nat) : Int) = i_71.toInt from by omega]; exact z.symm); rw [hx, zHs_s, y1, ← hvi_71_1]; first | (rw [if_pos (by omega)]; omega) | (rw [if_neg (by omega)]; exact hvi_71_0))) (show (v_291 : Int32).toInt = (zHv kf af tf cn.toInt.toNat 4 de.toInt se.toInt) (zHs (zHv kf af tf cn.toInt.toNat 4 de.toInt se.toInt) (x_306.toInt - 1).toNat) from by (have hx : (x_306.toInt - 1).toNat = (i_71.toInt - 1).toNat + 1 := (by omega); have y1 : (zHv kf af tf cn.toInt.toNat 4 de.toInt se.toInt) ((i_71.toInt - 1).toNat + 1) = r_294.toInt := (by have z := hsr_294_0; unfold zHv; rw [show (((i_71.toInt - 1).toNat + 1 : Nat) : Int) = i_71.toInt from by omega]; exact z.symm); rw [hx, zHs_s, y1]; first | (rw [if_pos (by rw [← hvi_71_1]; omega), y1]) | (rw [if_neg (by rw [← hvi_71_1]; omega)]; exact hvi_71_1))) (show 1 ≤ x_306.toInt ∧ x_306.toInt ≤ 10 from by exact ⟨by omega, by omega⟩) (dw_lo hloi_71 qx_306) (dw_hn hni_71 qx_306)
                  · have fc_305 : v_291.toInt < r_294.toInt := zf_nle c_305 rfl rfl
                    refine lv_iload hx hb dX7_haste_94 (lv_at hl 0 rfl) ?_
                    refine lv_istore (lv' := [(4, .int r_294), (6, .int r_294), (5, .int i_71), (3, .int v_290), (0, .ref x0), (1, .int 4), (2, .int w)]) hx hb dX7_haste_96 hl (by decide) rfl (fun ls hl => ?_)
                    refine lv_iload hx hb dX7_haste_98 (lv_at hl 2 rfl) ?_
                    refine lv_istore_n (lv' := [(3, .int i_71), (4, .int r_294), (6, .int r_294), (5, .int i_71), (0, .ref x0), (1, .int 4), (2, .int w)]) hx hb dX7_haste_100 rfl hl (by decide) rfl (fun ls hl => ?_)
                    obtain ⟨x_307, ex_307⟩ : ∃ y : Int32, y = i_71 + 1 := ⟨_, rfl⟩
                    have qx_307 : x_307.toInt = i_71.toInt + 1 := by rw [ex_307]; exact zf_add rfl (by decide) (by omega) (by omega)
                    refine lv_iinc (v := x_307) (lv' := [(5, .int x_307), (3, .int i_71), (4, .int r_294), (6, .int r_294), (0, .ref x0), (1, .int 4), (2, .int w)]) hx hb dX7_haste_101 hl (k := 3) rfl ex_307.symm (by decide) rfl (fun ls hl => ?_)
                    refine lv_goto (tgt := 71) hx hb dX7_haste_104 (by decide) ?_
                    exact ih x_307 i_71 r_294 (q_298) (q_297) (q_296) (q_302) (q_301) (q_300) (q_299) _ _ _ (hP.sub [0, 1, 2, 3, 4, 5, 6, 7, 8, 9] rfl) (hD.sub [0, 1, 2, 3, 4, 5, 6, 7, 8, 9] (by decide) rfl) hS (lv_sub hl [0, 2, 1, 4, 5, 6] rfl) hpq_301 hwq_302 hbq_296 hbq_297 hbq_298 ⟨by omega, by omega⟩ ⟨by omega, by omega⟩ (show (i_71 : Int32).toInt = (zHs (zHv kf af tf cn.toInt.toNat 4 de.toInt se.toInt) (x_307.toInt - 1).toNat : Nat) from by (have hx : (x_307.toInt - 1).toNat = (i_71.toInt - 1).toNat + 1 := (by omega); have y1 : (zHv kf af tf cn.toInt.toNat 4 de.toInt se.toInt) ((i_71.toInt - 1).toNat + 1) = r_294.toInt := (by have z := hsr_294_0; unfold zHv; rw [show (((i_71.toInt - 1).toNat + 1 : Nat) : Int) = i_71.toInt from by omega]; exact z.symm); rw [hx, zHs_s, y1, ← hvi_71_1]; first | (rw [if_pos (by omega)]; omega) | (rw [if_neg (by omega)]; exact hvi_71_0))) (show (r_294 : Int32).toInt = (zHv kf af tf cn.toInt.toNat 4 de.toInt se.toInt) (zHs (zHv kf af tf cn.toInt.toNat 4 de.toInt se.toInt) (x_307.toInt - 1).toNat) from by (have hx : (x_307.toInt - 1).toNat = (i_71.toInt - 1).toNat + 1 := (by omega); have y1 : (zHv kf af tf cn.toInt.toNat 4 de.toInt se.toInt) ((i_71.toInt - 1).toNat + 1) = r_294.toInt := (by have z := hsr_294_0; unfold zHv; rw [show (((i_71.toInt - 1).toNat + 1 : Nat) : Int) = i_71.toInt from by omega]; exact z.symm); rw [hx, zHs_s, y1]; first | (rw [if_pos (by rw [← hvi_71_1]; omega), y1]) | (rw [if_neg (by rw [← hvi_71_1]; omega)]; exact hvi_71_1))) (show 1 ≤ x_307.toInt ∧ x_307.toInt ≤ 10 from by exact ⟨by omega, by omega⟩) (dw_lo hloi_71 qx_307) (dw_hn hni_71 qx_307)
            · have fc_271 : w.toInt = 1 := zf_eq c_271 rfl (by decide)
              refine lv_aload_n hx hb dX7_haste_36 rfl (lv_at hl 0 rfl) ?_
              refine lv_bipush (v := 9) hx hb dX7_haste_37 (by decide) ?_
              refine lv_iload_n hx hb dX7_haste_39 rfl (lv_at hl 1 rfl) ?_
              have kc9 : (9 : Int32).toInt = 9 := by decide
              skip
              refine zw_V (As := [.int 9, .int 4]) (rest := []) (wr := [(xr, .inl (cI, 8, .inl fr))]) ⟨hx, hb, hml, hown, hts⟩ (c_F_X_casesBy_4 l D cI cJ cZ cP cS po x0 xs j0 k0 w0 rd mv xr (im) (lf) ((fun _ => 0)) j0 jp jc z0 0 0 (cn) (de) (tr) (se) (hu) (sd) wk wl wc wp (wn) (wh) (wg) fq fk fl fc fjc fp kf af tf (9) hy0 hy1 hy2 hy3 hy4 hy5 hy6 hy7 hy8 hy9 hy10 hy11 hy12 hy13 hy14 hy15 hwq hjp hy18 hy19 (by omega) (by omega) hp_fc hp_fjc H.size) (cwV 2 hts gX7_haste_X7_casesBy rfl rfl rfl ⟨rfl, dh_X7_casesBy⟩ ⟨Nat.le_of_ble_eq_true rfl, Nat.le_of_ble_eq_true rfl⟩) hK hN (hZ.kept hS) hP hD hS hA [0, 2, 3, 4, 5, 6, 7, 8, 9] [1] rfl rfl (by decide) (by decide) (by decide) (va_recv (q := (RX7, TX7, 9)) hK hP (ci := 7) (q0 := 0) rfl rfl) rfl hl.1 rfl (Nat.le_of_ble_eq_true rfl) dX7_haste_40 ⟨Nat.le_of_ble_eq_true rfl, Nat.le_of_ble_eq_true rfl⟩ (fun r_308 u_309 H locs hr_308 hP hD hS => ?_)
              obtain ⟨q_310, q_311, q_312, q_313, q_314, q_315, q_316⟩ := u_309
              try dsimp only at hr_308
              obtain ⟨hbq_310, hbq_311, hbq_312, hpq_315, hwq_316, hsr_308_0, hr_308⟩ := hr_308
              have h9R := zRe (ws' := [(xr, .inl (cI, 8, .inl fr)), (x0, .inr (7, [.ref xs, .ref j0, .ref k0, .ref w0, .ref rd, .ref mv, .ref xr, .int im, .int lf])), (j0, .inr (0, [.ref z0, .ref jp, .ref jc, .int cn, .int de, .int tr, .int se, .int hu, .int sd])), (w0, .inr (5, [.ref wk, .ref wl, .ref wc, .ref wp, .int q_310, .int q_311, .int q_312])), (wk, .inl (cI, 125, .inl q_313)), (wl, .inl (cI, 125, .inl q_314)), (wc, .inl (cI, 3, .inl q_315)), (wp, .inl (cP, 8, .inr (.inr (.inr (.inr q_316))))), (jp, .inl (cP, 8, .inr (.inr (.inr (.inr fp))))), (jc, .inl (cI, 3, .inl fjc))]) hP hD rfl
              clear hP hD
              obtain ⟨hP, hD⟩ := h9R
              obtain ⟨g_317, g_318⟩ := hr_308
              refine lv_aload_n hx hb dX7_haste_43 rfl (lv_at hl 0 rfl) ?_
              refine lv_iconst (v := 0) hx hb dX7_haste_44 (by decide) ?_
              refine lv_iload_n hx hb dX7_haste_45 rfl (lv_at hl 1 rfl) ?_
              skip
              refine zw_V (As := [.int 0, .int 4]) (rest := [.int r_308]) (wr := [(xr, .inl (cI, 8, .inl fr))]) ⟨hx, hb, hml, hown, hts⟩ (c_F_X_casesBy_4 l D cI cJ cZ cP cS po x0 xs j0 k0 w0 rd mv xr (im) (lf) ((fun _ => 0)) j0 jp jc z0 0 0 (cn) (de) (tr) (se) (hu) (sd) wk wl wc wp (q_310) (q_311) (q_312) q_316 q_313 q_314 q_315 fjc fp kf af tf (0) hy0 hy1 hy2 hy3 hy4 hy5 hy6 hy7 hy8 hy9 hbq_310.1 hbq_310.2 hbq_311.1 hbq_311.2 hbq_312.1 hbq_312.2 hwq_316 hjp hy18 hy19 (by omega) (by omega) hpq_315 hp_fjc H.size) (cwV 2 hts gX7_haste_X7_casesBy rfl rfl rfl ⟨rfl, dh_X7_casesBy⟩ ⟨Nat.le_of_ble_eq_true rfl, Nat.le_of_ble_eq_true rfl⟩) hK hN (hZ.kept hS) hP hD hS hA [1, 2, 3, 4, 5, 6, 7, 8, 9] [0] rfl rfl (by decide) (by decide) (by decide) (va_recv (q := (RX7, TX7, 9)) hK hP (ci := 7) (q0 := 1) rfl rfl) rfl hl.1 rfl (Nat.le_of_ble_eq_true rfl) dX7_haste_46 ⟨Nat.le_of_ble_eq_true rfl, Nat.le_of_ble_eq_true rfl⟩ (fun r_319 u_320 H locs hr_319 hP hD hS => ?_)
              obtain ⟨q_321, q_322, q_323, q_324, q_325, q_326, q_327⟩ := u_320
              try dsimp only at hr_319
              obtain ⟨hbq_321, hbq_322, hbq_323, hpq_326, hwq_327, hsr_319_0, hr_319⟩ := hr_319
              have h9R := zRe (ws' := [(xr, .inl (cI, 8, .inl fr)), (x0, .inr (7, [.ref xs, .ref j0, .ref k0, .ref w0, .ref rd, .ref mv, .ref xr, .int im, .int lf])), (j0, .inr (0, [.ref z0, .ref jp, .ref jc, .int cn, .int de, .int tr, .int se, .int hu, .int sd])), (w0, .inr (5, [.ref wk, .ref wl, .ref wc, .ref wp, .int q_321, .int q_322, .int q_323])), (wk, .inl (cI, 125, .inl q_324)), (wl, .inl (cI, 125, .inl q_325)), (wc, .inl (cI, 3, .inl q_326)), (wp, .inl (cP, 8, .inr (.inr (.inr (.inr q_327))))), (jp, .inl (cP, 8, .inr (.inr (.inr (.inr fp))))), (jc, .inl (cI, 3, .inl fjc))]) hP hD rfl
              clear hP hD
              obtain ⟨hP, hD⟩ := h9R
              obtain ⟨g_328, g_329⟩ := hr_319
              refine lv_icmp_ge (tgt := 56) hx hb dX7_haste_49 (by decide) (fun c_330 => ?_) (fun c_330 => ?_)
              · have fc_330 : r_319.toInt ≤ r_308.toInt := zf_le c_330 rfl rfl
                refine lv_iconst (v := 0) hx hb dX7_haste_56 (by decide) ?_
                exact W.iret (v := 0) hx hb hr (fun t ht hW => ⟨⟨0, (q_321, q_322, q_323, q_324, q_325, q_326, q_327, fr), rfl, ⟨(show 0 ≤ q_321.toInt ∧ q_321.toInt ≤ 8 from hbq_321), (show 0 ≤ q_322.toInt ∧ q_322.toInt ≤ 9 from hbq_322), (show 0 ≤ q_323.toInt ∧ q_323.toInt ≤ 60 from hbq_323), hpq_326, hwq_327, (show ((w.toInt < 0 ∨ 1 < w.toInt) ∧ (0 : Int32).toInt = -5) ∨ ((0 ≤ w.toInt ∧ w.toInt ≤ 1) ∧ ((((4 : Int32).toInt < 0 ∨ 4 < (4 : Int32).toInt) ∧ (0 : Int32).toInt = -6) ∨ ((0 ≤ (4 : Int32).toInt ∧ (4 : Int32).toInt ≤ 4) ∧ ((w.toInt = 1 ∧ (0 : Int32).toInt = (if (zHv kf af tf cn.toInt.toNat (4 : Int32).toInt.toNat de.toInt se.toInt) 9 < (zHv kf af tf cn.toInt.toNat (4 : Int32).toInt.toNat de.toInt se.toInt) 0 then 1 else 0)) ∨ (w.toInt = 0 ∧ (0 : Int32).toInt = (zHs (zHv kf af tf cn.toInt.toNat (4 : Int32).toInt.toNat de.toInt se.toInt) 9 : Nat)))))) from by (have k0 : (0 : Int32).toInt = 0 := (by decide); have k4 : (4 : Int32).toInt = 4 := (by decide); have k9 : (0 : Int32).toInt = 0 := (by decide); have k9_ : (9 : Int32).toInt = 9 := (by decide); have k0_ : (0 : Int32).toInt = 0 := (by decide); refine Or.inr ⟨by omega, Or.inr ⟨by omega, Or.inl ⟨by omega, (by rw [show (4 : Int32).toInt.toNat = 4 from by decide]; have z1 := hsr_308_0; have z2 := hsr_319_0; rw [k9_] at z1; rw [k0_] at z2; have y1 : (zHv kf af tf cn.toInt.toNat 4 de.toInt se.toInt) 9 = r_308.toInt := z1.symm; have y2 : (zHv kf af tf cn.toInt.toNat 4 de.toInt se.toInt) 0 = r_319.toInt := z2.symm; rw [y1, y2]; first | (rw [if_neg (by omega)]; omega) | (rw [if_pos (by omega)]; omega))⟩⟩⟩)), trivial⟩, zRet ht hP hD [1, 0, 2, 3, 4, 5, 6, 7, 8, 9] (by decide) rfl⟩, hS.F ht⟩) hS.2.2 dX7_haste_57
              · have fc_330 : r_308.toInt < r_319.toInt := zf_nle c_330 rfl rfl
                refine lv_iconst (v := 1) hx hb dX7_haste_52 (by decide) ?_
                refine lv_goto (tgt := 57) hx hb dX7_haste_53 (by decide) ?_
                exact W.iret (v := 1) hx hb hr (fun t ht hW => ⟨⟨1, (q_321, q_322, q_323, q_324, q_325, q_326, q_327, fr), rfl, ⟨(show 0 ≤ q_321.toInt ∧ q_321.toInt ≤ 8 from hbq_321), (show 0 ≤ q_322.toInt ∧ q_322.toInt ≤ 9 from hbq_322), (show 0 ≤ q_323.toInt ∧ q_323.toInt ≤ 60 from hbq_323), hpq_326, hwq_327, (show ((w.toInt < 0 ∨ 1 < w.toInt) ∧ (1 : Int32).toInt = -5) ∨ ((0 ≤ w.toInt ∧ w.toInt ≤ 1) ∧ ((((4 : Int32).toInt < 0 ∨ 4 < (4 : Int32).toInt) ∧ (1 : Int32).toInt = -6) ∨ ((0 ≤ (4 : Int32).toInt ∧ (4 : Int32).toInt ≤ 4) ∧ ((w.toInt = 1 ∧ (1 : Int32).toInt = (if (zHv kf af tf cn.toInt.toNat (4 : Int32).toInt.toNat de.toInt se.toInt) 9 < (zHv kf af tf cn.toInt.toNat (4 : Int32).toInt.toNat de.toInt se.toInt) 0 then 1 else 0)) ∨ (w.toInt = 0 ∧ (1 : Int32).toInt = (zHs (zHv kf af tf cn.toInt.toNat (4 : Int32).toInt.toNat de.toInt se.toInt) 9 : Nat)))))) from by (have k1 : (1 : Int32).toInt = 1 := (by decide); have k4 : (4 : Int32).toInt = 4 := (by decide); have k9 : (1 : Int32).toInt = 1 := (by decide); have k9_ : (9 : Int32).toInt = 9 := (by decide); have k0_ : (0 : Int32).toInt = 0 := (by decide); refine Or.inr ⟨by omega, Or.inr ⟨by omega, Or.inl ⟨by omega, (by rw [show (4 : Int32).toInt.toNat = 4 from by decide]; have z1 := hsr_308_0; have z2 := hsr_319_0; rw [k9_] at z1; rw [k0_] at z2; have y1 : (zHv kf af tf cn.toInt.toNat 4 de.toInt se.toInt) 9 = r_308.toInt := z1.symm; have y2 : (zHv kf af tf cn.toInt.toNat 4 de.toInt se.toInt) 0 = r_319.toInt := z2.symm; rw [y1, y2]; first | (rw [if_pos (by omega)]; omega) | (rw [if_neg (by omega)]; omega))⟩⟩⟩)), trivial⟩, zRet ht hP hD [1, 0, 2, 3, 4, 5, 6, 7, 8, 9] (by decide) rfl⟩, hS.F ht⟩) hS.2.2 dX7_haste_57
        · exact absurd c_30 (by decide)
    · exact absurd c_15 (by decide)
end
