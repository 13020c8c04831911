theorem hi_X7_refuse_7 : ∀ w ∈ u_ws RX7 TX7 9, w ∈ wsX7_refuse := by decide +kernel
set_option maxHeartbeats 4000000 in
set_option maxRecDepth 100000 in
theorem c_refuse_1 (l : Launch) (D : va_G) (cI cJ cZ cP cS : ClassId) (x0 xs j0 k0 w0 rd mv xr : Nat)  (sz : Nat) : Met l yX7_refuse wsX7_refuse ({ frames := 1, cells := 0, slots := 0, locals := 22 }) (va_Pc [.ref x0, .int 1] (zW D (zKT cI cJ cZ cP cS) [(x0, .inr (7, [.ref xs, .ref j0, .ref k0, .ref w0, .ref rd, .ref mv, .ref xr, .int 0, .int (-1)])), (xr, .inl (cI, 8, .inl (fun _ => 0)))] sz)) (va_Qi (fun (r : Int32) (_ : Unit) => r = (-1)) (zB D [(x0, .inr (7, [.ref xs, .ref j0, .ref k0, .ref w0, .ref rd, .ref mv, .ref xr, .int 0, .int (-1)])), (xr, .inl (cI, 8, .inl (fun _ => 0)))] sz (fun (_ : Unit) => ([] : va_W))) (va_A [(x0, .inr (7, [.ref xs, .ref j0, .ref k0, .ref w0, .ref rd, .ref mv, .ref xr, .int 0, .int (-1)])), (xr, .inl (cI, 8, .inl (fun _ => 0)))] sz)) 0 0 (va_A [(x0, .inr (7, [.ref xs, .ref j0, .ref k0, .ref w0, .ref rd, .ref mv, .ref xr, .int 0, .int (-1)])), (xr, .inl (cI, 8, .inl (fun _ => 0)))] sz) := by
  refine Met.ofW (cc := cX7_refuse) (maxL := 2) (ret := (some .int)) (by decide) rfl ?_
  intro p e s m args below meth c s₁ B hml hv
  obtain ⟨rfl, hsz, hP, hK, hD0, hN, hZ⟩ := hv
  have hx := B.exec
  have hb := B.bytes
  have hr := B.returns
  have hts := atoms_spec (ws := wsX7_refuse) B.pre
  have hown : s.vm.findClass RX7 = some m.cls := findClass_of_methodNamed B.named
  have hlocks := B.notSynchronized
  subst hsz
  have hD := hD0.self (sz := s.heap.size)
  have hA : ∀ q : Nat, s.heap.size ≤ q → va_A [(x0, .inr (7, [.ref xs, .ref j0, .ref k0, .ref w0, .ref rd, .ref mv, .ref xr, .int 0, .int (-1)])), (xr, .inl (cI, 8, .inl (fun _ => 0)))] s.heap.size q := fun q h => Or.inr h
  have hS : va_S (va_A [(x0, .inr (7, [.ref xs, .ref j0, .ref k0, .ref w0, .ref rd, .ref mv, .ref xr, .int 0, .int (-1)])), (xr, .inl (cI, 8, .inl (fun _ => 0)))] s.heap.size) s.heap s.heap [] := va_S.rf
  replace hP : va_P D vwCl _ s.heap := hP
  have hl := lv_entry ([.ref x0, .int 1]) (n := 2) (Nat.le_of_ble_eq_true rfl)
  rw [lg_entry_eq]
  generalize (lg_sl ([.ref x0, .int 1]) ++ List.replicate (2 - (lg_sl ([.ref x0, .int 1])).length) Slot.unset).toArray = ls at hl ⊢
  replace hl : lv_has ls 2 [(0, .ref x0), (1, .int 1)] := hl
  refine zw_start (fun H locs hH hL => ?_)
  replace hP : va_P D vwCl [(x0, .inr (7, [.ref xs, .ref j0, .ref k0, .ref w0, .ref rd, .ref mv, .ref xr, .int 0, .int (-1)])), (xr, .inl (cI, 8, .inl (fun _ => 0)))] H := by rw [hH]; exact hP
  replace hS : va_S (va_A [(x0, .inr (7, [.ref xs, .ref j0, .ref k0, .ref w0, .ref rd, .ref mv, .ref xr, .int 0, .int (-1)])), (xr, .inl (cI, 8, .inl (fun _ => 0)))] s.heap.size) s.heap H locs := by rw [hH, hL]; exact hS
  clear hH hL
  refine lv_iload_n hx hb dX7_refuse_0 rfl (lv_at hl 1 rfl) ?_
  refine lv_iconst (v := 1) hx hb dX7_refuse_1 (by decide) ?_
  refine lv_bipush (v := 7) hx hb dX7_refuse_2 (by decide) ?_
  have kc1 : (1 : Int32).toInt = 1 := by decide
  have kc7 : (7 : Int32).toInt = 7 := by decide
  refine zc_S (As := [.int 1, .int 1, .int 7]) (rest := []) ⟨hx, hb, hml, hown, hts⟩ (c_within l D cI cJ cZ cP cS (1) (1) (7) ) (va_cwS 3 hts gX7_refuse_X7_within rfl rfl rfl (by decide +kernel) ⟨Nat.le_of_ble_eq_true rfl, Nat.le_of_ble_eq_true rfl⟩) hK hN (hZ.kept hS) rfl hl.1 rfl (Nat.le_of_ble_eq_true rfl) dX7_refuse_4 ⟨Nat.le_of_ble_eq_true rfl, Nat.le_of_ble_eq_true rfl⟩ (fun r_1 hr_1 => ?_)
  rcases hr_1 with ⟨rfl, g_2⟩ | ⟨rfl, g_3, g_4⟩ | ⟨rfl, g_5, g_6⟩
  · exfalso; omega
  · exfalso; omega
  · refine lv_if_eq (tgt := 20) hx hb dX7_refuse_7 (by decide) (fun c_7 => ?_) (fun c_7 => ?_)
    · exact absurd c_7 (by decide)
    · refine lv_aload_n hx hb dX7_refuse_10 rfl (lv_at hl 0 rfl) ?_
      refine va_get (D := D) (ci := 7) (v := .ref xr) (C := RX7) (T := TX7) (N := 9) hx hb hts hi_X7_refuse_7 hown hK hP 0 rfl rfl 6 (by decide) (hts (.fieldLink RX7 46 "TheLiningsInIt" "refusals" "[I") (List.mem_of_getElem? (i := 1) rfl)) (fun _ h9 => h9) rfl dX7_refuse_11 ?_
      refine lv_iload_n hx hb dX7_refuse_14 rfl (lv_at hl 1 rfl) ?_
      refine lv_dup2_11 hx hb dX7_refuse_15 rfl rfl ?_
      refine va_iald hx hb hK hP 1 0 rfl rfl (zf_in (by decide) (by decide)) dX7_refuse_16 ?_
      refine lv_topi (fun x_8 ex_8 => ?_)
      obtain rfl : x_8 = 0 := ex_8
      refine lv_iconst (v := 1) hx hb dX7_refuse_17 (by decide) ?_
      refine lv_iadd hx hb dX7_refuse_18 ?_
      refine lv_topi (fun y_9 ey_9 => ?_)
      obtain rfl : y_9 = 1 := ey_9.trans (by decide)
      refine va_iast hx hb hK hP hD hS 1 0 rfl rfl (zf_in (by decide) (by decide)) dX7_refuse_19 (fun H locs hP hD hS => ?_)
      replace hP : va_P D vwCl [(x0, .inr (7, [.ref xs, .ref j0, .ref k0, .ref w0, .ref rd, .ref mv, .ref xr, .int 0, .int (-1)])), (xr, .inl (cI, 8, .inl (upd (fun _ => 0) (1 : Int32).toNatClampNeg 1)))] H := hP
      replace hD : va_D _ [(x0, .inr (7, [.ref xs, .ref j0, .ref k0, .ref w0, .ref rd, .ref mv, .ref xr, .int 0, .int (-1)])), (xr, .inl (cI, 8, .inl (upd (fun _ => 0) (1 : Int32).toNatClampNeg 1)))] := hD
      refine lv_iload_n hx hb dX7_refuse_20 rfl (lv_at hl 1 rfl) ?_
      refine lv_ineg hx hb dX7_refuse_21 ?_
      refine lv_topi (fun y_10 ey_10 => ?_)
      obtain rfl : y_10 = (-1) := ey_10.trans (by decide)
      exact W.iret (v := (-1)) hx hb hr (fun t ht hW => ⟨⟨(-1), (), rfl, rfl, zP_nil, zD_nil⟩, hS.F ht⟩) hS.2.2 dX7_refuse_22
set_option maxHeartbeats 4000000 in
set_option maxRecDepth 100000 in
theorem c_refuse_2 (l : Launch) (D : va_G) (cI cJ cZ cP cS : ClassId) (x0 xs j0 k0 w0 rd mv xr : Nat)  (sz : Nat) : Met l yX7_refuse wsX7_refuse ({ frames := 1, cells := 0, slots := 0, locals := 22 }) (va_Pc [.ref x0, .int 2] (zW D (zKT cI cJ cZ cP cS) [(x0, .inr (7, [.ref xs, .ref j0, .ref k0, .ref w0, .ref rd, .ref mv, .ref xr, .int 0, .int (-1)])), (xr, .inl (cI, 8, .inl (fun _ => 0)))] sz)) (va_Qi (fun (r : Int32) (_ : Unit) => r = (-2)) (zB D [(x0, .inr (7, [.ref xs, .ref j0, .ref k0, .ref w0, .ref rd, .ref mv, .ref xr, .int 0, .int (-1)])), (xr, .inl (cI, 8, .inl (fun _ => 0)))] sz (fun (_ : Unit) => ([] : va_W))) (va_A [(x0, .inr (7, [.ref xs, .ref j0, .ref k0, .ref w0, .ref rd, .ref mv, .ref xr, .int 0, .int (-1)])), (xr, .inl (cI, 8, .inl (fun _ => 0)))] sz)) 0 0 (va_A [(x0, .inr (7, [.ref xs, .ref j0, .ref k0, .ref w0, .ref rd, .ref mv, .ref xr, .int 0, .int (-1)])), (xr, .inl (cI, 8, .inl (fun _ => 0)))] sz) := by
  refine Met.ofW (cc := cX7_refuse) (maxL := 2) (ret := (some .int)) (by decide) rfl ?_
  intro p e s m args below meth c s₁ B hml hv
  obtain ⟨rfl, hsz, hP, hK, hD0, hN, hZ⟩ := hv
  have hx := B.exec
  have hb := B.bytes
  have hr := B.returns
  have hts := atoms_spec (ws := wsX7_refuse) B.pre
  have hown : s.vm.findClass RX7 = some m.cls := findClass_of_methodNamed B.named
  have hlocks := B.notSynchronized
  subst hsz
  have hD := hD0.self (sz := s.heap.size)
  have hA : ∀ q : Nat, s.heap.size ≤ q → va_A [(x0, .inr (7, [.ref xs, .ref j0, .ref k0, .ref w0, .ref rd, .ref mv, .ref xr, .int 0, .int (-1)])), (xr, .inl (cI, 8, .inl (fun _ => 0)))] s.heap.size q := fun q h => Or.inr h
  have hS : va_S (va_A [(x0, .inr (7, [.ref xs, .ref j0, .ref k0, .ref w0, .ref rd, .ref mv, .ref xr, .int 0, .int (-1)])), (xr, .inl (cI, 8, .inl (fun _ => 0)))] s.heap.size) s.heap s.heap [] := va_S.rf
  replace hP : va_P D vwCl _ s.heap := hP
  have hl := lv_entry ([.ref x0, .int 2]) (n := 2) (Nat.le_of_ble_eq_true rfl)
  rw [lg_entry_eq]
  generalize (lg_sl ([.ref x0, .int 2]) ++ List.replicate (2 - (lg_sl ([.ref x0, .int 2])).length) Slot.unset).toArray = ls at hl ⊢
  replace hl : lv_has ls 2 [(0, .ref x0), (1, .int 2)] := hl
  refine zw_start (fun H locs hH hL => ?_)
  replace hP : va_P D vwCl [(x0, .inr (7, [.ref xs, .ref j0, .ref k0, .ref w0, .ref rd, .ref mv, .ref xr, .int 0, .int (-1)])), (xr, .inl (cI, 8, .inl (fun _ => 0)))] H := by rw [hH]; exact hP
  replace hS : va_S (va_A [(x0, .inr (7, [.ref xs, .ref j0, .ref k0, .ref w0, .ref rd, .ref mv, .ref xr, .int 0, .int (-1)])), (xr, .inl (cI, 8, .inl (fun _ => 0)))] s.heap.size) s.heap H locs := by rw [hH, hL]; exact hS
  clear hH hL
  refine lv_iload_n hx hb dX7_refuse_0 rfl (lv_at hl 1 rfl) ?_
  refine lv_iconst (v := 1) hx hb dX7_refuse_1 (by decide) ?_
  refine lv_bipush (v := 7) hx hb dX7_refuse_2 (by decide) ?_
  have kc2 : (2 : Int32).toInt = 2 := by decide
  have kc1 : (1 : Int32).toInt = 1 := by decide
  have kc7 : (7 : Int32).toInt = 7 := by decide
  refine zc_S (As := [.int 2, .int 1, .int 7]) (rest := []) ⟨hx, hb, hml, hown, hts⟩ (c_within l D cI cJ cZ cP cS (2) (1) (7) ) (va_cwS 3 hts gX7_refuse_X7_within rfl rfl rfl (by decide +kernel) ⟨Nat.le_of_ble_eq_true rfl, Nat.le_of_ble_eq_true rfl⟩) hK hN (hZ.kept hS) rfl hl.1 rfl (Nat.le_of_ble_eq_true rfl) dX7_refuse_4 ⟨Nat.le_of_ble_eq_true rfl, Nat.le_of_ble_eq_true rfl⟩ (fun r_1 hr_1 => ?_)
  rcases hr_1 with ⟨rfl, g_2⟩ | ⟨rfl, g_3, g_4⟩ | ⟨rfl, g_5, g_6⟩
  · exfalso; omega
  · exfalso; omega
  · refine lv_if_eq (tgt := 20) hx hb dX7_refuse_7 (by decide) (fun c_7 => ?_) (fun c_7 => ?_)
    · exact absurd c_7 (by decide)
    · refine lv_aload_n hx hb dX7_refuse_10 rfl (lv_at hl 0 rfl) ?_
      refine va_get (D := D) (ci := 7) (v := .ref xr) (C := RX7) (T := TX7) (N := 9) hx hb hts hi_X7_refuse_7 hown hK hP 0 rfl rfl 6 (by decide) (hts (.fieldLink RX7 46 "TheLiningsInIt" "refusals" "[I") (List.mem_of_getElem? (i := 1) rfl)) (fun _ h9 => h9) rfl dX7_refuse_11 ?_
      refine lv_iload_n hx hb dX7_refuse_14 rfl (lv_at hl 1 rfl) ?_
      refine lv_dup2_11 hx hb dX7_refuse_15 rfl rfl ?_
      refine va_iald hx hb hK hP 1 0 rfl rfl (zf_in (by decide) (by decide)) dX7_refuse_16 ?_
      refine lv_topi (fun x_8 ex_8 => ?_)
      obtain rfl : x_8 = 0 := ex_8
      refine lv_iconst (v := 1) hx hb dX7_refuse_17 (by decide) ?_
      refine lv_iadd hx hb dX7_refuse_18 ?_
      refine lv_topi (fun y_9 ey_9 => ?_)
      obtain rfl : y_9 = 1 := ey_9.trans (by decide)
      refine va_iast hx hb hK hP hD hS 1 0 rfl rfl (zf_in (by decide) (by decide)) dX7_refuse_19 (fun H locs hP hD hS => ?_)
      replace hP : va_P D vwCl [(x0, .inr (7, [.ref xs, .ref j0, .ref k0, .ref w0, .ref rd, .ref mv, .ref xr, .int 0, .int (-1)])), (xr, .inl (cI, 8, .inl (upd (fun _ => 0) (2 : Int32).toNatClampNeg 1)))] H := hP
      replace hD : va_D _ [(x0, .inr (7, [.ref xs, .ref j0, .ref k0, .ref w0, .ref rd, .ref mv, .ref xr, .int 0, .int (-1)])), (xr, .inl (cI, 8, .inl (upd (fun _ => 0) (2 : Int32).toNatClampNeg 1)))] := hD
      refine lv_iload_n hx hb dX7_refuse_20 rfl (lv_at hl 1 rfl) ?_
      refine lv_ineg hx hb dX7_refuse_21 ?_
      refine lv_topi (fun y_10 ey_10 => ?_)
      obtain rfl : y_10 = (-2) := ey_10.trans (by decide)
      exact W.iret (v := (-2)) hx hb hr (fun t ht hW => ⟨⟨(-2), (), rfl, rfl, zP_nil, zD_nil⟩, hS.F ht⟩) hS.2.2 dX7_refuse_22
set_option maxHeartbeats 4000000 in
set_option maxRecDepth 100000 in
theorem c_refuse_3 (l : Launch) (D : va_G) (cI cJ cZ cP cS : ClassId) (x0 xs j0 k0 w0 rd mv xr : Nat)  (sz : Nat) : Met l yX7_refuse wsX7_refuse ({ frames := 1, cells := 0, slots := 0, locals := 22 }) (va_Pc [.ref x0, .int 3] (zW D (zKT cI cJ cZ cP cS) [(x0, .inr (7, [.ref xs, .ref j0, .ref k0, .ref w0, .ref rd, .ref mv, .ref xr, .int 0, .int (-1)])), (xr, .inl (cI, 8, .inl (fun _ => 0)))] sz)) (va_Qi (fun (r : Int32) (_ : Unit) => r = (-3)) (zB D [(x0, .inr (7, [.ref xs, .ref j0, .ref k0, .ref w0, .ref rd, .ref mv, .ref xr, .int 0, .int (-1)])), (xr, .inl (cI, 8, .inl (fun _ => 0)))] sz (fun (_ : Unit) => ([] : va_W))) (va_A [(x0, .inr (7, [.ref xs, .ref j0, .ref k0, .ref w0, .ref rd, .ref mv, .ref xr, .int 0, .int (-1)])), (xr, .inl (cI, 8, .inl (fun _ => 0)))] sz)) 0 0 (va_A [(x0, .inr (7, [.ref xs, .ref j0, .ref k0, .ref w0, .ref rd, .ref mv, .ref xr, .int 0, .int (-1)])), (xr, .inl (cI, 8, .inl (fun _ => 0)))] sz) := by
  refine Met.ofW (cc := cX7_refuse) (maxL := 2) (ret := (some .int)) (by decide) rfl ?_
  intro p e s m args below meth c s₁ B hml hv
  obtain ⟨rfl, hsz, hP, hK, hD0, hN, hZ⟩ := hv
  have hx := B.exec
  have hb := B.bytes
  have hr := B.returns
  have hts := atoms_spec (ws := wsX7_refuse) B.pre
  have hown : s.vm.findClass RX7 = some m.cls := findClass_of_methodNamed B.named
  have hlocks := B.notSynchronized
  subst hsz
  have hD := hD0.self (sz := s.heap.size)
  have hA : ∀ q : Nat, s.heap.size ≤ q → va_A [(x0, .inr (7, [.ref xs, .ref j0, .ref k0, .ref w0, .ref rd, .ref mv, .ref xr, .int 0, .int (-1)])), (xr, .inl (cI, 8, .inl (fun _ => 0)))] s.heap.size q := fun q h => Or.inr h
  have hS : va_S (va_A [(x0, .inr (7, [.ref xs, .ref j0, .ref k0, .ref w0, .ref rd, .ref mv, .ref xr, .int 0, .int (-1)])), (xr, .inl (cI, 8, .inl (fun _ => 0)))] s.heap.size) s.heap s.heap [] := va_S.rf
  replace hP : va_P D vwCl _ s.heap := hP
  have hl := lv_entry ([.ref x0, .int 3]) (n := 2) (Nat.le_of_ble_eq_true rfl)
  rw [lg_entry_eq]
  generalize (lg_sl ([.ref x0, .int 3]) ++ List.replicate (2 - (lg_sl ([.ref x0, .int 3])).length) Slot.unset).toArray = ls at hl ⊢
  replace hl : lv_has ls 2 [(0, .ref x0), (1, .int 3)] := hl
  refine zw_start (fun H locs hH hL => ?_)
  replace hP : va_P D vwCl [(x0, .inr (7, [.ref xs, .ref j0, .ref k0, .ref w0, .ref rd, .ref mv, .ref xr, .int 0, .int (-1)])), (xr, .inl (cI, 8, .inl (fun _ => 0)))] H := by rw [hH]; exact hP
  replace hS : va_S (va_A [(x0, .inr (7, [.ref xs, .ref j0, .ref k0, .ref w0, .ref rd, .ref mv, .ref xr, .int 0, .int (-1)])), (xr, .inl (cI, 8, .inl (fun _ => 0)))] s.heap.size) s.heap H locs := by rw [hH, hL]; exact hS
  clear hH hL
  refine lv_iload_n hx hb dX7_refuse_0 rfl (lv_at hl 1 rfl) ?_
  refine lv_iconst (v := 1) hx hb dX7_refuse_1 (by decide) ?_
  refine lv_bipush (v := 7) hx hb dX7_refuse_2 (by decide) ?_
  have kc3 : (3 : Int32).toInt = 3 := by decide
  have kc1 : (1 : Int32).toInt = 1 := by decide
  have kc7 : (7 : Int32).toInt = 7 := by decide
  refine zc_S (As := [.int 3, .int 1, .int 7]) (rest := []) ⟨hx, hb, hml, hown, hts⟩ (c_within l D cI cJ cZ cP cS (3) (1) (7) ) (va_cwS 3 hts gX7_refuse_X7_within rfl rfl rfl (by decide +kernel) ⟨Nat.le_of_ble_eq_true rfl, Nat.le_of_ble_eq_true rfl⟩) hK hN (hZ.kept hS) rfl hl.1 rfl (Nat.le_of_ble_eq_true rfl) dX7_refuse_4 ⟨Nat.le_of_ble_eq_true rfl, Nat.le_of_ble_eq_true rfl⟩ (fun r_1 hr_1 => ?_)
  rcases hr_1 with ⟨rfl, g_2⟩ | ⟨rfl, g_3, g_4⟩ | ⟨rfl, g_5, g_6⟩
  · exfalso; omega
  · exfalso; omega
  · refine lv_if_eq (tgt := 20) hx hb dX7_refuse_7 (by decide) (fun c_7 => ?_) (fun c_7 => ?_)
    · exact absurd c_7 (by decide)
    · refine lv_aload_n hx hb dX7_refuse_10 rfl (lv_at hl 0 rfl) ?_
      refine va_get (D := D) (ci := 7) (v := .ref xr) (C := RX7) (T := TX7) (N := 9) hx hb hts hi_X7_refuse_7 hown hK hP 0 rfl rfl 6 (by decide) (hts (.fieldLink RX7 46 "TheLiningsInIt" "refusals" "[I") (List.mem_of_getElem? (i := 1) rfl)) (fun _ h9 => h9) rfl dX7_refuse_11 ?_
      refine lv_iload_n hx hb dX7_refuse_14 rfl (lv_at hl 1 rfl) ?_
      refine lv_dup2_11 hx hb dX7_refuse_15 rfl rfl ?_
      refine va_iald hx hb hK hP 1 0 rfl rfl (zf_in (by decide) (by decide)) dX7_refuse_16 ?_
      refine lv_topi (fun x_8 ex_8 => ?_)
      obtain rfl : x_8 = 0 := ex_8
      refine lv_iconst (v := 1) hx hb dX7_refuse_17 (by decide) ?_
      refine lv_iadd hx hb dX7_refuse_18 ?_
      refine lv_topi (fun y_9 ey_9 => ?_)
      obtain rfl : y_9 = 1 := ey_9.trans (by decide)
      refine va_iast hx hb hK hP hD hS 1 0 rfl rfl (zf_in (by decide) (by decide)) dX7_refuse_19 (fun H locs hP hD hS => ?_)
      replace hP : va_P D vwCl [(x0, .inr (7, [.ref xs, .ref j0, .ref k0, .ref w0, .ref rd, .ref mv, .ref xr, .int 0, .int (-1)])), (xr, .inl (cI, 8, .inl (upd (fun _ => 0) (3 : Int32).toNatClampNeg 1)))] H := hP
      replace hD : va_D _ [(x0, .inr (7, [.ref xs, .ref j0, .ref k0, .ref w0, .ref rd, .ref mv, .ref xr, .int 0, .int (-1)])), (xr, .inl (cI, 8, .inl (upd (fun _ => 0) (3 : Int32).toNatClampNeg 1)))] := hD
      refine lv_iload_n hx hb dX7_refuse_20 rfl (lv_at hl 1 rfl) ?_
      refine lv_ineg hx hb dX7_refuse_21 ?_
      refine lv_topi (fun y_10 ey_10 => ?_)
      obtain rfl : y_10 = (-3) := ey_10.trans (by decide)
      exact W.iret (v := (-3)) hx hb hr (fun t ht hW => ⟨⟨(-3), (), rfl, rfl, zP_nil, zD_nil⟩, hS.F ht⟩) hS.2.2 dX7_refuse_22
set_option maxHeartbeats 4000000 in
set_option maxRecDepth 100000 in
theorem c_refuse_4 (l : Launch) (D : va_G) (cI cJ cZ cP cS : ClassId) (x0 xs j0 k0 w0 rd mv xr : Nat)  (sz : Nat) : Met l yX7_refuse wsX7_refuse ({ frames := 1, cells := 0, slots := 0, locals := 22 }) (va_Pc [.ref x0, .int 4] (zW D (zKT cI cJ cZ cP cS) [(x0, .inr (7, [.ref xs, .ref j0, .ref k0, .ref w0, .ref rd, .ref mv, .ref xr, .int 0, .int (-1)])), (xr, .inl (cI, 8, .inl (fun _ => 0)))] sz)) (va_Qi (fun (r : Int32) (_ : Unit) => r = (-4)) (zB D [(x0, .inr (7, [.ref xs, .ref j0, .ref k0, .ref w0, .ref rd, .ref mv, .ref xr, .int 0, .int (-1)])), (xr, .inl (cI, 8, .inl (fun _ => 0)))] sz (fun (_ : Unit) => ([] : va_W))) (va_A [(x0, .inr (7, [.ref xs, .ref j0, .ref k0, .ref w0, .ref rd, .ref mv, .ref xr, .int 0, .int (-1)])), (xr, .inl (cI, 8, .inl (fun _ => 0)))] sz)) 0 0 (va_A [(x0, .inr (7, [.ref xs, .ref j0, .ref k0, .ref w0, .ref rd, .ref mv, .ref xr, .int 0, .int (-1)])), (xr, .inl (cI, 8, .inl (fun _ => 0)))] sz) := by
  refine Met.ofW (cc := cX7_refuse) (maxL := 2) (ret := (some .int)) (by decide) rfl ?_
  intro p e s m args below meth c s₁ B hml hv
  obtain ⟨rfl, hsz, hP, hK, hD0, hN, hZ⟩ := hv
  have hx := B.exec
  have hb := B.bytes
  have hr := B.returns
  have hts := atoms_spec (ws := wsX7_refuse) B.pre
  have hown : s.vm.findClass RX7 = some m.cls := findClass_of_methodNamed B.named
  have hlocks := B.notSynchronized
  subst hsz
  have hD := hD0.self (sz := s.heap.size)
  have hA : ∀ q : Nat, s.heap.size ≤ q → va_A [(x0, .inr (7, [.ref xs, .ref j0, .ref k0, .ref w0, .ref rd, .ref mv, .ref xr, .int 0, .int (-1)])), (xr, .inl (cI, 8, .inl (fun _ => 0)))] s.heap.size q := fun q h => Or.inr h
  have hS : va_S (va_A [(x0, .inr (7, [.ref xs, .ref j0, .ref k0, .ref w0, .ref rd, .ref mv, .ref xr, .int 0, .int (-1)])), (xr, .inl (cI, 8, .inl (fun _ => 0)))] s.heap.size) s.heap s.heap [] := va_S.rf
  replace hP : va_P D vwCl _ s.heap := hP
  have hl := lv_entry ([.ref x0, .int 4]) (n := 2) (Nat.le_of_ble_eq_true rfl)
  rw [lg_entry_eq]
  generalize (lg_sl ([.ref x0, .int 4]) ++ List.replicate (2 - (lg_sl ([.ref x0, .int 4])).length) Slot.unset).toArray = ls at hl ⊢
  replace hl : lv_has ls 2 [(0, .ref x0), (1, .int 4)] := hl
  refine zw_start (fun H locs hH hL => ?_)
  replace hP : va_P D vwCl [(x0, .inr (7, [.ref xs, .ref j0, .ref k0, .ref w0, .ref rd, .ref mv, .ref xr, .int 0, .int (-1)])), (xr, .inl (cI, 8, .inl (fun _ => 0)))] H := by rw [hH]; exact hP
  replace hS : va_S (va_A [(x0, .inr (7, [.ref xs, .ref j0, .ref k0, .ref w0, .ref rd, .ref mv, .ref xr, .int 0, .int (-1)])), (xr, .inl (cI, 8, .inl (fun _ => 0)))] s.heap.size) s.heap H locs := by rw [hH, hL]; exact hS
  clear hH hL
  refine lv_iload_n hx hb dX7_refuse_0 rfl (lv_at hl 1 rfl) ?_
  refine lv_iconst (v := 1) hx hb dX7_refuse_1 (by decide) ?_
  refine lv_bipush (v := 7) hx hb dX7_refuse_2 (by decide) ?_
  have kc4 : (4 : Int32).toInt = 4 := by decide
  have kc1 : (1 : Int32).toInt = 1 := by decide
  have kc7 : (7 : Int32).toInt = 7 := by decide
  refine zc_S (As := [.int 4, .int 1, .int 7]) (rest := []) ⟨hx, hb, hml, hown, hts⟩ (c_within l D cI cJ cZ cP cS (4) (1) (7) ) (va_cwS 3 hts gX7_refuse_X7_within rfl rfl rfl (by decide +kernel) ⟨Nat.le_of_ble_eq_true rfl, Nat.le_of_ble_eq_true rfl⟩) hK hN (hZ.kept hS) rfl hl.1 rfl (Nat.le_of_ble_eq_true rfl) dX7_refuse_4 ⟨Nat.le_of_ble_eq_true rfl, Nat.le_of_ble_eq_true rfl⟩ (fun r_1 hr_1 => ?_)
  rcases hr_1 with ⟨rfl, g_2⟩ | ⟨rfl, g_3, g_4⟩ | ⟨rfl, g_5, g_6⟩
  · exfalso; omega
  · exfalso; omega
  · refine lv_if_eq (tgt := 20) hx hb dX7_refuse_7 (by decide) (fun c_7 => ?_) (fun c_7 => ?_)
    · exact absurd c_7 (by decide)
    · refine lv_aload_n hx hb dX7_refuse_10 rfl (lv_at hl 0 rfl) ?_
      refine va_get (D := D) (ci := 7) (v := .ref xr) (C := RX7) (T := TX7) (N := 9) hx hb hts hi_X7_refuse_7 hown hK hP 0 rfl rfl 6 (by decide) (hts (.fieldLink RX7 46 "TheLiningsInIt" "refusals" "[I") (List.mem_of_getElem? (i := 1) rfl)) (fun _ h9 => h9) rfl dX7_refuse_11 ?_
      refine lv_iload_n hx hb dX7_refuse_14 rfl (lv_at hl 1 rfl) ?_
      refine lv_dup2_11 hx hb dX7_refuse_15 rfl rfl ?_
      refine va_iald hx hb hK hP 1 0 rfl rfl (zf_in (by decide) (by decide)) dX7_refuse_16 ?_
      refine lv_topi (fun x_8 ex_8 => ?_)
      obtain rfl : x_8 = 0 := ex_8
      refine lv_iconst (v := 1) hx hb dX7_refuse_17 (by decide) ?_
      refine lv_iadd hx hb dX7_refuse_18 ?_
      refine lv_topi (fun y_9 ey_9 => ?_)
      obtain rfl : y_9 = 1 := ey_9.trans (by decide)
      refine va_iast hx hb hK hP hD hS 1 0 rfl rfl (zf_in (by decide) (by decide)) dX7_refuse_19 (fun H locs hP hD hS => ?_)
      replace hP : va_P D vwCl [(x0, .inr (7, [.ref xs, .ref j0, .ref k0, .ref w0, .ref rd, .ref mv, .ref xr, .int 0, .int (-1)])), (xr, .inl (cI, 8, .inl (upd (fun _ => 0) (4 : Int32).toNatClampNeg 1)))] H := hP
      replace hD : va_D _ [(x0, .inr (7, [.ref xs, .ref j0, .ref k0, .ref w0, .ref rd, .ref mv, .ref xr, .int 0, .int (-1)])), (xr, .inl (cI, 8, .inl (upd (fun _ => 0) (4 : Int32).toNatClampNeg 1)))] := hD
      refine lv_iload_n hx hb dX7_refuse_20 rfl (lv_at hl 1 rfl) ?_
      refine lv_ineg hx hb dX7_refuse_21 ?_
      refine lv_topi (fun y_10 ey_10 => ?_)
      obtain rfl : y_10 = (-4) := ey_10.trans (by decide)
      exact W.iret (v := (-4)) hx hb hr (fun t ht hW => ⟨⟨(-4), (), rfl, rfl, zP_nil, zD_nil⟩, hS.F ht⟩) hS.2.2 dX7_refuse_22
set_option maxHeartbeats 4000000 in
set_option maxRecDepth 100000 in
theorem c_refuse_5 (l : Launch) (D : va_G) (cI cJ cZ cP cS : ClassId) (x0 xs j0 k0 w0 rd mv xr : Nat)  (sz : Nat) : Met l yX7_refuse wsX7_refuse ({ frames := 1, cells := 0, slots := 0, locals := 22 }) (va_Pc [.ref x0, .int 5] (zW D (zKT cI cJ cZ cP cS) [(x0, .inr (7, [.ref xs, .ref j0, .ref k0, .ref w0, .ref rd, .ref mv, .ref xr, .int 0, .int (-1)])), (xr, .inl (cI, 8, .inl (fun _ => 0)))] sz)) (va_Qi (fun (r : Int32) (_ : Unit) => r = (-5)) (zB D [(x0, .inr (7, [.ref xs, .ref j0, .ref k0, .ref w0, .ref rd, .ref mv, .ref xr, .int 0, .int (-1)])), (xr, .inl (cI, 8, .inl (fun _ => 0)))] sz (fun (_ : Unit) => ([] : va_W))) (va_A [(x0, .inr (7, [.ref xs, .ref j0, .ref k0, .ref w0, .ref rd, .ref mv, .ref xr, .int 0, .int (-1)])), (xr, .inl (cI, 8, .inl (fun _ => 0)))] sz)) 0 0 (va_A [(x0, .inr (7, [.ref xs, .ref j0, .ref k0, .ref w0, .ref rd, .ref mv, .ref xr, .int 0, .int (-1)])), (xr, .inl (cI, 8, .inl (fun _ => 0)))] sz) := by
  refine Met.ofW (cc := cX7_refuse) (maxL := 2) (ret := (some .int)) (by decide) rfl ?_
  intro p e s m args below meth c s₁ B hml hv
  obtain ⟨rfl, hsz, hP, hK, hD0, hN, hZ⟩ := hv
  have hx := B.exec
  have hb := B.bytes
  have hr := B.returns
  have hts := atoms_spec (ws := wsX7_refuse) B.pre
  have hown : s.vm.findClass RX7 = some m.cls := findClass_of_methodNamed B.named
  have hlocks := B.notSynchronized
  subst hsz
  have hD := hD0.self (sz := s.heap.size)
  have hA : ∀ q : Nat, s.heap.size ≤ q → va_A [(x0, .inr (7, [.ref xs, .ref j0, .ref k0, .ref w0, .ref rd, .ref mv, .ref xr, .int 0, .int (-1)])), (xr, .inl (cI, 8, .inl (fun _ => 0)))] s.heap.size q := fun q h => Or.inr h
  have hS : va_S (va_A [(x0, .inr (7, [.ref xs, .ref j0, .ref k0, .ref w0, .ref rd, .ref mv, .ref xr, .int 0, .int (-1)])), (xr, .inl (cI, 8, .inl (fun _ => 0)))] s.heap.size) s.heap s.heap [] := va_S.rf
  replace hP : va_P D vwCl _ s.heap := hP
  have hl := lv_entry ([.ref x0, .int 5]) (n := 2) (Nat.le_of_ble_eq_true rfl)
  rw [lg_entry_eq]
  generalize (lg_sl ([.ref x0, .int 5]) ++ List.replicate (2 - (lg_sl ([.ref x0, .int 5])).length) Slot.unset).toArray = ls at hl ⊢
  replace hl : lv_has ls 2 [(0, .ref x0), (1, .int 5)] := hl
  refine zw_start (fun H locs hH hL => ?_)
  replace hP : va_P D vwCl [(x0, .inr (7, [.ref xs, .ref j0, .ref k0, .ref w0, .ref rd, .ref mv, .ref xr, .int 0, .int (-1)])), (xr, .inl (cI, 8, .inl (fun _ => 0)))] H := by rw [hH]; exact hP
  replace hS : va_S (va_A [(x0, .inr (7, [.ref xs, .ref j0, .ref k0, .ref w0, .ref rd, .ref mv, .ref xr, .int 0, .int (-1)])), (xr, .inl (cI, 8, .inl (fun _ => 0)))] s.heap.size) s.heap H locs := by rw [hH, hL]; exact hS
  clear hH hL
  refine lv_iload_n hx hb dX7_refuse_0 rfl (lv_at hl 1 rfl) ?_
  refine lv_iconst (v := 1) hx hb dX7_refuse_1 (by decide) ?_
  refine lv_bipush (v := 7) hx hb dX7_refuse_2 (by decide) ?_
  have kc5 : (5 : Int32).toInt = 5 := by decide
  have kc1 : (1 : Int32).toInt = 1 := by decide
  have kc7 : (7 : Int32).toInt = 7 := by decide
  refine zc_S (As := [.int 5, .int 1, .int 7]) (rest := []) ⟨hx, hb, hml, hown, hts⟩ (c_within l D cI cJ cZ cP cS (5) (1) (7) ) (va_cwS 3 hts gX7_refuse_X7_within rfl rfl rfl (by decide +kernel) ⟨Nat.le_of_ble_eq_true rfl, Nat.le_of_ble_eq_true rfl⟩) hK hN (hZ.kept hS) rfl hl.1 rfl (Nat.le_of_ble_eq_true rfl) dX7_refuse_4 ⟨Nat.le_of_ble_eq_true rfl, Nat.le_of_ble_eq_true rfl⟩ (fun r_1 hr_1 => ?_)
  rcases hr_1 with ⟨rfl, g_2⟩ | ⟨rfl, g_3, g_4⟩ | ⟨rfl, g_5, g_6⟩
  · exfalso; omega
  · exfalso; omega
  · refine lv_if_eq (tgt := 20) hx hb dX7_refuse_7 (by decide) (fun c_7 => ?_) (fun c_7 => ?_)
    · exact absurd c_7 (by decide)
    · refine lv_aload_n hx hb dX7_refuse_10 rfl (lv_at hl 0 rfl) ?_
      refine va_get (D := D) (ci := 7) (v := .ref xr) (C := RX7) (T := TX7) (N := 9) hx hb hts hi_X7_refuse_7 hown hK hP 0 rfl rfl 6 (by decide) (hts (.fieldLink RX7 46 "TheLiningsInIt" "refusals" "[I") (List.mem_of_getElem? (i := 1) rfl)) (fun _ h9 => h9) rfl dX7_refuse_11 ?_
      refine lv_iload_n hx hb dX7_refuse_14 rfl (lv_at hl 1 rfl) ?_
      refine lv_dup2_11 hx hb dX7_refuse_15 rfl rfl ?_
      refine va_iald hx hb hK hP 1 0 rfl rfl (zf_in (by decide) (by decide)) dX7_refuse_16 ?_
      refine lv_topi (fun x_8 ex_8 => ?_)
      obtain rfl : x_8 = 0 := ex_8
      refine lv_iconst (v := 1) hx hb dX7_refuse_17 (by decide) ?_
      refine lv_iadd hx hb dX7_refuse_18 ?_
      refine lv_topi (fun y_9 ey_9 => ?_)
      obtain rfl : y_9 = 1 := ey_9.trans (by decide)
      refine va_iast hx hb hK hP hD hS 1 0 rfl rfl (zf_in (by decide) (by decide)) dX7_refuse_19 (fun H locs hP hD hS => ?_)
      replace hP : va_P D vwCl [(x0, .inr (7, [.ref xs, .ref j0, .ref k0, .ref w0, .ref rd, .ref mv, .ref xr, .int 0, .int (-1)])), (xr, .inl (cI, 8, .inl (upd (fun _ => 0) (5 : Int32).toNatClampNeg 1)))] H := hP
      replace hD : va_D _ [(x0, .inr (7, [.ref xs, .ref j0, .ref k0, .ref w0, .ref rd, .ref mv, .ref xr, .int 0, .int (-1)])), (xr, .inl (cI, 8, .inl (upd (fun _ => 0) (5 : Int32).toNatClampNeg 1)))] := hD
      refine lv_iload_n hx hb dX7_refuse_20 rfl (lv_at hl 1 rfl) ?_
      refine lv_ineg hx hb dX7_refuse_21 ?_
      refine lv_topi (fun y_10 ey_10 => ?_)
      obtain rfl : y_10 = (-5) := ey_10.trans (by decide)
      exact W.iret (v := (-5)) hx hb hr (fun t ht hW => ⟨⟨(-5), (), rfl, rfl, zP_nil, zD_nil⟩, hS.F ht⟩) hS.2.2 dX7_refuse_22
set_option maxHeartbeats 4000000 in
set_option maxRecDepth 100000 in
theorem c_refuse_6 (l : Launch) (D : va_G) (cI cJ cZ cP cS : ClassId) (x0 xs j0 k0 w0 rd mv xr : Nat)  (sz : Nat) : Met l yX7_refuse wsX7_refuse ({ frames := 1, cells := 0, slots := 0, locals := 22 }) (va_Pc [.ref x0, .int 6] (zW D (zKT cI cJ cZ cP cS) [(x0, .inr (7, [.ref xs, .ref j0, .ref k0, .ref w0, .ref rd, .ref mv, .ref xr, .int 0, .int (-1)])), (xr, .inl (cI, 8, .inl (fun _ => 0)))] sz)) (va_Qi (fun (r : Int32) (_ : Unit) => r = (-6)) (zB D [(x0, .inr (7, [.ref xs, .ref j0, .ref k0, .ref w0, .ref rd, .ref mv, .ref xr, .int 0, .int (-1)])), (xr, .inl (cI, 8, .inl (fun _ => 0)))] sz (fun (_ : Unit) => ([] : va_W))) (va_A [(x0, .inr (7, [.ref xs, .ref j0, .ref k0, .ref w0, .ref rd, .ref mv, .ref xr, .int 0, .int (-1)])), (xr, .inl (cI, 8, .inl (fun _ => 0)))] sz)) 0 0 (va_A [(x0, .inr (7, [.ref xs, .ref j0, .ref k0, .ref w0, .ref rd, .ref mv, .ref xr, .int 0, .int (-1)])), (xr, .inl (cI, 8, .inl (fun _ => 0)))] sz) := by
  refine Met.ofW (cc := cX7_refuse) (maxL := 2) (ret := (some .int)) (by decide) rfl ?_
  intro p e s m args below meth c s₁ B hml hv
  obtain ⟨rfl, hsz, hP, hK, hD0, hN, hZ⟩ := hv
  have hx := B.exec
  have hb := B.bytes
  have hr := B.returns
  have hts := atoms_spec (ws := wsX7_refuse) B.pre
  have hown : s.vm.findClass RX7 = some m.cls := findClass_of_methodNamed B.named
  have hlocks := B.notSynchronized
  subst hsz
  have hD := hD0.self (sz := s.heap.size)
  have hA : ∀ q : Nat, s.heap.size ≤ q → va_A [(x0, .inr (7, [.ref xs, .ref j0, .ref k0, .ref w0, .ref rd, .ref mv, .ref xr, .int 0, .int (-1)])), (xr, .inl (cI, 8, .inl (fun _ => 0)))] s.heap.size q := fun q h => Or.inr h
  have hS : va_S (va_A [(x0, .inr (7, [.ref xs, .ref j0, .ref k0, .ref w0, .ref rd, .ref mv, .ref xr, .int 0, .int (-1)])), (xr, .inl (cI, 8, .inl (fun _ => 0)))] s.heap.size) s.heap s.heap [] := va_S.rf
  replace hP : va_P D vwCl _ s.heap := hP
  have hl := lv_entry ([.ref x0, .int 6]) (n := 2) (Nat.le_of_ble_eq_true rfl)
  rw [lg_entry_eq]
  generalize (lg_sl ([.ref x0, .int 6]) ++ List.replicate (2 - (lg_sl ([.ref x0, .int 6])).length) Slot.unset).toArray = ls at hl ⊢
  replace hl : lv_has ls 2 [(0, .ref x0), (1, .int 6)] := hl
  refine zw_start (fun H locs hH hL => ?_)
  replace hP : va_P D vwCl [(x0, .inr (7, [.ref xs, .ref j0, .ref k0, .ref w0, .ref rd, .ref mv, .ref xr, .int 0, .int (-1)])), (xr, .inl (cI, 8, .inl (fun _ => 0)))] H := by rw [hH]; exact hP
  replace hS : va_S (va_A [(x0, .inr (7, [.ref xs, .ref j0, .ref k0, .ref w0, .ref rd, .ref mv, .ref xr, .int 0, .int (-1)])), (xr, .inl (cI, 8, .inl (fun _ => 0)))] s.heap.size) s.heap H locs := by rw [hH, hL]; exact hS
  clear hH hL
  refine lv_iload_n hx hb dX7_refuse_0 rfl (lv_at hl 1 rfl) ?_
  refine lv_iconst (v := 1) hx hb dX7_refuse_1 (by decide) ?_
  refine lv_bipush (v := 7) hx hb dX7_refuse_2 (by decide) ?_
  have kc6 : (6 : Int32).toInt = 6 := by decide
  have kc1 : (1 : Int32).toInt = 1 := by decide
  have kc7 : (7 : Int32).toInt = 7 := by decide
  refine zc_S (As := [.int 6, .int 1, .int 7]) (rest := []) ⟨hx, hb, hml, hown, hts⟩ (c_within l D cI cJ cZ cP cS (6) (1) (7) ) (va_cwS 3 hts gX7_refuse_X7_within rfl rfl rfl (by decide +kernel) ⟨Nat.le_of_ble_eq_true rfl, Nat.le_of_ble_eq_true rfl⟩) hK hN (hZ.kept hS) rfl hl.1 rfl (Nat.le_of_ble_eq_true rfl) dX7_refuse_4 ⟨Nat.le_of_ble_eq_true rfl, Nat.le_of_ble_eq_true rfl⟩ (fun r_1 hr_1 => ?_)
  rcases hr_1 with ⟨rfl, g_2⟩ | ⟨rfl, g_3, g_4⟩ | ⟨rfl, g_5, g_6⟩
  · exfalso; omega
  · exfalso; omega
  · refine lv_if_eq (tgt := 20) hx hb dX7_refuse_7 (by decide) (fun c_7 => ?_) (fun c_7 => ?_)
    · exact absurd c_7 (by decide)
    · refine lv_aload_n hx hb dX7_refuse_10 rfl (lv_at hl 0 rfl) ?_
      refine va_get (D := D) (ci := 7) (v := .ref xr) (C := RX7) (T := TX7) (N := 9) hx hb hts hi_X7_refuse_7 hown hK hP 0 rfl rfl 6 (by decide) (hts (.fieldLink RX7 46 "TheLiningsInIt" "refusals" "[I") (List.mem_of_getElem? (i := 1) rfl)) (fun _ h9 => h9) rfl dX7_refuse_11 ?_
      refine lv_iload_n hx hb dX7_refuse_14 rfl (lv_at hl 1 rfl) ?_
      refine lv_dup2_11 hx hb dX7_refuse_15 rfl rfl ?_
      refine va_iald hx hb hK hP 1 0 rfl rfl (zf_in (by decide) (by decide)) dX7_refuse_16 ?_
      refine lv_topi (fun x_8 ex_8 => ?_)
      obtain rfl : x_8 = 0 := ex_8
      refine lv_iconst (v := 1) hx hb dX7_refuse_17 (by decide) ?_
      refine lv_iadd hx hb dX7_refuse_18 ?_
      refine lv_topi (fun y_9 ey_9 => ?_)
      obtain rfl : y_9 = 1 := ey_9.trans (by decide)
      refine va_iast hx hb hK hP hD hS 1 0 rfl rfl (zf_in (by decide) (by decide)) dX7_refuse_19 (fun H locs hP hD hS => ?_)
      replace hP : va_P D vwCl [(x0, .inr (7, [.ref xs, .ref j0, .ref k0, .ref w0, .ref rd, .ref mv, .ref xr, .int 0, .int (-1)])), (xr, .inl (cI, 8, .inl (upd (fun _ => 0) (6 : Int32).toNatClampNeg 1)))] H := hP
      replace hD : va_D _ [(x0, .inr (7, [.ref xs, .ref j0, .ref k0, .ref w0, .ref rd, .ref mv, .ref xr, .int 0, .int (-1)])), (xr, .inl (cI, 8, .inl (upd (fun _ => 0) (6 : Int32).toNatClampNeg 1)))] := hD
      refine lv_iload_n hx hb dX7_refuse_20 rfl (lv_at hl 1 rfl) ?_
      refine lv_ineg hx hb dX7_refuse_21 ?_
      refine lv_topi (fun y_10 ey_10 => ?_)
      obtain rfl : y_10 = (-6) := ey_10.trans (by decide)
      exact W.iret (v := (-6)) hx hb hr (fun t ht hW => ⟨⟨(-6), (), rfl, rfl, zP_nil, zD_nil⟩, hS.F ht⟩) hS.2.2 dX7_refuse_22
set_option maxHeartbeats 4000000 in
set_option maxRecDepth 100000 in
theorem c_refuse_7 (l : Launch) (D : va_G) (cI cJ cZ cP cS : ClassId) (x0 xs j0 k0 w0 rd mv xr : Nat)  (sz : Nat) : Met l yX7_refuse wsX7_refuse ({ frames := 1, cells := 0, slots := 0, locals := 22 }) (va_Pc [.ref x0, .int 7] (zW D (zKT cI cJ cZ cP cS) [(x0, .inr (7, [.ref xs, .ref j0, .ref k0, .ref w0, .ref rd, .ref mv, .ref xr, .int 0, .int (-1)])), (xr, .inl (cI, 8, .inl (fun _ => 0)))] sz)) (va_Qi (fun (r : Int32) (_ : Unit) => r = (-7)) (zB D [(x0, .inr (7, [.ref xs, .ref j0, .ref k0, .ref w0, .ref rd, .ref mv, .ref xr, .int 0, .int (-1)])), (xr, .inl (cI, 8, .inl (fun _ => 0)))] sz (fun (_ : Unit) => ([] : va_W))) (va_A [(x0, .inr (7, [.ref xs, .ref j0, .ref k0, .ref w0, .ref rd, .ref mv, .ref xr, .int 0, .int (-1)])), (xr, .inl (cI, 8, .inl (fun _ => 0)))] sz)) 0 0 (va_A [(x0, .inr (7, [.ref xs, .ref j0, .ref k0, .ref w0, .ref rd, .ref mv, .ref xr, .int 0, .int (-1)])), (xr, .inl (cI, 8, .inl (fun _ => 0)))] sz) := by
  refine Met.ofW (cc := cX7_refuse) (maxL := 2) (ret := (some .int)) (by decide) rfl ?_
  intro p e s m args below meth c s₁ B hml hv
  obtain ⟨rfl, hsz, hP, hK, hD0, hN, hZ⟩ := hv
  have hx := B.exec
  have hb := B.bytes
  have hr := B.returns
  have hts := atoms_spec (ws := wsX7_refuse) B.pre
  have hown : s.vm.findClass RX7 = some m.cls := findClass_of_methodNamed B.named
  have hlocks := B.notSynchronized
  subst hsz
  have hD := hD0.self (sz := s.heap.size)
  have hA : ∀ q : Nat, s.heap.size ≤ q → va_A [(x0, .inr (7, [.ref xs, .ref j0, .ref k0, .ref w0, .ref rd, .ref mv, .ref xr, .int 0, .int (-1)])), (xr, .inl (cI, 8, .inl (fun _ => 0)))] s.heap.size q := fun q h => Or.inr h
  have hS : va_S (va_A [(x0, .inr (7, [.ref xs, .ref j0, .ref k0, .ref w0, .ref rd, .ref mv, .ref xr, .int 0, .int (-1)])), (xr, .inl (cI, 8, .inl (fun _ => 0)))] s.heap.size) s.heap s.heap [] := va_S.rf
  replace hP : va_P D vwCl _ s.heap := hP
  have hl := lv_entry ([.ref x0, .int 7]) (n := 2) (Nat.le_of_ble_eq_true rfl)
  rw [lg_entry_eq]
  generalize (lg_sl ([.ref x0, .int 7]) ++ List.replicate (2 - (lg_sl ([.ref x0, .int 7])).length) Slot.unset).toArray = ls at hl ⊢
  replace hl : lv_has ls 2 [(0, .ref x0), (1, .int 7)] := hl
  refine zw_start (fun H locs hH hL => ?_)
  replace hP : va_P D vwCl [(x0, .inr (7, [.ref xs, .ref j0, .ref k0, .ref w0, .ref rd, .ref mv, .ref xr, .int 0, .int (-1)])), (xr, .inl (cI, 8, .inl (fun _ => 0)))] H := by rw [hH]; exact hP
  replace hS : va_S (va_A [(x0, .inr (7, [.ref xs, .ref j0, .ref k0, .ref w0, .ref rd, .ref mv, .ref xr, .int 0, .int (-1)])), (xr, .inl (cI, 8, .inl (fun _ => 0)))] s.heap.size) s.heap H locs := by rw [hH, hL]; exact hS
  clear hH hL
  refine lv_iload_n hx hb dX7_refuse_0 rfl (lv_at hl 1 rfl) ?_
  refine lv_iconst (v := 1) hx hb dX7_refuse_1 (by decide) ?_
  refine lv_bipush (v := 7) hx hb dX7_refuse_2 (by decide) ?_
  have kc7 : (7 : Int32).toInt = 7 := by decide
  have kc1 : (1 : Int32).toInt = 1 := by decide
  refine zc_S (As := [.int 7, .int 1, .int 7]) (rest := []) ⟨hx, hb, hml, hown, hts⟩ (c_within l D cI cJ cZ cP cS (7) (1) (7) ) (va_cwS 3 hts gX7_refuse_X7_within rfl rfl rfl (by decide +kernel) ⟨Nat.le_of_ble_eq_true rfl, Nat.le_of_ble_eq_true rfl⟩) hK hN (hZ.kept hS) rfl hl.1 rfl (Nat.le_of_ble_eq_true rfl) dX7_refuse_4 ⟨Nat.le_of_ble_eq_true rfl, Nat.le_of_ble_eq_true rfl⟩ (fun r_1 hr_1 => ?_)
  rcases hr_1 with ⟨rfl, g_2⟩ | ⟨rfl, g_3, g_4⟩ | ⟨rfl, g_5, g_6⟩
  · exfalso; omega
  · exfalso; omega
  · refine lv_if_eq (tgt := 20) hx hb dX7_refuse_7 (by decide) (fun c_7 => ?_) (fun c_7 => ?_)
    · exact absurd c_7 (by decide)
    · refine lv_aload_n hx hb dX7_refuse_10 rfl (lv_at hl 0 rfl) ?_
      refine va_get (D := D) (ci := 7) (v := .ref xr) (C := RX7) (T := TX7) (N := 9) hx hb hts hi_X7_refuse_7 hown hK hP 0 rfl rfl 6 (by decide) (hts (.fieldLink RX7 46 "TheLiningsInIt" "refusals" "[I") (List.mem_of_getElem? (i := 1) rfl)) (fun _ h9 => h9) rfl dX7_refuse_11 ?_
      refine lv_iload_n hx hb dX7_refuse_14 rfl (lv_at hl 1 rfl) ?_
      refine lv_dup2_11 hx hb dX7_refuse_15 rfl rfl ?_
      refine va_iald hx hb hK hP 1 0 rfl rfl (zf_in (by decide) (by decide)) dX7_refuse_16 ?_
      refine lv_topi (fun x_8 ex_8 => ?_)
      obtain rfl : x_8 = 0 := ex_8
      refine lv_iconst (v := 1) hx hb dX7_refuse_17 (by decide) ?_
      refine lv_iadd hx hb dX7_refuse_18 ?_
      refine lv_topi (fun y_9 ey_9 => ?_)
      obtain rfl : y_9 = 1 := ey_9.trans (by decide)
      refine va_iast hx hb hK hP hD hS 1 0 rfl rfl (zf_in (by decide) (by decide)) dX7_refuse_19 (fun H locs hP hD hS => ?_)
      replace hP : va_P D vwCl [(x0, .inr (7, [.ref xs, .ref j0, .ref k0, .ref w0, .ref rd, .ref mv, .ref xr, .int 0, .int (-1)])), (xr, .inl (cI, 8, .inl (upd (fun _ => 0) (7 : Int32).toNatClampNeg 1)))] H := hP
      replace hD : va_D _ [(x0, .inr (7, [.ref xs, .ref j0, .ref k0, .ref w0, .ref rd, .ref mv, .ref xr, .int 0, .int (-1)])), (xr, .inl (cI, 8, .inl (upd (fun _ => 0) (7 : Int32).toNatClampNeg 1)))] := hD
      refine lv_iload_n hx hb dX7_refuse_20 rfl (lv_at hl 1 rfl) ?_
      refine lv_ineg hx hb dX7_refuse_21 ?_
      refine lv_topi (fun y_10 ey_10 => ?_)
      obtain rfl : y_10 = (-7) := ey_10.trans (by decide)
      exact W.iret (v := (-7)) hx hb hr (fun t ht hW => ⟨⟨(-7), (), rfl, rfl, zP_nil, zD_nil⟩, hS.F ht⟩) hS.2.2 dX7_refuse_22
set_option maxHeartbeats 4000000 in
set_option maxRecDepth 100000 in
theorem c_refuseLower_1 (l : Launch) (D : va_G) (cI cJ cZ cP cS : ClassId) (x0 xs j0 k0 w0 rd mv xr : Nat)  (sz : Nat) : Met l yX7_refuseLower wsX7_refuseLower ({ frames := 2, cells := 0, slots := 0, locals := 43 }) (va_Pc [.ref x0, .int 1] (zW D (zKT cI cJ cZ cP cS) [(x0, .inr (7, [.ref xs, .ref j0, .ref k0, .ref w0, .ref rd, .ref mv, .ref xr, .int 0, .int (-1)])), (xr, .inl (cI, 8, .inl (fun _ => 0)))] sz)) (va_Qi (fun (r : Int32) (_ : Unit) => r = (-11)) (zB D [(x0, .inr (7, [.ref xs, .ref j0, .ref k0, .ref w0, .ref rd, .ref mv, .ref xr, .int 0, .int (-1)])), (xr, .inl (cI, 8, .inl (fun _ => 0)))] sz (fun (_ : Unit) => ([] : va_W))) (va_A [(x0, .inr (7, [.ref xs, .ref j0, .ref k0, .ref w0, .ref rd, .ref mv, .ref xr, .int 0, .int (-1)])), (xr, .inl (cI, 8, .inl (fun _ => 0)))] sz)) 0 0 (va_A [(x0, .inr (7, [.ref xs, .ref j0, .ref k0, .ref w0, .ref rd, .ref mv, .ref xr, .int 0, .int (-1)])), (xr, .inl (cI, 8, .inl (fun _ => 0)))] sz) := by
  refine Met.ofW (cc := cX7_refuseLower) (maxL := 2) (ret := (some .int)) (by decide) rfl ?_
  intro p e s m args below meth c s₁ B hml hv
  obtain ⟨rfl, hsz, hP, hK, hD0, hN, hZ⟩ := hv
  have hx := B.exec
  have hb := B.bytes
  have hr := B.returns
  have hts := atoms_spec (ws := wsX7_refuseLower) B.pre
  have hown : s.vm.findClass RX7 = some m.cls := findClass_of_methodNamed B.named
  have hlocks := B.notSynchronized
  subst hsz
  have hD := hD0.self (sz := s.heap.size)
  have hA : ∀ q : Nat, s.heap.size ≤ q → va_A [(x0, .inr (7, [.ref xs, .ref j0, .ref k0, .ref w0, .ref rd, .ref mv, .ref xr, .int 0, .int (-1)])), (xr, .inl (cI, 8, .inl (fun _ => 0)))] s.heap.size q := fun q h => Or.inr h
  have hS : va_S (va_A [(x0, .inr (7, [.ref xs, .ref j0, .ref k0, .ref w0, .ref rd, .ref mv, .ref xr, .int 0, .int (-1)])), (xr, .inl (cI, 8, .inl (fun _ => 0)))] s.heap.size) s.heap s.heap [] := va_S.rf
  replace hP : va_P D vwCl _ s.heap := hP
  have hl := lv_entry ([.ref x0, .int 1]) (n := 2) (Nat.le_of_ble_eq_true rfl)
  rw [lg_entry_eq]
  generalize (lg_sl ([.ref x0, .int 1]) ++ List.replicate (2 - (lg_sl ([.ref x0, .int 1])).length) Slot.unset).toArray = ls at hl ⊢
  replace hl : lv_has ls 2 [(0, .ref x0), (1, .int 1)] := hl
  refine zw_start (fun H locs hH hL => ?_)
  replace hP : va_P D vwCl [(x0, .inr (7, [.ref xs, .ref j0, .ref k0, .ref w0, .ref rd, .ref mv, .ref xr, .int 0, .int (-1)])), (xr, .inl (cI, 8, .inl (fun _ => 0)))] H := by rw [hH]; exact hP
  replace hS : va_S (va_A [(x0, .inr (7, [.ref xs, .ref j0, .ref k0, .ref w0, .ref rd, .ref mv, .ref xr, .int 0, .int (-1)])), (xr, .inl (cI, 8, .inl (fun _ => 0)))] s.heap.size) s.heap H locs := by rw [hH, hL]; exact hS
  clear hH hL
  refine lv_aload_n hx hb dX7_refuseLower_0 rfl (lv_at hl 0 rfl) ?_
  refine lv_iload_n hx hb dX7_refuseLower_1 rfl (lv_at hl 1 rfl) ?_
  skip
  refine zw_V (As := [.int 1]) (rest := []) (wr := []) ⟨hx, hb, hml, hown, hts⟩ (c_refuse_1 l D cI cJ cZ cP cS x0 xs j0 k0 w0 rd mv xr  H.size) (cwV 1 hts gX7_refuseLower_X7_refuse rfl rfl rfl (by decide +kernel) ⟨Nat.le_of_ble_eq_true rfl, Nat.le_of_ble_eq_true rfl⟩) hK hN (hZ.kept hS) hP hD hS hA [0, 1] [] rfl rfl (by decide) (by decide) (by decide) (va_recv hK hP (ci := 7) (q0 := 0) rfl rfl) rfl hl.1 rfl (Nat.le_of_ble_eq_true rfl) dX7_refuseLower_2 ⟨Nat.le_of_ble_eq_true rfl, Nat.le_of_ble_eq_true rfl⟩ (fun r_1 u_2 H locs hr_1 hP hD hS => ?_)
  obtain rfl := hr_1
  refine lv_bipush (v := 10) hx hb dX7_refuseLower_5 (by decide) ?_
  refine lv_isub hx hb dX7_refuseLower_7 ?_
  refine lv_topi (fun y_3 ey_3 => ?_)
  obtain rfl : y_3 = (-11) := ey_3.trans (by decide)
  exact W.iret (v := (-11)) hx hb hr (fun t ht hW => ⟨⟨(-11), (), rfl, rfl, zP_nil, zD_nil⟩, hS.F ht⟩) hS.2.2 dX7_refuseLower_8
set_option maxHeartbeats 4000000 in
set_option maxRecDepth 100000 in
theorem c_refuseLower_3 (l : Launch) (D : va_G) (cI cJ cZ cP cS : ClassId) (x0 xs j0 k0 w0 rd mv xr : Nat)  (sz : Nat) : Met l yX7_refuseLower wsX7_refuseLower ({ frames := 2, cells := 0, slots := 0, locals := 43 }) (va_Pc [.ref x0, .int 3] (zW D (zKT cI cJ cZ cP cS) [(x0, .inr (7, [.ref xs, .ref j0, .ref k0, .ref w0, .ref rd, .ref mv, .ref xr, .int 0, .int (-1)])), (xr, .inl (cI, 8, .inl (fun _ => 0)))] sz)) (va_Qi (fun (r : Int32) (_ : Unit) => r = (-13)) (zB D [(x0, .inr (7, [.ref xs, .ref j0, .ref k0, .ref w0, .ref rd, .ref mv, .ref xr, .int 0, .int (-1)])), (xr, .inl (cI, 8, .inl (fun _ => 0)))] sz (fun (_ : Unit) => ([] : va_W))) (va_A [(x0, .inr (7, [.ref xs, .ref j0, .ref k0, .ref w0, .ref rd, .ref mv, .ref xr, .int 0, .int (-1)])), (xr, .inl (cI, 8, .inl (fun _ => 0)))] sz)) 0 0 (va_A [(x0, .inr (7, [.ref xs, .ref j0, .ref k0, .ref w0, .ref rd, .ref mv, .ref xr, .int 0, .int (-1)])), (xr, .inl (cI, 8, .inl (fun _ => 0)))] sz) := by
  refine Met.ofW (cc := cX7_refuseLower) (maxL := 2) (ret := (some .int)) (by decide) rfl ?_
  intro p e s m args below meth c s₁ B hml hv
  obtain ⟨rfl, hsz, hP, hK, hD0, hN, hZ⟩ := hv
  have hx := B.exec
  have hb := B.bytes
  have hr := B.returns
  have hts := atoms_spec (ws := wsX7_refuseLower) B.pre
  have hown : s.vm.findClass RX7 = some m.cls := findClass_of_methodNamed B.named
  have hlocks := B.notSynchronized
  subst hsz
  have hD := hD0.self (sz := s.heap.size)
  have hA : ∀ q : Nat, s.heap.size ≤ q → va_A [(x0, .inr (7, [.ref xs, .ref j0, .ref k0, .ref w0, .ref rd, .ref mv, .ref xr, .int 0, .int (-1)])), (xr, .inl (cI, 8, .inl (fun _ => 0)))] s.heap.size q := fun q h => Or.inr h
  have hS : va_S (va_A [(x0, .inr (7, [.ref xs, .ref j0, .ref k0, .ref w0, .ref rd, .ref mv, .ref xr, .int 0, .int (-1)])), (xr, .inl (cI, 8, .inl (fun _ => 0)))] s.heap.size) s.heap s.heap [] := va_S.rf
  replace hP : va_P D vwCl _ s.heap := hP
  have hl := lv_entry ([.ref x0, .int 3]) (n := 2) (Nat.le_of_ble_eq_true rfl)
  rw [lg_entry_eq]
  generalize (lg_sl ([.ref x0, .int 3]) ++ List.replicate (2 - (lg_sl ([.ref x0, .int 3])).length) Slot.unset).toArray = ls at hl ⊢
  replace hl : lv_has ls 2 [(0, .ref x0), (1, .int 3)] := hl
  refine zw_start (fun H locs hH hL => ?_)
  replace hP : va_P D vwCl [(x0, .inr (7, [.ref xs, .ref j0, .ref k0, .ref w0, .ref rd, .ref mv, .ref xr, .int 0, .int (-1)])), (xr, .inl (cI, 8, .inl (fun _ => 0)))] H := by rw [hH]; exact hP
  replace hS : va_S (va_A [(x0, .inr (7, [.ref xs, .ref j0, .ref k0, .ref w0, .ref rd, .ref mv, .ref xr, .int 0, .int (-1)])), (xr, .inl (cI, 8, .inl (fun _ => 0)))] s.heap.size) s.heap H locs := by rw [hH, hL]; exact hS
  clear hH hL
  refine lv_aload_n hx hb dX7_refuseLower_0 rfl (lv_at hl 0 rfl) ?_
  refine lv_iload_n hx hb dX7_refuseLower_1 rfl (lv_at hl 1 rfl) ?_
  skip
  refine zw_V (As := [.int 3]) (rest := []) (wr := []) ⟨hx, hb, hml, hown, hts⟩ (c_refuse_3 l D cI cJ cZ cP cS x0 xs j0 k0 w0 rd mv xr  H.size) (cwV 1 hts gX7_refuseLower_X7_refuse rfl rfl rfl (by decide +kernel) ⟨Nat.le_of_ble_eq_true rfl, Nat.le_of_ble_eq_true rfl⟩) hK hN (hZ.kept hS) hP hD hS hA [0, 1] [] rfl rfl (by decide) (by decide) (by decide) (va_recv hK hP (ci := 7) (q0 := 0) rfl rfl) rfl hl.1 rfl (Nat.le_of_ble_eq_true rfl) dX7_refuseLower_2 ⟨Nat.le_of_ble_eq_true rfl, Nat.le_of_ble_eq_true rfl⟩ (fun r_1 u_2 H locs hr_1 hP hD hS => ?_)
  obtain rfl := hr_1
  refine lv_bipush (v := 10) hx hb dX7_refuseLower_5 (by decide) ?_
  refine lv_isub hx hb dX7_refuseLower_7 ?_
  refine lv_topi (fun y_3 ey_3 => ?_)
  obtain rfl : y_3 = (-13) := ey_3.trans (by decide)
  exact W.iret (v := (-13)) hx hb hr (fun t ht hW => ⟨⟨(-13), (), rfl, rfl, zP_nil, zD_nil⟩, hS.F ht⟩) hS.2.2 dX7_refuseLower_8
set_option maxHeartbeats 4000000 in
set_option maxRecDepth 100000 in
theorem c_refuseLower_5 (l : Launch) (D : va_G) (cI cJ cZ cP cS : ClassId) (x0 xs j0 k0 w0 rd mv xr : Nat)  (sz : Nat) : Met l yX7_refuseLower wsX7_refuseLower ({ frames := 2, cells := 0, slots := 0, locals := 43 }) (va_Pc [.ref x0, .int 5] (zW D (zKT cI cJ cZ cP cS) [(x0, .inr (7, [.ref xs, .ref j0, .ref k0, .ref w0, .ref rd, .ref mv, .ref xr, .int 0, .int (-1)])), (xr, .inl (cI, 8, .inl (fun _ => 0)))] sz)) (va_Qi (fun (r : Int32) (_ : Unit) => r = (-15)) (zB D [(x0, .inr (7, [.ref xs, .ref j0, .ref k0, .ref w0, .ref rd, .ref mv, .ref xr, .int 0, .int (-1)])), (xr, .inl (cI, 8, .inl (fun _ => 0)))] sz (fun (_ : Unit) => ([] : va_W))) (va_A [(x0, .inr (7, [.ref xs, .ref j0, .ref k0, .ref w0, .ref rd, .ref mv, .ref xr, .int 0, .int (-1)])), (xr, .inl (cI, 8, .inl (fun _ => 0)))] sz)) 0 0 (va_A [(x0, .inr (7, [.ref xs, .ref j0, .ref k0, .ref w0, .ref rd, .ref mv, .ref xr, .int 0, .int (-1)])), (xr, .inl (cI, 8, .inl (fun _ => 0)))] sz) := by
  refine Met.ofW (cc := cX7_refuseLower) (maxL := 2) (ret := (some .int)) (by decide) rfl ?_
  intro p e s m args below meth c s₁ B hml hv
  obtain ⟨rfl, hsz, hP, hK, hD0, hN, hZ⟩ := hv
  have hx := B.exec
  have hb := B.bytes
  have hr := B.returns
  have hts := atoms_spec (ws := wsX7_refuseLower) B.pre
  have hown : s.vm.findClass RX7 = some m.cls := findClass_of_methodNamed B.named
  have hlocks := B.notSynchronized
  subst hsz
  have hD := hD0.self (sz := s.heap.size)
  have hA : ∀ q : Nat, s.heap.size ≤ q → va_A [(x0, .inr (7, [.ref xs, .ref j0, .ref k0, .ref w0, .ref rd, .ref mv, .ref xr, .int 0, .int (-1)])), (xr, .inl (cI, 8, .inl (fun _ => 0)))] s.heap.size q := fun q h => Or.inr h
  have hS : va_S (va_A [(x0, .inr (7, [.ref xs, .ref j0, .ref k0, .ref w0, .ref rd, .ref mv, .ref xr, .int 0, .int (-1)])), (xr, .inl (cI, 8, .inl (fun _ => 0)))] s.heap.size) s.heap s.heap [] := va_S.rf
  replace hP : va_P D vwCl _ s.heap := hP
  have hl := lv_entry ([.ref x0, .int 5]) (n := 2) (Nat.le_of_ble_eq_true rfl)
  rw [lg_entry_eq]
  generalize (lg_sl ([.ref x0, .int 5]) ++ List.replicate (2 - (lg_sl ([.ref x0, .int 5])).length) Slot.unset).toArray = ls at hl ⊢
  replace hl : lv_has ls 2 [(0, .ref x0), (1, .int 5)] := hl
  refine zw_start (fun H locs hH hL => ?_)
  replace hP : va_P D vwCl [(x0, .inr (7, [.ref xs, .ref j0, .ref k0, .ref w0, .ref rd, .ref mv, .ref xr, .int 0, .int (-1)])), (xr, .inl (cI, 8, .inl (fun _ => 0)))] H := by rw [hH]; exact hP
  replace hS : va_S (va_A [(x0, .inr (7, [.ref xs, .ref j0, .ref k0, .ref w0, .ref rd, .ref mv, .ref xr, .int 0, .int (-1)])), (xr, .inl (cI, 8, .inl (fun _ => 0)))] s.heap.size) s.heap H locs := by rw [hH, hL]; exact hS
  clear hH hL
  refine lv_aload_n hx hb dX7_refuseLower_0 rfl (lv_at hl 0 rfl) ?_
  refine lv_iload_n hx hb dX7_refuseLower_1 rfl (lv_at hl 1 rfl) ?_
  skip
  refine zw_V (As := [.int 5]) (rest := []) (wr := []) ⟨hx, hb, hml, hown, hts⟩ (c_refuse_5 l D cI cJ cZ cP cS x0 xs j0 k0 w0 rd mv xr  H.size) (cwV 1 hts gX7_refuseLower_X7_refuse rfl rfl rfl (by decide +kernel) ⟨Nat.le_of_ble_eq_true rfl, Nat.le_of_ble_eq_true rfl⟩) hK hN (hZ.kept hS) hP hD hS hA [0, 1] [] rfl rfl (by decide) (by decide) (by decide) (va_recv hK hP (ci := 7) (q0 := 0) rfl rfl) rfl hl.1 rfl (Nat.le_of_ble_eq_true rfl) dX7_refuseLower_2 ⟨Nat.le_of_ble_eq_true rfl, Nat.le_of_ble_eq_true rfl⟩ (fun r_1 u_2 H locs hr_1 hP hD hS => ?_)
  obtain rfl := hr_1
  refine lv_bipush (v := 10) hx hb dX7_refuseLower_5 (by decide) ?_
  refine lv_isub hx hb dX7_refuseLower_7 ?_
  refine lv_topi (fun y_3 ey_3 => ?_)
  obtain rfl : y_3 = (-15) := ey_3.trans (by decide)
  exact W.iret (v := (-15)) hx hb hr (fun t ht hW => ⟨⟨(-15), (), rfl, rfl, zP_nil, zD_nil⟩, hS.F ht⟩) hS.2.2 dX7_refuseLower_8
set_option maxHeartbeats 4000000 in
set_option maxRecDepth 100000 in
theorem c_refuseLower_6 (l : Launch) (D : va_G) (cI cJ cZ cP cS : ClassId) (x0 xs j0 k0 w0 rd mv xr : Nat)  (sz : Nat) : Met l yX7_refuseLower wsX7_refuseLower ({ frames := 2, cells := 0, slots := 0, locals := 43 }) (va_Pc [.ref x0, .int 6] (zW D (zKT cI cJ cZ cP cS) [(x0, .inr (7, [.ref xs, .ref j0, .ref k0, .ref w0, .ref rd, .ref mv, .ref xr, .int 0, .int (-1)])), (xr, .inl (cI, 8, .inl (fun _ => 0)))] sz)) (va_Qi (fun (r : Int32) (_ : Unit) => r = (-16)) (zB D [(x0, .inr (7, [.ref xs, .ref j0, .ref k0, .ref w0, .ref rd, .ref mv, .ref xr, .int 0, .int (-1)])), (xr, .inl (cI, 8, .inl (fun _ => 0)))] sz (fun (_ : Unit) => ([] : va_W))) (va_A [(x0, .inr (7, [.ref xs, .ref j0, .ref k0, .ref w0, .ref rd, .ref mv, .ref xr, .int 0, .int (-1)])), (xr, .inl (cI, 8, .inl (fun _ => 0)))] sz)) 0 0 (va_A [(x0, .inr (7, [.ref xs, .ref j0, .ref k0, .ref w0, .ref rd, .ref mv, .ref xr, .int 0, .int (-1)])), (xr, .inl (cI, 8, .inl (fun _ => 0)))] sz) := by
  refine Met.ofW (cc := cX7_refuseLower) (maxL := 2) (ret := (some .int)) (by decide) rfl ?_
  intro p e s m args below meth c s₁ B hml hv
  obtain ⟨rfl, hsz, hP, hK, hD0, hN, hZ⟩ := hv
  have hx := B.exec
  have hb := B.bytes
  have hr := B.returns
  have hts := atoms_spec (ws := wsX7_refuseLower) B.pre
  have hown : s.vm.findClass RX7 = some m.cls := findClass_of_methodNamed B.named
  have hlocks := B.notSynchronized
  subst hsz
  have hD := hD0.self (sz := s.heap.size)
  have hA : ∀ q : Nat, s.heap.size ≤ q → va_A [(x0, .inr (7, [.ref xs, .ref j0, .ref k0, .ref w0, .ref rd, .ref mv, .ref xr, .int 0, .int (-1)])), (xr, .inl (cI, 8, .inl (fun _ => 0)))] s.heap.size q := fun q h => Or.inr h
  have hS : va_S (va_A [(x0, .inr (7, [.ref xs, .ref j0, .ref k0, .ref w0, .ref rd, .ref mv, .ref xr, .int 0, .int (-1)])), (xr, .inl (cI, 8, .inl (fun _ => 0)))] s.heap.size) s.heap s.heap [] := va_S.rf
  replace hP : va_P D vwCl _ s.heap := hP
  have hl := lv_entry ([.ref x0, .int 6]) (n := 2) (Nat.le_of_ble_eq_true rfl)
  rw [lg_entry_eq]
  generalize (lg_sl ([.ref x0, .int 6]) ++ List.replicate (2 - (lg_sl ([.ref x0, .int 6])).length) Slot.unset).toArray = ls at hl ⊢
  replace hl : lv_has ls 2 [(0, .ref x0), (1, .int 6)] := hl
  refine zw_start (fun H locs hH hL => ?_)
  replace hP : va_P D vwCl [(x0, .inr (7, [.ref xs, .ref j0, .ref k0, .ref w0, .ref rd, .ref mv, .ref xr, .int 0, .int (-1)])), (xr, .inl (cI, 8, .inl (fun _ => 0)))] H := by rw [hH]; exact hP
  replace hS : va_S (va_A [(x0, .inr (7, [.ref xs, .ref j0, .ref k0, .ref w0, .ref rd, .ref mv, .ref xr, .int 0, .int (-1)])), (xr, .inl (cI, 8, .inl (fun _ => 0)))] s.heap.size) s.heap H locs := by rw [hH, hL]; exact hS
  clear hH hL
  refine lv_aload_n hx hb dX7_refuseLower_0 rfl (lv_at hl 0 rfl) ?_
  refine lv_iload_n hx hb dX7_refuseLower_1 rfl (lv_at hl 1 rfl) ?_
  skip
  refine zw_V (As := [.int 6]) (rest := []) (wr := []) ⟨hx, hb, hml, hown, hts⟩ (c_refuse_6 l D cI cJ cZ cP cS x0 xs j0 k0 w0 rd mv xr  H.size) (cwV 1 hts gX7_refuseLower_X7_refuse rfl rfl rfl (by decide +kernel) ⟨Nat.le_of_ble_eq_true rfl, Nat.le_of_ble_eq_true rfl⟩) hK hN (hZ.kept hS) hP hD hS hA [0, 1] [] rfl rfl (by decide) (by decide) (by decide) (va_recv hK hP (ci := 7) (q0 := 0) rfl rfl) rfl hl.1 rfl (Nat.le_of_ble_eq_true rfl) dX7_refuseLower_2 ⟨Nat.le_of_ble_eq_true rfl, Nat.le_of_ble_eq_true rfl⟩ (fun r_1 u_2 H locs hr_1 hP hD hS => ?_)
  obtain rfl := hr_1
  refine lv_bipush (v := 10) hx hb dX7_refuseLower_5 (by decide) ?_
  refine lv_isub hx hb dX7_refuseLower_7 ?_
  refine lv_topi (fun y_3 ey_3 => ?_)
  obtain rfl : y_3 = (-16) := ey_3.trans (by decide)
  exact W.iret (v := (-16)) hx hb hr (fun t ht hW => ⟨⟨(-16), (), rfl, rfl, zP_nil, zD_nil⟩, hS.F ht⟩) hS.2.2 dX7_refuseLower_8
theorem hi_X7_shelfAt_7 : ∀ w ∈ u_ws RX7 TX7 9, w ∈ wsX7_shelfAt := by decide +kernel
set_option maxHeartbeats 4000000 in
set_option maxRecDepth 100000 in
theorem c_shelfAt (l : Launch) (D : va_G) (cI cJ cZ cP cS : ClassId) (x0 xs j0 k0 w0 rd mv xr : Nat) (fs : Nat → Option Nat) (s_ : Int32)  : Met l yX7_shelfAt wsX7_shelfAt ({ frames := 1, cells := 0, slots := 0, locals := 22 }) (va_Pc [.ref x0, .int s_] (zR D (zKT cI cJ cZ cP cS) [(x0, .inr (7, [.ref xs, .ref j0, .ref k0, .ref w0, .ref rd, .ref mv, .ref xr, .int 0, .int (-1)])), (xs, .inl (cS, 8, .inr (.inr (.inr (.inr fs)))))])) (va_Sq (fun r => (r = none ∧ s_.toInt < 0) ∨ (r = none ∧ 0 ≤ s_.toInt ∧ 7 < s_.toInt) ∨ (r = (fs s_.toNatClampNeg) ∧ 0 ≤ s_.toInt ∧ s_.toInt ≤ 7))) 0 0 (fun _ => False) := by
  refine Met.ofW (cc := cX7_shelfAt) (maxL := 2) (ret := (some (.object "TheLiningsInIt$Shelf"))) (by decide) rfl ?_
  intro p e s m args below meth c s₁ B hml hv
  obtain ⟨rfl, hP, hK, hN, hZ⟩ := hv
  have hx := B.exec
  have hb := B.bytes
  have hr := B.returns
  have hts := atoms_spec (ws := wsX7_shelfAt) B.pre
  have hown : s.vm.findClass RX7 = some m.cls := findClass_of_methodNamed B.named
  have hlocks := B.notSynchronized
  have hl := lv_entry ([.ref x0, .int s_]) (n := 2) (Nat.le_of_ble_eq_true rfl)
  rw [lg_entry_eq]
  generalize (lg_sl ([.ref x0, .int s_]) ++ List.replicate (2 - (lg_sl ([.ref x0, .int s_])).length) Slot.unset).toArray = ls at hl ⊢
  replace hl : lv_has ls 2 [(0, .ref x0), (1, .int s_)] := hl
  refine lv_iload_n hx hb dX7_shelfAt_0 rfl (lv_at hl 1 rfl) ?_
  refine lv_iconst (v := 0) hx hb dX7_shelfAt_1 (by decide) ?_
  refine lv_bipush (v := 7) hx hb dX7_shelfAt_2 (by decide) ?_
  have kc0 : (0 : Int32).toInt = 0 := by decide
  have kc7 : (7 : Int32).toInt = 7 := by decide
  refine zc_S (As := [.int s_, .int 0, .int 7]) (rest := []) ⟨hx, hb, hml, hown, hts⟩ (c_within l D cI cJ cZ cP cS (s_) (0) (7) ) (va_cwS 3 hts gX7_shelfAt_X7_within rfl rfl rfl (by decide +kernel) ⟨Nat.le_of_ble_eq_true rfl, Nat.le_of_ble_eq_true rfl⟩) hK hN hZ rfl hl.1 rfl (Nat.le_of_ble_eq_true rfl) dX7_shelfAt_4 ⟨Nat.le_of_ble_eq_true rfl, Nat.le_of_ble_eq_true rfl⟩ (fun r_1 hr_1 => ?_)
  rcases hr_1 with ⟨rfl, g_2⟩ | ⟨rfl, g_3, g_4⟩ | ⟨rfl, g_5, g_6⟩
  · refine lv_if_eq (tgt := 19) hx hb dX7_shelfAt_7 (by decide) (fun c_7 => ?_) (fun c_7 => ?_)
    · refine lv_null hx hb dX7_shelfAt_19 ?_
      exact W.aret (v := .null) hx hb hr (Or.inl ⟨_, rfl⟩) (Or.inl rfl) (fun t ht hW => ⟨none, rfl, Or.inl (⟨rfl, (by first | omega | decide)⟩), ht⟩) (fun q hq => by cases hq) dX7_shelfAt_20
    · exact absurd c_7 (by decide)
  · refine lv_if_eq (tgt := 19) hx hb dX7_shelfAt_7 (by decide) (fun c_8 => ?_) (fun c_8 => ?_)
    · refine lv_null hx hb dX7_shelfAt_19 ?_
      exact W.aret (v := .null) hx hb hr (Or.inl ⟨_, rfl⟩) (Or.inl rfl) (fun t ht hW => ⟨none, rfl, Or.inr (Or.inl (⟨rfl, (by first | omega | decide), (by first | omega | decide)⟩)), ht⟩) (fun q hq => by cases hq) dX7_shelfAt_20
    · exact absurd c_8 (by decide)
  · refine lv_if_eq (tgt := 19) hx hb dX7_shelfAt_7 (by decide) (fun c_9 => ?_) (fun c_9 => ?_)
    · exact absurd c_9 (by decide)
    · refine lv_aload_n hx hb dX7_shelfAt_10 rfl (lv_at hl 0 rfl) ?_
      refine va_get (D := D) (ci := 7) (v := .ref xs) (C := RX7) (T := TX7) (N := 9) hx hb hts hi_X7_shelfAt_7 hown hK hP 0 rfl rfl 0 (by decide) (hts (.fieldLink RX7 11 "TheLiningsInIt" "shelves" "[LTheLiningsInIt$Shelf;") (List.mem_of_getElem? (i := 1) rfl)) (fun _ h9 => h9) rfl dX7_shelfAt_11 ?_
      refine lv_iload_n hx hb dX7_shelfAt_14 rfl (lv_at hl 1 rfl) ?_
      refine va_aldq hx hb hK hP 1 4 rfl rfl (zf_in (by omega) (by omega)) dX7_shelfAt_15 ?_
      refine lv_goto (tgt := 20) hx hb dX7_shelfAt_16 (by decide) ?_
      exact W.aret (v := va_rf (fs s_.toNatClampNeg)) hx hb hr (Or.inl ⟨_, rfl⟩) (va_rf_or _) (fun t ht hW => ⟨(fs s_.toNatClampNeg), rfl, Or.inr (Or.inr (⟨rfl, (by first | omega | decide), (by first | omega | decide)⟩)), ht⟩) (fun q hq => by cases hq) dX7_shelfAt_20
set_option maxHeartbeats 4000000 in
set_option maxRecDepth 100000 in
theorem c_row (l : Launch) (D : va_G) (cI cJ cZ cP cS : ClassId) (x0 xs j0 k0 w0 rd mv xr : Nat)(sh el : Nat → Nat) (s_ o n : Int32)  (sz : Nat) : Met l yX7_row wsX7_row ({ frames := 2, cells := 0, slots := 0, locals := 46 }) (va_Pc [.ref x0, .int s_, .int o, .int n] (zW D (zKT cI cJ cZ cP cS) [(x0, .inr (7, [.ref xs, .ref j0, .ref k0, .ref w0, .ref rd, .ref mv, .ref xr, .int 0, .int (-1)])), (xr, .inl (cI, 8, .inl (fun _ => 0))), (xs, .inl (cS, 8, .inr (.inr (.inr (.inr (zS sh)))))), ((sh 0), .inr (4, [.ref (el 0), .int (-1), .int 0])), ((sh 1), .inr (4, [.ref (el 1), .int (-1), .int 0])), ((sh 2), .inr (4, [.ref (el 2), .int (-1), .int 0])), ((sh 3), .inr (4, [.ref (el 3), .int (-1), .int 0])), ((sh 4), .inr (4, [.ref (el 4), .int (-1), .int 0])), ((sh 5), .inr (4, [.ref (el 5), .int (-1), .int 0])), ((sh 6), .inr (4, [.ref (el 6), .int (-1), .int 0])), ((sh 7), .inr (4, [.ref (el 7), .int (-1), .int 0])), ((el 0), .inl (cJ, 160, .inr (.inl (fun _ => 0)))), ((el 1), .inl (cJ, 160, .inr (.inl (fun _ => 0)))), ((el 2), .inl (cJ, 160, .inr (.inl (fun _ => 0)))), ((el 3), .inl (cJ, 160, .inr (.inl (fun _ => 0)))), ((el 4), .inl (cJ, 160, .inr (.inl (fun _ => 0)))), ((el 5), .inl (cJ, 160, .inr (.inl (fun _ => 0)))), ((el 6), .inl (cJ, 160, .inr (.inl (fun _ => 0)))), ((el 7), .inl (cJ, 160, .inr (.inl (fun _ => 0))))] sz)) (va_Qi (fun (r : Int32) (_ : Unit) => (r = (-1) ∧ s_.toInt < 0) ∨ (r = (-1) ∧ 0 ≤ s_.toInt ∧ 7 < s_.toInt) ∨ (r = (-6) ∧ 0 ≤ s_.toInt ∧ s_.toInt ≤ 7 ∧ 0 ≤ n.toInt ∧ o.toInt < 0) ∨ (r = (-6) ∧ 0 ≤ s_.toInt ∧ s_.toInt ≤ 7 ∧ 0 ≤ n.toInt ∧ 0 ≤ o.toInt ∧ 3 < o.toInt) ∨ (r = 1 ∧ 0 ≤ s_.toInt ∧ s_.toInt ≤ 7 ∧ 0 ≤ n.toInt ∧ 0 ≤ o.toInt ∧ o.toInt ≤ 3 ∧ n.toInt ≤ 160) ∨ (r = (-7) ∧ 0 ≤ s_.toInt ∧ s_.toInt ≤ 7 ∧ 0 ≤ n.toInt ∧ 0 ≤ o.toInt ∧ o.toInt ≤ 3 ∧ 160 < n.toInt) ∨ (r = (-4) ∧ 0 ≤ s_.toInt ∧ s_.toInt ≤ 7 ∧ n.toInt < 0)) (zB D [(x0, .inr (7, [.ref xs, .ref j0, .ref k0, .ref w0, .ref rd, .ref mv, .ref xr, .int 0, .int (-1)])), (xr, .inl (cI, 8, .inl (fun _ => 0))), (xs, .inl (cS, 8, .inr (.inr (.inr (.inr (zS sh)))))), ((sh 0), .inr (4, [.ref (el 0), .int (-1), .int 0])), ((sh 1), .inr (4, [.ref (el 1), .int (-1), .int 0])), ((sh 2), .inr (4, [.ref (el 2), .int (-1), .int 0])), ((sh 3), .inr (4, [.ref (el 3), .int (-1), .int 0])), ((sh 4), .inr (4, [.ref (el 4), .int (-1), .int 0])), ((sh 5), .inr (4, [.ref (el 5), .int (-1), .int 0])), ((sh 6), .inr (4, [.ref (el 6), .int (-1), .int 0])), ((sh 7), .inr (4, [.ref (el 7), .int (-1), .int 0])), ((el 0), .inl (cJ, 160, .inr (.inl (fun _ => 0)))), ((el 1), .inl (cJ, 160, .inr (.inl (fun _ => 0)))), ((el 2), .inl (cJ, 160, .inr (.inl (fun _ => 0)))), ((el 3), .inl (cJ, 160, .inr (.inl (fun _ => 0)))), ((el 4), .inl (cJ, 160, .inr (.inl (fun _ => 0)))), ((el 5), .inl (cJ, 160, .inr (.inl (fun _ => 0)))), ((el 6), .inl (cJ, 160, .inr (.inl (fun _ => 0)))), ((el 7), .inl (cJ, 160, .inr (.inl (fun _ => 0))))] sz (fun (_ : Unit) => ([] : va_W))) (va_A [(x0, .inr (7, [.ref xs, .ref j0, .ref k0, .ref w0, .ref rd, .ref mv, .ref xr, .int 0, .int (-1)])), (xr, .inl (cI, 8, .inl (fun _ => 0))), (xs, .inl (cS, 8, .inr (.inr (.inr (.inr (zS sh)))))), ((sh 0), .inr (4, [.ref (el 0), .int (-1), .int 0])), ((sh 1), .inr (4, [.ref (el 1), .int (-1), .int 0])), ((sh 2), .inr (4, [.ref (el 2), .int (-1), .int 0])), ((sh 3), .inr (4, [.ref (el 3), .int (-1), .int 0])), ((sh 4), .inr (4, [.ref (el 4), .int (-1), .int 0])), ((sh 5), .inr (4, [.ref (el 5), .int (-1), .int 0])), ((sh 6), .inr (4, [.ref (el 6), .int (-1), .int 0])), ((sh 7), .inr (4, [.ref (el 7), .int (-1), .int 0])), ((el 0), .inl (cJ, 160, .inr (.inl (fun _ => 0)))), ((el 1), .inl (cJ, 160, .inr (.inl (fun _ => 0)))), ((el 2), .inl (cJ, 160, .inr (.inl (fun _ => 0)))), ((el 3), .inl (cJ, 160, .inr (.inl (fun _ => 0)))), ((el 4), .inl (cJ, 160, .inr (.inl (fun _ => 0)))), ((el 5), .inl (cJ, 160, .inr (.inl (fun _ => 0)))), ((el 6), .inl (cJ, 160, .inr (.inl (fun _ => 0)))), ((el 7), .inl (cJ, 160, .inr (.inl (fun _ => 0))))] sz)) 0 0 (va_A [(x0, .inr (7, [.ref xs, .ref j0, .ref k0, .ref w0, .ref rd, .ref mv, .ref xr, .int 0, .int (-1)])), (xr, .inl (cI, 8, .inl (fun _ => 0))), (xs, .inl (cS, 8, .inr (.inr (.inr (.inr (zS sh)))))), ((sh 0), .inr (4, [.ref (el 0), .int (-1), .int 0])), ((sh 1), .inr (4, [.ref (el 1), .int (-1), .int 0])), ((sh 2), .inr (4, [.ref (el 2), .int (-1), .int 0])), ((sh 3), .inr (4, [.ref (el 3), .int (-1), .int 0])), ((sh 4), .inr (4, [.ref (el 4), .int (-1), .int 0])), ((sh 5), .inr (4, [.ref (el 5), .int (-1), .int 0])), ((sh 6), .inr (4, [.ref (el 6), .int (-1), .int 0])), ((sh 7), .inr (4, [.ref (el 7), .int (-1), .int 0])), ((el 0), .inl (cJ, 160, .inr (.inl (fun _ => 0)))), ((el 1), .inl (cJ, 160, .inr (.inl (fun _ => 0)))), ((el 2), .inl (cJ, 160, .inr (.inl (fun _ => 0)))), ((el 3), .inl (cJ, 160, .inr (.inl (fun _ => 0)))), ((el 4), .inl (cJ, 160, .inr (.inl (fun _ => 0)))), ((el 5), .inl (cJ, 160, .inr (.inl (fun _ => 0)))), ((el 6), .inl (cJ, 160, .inr (.inl (fun _ => 0)))), ((el 7), .inl (cJ, 160, .inr (.inl (fun _ => 0))))] sz) := by
  refine Met.ofW (cc := cX7_row) (maxL := 5) (ret := (some .int)) (by decide) rfl ?_
  intro p e s m args below meth c s₁ B hml hv
  obtain ⟨rfl, hsz, hP, hK, hD0, hN, hZ⟩ := hv
  have hx := B.exec
  have hb := B.bytes
  have hr := B.returns
  have hts := atoms_spec (ws := wsX7_row) B.pre
  have hown : s.vm.findClass RX7 = some m.cls := findClass_of_methodNamed B.named
  have hlocks := B.notSynchronized
  subst hsz
  have hD := hD0.self (sz := s.heap.size)
  have hA : ∀ q : Nat, s.heap.size ≤ q → va_A [(x0, .inr (7, [.ref xs, .ref j0, .ref k0, .ref w0, .ref rd, .ref mv, .ref xr, .int 0, .int (-1)])), (xr, .inl (cI, 8, .inl (fun _ => 0))), (xs, .inl (cS, 8, .inr (.inr (.inr (.inr (zS sh)))))), ((sh 0), .inr (4, [.ref (el 0), .int (-1), .int 0])), ((sh 1), .inr (4, [.ref (el 1), .int (-1), .int 0])), ((sh 2), .inr (4, [.ref (el 2), .int (-1), .int 0])), ((sh 3), .inr (4, [.ref (el 3), .int (-1), .int 0])), ((sh 4), .inr (4, [.ref (el 4), .int (-1), .int 0])), ((sh 5), .inr (4, [.ref (el 5), .int (-1), .int 0])), ((sh 6), .inr (4, [.ref (el 6), .int (-1), .int 0])), ((sh 7), .inr (4, [.ref (el 7), .int (-1), .int 0])), ((el 0), .inl (cJ, 160, .inr (.inl (fun _ => 0)))), ((el 1), .inl (cJ, 160, .inr (.inl (fun _ => 0)))), ((el 2), .inl (cJ, 160, .inr (.inl (fun _ => 0)))), ((el 3), .inl (cJ, 160, .inr (.inl (fun _ => 0)))), ((el 4), .inl (cJ, 160, .inr (.inl (fun _ => 0)))), ((el 5), .inl (cJ, 160, .inr (.inl (fun _ => 0)))), ((el 6), .inl (cJ, 160, .inr (.inl (fun _ => 0)))), ((el 7), .inl (cJ, 160, .inr (.inl (fun _ => 0))))] s.heap.size q := fun q h => Or.inr h
  have hS : va_S (va_A [(x0, .inr (7, [.ref xs, .ref j0, .ref k0, .ref w0, .ref rd, .ref mv, .ref xr, .int 0, .int (-1)])), (xr, .inl (cI, 8, .inl (fun _ => 0))), (xs, .inl (cS, 8, .inr (.inr (.inr (.inr (zS sh)))))), ((sh 0), .inr (4, [.ref (el 0), .int (-1), .int 0])), ((sh 1), .inr (4, [.ref (el 1), .int (-1), .int 0])), ((sh 2), .inr (4, [.ref (el 2), .int (-1), .int 0])), ((sh 3), .inr (4, [.ref (el 3), .int (-1), .int 0])), ((sh 4), .inr (4, [.ref (el 4), .int (-1), .int 0])), ((sh 5), .inr (4, [.ref (el 5), .int (-1), .int 0])), ((sh 6), .inr (4, [.ref (el 6), .int (-1), .int 0])), ((sh 7), .inr (4, [.ref (el 7), .int (-1), .int 0])), ((el 0), .inl (cJ, 160, .inr (.inl (fun _ => 0)))), ((el 1), .inl (cJ, 160, .inr (.inl (fun _ => 0)))), ((el 2), .inl (cJ, 160, .inr (.inl (fun _ => 0)))), ((el 3), .inl (cJ, 160, .inr (.inl (fun _ => 0)))), ((el 4), .inl (cJ, 160, .inr (.inl (fun _ => 0)))), ((el 5), .inl (cJ, 160, .inr (.inl (fun _ => 0)))), ((el 6), .inl (cJ, 160, .inr (.inl (fun _ => 0)))), ((el 7), .inl (cJ, 160, .inr (.inl (fun _ => 0))))] s.heap.size) s.heap s.heap [] := va_S.rf
  replace hP : va_P D vwCl _ s.heap := hP
  have hl := lv_entry ([.ref x0, .int s_, .int o, .int n]) (n := 5) (Nat.le_of_ble_eq_true rfl)
  rw [lg_entry_eq]
  generalize (lg_sl ([.ref x0, .int s_, .int o, .int n]) ++ List.replicate (5 - (lg_sl ([.ref x0, .int s_, .int o, .int n])).length) Slot.unset).toArray = ls at hl ⊢
  replace hl : lv_has ls 5 [(0, .ref x0), (1, .int s_), (2, .int o), (3, .int n)] := hl
  refine zw_start (fun H locs hH hL => ?_)
  replace hP : va_P D vwCl [(x0, .inr (7, [.ref xs, .ref j0, .ref k0, .ref w0, .ref rd, .ref mv, .ref xr, .int 0, .int (-1)])), (xr, .inl (cI, 8, .inl (fun _ => 0))), (xs, .inl (cS, 8, .inr (.inr (.inr (.inr (zS sh)))))), ((sh 0), .inr (4, [.ref (el 0), .int (-1), .int 0])), ((sh 1), .inr (4, [.ref (el 1), .int (-1), .int 0])), ((sh 2), .inr (4, [.ref (el 2), .int (-1), .int 0])), ((sh 3), .inr (4, [.ref (el 3), .int (-1), .int 0])), ((sh 4), .inr (4, [.ref (el 4), .int (-1), .int 0])), ((sh 5), .inr (4, [.ref (el 5), .int (-1), .int 0])), ((sh 6), .inr (4, [.ref (el 6), .int (-1), .int 0])), ((sh 7), .inr (4, [.ref (el 7), .int (-1), .int 0])), ((el 0), .inl (cJ, 160, .inr (.inl (fun _ => 0)))), ((el 1), .inl (cJ, 160, .inr (.inl (fun _ => 0)))), ((el 2), .inl (cJ, 160, .inr (.inl (fun _ => 0)))), ((el 3), .inl (cJ, 160, .inr (.inl (fun _ => 0)))), ((el 4), .inl (cJ, 160, .inr (.inl (fun _ => 0)))), ((el 5), .inl (cJ, 160, .inr (.inl (fun _ => 0)))), ((el 6), .inl (cJ, 160, .inr (.inl (fun _ => 0)))), ((el 7), .inl (cJ, 160, .inr (.inl (fun _ => 0))))] H := by rw [hH]; exact hP
  replace hS : va_S (va_A [(x0, .inr (7, [.ref xs, .ref j0, .ref k0, .ref w0, .ref rd, .ref mv, .ref xr, .int 0, .int (-1)])), (xr, .inl (cI, 8, .inl (fun _ => 0))), (xs, .inl (cS, 8, .inr (.inr (.inr (.inr (zS sh)))))), ((sh 0), .inr (4, [.ref (el 0), .int (-1), .int 0])), ((sh 1), .inr (4, [.ref (el 1), .int (-1), .int 0])), ((sh 2), .inr (4, [.ref (el 2), .int (-1), .int 0])), ((sh 3), .inr (4, [.ref (el 3), .int (-1), .int 0])), ((sh 4), .inr (4, [.ref (el 4), .int (-1), .int 0])), ((sh 5), .inr (4, [.ref (el 5), .int (-1), .int 0])), ((sh 6), .inr (4, [.ref (el 6), .int (-1), .int 0])), ((sh 7), .inr (4, [.ref (el 7), .int (-1), .int 0])), ((el 0), .inl (cJ, 160, .inr (.inl (fun _ => 0)))), ((el 1), .inl (cJ, 160, .inr (.inl (fun _ => 0)))), ((el 2), .inl (cJ, 160, .inr (.inl (fun _ => 0)))), ((el 3), .inl (cJ, 160, .inr (.inl (fun _ => 0)))), ((el 4), .inl (cJ, 160, .inr (.inl (fun _ => 0)))), ((el 5), .inl (cJ, 160, .inr (.inl (fun _ => 0)))), ((el 6), .inl (cJ, 160, .inr (.inl (fun _ => 0)))), ((el 7), .inl (cJ, 160, .inr (.inl (fun _ => 0))))] s.heap.size) s.heap H locs := by rw [hH, hL]; exact hS
  clear hH hL
  refine lv_aload_n hx hb dX7_row_0 rfl (lv_at hl 0 rfl) ?_
  refine lv_iload_n hx hb dX7_row_1 rfl (lv_at hl 1 rfl) ?_
  refine zc_Vq (As := [.int s_]) (rest := []) ⟨hx, hb, hml, hown, hts⟩ (c_shelfAt l D cI cJ cZ cP cS x0 xs j0 k0 w0 rd mv xr ((zS sh)) (s_) ) (cwV 1 hts gX7_row_X7_shelfAt rfl rfl rfl (by decide +kernel) ⟨Nat.le_of_ble_eq_true rfl, Nat.le_of_ble_eq_true rfl⟩) hK hN (hZ.kept hS) hP [0, 2] rfl (va_recv hK hP (ci := 7) (q0 := 0) rfl rfl) rfl hl.1 rfl (Nat.le_of_ble_eq_true rfl) dX7_row_2 ⟨Nat.le_of_ble_eq_true rfl, Nat.le_of_ble_eq_true rfl⟩ (fun r_1 hr_1 => ?_)
  rcases hr_1 with ⟨rfl, g_2⟩ | ⟨rfl, g_3, g_4⟩ | ⟨rfl, g_5, g_6⟩
  · refine lv_astoreN (lv' := [(4, .null), (0, .ref x0), (1, .int s_), (2, .int o), (3, .int n)]) hx hb dX7_row_5 hl (by decide) rfl (fun ls hl => ?_)
    refine lv_aloadN hx hb dX7_row_7 (lv_at hl 0 rfl) ?_
    refine lv_ifnonnullN hx hb dX7_row_9 ?_
    refine lv_aload_n hx hb dX7_row_12 rfl (lv_at hl 1 rfl) ?_
    refine lv_iconst (v := 1) hx hb dX7_row_13 (by decide) ?_
    skip
    refine zw_V (As := [.int 1]) (rest := []) (wr := []) ⟨hx, hb, hml, hown, hts⟩ (c_refuse_1 l D cI cJ cZ cP cS x0 xs j0 k0 w0 rd mv xr  H.size) (cwV 1 hts gX7_row_X7_refuse rfl rfl rfl (by decide +kernel) ⟨Nat.le_of_ble_eq_true rfl, Nat.le_of_ble_eq_true rfl⟩) hK hN (hZ.kept hS) hP hD hS hA [0, 1] [] rfl rfl (by decide) (by decide) (by decide) (va_recv hK hP (ci := 7) (q0 := 0) rfl rfl) rfl hl.1 rfl (Nat.le_of_ble_eq_true rfl) dX7_row_14 ⟨Nat.le_of_ble_eq_true rfl, Nat.le_of_ble_eq_true rfl⟩ (fun r_7 u_8 H locs hr_7 hP hD hS => ?_)
    obtain rfl := hr_7
    exact W.iret (v := (-1)) hx hb hr (fun t ht hW => ⟨⟨(-1), (), rfl, Or.inl (⟨rfl, (by first | omega | decide)⟩), zP_nil, zD_nil⟩, hS.F ht⟩) hS.2.2 dX7_row_17
  · refine lv_astoreN (lv' := [(4, .null), (0, .ref x0), (1, .int s_), (2, .int o), (3, .int n)]) hx hb dX7_row_5 hl (by decide) rfl (fun ls hl => ?_)
    refine lv_aloadN hx hb dX7_row_7 (lv_at hl 0 rfl) ?_
    refine lv_ifnonnullN hx hb dX7_row_9 ?_
    refine lv_aload_n hx hb dX7_row_12 rfl (lv_at hl 1 rfl) ?_
    refine lv_iconst (v := 1) hx hb dX7_row_13 (by decide) ?_
    skip
    refine zw_V (As := [.int 1]) (rest := []) (wr := []) ⟨hx, hb, hml, hown, hts⟩ (c_refuse_1 l D cI cJ cZ cP cS x0 xs j0 k0 w0 rd mv xr  H.size) (cwV 1 hts gX7_row_X7_refuse rfl rfl rfl (by decide +kernel) ⟨Nat.le_of_ble_eq_true rfl, Nat.le_of_ble_eq_true rfl⟩) hK hN (hZ.kept hS) hP hD hS hA [0, 1] [] rfl rfl (by decide) (by decide) (by decide) (va_recv hK hP (ci := 7) (q0 := 0) rfl rfl) rfl hl.1 rfl (Nat.le_of_ble_eq_true rfl) dX7_row_14 ⟨Nat.le_of_ble_eq_true rfl, Nat.le_of_ble_eq_true rfl⟩ (fun r_9 u_10 H locs hr_9 hP hD hS => ?_)
    obtain rfl := hr_9
    exact W.iret (v := (-1)) hx hb hr (fun t ht hW => ⟨⟨(-1), (), rfl, Or.inr (Or.inl (⟨rfl, (by first | omega | decide), (by first | omega | decide)⟩)), zP_nil, zD_nil⟩, hS.F ht⟩) hS.2.2 dX7_row_17
  · obtain ⟨j, hj, hfs⟩ := zS_at sh (s := s_) (by omega) (by omega)
    rw [hfs]
    rcases zj8 hj with rfl | rfl | rfl | rfl | rfl | rfl | rfl | rfl
    · refine W.eq (g2 := F0 m 5 ls (.ref (sh 0) :: [])) rfl ?_
      refine lv_astore (lv' := [(4, .ref (sh 0)), (0, .ref x0), (1, .int s_), (2, .int o), (3, .int n)]) hx hb dX7_row_5 hl (by decide) rfl (fun ls hl => ?_)
      refine lv_aload hx hb dX7_row_7 (lv_at hl 0 rfl) ?_
      refine lv_ifnonnull (tgt := 18) hx hb dX7_row_9 (by decide) ?_
      refine lv_iload_n hx hb dX7_row_18 rfl (lv_at hl 4 rfl) ?_
      refine lv_if_ge (tgt := 28) hx hb dX7_row_19 (by decide) (fun c_11 => ?_) (fun c_11 => ?_)
      · have fc_11 : 0 ≤ n.toInt := zf_le c_11 (by decide) rfl
        refine lv_iload_n hx hb dX7_row_28 rfl (lv_at hl 3 rfl) ?_
        refine lv_iconst (v := 0) hx hb dX7_row_29 (by decide) ?_
        refine lv_iconst (v := 3) hx hb dX7_row_30 (by decide) ?_
        have kc0 : (0 : Int32).toInt = 0 := by decide
        have kc3 : (3 : Int32).toInt = 3 := by decide
        refine zc_S (As := [.int o, .int 0, .int 3]) (rest := []) ⟨hx, hb, hml, hown, hts⟩ (c_within l D cI cJ cZ cP cS (o) (0) (3) ) (va_cwS 3 hts gX7_row_X7_within rfl rfl rfl (by decide +kernel) ⟨Nat.le_of_ble_eq_true rfl, Nat.le_of_ble_eq_true rfl⟩) hK hN (hZ.kept hS) rfl hl.1 rfl (Nat.le_of_ble_eq_true rfl) dX7_row_31 ⟨Nat.le_of_ble_eq_true rfl, Nat.le_of_ble_eq_true rfl⟩ (fun r_12 hr_12 => ?_)
        rcases hr_12 with ⟨rfl, g_13⟩ | ⟨rfl, g_14, g_15⟩ | ⟨rfl, g_16, g_17⟩
        · refine lv_if_ne (tgt := 44) hx hb dX7_row_34 (by decide) (fun c_18 => ?_) (fun c_18 => ?_)
          · exact absurd c_18 (by decide)
          · refine lv_aload_n hx hb dX7_row_37 rfl (lv_at hl 1 rfl) ?_
            refine lv_bipush (v := 6) hx hb dX7_row_38 (by decide) ?_
            skip
            refine zw_V (As := [.int 6]) (rest := []) (wr := []) ⟨hx, hb, hml, hown, hts⟩ (c_refuse_6 l D cI cJ cZ cP cS x0 xs j0 k0 w0 rd mv xr  H.size) (cwV 1 hts gX7_row_X7_refuse rfl rfl rfl (by decide +kernel) ⟨Nat.le_of_ble_eq_true rfl, Nat.le_of_ble_eq_true rfl⟩) hK hN (hZ.kept hS) hP hD hS hA [0, 1] [] rfl rfl (by decide) (by decide) (by decide) (va_recv hK hP (ci := 7) (q0 := 0) rfl rfl) rfl hl.1 rfl (Nat.le_of_ble_eq_true rfl) dX7_row_40 ⟨Nat.le_of_ble_eq_true rfl, Nat.le_of_ble_eq_true rfl⟩ (fun r_19 u_20 H locs hr_19 hP hD hS => ?_)
            obtain rfl := hr_19
            exact W.iret (v := (-6)) hx hb hr (fun t ht hW => ⟨⟨(-6), (), rfl, Or.inr (Or.inr (Or.inl (⟨rfl, (by first | omega | decide), (by first | omega | decide), (by first | omega | decide), (by first | omega | decide)⟩))), zP_nil, zD_nil⟩, hS.F ht⟩) hS.2.2 dX7_row_43
        · refine lv_if_ne (tgt := 44) hx hb dX7_row_34 (by decide) (fun c_21 => ?_) (fun c_21 => ?_)
          · exact absurd c_21 (by decide)
          · refine lv_aload_n hx hb dX7_row_37 rfl (lv_at hl 1 rfl) ?_
            refine lv_bipush (v := 6) hx hb dX7_row_38 (by decide) ?_
            skip
            refine zw_V (As := [.int 6]) (rest := []) (wr := []) ⟨hx, hb, hml, hown, hts⟩ (c_refuse_6 l D cI cJ cZ cP cS x0 xs j0 k0 w0 rd mv xr  H.size) (cwV 1 hts gX7_row_X7_refuse rfl rfl rfl (by decide +kernel) ⟨Nat.le_of_ble_eq_true rfl, Nat.le_of_ble_eq_true rfl⟩) hK hN (hZ.kept hS) hP hD hS hA [0, 1] [] rfl rfl (by decide) (by decide) (by decide) (va_recv hK hP (ci := 7) (q0 := 0) rfl rfl) rfl hl.1 rfl (Nat.le_of_ble_eq_true rfl) dX7_row_40 ⟨Nat.le_of_ble_eq_true rfl, Nat.le_of_ble_eq_true rfl⟩ (fun r_22 u_23 H locs hr_22 hP hD hS => ?_)
            obtain rfl := hr_22
            exact W.iret (v := (-6)) hx hb hr (fun t ht hW => ⟨⟨(-6), (), rfl, Or.inr (Or.inr (Or.inr (Or.inl (⟨rfl, (by first | omega | decide), (by first | omega | decide), (by first | omega | decide), (by first | omega | decide), (by first | omega | decide)⟩)))), zP_nil, zD_nil⟩, hS.F ht⟩) hS.2.2 dX7_row_43
        · refine lv_if_ne (tgt := 44) hx hb dX7_row_34 (by decide) (fun c_24 => ?_) (fun c_24 => ?_)
          · refine lv_iload_n hx hb dX7_row_44 rfl (lv_at hl 4 rfl) ?_
            refine lv_sipush (v := 160) hx hb dX7_row_45 (by decide) ?_
            refine lv_icmp_le (tgt := 58) hx hb dX7_row_48 (by decide) (fun c_25 => ?_) (fun c_25 => ?_)
            · have fc_25 : n.toInt ≤ 160 := zf_le c_25 rfl (by decide)
              refine lv_aload hx hb dX7_row_58 (lv_at hl 0 rfl) ?_
              refine lv_iload_n hx hb dX7_row_60 rfl (lv_at hl 3 rfl) ?_
              refine lv_iload_n hx hb dX7_row_61 rfl (lv_at hl 4 rfl) ?_
              skip
              refine zw_Vv (As := [.int o, .int n]) (rest := []) (wr := []) ⟨hx, hb, hml, hown, hts⟩ (c_Shelf_holdRow l D cI cJ cZ cP cS ((sh 0)) ((el 0)) (o) (n)  H.size) (cwV 2 hts gX7_row_X4_holdRow rfl rfl rfl (by decide +kernel) ⟨Nat.le_of_ble_eq_true rfl, Nat.le_of_ble_eq_true rfl⟩) hK hN (hZ.kept hS) hP hD hS hA [3, 11] [] rfl rfl (by decide) (by decide) (by decide) (va_recv hK hP (ci := 4) (q0 := 3) rfl rfl) rfl hl.1 rfl (Nat.le_of_ble_eq_true rfl) dX7_row_62 ⟨Nat.le_of_ble_eq_true rfl, Nat.le_of_ble_eq_true rfl⟩ (fun u_27 H locs hr_26 hP hD hS => ?_)
              refine lv_iconst (v := 1) hx hb dX7_row_65 (by decide) ?_
              exact W.iret (v := 1) hx hb hr (fun t ht hW => ⟨⟨1, (), rfl, Or.inr (Or.inr (Or.inr (Or.inr (Or.inl (⟨rfl, (by first | omega | decide), (by first | omega | decide), (by first | omega | decide), (by first | omega | decide), (by first | omega | decide), (by first | omega | decide)⟩))))), zP_nil, zD_nil⟩, hS.F ht⟩) hS.2.2 dX7_row_66
            · have fc_25 : 160 < n.toInt := zf_nle c_25 rfl (by decide)
              refine lv_aload_n hx hb dX7_row_51 rfl (lv_at hl 1 rfl) ?_
              refine lv_bipush (v := 7) hx hb dX7_row_52 (by decide) ?_
              skip
              refine zw_V (As := [.int 7]) (rest := []) (wr := []) ⟨hx, hb, hml, hown, hts⟩ (c_refuse_7 l D cI cJ cZ cP cS x0 xs j0 k0 w0 rd mv xr  H.size) (cwV 1 hts gX7_row_X7_refuse rfl rfl rfl (by decide +kernel) ⟨Nat.le_of_ble_eq_true rfl, Nat.le_of_ble_eq_true rfl⟩) hK hN (hZ.kept hS) hP hD hS hA [0, 1] [] rfl rfl (by decide) (by decide) (by decide) (va_recv hK hP (ci := 7) (q0 := 0) rfl rfl) rfl hl.1 rfl (Nat.le_of_ble_eq_true rfl) dX7_row_54 ⟨Nat.le_of_ble_eq_true rfl, Nat.le_of_ble_eq_true rfl⟩ (fun r_28 u_29 H locs hr_28 hP hD hS => ?_)
              obtain rfl := hr_28
              exact W.iret (v := (-7)) hx hb hr (fun t ht hW => ⟨⟨(-7), (), rfl, Or.inr (Or.inr (Or.inr (Or.inr (Or.inr (Or.inl (⟨rfl, (by first | omega | decide), (by first | omega | decide), (by first | omega | decide), (by first | omega | decide), (by first | omega | decide), (by first | omega | decide)⟩)))))), zP_nil, zD_nil⟩, hS.F ht⟩) hS.2.2 dX7_row_57
          · exact absurd c_24 (by decide)
      · have fc_11 : n.toInt < 0 := zf_nle c_11 (by decide) rfl
        refine lv_aload_n hx hb dX7_row_22 rfl (lv_at hl 1 rfl) ?_
        refine lv_iconst (v := 4) hx hb dX7_row_23 (by decide) ?_
        skip
        refine zw_V (As := [.int 4]) (rest := []) (wr := []) ⟨hx, hb, hml, hown, hts⟩ (c_refuse_4 l D cI cJ cZ cP cS x0 xs j0 k0 w0 rd mv xr  H.size) (cwV 1 hts gX7_row_X7_refuse rfl rfl rfl (by decide +kernel) ⟨Nat.le_of_ble_eq_true rfl, Nat.le_of_ble_eq_true rfl⟩) hK hN (hZ.kept hS) hP hD hS hA [0, 1] [] rfl rfl (by decide) (by decide) (by decide) (va_recv hK hP (ci := 7) (q0 := 0) rfl rfl) rfl hl.1 rfl (Nat.le_of_ble_eq_true rfl) dX7_row_24 ⟨Nat.le_of_ble_eq_true rfl, Nat.le_of_ble_eq_true rfl⟩ (fun r_30 u_31 H locs hr_30 hP hD hS => ?_)
        obtain rfl := hr_30
        exact W.iret (v := (-4)) hx hb hr (fun t ht hW => ⟨⟨(-4), (), rfl, Or.inr (Or.inr (Or.inr (Or.inr (Or.inr (Or.inr (⟨rfl, (by first | omega | decide), (by first | omega | decide), (by first | omega | decide)⟩)))))), zP_nil, zD_nil⟩, hS.F ht⟩) hS.2.2 dX7_row_27
    · refine W.eq (g2 := F0 m 5 ls (.ref (sh 1) :: [])) rfl ?_
      refine lv_astore (lv' := [(4, .ref (sh 1)), (0, .ref x0), (1, .int s_), (2, .int o), (3, .int n)]) hx hb dX7_row_5 hl (by decide) rfl (fun ls hl => ?_)
      refine lv_aload hx hb dX7_row_7 (lv_at hl 0 rfl) ?_
      refine lv_ifnonnull (tgt := 18) hx hb dX7_row_9 (by decide) ?_
      refine lv_iload_n hx hb dX7_row_18 rfl (lv_at hl 4 rfl) ?_
      refine lv_if_ge (tgt := 28) hx hb dX7_row_19 (by decide) (fun c_32 => ?_) (fun c_32 => ?_)
      · have fc_32 : 0 ≤ n.toInt := zf_le c_32 (by decide) rfl
        refine lv_iload_n hx hb dX7_row_28 rfl (lv_at hl 3 rfl) ?_
        refine lv_iconst (v := 0) hx hb dX7_row_29 (by decide) ?_
        refine lv_iconst (v := 3) hx hb dX7_row_30 (by decide) ?_
        have kc0 : (0 : Int32).toInt = 0 := by decide
        have kc3 : (3 : Int32).toInt = 3 := by decide
        refine zc_S (As := [.int o, .int 0, .int 3]) (rest := []) ⟨hx, hb, hml, hown, hts⟩ (c_within l D cI cJ cZ cP cS (o) (0) (3) ) (va_cwS 3 hts gX7_row_X7_within rfl rfl rfl (by decide +kernel) ⟨Nat.le_of_ble_eq_true rfl, Nat.le_of_ble_eq_true rfl⟩) hK hN (hZ.kept hS) rfl hl.1 rfl (Nat.le_of_ble_eq_true rfl) dX7_row_31 ⟨Nat.le_of_ble_eq_true rfl, Nat.le_of_ble_eq_true rfl⟩ (fun r_33 hr_33 => ?_)
        rcases hr_33 with ⟨rfl, g_34⟩ | ⟨rfl, g_35, g_36⟩ | ⟨rfl, g_37, g_38⟩
        · refine lv_if_ne (tgt := 44) hx hb dX7_row_34 (by decide) (fun c_39 => ?_) (fun c_39 => ?_)
          · exact absurd c_39 (by decide)
          · refine lv_aload_n hx hb dX7_row_37 rfl (lv_at hl 1 rfl) ?_
            refine lv_bipush (v := 6) hx hb dX7_row_38 (by decide) ?_
            skip
            refine zw_V (As := [.int 6]) (rest := []) (wr := []) ⟨hx, hb, hml, hown, hts⟩ (c_refuse_6 l D cI cJ cZ cP cS x0 xs j0 k0 w0 rd mv xr  H.size) (cwV 1 hts gX7_row_X7_refuse rfl rfl rfl (by decide +kernel) ⟨Nat.le_of_ble_eq_true rfl, Nat.le_of_ble_eq_true rfl⟩) hK hN (hZ.kept hS) hP hD hS hA [0, 1] [] rfl rfl (by decide) (by decide) (by decide) (va_recv hK hP (ci := 7) (q0 := 0) rfl rfl) rfl hl.1 rfl (Nat.le_of_ble_eq_true rfl) dX7_row_40 ⟨Nat.le_of_ble_eq_true rfl, Nat.le_of_ble_eq_true rfl⟩ (fun r_40 u_41 H locs hr_40 hP hD hS => ?_)
            obtain rfl := hr_40
            exact W.iret (v := (-6)) hx hb hr (fun t ht hW => ⟨⟨(-6), (), rfl, Or.inr (Or.inr (Or.inl (⟨rfl, (by first | omega | decide), (by first | omega | decide), (by first | omega | decide), (by first | omega | decide)⟩))), zP_nil, zD_nil⟩, hS.F ht⟩) hS.2.2 dX7_row_43
        · refine lv_if_ne (tgt := 44) hx hb dX7_row_34 (by decide) (fun c_42 => ?_) (fun c_42 => ?_)
          · exact absurd c_42 (by decide)
          · refine lv_aload_n hx hb dX7_row_37 rfl (lv_at hl 1 rfl) ?_
            refine lv_bipush (v := 6) hx hb dX7_row_38 (by decide) ?_
            skip
            refine zw_V (As := [.int 6]) (rest := []) (wr := []) ⟨hx, hb, hml, hown, hts⟩ (c_refuse_6 l D cI cJ cZ cP cS x0 xs j0 k0 w0 rd mv xr  H.size) (cwV 1 hts gX7_row_X7_refuse rfl rfl rfl (by decide +kernel) ⟨Nat.le_of_ble_eq_true rfl, Nat.le_of_ble_eq_true rfl⟩) hK hN (hZ.kept hS) hP hD hS hA [0, 1] [] rfl rfl (by decide) (by decide) (by decide) (va_recv hK hP (ci := 7) (q0 := 0) rfl rfl) rfl hl.1 rfl (Nat.le_of_ble_eq_true rfl) dX7_row_40 ⟨Nat.le_of_ble_eq_true rfl, Nat.le_of_ble_eq_true rfl⟩ (fun r_43 u_44 H locs hr_43 hP hD hS => ?_)
            obtain rfl := hr_43
            exact W.iret (v := (-6)) hx hb hr (fun t ht hW => ⟨⟨(-6), (), rfl, Or.inr (Or.inr (Or.inr (Or.inl (⟨rfl, (by first | omega | decide), (by first | omega | decide), (by first | omega | decide), (by first | omega | decide), (by first | omega | decide)⟩)))), zP_nil, zD_nil⟩, hS.F ht⟩) hS.2.2 dX7_row_43
        · refine lv_if_ne (tgt := 44) hx hb dX7_row_34 (by decide) (fun c_45 => ?_) (fun c_45 => ?_)
          · refine lv_iload_n hx hb dX7_row_44 rfl (lv_at hl 4 rfl) ?_
            refine lv_sipush (v := 160) hx hb dX7_row_45 (by decide) ?_
            refine lv_icmp_le (tgt := 58) hx hb dX7_row_48 (by decide) (fun c_46 => ?_) (fun c_46 => ?_)
            · have fc_46 : n.toInt ≤ 160 := zf_le c_46 rfl (by decide)
              refine lv_aload hx hb dX7_row_58 (lv_at hl 0 rfl) ?_
              refine lv_iload_n hx hb dX7_row_60 rfl (lv_at hl 3 rfl) ?_
              refine lv_iload_n hx hb dX7_row_61 rfl (lv_at hl 4 rfl) ?_
              skip
              refine zw_Vv (As := [.int o, .int n]) (rest := []) (wr := []) ⟨hx, hb, hml, hown, hts⟩ (c_Shelf_holdRow l D cI cJ cZ cP cS ((sh 1)) ((el 1)) (o) (n)  H.size) (cwV 2 hts gX7_row_X4_holdRow rfl rfl rfl (by decide +kernel) ⟨Nat.le_of_ble_eq_true rfl, Nat.le_of_ble_eq_true rfl⟩) hK hN (hZ.kept hS) hP hD hS hA [4, 12] [] rfl rfl (by decide) (by decide) (by decide) (va_recv hK hP (ci := 4) (q0 := 4) rfl rfl) rfl hl.1 rfl (Nat.le_of_ble_eq_true rfl) dX7_row_62 ⟨Nat.le_of_ble_eq_true rfl, Nat.le_of_ble_eq_true rfl⟩ (fun u_48 H locs hr_47 hP hD hS => ?_)
              refine lv_iconst (v := 1) hx hb dX7_row_65 (by decide) ?_
              exact W.iret (v := 1) hx hb hr (fun t ht hW => ⟨⟨1, (), rfl, Or.inr (Or.inr (Or.inr (Or.inr (Or.inl (⟨rfl, (by first | omega | decide), (by first | omega | decide), (by first | omega | decide), (by first | omega | decide), (by first | omega | decide), (by first | omega | decide)⟩))))), zP_nil, zD_nil⟩, hS.F ht⟩) hS.2.2 dX7_row_66
            · have fc_46 : 160 < n.toInt := zf_nle c_46 rfl (by decide)
              refine lv_aload_n hx hb dX7_row_51 rfl (lv_at hl 1 rfl) ?_
              refine lv_bipush (v := 7) hx hb dX7_row_52 (by decide) ?_
              skip
              refine zw_V (As := [.int 7]) (rest := []) (wr := []) ⟨hx, hb, hml, hown, hts⟩ (c_refuse_7 l D cI cJ cZ cP cS x0 xs j0 k0 w0 rd mv xr  H.size) (cwV 1 hts gX7_row_X7_refuse rfl rfl rfl (by decide +kernel) ⟨Nat.le_of_ble_eq_true rfl, Nat.le_of_ble_eq_true rfl⟩) hK hN (hZ.kept hS) hP hD hS hA [0, 1] [] rfl rfl (by decide) (by decide) (by decide) (va_recv hK hP (ci := 7) (q0 := 0) rfl rfl) rfl hl.1 rfl (Nat.le_of_ble_eq_true rfl) dX7_row_54 ⟨Nat.le_of_ble_eq_true rfl, Nat.le_of_ble_eq_true rfl⟩ (fun r_49 u_50 H locs hr_49 hP hD hS => ?_)
              obtain rfl := hr_49
              exact W.iret (v := (-7)) hx hb hr (fun t ht hW => ⟨⟨(-7), (), rfl, Or.inr (Or.inr (Or.inr (Or.inr (Or.inr (Or.inl (⟨rfl, (by first | omega | decide), (by first | omega | decide), (by first | omega | decide), (by first | omega | decide), (by first | omega | decide), (by first | omega | decide)⟩)))))), zP_nil, zD_nil⟩, hS.F ht⟩) hS.2.2 dX7_row_57
          · exact absurd c_45 (by decide)
      · have fc_32 : n.toInt < 0 := zf_nle c_32 (by decide) rfl
        refine lv_aload_n hx hb dX7_row_22 rfl (lv_at hl 1 rfl) ?_
        refine lv_iconst (v := 4) hx hb dX7_row_23 (by decide) ?_
        skip
        refine zw_V (As := [.int 4]) (rest := []) (wr := []) ⟨hx, hb, hml, hown, hts⟩ (c_refuse_4 l D cI cJ cZ cP cS x0 xs j0 k0 w0 rd mv xr  H.size) (cwV 1 hts gX7_row_X7_refuse rfl rfl rfl (by decide +kernel) ⟨Nat.le_of_ble_eq_true rfl, Nat.le_of_ble_eq_true rfl⟩) hK hN (hZ.kept hS) hP hD hS hA [0, 1] [] rfl rfl (by decide) (by decide) (by decide) (va_recv hK hP (ci := 7) (q0 := 0) rfl rfl) rfl hl.1 rfl (Nat.le_of_ble_eq_true rfl) dX7_row_24 ⟨Nat.le_of_ble_eq_true rfl, Nat.le_of_ble_eq_true rfl⟩ (fun r_51 u_52 H locs hr_51 hP hD hS => ?_)
        obtain rfl := hr_51
        exact W.iret (v := (-4)) hx hb hr (fun t ht hW => ⟨⟨(-4), (), rfl, Or.inr (Or.inr (Or.inr (Or.inr (Or.inr (Or.inr (⟨rfl, (by first | omega | decide), (by first | omega | decide), (by first | omega | decide)⟩)))))), zP_nil, zD_nil⟩, hS.F ht⟩) hS.2.2 dX7_row_27
    · refine W.eq (g2 := F0 m 5 ls (.ref (sh 2) :: [])) rfl ?_
      refine lv_astore (lv' := [(4, .ref (sh 2)), (0, .ref x0), (1, .int s_), (2, .int o), (3, .int n)]) hx hb dX7_row_5 hl (by decide) rfl (fun ls hl => ?_)
      refine lv_aload hx hb dX7_row_7 (lv_at hl 0 rfl) ?_
      refine lv_ifnonnull (tgt := 18) hx hb dX7_row_9 (by decide) ?_
      refine lv_iload_n hx hb dX7_row_18 rfl (lv_at hl 4 rfl) ?_
      refine lv_if_ge (tgt := 28) hx hb dX7_row_19 (by decide) (fun c_53 => ?_) (fun c_53 => ?_)
      · have fc_53 : 0 ≤ n.toInt := zf_le c_53 (by decide) rfl
        refine lv_iload_n hx hb dX7_row_28 rfl (lv_at hl 3 rfl) ?_
        refine lv_iconst (v := 0) hx hb dX7_row_29 (by decide) ?_
        refine lv_iconst (v := 3) hx hb dX7_row_30 (by decide) ?_
        have kc0 : (0 : Int32).toInt = 0 := by decide
        have kc3 : (3 : Int32).toInt = 3 := by decide
        refine zc_S (As := [.int o, .int 0, .int 3]) (rest := []) ⟨hx, hb, hml, hown, hts⟩ (c_within l D cI cJ cZ cP cS (o) (0) (3) ) (va_cwS 3 hts gX7_row_X7_within rfl rfl rfl (by decide +kernel) ⟨Nat.le_of_ble_eq_true rfl, Nat.le_of_ble_eq_true rfl⟩) hK hN (hZ.kept hS) rfl hl.1 rfl (Nat.le_of_ble_eq_true rfl) dX7_row_31 ⟨Nat.le_of_ble_eq_true rfl, Nat.le_of_ble_eq_true rfl⟩ (fun r_54 hr_54 => ?_)
        rcases hr_54 with ⟨rfl, g_55⟩ | ⟨rfl, g_56, g_57⟩ | ⟨rfl, g_58, g_59⟩
        · refine lv_if_ne (tgt := 44) hx hb dX7_row_34 (by decide) (fun c_60 => ?_) (fun c_60 => ?_)
          · exact absurd c_60 (by decide)
          · refine lv_aload_n hx hb dX7_row_37 rfl (lv_at hl 1 rfl) ?_
            refine lv_bipush (v := 6) hx hb dX7_row_38 (by decide) ?_
            skip
            refine zw_V (As := [.int 6]) (rest := []) (wr := []) ⟨hx, hb, hml, hown, hts⟩ (c_refuse_6 l D cI cJ cZ cP cS x0 xs j0 k0 w0 rd mv xr  H.size) (cwV 1 hts gX7_row_X7_refuse rfl rfl rfl (by decide +kernel) ⟨Nat.le_of_ble_eq_true rfl, Nat.le_of_ble_eq_true rfl⟩) hK hN (hZ.kept hS) hP hD hS hA [0, 1] [] rfl rfl (by decide) (by decide) (by decide) (va_recv hK hP (ci := 7) (q0 := 0) rfl rfl) rfl hl.1 rfl (Nat.le_of_ble_eq_true rfl) dX7_row_40 ⟨Nat.le_of_ble_eq_true rfl, Nat.le_of_ble_eq_true rfl⟩ (fun r_61 u_62 H locs hr_61 hP hD hS => ?_)
            obtain rfl := hr_61
            exact W.iret (v := (-6)) hx hb hr (fun t ht hW => ⟨⟨(-6), (), rfl, Or.inr (Or.inr (Or.inl (⟨rfl, (by first | omega | decide), (by first | omega | decide), (by first | omega | decide), (by first | omega | decide)⟩))), zP_nil, zD_nil⟩, hS.F ht⟩) hS.2.2 dX7_row_43
        · refine lv_if_ne (tgt := 44) hx hb dX7_row_34 (by decide) (fun c_63 => ?_) (fun c_63 => ?_)
          · exact absurd c_63 (by decide)
          · refine lv_aload_n hx hb dX7_row_37 rfl (lv_at hl 1 rfl) ?_
            refine lv_bipush (v := 6) hx hb dX7_row_38 (by decide) ?_
            skip
            refine zw_V (As := [.int 6]) (rest := []) (wr := []) ⟨hx, hb, hml, hown, hts⟩ (c_refuse_6 l D cI cJ cZ cP cS x0 xs j0 k0 w0 rd mv xr  H.size) (cwV 1 hts gX7_row_X7_refuse rfl rfl rfl (by decide +kernel) ⟨Nat.le_of_ble_eq_true rfl, Nat.le_of_ble_eq_true rfl⟩) hK hN (hZ.kept hS) hP hD hS hA [0, 1] [] rfl rfl (by decide) (by decide) (by decide) (va_recv hK hP (ci := 7) (q0 := 0) rfl rfl) rfl hl.1 rfl (Nat.le_of_ble_eq_true rfl) dX7_row_40 ⟨Nat.le_of_ble_eq_true rfl, Nat.le_of_ble_eq_true rfl⟩ (fun r_64 u_65 H locs hr_64 hP hD hS => ?_)
            obtain rfl := hr_64
            exact W.iret (v := (-6)) hx hb hr (fun t ht hW => ⟨⟨(-6), (), rfl, Or.inr (Or.inr (Or.inr (Or.inl (⟨rfl, (by first | omega | decide), (by first | omega | decide), (by first | omega | decide), (by first | omega | decide), (by first | omega | decide)⟩)))), zP_nil, zD_nil⟩, hS.F ht⟩) hS.2.2 dX7_row_43
        · refine lv_if_ne (tgt := 44) hx hb dX7_row_34 (by decide) (fun c_66 => ?_) (fun c_66 => ?_)
          · refine lv_iload_n hx hb dX7_row_44 rfl (lv_at hl 4 rfl) ?_
            refine lv_sipush (v := 160) hx hb dX7_row_45 (by decide) ?_
            refine lv_icmp_le (tgt := 58) hx hb dX7_row_48 (by decide) (fun c_67 => ?_) (fun c_67 => ?_)
            · have fc_67 : n.toInt ≤ 160 := zf_le c_67 rfl (by decide)
              refine lv_aload hx hb dX7_row_58 (lv_at hl 0 rfl) ?_
              refine lv_iload_n hx hb dX7_row_60 rfl (lv_at hl 3 rfl) ?_
              refine lv_iload_n hx hb dX7_row_61 rfl (lv_at hl 4 rfl) ?_
              skip
              refine zw_Vv (As := [.int o, .int n]) (rest := []) (wr := []) ⟨hx, hb, hml, hown, hts⟩ (c_Shelf_holdRow l D cI cJ cZ cP cS ((sh 2)) ((el 2)) (o) (n)  H.size) (cwV 2 hts gX7_row_X4_holdRow rfl rfl rfl (by decide +kernel) ⟨Nat.le_of_ble_eq_true rfl, Nat.le_of_ble_eq_true rfl⟩) hK hN (hZ.kept hS) hP hD hS hA [5, 13] [] rfl rfl (by decide) (by decide) (by decide) (va_recv hK hP (ci := 4) (q0 := 5) rfl rfl) rfl hl.1 rfl (Nat.le_of_ble_eq_true rfl) dX7_row_62 ⟨Nat.le_of_ble_eq_true rfl, Nat.le_of_ble_eq_true rfl⟩ (fun u_69 H locs hr_68 hP hD hS => ?_)
              refine lv_iconst (v := 1) hx hb dX7_row_65 (by decide) ?_
              exact W.iret (v := 1) hx hb hr (fun t ht hW => ⟨⟨1, (), rfl, Or.inr (Or.inr (Or.inr (Or.inr (Or.inl (⟨rfl, (by first | omega | decide), (by first | omega | decide), (by first | omega | decide), (by first | omega | decide), (by first | omega | decide), (by first | omega | decide)⟩))))), zP_nil, zD_nil⟩, hS.F ht⟩) hS.2.2 dX7_row_66
            · have fc_67 : 160 < n.toInt := zf_nle c_67 rfl (by decide)
              refine lv_aload_n hx hb dX7_row_51 rfl (lv_at hl 1 rfl) ?_
              refine lv_bipush (v := 7) hx hb dX7_row_52 (by decide) ?_
              skip
              refine zw_V (As := [.int 7]) (rest := []) (wr := []) ⟨hx, hb, hml, hown, hts⟩ (c_refuse_7 l D cI cJ cZ cP cS x0 xs j0 k0 w0 rd mv xr  H.size) (cwV 1 hts gX7_row_X7_refuse rfl rfl rfl (by decide +kernel) ⟨Nat.le_of_ble_eq_true rfl, Nat.le_of_ble_eq_true rfl⟩) hK hN (hZ.kept hS) hP hD hS hA [0, 1] [] rfl rfl (by decide) (by decide) (by decide) (va_recv hK hP (ci := 7) (q0 := 0) rfl rfl) rfl hl.1 rfl (Nat.le_of_ble_eq_true rfl) dX7_row_54 ⟨Nat.le_of_ble_eq_true rfl, Nat.le_of_ble_eq_true rfl⟩ (fun r_70 u_71 H locs hr_70 hP hD hS => ?_)
              obtain rfl := hr_70
              exact W.iret (v := (-7)) hx hb hr (fun t ht hW => ⟨⟨(-7), (), rfl, Or.inr (Or.inr (Or.inr (Or.inr (Or.inr (Or.inl (⟨rfl, (by first | omega | decide), (by first | omega | decide), (by first | omega | decide), (by first | omega | decide), (by first | omega | decide), (by first | omega | decide)⟩)))))), zP_nil, zD_nil⟩, hS.F ht⟩) hS.2.2 dX7_row_57
          · exact absurd c_66 (by decide)
      · have fc_53 : n.toInt < 0 := zf_nle c_53 (by decide) rfl
        refine lv_aload_n hx hb dX7_row_22 rfl (lv_at hl 1 rfl) ?_
        refine lv_iconst (v := 4) hx hb dX7_row_23 (by decide) ?_
        skip
        refine zw_V (As := [.int 4]) (rest := []) (wr := []) ⟨hx, hb, hml, hown, hts⟩ (c_refuse_4 l D cI cJ cZ cP cS x0 xs j0 k0 w0 rd mv xr  H.size) (cwV 1 hts gX7_row_X7_refuse rfl rfl rfl (by decide +kernel) ⟨Nat.le_of_ble_eq_true rfl, Nat.le_of_ble_eq_true rfl⟩) hK hN (hZ.kept hS) hP hD hS hA [0, 1] [] rfl rfl (by decide) (by decide) (by decide) (va_recv hK hP (ci := 7) (q0 := 0) rfl rfl) rfl hl.1 rfl (Nat.le_of_ble_eq_true rfl) dX7_row_24 ⟨Nat.le_of_ble_eq_true rfl, Nat.le_of_ble_eq_true rfl⟩ (fun r_72 u_73 H locs hr_72 hP hD hS => ?_)
        obtain rfl := hr_72
        exact W.iret (v := (-4)) hx hb hr (fun t ht hW => ⟨⟨(-4), (), rfl, Or.inr (Or.inr (Or.inr (Or.inr (Or.inr (Or.inr (⟨rfl, (by first | omega | decide), (by first | omega | decide), (by first | omega | decide)⟩)))))), zP_nil, zD_nil⟩, hS.F ht⟩) hS.2.2 dX7_row_27
    · refine W.eq (g2 := F0 m 5 ls (.ref (sh 3) :: [])) rfl ?_
      refine lv_astore (lv' := [(4, .ref (sh 3)), (0, .ref x0), (1, .int s_), (2, .int o), (3, .int n)]) hx hb dX7_row_5 hl (by decide) rfl (fun ls hl => ?_)
      refine lv_aload hx hb dX7_row_7 (lv_at hl 0 rfl) ?_
      refine lv_ifnonnull (tgt := 18) hx hb dX7_row_9 (by decide) ?_
      refine lv_iload_n hx hb dX7_row_18 rfl (lv_at hl 4 rfl) ?_
      refine lv_if_ge (tgt := 28) hx hb dX7_row_19 (by decide) (fun c_74 => ?_) (fun c_74 => ?_)
      · have fc_74 : 0 ≤ n.toInt := zf_le c_74 (by decide) rfl
        refine lv_iload_n hx hb dX7_row_28 rfl (lv_at hl 3 rfl) ?_
        refine lv_iconst (v := 0) hx hb dX7_row_29 (by decide) ?_
        refine lv_iconst (v := 3) hx hb dX7_row_30 (by decide) ?_
        have kc0 : (0 : Int32).toInt = 0 := by decide
        have kc3 : (3 : Int32).toInt = 3 := by decide
        refine zc_S (As := [.int o, .int 0, .int 3]) (rest := []) ⟨hx, hb, hml, hown, hts⟩ (c_within l D cI cJ cZ cP cS (o) (0) (3) ) (va_cwS 3 hts gX7_row_X7_within rfl rfl rfl (by decide +kernel) ⟨Nat.le_of_ble_eq_true rfl, Nat.le_of_ble_eq_true rfl⟩) hK hN (hZ.kept hS) rfl hl.1 rfl (Nat.le_of_ble_eq_true rfl) dX7_row_31 ⟨Nat.le_of_ble_eq_true rfl, Nat.le_of_ble_eq_true rfl⟩ (fun r_75 hr_75 => ?_)
        rcases hr_75 with ⟨rfl, g_76⟩ | ⟨rfl, g_77, g_78⟩ | ⟨rfl, g_79, g_80⟩
        · refine lv_if_ne (tgt := 44) hx hb dX7_row_34 (by decide) (fun c_81 => ?_) (fun c_81 => ?_)
          · exact absurd c_81 (by decide)
          · refine lv_aload_n hx hb dX7_row_37 rfl (lv_at hl 1 rfl) ?_
            refine lv_bipush (v := 6) hx hb dX7_row_38 (by decide) ?_
            skip
            refine zw_V (As := [.int 6]) (rest := []) (wr := []) ⟨hx, hb, hml, hown, hts⟩ (c_refuse_6 l D cI cJ cZ cP cS x0 xs j0 k0 w0 rd mv xr  H.size) (cwV 1 hts gX7_row_X7_refuse rfl rfl rfl (by decide +kernel) ⟨Nat.le_of_ble_eq_true rfl, Nat.le_of_ble_eq_true rfl⟩) hK hN (hZ.kept hS) hP hD hS hA [0, 1] [] rfl rfl (by decide) (by decide) (by decide) (va_recv hK hP (ci := 7) (q0 := 0) rfl rfl) rfl hl.1 rfl (Nat.le_of_ble_eq_true rfl) dX7_row_40 ⟨Nat.le_of_ble_eq_true rfl, Nat.le_of_ble_eq_true rfl⟩ (fun r_82 u_83 H locs hr_82 hP hD hS => ?_)
            obtain rfl := hr_82
            exact W.iret (v := (-6)) hx hb hr (fun t ht hW => ⟨⟨(-6), (), rfl, Or.inr (Or.inr (Or.inl (⟨rfl, (by first | omega | decide), (by first | omega | decide), (by first | omega | decide), (by first | omega | decide)⟩))), zP_nil, zD_nil⟩, hS.F ht⟩) hS.2.2 dX7_row_43
        · refine lv_if_ne (tgt := 44) hx hb dX7_row_34 (by decide) (fun c_84 => ?_) (fun c_84 => ?_)
          · exact absurd c_84 (by decide)
          · refine lv_aload_n hx hb dX7_row_37 rfl (lv_at hl 1 rfl) ?_
            refine lv_bipush (v := 6) hx hb dX7_row_38 (by decide) ?_
            skip
            refine zw_V (As := [.int 6]) (rest := []) (wr := []) ⟨hx, hb, hml, hown, hts⟩ (c_refuse_6 l D cI cJ cZ cP cS x0 xs j0 k0 w0 rd mv xr  H.size) (cwV 1 hts gX7_row_X7_refuse rfl rfl rfl (by decide +kernel) ⟨Nat.le_of_ble_eq_true rfl, Nat.le_of_ble_eq_true rfl⟩) hK hN (hZ.kept hS) hP hD hS hA [0, 1] [] rfl rfl (by decide) (by decide) (by decide) (va_recv hK hP (ci := 7) (q0 := 0) rfl rfl) rfl hl.1 rfl (Nat.le_of_ble_eq_true rfl) dX7_row_40 ⟨Nat.le_of_ble_eq_true rfl, Nat.le_of_ble_eq_true rfl⟩ (fun r_85 u_86 H locs hr_85 hP hD hS => ?_)
            obtain rfl := hr_85
            exact W.iret (v := (-6)) hx hb hr (fun t ht hW => ⟨⟨(-6), (), rfl, Or.inr (Or.inr (Or.inr (Or.inl (⟨rfl, (by first | omega | decide), (by first | omega | decide), (by first | omega | decide), (by first | omega | decide), (by first | omega | decide)⟩)))), zP_nil, zD_nil⟩, hS.F ht⟩) hS.2.2 dX7_row_43
        · refine lv_if_ne (tgt := 44) hx hb dX7_row_34 (by decide) (fun c_87 => ?_) (fun c_87 => ?_)
          · refine lv_iload_n hx hb dX7_row_44 rfl (lv_at hl 4 rfl) ?_
            refine lv_sipush (v := 160) hx hb dX7_row_45 (by decide) ?_
            refine lv_icmp_le (tgt := 58) hx hb dX7_row_48 (by decide) (fun c_88 => ?_) (fun c_88 => ?_)
            · have fc_88 : n.toInt ≤ 160 := zf_le c_88 rfl (by decide)
              refine lv_aload hx hb dX7_row_58 (lv_at hl 0 rfl) ?_
              refine lv_iload_n hx hb dX7_row_60 rfl (lv_at hl 3 rfl) ?_
              refine lv_iload_n hx hb dX7_row_61 rfl (lv_at hl 4 rfl) ?_
              skip
              refine zw_Vv (As := [.int o, .int n]) (rest := []) (wr := []) ⟨hx, hb, hml, hown, hts⟩ (c_Shelf_holdRow l D cI cJ cZ cP cS ((sh 3)) ((el 3)) (o) (n)  H.size) (cwV 2 hts gX7_row_X4_holdRow rfl rfl rfl (by decide +kernel) ⟨Nat.le_of_ble_eq_true rfl, Nat.le_of_ble_eq_true rfl⟩) hK hN (hZ.kept hS) hP hD hS hA [6, 14] [] rfl rfl (by decide) (by decide) (by decide) (va_recv hK hP (ci := 4) (q0 := 6) rfl rfl) rfl hl.1 rfl (Nat.le_of_ble_eq_true rfl) dX7_row_62 ⟨Nat.le_of_ble_eq_true rfl, Nat.le_of_ble_eq_true rfl⟩ (fun u_90 H locs hr_89 hP hD hS => ?_)
              refine lv_iconst (v := 1) hx hb dX7_row_65 (by decide) ?_
              exact W.iret (v := 1) hx hb hr (fun t ht hW => ⟨⟨1, (), rfl, Or.inr (Or.inr (Or.inr (Or.inr (Or.inl (⟨rfl, (by first | omega | decide), (by first | omega | decide), (by first | omega | decide), (by first | omega | decide), (by first | omega | decide), (by first | omega | decide)⟩))))), zP_nil, zD_nil⟩, hS.F ht⟩) hS.2.2 dX7_row_66
            · have fc_88 : 160 < n.toInt := zf_nle c_88 rfl (by decide)
              refine lv_aload_n hx hb dX7_row_51 rfl (lv_at hl 1 rfl) ?_
              refine lv_bipush (v := 7) hx hb dX7_row_52 (by decide) ?_
              skip
              refine zw_V (As := [.int 7]) (rest := []) (wr := []) ⟨hx, hb, hml, hown, hts⟩ (c_refuse_7 l D cI cJ cZ cP cS x0 xs j0 k0 w0 rd mv xr  H.size) (cwV 1 hts gX7_row_X7_refuse rfl rfl rfl (by decide +kernel) ⟨Nat.le_of_ble_eq_true rfl, Nat.le_of_ble_eq_true rfl⟩) hK hN (hZ.kept hS) hP hD hS hA [0, 1] [] rfl rfl (by decide) (by decide) (by decide) (va_recv hK hP (ci := 7) (q0 := 0) rfl rfl) rfl hl.1 rfl (Nat.le_of_ble_eq_true rfl) dX7_row_54 ⟨Nat.le_of_ble_eq_true rfl, Nat.le_of_ble_eq_true rfl⟩ (fun r_91 u_92 H locs hr_91 hP hD hS => ?_)
              obtain rfl := hr_91
              exact W.iret (v := (-7)) hx hb hr (fun t ht hW => ⟨⟨(-7), (), rfl, Or.inr (Or.inr (Or.inr (Or.inr (Or.inr (Or.inl (⟨rfl, (by first | omega | decide), (by first | omega | decide), (by first | omega | decide), (by first | omega | decide), (by first | omega | decide), (by first | omega | decide)⟩)))))), zP_nil, zD_nil⟩, hS.F ht⟩) hS.2.2 dX7_row_57
          · exact absurd c_87 (by decide)
      · have fc_74 : n.toInt < 0 := zf_nle c_74 (by decide) rfl
        refine lv_aload_n hx hb dX7_row_22 rfl (lv_at hl 1 rfl) ?_
        refine lv_iconst (v := 4) hx hb dX7_row_23 (by decide) ?_
        skip
        refine zw_V (As := [.int 4]) (rest := []) (wr := []) ⟨hx, hb, hml, hown, hts⟩ (c_refuse_4 l D cI cJ cZ cP cS x0 xs j0 k0 w0 rd mv xr  H.size) (cwV 1 hts gX7_row_X7_refuse rfl rfl rfl (by decide +kernel) ⟨Nat.le_of_ble_eq_true rfl, Nat.le_of_ble_eq_true rfl⟩) hK hN (hZ.kept hS) hP hD hS hA [0, 1] [] rfl rfl (by decide) (by decide) (by decide) (va_recv hK hP (ci := 7) (q0 := 0) rfl rfl) rfl hl.1 rfl (Nat.le_of_ble_eq_true rfl) dX7_row_24 ⟨Nat.le_of_ble_eq_true rfl, Nat.le_of_ble_eq_true rfl⟩ (fun r_93 u_94 H locs hr_93 hP hD hS => ?_)
        obtain rfl := hr_93
        exact W.iret (v := (-4)) hx hb hr (fun t ht hW => ⟨⟨(-4), (), rfl, Or.inr (Or.inr (Or.inr (Or.inr (Or.inr (Or.inr (⟨rfl, (by first | omega | decide), (by first | omega | decide), (by first | omega | decide)⟩)))))), zP_nil, zD_nil⟩, hS.F ht⟩) hS.2.2 dX7_row_27
    · refine W.eq (g2 := F0 m 5 ls (.ref (sh 4) :: [])) rfl ?_
      refine lv_astore (lv' := [(4, .ref (sh 4)), (0, .ref x0), (1, .int s_), (2, .int o), (3, .int n)]) hx hb dX7_row_5 hl (by decide) rfl (fun ls hl => ?_)
      refine lv_aload hx hb dX7_row_7 (lv_at hl 0 rfl) ?_
      refine lv_ifnonnull (tgt := 18) hx hb dX7_row_9 (by decide) ?_
      refine lv_iload_n hx hb dX7_row_18 rfl (lv_at hl 4 rfl) ?_
      refine lv_if_ge (tgt := 28) hx hb dX7_row_19 (by decide) (fun c_95 => ?_) (fun c_95 => ?_)
      · have fc_95 : 0 ≤ n.toInt := zf_le c_95 (by decide) rfl
        refine lv_iload_n hx hb dX7_row_28 rfl (lv_at hl 3 rfl) ?_
        refine lv_iconst (v := 0) hx hb dX7_row_29 (by decide) ?_
        refine lv_iconst (v := 3) hx hb dX7_row_30 (by decide) ?_
        have kc0 : (0 : Int32).toInt = 0 := by decide
        have kc3 : (3 : Int32).toInt = 3 := by decide
        refine zc_S (As := [.int o, .int 0, .int 3]) (rest := []) ⟨hx, hb, hml, hown, hts⟩ (c_within l D cI cJ cZ cP cS (o) (0) (3) ) (va_cwS 3 hts gX7_row_X7_within rfl rfl rfl (by decide +kernel) ⟨Nat.le_of_ble_eq_true rfl, Nat.le_of_ble_eq_true rfl⟩) hK hN (hZ.kept hS) rfl hl.1 rfl (Nat.le_of_ble_eq_true rfl) dX7_row_31 ⟨Nat.le_of_ble_eq_true rfl, Nat.le_of_ble_eq_true rfl⟩ (fun r_96 hr_96 => ?_)
        rcases hr_96 with ⟨rfl, g_97⟩ | ⟨rfl, g_98, g_99⟩ | ⟨rfl, g_100, g_101⟩
        · refine lv_if_ne (tgt := 44) hx hb dX7_row_34 (by decide) (fun c_102 => ?_) (fun c_102 => ?_)
          · exact absurd c_102 (by decide)
          · refine lv_aload_n hx hb dX7_row_37 rfl (lv_at hl 1 rfl) ?_
            refine lv_bipush (v := 6) hx hb dX7_row_38 (by decide) ?_
            skip
            refine zw_V (As := [.int 6]) (rest := []) (wr := []) ⟨hx, hb, hml, hown, hts⟩ (c_refuse_6 l D cI cJ cZ cP cS x0 xs j0 k0 w0 rd mv xr  H.size) (cwV 1 hts gX7_row_X7_refuse rfl rfl rfl (by decide +kernel) ⟨Nat.le_of_ble_eq_true rfl, Nat.le_of_ble_eq_true rfl⟩) hK hN (hZ.kept hS) hP hD hS hA [0, 1] [] rfl rfl (by decide) (by decide) (by decide) (va_recv hK hP (ci := 7) (q0 := 0) rfl rfl) rfl hl.1 rfl (Nat.le_of_ble_eq_true rfl) dX7_row_40 ⟨Nat.le_of_ble_eq_true rfl, Nat.le_of_ble_eq_true rfl⟩ (fun r_103 u_104 H locs hr_103 hP hD hS => ?_)
            obtain rfl := hr_103
            exact W.iret (v := (-6)) hx hb hr (fun t ht hW => ⟨⟨(-6), (), rfl, Or.inr (Or.inr (Or.inl (⟨rfl, (by first | omega | decide), (by first | omega | decide), (by first | omega | decide), (by first | omega | decide)⟩))), zP_nil, zD_nil⟩, hS.F ht⟩) hS.2.2 dX7_row_43
        · refine lv_if_ne (tgt := 44) hx hb dX7_row_34 (by decide) (fun c_105 => ?_) (fun c_105 => ?_)
          · exact absurd c_105 (by decide)
          · refine lv_aload_n hx hb dX7_row_37 rfl (lv_at hl 1 rfl) ?_
            refine lv_bipush (v := 6) hx hb dX7_row_38 (by decide) ?_
            skip
            refine zw_V (As := [.int 6]) (rest := []) (wr := []) ⟨hx, hb, hml, hown, hts⟩ (c_refuse_6 l D cI cJ cZ cP cS x0 xs j0 k0 w0 rd mv xr  H.size) (cwV 1 hts gX7_row_X7_refuse rfl rfl rfl (by decide +kernel) ⟨Nat.le_of_ble_eq_true rfl, Nat.le_of_ble_eq_true rfl⟩) hK hN (hZ.kept hS) hP hD hS hA [0, 1] [] rfl rfl (by decide) (by decide) (by decide) (va_recv hK hP (ci := 7) (q0 := 0) rfl rfl) rfl hl.1 rfl (Nat.le_of_ble_eq_true rfl) dX7_row_40 ⟨Nat.le_of_ble_eq_true rfl, Nat.le_of_ble_eq_true rfl⟩ (fun r_106 u_107 H locs hr_106 hP hD hS => ?_)
            obtain rfl := hr_106
            exact W.iret (v := (-6)) hx hb hr (fun t ht hW => ⟨⟨(-6), (), rfl, Or.inr (Or.inr (Or.inr (Or.inl (⟨rfl, (by first | omega | decide), (by first | omega | decide), (by first | omega | decide), (by first | omega | decide), (by first | omega | decide)⟩)))), zP_nil, zD_nil⟩, hS.F ht⟩) hS.2.2 dX7_row_43
        · refine lv_if_ne (tgt := 44) hx hb dX7_row_34 (by decide) (fun c_108 => ?_) (fun c_108 => ?_)
          · refine lv_iload_n hx hb dX7_row_44 rfl (lv_at hl 4 rfl) ?_
            refine lv_sipush (v := 160) hx hb dX7_row_45 (by decide) ?_
            refine lv_icmp_le (tgt := 58) hx hb dX7_row_48 (by decide) (fun c_109 => ?_) (fun c_109 => ?_)
            · have fc_109 : n.toInt ≤ 160 := zf_le c_109 rfl (by decide)
              refine lv_aload hx hb dX7_row_58 (lv_at hl 0 rfl) ?_
              refine lv_iload_n hx hb dX7_row_60 rfl (lv_at hl 3 rfl) ?_
              refine lv_iload_n hx hb dX7_row_61 rfl (lv_at hl 4 rfl) ?_
              skip
              refine zw_Vv (As := [.int o, .int n]) (rest := []) (wr := []) ⟨hx, hb, hml, hown, hts⟩ (c_Shelf_holdRow l D cI cJ cZ cP cS ((sh 4)) ((el 4)) (o) (n)  H.size) (cwV 2 hts gX7_row_X4_holdRow rfl rfl rfl (by decide +kernel) ⟨Nat.le_of_ble_eq_true rfl, Nat.le_of_ble_eq_true rfl⟩) hK hN (hZ.kept hS) hP hD hS hA [7, 15] [] rfl rfl (by decide) (by decide) (by decide) (va_recv hK hP (ci := 4) (q0 := 7) rfl rfl) rfl hl.1 rfl (Nat.le_of_ble_eq_true rfl) dX7_row_62 ⟨Nat.le_of_ble_eq_true rfl, Nat.le_of_ble_eq_true rfl⟩ (fun u_111 H locs hr_110 hP hD hS => ?_)
              refine lv_iconst (v := 1) hx hb dX7_row_65 (by decide) ?_
              exact W.iret (v := 1) hx hb hr (fun t ht hW => ⟨⟨1, (), rfl, Or.inr (Or.inr (Or.inr (Or.inr (Or.inl (⟨rfl, (by first | omega | decide), (by first | omega | decide), (by first | omega | decide), (by first | omega | decide), (by first | omega | decide), (by first | omega | decide)⟩))))), zP_nil, zD_nil⟩, hS.F ht⟩) hS.2.2 dX7_row_66
            · have fc_109 : 160 < n.toInt := zf_nle c_109 rfl (by decide)
              refine lv_aload_n hx hb dX7_row_51 rfl (lv_at hl 1 rfl) ?_
              refine lv_bipush (v := 7) hx hb dX7_row_52 (by decide) ?_
              skip
              refine zw_V (As := [.int 7]) (rest := []) (wr := []) ⟨hx, hb, hml, hown, hts⟩ (c_refuse_7 l D cI cJ cZ cP cS x0 xs j0 k0 w0 rd mv xr  H.size) (cwV 1 hts gX7_row_X7_refuse rfl rfl rfl (by decide +kernel) ⟨Nat.le_of_ble_eq_true rfl, Nat.le_of_ble_eq_true rfl⟩) hK hN (hZ.kept hS) hP hD hS hA [0, 1] [] rfl rfl (by decide) (by decide) (by decide) (va_recv hK hP (ci := 7) (q0 := 0) rfl rfl) rfl hl.1 rfl (Nat.le_of_ble_eq_true rfl) dX7_row_54 ⟨Nat.le_of_ble_eq_true rfl, Nat.le_of_ble_eq_true rfl⟩ (fun r_112 u_113 H locs hr_112 hP hD hS => ?_)
              obtain rfl := hr_112
              exact W.iret (v := (-7)) hx hb hr (fun t ht hW => ⟨⟨(-7), (), rfl, Or.inr (Or.inr (Or.inr (Or.inr (Or.inr (Or.inl (⟨rfl, (by first | omega | decide), (by first | omega | decide), (by first | omega | decide), (by first | omega | decide), (by first | omega | decide), (by first | omega | decide)⟩)))))), zP_nil, zD_nil⟩, hS.F ht⟩) hS.2.2 dX7_row_57
          · exact absurd c_108 (by decide)
      · have fc_95 : n.toInt < 0 := zf_nle c_95 (by decide) rfl
        refine lv_aload_n hx hb dX7_row_22 rfl (lv_at hl 1 rfl) ?_
        refine lv_iconst (v := 4) hx hb dX7_row_23 (by decide) ?_
        skip
        refine zw_V (As := [.int 4]) (rest := []) (wr := []) ⟨hx, hb, hml, hown, hts⟩ (c_refuse_4 l D cI cJ cZ cP cS x0 xs j0 k0 w0 rd mv xr  H.size) (cwV 1 hts gX7_row_X7_refuse rfl rfl rfl (by decide +kernel) ⟨Nat.le_of_ble_eq_true rfl, Nat.le_of_ble_eq_true rfl⟩) hK hN (hZ.kept hS) hP hD hS hA [0, 1] [] rfl rfl (by decide) (by decide) (by decide) (va_recv hK hP (ci := 7) (q0 := 0) rfl rfl) rfl hl.1 rfl (Nat.le_of_ble_eq_true rfl) dX7_row_24 ⟨Nat.le_of_ble_eq_true rfl, Nat.le_of_ble_eq_true rfl⟩ (fun r_114 u_115 H locs hr_114 hP hD hS => ?_)
        obtain rfl := hr_114
        exact W.iret (v := (-4)) hx hb hr (fun t ht hW => ⟨⟨(-4), (), rfl, Or.inr (Or.inr (Or.inr (Or.inr (Or.inr (Or.inr (⟨rfl, (by first | omega | decide), (by first | omega | decide), (by first | omega | decide)⟩)))))), zP_nil, zD_nil⟩, hS.F ht⟩) hS.2.2 dX7_row_27
    · refine W.eq (g2 := F0 m 5 ls (.ref (sh 5) :: [])) rfl ?_
      refine lv_astore (lv' := [(4, .ref (sh 5)), (0, .ref x0), (1, .int s_), (2, .int o), (3, .int n)]) hx hb dX7_row_5 hl (by decide) rfl (fun ls hl => ?_)
      refine lv_aload hx hb dX7_row_7 (lv_at hl 0 rfl) ?_
      refine lv_ifnonnull (tgt := 18) hx hb dX7_row_9 (by decide) ?_
      refine lv_iload_n hx hb dX7_row_18 rfl (lv_at hl 4 rfl) ?_
      refine lv_if_ge (tgt := 28) hx hb dX7_row_19 (by decide) (fun c_116 => ?_) (fun c_116 => ?_)
      · have fc_116 : 0 ≤ n.toInt := zf_le c_116 (by decide) rfl
        refine lv_iload_n hx hb dX7_row_28 rfl (lv_at hl 3 rfl) ?_
        refine lv_iconst (v := 0) hx hb dX7_row_29 (by decide) ?_
        refine lv_iconst (v := 3) hx hb dX7_row_30 (by decide) ?_
        have kc0 : (0 : Int32).toInt = 0 := by decide
        have kc3 : (3 : Int32).toInt = 3 := by decide
        refine zc_S (As := [.int o, .int 0, .int 3]) (rest := []) ⟨hx, hb, hml, hown, hts⟩ (c_within l D cI cJ cZ cP cS (o) (0) (3) ) (va_cwS 3 hts gX7_row_X7_within rfl rfl rfl (by decide +kernel) ⟨Nat.le_of_ble_eq_true rfl, Nat.le_of_ble_eq_true rfl⟩) hK hN (hZ.kept hS) rfl hl.1 rfl (Nat.le_of_ble_eq_true rfl) dX7_row_31 ⟨Nat.le_of_ble_eq_true rfl, Nat.le_of_ble_eq_true rfl⟩ (fun r_117 hr_117 => ?_)
        rcases hr_117 with ⟨rfl, g_118⟩ | ⟨rfl, g_119, g_120⟩ | ⟨rfl, g_121, g_122⟩
        · refine lv_if_ne (tgt := 44) hx hb dX7_row_34 (by decide) (fun c_123 => ?_) (fun c_123 => ?_)
          · exact absurd c_123 (by decide)
          · refine lv_aload_n hx hb dX7_row_37 rfl (lv_at hl 1 rfl) ?_
            refine lv_bipush (v := 6) hx hb dX7_row_38 (by decide) ?_
            skip
            refine zw_V (As := [.int 6]) (rest := []) (wr := []) ⟨hx, hb, hml, hown, hts⟩ (c_refuse_6 l D cI cJ cZ cP cS x0 xs j0 k0 w0 rd mv xr  H.size) (cwV 1 hts gX7_row_X7_refuse rfl rfl rfl (by decide +kernel) ⟨Nat.le_of_ble_eq_true rfl, Nat.le_of_ble_eq_true rfl⟩) hK hN (hZ.kept hS) hP hD hS hA [0, 1] [] rfl rfl (by decide) (by decide) (by decide) (va_recv hK hP (ci := 7) (q0 := 0) rfl rfl) rfl hl.1 rfl (Nat.le_of_ble_eq_true rfl) dX7_row_40 ⟨Nat.le_of_ble_eq_true rfl, Nat.le_of_ble_eq_true rfl⟩ (fun r_124 u_125 H locs hr_124 hP hD hS => ?_)
            obtain rfl := hr_124
            exact W.iret (v := (-6)) hx hb hr (fun t ht hW => ⟨⟨(-6), (), rfl, Or.inr (Or.inr (Or.inl (⟨rfl, (by first | omega | decide), (by first | omega | decide), (by first | omega | decide), (by first | omega | decide)⟩))), zP_nil, zD_nil⟩, hS.F ht⟩) hS.2.2 dX7_row_43
        · refine lv_if_ne (tgt := 44) hx hb dX7_row_34 (by decide) (fun c_126 => ?_) (fun c_126 => ?_)
          · exact absurd c_126 (by decide)
          · refine lv_aload_n hx hb dX7_row_37 rfl (lv_at hl 1 rfl) ?_
            refine lv_bipush (v := 6) hx hb dX7_row_38 (by decide) ?_
            skip
            refine zw_V (As := [.int 6]) (rest := []) (wr := []) ⟨hx, hb, hml, hown, hts⟩ (c_refuse_6 l D cI cJ cZ cP cS x0 xs j0 k0 w0 rd mv xr  H.size) (cwV 1 hts gX7_row_X7_refuse rfl rfl rfl (by decide +kernel) ⟨Nat.le_of_ble_eq_true rfl, Nat.le_of_ble_eq_true rfl⟩) hK hN (hZ.kept hS) hP hD hS hA [0, 1] [] rfl rfl (by decide) (by decide) (by decide) (va_recv hK hP (ci := 7) (q0 := 0) rfl rfl) rfl hl.1 rfl (Nat.le_of_ble_eq_true rfl) dX7_row_40 ⟨Nat.le_of_ble_eq_true rfl, Nat.le_of_ble_eq_true rfl⟩ (fun r_127 u_128 H locs hr_127 hP hD hS => ?_)
            obtain rfl := hr_127
            exact W.iret (v := (-6)) hx hb hr (fun t ht hW => ⟨⟨(-6), (), rfl, Or.inr (Or.inr (Or.inr (Or.inl (⟨rfl, (by first | omega | decide), (by first | omega | decide), (by first | omega | decide), (by first | omega | decide), (by first | omega | decide)⟩)))), zP_nil, zD_nil⟩, hS.F ht⟩) hS.2.2 dX7_row_43
        · refine lv_if_ne (tgt := 44) hx hb dX7_row_34 (by decide) (fun c_129 => ?_) (fun c_129 => ?_)
          · refine lv_iload_n hx hb dX7_row_44 rfl (lv_at hl 4 rfl) ?_
            refine lv_sipush (v := 160) hx hb dX7_row_45 (by decide) ?_
            refine lv_icmp_le (tgt := 58) hx hb dX7_row_48 (by decide) (fun c_130 => ?_) (fun c_130 => ?_)
            · have fc_130 : n.toInt ≤ 160 := zf_le c_130 rfl (by decide)
              refine lv_aload hx hb dX7_row_58 (lv_at hl 0 rfl) ?_
              refine lv_iload_n hx hb dX7_row_60 rfl (lv_at hl 3 rfl) ?_
              refine lv_iload_n hx hb dX7_row_61 rfl (lv_at hl 4 rfl) ?_
              skip
              refine zw_Vv (As := [.int o, .int n]) (rest := []) (wr := []) ⟨hx, hb, hml, hown, hts⟩ (c_Shelf_holdRow l D cI cJ cZ cP cS ((sh 5)) ((el 5)) (o) (n)  H.size) (cwV 2 hts gX7_row_X4_holdRow rfl rfl rfl (by decide +kernel) ⟨Nat.le_of_ble_eq_true rfl, Nat.le_of_ble_eq_true rfl⟩) hK hN (hZ.kept hS) hP hD hS hA [8, 16] [] rfl rfl (by decide) (by decide) (by decide) (va_recv hK hP (ci := 4) (q0 := 8) rfl rfl) rfl hl.1 rfl (Nat.le_of_ble_eq_true rfl) dX7_row_62 ⟨Nat.le_of_ble_eq_true rfl, Nat.le_of_ble_eq_true rfl⟩ (fun u_132 H locs hr_131 hP hD hS => ?_)
              refine lv_iconst (v := 1) hx hb dX7_row_65 (by decide) ?_
              exact W.iret (v := 1) hx hb hr (fun t ht hW => ⟨⟨1, (), rfl, Or.inr (Or.inr (Or.inr (Or.inr (Or.inl (⟨rfl, (by first | omega | decide), (by first | omega | decide), (by first | omega | decide), (by first | omega | decide), (by first | omega | decide), (by first | omega | decide)⟩))))), zP_nil, zD_nil⟩, hS.F ht⟩) hS.2.2 dX7_row_66
            · have fc_130 : 160 < n.toInt := zf_nle c_130 rfl (by decide)
              refine lv_aload_n hx hb dX7_row_51 rfl (lv_at hl 1 rfl) ?_
              refine lv_bipush (v := 7) hx hb dX7_row_52 (by decide) ?_
              skip
              refine zw_V (As := [.int 7]) (rest := []) (wr := []) ⟨hx, hb, hml, hown, hts⟩ (c_refuse_7 l D cI cJ cZ cP cS x0 xs j0 k0 w0 rd mv xr  H.size) (cwV 1 hts gX7_row_X7_refuse rfl rfl rfl (by decide +kernel) ⟨Nat.le_of_ble_eq_true rfl, Nat.le_of_ble_eq_true rfl⟩) hK hN (hZ.kept hS) hP hD hS hA [0, 1] [] rfl rfl (by decide) (by decide) (by decide) (va_recv hK hP (ci := 7) (q0 := 0) rfl rfl) rfl hl.1 rfl (Nat.le_of_ble_eq_true rfl) dX7_row_54 ⟨Nat.le_of_ble_eq_true rfl, Nat.le_of_ble_eq_true rfl⟩ (fun r_133 u_134 H locs hr_133 hP hD hS => ?_)
              obtain rfl := hr_133
              exact W.iret (v := (-7)) hx hb hr (fun t ht hW => ⟨⟨(-7), (), rfl, Or.inr (Or.inr (Or.inr (Or.inr (Or.inr (Or.inl (⟨rfl, (by first | omega | decide), (by first | omega | decide), (by first | omega | decide), (by first | omega | decide), (by first | omega | decide), (by first | omega | decide)⟩)))))), zP_nil, zD_nil⟩, hS.F ht⟩) hS.2.2 dX7_row_57
          · exact absurd c_129 (by decide)
      · have fc_116 : n.toInt < 0 := zf_nle c_116 (by decide) rfl
        refine lv_aload_n hx hb dX7_row_22 rfl (lv_at hl 1 rfl) ?_
        refine lv_iconst (v := 4) hx hb dX7_row_23 (by decide) ?_
        skip
        refine zw_V (As := [.int 4]) (rest := []) (wr := []) ⟨hx, hb, hml, hown, hts⟩ (c_refuse_4 l D cI cJ cZ cP cS x0 xs j0 k0 w0 rd mv xr  H.size) (cwV 1 hts gX7_row_X7_refuse rfl rfl rfl (by decide +kernel) ⟨Nat.le_of_ble_eq_true rfl, Nat.le_of_ble_eq_true rfl⟩) hK hN (hZ.kept hS) hP hD hS hA [0, 1] [] rfl rfl (by decide) (by decide) (by decide) (va_recv hK hP (ci := 7) (q0 := 0) rfl rfl) rfl hl.1 rfl (Nat.le_of_ble_eq_true rfl) dX7_row_24 ⟨Nat.le_of_ble_eq_true rfl, Nat.le_of_ble_eq_true rfl⟩ (fun r_135 u_136 H locs hr_135 hP hD hS => ?_)
        obtain rfl := hr_135
        exact W.iret (v := (-4)) hx hb hr (fun t ht hW => ⟨⟨(-4), (), rfl, Or.inr (Or.inr (Or.inr (Or.inr (Or.inr (Or.inr (⟨rfl, (by first | omega | decide), (by first | omega | decide), (by first | omega | decide)⟩)))))), zP_nil, zD_nil⟩, hS.F ht⟩) hS.2.2 dX7_row_27
    · refine W.eq (g2 := F0 m 5 ls (.ref (sh 6) :: [])) rfl ?_
      refine lv_astore (lv' := [(4, .ref (sh 6)), (0, .ref x0), (1, .int s_), (2, .int o), (3, .int n)]) hx hb dX7_row_5 hl (by decide) rfl (fun ls hl => ?_)
      refine lv_aload hx hb dX7_row_7 (lv_at hl 0 rfl) ?_
      refine lv_ifnonnull (tgt := 18) hx hb dX7_row_9 (by decide) ?_
      refine lv_iload_n hx hb dX7_row_18 rfl (lv_at hl 4 rfl) ?_
      refine lv_if_ge (tgt := 28) hx hb dX7_row_19 (by decide) (fun c_137 => ?_) (fun c_137 => ?_)
      · have fc_137 : 0 ≤ n.toInt := zf_le c_137 (by decide) rfl
        refine lv_iload_n hx hb dX7_row_28 rfl (lv_at hl 3 rfl) ?_
        refine lv_iconst (v := 0) hx hb dX7_row_29 (by decide) ?_
        refine lv_iconst (v := 3) hx hb dX7_row_30 (by decide) ?_
        have kc0 : (0 : Int32).toInt = 0 := by decide
        have kc3 : (3 : Int32).toInt = 3 := by decide
        refine zc_S (As := [.int o, .int 0, .int 3]) (rest := []) ⟨hx, hb, hml, hown, hts⟩ (c_within l D cI cJ cZ cP cS (o) (0) (3) ) (va_cwS 3 hts gX7_row_X7_within rfl rfl rfl (by decide +kernel) ⟨Nat.le_of_ble_eq_true rfl, Nat.le_of_ble_eq_true rfl⟩) hK hN (hZ.kept hS) rfl hl.1 rfl (Nat.le_of_ble_eq_true rfl) dX7_row_31 ⟨Nat.le_of_ble_eq_true rfl, Nat.le_of_ble_eq_true rfl⟩ (fun r_138 hr_138 => ?_)
        rcases hr_138 with ⟨rfl, g_139⟩ | ⟨rfl, g_140, g_141⟩ | ⟨rfl, g_142, g_143⟩
        · refine lv_if_ne (tgt := 44) hx hb dX7_row_34 (by decide) (fun c_144 => ?_) (fun c_144 => ?_)
          · exact absurd c_144 (by decide)
          · refine lv_aload_n hx hb dX7_row_37 rfl (lv_at hl 1 rfl) ?_
            refine lv_bipush (v := 6) hx hb dX7_row_38 (by decide) ?_
            skip
            refine zw_V (As := [.int 6]) (rest := []) (wr := []) ⟨hx, hb, hml, hown, hts⟩ (c_refuse_6 l D cI cJ cZ cP cS x0 xs j0 k0 w0 rd mv xr  H.size) (cwV 1 hts gX7_row_X7_refuse rfl rfl rfl (by decide +kernel) ⟨Nat.le_of_ble_eq_true rfl, Nat.le_of_ble_eq_true rfl⟩) hK hN (hZ.kept hS) hP hD hS hA [0, 1] [] rfl rfl (by decide) (by decide) (by decide) (va_recv hK hP (ci := 7) (q0 := 0) rfl rfl) rfl hl.1 rfl (Nat.le_of_ble_eq_true rfl) dX7_row_40 ⟨Nat.le_of_ble_eq_true rfl, Nat.le_of_ble_eq_true rfl⟩ (fun r_145 u_146 H locs hr_145 hP hD hS => ?_)
            obtain rfl := hr_145
            exact W.iret (v := (-6)) hx hb hr (fun t ht hW => ⟨⟨(-6), (), rfl, Or.inr (Or.inr (Or.inl (⟨rfl, (by first | omega | decide), (by first | omega | decide), (by first | omega | decide), (by first | omega | decide)⟩))), zP_nil, zD_nil⟩, hS.F ht⟩) hS.2.2 dX7_row_43
        · refine lv_if_ne (tgt := 44) hx hb dX7_row_34 (by decide) (fun c_147 => ?_) (fun c_147 => ?_)
          · exact absurd c_147 (by decide)
          · refine lv_aload_n hx hb dX7_row_37 rfl (lv_at hl 1 rfl) ?_
            refine lv_bipush (v := 6) hx hb dX7_row_38 (by decide) ?_
            skip
            refine zw_V (As := [.int 6]) (rest := []) (wr := []) ⟨hx, hb, hml, hown, hts⟩ (c_refuse_6 l D cI cJ cZ cP cS x0 xs j0 k0 w0 rd mv xr  H.size) (cwV 1 hts gX7_row_X7_refuse rfl rfl rfl (by decide +kernel) ⟨Nat.le_of_ble_eq_true rfl, Nat.le_of_ble_eq_true rfl⟩) hK hN (hZ.kept hS) hP hD hS hA [0, 1] [] rfl rfl (by decide) (by decide) (by decide) (va_recv hK hP (ci := 7) (q0 := 0) rfl rfl) rfl hl.1 rfl (Nat.le_of_ble_eq_true rfl) dX7_row_40 ⟨Nat.le_of_ble_eq_true rfl, Nat.le_of_ble_eq_true rfl⟩ (fun r_148 u_149 H locs hr_148 hP hD hS => ?_)
            obtain rfl := hr_148
            exact W.iret (v := (-6)) hx hb hr (fun t ht hW => ⟨⟨(-6), (), rfl, Or.inr (Or.inr (Or.inr (Or.inl (⟨rfl, (by first | omega | decide), (by first | omega | decide), (by first | omega | decide), (by first | omega | decide), (by first | omega | decide)⟩)))), zP_nil, zD_nil⟩, hS.F ht⟩) hS.2.2 dX7_row_43
        · refine lv_if_ne (tgt := 44) hx hb dX7_row_34 (by decide) (fun c_150 => ?_) (fun c_150 => ?_)
          · refine lv_iload_n hx hb dX7_row_44 rfl (lv_at hl 4 rfl) ?_
            refine lv_sipush (v := 160) hx hb dX7_row_45 (by decide) ?_
            refine lv_icmp_le (tgt := 58) hx hb dX7_row_48 (by decide) (fun c_151 => ?_) (fun c_151 => ?_)
            · have fc_151 : n.toInt ≤ 160 := zf_le c_151 rfl (by decide)
              refine lv_aload hx hb dX7_row_58 (lv_at hl 0 rfl) ?_
              refine lv_iload_n hx hb dX7_row_60 rfl (lv_at hl 3 rfl) ?_
              refine lv_iload_n hx hb dX7_row_61 rfl (lv_at hl 4 rfl) ?_
              skip
              refine zw_Vv (As := [.int o, .int n]) (rest := []) (wr := []) ⟨hx, hb, hml, hown, hts⟩ (c_Shelf_holdRow l D cI cJ cZ cP cS ((sh 6)) ((el 6)) (o) (n)  H.size) (cwV 2 hts gX7_row_X4_holdRow rfl rfl rfl (by decide +kernel) ⟨Nat.le_of_ble_eq_true rfl, Nat.le_of_ble_eq_true rfl⟩) hK hN (hZ.kept hS) hP hD hS hA [9, 17] [] rfl rfl (by decide) (by decide) (by decide) (va_recv hK hP (ci := 4) (q0 := 9) rfl rfl) rfl hl.1 rfl (Nat.le_of_ble_eq_true rfl) dX7_row_62 ⟨Nat.le_of_ble_eq_true rfl, Nat.le_of_ble_eq_true rfl⟩ (fun u_153 H locs hr_152 hP hD hS => ?_)
              refine lv_iconst (v := 1) hx hb dX7_row_65 (by decide) ?_
              exact W.iret (v := 1) hx hb hr (fun t ht hW => ⟨⟨1, (), rfl, Or.inr (Or.inr (Or.inr (Or.inr (Or.inl (⟨rfl, (by first | omega | decide), (by first | omega | decide), (by first | omega | decide), (by first | omega | decide), (by first | omega | decide), (by first | omega | decide)⟩))))), zP_nil, zD_nil⟩, hS.F ht⟩) hS.2.2 dX7_row_66
            · have fc_151 : 160 < n.toInt := zf_nle c_151 rfl (by decide)
              refine lv_aload_n hx hb dX7_row_51 rfl (lv_at hl 1 rfl) ?_
              refine lv_bipush (v := 7) hx hb dX7_row_52 (by decide) ?_
              skip
              refine zw_V (As := [.int 7]) (rest := []) (wr := []) ⟨hx, hb, hml, hown, hts⟩ (c_refuse_7 l D cI cJ cZ cP cS x0 xs j0 k0 w0 rd mv xr  H.size) (cwV 1 hts gX7_row_X7_refuse rfl rfl rfl (by decide +kernel) ⟨Nat.le_of_ble_eq_true rfl, Nat.le_of_ble_eq_true rfl⟩) hK hN (hZ.kept hS) hP hD hS hA [0, 1] [] rfl rfl (by decide) (by decide) (by decide) (va_recv hK hP (ci := 7) (q0 := 0) rfl rfl) rfl hl.1 rfl (Nat.le_of_ble_eq_true rfl) dX7_row_54 ⟨Nat.le_of_ble_eq_true rfl, Nat.le_of_ble_eq_true rfl⟩ (fun r_154 u_155 H locs hr_154 hP hD hS => ?_)
              obtain rfl := hr_154
              exact W.iret (v := (-7)) hx hb hr (fun t ht hW => ⟨⟨(-7), (), rfl, Or.inr (Or.inr (Or.inr (Or.inr (Or.inr (Or.inl (⟨rfl, (by first | omega | decide), (by first | omega | decide), (by first | omega | decide), (by first | omega | decide), (by first | omega | decide), (by first | omega | decide)⟩)))))), zP_nil, zD_nil⟩, hS.F ht⟩) hS.2.2 dX7_row_57
          · exact absurd c_150 (by decide)
      · have fc_137 : n.toInt < 0 := zf_nle c_137 (by decide) rfl
        refine lv_aload_n hx hb dX7_row_22 rfl (lv_at hl 1 rfl) ?_
        refine lv_iconst (v := 4) hx hb dX7_row_23 (by decide) ?_
        skip
        refine zw_V (As := [.int 4]) (rest := []) (wr := []) ⟨hx, hb, hml, hown, hts⟩ (c_refuse_4 l D cI cJ cZ cP cS x0 xs j0 k0 w0 rd mv xr  H.size) (cwV 1 hts gX7_row_X7_refuse rfl rfl rfl (by decide +kernel) ⟨Nat.le_of_ble_eq_true rfl, Nat.le_of_ble_eq_true rfl⟩) hK hN (hZ.kept hS) hP hD hS hA [0, 1] [] rfl rfl (by decide) (by decide) (by decide) (va_recv hK hP (ci := 7) (q0 := 0) rfl rfl) rfl hl.1 rfl (Nat.le_of_ble_eq_true rfl) dX7_row_24 ⟨Nat.le_of_ble_eq_true rfl, Nat.le_of_ble_eq_true rfl⟩ (fun r_156 u_157 H locs hr_156 hP hD hS => ?_)
        obtain rfl := hr_156
        exact W.iret (v := (-4)) hx hb hr (fun t ht hW => ⟨⟨(-4), (), rfl, Or.inr (Or.inr (Or.inr (Or.inr (Or.inr (Or.inr (⟨rfl, (by first | omega | decide), (by first | omega | decide), (by first | omega | decide)⟩)))))), zP_nil, zD_nil⟩, hS.F ht⟩) hS.2.2 dX7_row_27
    · refine W.eq (g2 := F0 m 5 ls (.ref (sh 7) :: [])) rfl ?_
      refine lv_astore (lv' := [(4, .ref (sh 7)), (0, .ref x0), (1, .int s_), (2, .int o), (3, .int n)]) hx hb dX7_row_5 hl (by decide) rfl (fun ls hl => ?_)
      refine lv_aload hx hb dX7_row_7 (lv_at hl 0 rfl) ?_
      refine lv_ifnonnull (tgt := 18) hx hb dX7_row_9 (by decide) ?_
      refine lv_iload_n hx hb dX7_row_18 rfl (lv_at hl 4 rfl) ?_
      refine lv_if_ge (tgt := 28) hx hb dX7_row_19 (by decide) (fun c_158 => ?_) (fun c_158 => ?_)
      · have fc_158 : 0 ≤ n.toInt := zf_le c_158 (by decide) rfl
        refine lv_iload_n hx hb dX7_row_28 rfl (lv_at hl 3 rfl) ?_
        refine lv_iconst (v := 0) hx hb dX7_row_29 (by decide) ?_
        refine lv_iconst (v := 3) hx hb dX7_row_30 (by decide) ?_
        have kc0 : (0 : Int32).toInt = 0 := by decide
        have kc3 : (3 : Int32).toInt = 3 := by decide
        refine zc_S (As := [.int o, .int 0, .int 3]) (rest := []) ⟨hx, hb, hml, hown, hts⟩ (c_within l D cI cJ cZ cP cS (o) (0) (3) ) (va_cwS 3 hts gX7_row_X7_within rfl rfl rfl (by decide +kernel) ⟨Nat.le_of_ble_eq_true rfl, Nat.le_of_ble_eq_true rfl⟩) hK hN (hZ.kept hS) rfl hl.1 rfl (Nat.le_of_ble_eq_true rfl) dX7_row_31 ⟨Nat.le_of_ble_eq_true rfl, Nat.le_of_ble_eq_true rfl⟩ (fun r_159 hr_159 => ?_)
        rcases hr_159 with ⟨rfl, g_160⟩ | ⟨rfl, g_161, g_162⟩ | ⟨rfl, g_163, g_164⟩
        · refine lv_if_ne (tgt := 44) hx hb dX7_row_34 (by decide) (fun c_165 => ?_) (fun c_165 => ?_)
          · exact absurd c_165 (by decide)
          · refine lv_aload_n hx hb dX7_row_37 rfl (lv_at hl 1 rfl) ?_
            refine lv_bipush (v := 6) hx hb dX7_row_38 (by decide) ?_
            skip
            refine zw_V (As := [.int 6]) (rest := []) (wr := []) ⟨hx, hb, hml, hown, hts⟩ (c_refuse_6 l D cI cJ cZ cP cS x0 xs j0 k0 w0 rd mv xr  H.size) (cwV 1 hts gX7_row_X7_refuse rfl rfl rfl (by decide +kernel) ⟨Nat.le_of_ble_eq_true rfl, Nat.le_of_ble_eq_true rfl⟩) hK hN (hZ.kept hS) hP hD hS hA [0, 1] [] rfl rfl (by decide) (by decide) (by decide) (va_recv hK hP (ci := 7) (q0 := 0) rfl rfl) rfl hl.1 rfl (Nat.le_of_ble_eq_true rfl) dX7_row_40 ⟨Nat.le_of_ble_eq_true rfl, Nat.le_of_ble_eq_true rfl⟩ (fun r_166 u_167 H locs hr_166 hP hD hS => ?_)
            obtain rfl := hr_166
            exact W.iret (v := (-6)) hx hb hr (fun t ht hW => ⟨⟨(-6), (), rfl, Or.inr (Or.inr (Or.inl (⟨rfl, (by first | omega | decide), (by first | omega | decide), (by first | omega | decide), (by first | omega | decide)⟩))), zP_nil, zD_nil⟩, hS.F ht⟩) hS.2.2 dX7_row_43
        · refine lv_if_ne (tgt := 44) hx hb dX7_row_34 (by decide) (fun c_168 => ?_) (fun c_168 => ?_)
          · exact absurd c_168 (by decide)
          · refine lv_aload_n hx hb dX7_row_37 rfl (lv_at hl 1 rfl) ?_
            refine lv_bipush (v := 6) hx hb dX7_row_38 (by decide) ?_
            skip
            refine zw_V (As := [.int 6]) (rest := []) (wr := []) ⟨hx, hb, hml, hown, hts⟩ (c_refuse_6 l D cI cJ cZ cP cS x0 xs j0 k0 w0 rd mv xr  H.size) (cwV 1 hts gX7_row_X7_refuse rfl rfl rfl (by decide +kernel) ⟨Nat.le_of_ble_eq_true rfl, Nat.le_of_ble_eq_true rfl⟩) hK hN (hZ.kept hS) hP hD hS hA [0, 1] [] rfl rfl (by decide) (by decide) (by decide) (va_recv hK hP (ci := 7) (q0 := 0) rfl rfl) rfl hl.1 rfl (Nat.le_of_ble_eq_true rfl) dX7_row_40 ⟨Nat.le_of_ble_eq_true rfl, Nat.le_of_ble_eq_true rfl⟩ (fun r_169 u_170 H locs hr_169 hP hD hS => ?_)
            obtain rfl := hr_169
            exact W.iret (v := (-6)) hx hb hr (fun t ht hW => ⟨⟨(-6), (), rfl, Or.inr (Or.inr (Or.inr (Or.inl (⟨rfl, (by first | omega | decide), (by first | omega | decide), (by first | omega | decide), (by first | omega | decide), (by first | omega | decide)⟩)))), zP_nil, zD_nil⟩, hS.F ht⟩) hS.2.2 dX7_row_43
        · refine lv_if_ne (tgt := 44) hx hb dX7_row_34 (by decide) (fun c_171 => ?_) (fun c_171 => ?_)
          · refine lv_iload_n hx hb dX7_row_44 rfl (lv_at hl 4 rfl) ?_
            refine lv_sipush (v := 160) hx hb dX7_row_45 (by decide) ?_
            refine lv_icmp_le (tgt := 58) hx hb dX7_row_48 (by decide) (fun c_172 => ?_) (fun c_172 => ?_)
            · have fc_172 : n.toInt ≤ 160 := zf_le c_172 rfl (by decide)
              refine lv_aload hx hb dX7_row_58 (lv_at hl 0 rfl) ?_
              refine lv_iload_n hx hb dX7_row_60 rfl (lv_at hl 3 rfl) ?_
              refine lv_iload_n hx hb dX7_row_61 rfl (lv_at hl 4 rfl) ?_
              skip
              refine zw_Vv (As := [.int o, .int n]) (rest := []) (wr := []) ⟨hx, hb, hml, hown, hts⟩ (c_Shelf_holdRow l D cI cJ cZ cP cS ((sh 7)) ((el 7)) (o) (n)  H.size) (cwV 2 hts gX7_row_X4_holdRow rfl rfl rfl (by decide +kernel) ⟨Nat.le_of_ble_eq_true rfl, Nat.le_of_ble_eq_true rfl⟩) hK hN (hZ.kept hS) hP hD hS hA [10, 18] [] rfl rfl (by decide) (by decide) (by decide) (va_recv hK hP (ci := 4) (q0 := 10) rfl rfl) rfl hl.1 rfl (Nat.le_of_ble_eq_true rfl) dX7_row_62 ⟨Nat.le_of_ble_eq_true rfl, Nat.le_of_ble_eq_true rfl⟩ (fun u_174 H locs hr_173 hP hD hS => ?_)
              refine lv_iconst (v := 1) hx hb dX7_row_65 (by decide) ?_
              exact W.iret (v := 1) hx hb hr (fun t ht hW => ⟨⟨1, (), rfl, Or.inr (Or.inr (Or.inr (Or.inr (Or.inl (⟨rfl, (by first | omega | decide), (by first | omega | decide), (by first | omega | decide), (by first | omega | decide), (by first | omega | decide), (by first | omega | decide)⟩))))), zP_nil, zD_nil⟩, hS.F ht⟩) hS.2.2 dX7_row_66
            · have fc_172 : 160 < n.toInt := zf_nle c_172 rfl (by decide)
              refine lv_aload_n hx hb dX7_row_51 rfl (lv_at hl 1 rfl) ?_
              refine lv_bipush (v := 7) hx hb dX7_row_52 (by decide) ?_
              skip
              refine zw_V (As := [.int 7]) (rest := []) (wr := []) ⟨hx, hb, hml, hown, hts⟩ (c_refuse_7 l D cI cJ cZ cP cS x0 xs j0 k0 w0 rd mv xr  H.size) (cwV 1 hts gX7_row_X7_refuse rfl rfl rfl (by decide +kernel) ⟨Nat.le_of_ble_eq_true rfl, Nat.le_of_ble_eq_true rfl⟩) hK hN (hZ.kept hS) hP hD hS hA [0, 1] [] rfl rfl (by decide) (by decide) (by decide) (va_recv hK hP (ci := 7) (q0 := 0) rfl rfl) rfl hl.1 rfl (Nat.le_of_ble_eq_true rfl) dX7_row_54 ⟨Nat.le_of_ble_eq_true rfl, Nat.le_of_ble_eq_true rfl⟩ (fun r_175 u_176 H locs hr_175 hP hD hS => ?_)
              obtain rfl := hr_175
              exact W.iret (v := (-7)) hx hb hr (fun t ht hW => ⟨⟨(-7), (), rfl, Or.inr (Or.inr (Or.inr (Or.inr (Or.inr (Or.inl (⟨rfl, (by first | omega | decide), (by first | omega | decide), (by first | omega | decide), (by first | omega | decide), (by first | omega | decide), (by first | omega | decide)⟩)))))), zP_nil, zD_nil⟩, hS.F ht⟩) hS.2.2 dX7_row_57
          · exact absurd c_171 (by decide)
      · have fc_158 : n.toInt < 0 := zf_nle c_158 (by decide) rfl
        refine lv_aload_n hx hb dX7_row_22 rfl (lv_at hl 1 rfl) ?_
        refine lv_iconst (v := 4) hx hb dX7_row_23 (by decide) ?_
        skip
        refine zw_V (As := [.int 4]) (rest := []) (wr := []) ⟨hx, hb, hml, hown, hts⟩ (c_refuse_4 l D cI cJ cZ cP cS x0 xs j0 k0 w0 rd mv xr  H.size) (cwV 1 hts gX7_row_X7_refuse rfl rfl rfl (by decide +kernel) ⟨Nat.le_of_ble_eq_true rfl, Nat.le_of_ble_eq_true rfl⟩) hK hN (hZ.kept hS) hP hD hS hA [0, 1] [] rfl rfl (by decide) (by decide) (by decide) (va_recv hK hP (ci := 7) (q0 := 0) rfl rfl) rfl hl.1 rfl (Nat.le_of_ble_eq_true rfl) dX7_row_24 ⟨Nat.le_of_ble_eq_true rfl, Nat.le_of_ble_eq_true rfl⟩ (fun r_177 u_178 H locs hr_177 hP hD hS => ?_)
        obtain rfl := hr_177
        exact W.iret (v := (-4)) hx hb hr (fun t ht hW => ⟨⟨(-4), (), rfl, Or.inr (Or.inr (Or.inr (Or.inr (Or.inr (Or.inr (⟨rfl, (by first | omega | decide), (by first | omega | decide), (by first | omega | decide)⟩)))))), zP_nil, zD_nil⟩, hS.F ht⟩) hS.2.2 dX7_row_27
set_option maxHeartbeats 4000000 in
set_option maxRecDepth 100000 in
theorem c_set (l : Launch) (D : va_G) (cI cJ cZ cP cS : ClassId) (x0 xs j0 k0 w0 rd mv xr : Nat)(sh el : Nat → Nat) (s_ i : Int32) (v : Int64)  (sz : Nat) : Met l yX7_set wsX7_set ({ frames := 2, cells := 0, slots := 0, locals := 43 }) (va_Pc [.ref x0, .int s_, .int i, .long v] (zW D (zKT cI cJ cZ cP cS) [(x0, .inr (7, [.ref xs, .ref j0, .ref k0, .ref w0, .ref rd, .ref mv, .ref xr, .int 0, .int (-1)])), (xr, .inl (cI, 8, .inl (fun _ => 0))), (xs, .inl (cS, 8, .inr (.inr (.inr (.inr (zS sh)))))), ((sh 0), .inr (4, [.ref (el 0), .int (-1), .int 0])), ((sh 1), .inr (4, [.ref (el 1), .int (-1), .int 0])), ((sh 2), .inr (4, [.ref (el 2), .int (-1), .int 0])), ((sh 3), .inr (4, [.ref (el 3), .int (-1), .int 0])), ((sh 4), .inr (4, [.ref (el 4), .int (-1), .int 0])), ((sh 5), .inr (4, [.ref (el 5), .int (-1), .int 0])), ((sh 6), .inr (4, [.ref (el 6), .int (-1), .int 0])), ((sh 7), .inr (4, [.ref (el 7), .int (-1), .int 0]))] sz)) (va_Qi (fun (r : Int32) (_ : Unit) => (r = (-1) ∧ s_.toInt < 0) ∨ (r = (-1) ∧ 0 ≤ s_.toInt ∧ 7 < s_.toInt) ∨ (r = (-3) ∧ 0 ≤ s_.toInt ∧ s_.toInt ≤ 7)) (zB D [(x0, .inr (7, [.ref xs, .ref j0, .ref k0, .ref w0, .ref rd, .ref mv, .ref xr, .int 0, .int (-1)])), (xr, .inl (cI, 8, .inl (fun _ => 0))), (xs, .inl (cS, 8, .inr (.inr (.inr (.inr (zS sh)))))), ((sh 0), .inr (4, [.ref (el 0), .int (-1), .int 0])), ((sh 1), .inr (4, [.ref (el 1), .int (-1), .int 0])), ((sh 2), .inr (4, [.ref (el 2), .int (-1), .int 0])), ((sh 3), .inr (4, [.ref (el 3), .int (-1), .int 0])), ((sh 4), .inr (4, [.ref (el 4), .int (-1), .int 0])), ((sh 5), .inr (4, [.ref (el 5), .int (-1), .int 0])), ((sh 6), .inr (4, [.ref (el 6), .int (-1), .int 0])), ((sh 7), .inr (4, [.ref (el 7), .int (-1), .int 0]))] sz (fun (_ : Unit) => ([] : va_W))) (va_A [(x0, .inr (7, [.ref xs, .ref j0, .ref k0, .ref w0, .ref rd, .ref mv, .ref xr, .int 0, .int (-1)])), (xr, .inl (cI, 8, .inl (fun _ => 0))), (xs, .inl (cS, 8, .inr (.inr (.inr (.inr (zS sh)))))), ((sh 0), .inr (4, [.ref (el 0), .int (-1), .int 0])), ((sh 1), .inr (4, [.ref (el 1), .int (-1), .int 0])), ((sh 2), .inr (4, [.ref (el 2), .int (-1), .int 0])), ((sh 3), .inr (4, [.ref (el 3), .int (-1), .int 0])), ((sh 4), .inr (4, [.ref (el 4), .int (-1), .int 0])), ((sh 5), .inr (4, [.ref (el 5), .int (-1), .int 0])), ((sh 6), .inr (4, [.ref (el 6), .int (-1), .int 0])), ((sh 7), .inr (4, [.ref (el 7), .int (-1), .int 0]))] sz)) 0 0 (va_A [(x0, .inr (7, [.ref xs, .ref j0, .ref k0, .ref w0, .ref rd, .ref mv, .ref xr, .int 0, .int (-1)])), (xr, .inl (cI, 8, .inl (fun _ => 0))), (xs, .inl (cS, 8, .inr (.inr (.inr (.inr (zS sh)))))), ((sh 0), .inr (4, [.ref (el 0), .int (-1), .int 0])), ((sh 1), .inr (4, [.ref (el 1), .int (-1), .int 0])), ((sh 2), .inr (4, [.ref (el 2), .int (-1), .int 0])), ((sh 3), .inr (4, [.ref (el 3), .int (-1), .int 0])), ((sh 4), .inr (4, [.ref (el 4), .int (-1), .int 0])), ((sh 5), .inr (4, [.ref (el 5), .int (-1), .int 0])), ((sh 6), .inr (4, [.ref (el 6), .int (-1), .int 0])), ((sh 7), .inr (4, [.ref (el 7), .int (-1), .int 0]))] sz) := by
  refine Met.ofW (cc := cX7_set) (maxL := 7) (ret := (some .int)) (by decide) rfl ?_
  intro p e s m args below meth c s₁ B hml hv
  obtain ⟨rfl, hsz, hP, hK, hD0, hN, hZ⟩ := hv
  have hx := B.exec
  have hb := B.bytes
  have hr := B.returns
  have hts := atoms_spec (ws := wsX7_set) B.pre
  have hown : s.vm.findClass RX7 = some m.cls := findClass_of_methodNamed B.named
  have hlocks := B.notSynchronized
  subst hsz
  have hD := hD0.self (sz := s.heap.size)
  have hA : ∀ q : Nat, s.heap.size ≤ q → va_A [(x0, .inr (7, [.ref xs, .ref j0, .ref k0, .ref w0, .ref rd, .ref mv, .ref xr, .int 0, .int (-1)])), (xr, .inl (cI, 8, .inl (fun _ => 0))), (xs, .inl (cS, 8, .inr (.inr (.inr (.inr (zS sh)))))), ((sh 0), .inr (4, [.ref (el 0), .int (-1), .int 0])), ((sh 1), .inr (4, [.ref (el 1), .int (-1), .int 0])), ((sh 2), .inr (4, [.ref (el 2), .int (-1), .int 0])), ((sh 3), .inr (4, [.ref (el 3), .int (-1), .int 0])), ((sh 4), .inr (4, [.ref (el 4), .int (-1), .int 0])), ((sh 5), .inr (4, [.ref (el 5), .int (-1), .int 0])), ((sh 6), .inr (4, [.ref (el 6), .int (-1), .int 0])), ((sh 7), .inr (4, [.ref (el 7), .int (-1), .int 0]))] s.heap.size q := fun q h => Or.inr h
  have hS : va_S (va_A [(x0, .inr (7, [.ref xs, .ref j0, .ref k0, .ref w0, .ref rd, .ref mv, .ref xr, .int 0, .int (-1)])), (xr, .inl (cI, 8, .inl (fun _ => 0))), (xs, .inl (cS, 8, .inr (.inr (.inr (.inr (zS sh)))))), ((sh 0), .inr (4, [.ref (el 0), .int (-1), .int 0])), ((sh 1), .inr (4, [.ref (el 1), .int (-1), .int 0])), ((sh 2), .inr (4, [.ref (el 2), .int (-1), .int 0])), ((sh 3), .inr (4, [.ref (el 3), .int (-1), .int 0])), ((sh 4), .inr (4, [.ref (el 4), .int (-1), .int 0])), ((sh 5), .inr (4, [.ref (el 5), .int (-1), .int 0])), ((sh 6), .inr (4, [.ref (el 6), .int (-1), .int 0])), ((sh 7), .inr (4, [.ref (el 7), .int (-1), .int 0]))] s.heap.size) s.heap s.heap [] := va_S.rf
  replace hP : va_P D vwCl _ s.heap := hP
  have hl := lv_entry ([.ref x0, .int s_, .int i, .long v]) (n := 7) (Nat.le_of_ble_eq_true rfl)
  rw [lg_entry_eq]
  generalize (lg_sl ([.ref x0, .int s_, .int i, .long v]) ++ List.replicate (7 - (lg_sl ([.ref x0, .int s_, .int i, .long v])).length) Slot.unset).toArray = ls at hl ⊢
  replace hl : lv_has ls 7 [(0, .ref x0), (1, .int s_), (2, .int i), (3, .long v)] := hl
  refine zw_start (fun H locs hH hL => ?_)
  replace hP : va_P D vwCl [(x0, .inr (7, [.ref xs, .ref j0, .ref k0, .ref w0, .ref rd, .ref mv, .ref xr, .int 0, .int (-1)])), (xr, .inl (cI, 8, .inl (fun _ => 0))), (xs, .inl (cS, 8, .inr (.inr (.inr (.inr (zS sh)))))), ((sh 0), .inr (4, [.ref (el 0), .int (-1), .int 0])), ((sh 1), .inr (4, [.ref (el 1), .int (-1), .int 0])), ((sh 2), .inr (4, [.ref (el 2), .int (-1), .int 0])), ((sh 3), .inr (4, [.ref (el 3), .int (-1), .int 0])), ((sh 4), .inr (4, [.ref (el 4), .int (-1), .int 0])), ((sh 5), .inr (4, [.ref (el 5), .int (-1), .int 0])), ((sh 6), .inr (4, [.ref (el 6), .int (-1), .int 0])), ((sh 7), .inr (4, [.ref (el 7), .int (-1), .int 0]))] H := by rw [hH]; exact hP
  replace hS : va_S (va_A [(x0, .inr (7, [.ref xs, .ref j0, .ref k0, .ref w0, .ref rd, .ref mv, .ref xr, .int 0, .int (-1)])), (xr, .inl (cI, 8, .inl (fun _ => 0))), (xs, .inl (cS, 8, .inr (.inr (.inr (.inr (zS sh)))))), ((sh 0), .inr (4, [.ref (el 0), .int (-1), .int 0])), ((sh 1), .inr (4, [.ref (el 1), .int (-1), .int 0])), ((sh 2), .inr (4, [.ref (el 2), .int (-1), .int 0])), ((sh 3), .inr (4, [.ref (el 3), .int (-1), .int 0])), ((sh 4), .inr (4, [.ref (el 4), .int (-1), .int 0])), ((sh 5), .inr (4, [.ref (el 5), .int (-1), .int 0])), ((sh 6), .inr (4, [.ref (el 6), .int (-1), .int 0])), ((sh 7), .inr (4, [.ref (el 7), .int (-1), .int 0]))] s.heap.size) s.heap H locs := by rw [hH, hL]; exact hS
  clear hH hL
  refine lv_aload_n hx hb dX7_set_0 rfl (lv_at hl 0 rfl) ?_
  refine lv_iload_n hx hb dX7_set_1 rfl (lv_at hl 1 rfl) ?_
  refine zc_Vq (As := [.int s_]) (rest := []) ⟨hx, hb, hml, hown, hts⟩ (c_shelfAt l D cI cJ cZ cP cS x0 xs j0 k0 w0 rd mv xr ((zS sh)) (s_) ) (cwV 1 hts gX7_set_X7_shelfAt rfl rfl rfl (by decide +kernel) ⟨Nat.le_of_ble_eq_true rfl, Nat.le_of_ble_eq_true rfl⟩) hK hN (hZ.kept hS) hP [0, 2] rfl (va_recv hK hP (ci := 7) (q0 := 0) rfl rfl) rfl hl.1 rfl (Nat.le_of_ble_eq_true rfl) dX7_set_2 ⟨Nat.le_of_ble_eq_true rfl, Nat.le_of_ble_eq_true rfl⟩ (fun r_1 hr_1 => ?_)
  rcases hr_1 with ⟨rfl, g_2⟩ | ⟨rfl, g_3, g_4⟩ | ⟨rfl, g_5, g_6⟩
  · refine lv_astoreN (lv' := [(5, .null), (0, .ref x0), (1, .int s_), (2, .int i), (3, .long v)]) hx hb dX7_set_5 hl (by decide) rfl (fun ls hl => ?_)
    refine lv_aloadN hx hb dX7_set_7 (lv_at hl 0 rfl) ?_
    refine lv_ifnonnullN hx hb dX7_set_9 ?_
    refine lv_aload_n hx hb dX7_set_12 rfl (lv_at hl 1 rfl) ?_
    refine lv_iconst (v := 1) hx hb dX7_set_13 (by decide) ?_
    skip
    refine zw_V (As := [.int 1]) (rest := []) (wr := []) ⟨hx, hb, hml, hown, hts⟩ (c_refuse_1 l D cI cJ cZ cP cS x0 xs j0 k0 w0 rd mv xr  H.size) (cwV 1 hts gX7_set_X7_refuse rfl rfl rfl (by decide +kernel) ⟨Nat.le_of_ble_eq_true rfl, Nat.le_of_ble_eq_true rfl⟩) hK hN (hZ.kept hS) hP hD hS hA [0, 1] [] rfl rfl (by decide) (by decide) (by decide) (va_recv hK hP (ci := 7) (q0 := 0) rfl rfl) rfl hl.1 rfl (Nat.le_of_ble_eq_true rfl) dX7_set_14 ⟨Nat.le_of_ble_eq_true rfl, Nat.le_of_ble_eq_true rfl⟩ (fun r_7 u_8 H locs hr_7 hP hD hS => ?_)
    obtain rfl := hr_7
    exact W.iret (v := (-1)) hx hb hr (fun t ht hW => ⟨⟨(-1), (), rfl, Or.inl (⟨rfl, (by first | omega | decide)⟩), zP_nil, zD_nil⟩, hS.F ht⟩) hS.2.2 dX7_set_17
  · refine lv_astoreN (lv' := [(5, .null), (0, .ref x0), (1, .int s_), (2, .int i), (3, .long v)]) hx hb dX7_set_5 hl (by decide) rfl (fun ls hl => ?_)
    refine lv_aloadN hx hb dX7_set_7 (lv_at hl 0 rfl) ?_
    refine lv_ifnonnullN hx hb dX7_set_9 ?_
    refine lv_aload_n hx hb dX7_set_12 rfl (lv_at hl 1 rfl) ?_
    refine lv_iconst (v := 1) hx hb dX7_set_13 (by decide) ?_
    skip
    refine zw_V (As := [.int 1]) (rest := []) (wr := []) ⟨hx, hb, hml, hown, hts⟩ (c_refuse_1 l D cI cJ cZ cP cS x0 xs j0 k0 w0 rd mv xr  H.size) (cwV 1 hts gX7_set_X7_refuse rfl rfl rfl (by decide +kernel) ⟨Nat.le_of_ble_eq_true rfl, Nat.le_of_ble_eq_true rfl⟩) hK hN (hZ.kept hS) hP hD hS hA [0, 1] [] rfl rfl (by decide) (by decide) (by decide) (va_recv hK hP (ci := 7) (q0 := 0) rfl rfl) rfl hl.1 rfl (Nat.le_of_ble_eq_true rfl) dX7_set_14 ⟨Nat.le_of_ble_eq_true rfl, Nat.le_of_ble_eq_true rfl⟩ (fun r_9 u_10 H locs hr_9 hP hD hS => ?_)
    obtain rfl := hr_9
    exact W.iret (v := (-1)) hx hb hr (fun t ht hW => ⟨⟨(-1), (), rfl, Or.inr (Or.inl (⟨rfl, (by first | omega | decide), (by first | omega | decide)⟩)), zP_nil, zD_nil⟩, hS.F ht⟩) hS.2.2 dX7_set_17
  · obtain ⟨j2, hj2, hfs⟩ := zS_at sh (s := s_) (by omega) (by omega)
    rw [hfs]
    refine W.eq (g2 := F0 m 5 ls (.ref (sh j2) :: [])) rfl ?_
    have hqj2 : ([(x0, .inr (7, [.ref xs, .ref j0, .ref k0, .ref w0, .ref rd, .ref mv, .ref xr, .int 0, .int (-1)])), (xr, .inl (cI, 8, .inl (fun _ => 0))), (xs, .inl (cS, 8, .inr (.inr (.inr (.inr (zS sh)))))), ((sh 0), .inr (4, [.ref (el 0), .int (-1), .int 0])), ((sh 1), .inr (4, [.ref (el 1), .int (-1), .int 0])), ((sh 2), .inr (4, [.ref (el 2), .int (-1), .int 0])), ((sh 3), .inr (4, [.ref (el 3), .int (-1), .int 0])), ((sh 4), .inr (4, [.ref (el 4), .int (-1), .int 0])), ((sh 5), .inr (4, [.ref (el 5), .int (-1), .int 0])), ((sh 6), .inr (4, [.ref (el 6), .int (-1), .int 0])), ((sh 7), .inr (4, [.ref (el 7), .int (-1), .int 0]))] : va_W)[3 + j2]? = some ((sh j2), .inr (4, [.ref (el j2), .int (-1), .int 0])) := by rcases zj8 hj2 with rfl | rfl | rfl | rfl | rfl | rfl | rfl | rfl <;> rfl
    refine lv_astore (lv' := [(5, .ref (sh j2)), (0, .ref x0), (1, .int s_), (2, .int i), (3, .long v)]) hx hb dX7_set_5 hl (by decide) rfl (fun ls hl => ?_)
    refine lv_aload hx hb dX7_set_7 (lv_at hl 0 rfl) ?_
    refine lv_ifnonnull (tgt := 18) hx hb dX7_set_9 (by decide) ?_
    refine lv_aload hx hb dX7_set_18 (lv_at hl 0 rfl) ?_
    refine zc_V (As := []) (rest := []) ⟨hx, hb, hml, hown, hts⟩ (c_Shelf_noRow l D cI cJ cZ cP cS ((sh j2)) ((el j2)) ) (cwV 0 hts gX7_set_X4_noRow rfl rfl rfl (by decide +kernel) ⟨Nat.le_of_ble_eq_true rfl, Nat.le_of_ble_eq_true rfl⟩) hK hN (hZ.kept hS) hP [(3 + j2)] (by simp only [List.filterMap_cons, List.filterMap_nil, hqj2]) (va_recv hK hP (ci := 4) (q0 := (3 + j2)) rfl hqj2) rfl hl.1 rfl (Nat.le_of_ble_eq_true rfl) dX7_set_20 ⟨Nat.le_of_ble_eq_true rfl, Nat.le_of_ble_eq_true rfl⟩ (fun r_11 hr_11 => ?_)
    obtain rfl := hr_11
    refine lv_istore (lv' := [(6, .int 3), (5, .ref (sh j2)), (0, .ref x0), (1, .int s_), (2, .int i), (3, .long v)]) hx hb dX7_set_23 hl (by decide) rfl (fun ls hl => ?_)
    refine lv_iload hx hb dX7_set_25 (lv_at hl 0 rfl) ?_
    refine lv_if_eq (tgt := 37) hx hb dX7_set_27 (by decide) (fun c_12 => ?_) (fun c_12 => ?_)
    · exact absurd c_12 (by decide)
    · refine lv_aload_n hx hb dX7_set_30 rfl (lv_at hl 2 rfl) ?_
      refine lv_iload hx hb dX7_set_31 (lv_at hl 0 rfl) ?_
      skip
      refine zw_V (As := [.int 3]) (rest := []) (wr := []) ⟨hx, hb, hml, hown, hts⟩ (c_refuse_3 l D cI cJ cZ cP cS x0 xs j0 k0 w0 rd mv xr  H.size) (cwV 1 hts gX7_set_X7_refuse rfl rfl rfl (by decide +kernel) ⟨Nat.le_of_ble_eq_true rfl, Nat.le_of_ble_eq_true rfl⟩) hK hN (hZ.kept hS) hP hD hS hA [0, 1] [] rfl rfl (by decide) (by decide) (by decide) (va_recv hK hP (ci := 7) (q0 := 0) rfl rfl) rfl hl.1 rfl (Nat.le_of_ble_eq_true rfl) dX7_set_33 ⟨Nat.le_of_ble_eq_true rfl, Nat.le_of_ble_eq_true rfl⟩ (fun r_13 u_14 H locs hr_13 hP hD hS => ?_)
      obtain rfl := hr_13
      exact W.iret (v := (-3)) hx hb hr (fun t ht hW => ⟨⟨(-3), (), rfl, Or.inr (Or.inr (⟨rfl, (by first | omega | decide), (by first | omega | decide)⟩)), zP_nil, zD_nil⟩, hS.F ht⟩) hS.2.2 dX7_set_36
set_option maxHeartbeats 4000000 in
set_option maxRecDepth 100000 in
theorem c_copy (l : Launch) (D : va_G) (cI cJ cZ cP cS : ClassId) (x0 xs j0 k0 w0 rd mv xr : Nat)(sh el : Nat → Nat) (s_ q_ i j n : Int32)  (sz : Nat) : Met l yX7_copy wsX7_copy ({ frames := 2, cells := 0, slots := 0, locals := 43 }) (va_Pc [.ref x0, .int s_, .int q_, .int i, .int j, .int n] (zW D (zKT cI cJ cZ cP cS) [(x0, .inr (7, [.ref xs, .ref j0, .ref k0, .ref w0, .ref rd, .ref mv, .ref xr, .int 0, .int (-1)])), (xr, .inl (cI, 8, .inl (fun _ => 0))), (xs, .inl (cS, 8, .inr (.inr (.inr (.inr (zS sh)))))), ((sh 0), .inr (4, [.ref (el 0), .int (-1), .int 0])), ((sh 1), .inr (4, [.ref (el 1), .int (-1), .int 0])), ((sh 2), .inr (4, [.ref (el 2), .int (-1), .int 0])), ((sh 3), .inr (4, [.ref (el 3), .int (-1), .int 0])), ((sh 4), .inr (4, [.ref (el 4), .int (-1), .int 0])), ((sh 5), .inr (4, [.ref (el 5), .int (-1), .int 0])), ((sh 6), .inr (4, [.ref (el 6), .int (-1), .int 0])), ((sh 7), .inr (4, [.ref (el 7), .int (-1), .int 0]))] sz)) (va_Qi (fun (r : Int32) (_ : Unit) => (r = (-1) ∧ s_.toInt < 0 ∧ q_.toInt < 0) ∨ (r = (-1) ∧ s_.toInt < 0 ∧ 0 ≤ q_.toInt ∧ 7 < q_.toInt) ∨ (r = (-1) ∧ s_.toInt < 0 ∧ 0 ≤ q_.toInt ∧ q_.toInt ≤ 7) ∨ (r = (-1) ∧ 0 ≤ s_.toInt ∧ 7 < s_.toInt ∧ q_.toInt < 0) ∨ (r = (-1) ∧ 0 ≤ s_.toInt ∧ 7 < s_.toInt ∧ 0 ≤ q_.toInt ∧ 7 < q_.toInt) ∨ (r = (-1) ∧ 0 ≤ s_.toInt ∧ 7 < s_.toInt ∧ 0 ≤ q_.toInt ∧ q_.toInt ≤ 7) ∨ (r = (-1) ∧ 0 ≤ s_.toInt ∧ s_.toInt ≤ 7 ∧ q_.toInt < 0) ∨ (r = (-1) ∧ 0 ≤ s_.toInt ∧ s_.toInt ≤ 7 ∧ 0 ≤ q_.toInt ∧ 7 < q_.toInt) ∨ (r = (-3) ∧ 0 ≤ s_.toInt ∧ s_.toInt ≤ 7 ∧ 0 ≤ q_.toInt ∧ q_.toInt ≤ 7)) (zB D [(x0, .inr (7, [.ref xs, .ref j0, .ref k0, .ref w0, .ref rd, .ref mv, .ref xr, .int 0, .int (-1)])), (xr, .inl (cI, 8, .inl (fun _ => 0))), (xs, .inl (cS, 8, .inr (.inr (.inr (.inr (zS sh)))))), ((sh 0), .inr (4, [.ref (el 0), .int (-1), .int 0])), ((sh 1), .inr (4, [.ref (el 1), .int (-1), .int 0])), ((sh 2), .inr (4, [.ref (el 2), .int (-1), .int 0])), ((sh 3), .inr (4, [.ref (el 3), .int (-1), .int 0])), ((sh 4), .inr (4, [.ref (el 4), .int (-1), .int 0])), ((sh 5), .inr (4, [.ref (el 5), .int (-1), .int 0])), ((sh 6), .inr (4, [.ref (el 6), .int (-1), .int 0])), ((sh 7), .inr (4, [.ref (el 7), .int (-1), .int 0]))] sz (fun (_ : Unit) => ([] : va_W))) (va_A [(x0, .inr (7, [.ref xs, .ref j0, .ref k0, .ref w0, .ref rd, .ref mv, .ref xr, .int 0, .int (-1)])), (xr, .inl (cI, 8, .inl (fun _ => 0))), (xs, .inl (cS, 8, .inr (.inr (.inr (.inr (zS sh)))))), ((sh 0), .inr (4, [.ref (el 0), .int (-1), .int 0])), ((sh 1), .inr (4, [.ref (el 1), .int (-1), .int 0])), ((sh 2), .inr (4, [.ref (el 2), .int (-1), .int 0])), ((sh 3), .inr (4, [.ref (el 3), .int (-1), .int 0])), ((sh 4), .inr (4, [.ref (el 4), .int (-1), .int 0])), ((sh 5), .inr (4, [.ref (el 5), .int (-1), .int 0])), ((sh 6), .inr (4, [.ref (el 6), .int (-1), .int 0])), ((sh 7), .inr (4, [.ref (el 7), .int (-1), .int 0]))] sz)) 0 0 (va_A [(x0, .inr (7, [.ref xs, .ref j0, .ref k0, .ref w0, .ref rd, .ref mv, .ref xr, .int 0, .int (-1)])), (xr, .inl (cI, 8, .inl (fun _ => 0))), (xs, .inl (cS, 8, .inr (.inr (.inr (.inr (zS sh)))))), ((sh 0), .inr (4, [.ref (el 0), .int (-1), .int 0])), ((sh 1), .inr (4, [.ref (el 1), .int (-1), .int 0])), ((sh 2), .inr (4, [.ref (el 2), .int (-1), .int 0])), ((sh 3), .inr (4, [.ref (el 3), .int (-1), .int 0])), ((sh 4), .inr (4, [.ref (el 4), .int (-1), .int 0])), ((sh 5), .inr (4, [.ref (el 5), .int (-1), .int 0])), ((sh 6), .inr (4, [.ref (el 6), .int (-1), .int 0])), ((sh 7), .inr (4, [.ref (el 7), .int (-1), .int 0]))] sz) := by
  refine Met.ofW (cc := cX7_copy) (maxL := 11) (ret := (some .int)) (by decide) rfl ?_
  intro p e s m args below meth c s₁ B hml hv
  obtain ⟨rfl, hsz, hP, hK, hD0, hN, hZ⟩ := hv
  have hx := B.exec
  have hb := B.bytes
  have hr := B.returns
  have hts := atoms_spec (ws := wsX7_copy) B.pre
  have hown : s.vm.findClass RX7 = some m.cls := findClass_of_methodNamed B.named
  have hlocks := B.notSynchronized
  subst hsz
  have hD := hD0.self (sz := s.heap.size)
  have hA : ∀ q : Nat, s.heap.size ≤ q → va_A [(x0, .inr (7, [.ref xs, .ref j0, .ref k0, .ref w0, .ref rd, .ref mv, .ref xr, .int 0, .int (-1)])), (xr, .inl (cI, 8, .inl (fun _ => 0))), (xs, .inl (cS, 8, .inr (.inr (.inr (.inr (zS sh)))))), ((sh 0), .inr (4, [.ref (el 0), .int (-1), .int 0])), ((sh 1), .inr (4, [.ref (el 1), .int (-1), .int 0])), ((sh 2), .inr (4, [.ref (el 2), .int (-1), .int 0])), ((sh 3), .inr (4, [.ref (el 3), .int (-1), .int 0])), ((sh 4), .inr (4, [.ref (el 4), .int (-1), .int 0])), ((sh 5), .inr (4, [.ref (el 5), .int (-1), .int 0])), ((sh 6), .inr (4, [.ref (el 6), .int (-1), .int 0])), ((sh 7), .inr (4, [.ref (el 7), .int (-1), .int 0]))] s.heap.size q := fun q h => Or.inr h
  have hS : va_S (va_A [(x0, .inr (7, [.ref xs, .ref j0, .ref k0, .ref w0, .ref rd, .ref mv, .ref xr, .int 0, .int (-1)])), (xr, .inl (cI, 8, .inl (fun _ => 0))), (xs, .inl (cS, 8, .inr (.inr (.inr (.inr (zS sh)))))), ((sh 0), .inr (4, [.ref (el 0), .int (-1), .int 0])), ((sh 1), .inr (4, [.ref (el 1), .int (-1), .int 0])), ((sh 2), .inr (4, [.ref (el 2), .int (-1), .int 0])), ((sh 3), .inr (4, [.ref (el 3), .int (-1), .int 0])), ((sh 4), .inr (4, [.ref (el 4), .int (-1), .int 0])), ((sh 5), .inr (4, [.ref (el 5), .int (-1), .int 0])), ((sh 6), .inr (4, [.ref (el 6), .int (-1), .int 0])), ((sh 7), .inr (4, [.ref (el 7), .int (-1), .int 0]))] s.heap.size) s.heap s.heap [] := va_S.rf
  replace hP : va_P D vwCl _ s.heap := hP
  have hl := lv_entry ([.ref x0, .int s_, .int q_, .int i, .int j, .int n]) (n := 11) (Nat.le_of_ble_eq_true rfl)
  rw [lg_entry_eq]
  generalize (lg_sl ([.ref x0, .int s_, .int q_, .int i, .int j, .int n]) ++ List.replicate (11 - (lg_sl ([.ref x0, .int s_, .int q_, .int i, .int j, .int n])).length) Slot.unset).toArray = ls at hl ⊢
  replace hl : lv_has ls 11 [(0, .ref x0), (1, .int s_), (2, .int q_), (3, .int i), (4, .int j), (5, .int n)] := hl
  refine zw_start (fun H locs hH hL => ?_)
  replace hP : va_P D vwCl [(x0, .inr (7, [.ref xs, .ref j0, .ref k0, .ref w0, .ref rd, .ref mv, .ref xr, .int 0, .int (-1)])), (xr, .inl (cI, 8, .inl (fun _ => 0))), (xs, .inl (cS, 8, .inr (.inr (.inr (.inr (zS sh)))))), ((sh 0), .inr (4, [.ref (el 0), .int (-1), .int 0])), ((sh 1), .inr (4, [.ref (el 1), .int (-1), .int 0])), ((sh 2), .inr (4, [.ref (el 2), .int (-1), .int 0])), ((sh 3), .inr (4, [.ref (el 3), .int (-1), .int 0])), ((sh 4), .inr (4, [.ref (el 4), .int (-1), .int 0])), ((sh 5), .inr (4, [.ref (el 5), .int (-1), .int 0])), ((sh 6), .inr (4, [.ref (el 6), .int (-1), .int 0])), ((sh 7), .inr (4, [.ref (el 7), .int (-1), .int 0]))] H := by rw [hH]; exact hP
  replace hS : va_S (va_A [(x0, .inr (7, [.ref xs, .ref j0, .ref k0, .ref w0, .ref rd, .ref mv, .ref xr, .int 0, .int (-1)])), (xr, .inl (cI, 8, .inl (fun _ => 0))), (xs, .inl (cS, 8, .inr (.inr (.inr (.inr (zS sh)))))), ((sh 0), .inr (4, [.ref (el 0), .int (-1), .int 0])), ((sh 1), .inr (4, [.ref (el 1), .int (-1), .int 0])), ((sh 2), .inr (4, [.ref (el 2), .int (-1), .int 0])), ((sh 3), .inr (4, [.ref (el 3), .int (-1), .int 0])), ((sh 4), .inr (4, [.ref (el 4), .int (-1), .int 0])), ((sh 5), .inr (4, [.ref (el 5), .int (-1), .int 0])), ((sh 6), .inr (4, [.ref (el 6), .int (-1), .int 0])), ((sh 7), .inr (4, [.ref (el 7), .int (-1), .int 0]))] s.heap.size) s.heap H locs := by rw [hH, hL]; exact hS
  clear hH hL
  refine lv_aload_n hx hb dX7_copy_0 rfl (lv_at hl 0 rfl) ?_
  refine lv_iload_n hx hb dX7_copy_1 rfl (lv_at hl 1 rfl) ?_
  refine zc_Vq (As := [.int s_]) (rest := []) ⟨hx, hb, hml, hown, hts⟩ (c_shelfAt l D cI cJ cZ cP cS x0 xs j0 k0 w0 rd mv xr ((zS sh)) (s_) ) (cwV 1 hts gX7_copy_X7_shelfAt rfl rfl rfl (by decide +kernel) ⟨Nat.le_of_ble_eq_true rfl, Nat.le_of_ble_eq_true rfl⟩) hK hN (hZ.kept hS) hP [0, 2] rfl (va_recv hK hP (ci := 7) (q0 := 0) rfl rfl) rfl hl.1 rfl (Nat.le_of_ble_eq_true rfl) dX7_copy_2 ⟨Nat.le_of_ble_eq_true rfl, Nat.le_of_ble_eq_true rfl⟩ (fun r_1 hr_1 => ?_)
  rcases hr_1 with ⟨rfl, g_2⟩ | ⟨rfl, g_3, g_4⟩ | ⟨rfl, g_5, g_6⟩
  · refine lv_astoreN (lv' := [(6, .null), (0, .ref x0), (1, .int s_), (2, .int q_), (3, .int i), (4, .int j), (5, .int n)]) hx hb dX7_copy_5 hl (by decide) rfl (fun ls hl => ?_)
    refine lv_aload_n hx hb dX7_copy_7 rfl (lv_at hl 1 rfl) ?_
    refine lv_iload_n hx hb dX7_copy_8 rfl (lv_at hl 3 rfl) ?_
    refine zc_Vq (As := [.int q_]) (rest := []) ⟨hx, hb, hml, hown, hts⟩ (c_shelfAt l D cI cJ cZ cP cS x0 xs j0 k0 w0 rd mv xr ((zS sh)) (q_) ) (cwV 1 hts gX7_copy_X7_shelfAt rfl rfl rfl (by decide +kernel) ⟨Nat.le_of_ble_eq_true rfl, Nat.le_of_ble_eq_true rfl⟩) hK hN (hZ.kept hS) hP [0, 2] rfl (va_recv hK hP (ci := 7) (q0 := 0) rfl rfl) rfl hl.1 rfl (Nat.le_of_ble_eq_true rfl) dX7_copy_9 ⟨Nat.le_of_ble_eq_true rfl, Nat.le_of_ble_eq_true rfl⟩ (fun r_7 hr_7 => ?_)
    rcases hr_7 with ⟨rfl, g_8⟩ | ⟨rfl, g_9, g_10⟩ | ⟨rfl, g_11, g_12⟩
    · refine lv_astoreN (lv' := [(7, .null), (6, .null), (0, .ref x0), (1, .int s_), (2, .int q_), (3, .int i), (4, .int j), (5, .int n)]) hx hb dX7_copy_12 hl (by decide) rfl (fun ls hl => ?_)
      refine lv_aloadN hx hb dX7_copy_14 (lv_at hl 1 rfl) ?_
      refine lv_ifnullN (tgt := 24) hx hb dX7_copy_16 (by decide) ?_
      refine lv_aload_n hx hb dX7_copy_24 rfl (lv_at hl 2 rfl) ?_
      refine lv_iconst (v := 1) hx hb dX7_copy_25 (by decide) ?_
      skip
      refine zw_V (As := [.int 1]) (rest := []) (wr := []) ⟨hx, hb, hml, hown, hts⟩ (c_refuse_1 l D cI cJ cZ cP cS x0 xs j0 k0 w0 rd mv xr  H.size) (cwV 1 hts gX7_copy_X7_refuse rfl rfl rfl (by decide +kernel) ⟨Nat.le_of_ble_eq_true rfl, Nat.le_of_ble_eq_true rfl⟩) hK hN (hZ.kept hS) hP hD hS hA [0, 1] [] rfl rfl (by decide) (by decide) (by decide) (va_recv hK hP (ci := 7) (q0 := 0) rfl rfl) rfl hl.1 rfl (Nat.le_of_ble_eq_true rfl) dX7_copy_26 ⟨Nat.le_of_ble_eq_true rfl, Nat.le_of_ble_eq_true rfl⟩ (fun r_13 u_14 H locs hr_13 hP hD hS => ?_)
      obtain rfl := hr_13
      exact W.iret (v := (-1)) hx hb hr (fun t ht hW => ⟨⟨(-1), (), rfl, Or.inl (⟨rfl, (by first | omega | decide), (by first | omega | decide)⟩), zP_nil, zD_nil⟩, hS.F ht⟩) hS.2.2 dX7_copy_29
    · refine lv_astoreN (lv' := [(7, .null), (6, .null), (0, .ref x0), (1, .int s_), (2, .int q_), (3, .int i), (4, .int j), (5, .int n)]) hx hb dX7_copy_12 hl (by decide) rfl (fun ls hl => ?_)
      refine lv_aloadN hx hb dX7_copy_14 (lv_at hl 1 rfl) ?_
      refine lv_ifnullN (tgt := 24) hx hb dX7_copy_16 (by decide) ?_
      refine lv_aload_n hx hb dX7_copy_24 rfl (lv_at hl 2 rfl) ?_
      refine lv_iconst (v := 1) hx hb dX7_copy_25 (by decide) ?_
      skip
      refine zw_V (As := [.int 1]) (rest := []) (wr := []) ⟨hx, hb, hml, hown, hts⟩ (c_refuse_1 l D cI cJ cZ cP cS x0 xs j0 k0 w0 rd mv xr  H.size) (cwV 1 hts gX7_copy_X7_refuse rfl rfl rfl (by decide +kernel) ⟨Nat.le_of_ble_eq_true rfl, Nat.le_of_ble_eq_true rfl⟩) hK hN (hZ.kept hS) hP hD hS hA [0, 1] [] rfl rfl (by decide) (by decide) (by decide) (va_recv hK hP (ci := 7) (q0 := 0) rfl rfl) rfl hl.1 rfl (Nat.le_of_ble_eq_true rfl) dX7_copy_26 ⟨Nat.le_of_ble_eq_true rfl, Nat.le_of_ble_eq_true rfl⟩ (fun r_15 u_16 H locs hr_15 hP hD hS => ?_)
      obtain rfl := hr_15
      exact W.iret (v := (-1)) hx hb hr (fun t ht hW => ⟨⟨(-1), (), rfl, Or.inr (Or.inl (⟨rfl, (by first | omega | decide), (by first | omega | decide), (by first | omega | decide)⟩)), zP_nil, zD_nil⟩, hS.F ht⟩) hS.2.2 dX7_copy_29
    · obtain ⟨j5, hj5, hfs⟩ := zS_at sh (s := q_) (by omega) (by omega)
      rw [hfs]
      refine W.eq (g2 := F0 m 12 ls (.ref (sh j5) :: [])) rfl ?_
      have hqj5 : ([(x0, .inr (7, [.ref xs, .ref j0, .ref k0, .ref w0, .ref rd, .ref mv, .ref xr, .int 0, .int (-1)])), (xr, .inl (cI, 8, .inl (fun _ => 0))), (xs, .inl (cS, 8, .inr (.inr (.inr (.inr (zS sh)))))), ((sh 0), .inr (4, [.ref (el 0), .int (-1), .int 0])), ((sh 1), .inr (4, [.ref (el 1), .int (-1), .int 0])), ((sh 2), .inr (4, [.ref (el 2), .int (-1), .int 0])), ((sh 3), .inr (4, [.ref (el 3), .int (-1), .int 0])), ((sh 4), .inr (4, [.ref (el 4), .int (-1), .int 0])), ((sh 5), .inr (4, [.ref (el 5), .int (-1), .int 0])), ((sh 6), .inr (4, [.ref (el 6), .int (-1), .int 0])), ((sh 7), .inr (4, [.ref (el 7), .int (-1), .int 0]))] : va_W)[3 + j5]? = some ((sh j5), .inr (4, [.ref (el j5), .int (-1), .int 0])) := by rcases zj8 hj5 with rfl | rfl | rfl | rfl | rfl | rfl | rfl | rfl <;> rfl
      refine lv_astore (lv' := [(7, .ref (sh j5)), (6, .null), (0, .ref x0), (1, .int s_), (2, .int q_), (3, .int i), (4, .int j), (5, .int n)]) hx hb dX7_copy_12 hl (by decide) rfl (fun ls hl => ?_)
      refine lv_aloadN hx hb dX7_copy_14 (lv_at hl 1 rfl) ?_
      refine lv_ifnullN (tgt := 24) hx hb dX7_copy_16 (by decide) ?_
      refine lv_aload_n hx hb dX7_copy_24 rfl (lv_at hl 2 rfl) ?_
      refine lv_iconst (v := 1) hx hb dX7_copy_25 (by decide) ?_
      skip
      refine zw_V (As := [.int 1]) (rest := []) (wr := []) ⟨hx, hb, hml, hown, hts⟩ (c_refuse_1 l D cI cJ cZ cP cS x0 xs j0 k0 w0 rd mv xr  H.size) (cwV 1 hts gX7_copy_X7_refuse rfl rfl rfl (by decide +kernel) ⟨Nat.le_of_ble_eq_true rfl, Nat.le_of_ble_eq_true rfl⟩) hK hN (hZ.kept hS) hP hD hS hA [0, 1] [] rfl rfl (by decide) (by decide) (by decide) (va_recv hK hP (ci := 7) (q0 := 0) rfl rfl) rfl hl.1 rfl (Nat.le_of_ble_eq_true rfl) dX7_copy_26 ⟨Nat.le_of_ble_eq_true rfl, Nat.le_of_ble_eq_true rfl⟩ (fun r_17 u_18 H locs hr_17 hP hD hS => ?_)
      obtain rfl := hr_17
      exact W.iret (v := (-1)) hx hb hr (fun t ht hW => ⟨⟨(-1), (), rfl, Or.inr (Or.inr (Or.inl (⟨rfl, (by first | omega | decide), (by first | omega | decide), (by first | omega | decide)⟩))), zP_nil, zD_nil⟩, hS.F ht⟩) hS.2.2 dX7_copy_29
  · refine lv_astoreN (lv' := [(6, .null), (0, .ref x0), (1, .int s_), (2, .int q_), (3, .int i), (4, .int j), (5, .int n)]) hx hb dX7_copy_5 hl (by decide) rfl (fun ls hl => ?_)
    refine lv_aload_n hx hb dX7_copy_7 rfl (lv_at hl 1 rfl) ?_
    refine lv_iload_n hx hb dX7_copy_8 rfl (lv_at hl 3 rfl) ?_
    refine zc_Vq (As := [.int q_]) (rest := []) ⟨hx, hb, hml, hown, hts⟩ (c_shelfAt l D cI cJ cZ cP cS x0 xs j0 k0 w0 rd mv xr ((zS sh)) (q_) ) (cwV 1 hts gX7_copy_X7_shelfAt rfl rfl rfl (by decide +kernel) ⟨Nat.le_of_ble_eq_true rfl, Nat.le_of_ble_eq_true rfl⟩) hK hN (hZ.kept hS) hP [0, 2] rfl (va_recv hK hP (ci := 7) (q0 := 0) rfl rfl) rfl hl.1 rfl (Nat.le_of_ble_eq_true rfl) dX7_copy_9 ⟨Nat.le_of_ble_eq_true rfl, Nat.le_of_ble_eq_true rfl⟩ (fun r_19 hr_19 => ?_)
    rcases hr_19 with ⟨rfl, g_20⟩ | ⟨rfl, g_21, g_22⟩ | ⟨rfl, g_23, g_24⟩
    · refine lv_astoreN (lv' := [(7, .null), (6, .null), (0, .ref x0), (1, .int s_), (2, .int q_), (3, .int i), (4, .int j), (5, .int n)]) hx hb dX7_copy_12 hl (by decide) rfl (fun ls hl => ?_)
      refine lv_aloadN hx hb dX7_copy_14 (lv_at hl 1 rfl) ?_
      refine lv_ifnullN (tgt := 24) hx hb dX7_copy_16 (by decide) ?_
      refine lv_aload_n hx hb dX7_copy_24 rfl (lv_at hl 2 rfl) ?_
      refine lv_iconst (v := 1) hx hb dX7_copy_25 (by decide) ?_
      skip
      refine zw_V (As := [.int 1]) (rest := []) (wr := []) ⟨hx, hb, hml, hown, hts⟩ (c_refuse_1 l D cI cJ cZ cP cS x0 xs j0 k0 w0 rd mv xr  H.size) (cwV 1 hts gX7_copy_X7_refuse rfl rfl rfl (by decide +kernel) ⟨Nat.le_of_ble_eq_true rfl, Nat.le_of_ble_eq_true rfl⟩) hK hN (hZ.kept hS) hP hD hS hA [0, 1] [] rfl rfl (by decide) (by decide) (by decide) (va_recv hK hP (ci := 7) (q0 := 0) rfl rfl) rfl hl.1 rfl (Nat.le_of_ble_eq_true rfl) dX7_copy_26 ⟨Nat.le_of_ble_eq_true rfl, Nat.le_of_ble_eq_true rfl⟩ (fun r_25 u_26 H locs hr_25 hP hD hS => ?_)
      obtain rfl := hr_25
      exact W.iret (v := (-1)) hx hb hr (fun t ht hW => ⟨⟨(-1), (), rfl, Or.inr (Or.inr (Or.inr (Or.inl (⟨rfl, (by first | omega | decide), (by first | omega | decide), (by first | omega | decide)⟩)))), zP_nil, zD_nil⟩, hS.F ht⟩) hS.2.2 dX7_copy_29
    · refine lv_astoreN (lv' := [(7, .null), (6, .null), (0, .ref x0), (1, .int s_), (2, .int q_), (3, .int i), (4, .int j), (5, .int n)]) hx hb dX7_copy_12 hl (by decide) rfl (fun ls hl => ?_)
      refine lv_aloadN hx hb dX7_copy_14 (lv_at hl 1 rfl) ?_
      refine lv_ifnullN (tgt := 24) hx hb dX7_copy_16 (by decide) ?_
      refine lv_aload_n hx hb dX7_copy_24 rfl (lv_at hl 2 rfl) ?_
      refine lv_iconst (v := 1) hx hb dX7_copy_25 (by decide) ?_
      skip
      refine zw_V (As := [.int 1]) (rest := []) (wr := []) ⟨hx, hb, hml, hown, hts⟩ (c_refuse_1 l D cI cJ cZ cP cS x0 xs j0 k0 w0 rd mv xr  H.size) (cwV 1 hts gX7_copy_X7_refuse rfl rfl rfl (by decide +kernel) ⟨Nat.le_of_ble_eq_true rfl, Nat.le_of_ble_eq_true rfl⟩) hK hN (hZ.kept hS) hP hD hS hA [0, 1] [] rfl rfl (by decide) (by decide) (by decide) (va_recv hK hP (ci := 7) (q0 := 0) rfl rfl) rfl hl.1 rfl (Nat.le_of_ble_eq_true rfl) dX7_copy_26 ⟨Nat.le_of_ble_eq_true rfl, Nat.le_of_ble_eq_true rfl⟩ (fun r_27 u_28 H locs hr_27 hP hD hS => ?_)
      obtain rfl := hr_27
      exact W.iret (v := (-1)) hx hb hr (fun t ht hW => ⟨⟨(-1), (), rfl, Or.inr (Or.inr (Or.inr (Or.inr (Or.inl (⟨rfl, (by first | omega | decide), (by first | omega | decide), (by first | omega | decide), (by first | omega | decide)⟩))))), zP_nil, zD_nil⟩, hS.F ht⟩) hS.2.2 dX7_copy_29
    · obtain ⟨j6, hj6, hfs⟩ := zS_at sh (s := q_) (by omega) (by omega)
      rw [hfs]
      refine W.eq (g2 := F0 m 12 ls (.ref (sh j6) :: [])) rfl ?_
      have hqj6 : ([(x0, .inr (7, [.ref xs, .ref j0, .ref k0, .ref w0, .ref rd, .ref mv, .ref xr, .int 0, .int (-1)])), (xr, .inl (cI, 8, .inl (fun _ => 0))), (xs, .inl (cS, 8, .inr (.inr (.inr (.inr (zS sh)))))), ((sh 0), .inr (4, [.ref (el 0), .int (-1), .int 0])), ((sh 1), .inr (4, [.ref (el 1), .int (-1), .int 0])), ((sh 2), .inr (4, [.ref (el 2), .int (-1), .int 0])), ((sh 3), .inr (4, [.ref (el 3), .int (-1), .int 0])), ((sh 4), .inr (4, [.ref (el 4), .int (-1), .int 0])), ((sh 5), .inr (4, [.ref (el 5), .int (-1), .int 0])), ((sh 6), .inr (4, [.ref (el 6), .int (-1), .int 0])), ((sh 7), .inr (4, [.ref (el 7), .int (-1), .int 0]))] : va_W)[3 + j6]? = some ((sh j6), .inr (4, [.ref (el j6), .int (-1), .int 0])) := by rcases zj8 hj6 with rfl | rfl | rfl | rfl | rfl | rfl | rfl | rfl <;> rfl
      refine lv_astore (lv' := [(7, .ref (sh j6)), (6, .null), (0, .ref x0), (1, .int s_), (2, .int q_), (3, .int i), (4, .int j), (5, .int n)]) hx hb dX7_copy_12 hl (by decide) rfl (fun ls hl => ?_)
      refine lv_aloadN hx hb dX7_copy_14 (lv_at hl 1 rfl) ?_
      refine lv_ifnullN (tgt := 24) hx hb dX7_copy_16 (by decide) ?_
      refine lv_aload_n hx hb dX7_copy_24 rfl (lv_at hl 2 rfl) ?_
      refine lv_iconst (v := 1) hx hb dX7_copy_25 (by decide) ?_
      skip
      refine zw_V (As := [.int 1]) (rest := []) (wr := []) ⟨hx, hb, hml, hown, hts⟩ (c_refuse_1 l D cI cJ cZ cP cS x0 xs j0 k0 w0 rd mv xr  H.size) (cwV 1 hts gX7_copy_X7_refuse rfl rfl rfl (by decide +kernel) ⟨Nat.le_of_ble_eq_true rfl, Nat.le_of_ble_eq_true rfl⟩) hK hN (hZ.kept hS) hP hD hS hA [0, 1] [] rfl rfl (by decide) (by decide) (by decide) (va_recv hK hP (ci := 7) (q0 := 0) rfl rfl) rfl hl.1 rfl (Nat.le_of_ble_eq_true rfl) dX7_copy_26 ⟨Nat.le_of_ble_eq_true rfl, Nat.le_of_ble_eq_true rfl⟩ (fun r_29 u_30 H locs hr_29 hP hD hS => ?_)
      obtain rfl := hr_29
      exact W.iret (v := (-1)) hx hb hr (fun t ht hW => ⟨⟨(-1), (), rfl, Or.inr (Or.inr (Or.inr (Or.inr (Or.inr (Or.inl (⟨rfl, (by first | omega | decide), (by first | omega | decide), (by first | omega | decide), (by first | omega | decide)⟩)))))), zP_nil, zD_nil⟩, hS.F ht⟩) hS.2.2 dX7_copy_29
  · obtain ⟨j7, hj7, hfs⟩ := zS_at sh (s := s_) (by omega) (by omega)
    rw [hfs]
    refine W.eq (g2 := F0 m 5 ls (.ref (sh j7) :: [])) rfl ?_
    have hqj7 : ([(x0, .inr (7, [.ref xs, .ref j0, .ref k0, .ref w0, .ref rd, .ref mv, .ref xr, .int 0, .int (-1)])), (xr, .inl (cI, 8, .inl (fun _ => 0))), (xs, .inl (cS, 8, .inr (.inr (.inr (.inr (zS sh)))))), ((sh 0), .inr (4, [.ref (el 0), .int (-1), .int 0])), ((sh 1), .inr (4, [.ref (el 1), .int (-1), .int 0])), ((sh 2), .inr (4, [.ref (el 2), .int (-1), .int 0])), ((sh 3), .inr (4, [.ref (el 3), .int (-1), .int 0])), ((sh 4), .inr (4, [.ref (el 4), .int (-1), .int 0])), ((sh 5), .inr (4, [.ref (el 5), .int (-1), .int 0])), ((sh 6), .inr (4, [.ref (el 6), .int (-1), .int 0])), ((sh 7), .inr (4, [.ref (el 7), .int (-1), .int 0]))] : va_W)[3 + j7]? = some ((sh j7), .inr (4, [.ref (el j7), .int (-1), .int 0])) := by rcases zj8 hj7 with rfl | rfl | rfl | rfl | rfl | rfl | rfl | rfl <;> rfl
    refine lv_astore (lv' := [(6, .ref (sh j7)), (0, .ref x0), (1, .int s_), (2, .int q_), (3, .int i), (4, .int j), (5, .int n)]) hx hb dX7_copy_5 hl (by decide) rfl (fun ls hl => ?_)
    refine lv_aload_n hx hb dX7_copy_7 rfl (lv_at hl 1 rfl) ?_
    refine lv_iload_n hx hb dX7_copy_8 rfl (lv_at hl 3 rfl) ?_
    refine zc_Vq (As := [.int q_]) (rest := []) ⟨hx, hb, hml, hown, hts⟩ (c_shelfAt l D cI cJ cZ cP cS x0 xs j0 k0 w0 rd mv xr ((zS sh)) (q_) ) (cwV 1 hts gX7_copy_X7_shelfAt rfl rfl rfl (by decide +kernel) ⟨Nat.le_of_ble_eq_true rfl, Nat.le_of_ble_eq_true rfl⟩) hK hN (hZ.kept hS) hP [0, 2] rfl (va_recv hK hP (ci := 7) (q0 := 0) rfl rfl) rfl hl.1 rfl (Nat.le_of_ble_eq_true rfl) dX7_copy_9 ⟨Nat.le_of_ble_eq_true rfl, Nat.le_of_ble_eq_true rfl⟩ (fun r_31 hr_31 => ?_)
    rcases hr_31 with ⟨rfl, g_32⟩ | ⟨rfl, g_33, g_34⟩ | ⟨rfl, g_35, g_36⟩
    · refine lv_astoreN (lv' := [(7, .null), (6, .ref (sh j7)), (0, .ref x0), (1, .int s_), (2, .int q_), (3, .int i), (4, .int j), (5, .int n)]) hx hb dX7_copy_12 hl (by decide) rfl (fun ls hl => ?_)
      refine lv_aload hx hb dX7_copy_14 (lv_at hl 1 rfl) ?_
      refine lv_ifnull hx hb dX7_copy_16 ?_
      refine lv_aloadN hx hb dX7_copy_19 (lv_at hl 0 rfl) ?_
      refine lv_ifnonnullN hx hb dX7_copy_21 ?_
      refine lv_aload_n hx hb dX7_copy_24 rfl (lv_at hl 2 rfl) ?_
      refine lv_iconst (v := 1) hx hb dX7_copy_25 (by decide) ?_
      skip
      refine zw_V (As := [.int 1]) (rest := []) (wr := []) ⟨hx, hb, hml, hown, hts⟩ (c_refuse_1 l D cI cJ cZ cP cS x0 xs j0 k0 w0 rd mv xr  H.size) (cwV 1 hts gX7_copy_X7_refuse rfl rfl rfl (by decide +kernel) ⟨Nat.le_of_ble_eq_true rfl, Nat.le_of_ble_eq_true rfl⟩) hK hN (hZ.kept hS) hP hD hS hA [0, 1] [] rfl rfl (by decide) (by decide) (by decide) (va_recv hK hP (ci := 7) (q0 := 0) rfl rfl) rfl hl.1 rfl (Nat.le_of_ble_eq_true rfl) dX7_copy_26 ⟨Nat.le_of_ble_eq_true rfl, Nat.le_of_ble_eq_true rfl⟩ (fun r_37 u_38 H locs hr_37 hP hD hS => ?_)
      obtain rfl := hr_37
      exact W.iret (v := (-1)) hx hb hr (fun t ht hW => ⟨⟨(-1), (), rfl, Or.inr (Or.inr (Or.inr (Or.inr (Or.inr (Or.inr (Or.inl (⟨rfl, (by first | omega | decide), (by first | omega | decide), (by first | omega | decide)⟩))))))), zP_nil, zD_nil⟩, hS.F ht⟩) hS.2.2 dX7_copy_29
    · refine lv_astoreN (lv' := [(7, .null), (6, .ref (sh j7)), (0, .ref x0), (1, .int s_), (2, .int q_), (3, .int i), (4, .int j), (5, .int n)]) hx hb dX7_copy_12 hl (by decide) rfl (fun ls hl => ?_)
      refine lv_aload hx hb dX7_copy_14 (lv_at hl 1 rfl) ?_
      refine lv_ifnull hx hb dX7_copy_16 ?_
      refine lv_aloadN hx hb dX7_copy_19 (lv_at hl 0 rfl) ?_
      refine lv_ifnonnullN hx hb dX7_copy_21 ?_
      refine lv_aload_n hx hb dX7_copy_24 rfl (lv_at hl 2 rfl) ?_
      refine lv_iconst (v := 1) hx hb dX7_copy_25 (by decide) ?_
      skip
      refine zw_V (As := [.int 1]) (rest := []) (wr := []) ⟨hx, hb, hml, hown, hts⟩ (c_refuse_1 l D cI cJ cZ cP cS x0 xs j0 k0 w0 rd mv xr  H.size) (cwV 1 hts gX7_copy_X7_refuse rfl rfl rfl (by decide +kernel) ⟨Nat.le_of_ble_eq_true rfl, Nat.le_of_ble_eq_true rfl⟩) hK hN (hZ.kept hS) hP hD hS hA [0, 1] [] rfl rfl (by decide) (by decide) (by decide) (va_recv hK hP (ci := 7) (q0 := 0) rfl rfl) rfl hl.1 rfl (Nat.le_of_ble_eq_true rfl) dX7_copy_26 ⟨Nat.le_of_ble_eq_true rfl, Nat.le_of_ble_eq_true rfl⟩ (fun r_39 u_40 H locs hr_39 hP hD hS => ?_)
      obtain rfl := hr_39
      exact W.iret (v := (-1)) hx hb hr (fun t ht hW => ⟨⟨(-1), (), rfl, Or.inr (Or.inr (Or.inr (Or.inr (Or.inr (Or.inr (Or.inr (Or.inl (⟨rfl, (by first | omega | decide), (by first | omega | decide), (by first | omega | decide), (by first | omega | decide)⟩)))))))), zP_nil, zD_nil⟩, hS.F ht⟩) hS.2.2 dX7_copy_29
    · obtain ⟨j8, hj8, hfs⟩ := zS_at sh (s := q_) (by omega) (by omega)
      rw [hfs]
      refine W.eq (g2 := F0 m 12 ls (.ref (sh j8) :: [])) rfl ?_
      have hqj8 : ([(x0, .inr (7, [.ref xs, .ref j0, .ref k0, .ref w0, .ref rd, .ref mv, .ref xr, .int 0, .int (-1)])), (xr, .inl (cI, 8, .inl (fun _ => 0))), (xs, .inl (cS, 8, .inr (.inr (.inr (.inr (zS sh)))))), ((sh 0), .inr (4, [.ref (el 0), .int (-1), .int 0])), ((sh 1), .inr (4, [.ref (el 1), .int (-1), .int 0])), ((sh 2), .inr (4, [.ref (el 2), .int (-1), .int 0])), ((sh 3), .inr (4, [.ref (el 3), .int (-1), .int 0])), ((sh 4), .inr (4, [.ref (el 4), .int (-1), .int 0])), ((sh 5), .inr (4, [.ref (el 5), .int (-1), .int 0])), ((sh 6), .inr (4, [.ref (el 6), .int (-1), .int 0])), ((sh 7), .inr (4, [.ref (el 7), .int (-1), .int 0]))] : va_W)[3 + j8]? = some ((sh j8), .inr (4, [.ref (el j8), .int (-1), .int 0])) := by rcases zj8 hj8 with rfl | rfl | rfl | rfl | rfl | rfl | rfl | rfl <;> rfl
      refine lv_astore (lv' := [(7, .ref (sh j8)), (6, .ref (sh j7)), (0, .ref x0), (1, .int s_), (2, .int q_), (3, .int i), (4, .int j), (5, .int n)]) hx hb dX7_copy_12 hl (by decide) rfl (fun ls hl => ?_)
      refine lv_aload hx hb dX7_copy_14 (lv_at hl 1 rfl) ?_
      refine lv_ifnull hx hb dX7_copy_16 ?_
      refine lv_aload hx hb dX7_copy_19 (lv_at hl 0 rfl) ?_
      refine lv_ifnonnull (tgt := 30) hx hb dX7_copy_21 (by decide) ?_
      refine lv_aload hx hb dX7_copy_30 (lv_at hl 1 rfl) ?_
      refine zc_V (As := []) (rest := []) ⟨hx, hb, hml, hown, hts⟩ (c_Shelf_noRow l D cI cJ cZ cP cS ((sh j7)) ((el j7)) ) (cwV 0 hts gX7_copy_X4_noRow rfl rfl rfl (by decide +kernel) ⟨Nat.le_of_ble_eq_true rfl, Nat.le_of_ble_eq_true rfl⟩) hK hN (hZ.kept hS) hP [(3 + j7)] (by simp only [List.filterMap_cons, List.filterMap_nil, hqj7]) (va_recv hK hP (ci := 4) (q0 := (3 + j7)) rfl hqj7) rfl hl.1 rfl (Nat.le_of_ble_eq_true rfl) dX7_copy_32 ⟨Nat.le_of_ble_eq_true rfl, Nat.le_of_ble_eq_true rfl⟩ (fun r_41 hr_41 => ?_)
      obtain rfl := hr_41
      refine lv_istore (lv' := [(8, .int 3), (7, .ref (sh j8)), (6, .ref (sh j7)), (0, .ref x0), (1, .int s_), (2, .int q_), (3, .int i), (4, .int j), (5, .int n)]) hx hb dX7_copy_35 hl (by decide) rfl (fun ls hl => ?_)
      refine lv_aload hx hb dX7_copy_37 (lv_at hl 1 rfl) ?_
      refine zc_V (As := []) (rest := []) ⟨hx, hb, hml, hown, hts⟩ (c_Shelf_noRow l D cI cJ cZ cP cS ((sh j8)) ((el j8)) ) (cwV 0 hts gX7_copy_X4_noRow rfl rfl rfl (by decide +kernel) ⟨Nat.le_of_ble_eq_true rfl, Nat.le_of_ble_eq_true rfl⟩) hK hN (hZ.kept hS) hP [(3 + j8)] (by simp only [List.filterMap_cons, List.filterMap_nil, hqj8]) (va_recv hK hP (ci := 4) (q0 := (3 + j8)) rfl hqj8) rfl hl.1 rfl (Nat.le_of_ble_eq_true rfl) dX7_copy_39 ⟨Nat.le_of_ble_eq_true rfl, Nat.le_of_ble_eq_true rfl⟩ (fun r_42 hr_42 => ?_)
      obtain rfl := hr_42
      refine lv_istore (lv' := [(9, .int 3), (8, .int 3), (7, .ref (sh j8)), (6, .ref (sh j7)), (0, .ref x0), (1, .int s_), (2, .int q_), (3, .int i), (4, .int j), (5, .int n)]) hx hb dX7_copy_42 hl (by decide) rfl (fun ls hl => ?_)
      refine lv_iload hx hb dX7_copy_44 (lv_at hl 1 rfl) ?_
      refine lv_if_ne (tgt := 71) hx hb dX7_copy_46 (by decide) (fun c_43 => ?_) (fun c_43 => ?_)
      · refine lv_iconst (v := 0) hx hb dX7_copy_71 (by decide) ?_
        refine lv_istore (lv' := [(10, .int 0), (9, .int 3), (8, .int 3), (7, .ref (sh j8)), (6, .ref (sh j7)), (0, .ref x0), (1, .int s_), (2, .int q_), (3, .int i), (4, .int j), (5, .int n)]) hx hb dX7_copy_72 hl (by decide) rfl (fun ls hl => ?_)
        refine lv_iload hx hb dX7_copy_74 (lv_at hl 2 rfl) ?_
        refine lv_iconst (v := 2) hx hb dX7_copy_76 (by decide) ?_
        refine lv_icmp_eq (tgt := 91) hx hb dX7_copy_77 (by decide) (fun c_44 => ?_) (fun c_44 => ?_)
        · exact absurd c_44 (by decide)
        · refine lv_iload hx hb dX7_copy_80 (lv_at hl 1 rfl) ?_
          refine lv_iconst (v := 2) hx hb dX7_copy_82 (by decide) ?_
          refine lv_icmp_eq (tgt := 91) hx hb dX7_copy_83 (by decide) (fun c_45 => ?_) (fun c_45 => ?_)
          · exact absurd c_45 (by decide)
          · refine lv_iload hx hb dX7_copy_86 (lv_at hl 0 rfl) ?_
            refine lv_if_eq (tgt := 97) hx hb dX7_copy_88 (by decide) (fun c_46 => ?_) (fun c_46 => ?_)
            · refine lv_iload hx hb dX7_copy_97 (lv_at hl 2 rfl) ?_
              refine lv_iconst (v := 3) hx hb dX7_copy_99 (by decide) ?_
              refine lv_icmp_eq (tgt := 109) hx hb dX7_copy_100 (by decide) (fun c_47 => ?_) (fun c_47 => ?_)
              · refine lv_aload_n hx hb dX7_copy_109 rfl (lv_at hl 5 rfl) ?_
                refine lv_iconst (v := 3) hx hb dX7_copy_110 (by decide) ?_
                skip
                refine zw_V (As := [.int 3]) (rest := []) (wr := []) ⟨hx, hb, hml, hown, hts⟩ (c_refuse_3 l D cI cJ cZ cP cS x0 xs j0 k0 w0 rd mv xr  H.size) (cwV 1 hts gX7_copy_X7_refuse rfl rfl rfl (by decide +kernel) ⟨Nat.le_of_ble_eq_true rfl, Nat.le_of_ble_eq_true rfl⟩) hK hN (hZ.kept hS) hP hD hS hA [0, 1] [] rfl rfl (by decide) (by decide) (by decide) (va_recv hK hP (ci := 7) (q0 := 0) rfl rfl) rfl hl.1 rfl (Nat.le_of_ble_eq_true rfl) dX7_copy_111 ⟨Nat.le_of_ble_eq_true rfl, Nat.le_of_ble_eq_true rfl⟩ (fun r_48 u_49 H locs hr_48 hP hD hS => ?_)
                obtain rfl := hr_48
                exact W.iret (v := (-3)) hx hb hr (fun t ht hW => ⟨⟨(-3), (), rfl, Or.inr (Or.inr (Or.inr (Or.inr (Or.inr (Or.inr (Or.inr (Or.inr (⟨rfl, (by first | omega | decide), (by first | omega | decide), (by first | omega | decide), (by first | omega | decide)⟩)))))))), zP_nil, zD_nil⟩, hS.F ht⟩) hS.2.2 dX7_copy_114
              · exact absurd c_47 (by decide)
            · exact absurd c_46 (by decide)
      · exact absurd c_43 (by decide)
set_option maxHeartbeats 4000000 in
set_option maxRecDepth 100000 in
theorem c_element (l : Launch) (D : va_G) (cI cJ cZ cP cS : ClassId) (x0 xs j0 k0 w0 rd mv xr : Nat)(sh el : Nat → Nat) (s_ i : Int32)  (sz : Nat) : Met l yX7_element wsX7_element ({ frames := 2, cells := 0, slots := 0, locals := 43 }) (va_Pc [.ref x0, .int s_, .int i] (zW D (zKT cI cJ cZ cP cS) [(x0, .inr (7, [.ref xs, .ref j0, .ref k0, .ref w0, .ref rd, .ref mv, .ref xr, .int 0, .int (-1)])), (xr, .inl (cI, 8, .inl (fun _ => 0))), (xs, .inl (cS, 8, .inr (.inr (.inr (.inr (zS sh)))))), ((sh 0), .inr (4, [.ref (el 0), .int (-1), .int 0])), ((sh 1), .inr (4, [.ref (el 1), .int (-1), .int 0])), ((sh 2), .inr (4, [.ref (el 2), .int (-1), .int 0])), ((sh 3), .inr (4, [.ref (el 3), .int (-1), .int 0])), ((sh 4), .inr (4, [.ref (el 4), .int (-1), .int 0])), ((sh 5), .inr (4, [.ref (el 5), .int (-1), .int 0])), ((sh 6), .inr (4, [.ref (el 6), .int (-1), .int 0])), ((sh 7), .inr (4, [.ref (el 7), .int (-1), .int 0]))] sz)) (va_Ql (fun (r : Int64) (_ : Unit) => (r = 0 ∧ s_.toInt < 0) ∨ (r = 0 ∧ 0 ≤ s_.toInt ∧ 7 < s_.toInt) ∨ (r = 0 ∧ 0 ≤ s_.toInt ∧ s_.toInt ≤ 7)) (zB D [(x0, .inr (7, [.ref xs, .ref j0, .ref k0, .ref w0, .ref rd, .ref mv, .ref xr, .int 0, .int (-1)])), (xr, .inl (cI, 8, .inl (fun _ => 0))), (xs, .inl (cS, 8, .inr (.inr (.inr (.inr (zS sh)))))), ((sh 0), .inr (4, [.ref (el 0), .int (-1), .int 0])), ((sh 1), .inr (4, [.ref (el 1), .int (-1), .int 0])), ((sh 2), .inr (4, [.ref (el 2), .int (-1), .int 0])), ((sh 3), .inr (4, [.ref (el 3), .int (-1), .int 0])), ((sh 4), .inr (4, [.ref (el 4), .int (-1), .int 0])), ((sh 5), .inr (4, [.ref (el 5), .int (-1), .int 0])), ((sh 6), .inr (4, [.ref (el 6), .int (-1), .int 0])), ((sh 7), .inr (4, [.ref (el 7), .int (-1), .int 0]))] sz (fun (_ : Unit) => ([] : va_W))) (va_A [(x0, .inr (7, [.ref xs, .ref j0, .ref k0, .ref w0, .ref rd, .ref mv, .ref xr, .int 0, .int (-1)])), (xr, .inl (cI, 8, .inl (fun _ => 0))), (xs, .inl (cS, 8, .inr (.inr (.inr (.inr (zS sh)))))), ((sh 0), .inr (4, [.ref (el 0), .int (-1), .int 0])), ((sh 1), .inr (4, [.ref (el 1), .int (-1), .int 0])), ((sh 2), .inr (4, [.ref (el 2), .int (-1), .int 0])), ((sh 3), .inr (4, [.ref (el 3), .int (-1), .int 0])), ((sh 4), .inr (4, [.ref (el 4), .int (-1), .int 0])), ((sh 5), .inr (4, [.ref (el 5), .int (-1), .int 0])), ((sh 6), .inr (4, [.ref (el 6), .int (-1), .int 0])), ((sh 7), .inr (4, [.ref (el 7), .int (-1), .int 0]))] sz)) 0 0 (va_A [(x0, .inr (7, [.ref xs, .ref j0, .ref k0, .ref w0, .ref rd, .ref mv, .ref xr, .int 0, .int (-1)])), (xr, .inl (cI, 8, .inl (fun _ => 0))), (xs, .inl (cS, 8, .inr (.inr (.inr (.inr (zS sh)))))), ((sh 0), .inr (4, [.ref (el 0), .int (-1), .int 0])), ((sh 1), .inr (4, [.ref (el 1), .int (-1), .int 0])), ((sh 2), .inr (4, [.ref (el 2), .int (-1), .int 0])), ((sh 3), .inr (4, [.ref (el 3), .int (-1), .int 0])), ((sh 4), .inr (4, [.ref (el 4), .int (-1), .int 0])), ((sh 5), .inr (4, [.ref (el 5), .int (-1), .int 0])), ((sh 6), .inr (4, [.ref (el 6), .int (-1), .int 0])), ((sh 7), .inr (4, [.ref (el 7), .int (-1), .int 0]))] sz) := by
  refine Met.ofW (cc := cX7_element) (maxL := 4) (ret := (some .long)) (by decide) rfl ?_
  intro p e s m args below meth c s₁ B hml hv
  obtain ⟨rfl, hsz, hP, hK, hD0, hN, hZ⟩ := hv
  have hx := B.exec
  have hb := B.bytes
  have hr := B.returns
  have hts := atoms_spec (ws := wsX7_element) B.pre
  have hown : s.vm.findClass RX7 = some m.cls := findClass_of_methodNamed B.named
  have hlocks := B.notSynchronized
  subst hsz
  have hD := hD0.self (sz := s.heap.size)
  have hA : ∀ q : Nat, s.heap.size ≤ q → va_A [(x0, .inr (7, [.ref xs, .ref j0, .ref k0, .ref w0, .ref rd, .ref mv, .ref xr, .int 0, .int (-1)])), (xr, .inl (cI, 8, .inl (fun _ => 0))), (xs, .inl (cS, 8, .inr (.inr (.inr (.inr (zS sh)))))), ((sh 0), .inr (4, [.ref (el 0), .int (-1), .int 0])), ((sh 1), .inr (4, [.ref (el 1), .int (-1), .int 0])), ((sh 2), .inr (4, [.ref (el 2), .int (-1), .int 0])), ((sh 3), .inr (4, [.ref (el 3), .int (-1), .int 0])), ((sh 4), .inr (4, [.ref (el 4), .int (-1), .int 0])), ((sh 5), .inr (4, [.ref (el 5), .int (-1), .int 0])), ((sh 6), .inr (4, [.ref (el 6), .int (-1), .int 0])), ((sh 7), .inr (4, [.ref (el 7), .int (-1), .int 0]))] s.heap.size q := fun q h => Or.inr h
  have hS : va_S (va_A [(x0, .inr (7, [.ref xs, .ref j0, .ref k0, .ref w0, .ref rd, .ref mv, .ref xr, .int 0, .int (-1)])), (xr, .inl (cI, 8, .inl (fun _ => 0))), (xs, .inl (cS, 8, .inr (.inr (.inr (.inr (zS sh)))))), ((sh 0), .inr (4, [.ref (el 0), .int (-1), .int 0])), ((sh 1), .inr (4, [.ref (el 1), .int (-1), .int 0])), ((sh 2), .inr (4, [.ref (el 2), .int (-1), .int 0])), ((sh 3), .inr (4, [.ref (el 3), .int (-1), .int 0])), ((sh 4), .inr (4, [.ref (el 4), .int (-1), .int 0])), ((sh 5), .inr (4, [.ref (el 5), .int (-1), .int 0])), ((sh 6), .inr (4, [.ref (el 6), .int (-1), .int 0])), ((sh 7), .inr (4, [.ref (el 7), .int (-1), .int 0]))] s.heap.size) s.heap s.heap [] := va_S.rf
  replace hP : va_P D vwCl _ s.heap := hP
  have hl := lv_entry ([.ref x0, .int s_, .int i]) (n := 4) (Nat.le_of_ble_eq_true rfl)
  rw [lg_entry_eq]
  generalize (lg_sl ([.ref x0, .int s_, .int i]) ++ List.replicate (4 - (lg_sl ([.ref x0, .int s_, .int i])).length) Slot.unset).toArray = ls at hl ⊢
  replace hl : lv_has ls 4 [(0, .ref x0), (1, .int s_), (2, .int i)] := hl
  refine zw_start (fun H locs hH hL => ?_)
  replace hP : va_P D vwCl [(x0, .inr (7, [.ref xs, .ref j0, .ref k0, .ref w0, .ref rd, .ref mv, .ref xr, .int 0, .int (-1)])), (xr, .inl (cI, 8, .inl (fun _ => 0))), (xs, .inl (cS, 8, .inr (.inr (.inr (.inr (zS sh)))))), ((sh 0), .inr (4, [.ref (el 0), .int (-1), .int 0])), ((sh 1), .inr (4, [.ref (el 1), .int (-1), .int 0])), ((sh 2), .inr (4, [.ref (el 2), .int (-1), .int 0])), ((sh 3), .inr (4, [.ref (el 3), .int (-1), .int 0])), ((sh 4), .inr (4, [.ref (el 4), .int (-1), .int 0])), ((sh 5), .inr (4, [.ref (el 5), .int (-1), .int 0])), ((sh 6), .inr (4, [.ref (el 6), .int (-1), .int 0])), ((sh 7), .inr (4, [.ref (el 7), .int (-1), .int 0]))] H := by rw [hH]; exact hP
  replace hS : va_S (va_A [(x0, .inr (7, [.ref xs, .ref j0, .ref k0, .ref w0, .ref rd, .ref mv, .ref xr, .int 0, .int (-1)])), (xr, .inl (cI, 8, .inl (fun _ => 0))), (xs, .inl (cS, 8, .inr (.inr (.inr (.inr (zS sh)))))), ((sh 0), .inr (4, [.ref (el 0), .int (-1), .int 0])), ((sh 1), .inr (4, [.ref (el 1), .int (-1), .int 0])), ((sh 2), .inr (4, [.ref (el 2), .int (-1), .int 0])), ((sh 3), .inr (4, [.ref (el 3), .int (-1), .int 0])), ((sh 4), .inr (4, [.ref (el 4), .int (-1), .int 0])), ((sh 5), .inr (4, [.ref (el 5), .int (-1), .int 0])), ((sh 6), .inr (4, [.ref (el 6), .int (-1), .int 0])), ((sh 7), .inr (4, [.ref (el 7), .int (-1), .int 0]))] s.heap.size) s.heap H locs := by rw [hH, hL]; exact hS
  clear hH hL
  refine lv_aload_n hx hb dX7_element_0 rfl (lv_at hl 0 rfl) ?_
  refine lv_iload_n hx hb dX7_element_1 rfl (lv_at hl 1 rfl) ?_
  refine zc_Vq (As := [.int s_]) (rest := []) ⟨hx, hb, hml, hown, hts⟩ (c_shelfAt l D cI cJ cZ cP cS x0 xs j0 k0 w0 rd mv xr ((zS sh)) (s_) ) (cwV 1 hts gX7_element_X7_shelfAt rfl rfl rfl (by decide +kernel) ⟨Nat.le_of_ble_eq_true rfl, Nat.le_of_ble_eq_true rfl⟩) hK hN (hZ.kept hS) hP [0, 2] rfl (va_recv hK hP (ci := 7) (q0 := 0) rfl rfl) rfl hl.1 rfl (Nat.le_of_ble_eq_true rfl) dX7_element_2 ⟨Nat.le_of_ble_eq_true rfl, Nat.le_of_ble_eq_true rfl⟩ (fun r_1 hr_1 => ?_)
  rcases hr_1 with ⟨rfl, g_2⟩ | ⟨rfl, g_3, g_4⟩ | ⟨rfl, g_5, g_6⟩
  · refine lv_astore_nN (lv' := [(3, .null), (0, .ref x0), (1, .int s_), (2, .int i)]) hx hb dX7_element_5 rfl hl (by decide) rfl (fun ls hl => ?_)
    refine lv_aload_nN hx hb dX7_element_6 rfl (lv_at hl 0 rfl) ?_
    refine lv_ifnullN (tgt := 26) hx hb dX7_element_7 (by decide) ?_
    refine lv_lconst (v := 0) hx hb dX7_element_26 (by decide) ?_
    exact W.lret (v := 0) hx hb hr (fun t ht hW => ⟨⟨0, (), rfl, Or.inl (⟨rfl, (by first | omega | decide)⟩), zP_nil, zD_nil⟩, hS.F ht⟩) hS.2.2 dX7_element_27
  · refine lv_astore_nN (lv' := [(3, .null), (0, .ref x0), (1, .int s_), (2, .int i)]) hx hb dX7_element_5 rfl hl (by decide) rfl (fun ls hl => ?_)
    refine lv_aload_nN hx hb dX7_element_6 rfl (lv_at hl 0 rfl) ?_
    refine lv_ifnullN (tgt := 26) hx hb dX7_element_7 (by decide) ?_
    refine lv_lconst (v := 0) hx hb dX7_element_26 (by decide) ?_
    exact W.lret (v := 0) hx hb hr (fun t ht hW => ⟨⟨0, (), rfl, Or.inr (Or.inl (⟨rfl, (by first | omega | decide), (by first | omega | decide)⟩)), zP_nil, zD_nil⟩, hS.F ht⟩) hS.2.2 dX7_element_27
  · obtain ⟨j2, hj2, hfs⟩ := zS_at sh (s := s_) (by omega) (by omega)
    rw [hfs]
    refine W.eq (g2 := F0 m 5 ls (.ref (sh j2) :: [])) rfl ?_
    have hqj2 : ([(x0, .inr (7, [.ref xs, .ref j0, .ref k0, .ref w0, .ref rd, .ref mv, .ref xr, .int 0, .int (-1)])), (xr, .inl (cI, 8, .inl (fun _ => 0))), (xs, .inl (cS, 8, .inr (.inr (.inr (.inr (zS sh)))))), ((sh 0), .inr (4, [.ref (el 0), .int (-1), .int 0])), ((sh 1), .inr (4, [.ref (el 1), .int (-1), .int 0])), ((sh 2), .inr (4, [.ref (el 2), .int (-1), .int 0])), ((sh 3), .inr (4, [.ref (el 3), .int (-1), .int 0])), ((sh 4), .inr (4, [.ref (el 4), .int (-1), .int 0])), ((sh 5), .inr (4, [.ref (el 5), .int (-1), .int 0])), ((sh 6), .inr (4, [.ref (el 6), .int (-1), .int 0])), ((sh 7), .inr (4, [.ref (el 7), .int (-1), .int 0]))] : va_W)[3 + j2]? = some ((sh j2), .inr (4, [.ref (el j2), .int (-1), .int 0])) := by rcases zj8 hj2 with rfl | rfl | rfl | rfl | rfl | rfl | rfl | rfl <;> rfl
    refine lv_astore_n (lv' := [(3, .ref (sh j2)), (0, .ref x0), (1, .int s_), (2, .int i)]) hx hb dX7_element_5 rfl hl (by decide) rfl (fun ls hl => ?_)
    refine lv_aload_n hx hb dX7_element_6 rfl (lv_at hl 0 rfl) ?_
    refine lv_ifnull hx hb dX7_element_7 ?_
    refine lv_aload_n hx hb dX7_element_10 rfl (lv_at hl 0 rfl) ?_
    refine zc_V (As := []) (rest := []) ⟨hx, hb, hml, hown, hts⟩ (c_Shelf_noRow l D cI cJ cZ cP cS ((sh j2)) ((el j2)) ) (cwV 0 hts gX7_element_X4_noRow rfl rfl rfl (by decide +kernel) ⟨Nat.le_of_ble_eq_true rfl, Nat.le_of_ble_eq_true rfl⟩) hK hN (hZ.kept hS) hP [(3 + j2)] (by simp only [List.filterMap_cons, List.filterMap_nil, hqj2]) (va_recv hK hP (ci := 4) (q0 := (3 + j2)) rfl hqj2) rfl hl.1 rfl (Nat.le_of_ble_eq_true rfl) dX7_element_11 ⟨Nat.le_of_ble_eq_true rfl, Nat.le_of_ble_eq_true rfl⟩ (fun r_7 hr_7 => ?_)
    obtain rfl := hr_7
    refine lv_if_ne (tgt := 26) hx hb dX7_element_14 (by decide) (fun c_8 => ?_) (fun c_8 => ?_)
    · refine lv_lconst (v := 0) hx hb dX7_element_26 (by decide) ?_
      exact W.lret (v := 0) hx hb hr (fun t ht hW => ⟨⟨0, (), rfl, Or.inr (Or.inr (⟨rfl, (by first | omega | decide), (by first | omega | decide)⟩)), zP_nil, zD_nil⟩, hS.F ht⟩) hS.2.2 dX7_element_27
    · exact absurd c_8 (by decide)
theorem hi_X7_show_4 : ∀ w ∈ u_ws RX4 TX4 3, w ∈ wsX7_show := by decide +kernel
theorem hi_X7_show_7 : ∀ w ∈ u_ws RX7 TX7 9, w ∈ wsX7_show := by decide +kernel
set_option maxHeartbeats 4000000 in
set_option maxRecDepth 100000 in
theorem c_show (l : Launch) (D : va_G) (cI cJ cZ cP cS : ClassId) (x0 xs j0 k0 w0 rd mv xr : Nat)(sh el : Nat → Nat) (jp jc z0 zl zs : Nat) (s_ p_ : Int32)  (sz : Nat) : Met l yX7_show wsX7_show ({ frames := 2, cells := 0, slots := 0, locals := 43 }) (va_Pc [.ref x0, .int s_, .int p_] (zW D (zKT cI cJ cZ cP cS) [(x0, .inr (7, [.ref xs, .ref j0, .ref k0, .ref w0, .ref rd, .ref mv, .ref xr, .int 0, .int (-1)])), (xr, .inl (cI, 8, .inl (fun _ => 0))), (xs, .inl (cS, 8, .inr (.inr (.inr (.inr (zS sh)))))), ((sh 0), .inr (4, [.ref (el 0), .int (-1), .int 0])), ((sh 1), .inr (4, [.ref (el 1), .int (-1), .int 0])), ((sh 2), .inr (4, [.ref (el 2), .int (-1), .int 0])), ((sh 3), .inr (4, [.ref (el 3), .int (-1), .int 0])), ((sh 4), .inr (4, [.ref (el 4), .int (-1), .int 0])), ((sh 5), .inr (4, [.ref (el 5), .int (-1), .int 0])), ((sh 6), .inr (4, [.ref (el 6), .int (-1), .int 0])), ((sh 7), .inr (4, [.ref (el 7), .int (-1), .int 0])), (j0, .inr (0, [.ref z0, .ref jp, .ref jc, .int 0, .int 0, .int 0, .int 60, .int 0, .int 1]))] sz)) (va_Qi (fun (r : Int32) (_ : Unit) => (r = (-1) ∧ s_.toInt < 0) ∨ (r = (-1) ∧ 0 ≤ s_.toInt ∧ 7 < s_.toInt) ∨ (r = 0 ∧ 0 ≤ s_.toInt ∧ s_.toInt ≤ 7 ∧ p_.toInt = (-1)) ∨ (r = (-1) ∧ 0 ≤ s_.toInt ∧ s_.toInt ≤ 7 ∧ p_.toInt ≠ (-1) ∧ p_.toInt < 0) ∨ (r = (-1) ∧ 0 ≤ s_.toInt ∧ s_.toInt ≤ 7 ∧ p_.toInt ≠ (-1) ∧ 0 ≤ p_.toInt)) (zB D [(x0, .inr (7, [.ref xs, .ref j0, .ref k0, .ref w0, .ref rd, .ref mv, .ref xr, .int 0, .int (-1)])), (xr, .inl (cI, 8, .inl (fun _ => 0))), (xs, .inl (cS, 8, .inr (.inr (.inr (.inr (zS sh)))))), ((sh 0), .inr (4, [.ref (el 0), .int (-1), .int 0])), ((sh 1), .inr (4, [.ref (el 1), .int (-1), .int 0])), ((sh 2), .inr (4, [.ref (el 2), .int (-1), .int 0])), ((sh 3), .inr (4, [.ref (el 3), .int (-1), .int 0])), ((sh 4), .inr (4, [.ref (el 4), .int (-1), .int 0])), ((sh 5), .inr (4, [.ref (el 5), .int (-1), .int 0])), ((sh 6), .inr (4, [.ref (el 6), .int (-1), .int 0])), ((sh 7), .inr (4, [.ref (el 7), .int (-1), .int 0])), (j0, .inr (0, [.ref z0, .ref jp, .ref jc, .int 0, .int 0, .int 0, .int 60, .int 0, .int 1]))] sz (fun (_ : Unit) => ([] : va_W))) (va_A [(x0, .inr (7, [.ref xs, .ref j0, .ref k0, .ref w0, .ref rd, .ref mv, .ref xr, .int 0, .int (-1)])), (xr, .inl (cI, 8, .inl (fun _ => 0))), (xs, .inl (cS, 8, .inr (.inr (.inr (.inr (zS sh)))))), ((sh 0), .inr (4, [.ref (el 0), .int (-1), .int 0])), ((sh 1), .inr (4, [.ref (el 1), .int (-1), .int 0])), ((sh 2), .inr (4, [.ref (el 2), .int (-1), .int 0])), ((sh 3), .inr (4, [.ref (el 3), .int (-1), .int 0])), ((sh 4), .inr (4, [.ref (el 4), .int (-1), .int 0])), ((sh 5), .inr (4, [.ref (el 5), .int (-1), .int 0])), ((sh 6), .inr (4, [.ref (el 6), .int (-1), .int 0])), ((sh 7), .inr (4, [.ref (el 7), .int (-1), .int 0])), (j0, .inr (0, [.ref z0, .ref jp, .ref jc, .int 0, .int 0, .int 0, .int 60, .int 0, .int 1]))] sz)) 0 0 (va_A [(x0, .inr (7, [.ref xs, .ref j0, .ref k0, .ref w0, .ref rd, .ref mv, .ref xr, .int 0, .int (-1)])), (xr, .inl (cI, 8, .inl (fun _ => 0))), (xs, .inl (cS, 8, .inr (.inr (.inr (.inr (zS sh)))))), ((sh 0), .inr (4, [.ref (el 0), .int (-1), .int 0])), ((sh 1), .inr (4, [.ref (el 1), .int (-1), .int 0])), ((sh 2), .inr (4, [.ref (el 2), .int (-1), .int 0])), ((sh 3), .inr (4, [.ref (el 3), .int (-1), .int 0])), ((sh 4), .inr (4, [.ref (el 4), .int (-1), .int 0])), ((sh 5), .inr (4, [.ref (el 5), .int (-1), .int 0])), ((sh 6), .inr (4, [.ref (el 6), .int (-1), .int 0])), ((sh 7), .inr (4, [.ref (el 7), .int (-1), .int 0])), (j0, .inr (0, [.ref z0, .ref jp, .ref jc, .int 0, .int 0, .int 0, .int 60, .int 0, .int 1]))] sz) := by
  refine Met.ofW (cc := cX7_show) (maxL := 4) (ret := (some .int)) (by decide) rfl ?_
  intro p e s m args below meth c s₁ B hml hv
  obtain ⟨rfl, hsz, hP, hK, hD0, hN, hZ⟩ := hv
  have hx := B.exec
  have hb := B.bytes
  have hr := B.returns
  have hts := atoms_spec (ws := wsX7_show) B.pre
  have hown : s.vm.findClass RX7 = some m.cls := findClass_of_methodNamed B.named
  have hlocks := B.notSynchronized
  subst hsz
  have hD := hD0.self (sz := s.heap.size)
  have hA : ∀ q : Nat, s.heap.size ≤ q → va_A [(x0, .inr (7, [.ref xs, .ref j0, .ref k0, .ref w0, .ref rd, .ref mv, .ref xr, .int 0, .int (-1)])), (xr, .inl (cI, 8, .inl (fun _ => 0))), (xs, .inl (cS, 8, .inr (.inr (.inr (.inr (zS sh)))))), ((sh 0), .inr (4, [.ref (el 0), .int (-1), .int 0])), ((sh 1), .inr (4, [.ref (el 1), .int (-1), .int 0])), ((sh 2), .inr (4, [.ref (el 2), .int (-1), .int 0])), ((sh 3), .inr (4, [.ref (el 3), .int (-1), .int 0])), ((sh 4), .inr (4, [.ref (el 4), .int (-1), .int 0])), ((sh 5), .inr (4, [.ref (el 5), .int (-1), .int 0])), ((sh 6), .inr (4, [.ref (el 6), .int (-1), .int 0])), ((sh 7), .inr (4, [.ref (el 7), .int (-1), .int 0])), (j0, .inr (0, [.ref z0, .ref jp, .ref jc, .int 0, .int 0, .int 0, .int 60, .int 0, .int 1]))] s.heap.size q := fun q h => Or.inr h
  have hS : va_S (va_A [(x0, .inr (7, [.ref xs, .ref j0, .ref k0, .ref w0, .ref rd, .ref mv, .ref xr, .int 0, .int (-1)])), (xr, .inl (cI, 8, .inl (fun _ => 0))), (xs, .inl (cS, 8, .inr (.inr (.inr (.inr (zS sh)))))), ((sh 0), .inr (4, [.ref (el 0), .int (-1), .int 0])), ((sh 1), .inr (4, [.ref (el 1), .int (-1), .int 0])), ((sh 2), .inr (4, [.ref (el 2), .int (-1), .int 0])), ((sh 3), .inr (4, [.ref (el 3), .int (-1), .int 0])), ((sh 4), .inr (4, [.ref (el 4), .int (-1), .int 0])), ((sh 5), .inr (4, [.ref (el 5), .int (-1), .int 0])), ((sh 6), .inr (4, [.ref (el 6), .int (-1), .int 0])), ((sh 7), .inr (4, [.ref (el 7), .int (-1), .int 0])), (j0, .inr (0, [.ref z0, .ref jp, .ref jc, .int 0, .int 0, .int 0, .int 60, .int 0, .int 1]))] s.heap.size) s.heap s.heap [] := va_S.rf
  replace hP : va_P D vwCl _ s.heap := hP
  have hl := lv_entry ([.ref x0, .int s_, .int p_]) (n := 4) (Nat.le_of_ble_eq_true rfl)
  rw [lg_entry_eq]
  generalize (lg_sl ([.ref x0, .int s_, .int p_]) ++ List.replicate (4 - (lg_sl ([.ref x0, .int s_, .int p_])).length) Slot.unset).toArray = ls at hl ⊢
  replace hl : lv_has ls 4 [(0, .ref x0), (1, .int s_), (2, .int p_)] := hl
  refine zw_start (fun H locs hH hL => ?_)
  replace hP : va_P D vwCl [(x0, .inr (7, [.ref xs, .ref j0, .ref k0, .ref w0, .ref rd, .ref mv, .ref xr, .int 0, .int (-1)])), (xr, .inl (cI, 8, .inl (fun _ => 0))), (xs, .inl (cS, 8, .inr (.inr (.inr (.inr (zS sh)))))), ((sh 0), .inr (4, [.ref (el 0), .int (-1), .int 0])), ((sh 1), .inr (4, [.ref (el 1), .int (-1), .int 0])), ((sh 2), .inr (4, [.ref (el 2), .int (-1), .int 0])), ((sh 3), .inr (4, [.ref (el 3), .int (-1), .int 0])), ((sh 4), .inr (4, [.ref (el 4), .int (-1), .int 0])), ((sh 5), .inr (4, [.ref (el 5), .int (-1), .int 0])), ((sh 6), .inr (4, [.ref (el 6), .int (-1), .int 0])), ((sh 7), .inr (4, [.ref (el 7), .int (-1), .int 0])), (j0, .inr (0, [.ref z0, .ref jp, .ref jc, .int 0, .int 0, .int 0, .int 60, .int 0, .int 1]))] H := by rw [hH]; exact hP
  replace hS : va_S (va_A [(x0, .inr (7, [.ref xs, .ref j0, .ref k0, .ref w0, .ref rd, .ref mv, .ref xr, .int 0, .int (-1)])), (xr, .inl (cI, 8, .inl (fun _ => 0))), (xs, .inl (cS, 8, .inr (.inr (.inr (.inr (zS sh)))))), ((sh 0), .inr (4, [.ref (el 0), .int (-1), .int 0])), ((sh 1), .inr (4, [.ref (el 1), .int (-1), .int 0])), ((sh 2), .inr (4, [.ref (el 2), .int (-1), .int 0])), ((sh 3), .inr (4, [.ref (el 3), .int (-1), .int 0])), ((sh 4), .inr (4, [.ref (el 4), .int (-1), .int 0])), ((sh 5), .inr (4, [.ref (el 5), .int (-1), .int 0])), ((sh 6), .inr (4, [.ref (el 6), .int (-1), .int 0])), ((sh 7), .inr (4, [.ref (el 7), .int (-1), .int 0])), (j0, .inr (0, [.ref z0, .ref jp, .ref jc, .int 0, .int 0, .int 0, .int 60, .int 0, .int 1]))] s.heap.size) s.heap H locs := by rw [hH, hL]; exact hS
  clear hH hL
  refine lv_aload_n hx hb dX7_show_0 rfl (lv_at hl 0 rfl) ?_
  refine lv_iload_n hx hb dX7_show_1 rfl (lv_at hl 1 rfl) ?_
  refine zc_Vq (As := [.int s_]) (rest := []) ⟨hx, hb, hml, hown, hts⟩ (c_shelfAt l D cI cJ cZ cP cS x0 xs j0 k0 w0 rd mv xr ((zS sh)) (s_) ) (cwV 1 hts gX7_show_X7_shelfAt rfl rfl rfl (by decide +kernel) ⟨Nat.le_of_ble_eq_true rfl, Nat.le_of_ble_eq_true rfl⟩) hK hN (hZ.kept hS) hP [0, 2] rfl (va_recv hK hP (ci := 7) (q0 := 0) rfl rfl) rfl hl.1 rfl (Nat.le_of_ble_eq_true rfl) dX7_show_2 ⟨Nat.le_of_ble_eq_true rfl, Nat.le_of_ble_eq_true rfl⟩ (fun r_1 hr_1 => ?_)
  rcases hr_1 with ⟨rfl, g_2⟩ | ⟨rfl, g_3, g_4⟩ | ⟨rfl, g_5, g_6⟩
  · refine lv_astore_nN (lv' := [(3, .null), (0, .ref x0), (1, .int s_), (2, .int p_)]) hx hb dX7_show_5 rfl hl (by decide) rfl (fun ls hl => ?_)
    refine lv_aload_nN hx hb dX7_show_6 rfl (lv_at hl 0 rfl) ?_
    refine lv_ifnullN (tgt := 26) hx hb dX7_show_7 (by decide) ?_
    refine lv_aload_n hx hb dX7_show_26 rfl (lv_at hl 1 rfl) ?_
    refine lv_iconst (v := 1) hx hb dX7_show_27 (by decide) ?_
    skip
    refine zw_V (As := [.int 1]) (rest := []) (wr := []) ⟨hx, hb, hml, hown, hts⟩ (c_refuse_1 l D cI cJ cZ cP cS x0 xs j0 k0 w0 rd mv xr  H.size) (cwV 1 hts gX7_show_X7_refuse rfl rfl rfl (by decide +kernel) ⟨Nat.le_of_ble_eq_true rfl, Nat.le_of_ble_eq_true rfl⟩) hK hN (hZ.kept hS) hP hD hS hA [0, 1] [] rfl rfl (by decide) (by decide) (by decide) (va_recv hK hP (ci := 7) (q0 := 0) rfl rfl) rfl hl.1 rfl (Nat.le_of_ble_eq_true rfl) dX7_show_28 ⟨Nat.le_of_ble_eq_true rfl, Nat.le_of_ble_eq_true rfl⟩ (fun r_7 u_8 H locs hr_7 hP hD hS => ?_)
    obtain rfl := hr_7
    exact W.iret (v := (-1)) hx hb hr (fun t ht hW => ⟨⟨(-1), (), rfl, Or.inl (⟨rfl, (by first | omega | decide)⟩), zP_nil, zD_nil⟩, hS.F ht⟩) hS.2.2 dX7_show_31
  · refine lv_astore_nN (lv' := [(3, .null), (0, .ref x0), (1, .int s_), (2, .int p_)]) hx hb dX7_show_5 rfl hl (by decide) rfl (fun ls hl => ?_)
    refine lv_aload_nN hx hb dX7_show_6 rfl (lv_at hl 0 rfl) ?_
    refine lv_ifnullN (tgt := 26) hx hb dX7_show_7 (by decide) ?_
    refine lv_aload_n hx hb dX7_show_26 rfl (lv_at hl 1 rfl) ?_
    refine lv_iconst (v := 1) hx hb dX7_show_27 (by decide) ?_
    skip
    refine zw_V (As := [.int 1]) (rest := []) (wr := []) ⟨hx, hb, hml, hown, hts⟩ (c_refuse_1 l D cI cJ cZ cP cS x0 xs j0 k0 w0 rd mv xr  H.size) (cwV 1 hts gX7_show_X7_refuse rfl rfl rfl (by decide +kernel) ⟨Nat.le_of_ble_eq_true rfl, Nat.le_of_ble_eq_true rfl⟩) hK hN (hZ.kept hS) hP hD hS hA [0, 1] [] rfl rfl (by decide) (by decide) (by decide) (va_recv hK hP (ci := 7) (q0 := 0) rfl rfl) rfl hl.1 rfl (Nat.le_of_ble_eq_true rfl) dX7_show_28 ⟨Nat.le_of_ble_eq_true rfl, Nat.le_of_ble_eq_true rfl⟩ (fun r_9 u_10 H locs hr_9 hP hD hS => ?_)
    obtain rfl := hr_9
    exact W.iret (v := (-1)) hx hb hr (fun t ht hW => ⟨⟨(-1), (), rfl, Or.inr (Or.inl (⟨rfl, (by first | omega | decide), (by first | omega | decide)⟩)), zP_nil, zD_nil⟩, hS.F ht⟩) hS.2.2 dX7_show_31
  · obtain ⟨j, hj, hfs⟩ := zS_at sh (s := s_) (by omega) (by omega)
    rw [hfs]
    rcases zj8 hj with rfl | rfl | rfl | rfl | rfl | rfl | rfl | rfl
    · refine W.eq (g2 := F0 m 5 ls (.ref (sh 0) :: [])) rfl ?_
      refine lv_astore_n (lv' := [(3, .ref (sh 0)), (0, .ref x0), (1, .int s_), (2, .int p_)]) hx hb dX7_show_5 rfl hl (by decide) rfl (fun ls hl => ?_)
      refine lv_aload_n hx hb dX7_show_6 rfl (lv_at hl 0 rfl) ?_
      refine lv_ifnull hx hb dX7_show_7 ?_
      refine lv_iload_n hx hb dX7_show_10 rfl (lv_at hl 3 rfl) ?_
      refine lv_iconst (v := (-1)) hx hb dX7_show_11 (by decide) ?_
      refine lv_icmp_eq (tgt := 32) hx hb dX7_show_12 (by decide) (fun c_11 => ?_) (fun c_11 => ?_)
      · have fc_11 : p_.toInt = (-1) := zf_eq c_11 rfl (by decide)
        refine lv_aload_n hx hb dX7_show_32 rfl (lv_at hl 0 rfl) ?_
        refine lv_iload_n hx hb dX7_show_33 rfl (lv_at hl 3 rfl) ?_
        refine va_put (D := D) (ci := 4) (v := .int p_) (ty := .int) (C := RX4) (T := TX4) (N := 3) hx hb hts hi_X7_show_4 tyX4 tyX4_ok nmX4 hown hK hP hD hS 3 rfl rfl 1 (by decide) (hts (.fieldLink RX7 87 "TheLiningsInIt$Shelf" "held" "I") (List.mem_of_getElem? (i := 2) rfl)) (fun _ h9 => h9) rfl (by decide +kernel) rfl rfl (Nat.le_of_ble_eq_true rfl) dX7_show_34 (fun H locs hP hD hS => ?_)
        refine lv_iload_n hx hb dX7_show_37 rfl (lv_at hl 3 rfl) ?_
        refine lv_iconst (v := (-1)) hx hb dX7_show_38 (by decide) ?_
        refine lv_icmp_ne (tgt := 46) hx hb dX7_show_39 (by decide) (fun c_12 => ?_) (fun c_12 => ?_)
        · exfalso; have fc_12 : p_.toInt ≠ (-1) := zf_ne c_12 rfl (by decide); omega
        · have fc_12 : p_.toInt = (-1) := zf_eq c_12 rfl (by decide)
          refine lv_iconst (v := 0) hx hb dX7_show_42 (by decide) ?_
          refine lv_goto (tgt := 47) hx hb dX7_show_43 (by decide) ?_
          exact W.iret (v := 0) hx hb hr (fun t ht hW => ⟨⟨0, (), rfl, Or.inr (Or.inr (Or.inl (⟨rfl, (by first | omega | decide), (by first | omega | decide), (by first | omega | decide)⟩))), zP_nil, zD_nil⟩, hS.F ht⟩) hS.2.2 dX7_show_47
      · have fc_11 : p_.toInt ≠ (-1) := zf_ne c_11 rfl (by decide)
        refine lv_aload_n hx hb dX7_show_15 rfl (lv_at hl 1 rfl) ?_
        refine va_get (D := D) (ci := 7) (v := .ref j0) (C := RX7) (T := TX7) (N := 9) hx hb hts hi_X7_show_7 hown hK hP 0 rfl rfl 1 (by decide) (hts (.fieldLink RX7 18 "TheLiningsInIt" "now" "LTheLiningsInIt$Jacket;") (List.mem_of_getElem? (i := 1) rfl)) (fun _ h9 => h9) rfl dX7_show_16 ?_
        refine lv_iload_n hx hb dX7_show_19 rfl (lv_at hl 3 rfl) ?_
        refine zc_Vq (As := [.int p_]) (rest := []) ⟨hx, hb, hml, hown, hts⟩ (c_J_pullAt l D cI cJ cZ cP cS j0 jp jc z0 0 0 (p_) (0) ) (cwV 1 hts gX7_show_X0_pullAt rfl rfl rfl (by decide +kernel) ⟨Nat.le_of_ble_eq_true rfl, Nat.le_of_ble_eq_true rfl⟩) hK hN (hZ.kept hS) hP [11] rfl (va_recv hK hP (ci := 0) (q0 := 11) rfl rfl) rfl hl.1 rfl (Nat.le_of_ble_eq_true rfl) dX7_show_20 ⟨Nat.le_of_ble_eq_true rfl, Nat.le_of_ble_eq_true rfl⟩ (fun r_13 hr_13 => ?_)
        rcases hr_13 with ⟨rfl, g_14⟩ | ⟨rfl, g_15⟩
        · refine lv_ifnonnullN hx hb dX7_show_23 ?_
          refine lv_aload_n hx hb dX7_show_26 rfl (lv_at hl 1 rfl) ?_
          refine lv_iconst (v := 1) hx hb dX7_show_27 (by decide) ?_
          skip
          refine zw_V (As := [.int 1]) (rest := []) (wr := []) ⟨hx, hb, hml, hown, hts⟩ (c_refuse_1 l D cI cJ cZ cP cS x0 xs j0 k0 w0 rd mv xr  H.size) (cwV 1 hts gX7_show_X7_refuse rfl rfl rfl (by decide +kernel) ⟨Nat.le_of_ble_eq_true rfl, Nat.le_of_ble_eq_true rfl⟩) hK hN (hZ.kept hS) hP hD hS hA [0, 1] [] rfl rfl (by decide) (by decide) (by decide) (va_recv hK hP (ci := 7) (q0 := 0) rfl rfl) rfl hl.1 rfl (Nat.le_of_ble_eq_true rfl) dX7_show_28 ⟨Nat.le_of_ble_eq_true rfl, Nat.le_of_ble_eq_true rfl⟩ (fun r_16 u_17 H locs hr_16 hP hD hS => ?_)
          obtain rfl := hr_16
          exact W.iret (v := (-1)) hx hb hr (fun t ht hW => ⟨⟨(-1), (), rfl, Or.inr (Or.inr (Or.inr (Or.inl (⟨rfl, (by first | omega | decide), (by first | omega | decide), (by first | omega | decide), (by first | omega | decide)⟩)))), zP_nil, zD_nil⟩, hS.F ht⟩) hS.2.2 dX7_show_31
        · refine lv_ifnonnullN hx hb dX7_show_23 ?_
          refine lv_aload_n hx hb dX7_show_26 rfl (lv_at hl 1 rfl) ?_
          refine lv_iconst (v := 1) hx hb dX7_show_27 (by decide) ?_
          skip
          refine zw_V (As := [.int 1]) (rest := []) (wr := []) ⟨hx, hb, hml, hown, hts⟩ (c_refuse_1 l D cI cJ cZ cP cS x0 xs j0 k0 w0 rd mv xr  H.size) (cwV 1 hts gX7_show_X7_refuse rfl rfl rfl (by decide +kernel) ⟨Nat.le_of_ble_eq_true rfl, Nat.le_of_ble_eq_true rfl⟩) hK hN (hZ.kept hS) hP hD hS hA [0, 1] [] rfl rfl (by decide) (by decide) (by decide) (va_recv hK hP (ci := 7) (q0 := 0) rfl rfl) rfl hl.1 rfl (Nat.le_of_ble_eq_true rfl) dX7_show_28 ⟨Nat.le_of_ble_eq_true rfl, Nat.le_of_ble_eq_true rfl⟩ (fun r_18 u_19 H locs hr_18 hP hD hS => ?_)
          obtain rfl := hr_18
          exact W.iret (v := (-1)) hx hb hr (fun t ht hW => ⟨⟨(-1), (), rfl, Or.inr (Or.inr (Or.inr (Or.inr (⟨rfl, (by first | omega | decide), (by first | omega | decide), (by first | omega | decide), (by first | omega | decide)⟩)))), zP_nil, zD_nil⟩, hS.F ht⟩) hS.2.2 dX7_show_31
    · refine W.eq (g2 := F0 m 5 ls (.ref (sh 1) :: [])) rfl ?_
      refine lv_astore_n (lv' := [(3, .ref (sh 1)), (0, .ref x0), (1, .int s_), (2, .int p_)]) hx hb dX7_show_5 rfl hl (by decide) rfl (fun ls hl => ?_)
      refine lv_aload_n hx hb dX7_show_6 rfl (lv_at hl 0 rfl) ?_
      refine lv_ifnull hx hb dX7_show_7 ?_
      refine lv_iload_n hx hb dX7_show_10 rfl (lv_at hl 3 rfl) ?_
      refine lv_iconst (v := (-1)) hx hb dX7_show_11 (by decide) ?_
      refine lv_icmp_eq (tgt := 32) hx hb dX7_show_12 (by decide) (fun c_20 => ?_) (fun c_20 => ?_)
      · have fc_20 : p_.toInt = (-1) := zf_eq c_20 rfl (by decide)
        refine lv_aload_n hx hb dX7_show_32 rfl (lv_at hl 0 rfl) ?_
        refine lv_iload_n hx hb dX7_show_33 rfl (lv_at hl 3 rfl) ?_
        refine va_put (D := D) (ci := 4) (v := .int p_) (ty := .int) (C := RX4) (T := TX4) (N := 3) hx hb hts hi_X7_show_4 tyX4 tyX4_ok nmX4 hown hK hP hD hS 4 rfl rfl 1 (by decide) (hts (.fieldLink RX7 87 "TheLiningsInIt$Shelf" "held" "I") (List.mem_of_getElem? (i := 2) rfl)) (fun _ h9 => h9) rfl (by decide +kernel) rfl rfl (Nat.le_of_ble_eq_true rfl) dX7_show_34 (fun H locs hP hD hS => ?_)
        refine lv_iload_n hx hb dX7_show_37 rfl (lv_at hl 3 rfl) ?_
        refine lv_iconst (v := (-1)) hx hb dX7_show_38 (by decide) ?_
        refine lv_icmp_ne (tgt := 46) hx hb dX7_show_39 (by decide) (fun c_21 => ?_) (fun c_21 => ?_)
        · exfalso; have fc_21 : p_.toInt ≠ (-1) := zf_ne c_21 rfl (by decide); omega
        · have fc_21 : p_.toInt = (-1) := zf_eq c_21 rfl (by decide)
          refine lv_iconst (v := 0) hx hb dX7_show_42 (by decide) ?_
          refine lv_goto (tgt := 47) hx hb dX7_show_43 (by decide) ?_
          exact W.iret (v := 0) hx hb hr (fun t ht hW => ⟨⟨0, (), rfl, Or.inr (Or.inr (Or.inl (⟨rfl, (by first | omega | decide), (by first | omega | decide), (by first | omega | decide)⟩))), zP_nil, zD_nil⟩, hS.F ht⟩) hS.2.2 dX7_show_47
      · have fc_20 : p_.toInt ≠ (-1) := zf_ne c_20 rfl (by decide)
        refine lv_aload_n hx hb dX7_show_15 rfl (lv_at hl 1 rfl) ?_
        refine va_get (D := D) (ci := 7) (v := .ref j0) (C := RX7) (T := TX7) (N := 9) hx hb hts hi_X7_show_7 hown hK hP 0 rfl rfl 1 (by decide) (hts (.fieldLink RX7 18 "TheLiningsInIt" "now" "LTheLiningsInIt$Jacket;") (List.mem_of_getElem? (i := 1) rfl)) (fun _ h9 => h9) rfl dX7_show_16 ?_
        refine lv_iload_n hx hb dX7_show_19 rfl (lv_at hl 3 rfl) ?_
        refine zc_Vq (As := [.int p_]) (rest := []) ⟨hx, hb, hml, hown, hts⟩ (c_J_pullAt l D cI cJ cZ cP cS j0 jp jc z0 0 0 (p_) (0) ) (cwV 1 hts gX7_show_X0_pullAt rfl rfl rfl (by decide +kernel) ⟨Nat.le_of_ble_eq_true rfl, Nat.le_of_ble_eq_true rfl⟩) hK hN (hZ.kept hS) hP [11] rfl (va_recv hK hP (ci := 0) (q0 := 11) rfl rfl) rfl hl.1 rfl (Nat.le_of_ble_eq_true rfl) dX7_show_20 ⟨Nat.le_of_ble_eq_true rfl, Nat.le_of_ble_eq_true rfl⟩ (fun r_22 hr_22 => ?_)
        rcases hr_22 with ⟨rfl, g_23⟩ | ⟨rfl, g_24⟩
        · refine lv_ifnonnullN hx hb dX7_show_23 ?_
          refine lv_aload_n hx hb dX7_show_26 rfl (lv_at hl 1 rfl) ?_
          refine lv_iconst (v := 1) hx hb dX7_show_27 (by decide) ?_
          skip
          refine zw_V (As := [.int 1]) (rest := []) (wr := []) ⟨hx, hb, hml, hown, hts⟩ (c_refuse_1 l D cI cJ cZ cP cS x0 xs j0 k0 w0 rd mv xr  H.size) (cwV 1 hts gX7_show_X7_refuse rfl rfl rfl (by decide +kernel) ⟨Nat.le_of_ble_eq_true rfl, Nat.le_of_ble_eq_true rfl⟩) hK hN (hZ.kept hS) hP hD hS hA [0, 1] [] rfl rfl (by decide) (by decide) (by decide) (va_recv hK hP (ci := 7) (q0 := 0) rfl rfl) rfl hl.1 rfl (Nat.le_of_ble_eq_true rfl) dX7_show_28 ⟨Nat.le_of_ble_eq_true rfl, Nat.le_of_ble_eq_true rfl⟩ (fun r_25 u_26 H locs hr_25 hP hD hS => ?_)
          obtain rfl := hr_25
          exact W.iret (v := (-1)) hx hb hr (fun t ht hW => ⟨⟨(-1), (), rfl, Or.inr (Or.inr (Or.inr (Or.inl (⟨rfl, (by first | omega | decide), (by first | omega | decide), (by first | omega | decide), (by first | omega | decide)⟩)))), zP_nil, zD_nil⟩, hS.F ht⟩) hS.2.2 dX7_show_31
        · refine lv_ifnonnullN hx hb dX7_show_23 ?_
          refine lv_aload_n hx hb dX7_show_26 rfl (lv_at hl 1 rfl) ?_
          refine lv_iconst (v := 1) hx hb dX7_show_27 (by decide) ?_
          skip
          refine zw_V (As := [.int 1]) (rest := []) (wr := []) ⟨hx, hb, hml, hown, hts⟩ (c_refuse_1 l D cI cJ cZ cP cS x0 xs j0 k0 w0 rd mv xr  H.size) (cwV 1 hts gX7_show_X7_refuse rfl rfl rfl (by decide +kernel) ⟨Nat.le_of_ble_eq_true rfl, Nat.le_of_ble_eq_true rfl⟩) hK hN (hZ.kept hS) hP hD hS hA [0, 1] [] rfl rfl (by decide) (by decide) (by decide) (va_recv hK hP (ci := 7) (q0 := 0) rfl rfl) rfl hl.1 rfl (Nat.le_of_ble_eq_true rfl) dX7_show_28 ⟨Nat.le_of_ble_eq_true rfl, Nat.le_of_ble_eq_true rfl⟩ (fun r_27 u_28 H locs hr_27 hP hD hS => ?_)
          obtain rfl := hr_27
          exact W.iret (v := (-1)) hx hb hr (fun t ht hW => ⟨⟨(-1), (), rfl, Or.inr (Or.inr (Or.inr (Or.inr (⟨rfl, (by first | omega | decide), (by first | omega | decide), (by first | omega | decide), (by first | omega | decide)⟩)))), zP_nil, zD_nil⟩, hS.F ht⟩) hS.2.2 dX7_show_31
    · refine W.eq (g2 := F0 m 5 ls (.ref (sh 2) :: [])) rfl ?_
      refine lv_astore_n (lv' := [(3, .ref (sh 2)), (0, .ref x0), (1, .int s_), (2, .int p_)]) hx hb dX7_show_5 rfl hl (by decide) rfl (fun ls hl => ?_)
      refine lv_aload_n hx hb dX7_show_6 rfl (lv_at hl 0 rfl) ?_
      refine lv_ifnull hx hb dX7_show_7 ?_
      refine lv_iload_n hx hb dX7_show_10 rfl (lv_at hl 3 rfl) ?_
      refine lv_iconst (v := (-1)) hx hb dX7_show_11 (by decide) ?_
      refine lv_icmp_eq (tgt := 32) hx hb dX7_show_12 (by decide) (fun c_29 => ?_) (fun c_29 => ?_)
      · have fc_29 : p_.toInt = (-1) := zf_eq c_29 rfl (by decide)
        refine lv_aload_n hx hb dX7_show_32 rfl (lv_at hl 0 rfl) ?_
        refine lv_iload_n hx hb dX7_show_33 rfl (lv_at hl 3 rfl) ?_
        refine va_put (D := D) (ci := 4) (v := .int p_) (ty := .int) (C := RX4) (T := TX4) (N := 3) hx hb hts hi_X7_show_4 tyX4 tyX4_ok nmX4 hown hK hP hD hS 5 rfl rfl 1 (by decide) (hts (.fieldLink RX7 87 "TheLiningsInIt$Shelf" "held" "I") (List.mem_of_getElem? (i := 2) rfl)) (fun _ h9 => h9) rfl (by decide +kernel) rfl rfl (Nat.le_of_ble_eq_true rfl) dX7_show_34 (fun H locs hP hD hS => ?_)
        refine lv_iload_n hx hb dX7_show_37 rfl (lv_at hl 3 rfl) ?_
        refine lv_iconst (v := (-1)) hx hb dX7_show_38 (by decide) ?_
        refine lv_icmp_ne (tgt := 46) hx hb dX7_show_39 (by decide) (fun c_30 => ?_) (fun c_30 => ?_)
        · exfalso; have fc_30 : p_.toInt ≠ (-1) := zf_ne c_30 rfl (by decide); omega
        · have fc_30 : p_.toInt = (-1) := zf_eq c_30 rfl (by decide)
          refine lv_iconst (v := 0) hx hb dX7_show_42 (by decide) ?_
          refine lv_goto (tgt := 47) hx hb dX7_show_43 (by decide) ?_
          exact W.iret (v := 0) hx hb hr (fun t ht hW => ⟨⟨0, (), rfl, Or.inr (Or.inr (Or.inl (⟨rfl, (by first | omega | decide), (by first | omega | decide), (by first | omega | decide)⟩))), zP_nil, zD_nil⟩, hS.F ht⟩) hS.2.2 dX7_show_47
      · have fc_29 : p_.toInt ≠ (-1) := zf_ne c_29 rfl (by decide)
        refine lv_aload_n hx hb dX7_show_15 rfl (lv_at hl 1 rfl) ?_
        refine va_get (D := D) (ci := 7) (v := .ref j0) (C := RX7) (T := TX7) (N := 9) hx hb hts hi_X7_show_7 hown hK hP 0 rfl rfl 1 (by decide) (hts (.fieldLink RX7 18 "TheLiningsInIt" "now" "LTheLiningsInIt$Jacket;") (List.mem_of_getElem? (i := 1) rfl)) (fun _ h9 => h9) rfl dX7_show_16 ?_
        refine lv_iload_n hx hb dX7_show_19 rfl (lv_at hl 3 rfl) ?_
        refine zc_Vq (As := [.int p_]) (rest := []) ⟨hx, hb, hml, hown, hts⟩ (c_J_pullAt l D cI cJ cZ cP cS j0 jp jc z0 0 0 (p_) (0) ) (cwV 1 hts gX7_show_X0_pullAt rfl rfl rfl (by decide +kernel) ⟨Nat.le_of_ble_eq_true rfl, Nat.le_of_ble_eq_true rfl⟩) hK hN (hZ.kept hS) hP [11] rfl (va_recv hK hP (ci := 0) (q0 := 11) rfl rfl) rfl hl.1 rfl (Nat.le_of_ble_eq_true rfl) dX7_show_20 ⟨Nat.le_of_ble_eq_true rfl, Nat.le_of_ble_eq_true rfl⟩ (fun r_31 hr_31 => ?_)
        rcases hr_31 with ⟨rfl, g_32⟩ | ⟨rfl, g_33⟩
        · refine lv_ifnonnullN hx hb dX7_show_23 ?_
          refine lv_aload_n hx hb dX7_show_26 rfl (lv_at hl 1 rfl) ?_
          refine lv_iconst (v := 1) hx hb dX7_show_27 (by decide) ?_
          skip
          refine zw_V (As := [.int 1]) (rest := []) (wr := []) ⟨hx, hb, hml, hown, hts⟩ (c_refuse_1 l D cI cJ cZ cP cS x0 xs j0 k0 w0 rd mv xr  H.size) (cwV 1 hts gX7_show_X7_refuse rfl rfl rfl (by decide +kernel) ⟨Nat.le_of_ble_eq_true rfl, Nat.le_of_ble_eq_true rfl⟩) hK hN (hZ.kept hS) hP hD hS hA [0, 1] [] rfl rfl (by decide) (by decide) (by decide) (va_recv hK hP (ci := 7) (q0 := 0) rfl rfl) rfl hl.1 rfl (Nat.le_of_ble_eq_true rfl) dX7_show_28 ⟨Nat.le_of_ble_eq_true rfl, Nat.le_of_ble_eq_true rfl⟩ (fun r_34 u_35 H locs hr_34 hP hD hS => ?_)
          obtain rfl := hr_34
          exact W.iret (v := (-1)) hx hb hr (fun t ht hW => ⟨⟨(-1), (), rfl, Or.inr (Or.inr (Or.inr (Or.inl (⟨rfl, (by first | omega | decide), (by first | omega | decide), (by first | omega | decide), (by first | omega | decide)⟩)))), zP_nil, zD_nil⟩, hS.F ht⟩) hS.2.2 dX7_show_31
        · refine lv_ifnonnullN hx hb dX7_show_23 ?_
          refine lv_aload_n hx hb dX7_show_26 rfl (lv_at hl 1 rfl) ?_
          refine lv_iconst (v := 1) hx hb dX7_show_27 (by decide) ?_
          skip
          refine zw_V (As := [.int 1]) (rest := []) (wr := []) ⟨hx, hb, hml, hown, hts⟩ (c_refuse_1 l D cI cJ cZ cP cS x0 xs j0 k0 w0 rd mv xr  H.size) (cwV 1 hts gX7_show_X7_refuse rfl rfl rfl (by decide +kernel) ⟨Nat.le_of_ble_eq_true rfl, Nat.le_of_ble_eq_true rfl⟩) hK hN (hZ.kept hS) hP hD hS hA [0, 1] [] rfl rfl (by decide) (by decide) (by decide) (va_recv hK hP (ci := 7) (q0 := 0) rfl rfl) rfl hl.1 rfl (Nat.le_of_ble_eq_true rfl) dX7_show_28 ⟨Nat.le_of_ble_eq_true rfl, Nat.le_of_ble_eq_true rfl⟩ (fun r_36 u_37 H locs hr_36 hP hD hS => ?_)
          obtain rfl := hr_36
          exact W.iret (v := (-1)) hx hb hr (fun t ht hW => ⟨⟨(-1), (), rfl, Or.inr (Or.inr (Or.inr (Or.inr (⟨rfl, (by first | omega | decide), (by first | omega | decide), (by first | omega | decide), (by first | omega | decide)⟩)))), zP_nil, zD_nil⟩, hS.F ht⟩) hS.2.2 dX7_show_31
    · refine W.eq (g2 := F0 m 5 ls (.ref (sh 3) :: [])) rfl ?_
      refine lv_astore_n (lv' := [(3, .ref (sh 3)), (0, .ref x0), (1, .int s_), (2, .int p_)]) hx hb dX7_show_5 rfl hl (by decide) rfl (fun ls hl => ?_)
      refine lv_aload_n hx hb dX7_show_6 rfl (lv_at hl 0 rfl) ?_
      refine lv_ifnull hx hb dX7_show_7 ?_
      refine lv_iload_n hx hb dX7_show_10 rfl (lv_at hl 3 rfl) ?_
      refine lv_iconst (v := (-1)) hx hb dX7_show_11 (by decide) ?_
      refine lv_icmp_eq (tgt := 32) hx hb dX7_show_12 (by decide) (fun c_38 => ?_) (fun c_38 => ?_)
      · have fc_38 : p_.toInt = (-1) := zf_eq c_38 rfl (by decide)
        refine lv_aload_n hx hb dX7_show_32 rfl (lv_at hl 0 rfl) ?_
        refine lv_iload_n hx hb dX7_show_33 rfl (lv_at hl 3 rfl) ?_
        refine va_put (D := D) (ci := 4) (v := .int p_) (ty := .int) (C := RX4) (T := TX4) (N := 3) hx hb hts hi_X7_show_4 tyX4 tyX4_ok nmX4 hown hK hP hD hS 6 rfl rfl 1 (by decide) (hts (.fieldLink RX7 87 "TheLiningsInIt$Shelf" "held" "I") (List.mem_of_getElem? (i := 2) rfl)) (fun _ h9 => h9) rfl (by decide +kernel) rfl rfl (Nat.le_of_ble_eq_true rfl) dX7_show_34 (fun H locs hP hD hS => ?_)
        refine lv_iload_n hx hb dX7_show_37 rfl (lv_at hl 3 rfl) ?_
        refine lv_iconst (v := (-1)) hx hb dX7_show_38 (by decide) ?_
        refine lv_icmp_ne (tgt := 46) hx hb dX7_show_39 (by decide) (fun c_39 => ?_) (fun c_39 => ?_)
        · exfalso; have fc_39 : p_.toInt ≠ (-1) := zf_ne c_39 rfl (by decide); omega
        · have fc_39 : p_.toInt = (-1) := zf_eq c_39 rfl (by decide)
          refine lv_iconst (v := 0) hx hb dX7_show_42 (by decide) ?_
          refine lv_goto (tgt := 47) hx hb dX7_show_43 (by decide) ?_
          exact W.iret (v := 0) hx hb hr (fun t ht hW => ⟨⟨0, (), rfl, Or.inr (Or.inr (Or.inl (⟨rfl, (by first | omega | decide), (by first | omega | decide), (by first | omega | decide)⟩))), zP_nil, zD_nil⟩, hS.F ht⟩) hS.2.2 dX7_show_47
      · have fc_38 : p_.toInt ≠ (-1) := zf_ne c_38 rfl (by decide)
        refine lv_aload_n hx hb dX7_show_15 rfl (lv_at hl 1 rfl) ?_
        refine va_get (D := D) (ci := 7) (v := .ref j0) (C := RX7) (T := TX7) (N := 9) hx hb hts hi_X7_show_7 hown hK hP 0 rfl rfl 1 (by decide) (hts (.fieldLink RX7 18 "TheLiningsInIt" "now" "LTheLiningsInIt$Jacket;") (List.mem_of_getElem? (i := 1) rfl)) (fun _ h9 => h9) rfl dX7_show_16 ?_
        refine lv_iload_n hx hb dX7_show_19 rfl (lv_at hl 3 rfl) ?_
        refine zc_Vq (As := [.int p_]) (rest := []) ⟨hx, hb, hml, hown, hts⟩ (c_J_pullAt l D cI cJ cZ cP cS j0 jp jc z0 0 0 (p_) (0) ) (cwV 1 hts gX7_show_X0_pullAt rfl rfl rfl (by decide +kernel) ⟨Nat.le_of_ble_eq_true rfl, Nat.le_of_ble_eq_true rfl⟩) hK hN (hZ.kept hS) hP [11] rfl (va_recv hK hP (ci := 0) (q0 := 11) rfl rfl) rfl hl.1 rfl (Nat.le_of_ble_eq_true rfl) dX7_show_20 ⟨Nat.le_of_ble_eq_true rfl, Nat.le_of_ble_eq_true rfl⟩ (fun r_40 hr_40 => ?_)
        rcases hr_40 with ⟨rfl, g_41⟩ | ⟨rfl, g_42⟩
        · refine lv_ifnonnullN hx hb dX7_show_23 ?_
          refine lv_aload_n hx hb dX7_show_26 rfl (lv_at hl 1 rfl) ?_
          refine lv_iconst (v := 1) hx hb dX7_show_27 (by decide) ?_
          skip
          refine zw_V (As := [.int 1]) (rest := []) (wr := []) ⟨hx, hb, hml, hown, hts⟩ (c_refuse_1 l D cI cJ cZ cP cS x0 xs j0 k0 w0 rd mv xr  H.size) (cwV 1 hts gX7_show_X7_refuse rfl rfl rfl (by decide +kernel) ⟨Nat.le_of_ble_eq_true rfl, Nat.le_of_ble_eq_true rfl⟩) hK hN (hZ.kept hS) hP hD hS hA [0, 1] [] rfl rfl (by decide) (by decide) (by decide) (va_recv hK hP (ci := 7) (q0 := 0) rfl rfl) rfl hl.1 rfl (Nat.le_of_ble_eq_true rfl) dX7_show_28 ⟨Nat.le_of_ble_eq_true rfl, Nat.le_of_ble_eq_true rfl⟩ (fun r_43 u_44 H locs hr_43 hP hD hS => ?_)
          obtain rfl := hr_43
          exact W.iret (v := (-1)) hx hb hr (fun t ht hW => ⟨⟨(-1), (), rfl, Or.inr (Or.inr (Or.inr (Or.inl (⟨rfl, (by first | omega | decide), (by first | omega | decide), (by first | omega | decide), (by first | omega | decide)⟩)))), zP_nil, zD_nil⟩, hS.F ht⟩) hS.2.2 dX7_show_31
        · refine lv_ifnonnullN hx hb dX7_show_23 ?_
          refine lv_aload_n hx hb dX7_show_26 rfl (lv_at hl 1 rfl) ?_
          refine lv_iconst (v := 1) hx hb dX7_show_27 (by decide) ?_
          skip
          refine zw_V (As := [.int 1]) (rest := []) (wr := []) ⟨hx, hb, hml, hown, hts⟩ (c_refuse_1 l D cI cJ cZ cP cS x0 xs j0 k0 w0 rd mv xr  H.size) (cwV 1 hts gX7_show_X7_refuse rfl rfl rfl (by decide +kernel) ⟨Nat.le_of_ble_eq_true rfl, Nat.le_of_ble_eq_true rfl⟩) hK hN (hZ.kept hS) hP hD hS hA [0, 1] [] rfl rfl (by decide) (by decide) (by decide) (va_recv hK hP (ci := 7) (q0 := 0) rfl rfl) rfl hl.1 rfl (Nat.le_of_ble_eq_true rfl) dX7_show_28 ⟨Nat.le_of_ble_eq_true rfl, Nat.le_of_ble_eq_true rfl⟩ (fun r_45 u_46 H locs hr_45 hP hD hS => ?_)
          obtain rfl := hr_45
          exact W.iret (v := (-1)) hx hb hr (fun t ht hW => ⟨⟨(-1), (), rfl, Or.inr (Or.inr (Or.inr (Or.inr (⟨rfl, (by first | omega | decide), (by first | omega | decide), (by first | omega | decide), (by first | omega | decide)⟩)))), zP_nil, zD_nil⟩, hS.F ht⟩) hS.2.2 dX7_show_31
    · refine W.eq (g2 := F0 m 5 ls (.ref (sh 4) :: [])) rfl ?_
      refine lv_astore_n (lv' := [(3, .ref (sh 4)), (0, .ref x0), (1, .int s_), (2, .int p_)]) hx hb dX7_show_5 rfl hl (by decide) rfl (fun ls hl => ?_)
      refine lv_aload_n hx hb dX7_show_6 rfl (lv_at hl 0 rfl) ?_
      refine lv_ifnull hx hb dX7_show_7 ?_
      refine lv_iload_n hx hb dX7_show_10 rfl (lv_at hl 3 rfl) ?_
      refine lv_iconst (v := (-1)) hx hb dX7_show_11 (by decide) ?_
      refine lv_icmp_eq (tgt := 32) hx hb dX7_show_12 (by decide) (fun c_47 => ?_) (fun c_47 => ?_)
      · have fc_47 : p_.toInt = (-1) := zf_eq c_47 rfl (by decide)
        refine lv_aload_n hx hb dX7_show_32 rfl (lv_at hl 0 rfl) ?_
        refine lv_iload_n hx hb dX7_show_33 rfl (lv_at hl 3 rfl) ?_
        refine va_put (D := D) (ci := 4) (v := .int p_) (ty := .int) (C := RX4) (T := TX4) (N := 3) hx hb hts hi_X7_show_4 tyX4 tyX4_ok nmX4 hown hK hP hD hS 7 rfl rfl 1 (by decide) (hts (.fieldLink RX7 87 "TheLiningsInIt$Shelf" "held" "I") (List.mem_of_getElem? (i := 2) rfl)) (fun _ h9 => h9) rfl (by decide +kernel) rfl rfl (Nat.le_of_ble_eq_true rfl) dX7_show_34 (fun H locs hP hD hS => ?_)
        refine lv_iload_n hx hb dX7_show_37 rfl (lv_at hl 3 rfl) ?_
        refine lv_iconst (v := (-1)) hx hb dX7_show_38 (by decide) ?_
        refine lv_icmp_ne (tgt := 46) hx hb dX7_show_39 (by decide) (fun c_48 => ?_) (fun c_48 => ?_)
        · exfalso; have fc_48 : p_.toInt ≠ (-1) := zf_ne c_48 rfl (by decide); omega
        · have fc_48 : p_.toInt = (-1) := zf_eq c_48 rfl (by decide)
          refine lv_iconst (v := 0) hx hb dX7_show_42 (by decide) ?_
          refine lv_goto (tgt := 47) hx hb dX7_show_43 (by decide) ?_
          exact W.iret (v := 0) hx hb hr (fun t ht hW => ⟨⟨0, (), rfl, Or.inr (Or.inr (Or.inl (⟨rfl, (by first | omega | decide), (by first | omega | decide), (by first | omega | decide)⟩))), zP_nil, zD_nil⟩, hS.F ht⟩) hS.2.2 dX7_show_47
      · have fc_47 : p_.toInt ≠ (-1) := zf_ne c_47 rfl (by decide)
        refine lv_aload_n hx hb dX7_show_15 rfl (lv_at hl 1 rfl) ?_
        refine va_get (D := D) (ci := 7) (v := .ref j0) (C := RX7) (T := TX7) (N := 9) hx hb hts hi_X7_show_7 hown hK hP 0 rfl rfl 1 (by decide) (hts (.fieldLink RX7 18 "TheLiningsInIt" "now" "LTheLiningsInIt$Jacket;") (List.mem_of_getElem? (i := 1) rfl)) (fun _ h9 => h9) rfl dX7_show_16 ?_
        refine lv_iload_n hx hb dX7_show_19 rfl (lv_at hl 3 rfl) ?_
        refine zc_Vq (As := [.int p_]) (rest := []) ⟨hx, hb, hml, hown, hts⟩ (c_J_pullAt l D cI cJ cZ cP cS j0 jp jc z0 0 0 (p_) (0) ) (cwV 1 hts gX7_show_X0_pullAt rfl rfl rfl (by decide +kernel) ⟨Nat.le_of_ble_eq_true rfl, Nat.le_of_ble_eq_true rfl⟩) hK hN (hZ.kept hS) hP [11] rfl (va_recv hK hP (ci := 0) (q0 := 11) rfl rfl) rfl hl.1 rfl (Nat.le_of_ble_eq_true rfl) dX7_show_20 ⟨Nat.le_of_ble_eq_true rfl, Nat.le_of_ble_eq_true rfl⟩ (fun r_49 hr_49 => ?_)
        rcases hr_49 with ⟨rfl, g_50⟩ | ⟨rfl, g_51⟩
        · refine lv_ifnonnullN hx hb dX7_show_23 ?_
          refine lv_aload_n hx hb dX7_show_26 rfl (lv_at hl 1 rfl) ?_
          refine lv_iconst (v := 1) hx hb dX7_show_27 (by decide) ?_
          skip
          refine zw_V (As := [.int 1]) (rest := []) (wr := []) ⟨hx, hb, hml, hown, hts⟩ (c_refuse_1 l D cI cJ cZ cP cS x0 xs j0 k0 w0 rd mv xr  H.size) (cwV 1 hts gX7_show_X7_refuse rfl rfl rfl (by decide +kernel) ⟨Nat.le_of_ble_eq_true rfl, Nat.le_of_ble_eq_true rfl⟩) hK hN (hZ.kept hS) hP hD hS hA [0, 1] [] rfl rfl (by decide) (by decide) (by decide) (va_recv hK hP (ci := 7) (q0 := 0) rfl rfl) rfl hl.1 rfl (Nat.le_of_ble_eq_true rfl) dX7_show_28 ⟨Nat.le_of_ble_eq_true rfl, Nat.le_of_ble_eq_true rfl⟩ (fun r_52 u_53 H locs hr_52 hP hD hS => ?_)
          obtain rfl := hr_52
          exact W.iret (v := (-1)) hx hb hr (fun t ht hW => ⟨⟨(-1), (), rfl, Or.inr (Or.inr (Or.inr (Or.inl (⟨rfl, (by first | omega | decide), (by first | omega | decide), (by first | omega | decide), (by first | omega | decide)⟩)))), zP_nil, zD_nil⟩, hS.F ht⟩) hS.2.2 dX7_show_31
        · refine lv_ifnonnullN hx hb dX7_show_23 ?_
          refine lv_aload_n hx hb dX7_show_26 rfl (lv_at hl 1 rfl) ?_
          refine lv_iconst (v := 1) hx hb dX7_show_27 (by decide) ?_
          skip
          refine zw_V (As := [.int 1]) (rest := []) (wr := []) ⟨hx, hb, hml, hown, hts⟩ (c_refuse_1 l D cI cJ cZ cP cS x0 xs j0 k0 w0 rd mv xr  H.size) (cwV 1 hts gX7_show_X7_refuse rfl rfl rfl (by decide +kernel) ⟨Nat.le_of_ble_eq_true rfl, Nat.le_of_ble_eq_true rfl⟩) hK hN (hZ.kept hS) hP hD hS hA [0, 1] [] rfl rfl (by decide) (by decide) (by decide) (va_recv hK hP (ci := 7) (q0 := 0) rfl rfl) rfl hl.1 rfl (Nat.le_of_ble_eq_true rfl) dX7_show_28 ⟨Nat.le_of_ble_eq_true rfl, Nat.le_of_ble_eq_true rfl⟩ (fun r_54 u_55 H locs hr_54 hP hD hS => ?_)
          obtain rfl := hr_54
          exact W.iret (v := (-1)) hx hb hr (fun t ht hW => ⟨⟨(-1), (), rfl, Or.inr (Or.inr (Or.inr (Or.inr (⟨rfl, (by first | omega | decide), (by first | omega | decide), (by first | omega | decide), (by first | omega | decide)⟩)))), zP_nil, zD_nil⟩, hS.F ht⟩) hS.2.2 dX7_show_31
    · refine W.eq (g2 := F0 m 5 ls (.ref (sh 5) :: [])) rfl ?_
      refine lv_astore_n (lv' := [(3, .ref (sh 5)), (0, .ref x0), (1, .int s_), (2, .int p_)]) hx hb dX7_show_5 rfl hl (by decide) rfl (fun ls hl => ?_)
      refine lv_aload_n hx hb dX7_show_6 rfl (lv_at hl 0 rfl) ?_
      refine lv_ifnull hx hb dX7_show_7 ?_
      refine lv_iload_n hx hb dX7_show_10 rfl (lv_at hl 3 rfl) ?_
      refine lv_iconst (v := (-1)) hx hb dX7_show_11 (by decide) ?_
      refine lv_icmp_eq (tgt := 32) hx hb dX7_show_12 (by decide) (fun c_56 => ?_) (fun c_56 => ?_)
      · have fc_56 : p_.toInt = (-1) := zf_eq c_56 rfl (by decide)
        refine lv_aload_n hx hb dX7_show_32 rfl (lv_at hl 0 rfl) ?_
        refine lv_iload_n hx hb dX7_show_33 rfl (lv_at hl 3 rfl) ?_
        refine va_put (D := D) (ci := 4) (v := .int p_) (ty := .int) (C := RX4) (T := TX4) (N := 3) hx hb hts hi_X7_show_4 tyX4 tyX4_ok nmX4 hown hK hP hD hS 8 rfl rfl 1 (by decide) (hts (.fieldLink RX7 87 "TheLiningsInIt$Shelf" "held" "I") (List.mem_of_getElem? (i := 2) rfl)) (fun _ h9 => h9) rfl (by decide +kernel) rfl rfl (Nat.le_of_ble_eq_true rfl) dX7_show_34 (fun H locs hP hD hS => ?_)
        refine lv_iload_n hx hb dX7_show_37 rfl (lv_at hl 3 rfl) ?_
        refine lv_iconst (v := (-1)) hx hb dX7_show_38 (by decide) ?_
        refine lv_icmp_ne (tgt := 46) hx hb dX7_show_39 (by decide) (fun c_57 => ?_) (fun c_57 => ?_)
        · exfalso; have fc_57 : p_.toInt ≠ (-1) := zf_ne c_57 rfl (by decide); omega
        · have fc_57 : p_.toInt = (-1) := zf_eq c_57 rfl (by decide)
          refine lv_iconst (v := 0) hx hb dX7_show_42 (by decide) ?_
          refine lv_goto (tgt := 47) hx hb dX7_show_43 (by decide) ?_
          exact W.iret (v := 0) hx hb hr (fun t ht hW => ⟨⟨0, (), rfl, Or.inr (Or.inr (Or.inl (⟨rfl, (by first | omega | decide), (by first | omega | decide), (by first | omega | decide)⟩))), zP_nil, zD_nil⟩, hS.F ht⟩) hS.2.2 dX7_show_47
      · have fc_56 : p_.toInt ≠ (-1) := zf_ne c_56 rfl (by decide)
        refine lv_aload_n hx hb dX7_show_15 rfl (lv_at hl 1 rfl) ?_
        refine va_get (D := D) (ci := 7) (v := .ref j0) (C := RX7) (T := TX7) (N := 9) hx hb hts hi_X7_show_7 hown hK hP 0 rfl rfl 1 (by decide) (hts (.fieldLink RX7 18 "TheLiningsInIt" "now" "LTheLiningsInIt$Jacket;") (List.mem_of_getElem? (i := 1) rfl)) (fun _ h9 => h9) rfl dX7_show_16 ?_
        refine lv_iload_n hx hb dX7_show_19 rfl (lv_at hl 3 rfl) ?_
        refine zc_Vq (As := [.int p_]) (rest := []) ⟨hx, hb, hml, hown, hts⟩ (c_J_pullAt l D cI cJ cZ cP cS j0 jp jc z0 0 0 (p_) (0) ) (cwV 1 hts gX7_show_X0_pullAt rfl rfl rfl (by decide +kernel) ⟨Nat.le_of_ble_eq_true rfl, Nat.le_of_ble_eq_true rfl⟩) hK hN (hZ.kept hS) hP [11] rfl (va_recv hK hP (ci := 0) (q0 := 11) rfl rfl) rfl hl.1 rfl (Nat.le_of_ble_eq_true rfl) dX7_show_20 ⟨Nat.le_of_ble_eq_true rfl, Nat.le_of_ble_eq_true rfl⟩ (fun r_58 hr_58 => ?_)
        rcases hr_58 with ⟨rfl, g_59⟩ | ⟨rfl, g_60⟩
        · refine lv_ifnonnullN hx hb dX7_show_23 ?_
          refine lv_aload_n hx hb dX7_show_26 rfl (lv_at hl 1 rfl) ?_
          refine lv_iconst (v := 1) hx hb dX7_show_27 (by decide) ?_
          skip
          refine zw_V (As := [.int 1]) (rest := []) (wr := []) ⟨hx, hb, hml, hown, hts⟩ (c_refuse_1 l D cI cJ cZ cP cS x0 xs j0 k0 w0 rd mv xr  H.size) (cwV 1 hts gX7_show_X7_refuse rfl rfl rfl (by decide +kernel) ⟨Nat.le_of_ble_eq_true rfl, Nat.le_of_ble_eq_true rfl⟩) hK hN (hZ.kept hS) hP hD hS hA [0, 1] [] rfl rfl (by decide) (by decide) (by decide) (va_recv hK hP (ci := 7) (q0 := 0) rfl rfl) rfl hl.1 rfl (Nat.le_of_ble_eq_true rfl) dX7_show_28 ⟨Nat.le_of_ble_eq_true rfl, Nat.le_of_ble_eq_true rfl⟩ (fun r_61 u_62 H locs hr_61 hP hD hS => ?_)
          obtain rfl := hr_61
          exact W.iret (v := (-1)) hx hb hr (fun t ht hW => ⟨⟨(-1), (), rfl, Or.inr (Or.inr (Or.inr (Or.inl (⟨rfl, (by first | omega | decide), (by first | omega | decide), (by first | omega | decide), (by first | omega | decide)⟩)))), zP_nil, zD_nil⟩, hS.F ht⟩) hS.2.2 dX7_show_31
        · refine lv_ifnonnullN hx hb dX7_show_23 ?_
          refine lv_aload_n hx hb dX7_show_26 rfl (lv_at hl 1 rfl) ?_
          refine lv_iconst (v := 1) hx hb dX7_show_27 (by decide) ?_
          skip
          refine zw_V (As := [.int 1]) (rest := []) (wr := []) ⟨hx, hb, hml, hown, hts⟩ (c_refuse_1 l D cI cJ cZ cP cS x0 xs j0 k0 w0 rd mv xr  H.size) (cwV 1 hts gX7_show_X7_refuse rfl rfl rfl (by decide +kernel) ⟨Nat.le_of_ble_eq_true rfl, Nat.le_of_ble_eq_true rfl⟩) hK hN (hZ.kept hS) hP hD hS hA [0, 1] [] rfl rfl (by decide) (by decide) (by decide) (va_recv hK hP (ci := 7) (q0 := 0) rfl rfl) rfl hl.1 rfl (Nat.le_of_ble_eq_true rfl) dX7_show_28 ⟨Nat.le_of_ble_eq_true rfl, Nat.le_of_ble_eq_true rfl⟩ (fun r_63 u_64 H locs hr_63 hP hD hS => ?_)
          obtain rfl := hr_63
          exact W.iret (v := (-1)) hx hb hr (fun t ht hW => ⟨⟨(-1), (), rfl, Or.inr (Or.inr (Or.inr (Or.inr (⟨rfl, (by first | omega | decide), (by first | omega | decide), (by first | omega | decide), (by first | omega | decide)⟩)))), zP_nil, zD_nil⟩, hS.F ht⟩) hS.2.2 dX7_show_31
    · refine W.eq (g2 := F0 m 5 ls (.ref (sh 6) :: [])) rfl ?_
      refine lv_astore_n (lv' := [(3, .ref (sh 6)), (0, .ref x0), (1, .int s_), (2, .int p_)]) hx hb dX7_show_5 rfl hl (by decide) rfl (fun ls hl => ?_)
      refine lv_aload_n hx hb dX7_show_6 rfl (lv_at hl 0 rfl) ?_
      refine lv_ifnull hx hb dX7_show_7 ?_
      refine lv_iload_n hx hb dX7_show_10 rfl (lv_at hl 3 rfl) ?_
      refine lv_iconst (v := (-1)) hx hb dX7_show_11 (by decide) ?_
      refine lv_icmp_eq (tgt := 32) hx hb dX7_show_12 (by decide) (fun c_65 => ?_) (fun c_65 => ?_)
      · have fc_65 : p_.toInt = (-1) := zf_eq c_65 rfl (by decide)
        refine lv_aload_n hx hb dX7_show_32 rfl (lv_at hl 0 rfl) ?_
        refine lv_iload_n hx hb dX7_show_33 rfl (lv_at hl 3 rfl) ?_
        refine va_put (D := D) (ci := 4) (v := .int p_) (ty := .int) (C := RX4) (T := TX4) (N := 3) hx hb hts hi_X7_show_4 tyX4 tyX4_ok nmX4 hown hK hP hD hS 9 rfl rfl 1 (by decide) (hts (.fieldLink RX7 87 "TheLiningsInIt$Shelf" "held" "I") (List.mem_of_getElem? (i := 2) rfl)) (fun _ h9 => h9) rfl (by decide +kernel) rfl rfl (Nat.le_of_ble_eq_true rfl) dX7_show_34 (fun H locs hP hD hS => ?_)
        refine lv_iload_n hx hb dX7_show_37 rfl (lv_at hl 3 rfl) ?_
        refine lv_iconst (v := (-1)) hx hb dX7_show_38 (by decide) ?_
        refine lv_icmp_ne (tgt := 46) hx hb dX7_show_39 (by decide) (fun c_66 => ?_) (fun c_66 => ?_)
        · exfalso; have fc_66 : p_.toInt ≠ (-1) := zf_ne c_66 rfl (by decide); omega
        · have fc_66 : p_.toInt = (-1) := zf_eq c_66 rfl (by decide)
          refine lv_iconst (v := 0) hx hb dX7_show_42 (by decide) ?_
          refine lv_goto (tgt := 47) hx hb dX7_show_43 (by decide) ?_
          exact W.iret (v := 0) hx hb hr (fun t ht hW => ⟨⟨0, (), rfl, Or.inr (Or.inr (Or.inl (⟨rfl, (by first | omega | decide), (by first | omega | decide), (by first | omega | decide)⟩))), zP_nil, zD_nil⟩, hS.F ht⟩) hS.2.2 dX7_show_47
      · have fc_65 : p_.toInt ≠ (-1) := zf_ne c_65 rfl (by decide)
        refine lv_aload_n hx hb dX7_show_15 rfl (lv_at hl 1 rfl) ?_
        refine va_get (D := D) (ci := 7) (v := .ref j0) (C := RX7) (T := TX7) (N := 9) hx hb hts hi_X7_show_7 hown hK hP 0 rfl rfl 1 (by decide) (hts (.fieldLink RX7 18 "TheLiningsInIt" "now" "LTheLiningsInIt$Jacket;") (List.mem_of_getElem? (i := 1) rfl)) (fun _ h9 => h9) rfl dX7_show_16 ?_
        refine lv_iload_n hx hb dX7_show_19 rfl (lv_at hl 3 rfl) ?_
        refine zc_Vq (As := [.int p_]) (rest := []) ⟨hx, hb, hml, hown, hts⟩ (c_J_pullAt l D cI cJ cZ cP cS j0 jp jc z0 0 0 (p_) (0) ) (cwV 1 hts gX7_show_X0_pullAt rfl rfl rfl (by decide +kernel) ⟨Nat.le_of_ble_eq_true rfl, Nat.le_of_ble_eq_true rfl⟩) hK hN (hZ.kept hS) hP [11] rfl (va_recv hK hP (ci := 0) (q0 := 11) rfl rfl) rfl hl.1 rfl (Nat.le_of_ble_eq_true rfl) dX7_show_20 ⟨Nat.le_of_ble_eq_true rfl, Nat.le_of_ble_eq_true rfl⟩ (fun r_67 hr_67 => ?_)
        rcases hr_67 with ⟨rfl, g_68⟩ | ⟨rfl, g_69⟩
        · refine lv_ifnonnullN hx hb dX7_show_23 ?_
          refine lv_aload_n hx hb dX7_show_26 rfl (lv_at hl 1 rfl) ?_
          refine lv_iconst (v := 1) hx hb dX7_show_27 (by decide) ?_
          skip
          refine zw_V (As := [.int 1]) (rest := []) (wr := []) ⟨hx, hb, hml, hown, hts⟩ (c_refuse_1 l D cI cJ cZ cP cS x0 xs j0 k0 w0 rd mv xr  H.size) (cwV 1 hts gX7_show_X7_refuse rfl rfl rfl (by decide +kernel) ⟨Nat.le_of_ble_eq_true rfl, Nat.le_of_ble_eq_true rfl⟩) hK hN (hZ.kept hS) hP hD hS hA [0, 1] [] rfl rfl (by decide) (by decide) (by decide) (va_recv hK hP (ci := 7) (q0 := 0) rfl rfl) rfl hl.1 rfl (Nat.le_of_ble_eq_true rfl) dX7_show_28 ⟨Nat.le_of_ble_eq_true rfl, Nat.le_of_ble_eq_true rfl⟩ (fun r_70 u_71 H locs hr_70 hP hD hS => ?_)
          obtain rfl := hr_70
          exact W.iret (v := (-1)) hx hb hr (fun t ht hW => ⟨⟨(-1), (), rfl, Or.inr (Or.inr (Or.inr (Or.inl (⟨rfl, (by first | omega | decide), (by first | omega | decide), (by first | omega | decide), (by first | omega | decide)⟩)))), zP_nil, zD_nil⟩, hS.F ht⟩) hS.2.2 dX7_show_31
        · refine lv_ifnonnullN hx hb dX7_show_23 ?_
          refine lv_aload_n hx hb dX7_show_26 rfl (lv_at hl 1 rfl) ?_
          refine lv_iconst (v := 1) hx hb dX7_show_27 (by decide) ?_
          skip
          refine zw_V (As := [.int 1]) (rest := []) (wr := []) ⟨hx, hb, hml, hown, hts⟩ (c_refuse_1 l D cI cJ cZ cP cS x0 xs j0 k0 w0 rd mv xr  H.size) (cwV 1 hts gX7_show_X7_refuse rfl rfl rfl (by decide +kernel) ⟨Nat.le_of_ble_eq_true rfl, Nat.le_of_ble_eq_true rfl⟩) hK hN (hZ.kept hS) hP hD hS hA [0, 1] [] rfl rfl (by decide) (by decide) (by decide) (va_recv hK hP (ci := 7) (q0 := 0) rfl rfl) rfl hl.1 rfl (Nat.le_of_ble_eq_true rfl) dX7_show_28 ⟨Nat.le_of_ble_eq_true rfl, Nat.le_of_ble_eq_true rfl⟩ (fun r_72 u_73 H locs hr_72 hP hD hS => ?_)
          obtain rfl := hr_72
          exact W.iret (v := (-1)) hx hb hr (fun t ht hW => ⟨⟨(-1), (), rfl, Or.inr (Or.inr (Or.inr (Or.inr (⟨rfl, (by first | omega | decide), (by first | omega | decide), (by first | omega | decide), (by first | omega | decide)⟩)))), zP_nil, zD_nil⟩, hS.F ht⟩) hS.2.2 dX7_show_31
    · refine W.eq (g2 := F0 m 5 ls (.ref (sh 7) :: [])) rfl ?_
      refine lv_astore_n (lv' := [(3, .ref (sh 7)), (0, .ref x0), (1, .int s_), (2, .int p_)]) hx hb dX7_show_5 rfl hl (by decide) rfl (fun ls hl => ?_)
      refine lv_aload_n hx hb dX7_show_6 rfl (lv_at hl 0 rfl) ?_
      refine lv_ifnull hx hb dX7_show_7 ?_
      refine lv_iload_n hx hb dX7_show_10 rfl (lv_at hl 3 rfl) ?_
      refine lv_iconst (v := (-1)) hx hb dX7_show_11 (by decide) ?_
      refine lv_icmp_eq (tgt := 32) hx hb dX7_show_12 (by decide) (fun c_74 => ?_) (fun c_74 => ?_)
      · have fc_74 : p_.toInt = (-1) := zf_eq c_74 rfl (by decide)
        refine lv_aload_n hx hb dX7_show_32 rfl (lv_at hl 0 rfl) ?_
        refine lv_iload_n hx hb dX7_show_33 rfl (lv_at hl 3 rfl) ?_
        refine va_put (D := D) (ci := 4) (v := .int p_) (ty := .int) (C := RX4) (T := TX4) (N := 3) hx hb hts hi_X7_show_4 tyX4 tyX4_ok nmX4 hown hK hP hD hS 10 rfl rfl 1 (by decide) (hts (.fieldLink RX7 87 "TheLiningsInIt$Shelf" "held" "I") (List.mem_of_getElem? (i := 2) rfl)) (fun _ h9 => h9) rfl (by decide +kernel) rfl rfl (Nat.le_of_ble_eq_true rfl) dX7_show_34 (fun H locs hP hD hS => ?_)
        refine lv_iload_n hx hb dX7_show_37 rfl (lv_at hl 3 rfl) ?_
        refine lv_iconst (v := (-1)) hx hb dX7_show_38 (by decide) ?_
        refine lv_icmp_ne (tgt := 46) hx hb dX7_show_39 (by decide) (fun c_75 => ?_) (fun c_75 => ?_)
        · exfalso; have fc_75 : p_.toInt ≠ (-1) := zf_ne c_75 rfl (by decide); omega
        · have fc_75 : p_.toInt = (-1) := zf_eq c_75 rfl (by decide)
          refine lv_iconst (v := 0) hx hb dX7_show_42 (by decide) ?_
          refine lv_goto (tgt := 47) hx hb dX7_show_43 (by decide) ?_
          exact W.iret (v := 0) hx hb hr (fun t ht hW => ⟨⟨0, (), rfl, Or.inr (Or.inr (Or.inl (⟨rfl, (by first | omega | decide), (by first | omega | decide), (by first | omega | decide)⟩))), zP_nil, zD_nil⟩, hS.F ht⟩) hS.2.2 dX7_show_47
      · have fc_74 : p_.toInt ≠ (-1) := zf_ne c_74 rfl (by decide)
        refine lv_aload_n hx hb dX7_show_15 rfl (lv_at hl 1 rfl) ?_
        refine va_get (D := D) (ci := 7) (v := .ref j0) (C := RX7) (T := TX7) (N := 9) hx hb hts hi_X7_show_7 hown hK hP 0 rfl rfl 1 (by decide) (hts (.fieldLink RX7 18 "TheLiningsInIt" "now" "LTheLiningsInIt$Jacket;") (List.mem_of_getElem? (i := 1) rfl)) (fun _ h9 => h9) rfl dX7_show_16 ?_
        refine lv_iload_n hx hb dX7_show_19 rfl (lv_at hl 3 rfl) ?_
        refine zc_Vq (As := [.int p_]) (rest := []) ⟨hx, hb, hml, hown, hts⟩ (c_J_pullAt l D cI cJ cZ cP cS j0 jp jc z0 0 0 (p_) (0) ) (cwV 1 hts gX7_show_X0_pullAt rfl rfl rfl (by decide +kernel) ⟨Nat.le_of_ble_eq_true rfl, Nat.le_of_ble_eq_true rfl⟩) hK hN (hZ.kept hS) hP [11] rfl (va_recv hK hP (ci := 0) (q0 := 11) rfl rfl) rfl hl.1 rfl (Nat.le_of_ble_eq_true rfl) dX7_show_20 ⟨Nat.le_of_ble_eq_true rfl, Nat.le_of_ble_eq_true rfl⟩ (fun r_76 hr_76 => ?_)
        rcases hr_76 with ⟨rfl, g_77⟩ | ⟨rfl, g_78⟩
        · refine lv_ifnonnullN hx hb dX7_show_23 ?_
          refine lv_aload_n hx hb dX7_show_26 rfl (lv_at hl 1 rfl) ?_
          refine lv_iconst (v := 1) hx hb dX7_show_27 (by decide) ?_
          skip
          refine zw_V (As := [.int 1]) (rest := []) (wr := []) ⟨hx, hb, hml, hown, hts⟩ (c_refuse_1 l D cI cJ cZ cP cS x0 xs j0 k0 w0 rd mv xr  H.size) (cwV 1 hts gX7_show_X7_refuse rfl rfl rfl (by decide +kernel) ⟨Nat.le_of_ble_eq_true rfl, Nat.le_of_ble_eq_true rfl⟩) hK hN (hZ.kept hS) hP hD hS hA [0, 1] [] rfl rfl (by decide) (by decide) (by decide) (va_recv hK hP (ci := 7) (q0 := 0) rfl rfl) rfl hl.1 rfl (Nat.le_of_ble_eq_true rfl) dX7_show_28 ⟨Nat.le_of_ble_eq_true rfl, Nat.le_of_ble_eq_true rfl⟩ (fun r_79 u_80 H locs hr_79 hP hD hS => ?_)
          obtain rfl := hr_79
          exact W.iret (v := (-1)) hx hb hr (fun t ht hW => ⟨⟨(-1), (), rfl, Or.inr (Or.inr (Or.inr (Or.inl (⟨rfl, (by first | omega | decide), (by first | omega | decide), (by first | omega | decide), (by first | omega | decide)⟩)))), zP_nil, zD_nil⟩, hS.F ht⟩) hS.2.2 dX7_show_31
        · refine lv_ifnonnullN hx hb dX7_show_23 ?_
          refine lv_aload_n hx hb dX7_show_26 rfl (lv_at hl 1 rfl) ?_
          refine lv_iconst (v := 1) hx hb dX7_show_27 (by decide) ?_
          skip
          refine zw_V (As := [.int 1]) (rest := []) (wr := []) ⟨hx, hb, hml, hown, hts⟩ (c_refuse_1 l D cI cJ cZ cP cS x0 xs j0 k0 w0 rd mv xr  H.size) (cwV 1 hts gX7_show_X7_refuse rfl rfl rfl (by decide +kernel) ⟨Nat.le_of_ble_eq_true rfl, Nat.le_of_ble_eq_true rfl⟩) hK hN (hZ.kept hS) hP hD hS hA [0, 1] [] rfl rfl (by decide) (by decide) (by decide) (va_recv hK hP (ci := 7) (q0 := 0) rfl rfl) rfl hl.1 rfl (Nat.le_of_ble_eq_true rfl) dX7_show_28 ⟨Nat.le_of_ble_eq_true rfl, Nat.le_of_ble_eq_true rfl⟩ (fun r_81 u_82 H locs hr_81 hP hD hS => ?_)
          obtain rfl := hr_81
          exact W.iret (v := (-1)) hx hb hr (fun t ht hW => ⟨⟨(-1), (), rfl, Or.inr (Or.inr (Or.inr (Or.inr (⟨rfl, (by first | omega | decide), (by first | omega | decide), (by first | omega | decide), (by first | omega | decide)⟩)))), zP_nil, zD_nil⟩, hS.F ht⟩) hS.2.2 dX7_show_31
theorem hi_X7_holds_4 : ∀ w ∈ u_ws RX4 TX4 3, w ∈ wsX7_holds := by decide +kernel
set_option maxHeartbeats 4000000 in
set_option maxRecDepth 100000 in
theorem c_holds (l : Launch) (D : va_G) (cI cJ cZ cP cS : ClassId) (x0 xs j0 k0 w0 rd mv xr : Nat)(sh el : Nat → Nat) (s_ : Int32)  (sz : Nat) : Met l yX7_holds wsX7_holds ({ frames := 2, cells := 0, slots := 0, locals := 43 }) (va_Pc [.ref x0, .int s_] (zW D (zKT cI cJ cZ cP cS) [(x0, .inr (7, [.ref xs, .ref j0, .ref k0, .ref w0, .ref rd, .ref mv, .ref xr, .int 0, .int (-1)])), (xr, .inl (cI, 8, .inl (fun _ => 0))), (xs, .inl (cS, 8, .inr (.inr (.inr (.inr (zS sh)))))), ((sh 0), .inr (4, [.ref (el 0), .int (-1), .int 0])), ((sh 1), .inr (4, [.ref (el 1), .int (-1), .int 0])), ((sh 2), .inr (4, [.ref (el 2), .int (-1), .int 0])), ((sh 3), .inr (4, [.ref (el 3), .int (-1), .int 0])), ((sh 4), .inr (4, [.ref (el 4), .int (-1), .int 0])), ((sh 5), .inr (4, [.ref (el 5), .int (-1), .int 0])), ((sh 6), .inr (4, [.ref (el 6), .int (-1), .int 0])), ((sh 7), .inr (4, [.ref (el 7), .int (-1), .int 0]))] sz)) (va_Qi (fun (r : Int32) (_ : Unit) => (r = (-1) ∧ s_.toInt < 0) ∨ (r = (-1) ∧ 0 ≤ s_.toInt ∧ 7 < s_.toInt) ∨ (r = (-1) ∧ 0 ≤ s_.toInt ∧ s_.toInt ≤ 7)) (zB D [(x0, .inr (7, [.ref xs, .ref j0, .ref k0, .ref w0, .ref rd, .ref mv, .ref xr, .int 0, .int (-1)])), (xr, .inl (cI, 8, .inl (fun _ => 0))), (xs, .inl (cS, 8, .inr (.inr (.inr (.inr (zS sh)))))), ((sh 0), .inr (4, [.ref (el 0), .int (-1), .int 0])), ((sh 1), .inr (4, [.ref (el 1), .int (-1), .int 0])), ((sh 2), .inr (4, [.ref (el 2), .int (-1), .int 0])), ((sh 3), .inr (4, [.ref (el 3), .int (-1), .int 0])), ((sh 4), .inr (4, [.ref (el 4), .int (-1), .int 0])), ((sh 5), .inr (4, [.ref (el 5), .int (-1), .int 0])), ((sh 6), .inr (4, [.ref (el 6), .int (-1), .int 0])), ((sh 7), .inr (4, [.ref (el 7), .int (-1), .int 0]))] sz (fun (_ : Unit) => ([] : va_W))) (va_A [(x0, .inr (7, [.ref xs, .ref j0, .ref k0, .ref w0, .ref rd, .ref mv, .ref xr, .int 0, .int (-1)])), (xr, .inl (cI, 8, .inl (fun _ => 0))), (xs, .inl (cS, 8, .inr (.inr (.inr (.inr (zS sh)))))), ((sh 0), .inr (4, [.ref (el 0), .int (-1), .int 0])), ((sh 1), .inr (4, [.ref (el 1), .int (-1), .int 0])), ((sh 2), .inr (4, [.ref (el 2), .int (-1), .int 0])), ((sh 3), .inr (4, [.ref (el 3), .int (-1), .int 0])), ((sh 4), .inr (4, [.ref (el 4), .int (-1), .int 0])), ((sh 5), .inr (4, [.ref (el 5), .int (-1), .int 0])), ((sh 6), .inr (4, [.ref (el 6), .int (-1), .int 0])), ((sh 7), .inr (4, [.ref (el 7), .int (-1), .int 0]))] sz)) 0 0 (va_A [(x0, .inr (7, [.ref xs, .ref j0, .ref k0, .ref w0, .ref rd, .ref mv, .ref xr, .int 0, .int (-1)])), (xr, .inl (cI, 8, .inl (fun _ => 0))), (xs, .inl (cS, 8, .inr (.inr (.inr (.inr (zS sh)))))), ((sh 0), .inr (4, [.ref (el 0), .int (-1), .int 0])), ((sh 1), .inr (4, [.ref (el 1), .int (-1), .int 0])), ((sh 2), .inr (4, [.ref (el 2), .int (-1), .int 0])), ((sh 3), .inr (4, [.ref (el 3), .int (-1), .int 0])), ((sh 4), .inr (4, [.ref (el 4), .int (-1), .int 0])), ((sh 5), .inr (4, [.ref (el 5), .int (-1), .int 0])), ((sh 6), .inr (4, [.ref (el 6), .int (-1), .int 0])), ((sh 7), .inr (4, [.ref (el 7), .int (-1), .int 0]))] sz) := by
  refine Met.ofW (cc := cX7_holds) (maxL := 3) (ret := (some .int)) (by decide) rfl ?_
  intro p e s m args below meth c s₁ B hml hv
  obtain ⟨rfl, hsz, hP, hK, hD0, hN, hZ⟩ := hv
  have hx := B.exec
  have hb := B.bytes
  have hr := B.returns
  have hts := atoms_spec (ws := wsX7_holds) B.pre
  have hown : s.vm.findClass RX7 = some m.cls := findClass_of_methodNamed B.named
  have hlocks := B.notSynchronized
  subst hsz
  have hD := hD0.self (sz := s.heap.size)
  have hA : ∀ q : Nat, s.heap.size ≤ q → va_A [(x0, .inr (7, [.ref xs, .ref j0, .ref k0, .ref w0, .ref rd, .ref mv, .ref xr, .int 0, .int (-1)])), (xr, .inl (cI, 8, .inl (fun _ => 0))), (xs, .inl (cS, 8, .inr (.inr (.inr (.inr (zS sh)))))), ((sh 0), .inr (4, [.ref (el 0), .int (-1), .int 0])), ((sh 1), .inr (4, [.ref (el 1), .int (-1), .int 0])), ((sh 2), .inr (4, [.ref (el 2), .int (-1), .int 0])), ((sh 3), .inr (4, [.ref (el 3), .int (-1), .int 0])), ((sh 4), .inr (4, [.ref (el 4), .int (-1), .int 0])), ((sh 5), .inr (4, [.ref (el 5), .int (-1), .int 0])), ((sh 6), .inr (4, [.ref (el 6), .int (-1), .int 0])), ((sh 7), .inr (4, [.ref (el 7), .int (-1), .int 0]))] s.heap.size q := fun q h => Or.inr h
  have hS : va_S (va_A [(x0, .inr (7, [.ref xs, .ref j0, .ref k0, .ref w0, .ref rd, .ref mv, .ref xr, .int 0, .int (-1)])), (xr, .inl (cI, 8, .inl (fun _ => 0))), (xs, .inl (cS, 8, .inr (.inr (.inr (.inr (zS sh)))))), ((sh 0), .inr (4, [.ref (el 0), .int (-1), .int 0])), ((sh 1), .inr (4, [.ref (el 1), .int (-1), .int 0])), ((sh 2), .inr (4, [.ref (el 2), .int (-1), .int 0])), ((sh 3), .inr (4, [.ref (el 3), .int (-1), .int 0])), ((sh 4), .inr (4, [.ref (el 4), .int (-1), .int 0])), ((sh 5), .inr (4, [.ref (el 5), .int (-1), .int 0])), ((sh 6), .inr (4, [.ref (el 6), .int (-1), .int 0])), ((sh 7), .inr (4, [.ref (el 7), .int (-1), .int 0]))] s.heap.size) s.heap s.heap [] := va_S.rf
  replace hP : va_P D vwCl _ s.heap := hP
  have hl := lv_entry ([.ref x0, .int s_]) (n := 3) (Nat.le_of_ble_eq_true rfl)
  rw [lg_entry_eq]
  generalize (lg_sl ([.ref x0, .int s_]) ++ List.replicate (3 - (lg_sl ([.ref x0, .int s_])).length) Slot.unset).toArray = ls at hl ⊢
  replace hl : lv_has ls 3 [(0, .ref x0), (1, .int s_)] := hl
  refine zw_start (fun H locs hH hL => ?_)
  replace hP : va_P D vwCl [(x0, .inr (7, [.ref xs, .ref j0, .ref k0, .ref w0, .ref rd, .ref mv, .ref xr, .int 0, .int (-1)])), (xr, .inl (cI, 8, .inl (fun _ => 0))), (xs, .inl (cS, 8, .inr (.inr (.inr (.inr (zS sh)))))), ((sh 0), .inr (4, [.ref (el 0), .int (-1), .int 0])), ((sh 1), .inr (4, [.ref (el 1), .int (-1), .int 0])), ((sh 2), .inr (4, [.ref (el 2), .int (-1), .int 0])), ((sh 3), .inr (4, [.ref (el 3), .int (-1), .int 0])), ((sh 4), .inr (4, [.ref (el 4), .int (-1), .int 0])), ((sh 5), .inr (4, [.ref (el 5), .int (-1), .int 0])), ((sh 6), .inr (4, [.ref (el 6), .int (-1), .int 0])), ((sh 7), .inr (4, [.ref (el 7), .int (-1), .int 0]))] H := by rw [hH]; exact hP
  replace hS : va_S (va_A [(x0, .inr (7, [.ref xs, .ref j0, .ref k0, .ref w0, .ref rd, .ref mv, .ref xr, .int 0, .int (-1)])), (xr, .inl (cI, 8, .inl (fun _ => 0))), (xs, .inl (cS, 8, .inr (.inr (.inr (.inr (zS sh)))))), ((sh 0), .inr (4, [.ref (el 0), .int (-1), .int 0])), ((sh 1), .inr (4, [.ref (el 1), .int (-1), .int 0])), ((sh 2), .inr (4, [.ref (el 2), .int (-1), .int 0])), ((sh 3), .inr (4, [.ref (el 3), .int (-1), .int 0])), ((sh 4), .inr (4, [.ref (el 4), .int (-1), .int 0])), ((sh 5), .inr (4, [.ref (el 5), .int (-1), .int 0])), ((sh 6), .inr (4, [.ref (el 6), .int (-1), .int 0])), ((sh 7), .inr (4, [.ref (el 7), .int (-1), .int 0]))] s.heap.size) s.heap H locs := by rw [hH, hL]; exact hS
  clear hH hL
  refine lv_aload_n hx hb dX7_holds_0 rfl (lv_at hl 0 rfl) ?_
  refine lv_iload_n hx hb dX7_holds_1 rfl (lv_at hl 1 rfl) ?_
  refine zc_Vq (As := [.int s_]) (rest := []) ⟨hx, hb, hml, hown, hts⟩ (c_shelfAt l D cI cJ cZ cP cS x0 xs j0 k0 w0 rd mv xr ((zS sh)) (s_) ) (cwV 1 hts gX7_holds_X7_shelfAt rfl rfl rfl (by decide +kernel) ⟨Nat.le_of_ble_eq_true rfl, Nat.le_of_ble_eq_true rfl⟩) hK hN (hZ.kept hS) hP [0, 2] rfl (va_recv hK hP (ci := 7) (q0 := 0) rfl rfl) rfl hl.1 rfl (Nat.le_of_ble_eq_true rfl) dX7_holds_2 ⟨Nat.le_of_ble_eq_true rfl, Nat.le_of_ble_eq_true rfl⟩ (fun r_1 hr_1 => ?_)
  rcases hr_1 with ⟨rfl, g_2⟩ | ⟨rfl, g_3, g_4⟩ | ⟨rfl, g_5, g_6⟩
  · refine lv_astore_nN (lv' := [(2, .null), (0, .ref x0), (1, .int s_)]) hx hb dX7_holds_5 rfl hl (by decide) rfl (fun ls hl => ?_)
    refine lv_aload_nN hx hb dX7_holds_6 rfl (lv_at hl 0 rfl) ?_
    refine lv_ifnonnullN hx hb dX7_holds_7 ?_
    refine lv_iconst (v := (-1)) hx hb dX7_holds_10 (by decide) ?_
    refine lv_goto (tgt := 18) hx hb dX7_holds_11 (by decide) ?_
    exact W.iret (v := (-1)) hx hb hr (fun t ht hW => ⟨⟨(-1), (), rfl, Or.inl (⟨rfl, (by first | omega | decide)⟩), zP_nil, zD_nil⟩, hS.F ht⟩) hS.2.2 dX7_holds_18
  · refine lv_astore_nN (lv' := [(2, .null), (0, .ref x0), (1, .int s_)]) hx hb dX7_holds_5 rfl hl (by decide) rfl (fun ls hl => ?_)
    refine lv_aload_nN hx hb dX7_holds_6 rfl (lv_at hl 0 rfl) ?_
    refine lv_ifnonnullN hx hb dX7_holds_7 ?_
    refine lv_iconst (v := (-1)) hx hb dX7_holds_10 (by decide) ?_
    refine lv_goto (tgt := 18) hx hb dX7_holds_11 (by decide) ?_
    exact W.iret (v := (-1)) hx hb hr (fun t ht hW => ⟨⟨(-1), (), rfl, Or.inr (Or.inl (⟨rfl, (by first | omega | decide), (by first | omega | decide)⟩)), zP_nil, zD_nil⟩, hS.F ht⟩) hS.2.2 dX7_holds_18
  · obtain ⟨j2, hj2, hfs⟩ := zS_at sh (s := s_) (by omega) (by omega)
    rw [hfs]
    refine W.eq (g2 := F0 m 5 ls (.ref (sh j2) :: [])) rfl ?_
    have hqj2 : ([(x0, .inr (7, [.ref xs, .ref j0, .ref k0, .ref w0, .ref rd, .ref mv, .ref xr, .int 0, .int (-1)])), (xr, .inl (cI, 8, .inl (fun _ => 0))), (xs, .inl (cS, 8, .inr (.inr (.inr (.inr (zS sh)))))), ((sh 0), .inr (4, [.ref (el 0), .int (-1), .int 0])), ((sh 1), .inr (4, [.ref (el 1), .int (-1), .int 0])), ((sh 2), .inr (4, [.ref (el 2), .int (-1), .int 0])), ((sh 3), .inr (4, [.ref (el 3), .int (-1), .int 0])), ((sh 4), .inr (4, [.ref (el 4), .int (-1), .int 0])), ((sh 5), .inr (4, [.ref (el 5), .int (-1), .int 0])), ((sh 6), .inr (4, [.ref (el 6), .int (-1), .int 0])), ((sh 7), .inr (4, [.ref (el 7), .int (-1), .int 0]))] : va_W)[3 + j2]? = some ((sh j2), .inr (4, [.ref (el j2), .int (-1), .int 0])) := by rcases zj8 hj2 with rfl | rfl | rfl | rfl | rfl | rfl | rfl | rfl <;> rfl
    refine lv_astore_n (lv' := [(2, .ref (sh j2)), (0, .ref x0), (1, .int s_)]) hx hb dX7_holds_5 rfl hl (by decide) rfl (fun ls hl => ?_)
    refine lv_aload_n hx hb dX7_holds_6 rfl (lv_at hl 0 rfl) ?_
    refine lv_ifnonnull (tgt := 14) hx hb dX7_holds_7 (by decide) ?_
    refine lv_aload_n hx hb dX7_holds_14 rfl (lv_at hl 0 rfl) ?_
    refine va_get (D := D) (ci := 4) (v := .int (-1)) (C := RX4) (T := TX4) (N := 3) hx hb hts hi_X7_holds_4 hown hK hP (3 + j2) hqj2 rfl 1 (by decide) (hts (.fieldLink RX7 87 "TheLiningsInIt$Shelf" "held" "I") (List.mem_of_getElem? (i := 1) rfl)) (fun _ h9 => h9) rfl dX7_holds_15 ?_
    exact W.iret (v := (-1)) hx hb hr (fun t ht hW => ⟨⟨(-1), (), rfl, Or.inr (Or.inr (⟨rfl, (by first | omega | decide), (by first | omega | decide)⟩)), zP_nil, zD_nil⟩, hS.F ht⟩) hS.2.2 dX7_holds_18
theorem hi_X7_says_4 : ∀ w ∈ u_ws RX4 TX4 3, w ∈ wsX7_says := by decide +kernel
set_option maxHeartbeats 4000000 in
set_option maxRecDepth 100000 in
theorem c_says (l : Launch) (D : va_G) (cI cJ cZ cP cS : ClassId) (x0 xs j0 k0 w0 rd mv xr : Nat)(sh el : Nat → Nat) (s_ k : Int32)  (sz : Nat) : Met l yX7_says wsX7_says ({ frames := 2, cells := 0, slots := 0, locals := 43 }) (va_Pc [.ref x0, .int s_, .int k] (zW D (zKT cI cJ cZ cP cS) [(x0, .inr (7, [.ref xs, .ref j0, .ref k0, .ref w0, .ref rd, .ref mv, .ref xr, .int 0, .int (-1)])), (xr, .inl (cI, 8, .inl (fun _ => 0))), (xs, .inl (cS, 8, .inr (.inr (.inr (.inr (zS sh)))))), ((sh 0), .inr (4, [.ref (el 0), .int (-1), .int 0])), ((sh 1), .inr (4, [.ref (el 1), .int (-1), .int 0])), ((sh 2), .inr (4, [.ref (el 2), .int (-1), .int 0])), ((sh 3), .inr (4, [.ref (el 3), .int (-1), .int 0])), ((sh 4), .inr (4, [.ref (el 4), .int (-1), .int 0])), ((sh 5), .inr (4, [.ref (el 5), .int (-1), .int 0])), ((sh 6), .inr (4, [.ref (el 6), .int (-1), .int 0])), ((sh 7), .inr (4, [.ref (el 7), .int (-1), .int 0]))] sz)) (va_Qi (fun (r : Int32) (_ : Unit) => (r = (-1) ∧ s_.toInt < 0) ∨ (r = (-1) ∧ 0 ≤ s_.toInt ∧ 7 < s_.toInt) ∨ (r = (-1) ∧ 0 ≤ s_.toInt ∧ s_.toInt ≤ 7 ∧ k.toInt < 0) ∨ (r = (-1) ∧ 0 ≤ s_.toInt ∧ s_.toInt ≤ 7 ∧ 0 ≤ k.toInt ∧ 6 < k.toInt) ∨ (r = (-3) ∧ 0 ≤ s_.toInt ∧ s_.toInt ≤ 7 ∧ 0 ≤ k.toInt ∧ k.toInt ≤ 6)) (zB D [(x0, .inr (7, [.ref xs, .ref j0, .ref k0, .ref w0, .ref rd, .ref mv, .ref xr, .int 0, .int (-1)])), (xr, .inl (cI, 8, .inl (fun _ => 0))), (xs, .inl (cS, 8, .inr (.inr (.inr (.inr (zS sh)))))), ((sh 0), .inr (4, [.ref (el 0), .int (-1), .int 0])), ((sh 1), .inr (4, [.ref (el 1), .int (-1), .int 0])), ((sh 2), .inr (4, [.ref (el 2), .int (-1), .int 0])), ((sh 3), .inr (4, [.ref (el 3), .int (-1), .int 0])), ((sh 4), .inr (4, [.ref (el 4), .int (-1), .int 0])), ((sh 5), .inr (4, [.ref (el 5), .int (-1), .int 0])), ((sh 6), .inr (4, [.ref (el 6), .int (-1), .int 0])), ((sh 7), .inr (4, [.ref (el 7), .int (-1), .int 0]))] sz (fun (_ : Unit) => ([] : va_W))) (va_A [(x0, .inr (7, [.ref xs, .ref j0, .ref k0, .ref w0, .ref rd, .ref mv, .ref xr, .int 0, .int (-1)])), (xr, .inl (cI, 8, .inl (fun _ => 0))), (xs, .inl (cS, 8, .inr (.inr (.inr (.inr (zS sh)))))), ((sh 0), .inr (4, [.ref (el 0), .int (-1), .int 0])), ((sh 1), .inr (4, [.ref (el 1), .int (-1), .int 0])), ((sh 2), .inr (4, [.ref (el 2), .int (-1), .int 0])), ((sh 3), .inr (4, [.ref (el 3), .int (-1), .int 0])), ((sh 4), .inr (4, [.ref (el 4), .int (-1), .int 0])), ((sh 5), .inr (4, [.ref (el 5), .int (-1), .int 0])), ((sh 6), .inr (4, [.ref (el 6), .int (-1), .int 0])), ((sh 7), .inr (4, [.ref (el 7), .int (-1), .int 0]))] sz)) 0 0 (va_A [(x0, .inr (7, [.ref xs, .ref j0, .ref k0, .ref w0, .ref rd, .ref mv, .ref xr, .int 0, .int (-1)])), (xr, .inl (cI, 8, .inl (fun _ => 0))), (xs, .inl (cS, 8, .inr (.inr (.inr (.inr (zS sh)))))), ((sh 0), .inr (4, [.ref (el 0), .int (-1), .int 0])), ((sh 1), .inr (4, [.ref (el 1), .int (-1), .int 0])), ((sh 2), .inr (4, [.ref (el 2), .int (-1), .int 0])), ((sh 3), .inr (4, [.ref (el 3), .int (-1), .int 0])), ((sh 4), .inr (4, [.ref (el 4), .int (-1), .int 0])), ((sh 5), .inr (4, [.ref (el 5), .int (-1), .int 0])), ((sh 6), .inr (4, [.ref (el 6), .int (-1), .int 0])), ((sh 7), .inr (4, [.ref (el 7), .int (-1), .int 0]))] sz) := by
  refine Met.ofW (cc := cX7_says) (maxL := 5) (ret := (some .int)) (by decide) rfl ?_
  intro p e s m args below meth c s₁ B hml hv
  obtain ⟨rfl, hsz, hP, hK, hD0, hN, hZ⟩ := hv
  have hx := B.exec
  have hb := B.bytes
  have hr := B.returns
  have hts := atoms_spec (ws := wsX7_says) B.pre
  have hown : s.vm.findClass RX7 = some m.cls := findClass_of_methodNamed B.named
  have hlocks := B.notSynchronized
  subst hsz
  have hD := hD0.self (sz := s.heap.size)
  have hA : ∀ q : Nat, s.heap.size ≤ q → va_A [(x0, .inr (7, [.ref xs, .ref j0, .ref k0, .ref w0, .ref rd, .ref mv, .ref xr, .int 0, .int (-1)])), (xr, .inl (cI, 8, .inl (fun _ => 0))), (xs, .inl (cS, 8, .inr (.inr (.inr (.inr (zS sh)))))), ((sh 0), .inr (4, [.ref (el 0), .int (-1), .int 0])), ((sh 1), .inr (4, [.ref (el 1), .int (-1), .int 0])), ((sh 2), .inr (4, [.ref (el 2), .int (-1), .int 0])), ((sh 3), .inr (4, [.ref (el 3), .int (-1), .int 0])), ((sh 4), .inr (4, [.ref (el 4), .int (-1), .int 0])), ((sh 5), .inr (4, [.ref (el 5), .int (-1), .int 0])), ((sh 6), .inr (4, [.ref (el 6), .int (-1), .int 0])), ((sh 7), .inr (4, [.ref (el 7), .int (-1), .int 0]))] s.heap.size q := fun q h => Or.inr h
  have hS : va_S (va_A [(x0, .inr (7, [.ref xs, .ref j0, .ref k0, .ref w0, .ref rd, .ref mv, .ref xr, .int 0, .int (-1)])), (xr, .inl (cI, 8, .inl (fun _ => 0))), (xs, .inl (cS, 8, .inr (.inr (.inr (.inr (zS sh)))))), ((sh 0), .inr (4, [.ref (el 0), .int (-1), .int 0])), ((sh 1), .inr (4, [.ref (el 1), .int (-1), .int 0])), ((sh 2), .inr (4, [.ref (el 2), .int (-1), .int 0])), ((sh 3), .inr (4, [.ref (el 3), .int (-1), .int 0])), ((sh 4), .inr (4, [.ref (el 4), .int (-1), .int 0])), ((sh 5), .inr (4, [.ref (el 5), .int (-1), .int 0])), ((sh 6), .inr (4, [.ref (el 6), .int (-1), .int 0])), ((sh 7), .inr (4, [.ref (el 7), .int (-1), .int 0]))] s.heap.size) s.heap s.heap [] := va_S.rf
  replace hP : va_P D vwCl _ s.heap := hP
  have hl := lv_entry ([.ref x0, .int s_, .int k]) (n := 5) (Nat.le_of_ble_eq_true rfl)
  rw [lg_entry_eq]
  generalize (lg_sl ([.ref x0, .int s_, .int k]) ++ List.replicate (5 - (lg_sl ([.ref x0, .int s_, .int k])).length) Slot.unset).toArray = ls at hl ⊢
  replace hl : lv_has ls 5 [(0, .ref x0), (1, .int s_), (2, .int k)] := hl
  refine zw_start (fun H locs hH hL => ?_)
  replace hP : va_P D vwCl [(x0, .inr (7, [.ref xs, .ref j0, .ref k0, .ref w0, .ref rd, .ref mv, .ref xr, .int 0, .int (-1)])), (xr, .inl (cI, 8, .inl (fun _ => 0))), (xs, .inl (cS, 8, .inr (.inr (.inr (.inr (zS sh)))))), ((sh 0), .inr (4, [.ref (el 0), .int (-1), .int 0])), ((sh 1), .inr (4, [.ref (el 1), .int (-1), .int 0])), ((sh 2), .inr (4, [.ref (el 2), .int (-1), .int 0])), ((sh 3), .inr (4, [.ref (el 3), .int (-1), .int 0])), ((sh 4), .inr (4, [.ref (el 4), .int (-1), .int 0])), ((sh 5), .inr (4, [.ref (el 5), .int (-1), .int 0])), ((sh 6), .inr (4, [.ref (el 6), .int (-1), .int 0])), ((sh 7), .inr (4, [.ref (el 7), .int (-1), .int 0]))] H := by rw [hH]; exact hP
  replace hS : va_S (va_A [(x0, .inr (7, [.ref xs, .ref j0, .ref k0, .ref w0, .ref rd, .ref mv, .ref xr, .int 0, .int (-1)])), (xr, .inl (cI, 8, .inl (fun _ => 0))), (xs, .inl (cS, 8, .inr (.inr (.inr (.inr (zS sh)))))), ((sh 0), .inr (4, [.ref (el 0), .int (-1), .int 0])), ((sh 1), .inr (4, [.ref (el 1), .int (-1), .int 0])), ((sh 2), .inr (4, [.ref (el 2), .int (-1), .int 0])), ((sh 3), .inr (4, [.ref (el 3), .int (-1), .int 0])), ((sh 4), .inr (4, [.ref (el 4), .int (-1), .int 0])), ((sh 5), .inr (4, [.ref (el 5), .int (-1), .int 0])), ((sh 6), .inr (4, [.ref (el 6), .int (-1), .int 0])), ((sh 7), .inr (4, [.ref (el 7), .int (-1), .int 0]))] s.heap.size) s.heap H locs := by rw [hH, hL]; exact hS
  clear hH hL
  refine lv_aload_n hx hb dX7_says_0 rfl (lv_at hl 0 rfl) ?_
  refine lv_iload_n hx hb dX7_says_1 rfl (lv_at hl 1 rfl) ?_
  refine zc_Vq (As := [.int s_]) (rest := []) ⟨hx, hb, hml, hown, hts⟩ (c_shelfAt l D cI cJ cZ cP cS x0 xs j0 k0 w0 rd mv xr ((zS sh)) (s_) ) (cwV 1 hts gX7_says_X7_shelfAt rfl rfl rfl (by decide +kernel) ⟨Nat.le_of_ble_eq_true rfl, Nat.le_of_ble_eq_true rfl⟩) hK hN (hZ.kept hS) hP [0, 2] rfl (va_recv hK hP (ci := 7) (q0 := 0) rfl rfl) rfl hl.1 rfl (Nat.le_of_ble_eq_true rfl) dX7_says_2 ⟨Nat.le_of_ble_eq_true rfl, Nat.le_of_ble_eq_true rfl⟩ (fun r_1 hr_1 => ?_)
  rcases hr_1 with ⟨rfl, g_2⟩ | ⟨rfl, g_3, g_4⟩ | ⟨rfl, g_5, g_6⟩
  · refine lv_astore_nN (lv' := [(3, .null), (0, .ref x0), (1, .int s_), (2, .int k)]) hx hb dX7_says_5 rfl hl (by decide) rfl (fun ls hl => ?_)
    refine lv_aload_nN hx hb dX7_says_6 rfl (lv_at hl 0 rfl) ?_
    refine lv_ifnullN (tgt := 20) hx hb dX7_says_7 (by decide) ?_
    refine lv_aload_n hx hb dX7_says_20 rfl (lv_at hl 1 rfl) ?_
    refine lv_iconst (v := 1) hx hb dX7_says_21 (by decide) ?_
    skip
    refine zw_V (As := [.int 1]) (rest := []) (wr := []) ⟨hx, hb, hml, hown, hts⟩ (c_refuse_1 l D cI cJ cZ cP cS x0 xs j0 k0 w0 rd mv xr  H.size) (cwV 1 hts gX7_says_X7_refuse rfl rfl rfl (by decide +kernel) ⟨Nat.le_of_ble_eq_true rfl, Nat.le_of_ble_eq_true rfl⟩) hK hN (hZ.kept hS) hP hD hS hA [0, 1] [] rfl rfl (by decide) (by decide) (by decide) (va_recv hK hP (ci := 7) (q0 := 0) rfl rfl) rfl hl.1 rfl (Nat.le_of_ble_eq_true rfl) dX7_says_22 ⟨Nat.le_of_ble_eq_true rfl, Nat.le_of_ble_eq_true rfl⟩ (fun r_7 u_8 H locs hr_7 hP hD hS => ?_)
    obtain rfl := hr_7
    exact W.iret (v := (-1)) hx hb hr (fun t ht hW => ⟨⟨(-1), (), rfl, Or.inl (⟨rfl, (by first | omega | decide)⟩), zP_nil, zD_nil⟩, hS.F ht⟩) hS.2.2 dX7_says_25
  · refine lv_astore_nN (lv' := [(3, .null), (0, .ref x0), (1, .int s_), (2, .int k)]) hx hb dX7_says_5 rfl hl (by decide) rfl (fun ls hl => ?_)
    refine lv_aload_nN hx hb dX7_says_6 rfl (lv_at hl 0 rfl) ?_
    refine lv_ifnullN (tgt := 20) hx hb dX7_says_7 (by decide) ?_
    refine lv_aload_n hx hb dX7_says_20 rfl (lv_at hl 1 rfl) ?_
    refine lv_iconst (v := 1) hx hb dX7_says_21 (by decide) ?_
    skip
    refine zw_V (As := [.int 1]) (rest := []) (wr := []) ⟨hx, hb, hml, hown, hts⟩ (c_refuse_1 l D cI cJ cZ cP cS x0 xs j0 k0 w0 rd mv xr  H.size) (cwV 1 hts gX7_says_X7_refuse rfl rfl rfl (by decide +kernel) ⟨Nat.le_of_ble_eq_true rfl, Nat.le_of_ble_eq_true rfl⟩) hK hN (hZ.kept hS) hP hD hS hA [0, 1] [] rfl rfl (by decide) (by decide) (by decide) (va_recv hK hP (ci := 7) (q0 := 0) rfl rfl) rfl hl.1 rfl (Nat.le_of_ble_eq_true rfl) dX7_says_22 ⟨Nat.le_of_ble_eq_true rfl, Nat.le_of_ble_eq_true rfl⟩ (fun r_9 u_10 H locs hr_9 hP hD hS => ?_)
    obtain rfl := hr_9
    exact W.iret (v := (-1)) hx hb hr (fun t ht hW => ⟨⟨(-1), (), rfl, Or.inr (Or.inl (⟨rfl, (by first | omega | decide), (by first | omega | decide)⟩)), zP_nil, zD_nil⟩, hS.F ht⟩) hS.2.2 dX7_says_25
  · obtain ⟨j2, hj2, hfs⟩ := zS_at sh (s := s_) (by omega) (by omega)
    rw [hfs]
    refine W.eq (g2 := F0 m 5 ls (.ref (sh j2) :: [])) rfl ?_
    have hqj2 : ([(x0, .inr (7, [.ref xs, .ref j0, .ref k0, .ref w0, .ref rd, .ref mv, .ref xr, .int 0, .int (-1)])), (xr, .inl (cI, 8, .inl (fun _ => 0))), (xs, .inl (cS, 8, .inr (.inr (.inr (.inr (zS sh)))))), ((sh 0), .inr (4, [.ref (el 0), .int (-1), .int 0])), ((sh 1), .inr (4, [.ref (el 1), .int (-1), .int 0])), ((sh 2), .inr (4, [.ref (el 2), .int (-1), .int 0])), ((sh 3), .inr (4, [.ref (el 3), .int (-1), .int 0])), ((sh 4), .inr (4, [.ref (el 4), .int (-1), .int 0])), ((sh 5), .inr (4, [.ref (el 5), .int (-1), .int 0])), ((sh 6), .inr (4, [.ref (el 6), .int (-1), .int 0])), ((sh 7), .inr (4, [.ref (el 7), .int (-1), .int 0]))] : va_W)[3 + j2]? = some ((sh j2), .inr (4, [.ref (el j2), .int (-1), .int 0])) := by rcases zj8 hj2 with rfl | rfl | rfl | rfl | rfl | rfl | rfl | rfl <;> rfl
    refine lv_astore_n (lv' := [(3, .ref (sh j2)), (0, .ref x0), (1, .int s_), (2, .int k)]) hx hb dX7_says_5 rfl hl (by decide) rfl (fun ls hl => ?_)
    refine lv_aload_n hx hb dX7_says_6 rfl (lv_at hl 0 rfl) ?_
    refine lv_ifnull hx hb dX7_says_7 ?_
    refine lv_iload_n hx hb dX7_says_10 rfl (lv_at hl 3 rfl) ?_
    refine lv_iconst (v := 0) hx hb dX7_says_11 (by decide) ?_
    refine lv_bipush (v := 6) hx hb dX7_says_12 (by decide) ?_
    have kc0 : (0 : Int32).toInt = 0 := by decide
    have kc6 : (6 : Int32).toInt = 6 := by decide
    refine zc_S (As := [.int k, .int 0, .int 6]) (rest := []) ⟨hx, hb, hml, hown, hts⟩ (c_within l D cI cJ cZ cP cS (k) (0) (6) ) (va_cwS 3 hts gX7_says_X7_within rfl rfl rfl (by decide +kernel) ⟨Nat.le_of_ble_eq_true rfl, Nat.le_of_ble_eq_true rfl⟩) hK hN (hZ.kept hS) rfl hl.1 rfl (Nat.le_of_ble_eq_true rfl) dX7_says_14 ⟨Nat.le_of_ble_eq_true rfl, Nat.le_of_ble_eq_true rfl⟩ (fun r_11 hr_11 => ?_)
    rcases hr_11 with ⟨rfl, g_12⟩ | ⟨rfl, g_13, g_14⟩ | ⟨rfl, g_15, g_16⟩
    · refine lv_if_ne (tgt := 26) hx hb dX7_says_17 (by decide) (fun c_17 => ?_) (fun c_17 => ?_)
      · exact absurd c_17 (by decide)
      · refine lv_aload_n hx hb dX7_says_20 rfl (lv_at hl 1 rfl) ?_
        refine lv_iconst (v := 1) hx hb dX7_says_21 (by decide) ?_
        skip
        refine zw_V (As := [.int 1]) (rest := []) (wr := []) ⟨hx, hb, hml, hown, hts⟩ (c_refuse_1 l D cI cJ cZ cP cS x0 xs j0 k0 w0 rd mv xr  H.size) (cwV 1 hts gX7_says_X7_refuse rfl rfl rfl (by decide +kernel) ⟨Nat.le_of_ble_eq_true rfl, Nat.le_of_ble_eq_true rfl⟩) hK hN (hZ.kept hS) hP hD hS hA [0, 1] [] rfl rfl (by decide) (by decide) (by decide) (va_recv hK hP (ci := 7) (q0 := 0) rfl rfl) rfl hl.1 rfl (Nat.le_of_ble_eq_true rfl) dX7_says_22 ⟨Nat.le_of_ble_eq_true rfl, Nat.le_of_ble_eq_true rfl⟩ (fun r_18 u_19 H locs hr_18 hP hD hS => ?_)
        obtain rfl := hr_18
        exact W.iret (v := (-1)) hx hb hr (fun t ht hW => ⟨⟨(-1), (), rfl, Or.inr (Or.inr (Or.inl (⟨rfl, (by first | omega | decide), (by first | omega | decide), (by first | omega | decide)⟩))), zP_nil, zD_nil⟩, hS.F ht⟩) hS.2.2 dX7_says_25
    · refine lv_if_ne (tgt := 26) hx hb dX7_says_17 (by decide) (fun c_20 => ?_) (fun c_20 => ?_)
      · exact absurd c_20 (by decide)
      · refine lv_aload_n hx hb dX7_says_20 rfl (lv_at hl 1 rfl) ?_
        refine lv_iconst (v := 1) hx hb dX7_says_21 (by decide) ?_
        skip
        refine zw_V (As := [.int 1]) (rest := []) (wr := []) ⟨hx, hb, hml, hown, hts⟩ (c_refuse_1 l D cI cJ cZ cP cS x0 xs j0 k0 w0 rd mv xr  H.size) (cwV 1 hts gX7_says_X7_refuse rfl rfl rfl (by decide +kernel) ⟨Nat.le_of_ble_eq_true rfl, Nat.le_of_ble_eq_true rfl⟩) hK hN (hZ.kept hS) hP hD hS hA [0, 1] [] rfl rfl (by decide) (by decide) (by decide) (va_recv hK hP (ci := 7) (q0 := 0) rfl rfl) rfl hl.1 rfl (Nat.le_of_ble_eq_true rfl) dX7_says_22 ⟨Nat.le_of_ble_eq_true rfl, Nat.le_of_ble_eq_true rfl⟩ (fun r_21 u_22 H locs hr_21 hP hD hS => ?_)
        obtain rfl := hr_21
        exact W.iret (v := (-1)) hx hb hr (fun t ht hW => ⟨⟨(-1), (), rfl, Or.inr (Or.inr (Or.inr (Or.inl (⟨rfl, (by first | omega | decide), (by first | omega | decide), (by first | omega | decide), (by first | omega | decide)⟩)))), zP_nil, zD_nil⟩, hS.F ht⟩) hS.2.2 dX7_says_25
    · refine lv_if_ne (tgt := 26) hx hb dX7_says_17 (by decide) (fun c_23 => ?_) (fun c_23 => ?_)
      · refine lv_aload_n hx hb dX7_says_26 rfl (lv_at hl 0 rfl) ?_
        refine va_get (D := D) (ci := 4) (v := .int (-1)) (C := RX4) (T := TX4) (N := 3) hx hb hts hi_X7_says_4 hown hK hP (3 + j2) hqj2 rfl 1 (by decide) (hts (.fieldLink RX7 87 "TheLiningsInIt$Shelf" "held" "I") (List.mem_of_getElem? (i := 1) rfl)) (fun _ h9 => h9) rfl dX7_says_27 ?_
        refine lv_iconst (v := (-1)) hx hb dX7_says_30 (by decide) ?_
        refine lv_icmp_ne (tgt := 40) hx hb dX7_says_31 (by decide) (fun c_24 => ?_) (fun c_24 => ?_)
        · exact absurd c_24 (by decide)
        · refine lv_aload_n hx hb dX7_says_34 rfl (lv_at hl 1 rfl) ?_
          refine lv_iconst (v := 3) hx hb dX7_says_35 (by decide) ?_
          skip
          refine zw_V (As := [.int 3]) (rest := []) (wr := []) ⟨hx, hb, hml, hown, hts⟩ (c_refuse_3 l D cI cJ cZ cP cS x0 xs j0 k0 w0 rd mv xr  H.size) (cwV 1 hts gX7_says_X7_refuse rfl rfl rfl (by decide +kernel) ⟨Nat.le_of_ble_eq_true rfl, Nat.le_of_ble_eq_true rfl⟩) hK hN (hZ.kept hS) hP hD hS hA [0, 1] [] rfl rfl (by decide) (by decide) (by decide) (va_recv hK hP (ci := 7) (q0 := 0) rfl rfl) rfl hl.1 rfl (Nat.le_of_ble_eq_true rfl) dX7_says_36 ⟨Nat.le_of_ble_eq_true rfl, Nat.le_of_ble_eq_true rfl⟩ (fun r_25 u_26 H locs hr_25 hP hD hS => ?_)
          obtain rfl := hr_25
          exact W.iret (v := (-3)) hx hb hr (fun t ht hW => ⟨⟨(-3), (), rfl, Or.inr (Or.inr (Or.inr (Or.inr (⟨rfl, (by first | omega | decide), (by first | omega | decide), (by first | omega | decide), (by first | omega | decide)⟩)))), zP_nil, zD_nil⟩, hS.F ht⟩) hS.2.2 dX7_says_39
      · exact absurd c_23 (by decide)
