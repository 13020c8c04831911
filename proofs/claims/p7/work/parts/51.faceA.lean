theorem hi_X7_refuse_7 : ∀ w ∈ u_ws RX7 TX7 9, w ∈ wsX7_refuse := fun w h => (goodIn_r (u_ws RX7 TX7 9) [6, 7, 8, 9, 10, 11, 12, 13, 14] rfl (by decide +kernel) w h).1
set_option maxHeartbeats 4000000 in
set_option maxRecDepth 100000 in
theorem c_X_refuse_1 (l : Launch) (D : va_G) (cI cJ cZ cP cS : ClassId) (po : zPool) (x0 xs j0 k0 w0 rd mv xr : Nat) (im lf : Int32) (fr : Nat → Int32) (hy0 : 0 ≤ im.toInt) (hy1 : im.toInt ≤ 1) (hy2 : (-1) ≤ lf.toInt) (hy3 : lf.toInt ≤ 160) (hpz : Nat) : Met l yX7_refuse wsX7_refuse ({ frames := 1, cells := 0, slots := 0, locals := 22 }) (va_Pc [.ref x0, .int 1] (zW D (zKT cI cJ cZ cP cS) po [(x0, .inr (7, [.ref xs, .ref j0, .ref k0, .ref w0, .ref rd, .ref mv, .ref xr, .int im, .int lf])), (xr, .inl (cI, 8, .inl fr))] hpz)) (va_Qi (fun (r : Int32) (fr2 : (Nat → Int32)) => r = (-1)) (zB D [(x0, .inr (7, [.ref xs, .ref j0, .ref k0, .ref w0, .ref rd, .ref mv, .ref xr, .int im, .int lf])), (xr, .inl (cI, 8, .inl fr))] hpz (fun (fr2 : Nat → Int32) => [(x0, .inr (7, [.ref xs, .ref j0, .ref k0, .ref w0, .ref rd, .ref mv, .ref xr, .int im, .int lf])), (xr, .inl (cI, 8, .inl fr2))])) (va_A [(x0, .inr (7, [.ref xs, .ref j0, .ref k0, .ref w0, .ref rd, .ref mv, .ref xr, .int im, .int lf])), (xr, .inl (cI, 8, .inl fr))] hpz)) 0 0 (va_A [(x0, .inr (7, [.ref xs, .ref j0, .ref k0, .ref w0, .ref rd, .ref mv, .ref xr, .int im, .int lf])), (xr, .inl (cI, 8, .inl fr))] hpz) := by
  refine Met.ofW (cc := cX7_refuse) (maxL := 2) (ret := (some .int)) (by decide) rfl ?_
  intro p e s m args below meth c s₁ B hml hv
  obtain ⟨rfl, hsz, hP, hK, hD0, hN, hZ⟩ := hv
  have hx := B.exec
  have hb := B.bytes
  have hr := B.returns
  have hts := atoms_spec (ws := wsX7_refuse) B.pre
  have hown : s.vm.findClass RX7 = some m.cls := findClass_of_methodNamed B.named
  have hlocks := B.notSynchronized
  subst hsz
  have hD := hD0.self (sz := s.heap.size)
  have hA := zA_of hD
  have hl := lv_entry ([.ref x0, .int 1]) (n := 2) (Nat.le_of_ble_eq_true rfl)
  rw [lg_entry_eq]
  generalize (lg_sl ([.ref x0, .int 1]) ++ List.replicate (2 - (lg_sl ([.ref x0, .int 1])).length) Slot.unset).toArray = ls at hl ⊢
  replace hl : lv_has ls 2 [(0, .ref x0), (1, .int 1)] := hl
  refine zw_begin hP hD (fun H locs hP1 hS => ?_)
  clear hP
  have hP := hP1
  clear hP1
  refine lv_iload_n hx hb dX7_refuse_0 rfl (lv_at hl 1 rfl) ?_
  refine lv_iconst (v := 1) hx hb dX7_refuse_1 (by decide) ?_
  refine lv_bipush (v := 7) hx hb dX7_refuse_2 (by decide) ?_
  have kc1 : (1 : Int32).toInt = 1 := by decide
  have kc7 : (7 : Int32).toInt = 7 := by decide
  refine zc_S (As := [.int 1, .int 1, .int 7]) (rest := []) ⟨hx, hb, hml, hown, hts⟩ (c_within l D cI cJ cZ cP cS po (1) (1) (7) ) (va_cwS 3 hts gX7_refuse_X7_within rfl rfl rfl (by decide +kernel) ⟨Nat.le_of_ble_eq_true rfl, Nat.le_of_ble_eq_true rfl⟩) hK hN (hZ.kept hS) rfl hl.1 rfl (Nat.le_of_ble_eq_true rfl) dX7_refuse_4 ⟨Nat.le_of_ble_eq_true rfl, Nat.le_of_ble_eq_true rfl⟩ (fun r_1 hr_1 => ?_)
  rcases hr_1 with ⟨rfl, g_2⟩ | ⟨rfl, g_3, g_4⟩ | ⟨rfl, g_5, g_6⟩
  · exfalso; omega
  · exfalso; omega
  · refine lv_if_eq (tgt := 20) hx hb dX7_refuse_7 (by decide) (fun c_7 => ?_) (fun c_7 => ?_)
    · exact absurd c_7 (by decide)
    · refine lv_aload_n hx hb dX7_refuse_10 rfl (lv_at hl 0 rfl) ?_
      refine va_get (D := D) (ci := 7) (v := .ref xr) (C := RX7) (T := TX7) (N := 9) hx hb hts hi_X7_refuse_7 hown hK hP 0 rfl rfl 6 (by decide) (hts (.fieldLink RX7 46 "TheLiningsInIt" "refusals" "[I") (List.mem_of_getElem? (i := 1) rfl)) (fun _ h9 => h9) rfl dX7_refuse_11 ?_
      refine lv_iload_n hx hb dX7_refuse_14 rfl (lv_at hl 1 rfl) ?_
      refine lv_dup2_11 hx hb dX7_refuse_15 rfl rfl ?_
      refine va_iald hx hb hK hP 1 0 rfl rfl (zf_in (by decide) (by decide)) dX7_refuse_16 ?_
      refine lv_topi (fun x_8 ex_8 => ?_)
      refine lv_iconst (v := 1) hx hb dX7_refuse_17 (by decide) ?_
      refine lv_iadd hx hb dX7_refuse_18 ?_
      refine lv_topi (fun x_9 ex_9 => ?_)
      refine va_iast hx hb hK hP hD hS 1 0 rfl rfl (zf_in (by decide) (by decide)) dX7_refuse_19 (fun H locs hP hD hS => ?_)
      obtain ⟨g_10, hg_10⟩ : ∃ g : Nat → Int32, g = upd fr (1 : Int32).toNatClampNeg x_9 := ⟨_, rfl⟩
      rw [← hg_10] at hP hD
      clear hg_10
      have h9R := zRe (ws' := [(x0, .inr (7, [.ref xs, .ref j0, .ref k0, .ref w0, .ref rd, .ref mv, .ref xr, .int im, .int lf])), (xr, .inl (cI, 8, .inl g_10))]) hP hD rfl
      clear hP hD
      obtain ⟨hP, hD⟩ := h9R
      refine lv_iload_n hx hb dX7_refuse_20 rfl (lv_at hl 1 rfl) ?_
      refine lv_ineg hx hb dX7_refuse_21 ?_
      refine lv_topi (fun y_11 ey_11 => ?_)
      obtain rfl : y_11 = (-1) := ey_11.trans (by decide)
      exact W.iret (v := (-1)) hx hb hr (fun t ht hW => ⟨⟨(-1), g_10, rfl, rfl, zRet ht hP hD [0, 1] (by decide) rfl⟩, hS.F ht⟩) hS.2.2 dX7_refuse_22
set_option maxHeartbeats 4000000 in
set_option maxRecDepth 100000 in
theorem c_X_refuse_2 (l : Launch) (D : va_G) (cI cJ cZ cP cS : ClassId) (po : zPool) (x0 xs j0 k0 w0 rd mv xr : Nat) (im lf : Int32) (fr : Nat → Int32) (hy0 : 0 ≤ im.toInt) (hy1 : im.toInt ≤ 1) (hy2 : (-1) ≤ lf.toInt) (hy3 : lf.toInt ≤ 160) (hpz : Nat) : Met l yX7_refuse wsX7_refuse ({ frames := 1, cells := 0, slots := 0, locals := 22 }) (va_Pc [.ref x0, .int 2] (zW D (zKT cI cJ cZ cP cS) po [(x0, .inr (7, [.ref xs, .ref j0, .ref k0, .ref w0, .ref rd, .ref mv, .ref xr, .int im, .int lf])), (xr, .inl (cI, 8, .inl fr))] hpz)) (va_Qi (fun (r : Int32) (fr2 : (Nat → Int32)) => r = (-2)) (zB D [(x0, .inr (7, [.ref xs, .ref j0, .ref k0, .ref w0, .ref rd, .ref mv, .ref xr, .int im, .int lf])), (xr, .inl (cI, 8, .inl fr))] hpz (fun (fr2 : Nat → Int32) => [(x0, .inr (7, [.ref xs, .ref j0, .ref k0, .ref w0, .ref rd, .ref mv, .ref xr, .int im, .int lf])), (xr, .inl (cI, 8, .inl fr2))])) (va_A [(x0, .inr (7, [.ref xs, .ref j0, .ref k0, .ref w0, .ref rd, .ref mv, .ref xr, .int im, .int lf])), (xr, .inl (cI, 8, .inl fr))] hpz)) 0 0 (va_A [(x0, .inr (7, [.ref xs, .ref j0, .ref k0, .ref w0, .ref rd, .ref mv, .ref xr, .int im, .int lf])), (xr, .inl (cI, 8, .inl fr))] hpz) := by
  refine Met.ofW (cc := cX7_refuse) (maxL := 2) (ret := (some .int)) (by decide) rfl ?_
  intro p e s m args below meth c s₁ B hml hv
  obtain ⟨rfl, hsz, hP, hK, hD0, hN, hZ⟩ := hv
  have hx := B.exec
  have hb := B.bytes
  have hr := B.returns
  have hts := atoms_spec (ws := wsX7_refuse) B.pre
  have hown : s.vm.findClass RX7 = some m.cls := findClass_of_methodNamed B.named
  have hlocks := B.notSynchronized
  subst hsz
  have hD := hD0.self (sz := s.heap.size)
  have hA := zA_of hD
  have hl := lv_entry ([.ref x0, .int 2]) (n := 2) (Nat.le_of_ble_eq_true rfl)
  rw [lg_entry_eq]
  generalize (lg_sl ([.ref x0, .int 2]) ++ List.replicate (2 - (lg_sl ([.ref x0, .int 2])).length) Slot.unset).toArray = ls at hl ⊢
  replace hl : lv_has ls 2 [(0, .ref x0), (1, .int 2)] := hl
  refine zw_begin hP hD (fun H locs hP1 hS => ?_)
  clear hP
  have hP := hP1
  clear hP1
  refine lv_iload_n hx hb dX7_refuse_0 rfl (lv_at hl 1 rfl) ?_
  refine lv_iconst (v := 1) hx hb dX7_refuse_1 (by decide) ?_
  refine lv_bipush (v := 7) hx hb dX7_refuse_2 (by decide) ?_
  have kc2 : (2 : Int32).toInt = 2 := by decide
  have kc1 : (1 : Int32).toInt = 1 := by decide
  have kc7 : (7 : Int32).toInt = 7 := by decide
  refine zc_S (As := [.int 2, .int 1, .int 7]) (rest := []) ⟨hx, hb, hml, hown, hts⟩ (c_within l D cI cJ cZ cP cS po (2) (1) (7) ) (va_cwS 3 hts gX7_refuse_X7_within rfl rfl rfl (by decide +kernel) ⟨Nat.le_of_ble_eq_true rfl, Nat.le_of_ble_eq_true rfl⟩) hK hN (hZ.kept hS) rfl hl.1 rfl (Nat.le_of_ble_eq_true rfl) dX7_refuse_4 ⟨Nat.le_of_ble_eq_true rfl, Nat.le_of_ble_eq_true rfl⟩ (fun r_1 hr_1 => ?_)
  rcases hr_1 with ⟨rfl, g_2⟩ | ⟨rfl, g_3, g_4⟩ | ⟨rfl, g_5, g_6⟩
  · exfalso; omega
  · exfalso; omega
  · refine lv_if_eq (tgt := 20) hx hb dX7_refuse_7 (by decide) (fun c_7 => ?_) (fun c_7 => ?_)
    · exact absurd c_7 (by decide)
    · refine lv_aload_n hx hb dX7_refuse_10 rfl (lv_at hl 0 rfl) ?_
      refine va_get (D := D) (ci := 7) (v := .ref xr) (C := RX7) (T := TX7) (N := 9) hx hb hts hi_X7_refuse_7 hown hK hP 0 rfl rfl 6 (by decide) (hts (.fieldLink RX7 46 "TheLiningsInIt" "refusals" "[I") (List.mem_of_getElem? (i := 1) rfl)) (fun _ h9 => h9) rfl dX7_refuse_11 ?_
      refine lv_iload_n hx hb dX7_refuse_14 rfl (lv_at hl 1 rfl) ?_
      refine lv_dup2_11 hx hb dX7_refuse_15 rfl rfl ?_
      refine va_iald hx hb hK hP 1 0 rfl rfl (zf_in (by decide) (by decide)) dX7_refuse_16 ?_
      refine lv_topi (fun x_8 ex_8 => ?_)
      refine lv_iconst (v := 1) hx hb dX7_refuse_17 (by decide) ?_
      refine lv_iadd hx hb dX7_refuse_18 ?_
      refine lv_topi (fun x_9 ex_9 => ?_)
      refine va_iast hx hb hK hP hD hS 1 0 rfl rfl (zf_in (by decide) (by decide)) dX7_refuse_19 (fun H locs hP hD hS => ?_)
      obtain ⟨g_10, hg_10⟩ : ∃ g : Nat → Int32, g = upd fr (2 : Int32).toNatClampNeg x_9 := ⟨_, rfl⟩
      rw [← hg_10] at hP hD
      clear hg_10
      have h9R := zRe (ws' := [(x0, .inr (7, [.ref xs, .ref j0, .ref k0, .ref w0, .ref rd, .ref mv, .ref xr, .int im, .int lf])), (xr, .inl (cI, 8, .inl g_10))]) hP hD rfl
      clear hP hD
      obtain ⟨hP, hD⟩ := h9R
      refine lv_iload_n hx hb dX7_refuse_20 rfl (lv_at hl 1 rfl) ?_
      refine lv_ineg hx hb dX7_refuse_21 ?_
      refine lv_topi (fun y_11 ey_11 => ?_)
      obtain rfl : y_11 = (-2) := ey_11.trans (by decide)
      exact W.iret (v := (-2)) hx hb hr (fun t ht hW => ⟨⟨(-2), g_10, rfl, rfl, zRet ht hP hD [0, 1] (by decide) rfl⟩, hS.F ht⟩) hS.2.2 dX7_refuse_22
set_option maxHeartbeats 4000000 in
set_option maxRecDepth 100000 in
theorem c_X_refuse_3 (l : Launch) (D : va_G) (cI cJ cZ cP cS : ClassId) (po : zPool) (x0 xs j0 k0 w0 rd mv xr : Nat) (im lf : Int32) (fr : Nat → Int32) (hy0 : 0 ≤ im.toInt) (hy1 : im.toInt ≤ 1) (hy2 : (-1) ≤ lf.toInt) (hy3 : lf.toInt ≤ 160) (hpz : Nat) : Met l yX7_refuse wsX7_refuse ({ frames := 1, cells := 0, slots := 0, locals := 22 }) (va_Pc [.ref x0, .int 3] (zW D (zKT cI cJ cZ cP cS) po [(x0, .inr (7, [.ref xs, .ref j0, .ref k0, .ref w0, .ref rd, .ref mv, .ref xr, .int im, .int lf])), (xr, .inl (cI, 8, .inl fr))] hpz)) (va_Qi (fun (r : Int32) (fr2 : (Nat → Int32)) => r = (-3)) (zB D [(x0, .inr (7, [.ref xs, .ref j0, .ref k0, .ref w0, .ref rd, .ref mv, .ref xr, .int im, .int lf])), (xr, .inl (cI, 8, .inl fr))] hpz (fun (fr2 : Nat → Int32) => [(x0, .inr (7, [.ref xs, .ref j0, .ref k0, .ref w0, .ref rd, .ref mv, .ref xr, .int im, .int lf])), (xr, .inl (cI, 8, .inl fr2))])) (va_A [(x0, .inr (7, [.ref xs, .ref j0, .ref k0, .ref w0, .ref rd, .ref mv, .ref xr, .int im, .int lf])), (xr, .inl (cI, 8, .inl fr))] hpz)) 0 0 (va_A [(x0, .inr (7, [.ref xs, .ref j0, .ref k0, .ref w0, .ref rd, .ref mv, .ref xr, .int im, .int lf])), (xr, .inl (cI, 8, .inl fr))] hpz) := by
  refine Met.ofW (cc := cX7_refuse) (maxL := 2) (ret := (some .int)) (by decide) rfl ?_
  intro p e s m args below meth c s₁ B hml hv
  obtain ⟨rfl, hsz, hP, hK, hD0, hN, hZ⟩ := hv
  have hx := B.exec
  have hb := B.bytes
  have hr := B.returns
  have hts := atoms_spec (ws := wsX7_refuse) B.pre
  have hown : s.vm.findClass RX7 = some m.cls := findClass_of_methodNamed B.named
  have hlocks := B.notSynchronized
  subst hsz
  have hD := hD0.self (sz := s.heap.size)
  have hA := zA_of hD
  have hl := lv_entry ([.ref x0, .int 3]) (n := 2) (Nat.le_of_ble_eq_true rfl)
  rw [lg_entry_eq]
  generalize (lg_sl ([.ref x0, .int 3]) ++ List.replicate (2 - (lg_sl ([.ref x0, .int 3])).length) Slot.unset).toArray = ls at hl ⊢
  replace hl : lv_has ls 2 [(0, .ref x0), (1, .int 3)] := hl
  refine zw_begin hP hD (fun H locs hP1 hS => ?_)
  clear hP
  have hP := hP1
  clear hP1
  refine lv_iload_n hx hb dX7_refuse_0 rfl (lv_at hl 1 rfl) ?_
  refine lv_iconst (v := 1) hx hb dX7_refuse_1 (by decide) ?_
  refine lv_bipush (v := 7) hx hb dX7_refuse_2 (by decide) ?_
  have kc3 : (3 : Int32).toInt = 3 := by decide
  have kc1 : (1 : Int32).toInt = 1 := by decide
  have kc7 : (7 : Int32).toInt = 7 := by decide
  refine zc_S (As := [.int 3, .int 1, .int 7]) (rest := []) ⟨hx, hb, hml, hown, hts⟩ (c_within l D cI cJ cZ cP cS po (3) (1) (7) ) (va_cwS 3 hts gX7_refuse_X7_within rfl rfl rfl (by decide +kernel) ⟨Nat.le_of_ble_eq_true rfl, Nat.le_of_ble_eq_true rfl⟩) hK hN (hZ.kept hS) rfl hl.1 rfl (Nat.le_of_ble_eq_true rfl) dX7_refuse_4 ⟨Nat.le_of_ble_eq_true rfl, Nat.le_of_ble_eq_true rfl⟩ (fun r_1 hr_1 => ?_)
  rcases hr_1 with ⟨rfl, g_2⟩ | ⟨rfl, g_3, g_4⟩ | ⟨rfl, g_5, g_6⟩
  · exfalso; omega
  · exfalso; omega
  · refine lv_if_eq (tgt := 20) hx hb dX7_refuse_7 (by decide) (fun c_7 => ?_) (fun c_7 => ?_)
    · exact absurd c_7 (by decide)
    · refine lv_aload_n hx hb dX7_refuse_10 rfl (lv_at hl 0 rfl) ?_
      refine va_get (D := D) (ci := 7) (v := .ref xr) (C := RX7) (T := TX7) (N := 9) hx hb hts hi_X7_refuse_7 hown hK hP 0 rfl rfl 6 (by decide) (hts (.fieldLink RX7 46 "TheLiningsInIt" "refusals" "[I") (List.mem_of_getElem? (i := 1) rfl)) (fun _ h9 => h9) rfl dX7_refuse_11 ?_
      refine lv_iload_n hx hb dX7_refuse_14 rfl (lv_at hl 1 rfl) ?_
      refine lv_dup2_11 hx hb dX7_refuse_15 rfl rfl ?_
      refine va_iald hx hb hK hP 1 0 rfl rfl (zf_in (by decide) (by decide)) dX7_refuse_16 ?_
      refine lv_topi (fun x_8 ex_8 => ?_)
      refine lv_iconst (v := 1) hx hb dX7_refuse_17 (by decide) ?_
      refine lv_iadd hx hb dX7_refuse_18 ?_
      refine lv_topi (fun x_9 ex_9 => ?_)
      refine va_iast hx hb hK hP hD hS 1 0 rfl rfl (zf_in (by decide) (by decide)) dX7_refuse_19 (fun H locs hP hD hS => ?_)
      obtain ⟨g_10, hg_10⟩ : ∃ g : Nat → Int32, g = upd fr (3 : Int32).toNatClampNeg x_9 := ⟨_, rfl⟩
      rw [← hg_10] at hP hD
      clear hg_10
      have h9R := zRe (ws' := [(x0, .inr (7, [.ref xs, .ref j0, .ref k0, .ref w0, .ref rd, .ref mv, .ref xr, .int im, .int lf])), (xr, .inl (cI, 8, .inl g_10))]) hP hD rfl
      clear hP hD
      obtain ⟨hP, hD⟩ := h9R
      refine lv_iload_n hx hb dX7_refuse_20 rfl (lv_at hl 1 rfl) ?_
      refine lv_ineg hx hb dX7_refuse_21 ?_
      refine lv_topi (fun y_11 ey_11 => ?_)
      obtain rfl : y_11 = (-3) := ey_11.trans (by decide)
      exact W.iret (v := (-3)) hx hb hr (fun t ht hW => ⟨⟨(-3), g_10, rfl, rfl, zRet ht hP hD [0, 1] (by decide) rfl⟩, hS.F ht⟩) hS.2.2 dX7_refuse_22
set_option maxHeartbeats 4000000 in
set_option maxRecDepth 100000 in
theorem c_X_refuse_4 (l : Launch) (D : va_G) (cI cJ cZ cP cS : ClassId) (po : zPool) (x0 xs j0 k0 w0 rd mv xr : Nat) (im lf : Int32) (fr : Nat → Int32) (hy0 : 0 ≤ im.toInt) (hy1 : im.toInt ≤ 1) (hy2 : (-1) ≤ lf.toInt) (hy3 : lf.toInt ≤ 160) (hpz : Nat) : Met l yX7_refuse wsX7_refuse ({ frames := 1, cells := 0, slots := 0, locals := 22 }) (va_Pc [.ref x0, .int 4] (zW D (zKT cI cJ cZ cP cS) po [(x0, .inr (7, [.ref xs, .ref j0, .ref k0, .ref w0, .ref rd, .ref mv, .ref xr, .int im, .int lf])), (xr, .inl (cI, 8, .inl fr))] hpz)) (va_Qi (fun (r : Int32) (fr2 : (Nat → Int32)) => r = (-4)) (zB D [(x0, .inr (7, [.ref xs, .ref j0, .ref k0, .ref w0, .ref rd, .ref mv, .ref xr, .int im, .int lf])), (xr, .inl (cI, 8, .inl fr))] hpz (fun (fr2 : Nat → Int32) => [(x0, .inr (7, [.ref xs, .ref j0, .ref k0, .ref w0, .ref rd, .ref mv, .ref xr, .int im, .int lf])), (xr, .inl (cI, 8, .inl fr2))])) (va_A [(x0, .inr (7, [.ref xs, .ref j0, .ref k0, .ref w0, .ref rd, .ref mv, .ref xr, .int im, .int lf])), (xr, .inl (cI, 8, .inl fr))] hpz)) 0 0 (va_A [(x0, .inr (7, [.ref xs, .ref j0, .ref k0, .ref w0, .ref rd, .ref mv, .ref xr, .int im, .int lf])), (xr, .inl (cI, 8, .inl fr))] hpz) := by
  refine Met.ofW (cc := cX7_refuse) (maxL := 2) (ret := (some .int)) (by decide) rfl ?_
  intro p e s m args below meth c s₁ B hml hv
  obtain ⟨rfl, hsz, hP, hK, hD0, hN, hZ⟩ := hv
  have hx := B.exec
  have hb := B.bytes
  have hr := B.returns
  have hts := atoms_spec (ws := wsX7_refuse) B.pre
  have hown : s.vm.findClass RX7 = some m.cls := findClass_of_methodNamed B.named
  have hlocks := B.notSynchronized
  subst hsz
  have hD := hD0.self (sz := s.heap.size)
  have hA := zA_of hD
  have hl := lv_entry ([.ref x0, .int 4]) (n := 2) (Nat.le_of_ble_eq_true rfl)
  rw [lg_entry_eq]
  generalize (lg_sl ([.ref x0, .int 4]) ++ List.replicate (2 - (lg_sl ([.ref x0, .int 4])).length) Slot.unset).toArray = ls at hl ⊢
  replace hl : lv_has ls 2 [(0, .ref x0), (1, .int 4)] := hl
  refine zw_begin hP hD (fun H locs hP1 hS => ?_)
  clear hP
  have hP := hP1
  clear hP1
  refine lv_iload_n hx hb dX7_refuse_0 rfl (lv_at hl 1 rfl) ?_
  refine lv_iconst (v := 1) hx hb dX7_refuse_1 (by decide) ?_
  refine lv_bipush (v := 7) hx hb dX7_refuse_2 (by decide) ?_
  have kc4 : (4 : Int32).toInt = 4 := by decide
  have kc1 : (1 : Int32).toInt = 1 := by decide
  have kc7 : (7 : Int32).toInt = 7 := by decide
  refine zc_S (As := [.int 4, .int 1, .int 7]) (rest := []) ⟨hx, hb, hml, hown, hts⟩ (c_within l D cI cJ cZ cP cS po (4) (1) (7) ) (va_cwS 3 hts gX7_refuse_X7_within rfl rfl rfl (by decide +kernel) ⟨Nat.le_of_ble_eq_true rfl, Nat.le_of_ble_eq_true rfl⟩) hK hN (hZ.kept hS) rfl hl.1 rfl (Nat.le_of_ble_eq_true rfl) dX7_refuse_4 ⟨Nat.le_of_ble_eq_true rfl, Nat.le_of_ble_eq_true rfl⟩ (fun r_1 hr_1 => ?_)
  rcases hr_1 with ⟨rfl, g_2⟩ | ⟨rfl, g_3, g_4⟩ | ⟨rfl, g_5, g_6⟩
  · exfalso; omega
  · exfalso; omega
  · refine lv_if_eq (tgt := 20) hx hb dX7_refuse_7 (by decide) (fun c_7 => ?_) (fun c_7 => ?_)
    · exact absurd c_7 (by decide)
    · refine lv_aload_n hx hb dX7_refuse_10 rfl (lv_at hl 0 rfl) ?_
      refine va_get (D := D) (ci := 7) (v := .ref xr) (C := RX7) (T := TX7) (N := 9) hx hb hts hi_X7_refuse_7 hown hK hP 0 rfl rfl 6 (by decide) (hts (.fieldLink RX7 46 "TheLiningsInIt" "refusals" "[I") (List.mem_of_getElem? (i := 1) rfl)) (fun _ h9 => h9) rfl dX7_refuse_11 ?_
      refine lv_iload_n hx hb dX7_refuse_14 rfl (lv_at hl 1 rfl) ?_
      refine lv_dup2_11 hx hb dX7_refuse_15 rfl rfl ?_
      refine va_iald hx hb hK hP 1 0 rfl rfl (zf_in (by decide) (by decide)) dX7_refuse_16 ?_
      refine lv_topi (fun x_8 ex_8 => ?_)
      refine lv_iconst (v := 1) hx hb dX7_refuse_17 (by decide) ?_
      refine lv_iadd hx hb dX7_refuse_18 ?_
      refine lv_topi (fun x_9 ex_9 => ?_)
      refine va_iast hx hb hK hP hD hS 1 0 rfl rfl (zf_in (by decide) (by decide)) dX7_refuse_19 (fun H locs hP hD hS => ?_)
      obtain ⟨g_10, hg_10⟩ : ∃ g : Nat → Int32, g = upd fr (4 : Int32).toNatClampNeg x_9 := ⟨_, rfl⟩
      rw [← hg_10] at hP hD
      clear hg_10
      have h9R := zRe (ws' := [(x0, .inr (7, [.ref xs, .ref j0, .ref k0, .ref w0, .ref rd, .ref mv, .ref xr, .int im, .int lf])), (xr, .inl (cI, 8, .inl g_10))]) hP hD rfl
      clear hP hD
      obtain ⟨hP, hD⟩ := h9R
      refine lv_iload_n hx hb dX7_refuse_20 rfl (lv_at hl 1 rfl) ?_
      refine lv_ineg hx hb dX7_refuse_21 ?_
      refine lv_topi (fun y_11 ey_11 => ?_)
      obtain rfl : y_11 = (-4) := ey_11.trans (by decide)
      exact W.iret (v := (-4)) hx hb hr (fun t ht hW => ⟨⟨(-4), g_10, rfl, rfl, zRet ht hP hD [0, 1] (by decide) rfl⟩, hS.F ht⟩) hS.2.2 dX7_refuse_22
set_option maxHeartbeats 4000000 in
set_option maxRecDepth 100000 in
theorem c_X_refuse_5 (l : Launch) (D : va_G) (cI cJ cZ cP cS : ClassId) (po : zPool) (x0 xs j0 k0 w0 rd mv xr : Nat) (im lf : Int32) (fr : Nat → Int32) (hy0 : 0 ≤ im.toInt) (hy1 : im.toInt ≤ 1) (hy2 : (-1) ≤ lf.toInt) (hy3 : lf.toInt ≤ 160) (hpz : Nat) : Met l yX7_refuse wsX7_refuse ({ frames := 1, cells := 0, slots := 0, locals := 22 }) (va_Pc [.ref x0, .int 5] (zW D (zKT cI cJ cZ cP cS) po [(x0, .inr (7, [.ref xs, .ref j0, .ref k0, .ref w0, .ref rd, .ref mv, .ref xr, .int im, .int lf])), (xr, .inl (cI, 8, .inl fr))] hpz)) (va_Qi (fun (r : Int32) (fr2 : (Nat → Int32)) => r = (-5)) (zB D [(x0, .inr (7, [.ref xs, .ref j0, .ref k0, .ref w0, .ref rd, .ref mv, .ref xr, .int im, .int lf])), (xr, .inl (cI, 8, .inl fr))] hpz (fun (fr2 : Nat → Int32) => [(x0, .inr (7, [.ref xs, .ref j0, .ref k0, .ref w0, .ref rd, .ref mv, .ref xr, .int im, .int lf])), (xr, .inl (cI, 8, .inl fr2))])) (va_A [(x0, .inr (7, [.ref xs, .ref j0, .ref k0, .ref w0, .ref rd, .ref mv, .ref xr, .int im, .int lf])), (xr, .inl (cI, 8, .inl fr))] hpz)) 0 0 (va_A [(x0, .inr (7, [.ref xs, .ref j0, .ref k0, .ref w0, .ref rd, .ref mv, .ref xr, .int im, .int lf])), (xr, .inl (cI, 8, .inl fr))] hpz) := by
  refine Met.ofW (cc := cX7_refuse) (maxL := 2) (ret := (some .int)) (by decide) rfl ?_
  intro p e s m args below meth c s₁ B hml hv
  obtain ⟨rfl, hsz, hP, hK, hD0, hN, hZ⟩ := hv
  have hx := B.exec
  have hb := B.bytes
  have hr := B.returns
  have hts := atoms_spec (ws := wsX7_refuse) B.pre
  have hown : s.vm.findClass RX7 = some m.cls := findClass_of_methodNamed B.named
  have hlocks := B.notSynchronized
  subst hsz
  have hD := hD0.self (sz := s.heap.size)
  have hA := zA_of hD
  have hl := lv_entry ([.ref x0, .int 5]) (n := 2) (Nat.le_of_ble_eq_true rfl)
  rw [lg_entry_eq]
  generalize (lg_sl ([.ref x0, .int 5]) ++ List.replicate (2 - (lg_sl ([.ref x0, .int 5])).length) Slot.unset).toArray = ls at hl ⊢
  replace hl : lv_has ls 2 [(0, .ref x0), (1, .int 5)] := hl
  refine zw_begin hP hD (fun H locs hP1 hS => ?_)
  clear hP
  have hP := hP1
  clear hP1
  refine lv_iload_n hx hb dX7_refuse_0 rfl (lv_at hl 1 rfl) ?_
  refine lv_iconst (v := 1) hx hb dX7_refuse_1 (by decide) ?_
  refine lv_bipush (v := 7) hx hb dX7_refuse_2 (by decide) ?_
  have kc5 : (5 : Int32).toInt = 5 := by decide
  have kc1 : (1 : Int32).toInt = 1 := by decide
  have kc7 : (7 : Int32).toInt = 7 := by decide
  refine zc_S (As := [.int 5, .int 1, .int 7]) (rest := []) ⟨hx, hb, hml, hown, hts⟩ (c_within l D cI cJ cZ cP cS po (5) (1) (7) ) (va_cwS 3 hts gX7_refuse_X7_within rfl rfl rfl (by decide +kernel) ⟨Nat.le_of_ble_eq_true rfl, Nat.le_of_ble_eq_true rfl⟩) hK hN (hZ.kept hS) rfl hl.1 rfl (Nat.le_of_ble_eq_true rfl) dX7_refuse_4 ⟨Nat.le_of_ble_eq_true rfl, Nat.le_of_ble_eq_true rfl⟩ (fun r_1 hr_1 => ?_)
  rcases hr_1 with ⟨rfl, g_2⟩ | ⟨rfl, g_3, g_4⟩ | ⟨rfl, g_5, g_6⟩
  · exfalso; omega
  · exfalso; omega
  · refine lv_if_eq (tgt := 20) hx hb dX7_refuse_7 (by decide) (fun c_7 => ?_) (fun c_7 => ?_)
    · exact absurd c_7 (by decide)
    · refine lv_aload_n hx hb dX7_refuse_10 rfl (lv_at hl 0 rfl) ?_
      refine va_get (D := D) (ci := 7) (v := .ref xr) (C := RX7) (T := TX7) (N := 9) hx hb hts hi_X7_refuse_7 hown hK hP 0 rfl rfl 6 (by decide) (hts (.fieldLink RX7 46 "TheLiningsInIt" "refusals" "[I") (List.mem_of_getElem? (i := 1) rfl)) (fun _ h9 => h9) rfl dX7_refuse_11 ?_
      refine lv_iload_n hx hb dX7_refuse_14 rfl (lv_at hl 1 rfl) ?_
      refine lv_dup2_11 hx hb dX7_refuse_15 rfl rfl ?_
      refine va_iald hx hb hK hP 1 0 rfl rfl (zf_in (by decide) (by decide)) dX7_refuse_16 ?_
      refine lv_topi (fun x_8 ex_8 => ?_)
      refine lv_iconst (v := 1) hx hb dX7_refuse_17 (by decide) ?_
      refine lv_iadd hx hb dX7_refuse_18 ?_
      refine lv_topi (fun x_9 ex_9 => ?_)
      refine va_iast hx hb hK hP hD hS 1 0 rfl rfl (zf_in (by decide) (by decide)) dX7_refuse_19 (fun H locs hP hD hS => ?_)
      obtain ⟨g_10, hg_10⟩ : ∃ g : Nat → Int32, g = upd fr (5 : Int32).toNatClampNeg x_9 := ⟨_, rfl⟩
      rw [← hg_10] at hP hD
      clear hg_10
      have h9R := zRe (ws' := [(x0, .inr (7, [.ref xs, .ref j0, .ref k0, .ref w0, .ref rd, .ref mv, .ref xr, .int im, .int lf])), (xr, .inl (cI, 8, .inl g_10))]) hP hD rfl
      clear hP hD
      obtain ⟨hP, hD⟩ := h9R
      refine lv_iload_n hx hb dX7_refuse_20 rfl (lv_at hl 1 rfl) ?_
      refine lv_ineg hx hb dX7_refuse_21 ?_
      refine lv_topi (fun y_11 ey_11 => ?_)
      obtain rfl : y_11 = (-5) := ey_11.trans (by decide)
      exact W.iret (v := (-5)) hx hb hr (fun t ht hW => ⟨⟨(-5), g_10, rfl, rfl, zRet ht hP hD [0, 1] (by decide) rfl⟩, hS.F ht⟩) hS.2.2 dX7_refuse_22
set_option maxHeartbeats 4000000 in
set_option maxRecDepth 100000 in
theorem c_X_refuse_6 (l : Launch) (D : va_G) (cI cJ cZ cP cS : ClassId) (po : zPool) (x0 xs j0 k0 w0 rd mv xr : Nat) (im lf : Int32) (fr : Nat → Int32) (hy0 : 0 ≤ im.toInt) (hy1 : im.toInt ≤ 1) (hy2 : (-1) ≤ lf.toInt) (hy3 : lf.toInt ≤ 160) (hpz : Nat) : Met l yX7_refuse wsX7_refuse ({ frames := 1, cells := 0, slots := 0, locals := 22 }) (va_Pc [.ref x0, .int 6] (zW D (zKT cI cJ cZ cP cS) po [(x0, .inr (7, [.ref xs, .ref j0, .ref k0, .ref w0, .ref rd, .ref mv, .ref xr, .int im, .int lf])), (xr, .inl (cI, 8, .inl fr))] hpz)) (va_Qi (fun (r : Int32) (fr2 : (Nat → Int32)) => r = (-6)) (zB D [(x0, .inr (7, [.ref xs, .ref j0, .ref k0, .ref w0, .ref rd, .ref mv, .ref xr, .int im, .int lf])), (xr, .inl (cI, 8, .inl fr))] hpz (fun (fr2 : Nat → Int32) => [(x0, .inr (7, [.ref xs, .ref j0, .ref k0, .ref w0, .ref rd, .ref mv, .ref xr, .int im, .int lf])), (xr, .inl (cI, 8, .inl fr2))])) (va_A [(x0, .inr (7, [.ref xs, .ref j0, .ref k0, .ref w0, .ref rd, .ref mv, .ref xr, .int im, .int lf])), (xr, .inl (cI, 8, .inl fr))] hpz)) 0 0 (va_A [(x0, .inr (7, [.ref xs, .ref j0, .ref k0, .ref w0, .ref rd, .ref mv, .ref xr, .int im, .int lf])), (xr, .inl (cI, 8, .inl fr))] hpz) := by
  refine Met.ofW (cc := cX7_refuse) (maxL := 2) (ret := (some .int)) (by decide) rfl ?_
  intro p e s m args below meth c s₁ B hml hv
  obtain ⟨rfl, hsz, hP, hK, hD0, hN, hZ⟩ := hv
  have hx := B.exec
  have hb := B.bytes
  have hr := B.returns
  have hts := atoms_spec (ws := wsX7_refuse) B.pre
  have hown : s.vm.findClass RX7 = some m.cls := findClass_of_methodNamed B.named
  have hlocks := B.notSynchronized
  subst hsz
  have hD := hD0.self (sz := s.heap.size)
  have hA := zA_of hD
  have hl := lv_entry ([.ref x0, .int 6]) (n := 2) (Nat.le_of_ble_eq_true rfl)
  rw [lg_entry_eq]
  generalize (lg_sl ([.ref x0, .int 6]) ++ List.replicate (2 - (lg_sl ([.ref x0, .int 6])).length) Slot.unset).toArray = ls at hl ⊢
  replace hl : lv_has ls 2 [(0, .ref x0), (1, .int 6)] := hl
  refine zw_begin hP hD (fun H locs hP1 hS => ?_)
  clear hP
  have hP := hP1
  clear hP1
  refine lv_iload_n hx hb dX7_refuse_0 rfl (lv_at hl 1 rfl) ?_
  refine lv_iconst (v := 1) hx hb dX7_refuse_1 (by decide) ?_
  refine lv_bipush (v := 7) hx hb dX7_refuse_2 (by decide) ?_
  have kc6 : (6 : Int32).toInt = 6 := by decide
  have kc1 : (1 : Int32).toInt = 1 := by decide
  have kc7 : (7 : Int32).toInt = 7 := by decide
  refine zc_S (As := [.int 6, .int 1, .int 7]) (rest := []) ⟨hx, hb, hml, hown, hts⟩ (c_within l D cI cJ cZ cP cS po (6) (1) (7) ) (va_cwS 3 hts gX7_refuse_X7_within rfl rfl rfl (by decide +kernel) ⟨Nat.le_of_ble_eq_true rfl, Nat.le_of_ble_eq_true rfl⟩) hK hN (hZ.kept hS) rfl hl.1 rfl (Nat.le_of_ble_eq_true rfl) dX7_refuse_4 ⟨Nat.le_of_ble_eq_true rfl, Nat.le_of_ble_eq_true rfl⟩ (fun r_1 hr_1 => ?_)
  rcases hr_1 with ⟨rfl, g_2⟩ | ⟨rfl, g_3, g_4⟩ | ⟨rfl, g_5, g_6⟩
  · exfalso; omega
  · exfalso; omega
  · refine lv_if_eq (tgt := 20) hx hb dX7_refuse_7 (by decide) (fun c_7 => ?_) (fun c_7 => ?_)
    · exact absurd c_7 (by decide)
    · refine lv_aload_n hx hb dX7_refuse_10 rfl (lv_at hl 0 rfl) ?_
      refine va_get (D := D) (ci := 7) (v := .ref xr) (C := RX7) (T := TX7) (N := 9) hx hb hts hi_X7_refuse_7 hown hK hP 0 rfl rfl 6 (by decide) (hts (.fieldLink RX7 46 "TheLiningsInIt" "refusals" "[I") (List.mem_of_getElem? (i := 1) rfl)) (fun _ h9 => h9) rfl dX7_refuse_11 ?_
      refine lv_iload_n hx hb dX7_refuse_14 rfl (lv_at hl 1 rfl) ?_
      refine lv_dup2_11 hx hb dX7_refuse_15 rfl rfl ?_
      refine va_iald hx hb hK hP 1 0 rfl rfl (zf_in (by decide) (by decide)) dX7_refuse_16 ?_
      refine lv_topi (fun x_8 ex_8 => ?_)
      refine lv_iconst (v := 1) hx hb dX7_refuse_17 (by decide) ?_
      refine lv_iadd hx hb dX7_refuse_18 ?_
      refine lv_topi (fun x_9 ex_9 => ?_)
      refine va_iast hx hb hK hP hD hS 1 0 rfl rfl (zf_in (by decide) (by decide)) dX7_refuse_19 (fun H locs hP hD hS => ?_)
      obtain ⟨g_10, hg_10⟩ : ∃ g : Nat → Int32, g = upd fr (6 : Int32).toNatClampNeg x_9 := ⟨_, rfl⟩
      rw [← hg_10] at hP hD
      clear hg_10
      have h9R := zRe (ws' := [(x0, .inr (7, [.ref xs, .ref j0, .ref k0, .ref w0, .ref rd, .ref mv, .ref xr, .int im, .int lf])), (xr, .inl (cI, 8, .inl g_10))]) hP hD rfl
      clear hP hD
      obtain ⟨hP, hD⟩ := h9R
      refine lv_iload_n hx hb dX7_refuse_20 rfl (lv_at hl 1 rfl) ?_
      refine lv_ineg hx hb dX7_refuse_21 ?_
      refine lv_topi (fun y_11 ey_11 => ?_)
      obtain rfl : y_11 = (-6) := ey_11.trans (by decide)
      exact W.iret (v := (-6)) hx hb hr (fun t ht hW => ⟨⟨(-6), g_10, rfl, rfl, zRet ht hP hD [0, 1] (by decide) rfl⟩, hS.F ht⟩) hS.2.2 dX7_refuse_22
set_option maxHeartbeats 4000000 in
set_option maxRecDepth 100000 in
theorem c_X_refuse_7 (l : Launch) (D : va_G) (cI cJ cZ cP cS : ClassId) (po : zPool) (x0 xs j0 k0 w0 rd mv xr : Nat) (im lf : Int32) (fr : Nat → Int32) (hy0 : 0 ≤ im.toInt) (hy1 : im.toInt ≤ 1) (hy2 : (-1) ≤ lf.toInt) (hy3 : lf.toInt ≤ 160) (hpz : Nat) : Met l yX7_refuse wsX7_refuse ({ frames := 1, cells := 0, slots := 0, locals := 22 }) (va_Pc [.ref x0, .int 7] (zW D (zKT cI cJ cZ cP cS) po [(x0, .inr (7, [.ref xs, .ref j0, .ref k0, .ref w0, .ref rd, .ref mv, .ref xr, .int im, .int lf])), (xr, .inl (cI, 8, .inl fr))] hpz)) (va_Qi (fun (r : Int32) (fr2 : (Nat → Int32)) => r = (-7)) (zB D [(x0, .inr (7, [.ref xs, .ref j0, .ref k0, .ref w0, .ref rd, .ref mv, .ref xr, .int im, .int lf])), (xr, .inl (cI, 8, .inl fr))] hpz (fun (fr2 : Nat → Int32) => [(x0, .inr (7, [.ref xs, .ref j0, .ref k0, .ref w0, .ref rd, .ref mv, .ref xr, .int im, .int lf])), (xr, .inl (cI, 8, .inl fr2))])) (va_A [(x0, .inr (7, [.ref xs, .ref j0, .ref k0, .ref w0, .ref rd, .ref mv, .ref xr, .int im, .int lf])), (xr, .inl (cI, 8, .inl fr))] hpz)) 0 0 (va_A [(x0, .inr (7, [.ref xs, .ref j0, .ref k0, .ref w0, .ref rd, .ref mv, .ref xr, .int im, .int lf])), (xr, .inl (cI, 8, .inl fr))] hpz) := by
  refine Met.ofW (cc := cX7_refuse) (maxL := 2) (ret := (some .int)) (by decide) rfl ?_
  intro p e s m args below meth c s₁ B hml hv
  obtain ⟨rfl, hsz, hP, hK, hD0, hN, hZ⟩ := hv
  have hx := B.exec
  have hb := B.bytes
  have hr := B.returns
  have hts := atoms_spec (ws := wsX7_refuse) B.pre
  have hown : s.vm.findClass RX7 = some m.cls := findClass_of_methodNamed B.named
  have hlocks := B.notSynchronized
  subst hsz
  have hD := hD0.self (sz := s.heap.size)
  have hA := zA_of hD
  have hl := lv_entry ([.ref x0, .int 7]) (n := 2) (Nat.le_of_ble_eq_true rfl)
  rw [lg_entry_eq]
  generalize (lg_sl ([.ref x0, .int 7]) ++ List.replicate (2 - (lg_sl ([.ref x0, .int 7])).length) Slot.unset).toArray = ls at hl ⊢
  replace hl : lv_has ls 2 [(0, .ref x0), (1, .int 7)] := hl
  refine zw_begin hP hD (fun H locs hP1 hS => ?_)
  clear hP
  have hP := hP1
  clear hP1
  refine lv_iload_n hx hb dX7_refuse_0 rfl (lv_at hl 1 rfl) ?_
  refine lv_iconst (v := 1) hx hb dX7_refuse_1 (by decide) ?_
  refine lv_bipush (v := 7) hx hb dX7_refuse_2 (by decide) ?_
  have kc7 : (7 : Int32).toInt = 7 := by decide
  have kc1 : (1 : Int32).toInt = 1 := by decide
  refine zc_S (As := [.int 7, .int 1, .int 7]) (rest := []) ⟨hx, hb, hml, hown, hts⟩ (c_within l D cI cJ cZ cP cS po (7) (1) (7) ) (va_cwS 3 hts gX7_refuse_X7_within rfl rfl rfl (by decide +kernel) ⟨Nat.le_of_ble_eq_true rfl, Nat.le_of_ble_eq_true rfl⟩) hK hN (hZ.kept hS) rfl hl.1 rfl (Nat.le_of_ble_eq_true rfl) dX7_refuse_4 ⟨Nat.le_of_ble_eq_true rfl, Nat.le_of_ble_eq_true rfl⟩ (fun r_1 hr_1 => ?_)
  rcases hr_1 with ⟨rfl, g_2⟩ | ⟨rfl, g_3, g_4⟩ | ⟨rfl, g_5, g_6⟩
  · exfalso; omega
  · exfalso; omega
  · refine lv_if_eq (tgt := 20) hx hb dX7_refuse_7 (by decide) (fun c_7 => ?_) (fun c_7 => ?_)
    · exact absurd c_7 (by decide)
    · refine lv_aload_n hx hb dX7_refuse_10 rfl (lv_at hl 0 rfl) ?_
      refine va_get (D := D) (ci := 7) (v := .ref xr) (C := RX7) (T := TX7) (N := 9) hx hb hts hi_X7_refuse_7 hown hK hP 0 rfl rfl 6 (by decide) (hts (.fieldLink RX7 46 "TheLiningsInIt" "refusals" "[I") (List.mem_of_getElem? (i := 1) rfl)) (fun _ h9 => h9) rfl dX7_refuse_11 ?_
      refine lv_iload_n hx hb dX7_refuse_14 rfl (lv_at hl 1 rfl) ?_
      refine lv_dup2_11 hx hb dX7_refuse_15 rfl rfl ?_
      refine va_iald hx hb hK hP 1 0 rfl rfl (zf_in (by decide) (by decide)) dX7_refuse_16 ?_
      refine lv_topi (fun x_8 ex_8 => ?_)
      refine lv_iconst (v := 1) hx hb dX7_refuse_17 (by decide) ?_
      refine lv_iadd hx hb dX7_refuse_18 ?_
      refine lv_topi (fun x_9 ex_9 => ?_)
      refine va_iast hx hb hK hP hD hS 1 0 rfl rfl (zf_in (by decide) (by decide)) dX7_refuse_19 (fun H locs hP hD hS => ?_)
      obtain ⟨g_10, hg_10⟩ : ∃ g : Nat → Int32, g = upd fr (7 : Int32).toNatClampNeg x_9 := ⟨_, rfl⟩
      rw [← hg_10] at hP hD
      clear hg_10
      have h9R := zRe (ws' := [(x0, .inr (7, [.ref xs, .ref j0, .ref k0, .ref w0, .ref rd, .ref mv, .ref xr, .int im, .int lf])), (xr, .inl (cI, 8, .inl g_10))]) hP hD rfl
      clear hP hD
      obtain ⟨hP, hD⟩ := h9R
      refine lv_iload_n hx hb dX7_refuse_20 rfl (lv_at hl 1 rfl) ?_
      refine lv_ineg hx hb dX7_refuse_21 ?_
      refine lv_topi (fun y_11 ey_11 => ?_)
      obtain rfl : y_11 = (-7) := ey_11.trans (by decide)
      exact W.iret (v := (-7)) hx hb hr (fun t ht hW => ⟨⟨(-7), g_10, rfl, rfl, zRet ht hP hD [0, 1] (by decide) rfl⟩, hS.F ht⟩) hS.2.2 dX7_refuse_22
set_option maxHeartbeats 4000000 in
set_option maxRecDepth 100000 in
theorem c_X_refuse (l : Launch) (D : va_G) (cI cJ cZ cP cS : ClassId) (po : zPool) (x0 xs j0 k0 w0 rd mv xr : Nat) (im lf : Int32) (fr : Nat → Int32) (n : Int32) (hy0 : 0 ≤ im.toInt) (hy1 : im.toInt ≤ 1) (hy2 : (-1) ≤ lf.toInt) (hy3 : lf.toInt ≤ 160) (hy4 : 1 ≤ n.toInt) (hy5 : n.toInt ≤ 7) (hpz : Nat) : Met l yX7_refuse wsX7_refuse ({ frames := 1, cells := 0, slots := 0, locals := 22 }) (va_Pc [.ref x0, .int n] (zW D (zKT cI cJ cZ cP cS) po [(x0, .inr (7, [.ref xs, .ref j0, .ref k0, .ref w0, .ref rd, .ref mv, .ref xr, .int im, .int lf])), (xr, .inl (cI, 8, .inl fr))] hpz)) (va_Qi (fun (r : Int32) (fr2 : (Nat → Int32)) => (r.toInt = -n.toInt) ∧ (-7 ≤ r.toInt ∧ r.toInt ≤ -1)) (zB D [(x0, .inr (7, [.ref xs, .ref j0, .ref k0, .ref w0, .ref rd, .ref mv, .ref xr, .int im, .int lf])), (xr, .inl (cI, 8, .inl fr))] hpz (fun (fr2 : Nat → Int32) => [(x0, .inr (7, [.ref xs, .ref j0, .ref k0, .ref w0, .ref rd, .ref mv, .ref xr, .int im, .int lf])), (xr, .inl (cI, 8, .inl fr2))])) (va_A [(x0, .inr (7, [.ref xs, .ref j0, .ref k0, .ref w0, .ref rd, .ref mv, .ref xr, .int im, .int lf])), (xr, .inl (cI, 8, .inl fr))] hpz)) 0 0 (va_A [(x0, .inr (7, [.ref xs, .ref j0, .ref k0, .ref w0, .ref rd, .ref mv, .ref xr, .int im, .int lf])), (xr, .inl (cI, 8, .inl fr))] hpz) := by
  refine Met.ofW (cc := cX7_refuse) (maxL := 2) (ret := (some .int)) (by decide) rfl ?_
  intro p e s m args below meth c s₁ B hml hv
  obtain ⟨rfl, hsz, hP, hK, hD0, hN, hZ⟩ := hv
  have hx := B.exec
  have hb := B.bytes
  have hr := B.returns
  have hts := atoms_spec (ws := wsX7_refuse) B.pre
  have hown : s.vm.findClass RX7 = some m.cls := findClass_of_methodNamed B.named
  have hlocks := B.notSynchronized
  subst hsz
  have hD := hD0.self (sz := s.heap.size)
  have hA := zA_of hD
  have hl := lv_entry ([.ref x0, .int n]) (n := 2) (Nat.le_of_ble_eq_true rfl)
  rw [lg_entry_eq]
  generalize (lg_sl ([.ref x0, .int n]) ++ List.replicate (2 - (lg_sl ([.ref x0, .int n])).length) Slot.unset).toArray = ls at hl ⊢
  replace hl : lv_has ls 2 [(0, .ref x0), (1, .int n)] := hl
  refine zw_begin hP hD (fun H locs hP1 hS => ?_)
  clear hP
  have hP := hP1
  clear hP1
  refine lv_iload_n hx hb dX7_refuse_0 rfl (lv_at hl 1 rfl) ?_
  refine lv_iconst (v := 1) hx hb dX7_refuse_1 (by decide) ?_
  refine lv_bipush (v := 7) hx hb dX7_refuse_2 (by decide) ?_
  have kc1 : (1 : Int32).toInt = 1 := by decide
  have kc7 : (7 : Int32).toInt = 7 := by decide
  refine zc_S (As := [.int n, .int 1, .int 7]) (rest := []) ⟨hx, hb, hml, hown, hts⟩ (c_within l D cI cJ cZ cP cS po (n) (1) (7) ) (va_cwS 3 hts gX7_refuse_X7_within rfl rfl rfl (by decide +kernel) ⟨Nat.le_of_ble_eq_true rfl, Nat.le_of_ble_eq_true rfl⟩) hK hN (hZ.kept hS) rfl hl.1 rfl (Nat.le_of_ble_eq_true rfl) dX7_refuse_4 ⟨Nat.le_of_ble_eq_true rfl, Nat.le_of_ble_eq_true rfl⟩ (fun r_1 hr_1 => ?_)
  rcases hr_1 with ⟨rfl, g_2⟩ | ⟨rfl, g_3, g_4⟩ | ⟨rfl, g_5, g_6⟩
  · exfalso; omega
  · exfalso; omega
  · refine lv_if_eq (tgt := 20) hx hb dX7_refuse_7 (by decide) (fun c_7 => ?_) (fun c_7 => ?_)
    · exact absurd c_7 (by decide)
    · refine lv_aload_n hx hb dX7_refuse_10 rfl (lv_at hl 0 rfl) ?_
      refine va_get (D := D) (ci := 7) (v := .ref xr) (C := RX7) (T := TX7) (N := 9) hx hb hts hi_X7_refuse_7 hown hK hP 0 rfl rfl 6 (by decide) (hts (.fieldLink RX7 46 "TheLiningsInIt" "refusals" "[I") (List.mem_of_getElem? (i := 1) rfl)) (fun _ h9 => h9) rfl dX7_refuse_11 ?_
      refine lv_iload_n hx hb dX7_refuse_14 rfl (lv_at hl 1 rfl) ?_
      refine lv_dup2_11 hx hb dX7_refuse_15 rfl rfl ?_
      refine va_iald hx hb hK hP 1 0 rfl rfl (zf_in (by omega) (by omega)) dX7_refuse_16 ?_
      refine lv_topi (fun x_8 ex_8 => ?_)
      refine lv_iconst (v := 1) hx hb dX7_refuse_17 (by decide) ?_
      refine lv_iadd hx hb dX7_refuse_18 ?_
      refine lv_topi (fun x_9 ex_9 => ?_)
      refine va_iast hx hb hK hP hD hS 1 0 rfl rfl (zf_in (by omega) (by omega)) dX7_refuse_19 (fun H locs hP hD hS => ?_)
      obtain ⟨g_10, hg_10⟩ : ∃ g : Nat → Int32, g = upd fr n.toNatClampNeg x_9 := ⟨_, rfl⟩
      rw [← hg_10] at hP hD
      clear hg_10
      have h9R := zRe (ws' := [(x0, .inr (7, [.ref xs, .ref j0, .ref k0, .ref w0, .ref rd, .ref mv, .ref xr, .int im, .int lf])), (xr, .inl (cI, 8, .inl g_10))]) hP hD rfl
      clear hP hD
      obtain ⟨hP, hD⟩ := h9R
      refine lv_iload_n hx hb dX7_refuse_20 rfl (lv_at hl 1 rfl) ?_
      refine lv_ineg hx hb dX7_refuse_21 ?_
      refine lv_topi (fun x_11 ex_11 => ?_)
      have qx_11 : x_11.toInt = -n.toInt := by rw [ex_11]; exact zf_neg rfl (by omega) (by omega)
      exact W.iret (v := x_11) hx hb hr (fun t ht hW => ⟨⟨x_11, g_10, rfl, ⟨(show (x_11 : Int32).toInt = -n.toInt from by omega), ⟨by omega, by omega⟩⟩, zRet ht hP hD [0, 1] (by decide) rfl⟩, hS.F ht⟩) hS.2.2 dX7_refuse_22
set_option maxHeartbeats 4000000 in
set_option maxRecDepth 100000 in
theorem c_X_refuseLower_1 (l : Launch) (D : va_G) (cI cJ cZ cP cS : ClassId) (po : zPool) (x0 xs j0 k0 w0 rd mv xr : Nat) (im lf : Int32) (fr : Nat → Int32) (hy0 : 0 ≤ im.toInt) (hy1 : im.toInt ≤ 1) (hy2 : (-1) ≤ lf.toInt) (hy3 : lf.toInt ≤ 160) (hpz : Nat) : Met l yX7_refuseLower wsX7_refuseLower ({ frames := 2, cells := 0, slots := 0, locals := 43 }) (va_Pc [.ref x0, .int 1] (zW D (zKT cI cJ cZ cP cS) po [(x0, .inr (7, [.ref xs, .ref j0, .ref k0, .ref w0, .ref rd, .ref mv, .ref xr, .int im, .int lf])), (xr, .inl (cI, 8, .inl fr))] hpz)) (va_Qi (fun (r : Int32) (fr2 : (Nat → Int32)) => r = (-11)) (zB D [(x0, .inr (7, [.ref xs, .ref j0, .ref k0, .ref w0, .ref rd, .ref mv, .ref xr, .int im, .int lf])), (xr, .inl (cI, 8, .inl fr))] hpz (fun (fr2 : Nat → Int32) => [(x0, .inr (7, [.ref xs, .ref j0, .ref k0, .ref w0, .ref rd, .ref mv, .ref xr, .int im, .int lf])), (xr, .inl (cI, 8, .inl fr2))])) (va_A [(x0, .inr (7, [.ref xs, .ref j0, .ref k0, .ref w0, .ref rd, .ref mv, .ref xr, .int im, .int lf])), (xr, .inl (cI, 8, .inl fr))] hpz)) 0 0 (va_A [(x0, .inr (7, [.ref xs, .ref j0, .ref k0, .ref w0, .ref rd, .ref mv, .ref xr, .int im, .int lf])), (xr, .inl (cI, 8, .inl fr))] hpz) := by
  refine Met.ofW (cc := cX7_refuseLower) (maxL := 2) (ret := (some .int)) (by decide) rfl ?_
  intro p e s m args below meth c s₁ B hml hv
  obtain ⟨rfl, hsz, hP, hK, hD0, hN, hZ⟩ := hv
  have hx := B.exec
  have hb := B.bytes
  have hr := B.returns
  have hts := atoms_spec (ws := wsX7_refuseLower) B.pre
  have hown : s.vm.findClass RX7 = some m.cls := findClass_of_methodNamed B.named
  have hlocks := B.notSynchronized
  subst hsz
  have hD := hD0.self (sz := s.heap.size)
  have hA := zA_of hD
  have hl := lv_entry ([.ref x0, .int 1]) (n := 2) (Nat.le_of_ble_eq_true rfl)
  rw [lg_entry_eq]
  generalize (lg_sl ([.ref x0, .int 1]) ++ List.replicate (2 - (lg_sl ([.ref x0, .int 1])).length) Slot.unset).toArray = ls at hl ⊢
  replace hl : lv_has ls 2 [(0, .ref x0), (1, .int 1)] := hl
  refine zw_begin hP hD (fun H locs hP1 hS => ?_)
  clear hP
  have hP := hP1
  clear hP1
  refine lv_aload_n hx hb dX7_refuseLower_0 rfl (lv_at hl 0 rfl) ?_
  refine lv_iload_n hx hb dX7_refuseLower_1 rfl (lv_at hl 1 rfl) ?_
  skip
  refine zw_V (As := [.int 1]) (rest := []) (wr := []) ⟨hx, hb, hml, hown, hts⟩ (c_X_refuse_1 l D cI cJ cZ cP cS po x0 xs j0 k0 w0 rd mv xr (im) (lf) fr hy0 hy1 hy2 hy3 H.size) (cwV 1 hts gX7_refuseLower_X7_refuse rfl rfl rfl (by decide +kernel) ⟨Nat.le_of_ble_eq_true rfl, Nat.le_of_ble_eq_true rfl⟩) hK hN (hZ.kept hS) hP hD hS hA [0, 1] [] rfl rfl (by decide) (by decide) (by decide) (va_recv hK hP (ci := 7) (q0 := 0) rfl rfl) rfl hl.1 rfl (Nat.le_of_ble_eq_true rfl) dX7_refuseLower_2 ⟨Nat.le_of_ble_eq_true rfl, Nat.le_of_ble_eq_true rfl⟩ (fun r_1 u_2 H locs hr_1 hP hD hS => ?_)
  obtain ⟨q_3, rfl⟩ : ∃ z, z = u_2 := ⟨_, rfl⟩
  have h9R := zRe (ws' := [(x0, .inr (7, [.ref xs, .ref j0, .ref k0, .ref w0, .ref rd, .ref mv, .ref xr, .int im, .int lf])), (xr, .inl (cI, 8, .inl q_3))]) hP hD rfl
  clear hP hD
  obtain ⟨hP, hD⟩ := h9R
  obtain rfl := hr_1
  refine lv_bipush (v := 10) hx hb dX7_refuseLower_5 (by decide) ?_
  refine lv_isub hx hb dX7_refuseLower_7 ?_
  refine lv_topi (fun y_4 ey_4 => ?_)
  obtain rfl : y_4 = (-11) := ey_4.trans (by decide)
  exact W.iret (v := (-11)) hx hb hr (fun t ht hW => ⟨⟨(-11), q_3, rfl, rfl, zRet ht hP hD [0, 1] (by decide) rfl⟩, hS.F ht⟩) hS.2.2 dX7_refuseLower_8
set_option maxHeartbeats 4000000 in
set_option maxRecDepth 100000 in
theorem c_X_refuseLower_2 (l : Launch) (D : va_G) (cI cJ cZ cP cS : ClassId) (po : zPool) (x0 xs j0 k0 w0 rd mv xr : Nat) (im lf : Int32) (fr : Nat → Int32) (hy0 : 0 ≤ im.toInt) (hy1 : im.toInt ≤ 1) (hy2 : (-1) ≤ lf.toInt) (hy3 : lf.toInt ≤ 160) (hpz : Nat) : Met l yX7_refuseLower wsX7_refuseLower ({ frames := 2, cells := 0, slots := 0, locals := 43 }) (va_Pc [.ref x0, .int 2] (zW D (zKT cI cJ cZ cP cS) po [(x0, .inr (7, [.ref xs, .ref j0, .ref k0, .ref w0, .ref rd, .ref mv, .ref xr, .int im, .int lf])), (xr, .inl (cI, 8, .inl fr))] hpz)) (va_Qi (fun (r : Int32) (fr2 : (Nat → Int32)) => r = (-12)) (zB D [(x0, .inr (7, [.ref xs, .ref j0, .ref k0, .ref w0, .ref rd, .ref mv, .ref xr, .int im, .int lf])), (xr, .inl (cI, 8, .inl fr))] hpz (fun (fr2 : Nat → Int32) => [(x0, .inr (7, [.ref xs, .ref j0, .ref k0, .ref w0, .ref rd, .ref mv, .ref xr, .int im, .int lf])), (xr, .inl (cI, 8, .inl fr2))])) (va_A [(x0, .inr (7, [.ref xs, .ref j0, .ref k0, .ref w0, .ref rd, .ref mv, .ref xr, .int im, .int lf])), (xr, .inl (cI, 8, .inl fr))] hpz)) 0 0 (va_A [(x0, .inr (7, [.ref xs, .ref j0, .ref k0, .ref w0, .ref rd, .ref mv, .ref xr, .int im, .int lf])), (xr, .inl (cI, 8, .inl fr))] hpz) := by
  refine Met.ofW (cc := cX7_refuseLower) (maxL := 2) (ret := (some .int)) (by decide) rfl ?_
  intro p e s m args below meth c s₁ B hml hv
  obtain ⟨rfl, hsz, hP, hK, hD0, hN, hZ⟩ := hv
  have hx := B.exec
  have hb := B.bytes
  have hr := B.returns
  have hts := atoms_spec (ws := wsX7_refuseLower) B.pre
  have hown : s.vm.findClass RX7 = some m.cls := findClass_of_methodNamed B.named
  have hlocks := B.notSynchronized
  subst hsz
  have hD := hD0.self (sz := s.heap.size)
  have hA := zA_of hD
  have hl := lv_entry ([.ref x0, .int 2]) (n := 2) (Nat.le_of_ble_eq_true rfl)
  rw [lg_entry_eq]
  generalize (lg_sl ([.ref x0, .int 2]) ++ List.replicate (2 - (lg_sl ([.ref x0, .int 2])).length) Slot.unset).toArray = ls at hl ⊢
  replace hl : lv_has ls 2 [(0, .ref x0), (1, .int 2)] := hl
  refine zw_begin hP hD (fun H locs hP1 hS => ?_)
  clear hP
  have hP := hP1
  clear hP1
  refine lv_aload_n hx hb dX7_refuseLower_0 rfl (lv_at hl 0 rfl) ?_
  refine lv_iload_n hx hb dX7_refuseLower_1 rfl (lv_at hl 1 rfl) ?_
  skip
  refine zw_V (As := [.int 2]) (rest := []) (wr := []) ⟨hx, hb, hml, hown, hts⟩ (c_X_refuse_2 l D cI cJ cZ cP cS po x0 xs j0 k0 w0 rd mv xr (im) (lf) fr hy0 hy1 hy2 hy3 H.size) (cwV 1 hts gX7_refuseLower_X7_refuse rfl rfl rfl (by decide +kernel) ⟨Nat.le_of_ble_eq_true rfl, Nat.le_of_ble_eq_true rfl⟩) hK hN (hZ.kept hS) hP hD hS hA [0, 1] [] rfl rfl (by decide) (by decide) (by decide) (va_recv hK hP (ci := 7) (q0 := 0) rfl rfl) rfl hl.1 rfl (Nat.le_of_ble_eq_true rfl) dX7_refuseLower_2 ⟨Nat.le_of_ble_eq_true rfl, Nat.le_of_ble_eq_true rfl⟩ (fun r_1 u_2 H locs hr_1 hP hD hS => ?_)
  obtain ⟨q_3, rfl⟩ : ∃ z, z = u_2 := ⟨_, rfl⟩
  have h9R := zRe (ws' := [(x0, .inr (7, [.ref xs, .ref j0, .ref k0, .ref w0, .ref rd, .ref mv, .ref xr, .int im, .int lf])), (xr, .inl (cI, 8, .inl q_3))]) hP hD rfl
  clear hP hD
  obtain ⟨hP, hD⟩ := h9R
  obtain rfl := hr_1
  refine lv_bipush (v := 10) hx hb dX7_refuseLower_5 (by decide) ?_
  refine lv_isub hx hb dX7_refuseLower_7 ?_
  refine lv_topi (fun y_4 ey_4 => ?_)
  obtain rfl : y_4 = (-12) := ey_4.trans (by decide)
  exact W.iret (v := (-12)) hx hb hr (fun t ht hW => ⟨⟨(-12), q_3, rfl, rfl, zRet ht hP hD [0, 1] (by decide) rfl⟩, hS.F ht⟩) hS.2.2 dX7_refuseLower_8
set_option maxHeartbeats 4000000 in
set_option maxRecDepth 100000 in
theorem c_X_refuseLower_3 (l : Launch) (D : va_G) (cI cJ cZ cP cS : ClassId) (po : zPool) (x0 xs j0 k0 w0 rd mv xr : Nat) (im lf : Int32) (fr : Nat → Int32) (hy0 : 0 ≤ im.toInt) (hy1 : im.toInt ≤ 1) (hy2 : (-1) ≤ lf.toInt) (hy3 : lf.toInt ≤ 160) (hpz : Nat) : Met l yX7_refuseLower wsX7_refuseLower ({ frames := 2, cells := 0, slots := 0, locals := 43 }) (va_Pc [.ref x0, .int 3] (zW D (zKT cI cJ cZ cP cS) po [(x0, .inr (7, [.ref xs, .ref j0, .ref k0, .ref w0, .ref rd, .ref mv, .ref xr, .int im, .int lf])), (xr, .inl (cI, 8, .inl fr))] hpz)) (va_Qi (fun (r : Int32) (fr2 : (Nat → Int32)) => r = (-13)) (zB D [(x0, .inr (7, [.ref xs, .ref j0, .ref k0, .ref w0, .ref rd, .ref mv, .ref xr, .int im, .int lf])), (xr, .inl (cI, 8, .inl fr))] hpz (fun (fr2 : Nat → Int32) => [(x0, .inr (7, [.ref xs, .ref j0, .ref k0, .ref w0, .ref rd, .ref mv, .ref xr, .int im, .int lf])), (xr, .inl (cI, 8, .inl fr2))])) (va_A [(x0, .inr (7, [.ref xs, .ref j0, .ref k0, .ref w0, .ref rd, .ref mv, .ref xr, .int im, .int lf])), (xr, .inl (cI, 8, .inl fr))] hpz)) 0 0 (va_A [(x0, .inr (7, [.ref xs, .ref j0, .ref k0, .ref w0, .ref rd, .ref mv, .ref xr, .int im, .int lf])), (xr, .inl (cI, 8, .inl fr))] hpz) := by
  refine Met.ofW (cc := cX7_refuseLower) (maxL := 2) (ret := (some .int)) (by decide) rfl ?_
  intro p e s m args below meth c s₁ B hml hv
  obtain ⟨rfl, hsz, hP, hK, hD0, hN, hZ⟩ := hv
  have hx := B.exec
  have hb := B.bytes
  have hr := B.returns
  have hts := atoms_spec (ws := wsX7_refuseLower) B.pre
  have hown : s.vm.findClass RX7 = some m.cls := findClass_of_methodNamed B.named
  have hlocks := B.notSynchronized
  subst hsz
  have hD := hD0.self (sz := s.heap.size)
  have hA := zA_of hD
  have hl := lv_entry ([.ref x0, .int 3]) (n := 2) (Nat.le_of_ble_eq_true rfl)
  rw [lg_entry_eq]
  generalize (lg_sl ([.ref x0, .int 3]) ++ List.replicate (2 - (lg_sl ([.ref x0, .int 3])).length) Slot.unset).toArray = ls at hl ⊢
  replace hl : lv_has ls 2 [(0, .ref x0), (1, .int 3)] := hl
  refine zw_begin hP hD (fun H locs hP1 hS => ?_)
  clear hP
  have hP := hP1
  clear hP1
  refine lv_aload_n hx hb dX7_refuseLower_0 rfl (lv_at hl 0 rfl) ?_
  refine lv_iload_n hx hb dX7_refuseLower_1 rfl (lv_at hl 1 rfl) ?_
  skip
  refine zw_V (As := [.int 3]) (rest := []) (wr := []) ⟨hx, hb, hml, hown, hts⟩ (c_X_refuse_3 l D cI cJ cZ cP cS po x0 xs j0 k0 w0 rd mv xr (im) (lf) fr hy0 hy1 hy2 hy3 H.size) (cwV 1 hts gX7_refuseLower_X7_refuse rfl rfl rfl (by decide +kernel) ⟨Nat.le_of_ble_eq_true rfl, Nat.le_of_ble_eq_true rfl⟩) hK hN (hZ.kept hS) hP hD hS hA [0, 1] [] rfl rfl (by decide) (by decide) (by decide) (va_recv hK hP (ci := 7) (q0 := 0) rfl rfl) rfl hl.1 rfl (Nat.le_of_ble_eq_true rfl) dX7_refuseLower_2 ⟨Nat.le_of_ble_eq_true rfl, Nat.le_of_ble_eq_true rfl⟩ (fun r_1 u_2 H locs hr_1 hP hD hS => ?_)
  obtain ⟨q_3, rfl⟩ : ∃ z, z = u_2 := ⟨_, rfl⟩
  have h9R := zRe (ws' := [(x0, .inr (7, [.ref xs, .ref j0, .ref k0, .ref w0, .ref rd, .ref mv, .ref xr, .int im, .int lf])), (xr, .inl (cI, 8, .inl q_3))]) hP hD rfl
  clear hP hD
  obtain ⟨hP, hD⟩ := h9R
  obtain rfl := hr_1
  refine lv_bipush (v := 10) hx hb dX7_refuseLower_5 (by decide) ?_
  refine lv_isub hx hb dX7_refuseLower_7 ?_
  refine lv_topi (fun y_4 ey_4 => ?_)
  obtain rfl : y_4 = (-13) := ey_4.trans (by decide)
  exact W.iret (v := (-13)) hx hb hr (fun t ht hW => ⟨⟨(-13), q_3, rfl, rfl, zRet ht hP hD [0, 1] (by decide) rfl⟩, hS.F ht⟩) hS.2.2 dX7_refuseLower_8
set_option maxHeartbeats 4000000 in
set_option maxRecDepth 100000 in
theorem c_X_refuseLower_4 (l : Launch) (D : va_G) (cI cJ cZ cP cS : ClassId) (po : zPool) (x0 xs j0 k0 w0 rd mv xr : Nat) (im lf : Int32) (fr : Nat → Int32) (hy0 : 0 ≤ im.toInt) (hy1 : im.toInt ≤ 1) (hy2 : (-1) ≤ lf.toInt) (hy3 : lf.toInt ≤ 160) (hpz : Nat) : Met l yX7_refuseLower wsX7_refuseLower ({ frames := 2, cells := 0, slots := 0, locals := 43 }) (va_Pc [.ref x0, .int 4] (zW D (zKT cI cJ cZ cP cS) po [(x0, .inr (7, [.ref xs, .ref j0, .ref k0, .ref w0, .ref rd, .ref mv, .ref xr, .int im, .int lf])), (xr, .inl (cI, 8, .inl fr))] hpz)) (va_Qi (fun (r : Int32) (fr2 : (Nat → Int32)) => r = (-14)) (zB D [(x0, .inr (7, [.ref xs, .ref j0, .ref k0, .ref w0, .ref rd, .ref mv, .ref xr, .int im, .int lf])), (xr, .inl (cI, 8, .inl fr))] hpz (fun (fr2 : Nat → Int32) => [(x0, .inr (7, [.ref xs, .ref j0, .ref k0, .ref w0, .ref rd, .ref mv, .ref xr, .int im, .int lf])), (xr, .inl (cI, 8, .inl fr2))])) (va_A [(x0, .inr (7, [.ref xs, .ref j0, .ref k0, .ref w0, .ref rd, .ref mv, .ref xr, .int im, .int lf])), (xr, .inl (cI, 8, .inl fr))] hpz)) 0 0 (va_A [(x0, .inr (7, [.ref xs, .ref j0, .ref k0, .ref w0, .ref rd, .ref mv, .ref xr, .int im, .int lf])), (xr, .inl (cI, 8, .inl fr))] hpz) := by
  refine Met.ofW (cc := cX7_refuseLower) (maxL := 2) (ret := (some .int)) (by decide) rfl ?_
  intro p e s m args below meth c s₁ B hml hv
  obtain ⟨rfl, hsz, hP, hK, hD0, hN, hZ⟩ := hv
  have hx := B.exec
  have hb := B.bytes
  have hr := B.returns
  have hts := atoms_spec (ws := wsX7_refuseLower) B.pre
  have hown : s.vm.findClass RX7 = some m.cls := findClass_of_methodNamed B.named
  have hlocks := B.notSynchronized
  subst hsz
  have hD := hD0.self (sz := s.heap.size)
  have hA := zA_of hD
  have hl := lv_entry ([.ref x0, .int 4]) (n := 2) (Nat.le_of_ble_eq_true rfl)
  rw [lg_entry_eq]
  generalize (lg_sl ([.ref x0, .int 4]) ++ List.replicate (2 - (lg_sl ([.ref x0, .int 4])).length) Slot.unset).toArray = ls at hl ⊢
  replace hl : lv_has ls 2 [(0, .ref x0), (1, .int 4)] := hl
  refine zw_begin hP hD (fun H locs hP1 hS => ?_)
  clear hP
  have hP := hP1
  clear hP1
  refine lv_aload_n hx hb dX7_refuseLower_0 rfl (lv_at hl 0 rfl) ?_
  refine lv_iload_n hx hb dX7_refuseLower_1 rfl (lv_at hl 1 rfl) ?_
  skip
  refine zw_V (As := [.int 4]) (rest := []) (wr := []) ⟨hx, hb, hml, hown, hts⟩ (c_X_refuse_4 l D cI cJ cZ cP cS po x0 xs j0 k0 w0 rd mv xr (im) (lf) fr hy0 hy1 hy2 hy3 H.size) (cwV 1 hts gX7_refuseLower_X7_refuse rfl rfl rfl (by decide +kernel) ⟨Nat.le_of_ble_eq_true rfl, Nat.le_of_ble_eq_true rfl⟩) hK hN (hZ.kept hS) hP hD hS hA [0, 1] [] rfl rfl (by decide) (by decide) (by decide) (va_recv hK hP (ci := 7) (q0 := 0) rfl rfl) rfl hl.1 rfl (Nat.le_of_ble_eq_true rfl) dX7_refuseLower_2 ⟨Nat.le_of_ble_eq_true rfl, Nat.le_of_ble_eq_true rfl⟩ (fun r_1 u_2 H locs hr_1 hP hD hS => ?_)
  obtain ⟨q_3, rfl⟩ : ∃ z, z = u_2 := ⟨_, rfl⟩
  have h9R := zRe (ws' := [(x0, .inr (7, [.ref xs, .ref j0, .ref k0, .ref w0, .ref rd, .ref mv, .ref xr, .int im, .int lf])), (xr, .inl (cI, 8, .inl q_3))]) hP hD rfl
  clear hP hD
  obtain ⟨hP, hD⟩ := h9R
  obtain rfl := hr_1
  refine lv_bipush (v := 10) hx hb dX7_refuseLower_5 (by decide) ?_
  refine lv_isub hx hb dX7_refuseLower_7 ?_
  refine lv_topi (fun y_4 ey_4 => ?_)
  obtain rfl : y_4 = (-14) := ey_4.trans (by decide)
  exact W.iret (v := (-14)) hx hb hr (fun t ht hW => ⟨⟨(-14), q_3, rfl, rfl, zRet ht hP hD [0, 1] (by decide) rfl⟩, hS.F ht⟩) hS.2.2 dX7_refuseLower_8
set_option maxHeartbeats 4000000 in
set_option maxRecDepth 100000 in
theorem c_X_refuseLower_5 (l : Launch) (D : va_G) (cI cJ cZ cP cS : ClassId) (po : zPool) (x0 xs j0 k0 w0 rd mv xr : Nat) (im lf : Int32) (fr : Nat → Int32) (hy0 : 0 ≤ im.toInt) (hy1 : im.toInt ≤ 1) (hy2 : (-1) ≤ lf.toInt) (hy3 : lf.toInt ≤ 160) (hpz : Nat) : Met l yX7_refuseLower wsX7_refuseLower ({ frames := 2, cells := 0, slots := 0, locals := 43 }) (va_Pc [.ref x0, .int 5] (zW D (zKT cI cJ cZ cP cS) po [(x0, .inr (7, [.ref xs, .ref j0, .ref k0, .ref w0, .ref rd, .ref mv, .ref xr, .int im, .int lf])), (xr, .inl (cI, 8, .inl fr))] hpz)) (va_Qi (fun (r : Int32) (fr2 : (Nat → Int32)) => r = (-15)) (zB D [(x0, .inr (7, [.ref xs, .ref j0, .ref k0, .ref w0, .ref rd, .ref mv, .ref xr, .int im, .int lf])), (xr, .inl (cI, 8, .inl fr))] hpz (fun (fr2 : Nat → Int32) => [(x0, .inr (7, [.ref xs, .ref j0, .ref k0, .ref w0, .ref rd, .ref mv, .ref xr, .int im, .int lf])), (xr, .inl (cI, 8, .inl fr2))])) (va_A [(x0, .inr (7, [.ref xs, .ref j0, .ref k0, .ref w0, .ref rd, .ref mv, .ref xr, .int im, .int lf])), (xr, .inl (cI, 8, .inl fr))] hpz)) 0 0 (va_A [(x0, .inr (7, [.ref xs, .ref j0, .ref k0, .ref w0, .ref rd, .ref mv, .ref xr, .int im, .int lf])), (xr, .inl (cI, 8, .inl fr))] hpz) := by
  refine Met.ofW (cc := cX7_refuseLower) (maxL := 2) (ret := (some .int)) (by decide) rfl ?_
  intro p e s m args below meth c s₁ B hml hv
  obtain ⟨rfl, hsz, hP, hK, hD0, hN, hZ⟩ := hv
  have hx := B.exec
  have hb := B.bytes
  have hr := B.returns
  have hts := atoms_spec (ws := wsX7_refuseLower) B.pre
  have hown : s.vm.findClass RX7 = some m.cls := findClass_of_methodNamed B.named
  have hlocks := B.notSynchronized
  subst hsz
  have hD := hD0.self (sz := s.heap.size)
  have hA := zA_of hD
  have hl := lv_entry ([.ref x0, .int 5]) (n := 2) (Nat.le_of_ble_eq_true rfl)
  rw [lg_entry_eq]
  generalize (lg_sl ([.ref x0, .int 5]) ++ List.replicate (2 - (lg_sl ([.ref x0, .int 5])).length) Slot.unset).toArray = ls at hl ⊢
  replace hl : lv_has ls 2 [(0, .ref x0), (1, .int 5)] := hl
  refine zw_begin hP hD (fun H locs hP1 hS => ?_)
  clear hP
  have hP := hP1
  clear hP1
  refine lv_aload_n hx hb dX7_refuseLower_0 rfl (lv_at hl 0 rfl) ?_
  refine lv_iload_n hx hb dX7_refuseLower_1 rfl (lv_at hl 1 rfl) ?_
  skip
  refine zw_V (As := [.int 5]) (rest := []) (wr := []) ⟨hx, hb, hml, hown, hts⟩ (c_X_refuse_5 l D cI cJ cZ cP cS po x0 xs j0 k0 w0 rd mv xr (im) (lf) fr hy0 hy1 hy2 hy3 H.size) (cwV 1 hts gX7_refuseLower_X7_refuse rfl rfl rfl (by decide +kernel) ⟨Nat.le_of_ble_eq_true rfl, Nat.le_of_ble_eq_true rfl⟩) hK hN (hZ.kept hS) hP hD hS hA [0, 1] [] rfl rfl (by decide) (by decide) (by decide) (va_recv hK hP (ci := 7) (q0 := 0) rfl rfl) rfl hl.1 rfl (Nat.le_of_ble_eq_true rfl) dX7_refuseLower_2 ⟨Nat.le_of_ble_eq_true rfl, Nat.le_of_ble_eq_true rfl⟩ (fun r_1 u_2 H locs hr_1 hP hD hS => ?_)
  obtain ⟨q_3, rfl⟩ : ∃ z, z = u_2 := ⟨_, rfl⟩
  have h9R := zRe (ws' := [(x0, .inr (7, [.ref xs, .ref j0, .ref k0, .ref w0, .ref rd, .ref mv, .ref xr, .int im, .int lf])), (xr, .inl (cI, 8, .inl q_3))]) hP hD rfl
  clear hP hD
  obtain ⟨hP, hD⟩ := h9R
  obtain rfl := hr_1
  refine lv_bipush (v := 10) hx hb dX7_refuseLower_5 (by decide) ?_
  refine lv_isub hx hb dX7_refuseLower_7 ?_
  refine lv_topi (fun y_4 ey_4 => ?_)
  obtain rfl : y_4 = (-15) := ey_4.trans (by decide)
  exact W.iret (v := (-15)) hx hb hr (fun t ht hW => ⟨⟨(-15), q_3, rfl, rfl, zRet ht hP hD [0, 1] (by decide) rfl⟩, hS.F ht⟩) hS.2.2 dX7_refuseLower_8
set_option maxHeartbeats 4000000 in
set_option maxRecDepth 100000 in
theorem c_X_refuseLower_6 (l : Launch) (D : va_G) (cI cJ cZ cP cS : ClassId) (po : zPool) (x0 xs j0 k0 w0 rd mv xr : Nat) (im lf : Int32) (fr : Nat → Int32) (hy0 : 0 ≤ im.toInt) (hy1 : im.toInt ≤ 1) (hy2 : (-1) ≤ lf.toInt) (hy3 : lf.toInt ≤ 160) (hpz : Nat) : Met l yX7_refuseLower wsX7_refuseLower ({ frames := 2, cells := 0, slots := 0, locals := 43 }) (va_Pc [.ref x0, .int 6] (zW D (zKT cI cJ cZ cP cS) po [(x0, .inr (7, [.ref xs, .ref j0, .ref k0, .ref w0, .ref rd, .ref mv, .ref xr, .int im, .int lf])), (xr, .inl (cI, 8, .inl fr))] hpz)) (va_Qi (fun (r : Int32) (fr2 : (Nat → Int32)) => r = (-16)) (zB D [(x0, .inr (7, [.ref xs, .ref j0, .ref k0, .ref w0, .ref rd, .ref mv, .ref xr, .int im, .int lf])), (xr, .inl (cI, 8, .inl fr))] hpz (fun (fr2 : Nat → Int32) => [(x0, .inr (7, [.ref xs, .ref j0, .ref k0, .ref w0, .ref rd, .ref mv, .ref xr, .int im, .int lf])), (xr, .inl (cI, 8, .inl fr2))])) (va_A [(x0, .inr (7, [.ref xs, .ref j0, .ref k0, .ref w0, .ref rd, .ref mv, .ref xr, .int im, .int lf])), (xr, .inl (cI, 8, .inl fr))] hpz)) 0 0 (va_A [(x0, .inr (7, [.ref xs, .ref j0, .ref k0, .ref w0, .ref rd, .ref mv, .ref xr, .int im, .int lf])), (xr, .inl (cI, 8, .inl fr))] hpz) := by
  refine Met.ofW (cc := cX7_refuseLower) (maxL := 2) (ret := (some .int)) (by decide) rfl ?_
  intro p e s m args below meth c s₁ B hml hv
  obtain ⟨rfl, hsz, hP, hK, hD0, hN, hZ⟩ := hv
  have hx := B.exec
  have hb := B.bytes
  have hr := B.returns
  have hts := atoms_spec (ws := wsX7_refuseLower) B.pre
  have hown : s.vm.findClass RX7 = some m.cls := findClass_of_methodNamed B.named
  have hlocks := B.notSynchronized
  subst hsz
  have hD := hD0.self (sz := s.heap.size)
  have hA := zA_of hD
  have hl := lv_entry ([.ref x0, .int 6]) (n := 2) (Nat.le_of_ble_eq_true rfl)
  rw [lg_entry_eq]
  generalize (lg_sl ([.ref x0, .int 6]) ++ List.replicate (2 - (lg_sl ([.ref x0, .int 6])).length) Slot.unset).toArray = ls at hl ⊢
  replace hl : lv_has ls 2 [(0, .ref x0), (1, .int 6)] := hl
  refine zw_begin hP hD (fun H locs hP1 hS => ?_)
  clear hP
  have hP := hP1
  clear hP1
  refine lv_aload_n hx hb dX7_refuseLower_0 rfl (lv_at hl 0 rfl) ?_
  refine lv_iload_n hx hb dX7_refuseLower_1 rfl (lv_at hl 1 rfl) ?_
  skip
  refine zw_V (As := [.int 6]) (rest := []) (wr := []) ⟨hx, hb, hml, hown, hts⟩ (c_X_refuse_6 l D cI cJ cZ cP cS po x0 xs j0 k0 w0 rd mv xr (im) (lf) fr hy0 hy1 hy2 hy3 H.size) (cwV 1 hts gX7_refuseLower_X7_refuse rfl rfl rfl (by decide +kernel) ⟨Nat.le_of_ble_eq_true rfl, Nat.le_of_ble_eq_true rfl⟩) hK hN (hZ.kept hS) hP hD hS hA [0, 1] [] rfl rfl (by decide) (by decide) (by decide) (va_recv hK hP (ci := 7) (q0 := 0) rfl rfl) rfl hl.1 rfl (Nat.le_of_ble_eq_true rfl) dX7_refuseLower_2 ⟨Nat.le_of_ble_eq_true rfl, Nat.le_of_ble_eq_true rfl⟩ (fun r_1 u_2 H locs hr_1 hP hD hS => ?_)
  obtain ⟨q_3, rfl⟩ : ∃ z, z = u_2 := ⟨_, rfl⟩
  have h9R := zRe (ws' := [(x0, .inr (7, [.ref xs, .ref j0, .ref k0, .ref w0, .ref rd, .ref mv, .ref xr, .int im, .int lf])), (xr, .inl (cI, 8, .inl q_3))]) hP hD rfl
  clear hP hD
  obtain ⟨hP, hD⟩ := h9R
  obtain rfl := hr_1
  refine lv_bipush (v := 10) hx hb dX7_refuseLower_5 (by decide) ?_
  refine lv_isub hx hb dX7_refuseLower_7 ?_
  refine lv_topi (fun y_4 ey_4 => ?_)
  obtain rfl : y_4 = (-16) := ey_4.trans (by decide)
  exact W.iret (v := (-16)) hx hb hr (fun t ht hW => ⟨⟨(-16), q_3, rfl, rfl, zRet ht hP hD [0, 1] (by decide) rfl⟩, hS.F ht⟩) hS.2.2 dX7_refuseLower_8
set_option maxHeartbeats 4000000 in
set_option maxRecDepth 100000 in
theorem c_X_refuseLower (l : Launch) (D : va_G) (cI cJ cZ cP cS : ClassId) (po : zPool) (x0 xs j0 k0 w0 rd mv xr : Nat) (im lf : Int32) (fr : Nat → Int32) (n : Int32) (hy0 : 0 ≤ im.toInt) (hy1 : im.toInt ≤ 1) (hy2 : (-1) ≤ lf.toInt) (hy3 : lf.toInt ≤ 160) (hy4 : 1 ≤ n.toInt) (hy5 : n.toInt ≤ 7) (hpz : Nat) : Met l yX7_refuseLower wsX7_refuseLower ({ frames := 2, cells := 0, slots := 0, locals := 43 }) (va_Pc [.ref x0, .int n] (zW D (zKT cI cJ cZ cP cS) po [(x0, .inr (7, [.ref xs, .ref j0, .ref k0, .ref w0, .ref rd, .ref mv, .ref xr, .int im, .int lf])), (xr, .inl (cI, 8, .inl fr))] hpz)) (va_Qi (fun (r : Int32) (fr2 : (Nat → Int32)) => (r.toInt = -n.toInt - 10) ∧ (-17 ≤ r.toInt ∧ r.toInt ≤ -11)) (zB D [(x0, .inr (7, [.ref xs, .ref j0, .ref k0, .ref w0, .ref rd, .ref mv, .ref xr, .int im, .int lf])), (xr, .inl (cI, 8, .inl fr))] hpz (fun (fr2 : Nat → Int32) => [(x0, .inr (7, [.ref xs, .ref j0, .ref k0, .ref w0, .ref rd, .ref mv, .ref xr, .int im, .int lf])), (xr, .inl (cI, 8, .inl fr2))])) (va_A [(x0, .inr (7, [.ref xs, .ref j0, .ref k0, .ref w0, .ref rd, .ref mv, .ref xr, .int im, .int lf])), (xr, .inl (cI, 8, .inl fr))] hpz)) 0 0 (va_A [(x0, .inr (7, [.ref xs, .ref j0, .ref k0, .ref w0, .ref rd, .ref mv, .ref xr, .int im, .int lf])), (xr, .inl (cI, 8, .inl fr))] hpz) := by
  refine Met.ofW (cc := cX7_refuseLower) (maxL := 2) (ret := (some .int)) (by decide) rfl ?_
  intro p e s m args below meth c s₁ B hml hv
  obtain ⟨rfl, hsz, hP, hK, hD0, hN, hZ⟩ := hv
  have hx := B.exec
  have hb := B.bytes
  have hr := B.returns
  have hts := atoms_spec (ws := wsX7_refuseLower) B.pre
  have hown : s.vm.findClass RX7 = some m.cls := findClass_of_methodNamed B.named
  have hlocks := B.notSynchronized
  subst hsz
  have hD := hD0.self (sz := s.heap.size)
  have hA := zA_of hD
  have hl := lv_entry ([.ref x0, .int n]) (n := 2) (Nat.le_of_ble_eq_true rfl)
  rw [lg_entry_eq]
  generalize (lg_sl ([.ref x0, .int n]) ++ List.replicate (2 - (lg_sl ([.ref x0, .int n])).length) Slot.unset).toArray = ls at hl ⊢
  replace hl : lv_has ls 2 [(0, .ref x0), (1, .int n)] := hl
  refine zw_begin hP hD (fun H locs hP1 hS => ?_)
  clear hP
  have hP := hP1
  clear hP1
  refine lv_aload_n hx hb dX7_refuseLower_0 rfl (lv_at hl 0 rfl) ?_
  refine lv_iload_n hx hb dX7_refuseLower_1 rfl (lv_at hl 1 rfl) ?_
  skip
  refine zw_V (As := [.int n]) (rest := []) (wr := []) ⟨hx, hb, hml, hown, hts⟩ (c_X_refuse l D cI cJ cZ cP cS po x0 xs j0 k0 w0 rd mv xr (im) (lf) fr (n) hy0 hy1 hy2 hy3 hy4 hy5 H.size) (cwV 1 hts gX7_refuseLower_X7_refuse rfl rfl rfl (by decide +kernel) ⟨Nat.le_of_ble_eq_true rfl, Nat.le_of_ble_eq_true rfl⟩) hK hN (hZ.kept hS) hP hD hS hA [0, 1] [] rfl rfl (by decide) (by decide) (by decide) (va_recv hK hP (ci := 7) (q0 := 0) rfl rfl) rfl hl.1 rfl (Nat.le_of_ble_eq_true rfl) dX7_refuseLower_2 ⟨Nat.le_of_ble_eq_true rfl, Nat.le_of_ble_eq_true rfl⟩ (fun r_1 u_2 H locs hr_1 hP hD hS => ?_)
  obtain ⟨q_3, rfl⟩ : ∃ z, z = u_2 := ⟨_, rfl⟩
  obtain ⟨hsr_1_0, hr_1⟩ := hr_1
  have h9R := zRe (ws' := [(x0, .inr (7, [.ref xs, .ref j0, .ref k0, .ref w0, .ref rd, .ref mv, .ref xr, .int im, .int lf])), (xr, .inl (cI, 8, .inl q_3))]) hP hD rfl
  clear hP hD
  obtain ⟨hP, hD⟩ := h9R
  obtain ⟨g_4, g_5⟩ := hr_1
  refine lv_bipush (v := 10) hx hb dX7_refuseLower_5 (by decide) ?_
  refine lv_isub hx hb dX7_refuseLower_7 ?_
  refine lv_topi (fun x_6 ex_6 => ?_)
  have qx_6 : x_6.toInt = r_1.toInt - 10 := by rw [ex_6]; exact zf_sub rfl (by decide) (by omega) (by omega)
  exact W.iret (v := x_6) hx hb hr (fun t ht hW => ⟨⟨x_6, q_3, rfl, ⟨(show (x_6 : Int32).toInt = -n.toInt - 10 from by omega), ⟨by omega, by omega⟩⟩, zRet ht hP hD [0, 1] (by decide) rfl⟩, hS.F ht⟩) hS.2.2 dX7_refuseLower_8
theorem hi_X7_shelfAt_7 : ∀ w ∈ u_ws RX7 TX7 9, w ∈ wsX7_shelfAt := fun w h => (goodIn_r (u_ws RX7 TX7 9) [6, 7, 8, 9, 10, 11, 12, 13, 14] rfl (by decide +kernel) w h).1
set_option maxHeartbeats 4000000 in
set_option maxRecDepth 100000 in
theorem c_X_shelfAt (l : Launch) (D : va_G) (cI cJ cZ cP cS : ClassId) (po : zPool) (x0 xs j0 k0 w0 rd mv xr : Nat) (im lf : Int32) (fr : Nat → Int32) (fh : Nat → Option Nat) (s_ : Int32) (hy0 : 0 ≤ im.toInt) (hy1 : im.toInt ≤ 1) (hy2 : (-1) ≤ lf.toInt) (hy3 : lf.toInt ≤ 160) : Met l yX7_shelfAt wsX7_shelfAt ({ frames := 1, cells := 0, slots := 0, locals := 22 }) (va_Pc [.ref x0, .int s_] (zR D (zKT cI cJ cZ cP cS) po [(x0, .inr (7, [.ref xs, .ref j0, .ref k0, .ref w0, .ref rd, .ref mv, .ref xr, .int im, .int lf])), (xs, .inl (cS, 8, .inr (.inr (.inr (.inr fh)))))])) (va_Sq (fun r => (r = none ∧ s_.toInt < 0) ∨ (r = none ∧ 0 ≤ s_.toInt ∧ 7 < s_.toInt) ∨ (r = (fh s_.toNatClampNeg) ∧ 0 ≤ s_.toInt ∧ s_.toInt ≤ 7))) 0 0 (fun _ => False) := by
  refine Met.ofW (cc := cX7_shelfAt) (maxL := 2) (ret := (some (.object "TheLiningsInIt$Shelf"))) (by decide) rfl ?_
  intro p e s m args below meth c s₁ B hml hv
  obtain ⟨rfl, hP, hK, hN, hZ⟩ := hv
  have hx := B.exec
  have hb := B.bytes
  have hr := B.returns
  have hts := atoms_spec (ws := wsX7_shelfAt) B.pre
  have hown : s.vm.findClass RX7 = some m.cls := findClass_of_methodNamed B.named
  have hlocks := B.notSynchronized
  have hl := lv_entry ([.ref x0, .int s_]) (n := 2) (Nat.le_of_ble_eq_true rfl)
  rw [lg_entry_eq]
  generalize (lg_sl ([.ref x0, .int s_]) ++ List.replicate (2 - (lg_sl ([.ref x0, .int s_])).length) Slot.unset).toArray = ls at hl ⊢
  replace hl : lv_has ls 2 [(0, .ref x0), (1, .int s_)] := hl
  refine lv_iload_n hx hb dX7_shelfAt_0 rfl (lv_at hl 1 rfl) ?_
  refine lv_iconst (v := 0) hx hb dX7_shelfAt_1 (by decide) ?_
  refine lv_bipush (v := 7) hx hb dX7_shelfAt_2 (by decide) ?_
  have kc0 : (0 : Int32).toInt = 0 := by decide
  have kc7 : (7 : Int32).toInt = 7 := by decide
  refine zc_S (As := [.int s_, .int 0, .int 7]) (rest := []) ⟨hx, hb, hml, hown, hts⟩ (c_within l D cI cJ cZ cP cS po (s_) (0) (7) ) (va_cwS 3 hts gX7_shelfAt_X7_within rfl rfl rfl (by decide +kernel) ⟨Nat.le_of_ble_eq_true rfl, Nat.le_of_ble_eq_true rfl⟩) hK hN hZ rfl hl.1 rfl (Nat.le_of_ble_eq_true rfl) dX7_shelfAt_4 ⟨Nat.le_of_ble_eq_true rfl, Nat.le_of_ble_eq_true rfl⟩ (fun r_1 hr_1 => ?_)
  rcases hr_1 with ⟨rfl, g_2⟩ | ⟨rfl, g_3, g_4⟩ | ⟨rfl, g_5, g_6⟩
  · refine lv_if_eq (tgt := 19) hx hb dX7_shelfAt_7 (by decide) (fun c_7 => ?_) (fun c_7 => ?_)
    · refine lv_null hx hb dX7_shelfAt_19 ?_
      exact W.aret (v := .null) hx hb hr (Or.inl ⟨_, rfl⟩) (Or.inl rfl) (fun t ht hW => ⟨none, rfl, Or.inl (⟨rfl, (by first | omega | decide)⟩), ht⟩) (fun q hq => by cases hq) dX7_shelfAt_20
    · exact absurd c_7 (by decide)
  · refine lv_if_eq (tgt := 19) hx hb dX7_shelfAt_7 (by decide) (fun c_8 => ?_) (fun c_8 => ?_)
    · refine lv_null hx hb dX7_shelfAt_19 ?_
      exact W.aret (v := .null) hx hb hr (Or.inl ⟨_, rfl⟩) (Or.inl rfl) (fun t ht hW => ⟨none, rfl, Or.inr (Or.inl (⟨rfl, (by first | omega | decide), (by first | omega | decide)⟩)), ht⟩) (fun q hq => by cases hq) dX7_shelfAt_20
    · exact absurd c_8 (by decide)
  · refine lv_if_eq (tgt := 19) hx hb dX7_shelfAt_7 (by decide) (fun c_9 => ?_) (fun c_9 => ?_)
    · exact absurd c_9 (by decide)
    · refine lv_aload_n hx hb dX7_shelfAt_10 rfl (lv_at hl 0 rfl) ?_
      refine va_get (D := D) (ci := 7) (v := .ref xs) (C := RX7) (T := TX7) (N := 9) hx hb hts hi_X7_shelfAt_7 hown hK hP 0 rfl rfl 0 (by decide) (hts (.fieldLink RX7 11 "TheLiningsInIt" "shelves" "[LTheLiningsInIt$Shelf;") (List.mem_of_getElem? (i := 1) rfl)) (fun _ h9 => h9) rfl dX7_shelfAt_11 ?_
      refine lv_iload_n hx hb dX7_shelfAt_14 rfl (lv_at hl 1 rfl) ?_
      refine va_aldq hx hb hK hP 1 4 rfl rfl (zf_in (by omega) (by omega)) dX7_shelfAt_15 ?_
      refine lv_goto (tgt := 20) hx hb dX7_shelfAt_16 (by decide) ?_
      exact W.aret (v := va_rf (fh s_.toNatClampNeg)) hx hb hr (Or.inl ⟨_, rfl⟩) (va_rf_or _) (fun t ht hW => ⟨(fh s_.toNatClampNeg), rfl, Or.inr (Or.inr (⟨rfl, (by first | omega | decide), (by first | omega | decide)⟩)), ht⟩) (fun q hq => by cases hq) dX7_shelfAt_20
theorem hi_X7_copy_4 : ∀ w ∈ u_ws RX4 TX4 3, w ∈ wsX7_copy := fun w h => (goodIn_r (u_ws RX4 TX4 3) [32, 33, 34] rfl (by decide +kernel) w h).1
theorem hi_X7_element_4 : ∀ w ∈ u_ws RX4 TX4 3, w ∈ wsX7_element := fun w h => (goodIn_r (u_ws RX4 TX4 3) [22, 23, 24] rfl (by decide +kernel) w h).1
theorem hi_X7_show_4 : ∀ w ∈ u_ws RX4 TX4 3, w ∈ wsX7_show := fun w h => (goodIn_r (u_ws RX4 TX4 3) [33, 34, 35] rfl (by decide +kernel) w h).1
theorem hi_X7_show_7 : ∀ w ∈ u_ws RX7 TX7 9, w ∈ wsX7_show := fun w h => (goodIn_r (u_ws RX7 TX7 9) [24, 25, 26, 27, 28, 29, 30, 31, 32] rfl (by decide +kernel) w h).1
theorem hi_X7_holds_4 : ∀ w ∈ u_ws RX4 TX4 3, w ∈ wsX7_holds := fun w h => (goodIn_r (u_ws RX4 TX4 3) [11, 12, 13] rfl (by decide +kernel) w h).1
theorem hi_X7_says_4 : ∀ w ∈ u_ws RX4 TX4 3, w ∈ wsX7_says := fun w h => (goodIn_r (u_ws RX4 TX4 3) [52, 53, 54] rfl (by decide +kernel) w h).1
theorem hi_X7_says_7 : ∀ w ∈ u_ws RX7 TX7 9, w ∈ wsX7_says := fun w h => (goodIn_r (u_ws RX7 TX7 9) [55, 56, 57, 58, 59, 60, 61, 62, 63] rfl (by decide +kernel) w h).1
theorem hi_X7_says_2 : ∀ w ∈ u_ws RX2 TX2 3, w ∈ wsX7_says := fun w h => (goodIn_r (u_ws RX2 TX2 3) [64, 65, 66] rfl (by decide +kernel) w h).1
theorem hi_X7_says_0 : ∀ w ∈ u_ws RX0 TX0 9, w ∈ wsX7_says := fun w h => (goodIn_r (u_ws RX0 TX0 9) [67, 68, 69, 70, 71, 72, 73, 74, 75] rfl (by decide +kernel) w h).1
set_option maxHeartbeats 4000000 in
set_option maxRecDepth 100000 in
theorem c_X_says (l : Launch) (D : va_G) (cI cJ cZ cP cS : ClassId) (po : zPool) (x0 xs j0 k0 w0 rd mv xr : Nat) (im lf : Int32) (fr : Nat → Int32) (fh : Nat → Option Nat) (s_ : Int32) (h0 e0 : Nat) (he si : Int32) (j0 jp jc z0 zl zs : Nat) (cn de tr se hu sd : Int32) (fp : Nat → Option Nat) (kf af tf : Nat → Int32) (k : Int32) (hy0 : 0 ≤ im.toInt) (hy1 : im.toInt ≤ 1) (hy2 : (-1) ≤ lf.toInt) (hy3 : lf.toInt ≤ 160) (hy4 : (-1) ≤ he.toInt) (hy5 : he.toInt ≤ 103) (hy6 : 0 ≤ si.toInt) (hy7 : si.toInt ≤ 160) (hfs : 0 ≤ s_.toInt → s_.toInt ≤ 7 → fh s_.toNatClampNeg = some h0) (hy9 : 0 ≤ cn.toInt) (hy10 : cn.toInt ≤ 8) (hy11 : 0 ≤ de.toInt) (hy12 : de.toInt ≤ 24) (hy13 : 0 ≤ hu.toInt) (hy14 : hu.toInt ≤ 9) (hjp : zJP po fp cn kf af tf) (hpz : Nat) : Met l yX7_says wsX7_says ({ frames := 2, cells := 0, slots := 0, locals := 45 }) (va_Pc [.ref x0, .int s_, .int k] (zW D (zKT cI cJ cZ cP cS) po [(x0, .inr (7, [.ref xs, .ref j0, .ref k0, .ref w0, .ref rd, .ref mv, .ref xr, .int im, .int lf])), (xr, .inl (cI, 8, .inl fr)), (xs, .inl (cS, 8, .inr (.inr (.inr (.inr fh))))), (h0, .inr (4, [.ref e0, .int he, .int si])), (j0, .inr (0, [.ref z0, .ref jp, .ref jc, .int cn, .int de, .int tr, .int se, .int hu, .int sd])), (jp, .inl (cP, 8, .inr (.inr (.inr (.inr fp)))))] hpz)) (va_Qi (fun (r : Int32) (fr2 : (Nat → Int32)) => True) (zB D [(x0, .inr (7, [.ref xs, .ref j0, .ref k0, .ref w0, .ref rd, .ref mv, .ref xr, .int im, .int lf])), (xr, .inl (cI, 8, .inl fr)), (xs, .inl (cS, 8, .inr (.inr (.inr (.inr fh))))), (h0, .inr (4, [.ref e0, .int he, .int si])), (j0, .inr (0, [.ref z0, .ref jp, .ref jc, .int cn, .int de, .int tr, .int se, .int hu, .int sd])), (jp, .inl (cP, 8, .inr (.inr (.inr (.inr fp)))))] hpz (fun (fr2 : Nat → Int32) => [(x0, .inr (7, [.ref xs, .ref j0, .ref k0, .ref w0, .ref rd, .ref mv, .ref xr, .int im, .int lf])), (xr, .inl (cI, 8, .inl fr2)), (xs, .inl (cS, 8, .inr (.inr (.inr (.inr fh))))), (h0, .inr (4, [.ref e0, .int he, .int si])), (j0, .inr (0, [.ref z0, .ref jp, .ref jc, .int cn, .int de, .int tr, .int se, .int hu, .int sd])), (jp, .inl (cP, 8, .inr (.inr (.inr (.inr fp)))))])) (va_A [(x0, .inr (7, [.ref xs, .ref j0, .ref k0, .ref w0, .ref rd, .ref mv, .ref xr, .int im, .int lf])), (xr, .inl (cI, 8, .inl fr)), (xs, .inl (cS, 8, .inr (.inr (.inr (.inr fh))))), (h0, .inr (4, [.ref e0, .int he, .int si])), (j0, .inr (0, [.ref z0, .ref jp, .ref jc, .int cn, .int de, .int tr, .int se, .int hu, .int sd])), (jp, .inl (cP, 8, .inr (.inr (.inr (.inr fp)))))] hpz)) 0 0 (va_A [(x0, .inr (7, [.ref xs, .ref j0, .ref k0, .ref w0, .ref rd, .ref mv, .ref xr, .int im, .int lf])), (xr, .inl (cI, 8, .inl fr)), (xs, .inl (cS, 8, .inr (.inr (.inr (.inr fh))))), (h0, .inr (4, [.ref e0, .int he, .int si])), (j0, .inr (0, [.ref z0, .ref jp, .ref jc, .int cn, .int de, .int tr, .int se, .int hu, .int sd])), (jp, .inl (cP, 8, .inr (.inr (.inr (.inr fp)))))] hpz) := by
  refine Met.ofW (cc := cX7_says) (maxL := 5) (ret := (some .int)) (by decide) rfl ?_
  intro p e s m args below meth c s₁ B hml hv
  obtain ⟨rfl, hsz, hP, hK, hD0, hN, hZ⟩ := hv
  have hx := B.exec
  have hb := B.bytes
  have hr := B.returns
  have hts := atoms_spec (ws := wsX7_says) B.pre
  have hown : s.vm.findClass RX7 = some m.cls := findClass_of_methodNamed B.named
  have hlocks := B.notSynchronized
  subst hsz
  have hD := hD0.self (sz := s.heap.size)
  have hA := zA_of hD
  have hl := lv_entry ([.ref x0, .int s_, .int k]) (n := 5) (Nat.le_of_ble_eq_true rfl)
  rw [lg_entry_eq]
  generalize (lg_sl ([.ref x0, .int s_, .int k]) ++ List.replicate (5 - (lg_sl ([.ref x0, .int s_, .int k])).length) Slot.unset).toArray = ls at hl ⊢
  replace hl : lv_has ls 5 [(0, .ref x0), (1, .int s_), (2, .int k)] := hl
  refine zw_begin hP hD (fun H locs hP1 hS => ?_)
  clear hP
  have hP := hP1
  clear hP1
  refine lv_aload_n hx hb dX7_says_0 rfl (lv_at hl 0 rfl) ?_
  refine lv_iload_n hx hb dX7_says_1 rfl (lv_at hl 1 rfl) ?_
  refine zc_Vq (As := [.int s_]) (rest := []) ⟨hx, hb, hml, hown, hts⟩ (c_X_shelfAt l D cI cJ cZ cP cS po x0 xs j0 k0 w0 rd mv xr (im) (lf) ((fun _ => 0)) fh (s_) hy0 hy1 hy2 hy3) (cwV 1 hts gX7_says_X7_shelfAt rfl rfl rfl (by decide +kernel) ⟨Nat.le_of_ble_eq_true rfl, Nat.le_of_ble_eq_true rfl⟩) hK hN (hZ.kept hS) hP (hP.sub [0, 2] rfl) (va_recv hK hP (ci := 7) (q0 := 0) rfl rfl) rfl hl.1 rfl (Nat.le_of_ble_eq_true rfl) dX7_says_2 ⟨Nat.le_of_ble_eq_true rfl, Nat.le_of_ble_eq_true rfl⟩ (fun r_1 hr_1 => ?_)
  rcases hr_1 with ⟨rfl, g_2⟩ | ⟨rfl, g_3, g_4⟩ | ⟨rfl, g_5, g_6⟩
  · refine lv_astore_nN (lv' := [(3, .null), (0, .ref x0), (1, .int s_), (2, .int k)]) hx hb dX7_says_5 rfl hl (by decide) rfl (fun ls hl => ?_)
    refine lv_aload_nN hx hb dX7_says_6 rfl (lv_at hl 0 rfl) ?_
    refine lv_ifnullN (tgt := 20) hx hb dX7_says_7 (by decide) ?_
    refine lv_aload_n hx hb dX7_says_20 rfl (lv_at hl 1 rfl) ?_
    refine lv_iconst (v := 1) hx hb dX7_says_21 (by decide) ?_
    skip
    refine zw_V (As := [.int 1]) (rest := []) (wr := [(xs, .inl (cS, 8, .inr (.inr (.inr (.inr fh))))), (h0, .inr (4, [.ref e0, .int he, .int si])), (j0, .inr (0, [.ref z0, .ref jp, .ref jc, .int cn, .int de, .int tr, .int se, .int hu, .int sd])), (jp, .inl (cP, 8, .inr (.inr (.inr (.inr fp)))))]) ⟨hx, hb, hml, hown, hts⟩ (c_X_refuse_1 l D cI cJ cZ cP cS po x0 xs j0 k0 w0 rd mv xr (im) (lf) fr hy0 hy1 hy2 hy3 H.size) (cwV 1 hts gX7_says_X7_refuse rfl rfl rfl (by decide +kernel) ⟨Nat.le_of_ble_eq_true rfl, Nat.le_of_ble_eq_true rfl⟩) hK hN (hZ.kept hS) hP hD hS hA [0, 1] [2, 3, 4, 5] rfl rfl (by decide) (by decide) (by decide) (va_recv hK hP (ci := 7) (q0 := 0) rfl rfl) rfl hl.1 rfl (Nat.le_of_ble_eq_true rfl) dX7_says_22 ⟨Nat.le_of_ble_eq_true rfl, Nat.le_of_ble_eq_true rfl⟩ (fun r_7 u_8 H locs hr_7 hP hD hS => ?_)
    obtain ⟨q_9, rfl⟩ : ∃ z, z = u_8 := ⟨_, rfl⟩
    have h9R := zRe (ws' := [(xs, .inl (cS, 8, .inr (.inr (.inr (.inr fh))))), (h0, .inr (4, [.ref e0, .int he, .int si])), (j0, .inr (0, [.ref z0, .ref jp, .ref jc, .int cn, .int de, .int tr, .int se, .int hu, .int sd])), (jp, .inl (cP, 8, .inr (.inr (.inr (.inr fp))))), (x0, .inr (7, [.ref xs, .ref j0, .ref k0, .ref w0, .ref rd, .ref mv, .ref xr, .int im, .int lf])), (xr, .inl (cI, 8, .inl q_9))]) hP hD rfl
    clear hP hD
    obtain ⟨hP, hD⟩ := h9R
    obtain rfl := hr_7
    exact W.iret (v := (-1)) hx hb hr (fun t ht hW => ⟨⟨(-1), q_9, rfl, trivial, zRet ht hP hD [4, 5, 0, 1, 2, 3] (by decide) rfl⟩, hS.F ht⟩) hS.2.2 dX7_says_25
  · refine lv_astore_nN (lv' := [(3, .null), (0, .ref x0), (1, .int s_), (2, .int k)]) hx hb dX7_says_5 rfl hl (by decide) rfl (fun ls hl => ?_)
    refine lv_aload_nN hx hb dX7_says_6 rfl (lv_at hl 0 rfl) ?_
    refine lv_ifnullN (tgt := 20) hx hb dX7_says_7 (by decide) ?_
    refine lv_aload_n hx hb dX7_says_20 rfl (lv_at hl 1 rfl) ?_
    refine lv_iconst (v := 1) hx hb dX7_says_21 (by decide) ?_
    skip
    refine zw_V (As := [.int 1]) (rest := []) (wr := [(xs, .inl (cS, 8, .inr (.inr (.inr (.inr fh))))), (h0, .inr (4, [.ref e0, .int he, .int si])), (j0, .inr (0, [.ref z0, .ref jp, .ref jc, .int cn, .int de, .int tr, .int se, .int hu, .int sd])), (jp, .inl (cP, 8, .inr (.inr (.inr (.inr fp)))))]) ⟨hx, hb, hml, hown, hts⟩ (c_X_refuse_1 l D cI cJ cZ cP cS po x0 xs j0 k0 w0 rd mv xr (im) (lf) fr hy0 hy1 hy2 hy3 H.size) (cwV 1 hts gX7_says_X7_refuse rfl rfl rfl (by decide +kernel) ⟨Nat.le_of_ble_eq_true rfl, Nat.le_of_ble_eq_true rfl⟩) hK hN (hZ.kept hS) hP hD hS hA [0, 1] [2, 3, 4, 5] rfl rfl (by decide) (by decide) (by decide) (va_recv hK hP (ci := 7) (q0 := 0) rfl rfl) rfl hl.1 rfl (Nat.le_of_ble_eq_true rfl) dX7_says_22 ⟨Nat.le_of_ble_eq_true rfl, Nat.le_of_ble_eq_true rfl⟩ (fun r_10 u_11 H locs hr_10 hP hD hS => ?_)
    obtain ⟨q_12, rfl⟩ : ∃ z, z = u_11 := ⟨_, rfl⟩
    have h9R := zRe (ws' := [(xs, .inl (cS, 8, .inr (.inr (.inr (.inr fh))))), (h0, .inr (4, [.ref e0, .int he, .int si])), (j0, .inr (0, [.ref z0, .ref jp, .ref jc, .int cn, .int de, .int tr, .int se, .int hu, .int sd])), (jp, .inl (cP, 8, .inr (.inr (.inr (.inr fp))))), (x0, .inr (7, [.ref xs, .ref j0, .ref k0, .ref w0, .ref rd, .ref mv, .ref xr, .int im, .int lf])), (xr, .inl (cI, 8, .inl q_12))]) hP hD rfl
    clear hP hD
    obtain ⟨hP, hD⟩ := h9R
    obtain rfl := hr_10
    exact W.iret (v := (-1)) hx hb hr (fun t ht hW => ⟨⟨(-1), q_12, rfl, trivial, zRet ht hP hD [4, 5, 0, 1, 2, 3] (by decide) rfl⟩, hS.F ht⟩) hS.2.2 dX7_says_25
  · rw [hfs (by omega) (by omega)]
    refine W.eq (g2 := F0 m 5 ls (.ref h0 :: [])) rfl ?_
    refine lv_astore_n (lv' := [(3, .ref h0), (0, .ref x0), (1, .int s_), (2, .int k)]) hx hb dX7_says_5 rfl hl (by decide) rfl (fun ls hl => ?_)
    refine lv_aload_n hx hb dX7_says_6 rfl (lv_at hl 0 rfl) ?_
    refine lv_ifnull hx hb dX7_says_7 ?_
    refine lv_iload_n hx hb dX7_says_10 rfl (lv_at hl 3 rfl) ?_
    refine lv_iconst (v := 0) hx hb dX7_says_11 (by decide) ?_
    refine lv_bipush (v := 6) hx hb dX7_says_12 (by decide) ?_
    have kc0 : (0 : Int32).toInt = 0 := by decide
    have kc6 : (6 : Int32).toInt = 6 := by decide
    refine zc_S (As := [.int k, .int 0, .int 6]) (rest := []) ⟨hx, hb, hml, hown, hts⟩ (c_within l D cI cJ cZ cP cS po (k) (0) (6) ) (va_cwS 3 hts gX7_says_X7_within rfl rfl rfl (by decide +kernel) ⟨Nat.le_of_ble_eq_true rfl, Nat.le_of_ble_eq_true rfl⟩) hK hN (hZ.kept hS) rfl hl.1 rfl (Nat.le_of_ble_eq_true rfl) dX7_says_14 ⟨Nat.le_of_ble_eq_true rfl, Nat.le_of_ble_eq_true rfl⟩ (fun r_13 hr_13 => ?_)
    rcases hr_13 with ⟨rfl, g_14⟩ | ⟨rfl, g_15, g_16⟩ | ⟨rfl, g_17, g_18⟩
    · refine lv_if_ne (tgt := 26) hx hb dX7_says_17 (by decide) (fun c_19 => ?_) (fun c_19 => ?_)
      · exact absurd c_19 (by decide)
      · refine lv_aload_n hx hb dX7_says_20 rfl (lv_at hl 1 rfl) ?_
        refine lv_iconst (v := 1) hx hb dX7_says_21 (by decide) ?_
        skip
        refine zw_V (As := [.int 1]) (rest := []) (wr := [(xs, .inl (cS, 8, .inr (.inr (.inr (.inr fh))))), (h0, .inr (4, [.ref e0, .int he, .int si])), (j0, .inr (0, [.ref z0, .ref jp, .ref jc, .int cn, .int de, .int tr, .int se, .int hu, .int sd])), (jp, .inl (cP, 8, .inr (.inr (.inr (.inr fp)))))]) ⟨hx, hb, hml, hown, hts⟩ (c_X_refuse_1 l D cI cJ cZ cP cS po x0 xs j0 k0 w0 rd mv xr (im) (lf) fr hy0 hy1 hy2 hy3 H.size) (cwV 1 hts gX7_says_X7_refuse rfl rfl rfl (by decide +kernel) ⟨Nat.le_of_ble_eq_true rfl, Nat.le_of_ble_eq_true rfl⟩) hK hN (hZ.kept hS) hP hD hS hA [0, 1] [2, 3, 4, 5] rfl rfl (by decide) (by decide) (by decide) (va_recv hK hP (ci := 7) (q0 := 0) rfl rfl) rfl hl.1 rfl (Nat.le_of_ble_eq_true rfl) dX7_says_22 ⟨Nat.le_of_ble_eq_true rfl, Nat.le_of_ble_eq_true rfl⟩ (fun r_20 u_21 H locs hr_20 hP hD hS => ?_)
        obtain ⟨q_22, rfl⟩ : ∃ z, z = u_21 := ⟨_, rfl⟩
        have h9R := zRe (ws' := [(xs, .inl (cS, 8, .inr (.inr (.inr (.inr fh))))), (h0, .inr (4, [.ref e0, .int he, .int si])), (j0, .inr (0, [.ref z0, .ref jp, .ref jc, .int cn, .int de, .int tr, .int se, .int hu, .int sd])), (jp, .inl (cP, 8, .inr (.inr (.inr (.inr fp))))), (x0, .inr (7, [.ref xs, .ref j0, .ref k0, .ref w0, .ref rd, .ref mv, .ref xr, .int im, .int lf])), (xr, .inl (cI, 8, .inl q_22))]) hP hD rfl
        clear hP hD
        obtain ⟨hP, hD⟩ := h9R
        obtain rfl := hr_20
        exact W.iret (v := (-1)) hx hb hr (fun t ht hW => ⟨⟨(-1), q_22, rfl, trivial, zRet ht hP hD [4, 5, 0, 1, 2, 3] (by decide) rfl⟩, hS.F ht⟩) hS.2.2 dX7_says_25
    · refine lv_if_ne (tgt := 26) hx hb dX7_says_17 (by decide) (fun c_23 => ?_) (fun c_23 => ?_)
      · exact absurd c_23 (by decide)
      · refine lv_aload_n hx hb dX7_says_20 rfl (lv_at hl 1 rfl) ?_
        refine lv_iconst (v := 1) hx hb dX7_says_21 (by decide) ?_
        skip
        refine zw_V (As := [.int 1]) (rest := []) (wr := [(xs, .inl (cS, 8, .inr (.inr (.inr (.inr fh))))), (h0, .inr (4, [.ref e0, .int he, .int si])), (j0, .inr (0, [.ref z0, .ref jp, .ref jc, .int cn, .int de, .int tr, .int se, .int hu, .int sd])), (jp, .inl (cP, 8, .inr (.inr (.inr (.inr fp)))))]) ⟨hx, hb, hml, hown, hts⟩ (c_X_refuse_1 l D cI cJ cZ cP cS po x0 xs j0 k0 w0 rd mv xr (im) (lf) fr hy0 hy1 hy2 hy3 H.size) (cwV 1 hts gX7_says_X7_refuse rfl rfl rfl (by decide +kernel) ⟨Nat.le_of_ble_eq_true rfl, Nat.le_of_ble_eq_true rfl⟩) hK hN (hZ.kept hS) hP hD hS hA [0, 1] [2, 3, 4, 5] rfl rfl (by decide) (by decide) (by decide) (va_recv hK hP (ci := 7) (q0 := 0) rfl rfl) rfl hl.1 rfl (Nat.le_of_ble_eq_true rfl) dX7_says_22 ⟨Nat.le_of_ble_eq_true rfl, Nat.le_of_ble_eq_true rfl⟩ (fun r_24 u_25 H locs hr_24 hP hD hS => ?_)
        obtain ⟨q_26, rfl⟩ : ∃ z, z = u_25 := ⟨_, rfl⟩
        have h9R := zRe (ws' := [(xs, .inl (cS, 8, .inr (.inr (.inr (.inr fh))))), (h0, .inr (4, [.ref e0, .int he, .int si])), (j0, .inr (0, [.ref z0, .ref jp, .ref jc, .int cn, .int de, .int tr, .int se, .int hu, .int sd])), (jp, .inl (cP, 8, .inr (.inr (.inr (.inr fp))))), (x0, .inr (7, [.ref xs, .ref j0, .ref k0, .ref w0, .ref rd, .ref mv, .ref xr, .int im, .int lf])), (xr, .inl (cI, 8, .inl q_26))]) hP hD rfl
        clear hP hD
        obtain ⟨hP, hD⟩ := h9R
        obtain rfl := hr_24
        exact W.iret (v := (-1)) hx hb hr (fun t ht hW => ⟨⟨(-1), q_26, rfl, trivial, zRet ht hP hD [4, 5, 0, 1, 2, 3] (by decide) rfl⟩, hS.F ht⟩) hS.2.2 dX7_says_25
    · refine lv_if_ne (tgt := 26) hx hb dX7_says_17 (by decide) (fun c_27 => ?_) (fun c_27 => ?_)
      · refine lv_aload_n hx hb dX7_says_26 rfl (lv_at hl 0 rfl) ?_
        refine va_get (D := D) (ci := 4) (v := .int he) (C := RX4) (T := TX4) (N := 3) hx hb hts hi_X7_says_4 hown hK hP 3 rfl rfl 1 (by decide) (hts (.fieldLink RX7 87 "TheLiningsInIt$Shelf" "held" "I") (List.mem_of_getElem? (i := 1) rfl)) (fun _ h9 => h9) rfl dX7_says_27 ?_
        refine lv_iconst (v := (-1)) hx hb dX7_says_30 (by decide) ?_
        refine lv_icmp_ne (tgt := 40) hx hb dX7_says_31 (by decide) (fun c_28 => ?_) (fun c_28 => ?_)
        · have fc_28 : he.toInt ≠ (-1) := zf_ne c_28 rfl (by decide)
          refine lv_aload_n hx hb dX7_says_40 rfl (lv_at hl 1 rfl) ?_
          refine va_get (D := D) (ci := 7) (v := .ref j0) (C := RX7) (T := TX7) (N := 9) hx hb hts hi_X7_says_7 hown hK hP 0 rfl rfl 1 (by decide) (hts (.fieldLink RX7 18 "TheLiningsInIt" "now" "LTheLiningsInIt$Jacket;") (List.mem_of_getElem? (i := 2) rfl)) (fun _ h9 => h9) rfl dX7_says_41 ?_
          refine lv_aload_n hx hb dX7_says_44 rfl (lv_at hl 0 rfl) ?_
          refine va_get (D := D) (ci := 4) (v := .int he) (C := RX4) (T := TX4) (N := 3) hx hb hts hi_X7_says_4 hown hK hP 3 rfl rfl 1 (by decide) (hts (.fieldLink RX7 87 "TheLiningsInIt$Shelf" "held" "I") (List.mem_of_getElem? (i := 1) rfl)) (fun _ h9 => h9) rfl dX7_says_45 ?_
          refine zc_Vq (As := [.int he]) (rest := []) ⟨hx, hb, hml, hown, hts⟩ (c_J_pullAt l D cI cJ cZ cP cS po j0 jp jc z0 0 0 (cn) (de) (tr) (se) (hu) (sd) fp kf af tf (he) hy9 hy10 hy11 hy12 hy13 hy14 hjp) (cwV 1 hts gX7_says_X0_pullAt rfl rfl rfl (by decide +kernel) ⟨Nat.le_of_ble_eq_true rfl, Nat.le_of_ble_eq_true rfl⟩) hK hN (hZ.kept hS) hP (hP.sub [4, 5] rfl) (va_recv hK hP (ci := 0) (q0 := 4) rfl rfl) rfl hl.1 rfl (Nat.le_of_ble_eq_true rfl) dX7_says_48 ⟨Nat.le_of_ble_eq_true rfl, Nat.le_of_ble_eq_true rfl⟩ (fun r_29 hr_29 => ?_)
          rcases hr_29 with ⟨rfl, g_30⟩ | ⟨rfl, g_31⟩ | ⟨⟨u_33, kiu_33, au_33, tu_33, rfl, huu_33, hkku_33⟩, g_32⟩
          · exfalso; omega
          · refine lv_astoreN (lv' := [(4, .null), (3, .ref h0), (0, .ref x0), (1, .int s_), (2, .int k)]) hx hb dX7_says_51 hl (by decide) rfl (fun ls hl => ?_)
            refine lv_aloadN hx hb dX7_says_53 (lv_at hl 0 rfl) ?_
            refine lv_ifnullN (tgt := 67) hx hb dX7_says_55 (by decide) ?_
            refine lv_aload_n hx hb dX7_says_67 rfl (lv_at hl 2 rfl) ?_
            refine lv_iconst (v := 2) hx hb dX7_says_68 (by decide) ?_
            skip
            refine zw_V (As := [.int 2]) (rest := []) (wr := [(xs, .inl (cS, 8, .inr (.inr (.inr (.inr fh))))), (h0, .inr (4, [.ref e0, .int he, .int si])), (j0, .inr (0, [.ref z0, .ref jp, .ref jc, .int cn, .int de, .int tr, .int se, .int hu, .int sd])), (jp, .inl (cP, 8, .inr (.inr (.inr (.inr fp)))))]) ⟨hx, hb, hml, hown, hts⟩ (c_X_refuse_2 l D cI cJ cZ cP cS po x0 xs j0 k0 w0 rd mv xr (im) (lf) fr hy0 hy1 hy2 hy3 H.size) (cwV 1 hts gX7_says_X7_refuse rfl rfl rfl (by decide +kernel) ⟨Nat.le_of_ble_eq_true rfl, Nat.le_of_ble_eq_true rfl⟩) hK hN (hZ.kept hS) hP hD hS hA [0, 1] [2, 3, 4, 5] rfl rfl (by decide) (by decide) (by decide) (va_recv hK hP (ci := 7) (q0 := 0) rfl rfl) rfl hl.1 rfl (Nat.le_of_ble_eq_true rfl) dX7_says_69 ⟨Nat.le_of_ble_eq_true rfl, Nat.le_of_ble_eq_true rfl⟩ (fun r_34 u_35 H locs hr_34 hP hD hS => ?_)
            obtain ⟨q_36, rfl⟩ : ∃ z, z = u_35 := ⟨_, rfl⟩
            have h9R := zRe (ws' := [(xs, .inl (cS, 8, .inr (.inr (.inr (.inr fh))))), (h0, .inr (4, [.ref e0, .int he, .int si])), (j0, .inr (0, [.ref z0, .ref jp, .ref jc, .int cn, .int de, .int tr, .int se, .int hu, .int sd])), (jp, .inl (cP, 8, .inr (.inr (.inr (.inr fp))))), (x0, .inr (7, [.ref xs, .ref j0, .ref k0, .ref w0, .ref rd, .ref mv, .ref xr, .int im, .int lf])), (xr, .inl (cI, 8, .inl q_36))]) hP hD rfl
            clear hP hD
            obtain ⟨hP, hD⟩ := h9R
            obtain rfl := hr_34
            exact W.iret (v := (-2)) hx hb hr (fun t ht hW => ⟨⟨(-2), q_36, rfl, trivial, zRet ht hP hD [4, 5, 0, 1, 2, 3] (by decide) rfl⟩, hS.F ht⟩) hS.2.2 dX7_says_72
          · refine W.eq (g2 := F0 m 51 ls (.ref u_33 :: [])) rfl ?_
            obtain ⟨hku_33, hau_33, htu_33⟩ := zPu_pr (hZ.kept hS) huu_33
            refine lv_astore (lv' := [(4, .ref u_33), (3, .ref h0), (0, .ref x0), (1, .int s_), (2, .int k)]) hx hb dX7_says_51 hl (by decide) rfl (fun ls hl => ?_)
            refine lv_aload hx hb dX7_says_53 (lv_at hl 0 rfl) ?_
            refine lv_ifnull hx hb dX7_says_55 ?_
            refine lv_aload hx hb dX7_says_58 (lv_at hl 0 rfl) ?_
            refine lv_iload_n hx hb dX7_says_60 rfl (lv_at hl 4 rfl) ?_
            refine zc_V (As := [.int k]) (rest := []) ⟨hx, hb, hml, hown, hts⟩ (c_Pull_isOf l D cI cJ cZ cP cS po (k) u_33 (kiu_33) (au_33) (tu_33) huu_33 ⟨by omega, by omega, by omega, by omega⟩) (cwV 1 hts gX7_says_X2_isOf rfl rfl rfl (by decide +kernel) ⟨Nat.le_of_ble_eq_true rfl, Nat.le_of_ble_eq_true rfl⟩) hK hN (hZ.kept hS) hP zP_nil (va_recv hK (zPu_P (hZ.kept hS) huu_33) (ci := 2) (q0 := 0) rfl rfl) rfl hl.1 rfl (Nat.le_of_ble_eq_true rfl) dX7_says_61 ⟨Nat.le_of_ble_eq_true rfl, Nat.le_of_ble_eq_true rfl⟩ (fun r_37 hr_37 => ?_)
            obtain ⟨g_38, g_39⟩ := hr_37
            refine lv_if_ne (tgt := 73) hx hb dX7_says_64 (by decide) (fun c_40 => ?_) (fun c_40 => ?_)
            · have fc_40 : r_37.toInt ≠ 0 := zf_ne c_40 rfl (by decide)
              refine lv_iload_n hx hb dX7_says_73 rfl (lv_at hl 4 rfl) ?_
              have hsp : k = 0 ∨ k = 1 ∨ k = 2 ∨ k = 3 ∨ k = 4 ∨ k = 5 ∨ k = 6 := by
                rcases (show k.toInt = 0 ∨ k.toInt = 1 ∨ k.toInt = 2 ∨ k.toInt = 3 ∨ k.toInt = 4 ∨ k.toInt = 5 ∨ k.toInt = 6 by omega) with h9 | h9 | h9 | h9 | h9 | h9 | h9
                · refine Or.inl ?_; exact zf_val h9 (by decide)
                · refine Or.inr (Or.inl ?_); exact zf_val h9 (by decide)
                · refine Or.inr (Or.inr (Or.inl ?_)); exact zf_val h9 (by decide)
                · refine Or.inr (Or.inr (Or.inr (Or.inl ?_))); exact zf_val h9 (by decide)
                · refine Or.inr (Or.inr (Or.inr (Or.inr (Or.inl ?_)))); exact zf_val h9 (by decide)
                · refine Or.inr (Or.inr (Or.inr (Or.inr (Or.inr (Or.inl ?_))))); exact zf_val h9 (by decide)
                · refine Or.inr (Or.inr (Or.inr (Or.inr (Or.inr (Or.inr (?_)))))); exact zf_val h9 (by decide)
              rcases hsp with rfl | rfl | rfl | rfl | rfl | rfl | rfl
              · refine lv_tableIn (tgt := 112) hx hb dX7_says_74 (by decide) (by decide) rfl (by decide) ?_
                refine lv_aload hx hb dX7_says_112 (lv_at hl 0 rfl) ?_
                refine va_get (D := D) (ci := 2) (v := .int tu_33) (C := RX2) (T := TX2) (N := 3) hx hb hts hi_X7_says_2 hown hK (zPu_P (hZ.kept hS) huu_33) 0 rfl rfl 2 (by decide) (hts (.fieldLink RX7 110 "TheLiningsInIt$Pull" "takes" "I") (List.mem_of_getElem? (i := 3) rfl)) (fun _ h9 => h9) rfl dX7_says_114 ?_
                exact W.iret (v := tu_33) hx hb hr (fun t ht hW => ⟨⟨tu_33, fr, rfl, trivial, zRet ht hP hD [0, 1, 2, 3, 4, 5] (by decide) rfl⟩, hS.F ht⟩) hS.2.2 dX7_says_117
              · have kc1 : (1 : Int32).toInt = 1 := by decide
                refine lv_tableIn (tgt := 139) hx hb dX7_says_74 (by decide) (by decide) rfl (by decide) ?_
                refine lv_aload hx hb dX7_says_139 (lv_at hl 0 rfl) ?_
                refine lv_bipush (v := 8) hx hb dX7_says_141 (by decide) ?_
                refine lv_aload_n hx hb dX7_says_143 rfl (lv_at hl 2 rfl) ?_
                refine va_get (D := D) (ci := 7) (v := .ref j0) (C := RX7) (T := TX7) (N := 9) hx hb hts hi_X7_says_7 hown hK hP 0 rfl rfl 1 (by decide) (hts (.fieldLink RX7 18 "TheLiningsInIt" "now" "LTheLiningsInIt$Jacket;") (List.mem_of_getElem? (i := 2) rfl)) (fun _ h9 => h9) rfl dX7_says_144 ?_
                refine va_get (D := D) (ci := 0) (v := .int hu) (C := RX0) (T := TX0) (N := 9) hx hb hts hi_X7_says_0 hown hK hP 4 rfl rfl 7 (by decide) (hts (.fieldLink RX7 116 "TheLiningsInIt$Jacket" "hurry" "I") (List.mem_of_getElem? (i := 4) rfl)) (fun _ h9 => h9) rfl dX7_says_147 ?_
                have kc8 : (8 : Int32).toInt = 8 := by decide
                refine zc_V (As := [.int 8, .int hu]) (rest := []) ⟨hx, hb, hml, hown, hts⟩ (c_Pull_waysAt l D cI cJ cZ cP cS po (8) (hu) u_33 (kiu_33) (au_33) (tu_33) huu_33 ⟨by omega, by omega, by omega, by omega⟩ (by omega) (by omega) hy13 hy14) (cwV 2 hts gX7_says_X2_waysAt rfl rfl rfl (by decide +kernel) ⟨Nat.le_of_ble_eq_true rfl, Nat.le_of_ble_eq_true rfl⟩) hK hN (hZ.kept hS) hP zP_nil (va_recv hK (zPu_P (hZ.kept hS) huu_33) (ci := 2) (q0 := 0) rfl rfl) rfl hl.1 rfl (Nat.le_of_ble_eq_true rfl) dX7_says_150 ⟨Nat.le_of_ble_eq_true rfl, Nat.le_of_ble_eq_true rfl⟩ (fun r_41 hr_41 => ?_)
                obtain ⟨g_42, g_43⟩ := hr_41
                exact W.iret (v := r_41) hx hb hr (fun t ht hW => ⟨⟨r_41, fr, rfl, trivial, zRet ht hP hD [0, 1, 2, 3, 4, 5] (by decide) rfl⟩, hS.F ht⟩) hS.2.2 dX7_says_153
              · have kc2 : (2 : Int32).toInt = 2 := by decide
                refine lv_tableIn (tgt := 118) hx hb dX7_says_74 (by decide) (by decide) rfl (by decide) ?_
                refine lv_aload hx hb dX7_says_118 (lv_at hl 0 rfl) ?_
                refine zc_V (As := []) (rest := []) ⟨hx, hb, hml, hown, hts⟩ (c_Pull_step l D cI cJ cZ cP cS po u_33 (kiu_33) (au_33) (tu_33) huu_33 ⟨by omega, by omega, by omega, by omega⟩) (cwV 0 hts gX7_says_X2_step rfl rfl rfl (by decide +kernel) ⟨Nat.le_of_ble_eq_true rfl, Nat.le_of_ble_eq_true rfl⟩) hK hN (hZ.kept hS) hP zP_nil (va_recv hK (zPu_P (hZ.kept hS) huu_33) (ci := 2) (q0 := 0) rfl rfl) rfl hl.1 rfl (Nat.le_of_ble_eq_true rfl) dX7_says_120 ⟨Nat.le_of_ble_eq_true rfl, Nat.le_of_ble_eq_true rfl⟩ (fun r_44 hr_44 => ?_)
                obtain ⟨g_45, g_46⟩ := hr_44
                exact W.iret (v := r_44) hx hb hr (fun t ht hW => ⟨⟨r_44, fr, rfl, trivial, zRet ht hP hD [0, 1, 2, 3, 4, 5] (by decide) rfl⟩, hS.F ht⟩) hS.2.2 dX7_says_123
              · have kc3 : (3 : Int32).toInt = 3 := by decide
                refine lv_tableIn (tgt := 139) hx hb dX7_says_74 (by decide) (by decide) rfl (by decide) ?_
                refine lv_aload hx hb dX7_says_139 (lv_at hl 0 rfl) ?_
                refine lv_bipush (v := 8) hx hb dX7_says_141 (by decide) ?_
                refine lv_aload_n hx hb dX7_says_143 rfl (lv_at hl 2 rfl) ?_
                refine va_get (D := D) (ci := 7) (v := .ref j0) (C := RX7) (T := TX7) (N := 9) hx hb hts hi_X7_says_7 hown hK hP 0 rfl rfl 1 (by decide) (hts (.fieldLink RX7 18 "TheLiningsInIt" "now" "LTheLiningsInIt$Jacket;") (List.mem_of_getElem? (i := 2) rfl)) (fun _ h9 => h9) rfl dX7_says_144 ?_
                refine va_get (D := D) (ci := 0) (v := .int hu) (C := RX0) (T := TX0) (N := 9) hx hb hts hi_X7_says_0 hown hK hP 4 rfl rfl 7 (by decide) (hts (.fieldLink RX7 116 "TheLiningsInIt$Jacket" "hurry" "I") (List.mem_of_getElem? (i := 4) rfl)) (fun _ h9 => h9) rfl dX7_says_147 ?_
                have kc8 : (8 : Int32).toInt = 8 := by decide
                refine zc_V (As := [.int 8, .int hu]) (rest := []) ⟨hx, hb, hml, hown, hts⟩ (c_Pull_waysAt l D cI cJ cZ cP cS po (8) (hu) u_33 (kiu_33) (au_33) (tu_33) huu_33 ⟨by omega, by omega, by omega, by omega⟩ (by omega) (by omega) hy13 hy14) (cwV 2 hts gX7_says_X2_waysAt rfl rfl rfl (by decide +kernel) ⟨Nat.le_of_ble_eq_true rfl, Nat.le_of_ble_eq_true rfl⟩) hK hN (hZ.kept hS) hP zP_nil (va_recv hK (zPu_P (hZ.kept hS) huu_33) (ci := 2) (q0 := 0) rfl rfl) rfl hl.1 rfl (Nat.le_of_ble_eq_true rfl) dX7_says_150 ⟨Nat.le_of_ble_eq_true rfl, Nat.le_of_ble_eq_true rfl⟩ (fun r_47 hr_47 => ?_)
                obtain ⟨g_48, g_49⟩ := hr_47
                exact W.iret (v := r_47) hx hb hr (fun t ht hW => ⟨⟨r_47, fr, rfl, trivial, zRet ht hP hD [0, 1, 2, 3, 4, 5] (by decide) rfl⟩, hS.F ht⟩) hS.2.2 dX7_says_153
              · have kc4 : (4 : Int32).toInt = 4 := by decide
                refine lv_tableIn (tgt := 124) hx hb dX7_says_74 (by decide) (by decide) rfl (by decide) ?_
                refine lv_aload hx hb dX7_says_124 (lv_at hl 0 rfl) ?_
                refine lv_bipush (v := 12) hx hb dX7_says_126 (by decide) ?_
                refine lv_aload_n hx hb dX7_says_128 rfl (lv_at hl 2 rfl) ?_
                refine va_get (D := D) (ci := 7) (v := .ref j0) (C := RX7) (T := TX7) (N := 9) hx hb hts hi_X7_says_7 hown hK hP 0 rfl rfl 1 (by decide) (hts (.fieldLink RX7 18 "TheLiningsInIt" "now" "LTheLiningsInIt$Jacket;") (List.mem_of_getElem? (i := 2) rfl)) (fun _ h9 => h9) rfl dX7_says_129 ?_
                refine va_get (D := D) (ci := 0) (v := .int hu) (C := RX0) (T := TX0) (N := 9) hx hb hts hi_X7_says_0 hown hK hP 4 rfl rfl 7 (by decide) (hts (.fieldLink RX7 116 "TheLiningsInIt$Jacket" "hurry" "I") (List.mem_of_getElem? (i := 4) rfl)) (fun _ h9 => h9) rfl dX7_says_132 ?_
                have kc12 : (12 : Int32).toInt = 12 := by decide
                refine zc_V (As := [.int 12, .int hu]) (rest := []) ⟨hx, hb, hml, hown, hts⟩ (c_Pull_waysAt l D cI cJ cZ cP cS po (12) (hu) u_33 (kiu_33) (au_33) (tu_33) huu_33 ⟨by omega, by omega, by omega, by omega⟩ (by omega) (by omega) hy13 hy14) (cwV 2 hts gX7_says_X2_waysAt rfl rfl rfl (by decide +kernel) ⟨Nat.le_of_ble_eq_true rfl, Nat.le_of_ble_eq_true rfl⟩) hK hN (hZ.kept hS) hP zP_nil (va_recv hK (zPu_P (hZ.kept hS) huu_33) (ci := 2) (q0 := 0) rfl rfl) rfl hl.1 rfl (Nat.le_of_ble_eq_true rfl) dX7_says_135 ⟨Nat.le_of_ble_eq_true rfl, Nat.le_of_ble_eq_true rfl⟩ (fun r_50 hr_50 => ?_)
                obtain ⟨g_51, g_52⟩ := hr_50
                exact W.iret (v := r_50) hx hb hr (fun t ht hW => ⟨⟨r_50, fr, rfl, trivial, zRet ht hP hD [0, 1, 2, 3, 4, 5] (by decide) rfl⟩, hS.F ht⟩) hS.2.2 dX7_says_138
              · have kc5 : (5 : Int32).toInt = 5 := by decide
                refine lv_tableIn (tgt := 118) hx hb dX7_says_74 (by decide) (by decide) rfl (by decide) ?_
                refine lv_aload hx hb dX7_says_118 (lv_at hl 0 rfl) ?_
                refine zc_V (As := []) (rest := []) ⟨hx, hb, hml, hown, hts⟩ (c_Pull_step l D cI cJ cZ cP cS po u_33 (kiu_33) (au_33) (tu_33) huu_33 ⟨by omega, by omega, by omega, by omega⟩) (cwV 0 hts gX7_says_X2_step rfl rfl rfl (by decide +kernel) ⟨Nat.le_of_ble_eq_true rfl, Nat.le_of_ble_eq_true rfl⟩) hK hN (hZ.kept hS) hP zP_nil (va_recv hK (zPu_P (hZ.kept hS) huu_33) (ci := 2) (q0 := 0) rfl rfl) rfl hl.1 rfl (Nat.le_of_ble_eq_true rfl) dX7_says_120 ⟨Nat.le_of_ble_eq_true rfl, Nat.le_of_ble_eq_true rfl⟩ (fun r_53 hr_53 => ?_)
                obtain ⟨g_54, g_55⟩ := hr_53
                exact W.iret (v := r_53) hx hb hr (fun t ht hW => ⟨⟨r_53, fr, rfl, trivial, zRet ht hP hD [0, 1, 2, 3, 4, 5] (by decide) rfl⟩, hS.F ht⟩) hS.2.2 dX7_says_123
              · refine lv_tableOut (tgt := 139) hx hb dX7_says_74 (by decide) (by decide) ?_
                refine lv_aload hx hb dX7_says_139 (lv_at hl 0 rfl) ?_
                refine lv_bipush (v := 8) hx hb dX7_says_141 (by decide) ?_
                refine lv_aload_n hx hb dX7_says_143 rfl (lv_at hl 2 rfl) ?_
                refine va_get (D := D) (ci := 7) (v := .ref j0) (C := RX7) (T := TX7) (N := 9) hx hb hts hi_X7_says_7 hown hK hP 0 rfl rfl 1 (by decide) (hts (.fieldLink RX7 18 "TheLiningsInIt" "now" "LTheLiningsInIt$Jacket;") (List.mem_of_getElem? (i := 2) rfl)) (fun _ h9 => h9) rfl dX7_says_144 ?_
                refine va_get (D := D) (ci := 0) (v := .int hu) (C := RX0) (T := TX0) (N := 9) hx hb hts hi_X7_says_0 hown hK hP 4 rfl rfl 7 (by decide) (hts (.fieldLink RX7 116 "TheLiningsInIt$Jacket" "hurry" "I") (List.mem_of_getElem? (i := 4) rfl)) (fun _ h9 => h9) rfl dX7_says_147 ?_
                have kc8 : (8 : Int32).toInt = 8 := by decide
                refine zc_V (As := [.int 8, .int hu]) (rest := []) ⟨hx, hb, hml, hown, hts⟩ (c_Pull_waysAt l D cI cJ cZ cP cS po (8) (hu) u_33 (kiu_33) (au_33) (tu_33) huu_33 ⟨by omega, by omega, by omega, by omega⟩ (by omega) (by omega) hy13 hy14) (cwV 2 hts gX7_says_X2_waysAt rfl rfl rfl (by decide +kernel) ⟨Nat.le_of_ble_eq_true rfl, Nat.le_of_ble_eq_true rfl⟩) hK hN (hZ.kept hS) hP zP_nil (va_recv hK (zPu_P (hZ.kept hS) huu_33) (ci := 2) (q0 := 0) rfl rfl) rfl hl.1 rfl (Nat.le_of_ble_eq_true rfl) dX7_says_150 ⟨Nat.le_of_ble_eq_true rfl, Nat.le_of_ble_eq_true rfl⟩ (fun r_56 hr_56 => ?_)
                obtain ⟨g_57, g_58⟩ := hr_56
                exact W.iret (v := r_56) hx hb hr (fun t ht hW => ⟨⟨r_56, fr, rfl, trivial, zRet ht hP hD [0, 1, 2, 3, 4, 5] (by decide) rfl⟩, hS.F ht⟩) hS.2.2 dX7_says_153
            · have fc_40 : r_37.toInt = 0 := zf_eq c_40 rfl (by decide)
              refine lv_aload_n hx hb dX7_says_67 rfl (lv_at hl 2 rfl) ?_
              refine lv_iconst (v := 2) hx hb dX7_says_68 (by decide) ?_
              skip
              refine zw_V (As := [.int 2]) (rest := []) (wr := [(xs, .inl (cS, 8, .inr (.inr (.inr (.inr fh))))), (h0, .inr (4, [.ref e0, .int he, .int si])), (j0, .inr (0, [.ref z0, .ref jp, .ref jc, .int cn, .int de, .int tr, .int se, .int hu, .int sd])), (jp, .inl (cP, 8, .inr (.inr (.inr (.inr fp)))))]) ⟨hx, hb, hml, hown, hts⟩ (c_X_refuse_2 l D cI cJ cZ cP cS po x0 xs j0 k0 w0 rd mv xr (im) (lf) fr hy0 hy1 hy2 hy3 H.size) (cwV 1 hts gX7_says_X7_refuse rfl rfl rfl (by decide +kernel) ⟨Nat.le_of_ble_eq_true rfl, Nat.le_of_ble_eq_true rfl⟩) hK hN (hZ.kept hS) hP hD hS hA [0, 1] [2, 3, 4, 5] rfl rfl (by decide) (by decide) (by decide) (va_recv hK hP (ci := 7) (q0 := 0) rfl rfl) rfl hl.1 rfl (Nat.le_of_ble_eq_true rfl) dX7_says_69 ⟨Nat.le_of_ble_eq_true rfl, Nat.le_of_ble_eq_true rfl⟩ (fun r_59 u_60 H locs hr_59 hP hD hS => ?_)
              obtain ⟨q_61, rfl⟩ : ∃ z, z = u_60 := ⟨_, rfl⟩
              have h9R := zRe (ws' := [(xs, .inl (cS, 8, .inr (.inr (.inr (.inr fh))))), (h0, .inr (4, [.ref e0, .int he, .int si])), (j0, .inr (0, [.ref z0, .ref jp, .ref jc, .int cn, .int de, .int tr, .int se, .int hu, .int sd])), (jp, .inl (cP, 8, .inr (.inr (.inr (.inr fp))))), (x0, .inr (7, [.ref xs, .ref j0, .ref k0, .ref w0, .ref rd, .ref mv, .ref xr, .int im, .int lf])), (xr, .inl (cI, 8, .inl q_61))]) hP hD rfl
              clear hP hD
              obtain ⟨hP, hD⟩ := h9R
              obtain rfl := hr_59
              exact W.iret (v := (-2)) hx hb hr (fun t ht hW => ⟨⟨(-2), q_61, rfl, trivial, zRet ht hP hD [4, 5, 0, 1, 2, 3] (by decide) rfl⟩, hS.F ht⟩) hS.2.2 dX7_says_72
        · have fc_28 : he.toInt = (-1) := zf_eq c_28 rfl (by decide)
          refine lv_aload_n hx hb dX7_says_34 rfl (lv_at hl 1 rfl) ?_
          refine lv_iconst (v := 3) hx hb dX7_says_35 (by decide) ?_
          skip
          refine zw_V (As := [.int 3]) (rest := []) (wr := [(xs, .inl (cS, 8, .inr (.inr (.inr (.inr fh))))), (h0, .inr (4, [.ref e0, .int he, .int si])), (j0, .inr (0, [.ref z0, .ref jp, .ref jc, .int cn, .int de, .int tr, .int se, .int hu, .int sd])), (jp, .inl (cP, 8, .inr (.inr (.inr (.inr fp)))))]) ⟨hx, hb, hml, hown, hts⟩ (c_X_refuse_3 l D cI cJ cZ cP cS po x0 xs j0 k0 w0 rd mv xr (im) (lf) fr hy0 hy1 hy2 hy3 H.size) (cwV 1 hts gX7_says_X7_refuse rfl rfl rfl (by decide +kernel) ⟨Nat.le_of_ble_eq_true rfl, Nat.le_of_ble_eq_true rfl⟩) hK hN (hZ.kept hS) hP hD hS hA [0, 1] [2, 3, 4, 5] rfl rfl (by decide) (by decide) (by decide) (va_recv hK hP (ci := 7) (q0 := 0) rfl rfl) rfl hl.1 rfl (Nat.le_of_ble_eq_true rfl) dX7_says_36 ⟨Nat.le_of_ble_eq_true rfl, Nat.le_of_ble_eq_true rfl⟩ (fun r_62 u_63 H locs hr_62 hP hD hS => ?_)
          obtain ⟨q_64, rfl⟩ : ∃ z, z = u_63 := ⟨_, rfl⟩
          have h9R := zRe (ws' := [(xs, .inl (cS, 8, .inr (.inr (.inr (.inr fh))))), (h0, .inr (4, [.ref e0, .int he, .int si])), (j0, .inr (0, [.ref z0, .ref jp, .ref jc, .int cn, .int de, .int tr, .int se, .int hu, .int sd])), (jp, .inl (cP, 8, .inr (.inr (.inr (.inr fp))))), (x0, .inr (7, [.ref xs, .ref j0, .ref k0, .ref w0, .ref rd, .ref mv, .ref xr, .int im, .int lf])), (xr, .inl (cI, 8, .inl q_64))]) hP hD rfl
          clear hP hD
          obtain ⟨hP, hD⟩ := h9R
          obtain rfl := hr_62
          exact W.iret (v := (-3)) hx hb hr (fun t ht hW => ⟨⟨(-3), q_64, rfl, trivial, zRet ht hP hD [4, 5, 0, 1, 2, 3] (by decide) rfl⟩, hS.F ht⟩) hS.2.2 dX7_says_39
      · exact absurd c_27 (by decide)

