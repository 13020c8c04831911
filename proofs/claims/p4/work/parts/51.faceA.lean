theorem hi_X7_refuse_7 : ∀ w ∈ u_ws RX7 TX7 9, w ∈ wsX7_refuse := fun w h => (goodIn_r (u_ws RX7 TX7 9) [6, 7, 8, 9, 10, 11, 12, 13, 14] rfl (by decide +kernel) w h).1
set_option maxHeartbeats 4000000 in
set_option maxRecDepth 100000 in
theorem c_X_refuse_1 (l : Launch) (D : va_G) (cI cJ cZ cP cS : ClassId) (po : zPool) (x0 xs j0 k0 w0 rd mv xr : Nat) (im lf : Int32) (fr : Nat → Int32) (hy0 : 0 ≤ im.toInt) (hy1 : im.toInt ≤ 1) (hy2 : (-1) ≤ lf.toInt) (hy3 : lf.toInt ≤ 160) (hpz : Nat) : Met l yX7_refuse wsX7_refuse ({ frames := 1, cells := 0, slots := 0, locals := 22 }) (va_Pc [.ref x0, .int 1] (zW D (zKT cI cJ cZ cP cS) po [(x0, .inr (7, [.ref xs, .ref j0, .ref k0, .ref w0, .ref rd, .ref mv, .ref xr, .int im, .int lf])), (xr, .inl (cI, 8, .inl fr))] hpz)) (va_Qi (fun (r : Int32) (fr2 : (Nat → Int32)) => r = (-1)) (zB D [(x0, .inr (7, [.ref xs, .ref j0, .ref k0, .ref w0, .ref rd, .ref mv, .ref xr, .int im, .int lf])), (xr, .inl (cI, 8, .inl fr))] hpz (fun (fr2 : Nat → Int32) => [(x0, .inr (7, [.ref xs, .ref j0, .ref k0, .ref w0, .ref rd, .ref mv, .ref xr, .int im, .int lf])), (xr, .inl (cI, 8, .inl fr2))])) (va_A [(x0, .inr (7, [.ref xs, .ref j0, .ref k0, .ref w0, .ref rd, .ref mv, .ref xr, .int im, .int lf])), (xr, .inl (cI, 8, .inl fr))] hpz)) 0 0 (va_A [(x0, .inr (7, [.ref xs, .ref j0, .ref k0, .ref w0, .ref rd, .ref mv, .ref xr, .int im, .int lf])), (xr, .inl (cI, 8, .inl fr))] hpz) := by
  refine Met.ofW (cc := cX7_refuse) (maxL := 2) (ret := (some .int)) (by decide) rfl ?_
  intro p e s m args below meth c s₁ B hml hv
  obtain ⟨rfl, hsz, hP, hK, hD0, hN, hZ⟩ := hv
  have hx := B.exec
  have hb := B.bytes
  have hr := B.returns
  have hts := atoms_spec (ws := wsX7_refuse) B.pre
  have hown : s.vm.findClass RX7 = some m.cls := findClass_of_methodNamed B.named
  have hlocks := B.notSynchronized
  subst hsz
  have hD := hD0.self (sz := s.heap.size)
  have hA : ∀ q : Nat, s.heap.size ≤ q → va_A [(x0, .inr (7, [.ref xs, .ref j0, .ref k0, .ref w0, .ref rd, .ref mv, .ref xr, .int im, .int lf])), (xr, .inl (cI, 8, .inl fr))] s.heap.size q := fun q h => Or.inr h
  have hS : va_S (va_A [(x0, .inr (7, [.ref xs, .ref j0, .ref k0, .ref w0, .ref rd, .ref mv, .ref xr, .int im, .int lf])), (xr, .inl (cI, 8, .inl fr))] s.heap.size) s.heap s.heap [] := va_S.rf
  replace hP : va_P D vwCl _ s.heap := hP
  have hl := lv_entry ([.ref x0, .int 1]) (n := 2) (Nat.le_of_ble_eq_true rfl)
  rw [lg_entry_eq]
  generalize (lg_sl ([.ref x0, .int 1]) ++ List.replicate (2 - (lg_sl ([.ref x0, .int 1])).length) Slot.unset).toArray = ls at hl ⊢
  replace hl : lv_has ls 2 [(0, .ref x0), (1, .int 1)] := hl
  refine zw_start (fun H locs hH hL => ?_)
  replace hP : va_P D vwCl [(x0, .inr (7, [.ref xs, .ref j0, .ref k0, .ref w0, .ref rd, .ref mv, .ref xr, .int im, .int lf])), (xr, .inl (cI, 8, .inl fr))] H := by rw [hH]; exact hP
  replace hS : va_S (va_A [(x0, .inr (7, [.ref xs, .ref j0, .ref k0, .ref w0, .ref rd, .ref mv, .ref xr, .int im, .int lf])), (xr, .inl (cI, 8, .inl fr))] s.heap.size) s.heap H locs := by rw [hH, hL]; exact hS
  clear hH hL
  refine lv_iload_n hx hb dX7_refuse_0 rfl (lv_at hl 1 rfl) ?_
  refine lv_iconst (v := 1) hx hb dX7_refuse_1 (by decide) ?_
  refine lv_bipush (v := 7) hx hb dX7_refuse_2 (by decide) ?_
  have kc1 : (1 : Int32).toInt = 1 := by decide
  have kc7 : (7 : Int32).toInt = 7 := by decide
  refine zc_S (As := [.int 1, .int 1, .int 7]) (rest := []) ⟨hx, hb, hml, hown, hts⟩ (c_within l D cI cJ cZ cP cS po (1) (1) (7) ) (va_cwS 3 hts gX7_refuse_X7_within rfl rfl rfl (by decide +kernel) ⟨Nat.le_of_ble_eq_true rfl, Nat.le_of_ble_eq_true rfl⟩) hK hN (hZ.kept hS) rfl hl.1 rfl (Nat.le_of_ble_eq_true rfl) dX7_refuse_4 ⟨Nat.le_of_ble_eq_true rfl, Nat.le_of_ble_eq_true rfl⟩ (fun r_1 hr_1 => ?_)
  rcases hr_1 with ⟨rfl, g_2⟩ | ⟨rfl, g_3, g_4⟩ | ⟨rfl, g_5, g_6⟩
  · exfalso; omega
  · exfalso; omega
  · refine lv_if_eq (tgt := 20) hx hb dX7_refuse_7 (by decide) (fun c_7 => ?_) (fun c_7 => ?_)
    · exact absurd c_7 (by decide)
    · refine lv_aload_n hx hb dX7_refuse_10 rfl (lv_at hl 0 rfl) ?_
      refine va_get (D := D) (ci := 7) (v := .ref xr) (C := RX7) (T := TX7) (N := 9) hx hb hts hi_X7_refuse_7 hown hK hP 0 rfl rfl 6 (by decide) (hts (.fieldLink RX7 46 "TheLiningsInIt" "refusals" "[I") (List.mem_of_getElem? (i := 1) rfl)) (fun _ h9 => h9) rfl dX7_refuse_11 ?_
      refine lv_iload_n hx hb dX7_refuse_14 rfl (lv_at hl 1 rfl) ?_
      refine lv_dup2_11 hx hb dX7_refuse_15 rfl rfl ?_
      refine va_iald hx hb hK hP 1 0 rfl rfl (zf_in (by decide) (by decide)) dX7_refuse_16 ?_
      refine lv_topi (fun x_8 ex_8 => ?_)
      refine lv_iconst (v := 1) hx hb dX7_refuse_17 (by decide) ?_
      refine lv_iadd hx hb dX7_refuse_18 ?_
      refine lv_topi (fun x_9 ex_9 => ?_)
      refine va_iast hx hb hK hP hD hS 1 0 rfl rfl (zf_in (by decide) (by decide)) dX7_refuse_19 (fun H locs hP hD hS => ?_)
      obtain ⟨g_10, hg_10⟩ : ∃ g : Nat → Int32, g = upd fr (1 : Int32).toNatClampNeg x_9 := ⟨_, rfl⟩
      rw [← hg_10] at hP hD
      clear hg_10
      replace hP : va_P D vwCl [(x0, .inr (7, [.ref xs, .ref j0, .ref k0, .ref w0, .ref rd, .ref mv, .ref xr, .int im, .int lf])), (xr, .inl (cI, 8, .inl g_10))] H := hP
      replace hD : va_D _ [(x0, .inr (7, [.ref xs, .ref j0, .ref k0, .ref w0, .ref rd, .ref mv, .ref xr, .int im, .int lf])), (xr, .inl (cI, 8, .inl g_10))] := hD
      refine lv_iload_n hx hb dX7_refuse_20 rfl (lv_at hl 1 rfl) ?_
      refine lv_ineg hx hb dX7_refuse_21 ?_
      refine lv_topi (fun y_11 ey_11 => ?_)
      obtain rfl : y_11 = (-1) := ey_11.trans (by decide)
      exact W.iret (v := (-1)) hx hb hr (fun t ht hW => ⟨⟨(-1), g_10, rfl, rfl, by rw [ht]; exact hP.sub (ws' := [(x0, .inr (7, [.ref xs, .ref j0, .ref k0, .ref w0, .ref rd, .ref mv, .ref xr, .int im, .int lf])), (xr, .inl (cI, 8, .inl g_10))]) [0, 1] rfl, hD.sub (ws' := [(x0, .inr (7, [.ref xs, .ref j0, .ref k0, .ref w0, .ref rd, .ref mv, .ref xr, .int im, .int lf])), (xr, .inl (cI, 8, .inl g_10))]) [0, 1] (by decide) rfl⟩, hS.F ht⟩) hS.2.2 dX7_refuse_22
set_option maxHeartbeats 4000000 in
set_option maxRecDepth 100000 in
theorem c_X_refuse_2 (l : Launch) (D : va_G) (cI cJ cZ cP cS : ClassId) (po : zPool) (x0 xs j0 k0 w0 rd mv xr : Nat) (im lf : Int32) (fr : Nat → Int32) (hy0 : 0 ≤ im.toInt) (hy1 : im.toInt ≤ 1) (hy2 : (-1) ≤ lf.toInt) (hy3 : lf.toInt ≤ 160) (hpz : Nat) : Met l yX7_refuse wsX7_refuse ({ frames := 1, cells := 0, slots := 0, locals := 22 }) (va_Pc [.ref x0, .int 2] (zW D (zKT cI cJ cZ cP cS) po [(x0, .inr (7, [.ref xs, .ref j0, .ref k0, .ref w0, .ref rd, .ref mv, .ref xr, .int im, .int lf])), (xr, .inl (cI, 8, .inl fr))] hpz)) (va_Qi (fun (r : Int32) (fr2 : (Nat → Int32)) => r = (-2)) (zB D [(x0, .inr (7, [.ref xs, .ref j0, .ref k0, .ref w0, .ref rd, .ref mv, .ref xr, .int im, .int lf])), (xr, .inl (cI, 8, .inl fr))] hpz (fun (fr2 : Nat → Int32) => [(x0, .inr (7, [.ref xs, .ref j0, .ref k0, .ref w0, .ref rd, .ref mv, .ref xr, .int im, .int lf])), (xr, .inl (cI, 8, .inl fr2))])) (va_A [(x0, .inr (7, [.ref xs, .ref j0, .ref k0, .ref w0, .ref rd, .ref mv, .ref xr, .int im, .int lf])), (xr, .inl (cI, 8, .inl fr))] hpz)) 0 0 (va_A [(x0, .inr (7, [.ref xs, .ref j0, .ref k0, .ref w0, .ref rd, .ref mv, .ref xr, .int im, .int lf])), (xr, .inl (cI, 8, .inl fr))] hpz) := by
  refine Met.ofW (cc := cX7_refuse) (maxL := 2) (ret := (some .int)) (by decide) rfl ?_
  intro p e s m args below meth c s₁ B hml hv
  obtain ⟨rfl, hsz, hP, hK, hD0, hN, hZ⟩ := hv
  have hx := B.exec
  have hb := B.bytes
  have hr := B.returns
  have hts := atoms_spec (ws := wsX7_refuse) B.pre
  have hown : s.vm.findClass RX7 = some m.cls := findClass_of_methodNamed B.named
  have hlocks := B.notSynchronized
  subst hsz
  have hD := hD0.self (sz := s.heap.size)
  have hA : ∀ q : Nat, s.heap.size ≤ q → va_A [(x0, .inr (7, [.ref xs, .ref j0, .ref k0, .ref w0, .ref rd, .ref mv, .ref xr, .int im, .int lf])), (xr, .inl (cI, 8, .inl fr))] s.heap.size q := fun q h => Or.inr h
  have hS : va_S (va_A [(x0, .inr (7, [.ref xs, .ref j0, .ref k0, .ref w0, .ref rd, .ref mv, .ref xr, .int im, .int lf])), (xr, .inl (cI, 8, .inl fr))] s.heap.size) s.heap s.heap [] := va_S.rf
  replace hP : va_P D vwCl _ s.heap := hP
  have hl := lv_entry ([.ref x0, .int 2]) (n := 2) (Nat.le_of_ble_eq_true rfl)
  rw [lg_entry_eq]
  generalize (lg_sl ([.ref x0, .int 2]) ++ List.replicate (2 - (lg_sl ([.ref x0, .int 2])).length) Slot.unset).toArray = ls at hl ⊢
  replace hl : lv_has ls 2 [(0, .ref x0), (1, .int 2)] := hl
  refine zw_start (fun H locs hH hL => ?_)
  replace hP : va_P D vwCl [(x0, .inr (7, [.ref xs, .ref j0, .ref k0, .ref w0, .ref rd, .ref mv, .ref xr, .int im, .int lf])), (xr, .inl (cI, 8, .inl fr))] H := by rw [hH]; exact hP
  replace hS : va_S (va_A [(x0, .inr (7, [.ref xs, .ref j0, .ref k0, .ref w0, .ref rd, .ref mv, .ref xr, .int im, .int lf])), (xr, .inl (cI, 8, .inl fr))] s.heap.size) s.heap H locs := by rw [hH, hL]; exact hS
  clear hH hL
  refine lv_iload_n hx hb dX7_refuse_0 rfl (lv_at hl 1 rfl) ?_
  refine lv_iconst (v := 1) hx hb dX7_refuse_1 (by decide) ?_
  refine lv_bipush (v := 7) hx hb dX7_refuse_2 (by decide) ?_
  have kc2 : (2 : Int32).toInt = 2 := by decide
  have kc1 : (1 : Int32).toInt = 1 := by decide
  have kc7 : (7 : Int32).toInt = 7 := by decide
  refine zc_S (As := [.int 2, .int 1, .int 7]) (rest := []) ⟨hx, hb, hml, hown, hts⟩ (c_within l D cI cJ cZ cP cS po (2) (1) (7) ) (va_cwS 3 hts gX7_refuse_X7_within rfl rfl rfl (by decide +kernel) ⟨Nat.le_of_ble_eq_true rfl, Nat.le_of_ble_eq_true rfl⟩) hK hN (hZ.kept hS) rfl hl.1 rfl (Nat.le_of_ble_eq_true rfl) dX7_refuse_4 ⟨Nat.le_of_ble_eq_true rfl, Nat.le_of_ble_eq_true rfl⟩ (fun r_1 hr_1 => ?_)
  rcases hr_1 with ⟨rfl, g_2⟩ | ⟨rfl, g_3, g_4⟩ | ⟨rfl, g_5, g_6⟩
  · exfalso; omega
  · exfalso; omega
  · refine lv_if_eq (tgt := 20) hx hb dX7_refuse_7 (by decide) (fun c_7 => ?_) (fun c_7 => ?_)
    · exact absurd c_7 (by decide)
    · refine lv_aload_n hx hb dX7_refuse_10 rfl (lv_at hl 0 rfl) ?_
      refine va_get (D := D) (ci := 7) (v := .ref xr) (C := RX7) (T := TX7) (N := 9) hx hb hts hi_X7_refuse_7 hown hK hP 0 rfl rfl 6 (by decide) (hts (.fieldLink RX7 46 "TheLiningsInIt" "refusals" "[I") (List.mem_of_getElem? (i := 1) rfl)) (fun _ h9 => h9) rfl dX7_refuse_11 ?_
      refine lv_iload_n hx hb dX7_refuse_14 rfl (lv_at hl 1 rfl) ?_
      refine lv_dup2_11 hx hb dX7_refuse_15 rfl rfl ?_
      refine va_iald hx hb hK hP 1 0 rfl rfl (zf_in (by decide) (by decide)) dX7_refuse_16 ?_
      refine lv_topi (fun x_8 ex_8 => ?_)
      refine lv_iconst (v := 1) hx hb dX7_refuse_17 (by decide) ?_
      refine lv_iadd hx hb dX7_refuse_18 ?_
      refine lv_topi (fun x_9 ex_9 => ?_)
      refine va_iast hx hb hK hP hD hS 1 0 rfl rfl (zf_in (by decide) (by decide)) dX7_refuse_19 (fun H locs hP hD hS => ?_)
      obtain ⟨g_10, hg_10⟩ : ∃ g : Nat → Int32, g = upd fr (2 : Int32).toNatClampNeg x_9 := ⟨_, rfl⟩
      rw [← hg_10] at hP hD
      clear hg_10
      replace hP : va_P D vwCl [(x0, .inr (7, [.ref xs, .ref j0, .ref k0, .ref w0, .ref rd, .ref mv, .ref xr, .int im, .int lf])), (xr, .inl (cI, 8, .inl g_10))] H := hP
      replace hD : va_D _ [(x0, .inr (7, [.ref xs, .ref j0, .ref k0, .ref w0, .ref rd, .ref mv, .ref xr, .int im, .int lf])), (xr, .inl (cI, 8, .inl g_10))] := hD
      refine lv_iload_n hx hb dX7_refuse_20 rfl (lv_at hl 1 rfl) ?_
      refine lv_ineg hx hb dX7_refuse_21 ?_
      refine lv_topi (fun y_11 ey_11 => ?_)
      obtain rfl : y_11 = (-2) := ey_11.trans (by decide)
      exact W.iret (v := (-2)) hx hb hr (fun t ht hW => ⟨⟨(-2), g_10, rfl, rfl, by rw [ht]; exact hP.sub (ws' := [(x0, .inr (7, [.ref xs, .ref j0, .ref k0, .ref w0, .ref rd, .ref mv, .ref xr, .int im, .int lf])), (xr, .inl (cI, 8, .inl g_10))]) [0, 1] rfl, hD.sub (ws' := [(x0, .inr (7, [.ref xs, .ref j0, .ref k0, .ref w0, .ref rd, .ref mv, .ref xr, .int im, .int lf])), (xr, .inl (cI, 8, .inl g_10))]) [0, 1] (by decide) rfl⟩, hS.F ht⟩) hS.2.2 dX7_refuse_22
set_option maxHeartbeats 4000000 in
set_option maxRecDepth 100000 in
theorem c_X_refuse_3 (l : Launch) (D : va_G) (cI cJ cZ cP cS : ClassId) (po : zPool) (x0 xs j0 k0 w0 rd mv xr : Nat) (im lf : Int32) (fr : Nat → Int32) (hy0 : 0 ≤ im.toInt) (hy1 : im.toInt ≤ 1) (hy2 : (-1) ≤ lf.toInt) (hy3 : lf.toInt ≤ 160) (hpz : Nat) : Met l yX7_refuse wsX7_refuse ({ frames := 1, cells := 0, slots := 0, locals := 22 }) (va_Pc [.ref x0, .int 3] (zW D (zKT cI cJ cZ cP cS) po [(x0, .inr (7, [.ref xs, .ref j0, .ref k0, .ref w0, .ref rd, .ref mv, .ref xr, .int im, .int lf])), (xr, .inl (cI, 8, .inl fr))] hpz)) (va_Qi (fun (r : Int32) (fr2 : (Nat → Int32)) => r = (-3)) (zB D [(x0, .inr (7, [.ref xs, .ref j0, .ref k0, .ref w0, .ref rd, .ref mv, .ref xr, .int im, .int lf])), (xr, .inl (cI, 8, .inl fr))] hpz (fun (fr2 : Nat → Int32) => [(x0, .inr (7, [.ref xs, .ref j0, .ref k0, .ref w0, .ref rd, .ref mv, .ref xr, .int im, .int lf])), (xr, .inl (cI, 8, .inl fr2))])) (va_A [(x0, .inr (7, [.ref xs, .ref j0, .ref k0, .ref w0, .ref rd, .ref mv, .ref xr, .int im, .int lf])), (xr, .inl (cI, 8, .inl fr))] hpz)) 0 0 (va_A [(x0, .inr (7, [.ref xs, .ref j0, .ref k0, .ref w0, .ref rd, .ref mv, .ref xr, .int im, .int lf])), (xr, .inl (cI, 8, .inl fr))] hpz) := by
  refine Met.ofW (cc := cX7_refuse) (maxL := 2) (ret := (some .int)) (by decide) rfl ?_
  intro p e s m args below meth c s₁ B hml hv
  obtain ⟨rfl, hsz, hP, hK, hD0, hN, hZ⟩ := hv
  have hx := B.exec
  have hb := B.bytes
  have hr := B.returns
  have hts := atoms_spec (ws := wsX7_refuse) B.pre
  have hown : s.vm.findClass RX7 = some m.cls := findClass_of_methodNamed B.named
  have hlocks := B.notSynchronized
  subst hsz
  have hD := hD0.self (sz := s.heap.size)
  have hA : ∀ q : Nat, s.heap.size ≤ q → va_A [(x0, .inr (7, [.ref xs, .ref j0, .ref k0, .ref w0, .ref rd, .ref mv, .ref xr, .int im, .int lf])), (xr, .inl (cI, 8, .inl fr))] s.heap.size q := fun q h => Or.inr h
  have hS : va_S (va_A [(x0, .inr (7, [.ref xs, .ref j0, .ref k0, .ref w0, .ref rd, .ref mv, .ref xr, .int im, .int lf])), (xr, .inl (cI, 8, .inl fr))] s.heap.size) s.heap s.heap [] := va_S.rf
  replace hP : va_P D vwCl _ s.heap := hP
  have hl := lv_entry ([.ref x0, .int 3]) (n := 2) (Nat.le_of_ble_eq_true rfl)
  rw [lg_entry_eq]
  generalize (lg_sl ([.ref x0, .int 3]) ++ List.replicate (2 - (lg_sl ([.ref x0, .int 3])).length) Slot.unset).toArray = ls at hl ⊢
  replace hl : lv_has ls 2 [(0, .ref x0), (1, .int 3)] := hl
  refine zw_start (fun H locs hH hL => ?_)
  replace hP : va_P D vwCl [(x0, .inr (7, [.ref xs, .ref j0, .ref k0, .ref w0, .ref rd, .ref mv, .ref xr, .int im, .int lf])), (xr, .inl (cI, 8, .inl fr))] H := by rw [hH]; exact hP
  replace hS : va_S (va_A [(x0, .inr (7, [.ref xs, .ref j0, .ref k0, .ref w0, .ref rd, .ref mv, .ref xr, .int im, .int lf])), (xr, .inl (cI, 8, .inl fr))] s.heap.size) s.heap H locs := by rw [hH, hL]; exact hS
  clear hH hL
  refine lv_iload_n hx hb dX7_refuse_0 rfl (lv_at hl 1 rfl) ?_
  refine lv_iconst (v := 1) hx hb dX7_refuse_1 (by decide) ?_
  refine lv_bipush (v := 7) hx hb dX7_refuse_2 (by decide) ?_
  have kc3 : (3 : Int32).toInt = 3 := by decide
  have kc1 : (1 : Int32).toInt = 1 := by decide
  have kc7 : (7 : Int32).toInt = 7 := by decide
  refine zc_S (As := [.int 3, .int 1, .int 7]) (rest := []) ⟨hx, hb, hml, hown, hts⟩ (c_within l D cI cJ cZ cP cS po (3) (1) (7) ) (va_cwS 3 hts gX7_refuse_X7_within rfl rfl rfl (by decide +kernel) ⟨Nat.le_of_ble_eq_true rfl, Nat.le_of_ble_eq_true rfl⟩) hK hN (hZ.kept hS) rfl hl.1 rfl (Nat.le_of_ble_eq_true rfl) dX7_refuse_4 ⟨Nat.le_of_ble_eq_true rfl, Nat.le_of_ble_eq_true rfl⟩ (fun r_1 hr_1 => ?_)
  rcases hr_1 with ⟨rfl, g_2⟩ | ⟨rfl, g_3, g_4⟩ | ⟨rfl, g_5, g_6⟩
  · exfalso; omega
  · exfalso; omega
  · refine lv_if_eq (tgt := 20) hx hb dX7_refuse_7 (by decide) (fun c_7 => ?_) (fun c_7 => ?_)
    · exact absurd c_7 (by decide)
    · refine lv_aload_n hx hb dX7_refuse_10 rfl (lv_at hl 0 rfl) ?_
      refine va_get (D := D) (ci := 7) (v := .ref xr) (C := RX7) (T := TX7) (N := 9) hx hb hts hi_X7_refuse_7 hown hK hP 0 rfl rfl 6 (by decide) (hts (.fieldLink RX7 46 "TheLiningsInIt" "refusals" "[I") (List.mem_of_getElem? (i := 1) rfl)) (fun _ h9 => h9) rfl dX7_refuse_11 ?_
      refine lv_iload_n hx hb dX7_refuse_14 rfl (lv_at hl 1 rfl) ?_
      refine lv_dup2_11 hx hb dX7_refuse_15 rfl rfl ?_
      refine va_iald hx hb hK hP 1 0 rfl rfl (zf_in (by decide) (by decide)) dX7_refuse_16 ?_
      refine lv_topi (fun x_8 ex_8 => ?_)
      refine lv_iconst (v := 1) hx hb dX7_refuse_17 (by decide) ?_
      refine lv_iadd hx hb dX7_refuse_18 ?_
      refine lv_topi (fun x_9 ex_9 => ?_)
      refine va_iast hx hb hK hP hD hS 1 0 rfl rfl (zf_in (by decide) (by decide)) dX7_refuse_19 (fun H locs hP hD hS => ?_)
      obtain ⟨g_10, hg_10⟩ : ∃ g : Nat → Int32, g = upd fr (3 : Int32).toNatClampNeg x_9 := ⟨_, rfl⟩
      rw [← hg_10] at hP hD
      clear hg_10
      replace hP : va_P D vwCl [(x0, .inr (7, [.ref xs, .ref j0, .ref k0, .ref w0, .ref rd, .ref mv, .ref xr, .int im, .int lf])), (xr, .inl (cI, 8, .inl g_10))] H := hP
      replace hD : va_D _ [(x0, .inr (7, [.ref xs, .ref j0, .ref k0, .ref w0, .ref rd, .ref mv, .ref xr, .int im, .int lf])), (xr, .inl (cI, 8, .inl g_10))] := hD
      refine lv_iload_n hx hb dX7_refuse_20 rfl (lv_at hl 1 rfl) ?_
      refine lv_ineg hx hb dX7_refuse_21 ?_
      refine lv_topi (fun y_11 ey_11 => ?_)
      obtain rfl : y_11 = (-3) := ey_11.trans (by decide)
      exact W.iret (v := (-3)) hx hb hr (fun t ht hW => ⟨⟨(-3), g_10, rfl, rfl, by rw [ht]; exact hP.sub (ws' := [(x0, .inr (7, [.ref xs, .ref j0, .ref k0, .ref w0, .ref rd, .ref mv, .ref xr, .int im, .int lf])), (xr, .inl (cI, 8, .inl g_10))]) [0, 1] rfl, hD.sub (ws' := [(x0, .inr (7, [.ref xs, .ref j0, .ref k0, .ref w0, .ref rd, .ref mv, .ref xr, .int im, .int lf])), (xr, .inl (cI, 8, .inl g_10))]) [0, 1] (by decide) rfl⟩, hS.F ht⟩) hS.2.2 dX7_refuse_22
set_option maxHeartbeats 4000000 in
set_option maxRecDepth 100000 in
theorem c_X_refuse_4 (l : Launch) (D : va_G) (cI cJ cZ cP cS : ClassId) (po : zPool) (x0 xs j0 k0 w0 rd mv xr : Nat) (im lf : Int32) (fr : Nat → Int32) (hy0 : 0 ≤ im.toInt) (hy1 : im.toInt ≤ 1) (hy2 : (-1) ≤ lf.toInt) (hy3 : lf.toInt ≤ 160) (hpz : Nat) : Met l yX7_refuse wsX7_refuse ({ frames := 1, cells := 0, slots := 0, locals := 22 }) (va_Pc [.ref x0, .int 4] (zW D (zKT cI cJ cZ cP cS) po [(x0, .inr (7, [.ref xs, .ref j0, .ref k0, .ref w0, .ref rd, .ref mv, .ref xr, .int im, .int lf])), (xr, .inl (cI, 8, .inl fr))] hpz)) (va_Qi (fun (r : Int32) (fr2 : (Nat → Int32)) => r = (-4)) (zB D [(x0, .inr (7, [.ref xs, .ref j0, .ref k0, .ref w0, .ref rd, .ref mv, .ref xr, .int im, .int lf])), (xr, .inl (cI, 8, .inl fr))] hpz (fun (fr2 : Nat → Int32) => [(x0, .inr (7, [.ref xs, .ref j0, .ref k0, .ref w0, .ref rd, .ref mv, .ref xr, .int im, .int lf])), (xr, .inl (cI, 8, .inl fr2))])) (va_A [(x0, .inr (7, [.ref xs, .ref j0, .ref k0, .ref w0, .ref rd, .ref mv, .ref xr, .int im, .int lf])), (xr, .inl (cI, 8, .inl fr))] hpz)) 0 0 (va_A [(x0, .inr (7, [.ref xs, .ref j0, .ref k0, .ref w0, .ref rd, .ref mv, .ref xr, .int im, .int lf])), (xr, .inl (cI, 8, .inl fr))] hpz) := by
  refine Met.ofW (cc := cX7_refuse) (maxL := 2) (ret := (some .int)) (by decide) rfl ?_
  intro p e s m args below meth c s₁ B hml hv
  obtain ⟨rfl, hsz, hP, hK, hD0, hN, hZ⟩ := hv
  have hx := B.exec
  have hb := B.bytes
  have hr := B.returns
  have hts := atoms_spec (ws := wsX7_refuse) B.pre
  have hown : s.vm.findClass RX7 = some m.cls := findClass_of_methodNamed B.named
  have hlocks := B.notSynchronized
  subst hsz
  have hD := hD0.self (sz := s.heap.size)
  have hA : ∀ q : Nat, s.heap.size ≤ q → va_A [(x0, .inr (7, [.ref xs, .ref j0, .ref k0, .ref w0, .ref rd, .ref mv, .ref xr, .int im, .int lf])), (xr, .inl (cI, 8, .inl fr))] s.heap.size q := fun q h => Or.inr h
  have hS : va_S (va_A [(x0, .inr (7, [.ref xs, .ref j0, .ref k0, .ref w0, .ref rd, .ref mv, .ref xr, .int im, .int lf])), (xr, .inl (cI, 8, .inl fr))] s.heap.size) s.heap s.heap [] := va_S.rf
  replace hP : va_P D vwCl _ s.heap := hP
  have hl := lv_entry ([.ref x0, .int 4]) (n := 2) (Nat.le_of_ble_eq_true rfl)
  rw [lg_entry_eq]
  generalize (lg_sl ([.ref x0, .int 4]) ++ List.replicate (2 - (lg_sl ([.ref x0, .int 4])).length) Slot.unset).toArray = ls at hl ⊢
  replace hl : lv_has ls 2 [(0, .ref x0), (1, .int 4)] := hl
  refine zw_start (fun H locs hH hL => ?_)
  replace hP : va_P D vwCl [(x0, .inr (7, [.ref xs, .ref j0, .ref k0, .ref w0, .ref rd, .ref mv, .ref xr, .int im, .int lf])), (xr, .inl (cI, 8, .inl fr))] H := by rw [hH]; exact hP
  replace hS : va_S (va_A [(x0, .inr (7, [.ref xs, .ref j0, .ref k0, .ref w0, .ref rd, .ref mv, .ref xr, .int im, .int lf])), (xr, .inl (cI, 8, .inl fr))] s.heap.size) s.heap H locs := by rw [hH, hL]; exact hS
  clear hH hL
  refine lv_iload_n hx hb dX7_refuse_0 rfl (lv_at hl 1 rfl) ?_
  refine lv_iconst (v := 1) hx hb dX7_refuse_1 (by decide) ?_
  refine lv_bipush (v := 7) hx hb dX7_refuse_2 (by decide) ?_
  have kc4 : (4 : Int32).toInt = 4 := by decide
  have kc1 : (1 : Int32).toInt = 1 := by decide
  have kc7 : (7 : Int32).toInt = 7 := by decide
  refine zc_S (As := [.int 4, .int 1, .int 7]) (rest := []) ⟨hx, hb, hml, hown, hts⟩ (c_within l D cI cJ cZ cP cS po (4) (1) (7) ) (va_cwS 3 hts gX7_refuse_X7_within rfl rfl rfl (by decide +kernel) ⟨Nat.le_of_ble_eq_true rfl, Nat.le_of_ble_eq_true rfl⟩) hK hN (hZ.kept hS) rfl hl.1 rfl (Nat.le_of_ble_eq_true rfl) dX7_refuse_4 ⟨Nat.le_of_ble_eq_true rfl, Nat.le_of_ble_eq_true rfl⟩ (fun r_1 hr_1 => ?_)
  rcases hr_1 with ⟨rfl, g_2⟩ | ⟨rfl, g_3, g_4⟩ | ⟨rfl, g_5, g_6⟩
  · exfalso; omega
  · exfalso; omega
  · refine lv_if_eq (tgt := 20) hx hb dX7_refuse_7 (by decide) (fun c_7 => ?_) (fun c_7 => ?_)
    · exact absurd c_7 (by decide)
    · refine lv_aload_n hx hb dX7_refuse_10 rfl (lv_at hl 0 rfl) ?_
      refine va_get (D := D) (ci := 7) (v := .ref xr) (C := RX7) (T := TX7) (N := 9) hx hb hts hi_X7_refuse_7 hown hK hP 0 rfl rfl 6 (by decide) (hts (.fieldLink RX7 46 "TheLiningsInIt" "refusals" "[I") (List.mem_of_getElem? (i := 1) rfl)) (fun _ h9 => h9) rfl dX7_refuse_11 ?_
      refine lv_iload_n hx hb dX7_refuse_14 rfl (lv_at hl 1 rfl) ?_
      refine lv_dup2_11 hx hb dX7_refuse_15 rfl rfl ?_
      refine va_iald hx hb hK hP 1 0 rfl rfl (zf_in (by decide) (by decide)) dX7_refuse_16 ?_
      refine lv_topi (fun x_8 ex_8 => ?_)
      refine lv_iconst (v := 1) hx hb dX7_refuse_17 (by decide) ?_
      refine lv_iadd hx hb dX7_refuse_18 ?_
      refine lv_topi (fun x_9 ex_9 => ?_)
      refine va_iast hx hb hK hP hD hS 1 0 rfl rfl (zf_in (by decide) (by decide)) dX7_refuse_19 (fun H locs hP hD hS => ?_)
      obtain ⟨g_10, hg_10⟩ : ∃ g : Nat → Int32, g = upd fr (4 : Int32).toNatClampNeg x_9 := ⟨_, rfl⟩
      rw [← hg_10] at hP hD
      clear hg_10
      replace hP : va_P D vwCl [(x0, .inr (7, [.ref xs, .ref j0, .ref k0, .ref w0, .ref rd, .ref mv, .ref xr, .int im, .int lf])), (xr, .inl (cI, 8, .inl g_10))] H := hP
      replace hD : va_D _ [(x0, .inr (7, [.ref xs, .ref j0, .ref k0, .ref w0, .ref rd, .ref mv, .ref xr, .int im, .int lf])), (xr, .inl (cI, 8, .inl g_10))] := hD
      refine lv_iload_n hx hb dX7_refuse_20 rfl (lv_at hl 1 rfl) ?_
      refine lv_ineg hx hb dX7_refuse_21 ?_
      refine lv_topi (fun y_11 ey_11 => ?_)
      obtain rfl : y_11 = (-4) := ey_11.trans (by decide)
      exact W.iret (v := (-4)) hx hb hr (fun t ht hW => ⟨⟨(-4), g_10, rfl, rfl, by rw [ht]; exact hP.sub (ws' := [(x0, .inr (7, [.ref xs, .ref j0, .ref k0, .ref w0, .ref rd, .ref mv, .ref xr, .int im, .int lf])), (xr, .inl (cI, 8, .inl g_10))]) [0, 1] rfl, hD.sub (ws' := [(x0, .inr (7, [.ref xs, .ref j0, .ref k0, .ref w0, .ref rd, .ref mv, .ref xr, .int im, .int lf])), (xr, .inl (cI, 8, .inl g_10))]) [0, 1] (by decide) rfl⟩, hS.F ht⟩) hS.2.2 dX7_refuse_22
set_option maxHeartbeats 4000000 in
set_option maxRecDepth 100000 in
theorem c_X_refuse_5 (l : Launch) (D : va_G) (cI cJ cZ cP cS : ClassId) (po : zPool) (x0 xs j0 k0 w0 rd mv xr : Nat) (im lf : Int32) (fr : Nat → Int32) (hy0 : 0 ≤ im.toInt) (hy1 : im.toInt ≤ 1) (hy2 : (-1) ≤ lf.toInt) (hy3 : lf.toInt ≤ 160) (hpz : Nat) : Met l yX7_refuse wsX7_refuse ({ frames := 1, cells := 0, slots := 0, locals := 22 }) (va_Pc [.ref x0, .int 5] (zW D (zKT cI cJ cZ cP cS) po [(x0, .inr (7, [.ref xs, .ref j0, .ref k0, .ref w0, .ref rd, .ref mv, .ref xr, .int im, .int lf])), (xr, .inl (cI, 8, .inl fr))] hpz)) (va_Qi (fun (r : Int32) (fr2 : (Nat → Int32)) => r = (-5)) (zB D [(x0, .inr (7, [.ref xs, .ref j0, .ref k0, .ref w0, .ref rd, .ref mv, .ref xr, .int im, .int lf])), (xr, .inl (cI, 8, .inl fr))] hpz (fun (fr2 : Nat → Int32) => [(x0, .inr (7, [.ref xs, .ref j0, .ref k0, .ref w0, .ref rd, .ref mv, .ref xr, .int im, .int lf])), (xr, .inl (cI, 8, .inl fr2))])) (va_A [(x0, .inr (7, [.ref xs, .ref j0, .ref k0, .ref w0, .ref rd, .ref mv, .ref xr, .int im, .int lf])), (xr, .inl (cI, 8, .inl fr))] hpz)) 0 0 (va_A [(x0, .inr (7, [.ref xs, .ref j0, .ref k0, .ref w0, .ref rd, .ref mv, .ref xr, .int im, .int lf])), (xr, .inl (cI, 8, .inl fr))] hpz) := by
  refine Met.ofW (cc := cX7_refuse) (maxL := 2) (ret := (some .int)) (by decide) rfl ?_
  intro p e s m args below meth c s₁ B hml hv
  obtain ⟨rfl, hsz, hP, hK, hD0, hN, hZ⟩ := hv
  have hx := B.exec
  have hb := B.bytes
  have hr := B.returns
  have hts := atoms_spec (ws := wsX7_refuse) B.pre
  have hown : s.vm.findClass RX7 = some m.cls := findClass_of_methodNamed B.named
  have hlocks := B.notSynchronized
  subst hsz
  have hD := hD0.self (sz := s.heap.size)
  have hA : ∀ q : Nat, s.heap.size ≤ q → va_A [(x0, .inr (7, [.ref xs, .ref j0, .ref k0, .ref w0, .ref rd, .ref mv, .ref xr, .int im, .int lf])), (xr, .inl (cI, 8, .inl fr))] s.heap.size q := fun q h => Or.inr h
  have hS : va_S (va_A [(x0, .inr (7, [.ref xs, .ref j0, .ref k0, .ref w0, .ref rd, .ref mv, .ref xr, .int im, .int lf])), (xr, .inl (cI, 8, .inl fr))] s.heap.size) s.heap s.heap [] := va_S.rf
  replace hP : va_P D vwCl _ s.heap := hP
  have hl := lv_entry ([.ref x0, .int 5]) (n := 2) (Nat.le_of_ble_eq_true rfl)
  rw [lg_entry_eq]
  generalize (lg_sl ([.ref x0, .int 5]) ++ List.replicate (2 - (lg_sl ([.ref x0, .int 5])).length) Slot.unset).toArray = ls at hl ⊢
  replace hl : lv_has ls 2 [(0, .ref x0), (1, .int 5)] := hl
  refine zw_start (fun H locs hH hL => ?_)
  replace hP : va_P D vwCl [(x0, .inr (7, [.ref xs, .ref j0, .ref k0, .ref w0, .ref rd, .ref mv, .ref xr, .int im, .int lf])), (xr, .inl (cI, 8, .inl fr))] H := by rw [hH]; exact hP
  replace hS : va_S (va_A [(x0, .inr (7, [.ref xs, .ref j0, .ref k0, .ref w0, .ref rd, .ref mv, .ref xr, .int im, .int lf])), (xr, .inl (cI, 8, .inl fr))] s.heap.size) s.heap H locs := by rw [hH, hL]; exact hS
  clear hH hL
  refine lv_iload_n hx hb dX7_refuse_0 rfl (lv_at hl 1 rfl) ?_
  refine lv_iconst (v := 1) hx hb dX7_refuse_1 (by decide) ?_
  refine lv_bipush (v := 7) hx hb dX7_refuse_2 (by decide) ?_
  have kc5 : (5 : Int32).toInt = 5 := by decide
  have kc1 : (1 : Int32).toInt = 1 := by decide
  have kc7 : (7 : Int32).toInt = 7 := by decide
  refine zc_S (As := [.int 5, .int 1, .int 7]) (rest := []) ⟨hx, hb, hml, hown, hts⟩ (c_within l D cI cJ cZ cP cS po (5) (1) (7) ) (va_cwS 3 hts gX7_refuse_X7_within rfl rfl rfl (by decide +kernel) ⟨Nat.le_of_ble_eq_true rfl, Nat.le_of_ble_eq_true rfl⟩) hK hN (hZ.kept hS) rfl hl.1 rfl (Nat.le_of_ble_eq_true rfl) dX7_refuse_4 ⟨Nat.le_of_ble_eq_true rfl, Nat.le_of_ble_eq_true rfl⟩ (fun r_1 hr_1 => ?_)
  rcases hr_1 with ⟨rfl, g_2⟩ | ⟨rfl, g_3, g_4⟩ | ⟨rfl, g_5, g_6⟩
  · exfalso; omega
  · exfalso; omega
  · refine lv_if_eq (tgt := 20) hx hb dX7_refuse_7 (by decide) (fun c_7 => ?_) (fun c_7 => ?_)
    · exact absurd c_7 (by decide)
    · refine lv_aload_n hx hb dX7_refuse_10 rfl (lv_at hl 0 rfl) ?_
      refine va_get (D := D) (ci := 7) (v := .ref xr) (C := RX7) (T := TX7) (N := 9) hx hb hts hi_X7_refuse_7 hown hK hP 0 rfl rfl 6 (by decide) (hts (.fieldLink RX7 46 "TheLiningsInIt" "refusals" "[I") (List.mem_of_getElem? (i := 1) rfl)) (fun _ h9 => h9) rfl dX7_refuse_11 ?_
      refine lv_iload_n hx hb dX7_refuse_14 rfl (lv_at hl 1 rfl) ?_
      refine lv_dup2_11 hx hb dX7_refuse_15 rfl rfl ?_
      refine va_iald hx hb hK hP 1 0 rfl rfl (zf_in (by decide) (by decide)) dX7_refuse_16 ?_
      refine lv_topi (fun x_8 ex_8 => ?_)
      refine lv_iconst (v := 1) hx hb dX7_refuse_17 (by decide) ?_
      refine lv_iadd hx hb dX7_refuse_18 ?_
      refine lv_topi (fun x_9 ex_9 => ?_)
      refine va_iast hx hb hK hP hD hS 1 0 rfl rfl (zf_in (by decide) (by decide)) dX7_refuse_19 (fun H locs hP hD hS => ?_)
      obtain ⟨g_10, hg_10⟩ : ∃ g : Nat → Int32, g = upd fr (5 : Int32).toNatClampNeg x_9 := ⟨_, rfl⟩
      rw [← hg_10] at hP hD
      clear hg_10
      replace hP : va_P D vwCl [(x0, .inr (7, [.ref xs, .ref j0, .ref k0, .ref w0, .ref rd, .ref mv, .ref xr, .int im, .int lf])), (xr, .inl (cI, 8, .inl g_10))] H := hP
      replace hD : va_D _ [(x0, .inr (7, [.ref xs, .ref j0, .ref k0, .ref w0, .ref rd, .ref mv, .ref xr, .int im, .int lf])), (xr, .inl (cI, 8, .inl g_10))] := hD
      refine lv_iload_n hx hb dX7_refuse_20 rfl (lv_at hl 1 rfl) ?_
      refine lv_ineg hx hb dX7_refuse_21 ?_
      refine lv_topi (fun y_11 ey_11 => ?_)
      obtain rfl : y_11 = (-5) := ey_11.trans (by decide)
      exact W.iret (v := (-5)) hx hb hr (fun t ht hW => ⟨⟨(-5), g_10, rfl, rfl, by rw [ht]; exact hP.sub (ws' := [(x0, .inr (7, [.ref xs, .ref j0, .ref k0, .ref w0, .ref rd, .ref mv, .ref xr, .int im, .int lf])), (xr, .inl (cI, 8, .inl g_10))]) [0, 1] rfl, hD.sub (ws' := [(x0, .inr (7, [.ref xs, .ref j0, .ref k0, .ref w0, .ref rd, .ref mv, .ref xr, .int im, .int lf])), (xr, .inl (cI, 8, .inl g_10))]) [0, 1] (by decide) rfl⟩, hS.F ht⟩) hS.2.2 dX7_refuse_22
set_option maxHeartbeats 4000000 in
set_option maxRecDepth 100000 in
theorem c_X_refuse_6 (l : Launch) (D : va_G) (cI cJ cZ cP cS : ClassId) (po : zPool) (x0 xs j0 k0 w0 rd mv xr : Nat) (im lf : Int32) (fr : Nat → Int32) (hy0 : 0 ≤ im.toInt) (hy1 : im.toInt ≤ 1) (hy2 : (-1) ≤ lf.toInt) (hy3 : lf.toInt ≤ 160) (hpz : Nat) : Met l yX7_refuse wsX7_refuse ({ frames := 1, cells := 0, slots := 0, locals := 22 }) (va_Pc [.ref x0, .int 6] (zW D (zKT cI cJ cZ cP cS) po [(x0, .inr (7, [.ref xs, .ref j0, .ref k0, .ref w0, .ref rd, .ref mv, .ref xr, .int im, .int lf])), (xr, .inl (cI, 8, .inl fr))] hpz)) (va_Qi (fun (r : Int32) (fr2 : (Nat → Int32)) => r = (-6)) (zB D [(x0, .inr (7, [.ref xs, .ref j0, .ref k0, .ref w0, .ref rd, .ref mv, .ref xr, .int im, .int lf])), (xr, .inl (cI, 8, .inl fr))] hpz (fun (fr2 : Nat → Int32) => [(x0, .inr (7, [.ref xs, .ref j0, .ref k0, .ref w0, .ref rd, .ref mv, .ref xr, .int im, .int lf])), (xr, .inl (cI, 8, .inl fr2))])) (va_A [(x0, .inr (7, [.ref xs, .ref j0, .ref k0, .ref w0, .ref rd, .ref mv, .ref xr, .int im, .int lf])), (xr, .inl (cI, 8, .inl fr))] hpz)) 0 0 (va_A [(x0, .inr (7, [.ref xs, .ref j0, .ref k0, .ref w0, .ref rd, .ref mv, .ref xr, .int im, .int lf])), (xr, .inl (cI, 8, .inl fr))] hpz) := by
  refine Met.ofW (cc := cX7_refuse) (maxL := 2) (ret := (some .int)) (by decide) rfl ?_
  intro p e s m args below meth c s₁ B hml hv
  obtain ⟨rfl, hsz, hP, hK, hD0, hN, hZ⟩ := hv
  have hx := B.exec
  have hb := B.bytes
  have hr := B.returns
  have hts := atoms_spec (ws := wsX7_refuse) B.pre
  have hown : s.vm.findClass RX7 = some m.cls := findClass_of_methodNamed B.named
  have hlocks := B.notSynchronized
  subst hsz
  have hD := hD0.self (sz := s.heap.size)
  have hA : ∀ q : Nat, s.heap.size ≤ q → va_A [(x0, .inr (7, [.ref xs, .ref j0, .ref k0, .ref w0, .ref rd, .ref mv, .ref xr, .int im, .int lf])), (xr, .inl (cI, 8, .inl fr))] s.heap.size q := fun q h => Or.inr h
  have hS : va_S (va_A [(x0, .inr (7, [.ref xs, .ref j0, .ref k0, .ref w0, .ref rd, .ref mv, .ref xr, .int im, .int lf])), (xr, .inl (cI, 8, .inl fr))] s.heap.size) s.heap s.heap [] := va_S.rf
  replace hP : va_P D vwCl _ s.heap := hP
  have hl := lv_entry ([.ref x0, .int 6]) (n := 2) (Nat.le_of_ble_eq_true rfl)
  rw [lg_entry_eq]
  generalize (lg_sl ([.ref x0, .int 6]) ++ List.replicate (2 - (lg_sl ([.ref x0, .int 6])).length) Slot.unset).toArray = ls at hl ⊢
  replace hl : lv_has ls 2 [(0, .ref x0), (1, .int 6)] := hl
  refine zw_start (fun H locs hH hL => ?_)
  replace hP : va_P D vwCl [(x0, .inr (7, [.ref xs, .ref j0, .ref k0, .ref w0, .ref rd, .ref mv, .ref xr, .int im, .int lf])), (xr, .inl (cI, 8, .inl fr))] H := by rw [hH]; exact hP
  replace hS : va_S (va_A [(x0, .inr (7, [.ref xs, .ref j0, .ref k0, .ref w0, .ref rd, .ref mv, .ref xr, .int im, .int lf])), (xr, .inl (cI, 8, .inl fr))] s.heap.size) s.heap H locs := by rw [hH, hL]; exact hS
  clear hH hL
  refine lv_iload_n hx hb dX7_refuse_0 rfl (lv_at hl 1 rfl) ?_
  refine lv_iconst (v := 1) hx hb dX7_refuse_1 (by decide) ?_
  refine lv_bipush (v := 7) hx hb dX7_refuse_2 (by decide) ?_
  have kc6 : (6 : Int32).toInt = 6 := by decide
  have kc1 : (1 : Int32).toInt = 1 := by decide
  have kc7 : (7 : Int32).toInt = 7 := by decide
  refine zc_S (As := [.int 6, .int 1, .int 7]) (rest := []) ⟨hx, hb, hml, hown, hts⟩ (c_within l D cI cJ cZ cP cS po (6) (1) (7) ) (va_cwS 3 hts gX7_refuse_X7_within rfl rfl rfl (by decide +kernel) ⟨Nat.le_of_ble_eq_true rfl, Nat.le_of_ble_eq_true rfl⟩) hK hN (hZ.kept hS) rfl hl.1 rfl (Nat.le_of_ble_eq_true rfl) dX7_refuse_4 ⟨Nat.le_of_ble_eq_true rfl, Nat.le_of_ble_eq_true rfl⟩ (fun r_1 hr_1 => ?_)
  rcases hr_1 with ⟨rfl, g_2⟩ | ⟨rfl, g_3, g_4⟩ | ⟨rfl, g_5, g_6⟩
  · exfalso; omega
  · exfalso; omega
  · refine lv_if_eq (tgt := 20) hx hb dX7_refuse_7 (by decide) (fun c_7 => ?_) (fun c_7 => ?_)
    · exact absurd c_7 (by decide)
    · refine lv_aload_n hx hb dX7_refuse_10 rfl (lv_at hl 0 rfl) ?_
      refine va_get (D := D) (ci := 7) (v := .ref xr) (C := RX7) (T := TX7) (N := 9) hx hb hts hi_X7_refuse_7 hown hK hP 0 rfl rfl 6 (by decide) (hts (.fieldLink RX7 46 "TheLiningsInIt" "refusals" "[I") (List.mem_of_getElem? (i := 1) rfl)) (fun _ h9 => h9) rfl dX7_refuse_11 ?_
      refine lv_iload_n hx hb dX7_refuse_14 rfl (lv_at hl 1 rfl) ?_
      refine lv_dup2_11 hx hb dX7_refuse_15 rfl rfl ?_
      refine va_iald hx hb hK hP 1 0 rfl rfl (zf_in (by decide) (by decide)) dX7_refuse_16 ?_
      refine lv_topi (fun x_8 ex_8 => ?_)
      refine lv_iconst (v := 1) hx hb dX7_refuse_17 (by decide) ?_
      refine lv_iadd hx hb dX7_refuse_18 ?_
      refine lv_topi (fun x_9 ex_9 => ?_)
      refine va_iast hx hb hK hP hD hS 1 0 rfl rfl (zf_in (by decide) (by decide)) dX7_refuse_19 (fun H locs hP hD hS => ?_)
      obtain ⟨g_10, hg_10⟩ : ∃ g : Nat → Int32, g = upd fr (6 : Int32).toNatClampNeg x_9 := ⟨_, rfl⟩
      rw [← hg_10] at hP hD
      clear hg_10
      replace hP : va_P D vwCl [(x0, .inr (7, [.ref xs, .ref j0, .ref k0, .ref w0, .ref rd, .ref mv, .ref xr, .int im, .int lf])), (xr, .inl (cI, 8, .inl g_10))] H := hP
      replace hD : va_D _ [(x0, .inr (7, [.ref xs, .ref j0, .ref k0, .ref w0, .ref rd, .ref mv, .ref xr, .int im, .int lf])), (xr, .inl (cI, 8, .inl g_10))] := hD
      refine lv_iload_n hx hb dX7_refuse_20 rfl (lv_at hl 1 rfl) ?_
      refine lv_ineg hx hb dX7_refuse_21 ?_
      refine lv_topi (fun y_11 ey_11 => ?_)
      obtain rfl : y_11 = (-6) := ey_11.trans (by decide)
      exact W.iret (v := (-6)) hx hb hr (fun t ht hW => ⟨⟨(-6), g_10, rfl, rfl, by rw [ht]; exact hP.sub (ws' := [(x0, .inr (7, [.ref xs, .ref j0, .ref k0, .ref w0, .ref rd, .ref mv, .ref xr, .int im, .int lf])), (xr, .inl (cI, 8, .inl g_10))]) [0, 1] rfl, hD.sub (ws' := [(x0, .inr (7, [.ref xs, .ref j0, .ref k0, .ref w0, .ref rd, .ref mv, .ref xr, .int im, .int lf])), (xr, .inl (cI, 8, .inl g_10))]) [0, 1] (by decide) rfl⟩, hS.F ht⟩) hS.2.2 dX7_refuse_22
set_option maxHeartbeats 4000000 in
set_option maxRecDepth 100000 in
theorem c_X_refuse_7 (l : Launch) (D : va_G) (cI cJ cZ cP cS : ClassId) (po : zPool) (x0 xs j0 k0 w0 rd mv xr : Nat) (im lf : Int32) (fr : Nat → Int32) (hy0 : 0 ≤ im.toInt) (hy1 : im.toInt ≤ 1) (hy2 : (-1) ≤ lf.toInt) (hy3 : lf.toInt ≤ 160) (hpz : Nat) : Met l yX7_refuse wsX7_refuse ({ frames := 1, cells := 0, slots := 0, locals := 22 }) (va_Pc [.ref x0, .int 7] (zW D (zKT cI cJ cZ cP cS) po [(x0, .inr (7, [.ref xs, .ref j0, .ref k0, .ref w0, .ref rd, .ref mv, .ref xr, .int im, .int lf])), (xr, .inl (cI, 8, .inl fr))] hpz)) (va_Qi (fun (r : Int32) (fr2 : (Nat → Int32)) => r = (-7)) (zB D [(x0, .inr (7, [.ref xs, .ref j0, .ref k0, .ref w0, .ref rd, .ref mv, .ref xr, .int im, .int lf])), (xr, .inl (cI, 8, .inl fr))] hpz (fun (fr2 : Nat → Int32) => [(x0, .inr (7, [.ref xs, .ref j0, .ref k0, .ref w0, .ref rd, .ref mv, .ref xr, .int im, .int lf])), (xr, .inl (cI, 8, .inl fr2))])) (va_A [(x0, .inr (7, [.ref xs, .ref j0, .ref k0, .ref w0, .ref rd, .ref mv, .ref xr, .int im, .int lf])), (xr, .inl (cI, 8, .inl fr))] hpz)) 0 0 (va_A [(x0, .inr (7, [.ref xs, .ref j0, .ref k0, .ref w0, .ref rd, .ref mv, .ref xr, .int im, .int lf])), (xr, .inl (cI, 8, .inl fr))] hpz) := by
  refine Met.ofW (cc := cX7_refuse) (maxL := 2) (ret := (some .int)) (by decide) rfl ?_
  intro p e s m args below meth c s₁ B hml hv
  obtain ⟨rfl, hsz, hP, hK, hD0, hN, hZ⟩ := hv
  have hx := B.exec
  have hb := B.bytes
  have hr := B.returns
  have hts := atoms_spec (ws := wsX7_refuse) B.pre
  have hown : s.vm.findClass RX7 = some m.cls := findClass_of_methodNamed B.named
  have hlocks := B.notSynchronized
  subst hsz
  have hD := hD0.self (sz := s.heap.size)
  have hA : ∀ q : Nat, s.heap.size ≤ q → va_A [(x0, .inr (7, [.ref xs, .ref j0, .ref k0, .ref w0, .ref rd, .ref mv, .ref xr, .int im, .int lf])), (xr, .inl (cI, 8, .inl fr))] s.heap.size q := fun q h => Or.inr h
  have hS : va_S (va_A [(x0, .inr (7, [.ref xs, .ref j0, .ref k0, .ref w0, .ref rd, .ref mv, .ref xr, .int im, .int lf])), (xr, .inl (cI, 8, .inl fr))] s.heap.size) s.heap s.heap [] := va_S.rf
  replace hP : va_P D vwCl _ s.heap := hP
  have hl := lv_entry ([.ref x0, .int 7]) (n := 2) (Nat.le_of_ble_eq_true rfl)
  rw [lg_entry_eq]
  generalize (lg_sl ([.ref x0, .int 7]) ++ List.replicate (2 - (lg_sl ([.ref x0, .int 7])).length) Slot.unset).toArray = ls at hl ⊢
  replace hl : lv_has ls 2 [(0, .ref x0), (1, .int 7)] := hl
  refine zw_start (fun H locs hH hL => ?_)
  replace hP : va_P D vwCl [(x0, .inr (7, [.ref xs, .ref j0, .ref k0, .ref w0, .ref rd, .ref mv, .ref xr, .int im, .int lf])), (xr, .inl (cI, 8, .inl fr))] H := by rw [hH]; exact hP
  replace hS : va_S (va_A [(x0, .inr (7, [.ref xs, .ref j0, .ref k0, .ref w0, .ref rd, .ref mv, .ref xr, .int im, .int lf])), (xr, .inl (cI, 8, .inl fr))] s.heap.size) s.heap H locs := by rw [hH, hL]; exact hS
  clear hH hL
  refine lv_iload_n hx hb dX7_refuse_0 rfl (lv_at hl 1 rfl) ?_
  refine lv_iconst (v := 1) hx hb dX7_refuse_1 (by decide) ?_
  refine lv_bipush (v := 7) hx hb dX7_refuse_2 (by decide) ?_
  have kc7 : (7 : Int32).toInt = 7 := by decide
  have kc1 : (1 : Int32).toInt = 1 := by decide
  refine zc_S (As := [.int 7, .int 1, .int 7]) (rest := []) ⟨hx, hb, hml, hown, hts⟩ (c_within l D cI cJ cZ cP cS po (7) (1) (7) ) (va_cwS 3 hts gX7_refuse_X7_within rfl rfl rfl (by decide +kernel) ⟨Nat.le_of_ble_eq_true rfl, Nat.le_of_ble_eq_true rfl⟩) hK hN (hZ.kept hS) rfl hl.1 rfl (Nat.le_of_ble_eq_true rfl) dX7_refuse_4 ⟨Nat.le_of_ble_eq_true rfl, Nat.le_of_ble_eq_true rfl⟩ (fun r_1 hr_1 => ?_)
  rcases hr_1 with ⟨rfl, g_2⟩ | ⟨rfl, g_3, g_4⟩ | ⟨rfl, g_5, g_6⟩
  · exfalso; omega
  · exfalso; omega
  · refine lv_if_eq (tgt := 20) hx hb dX7_refuse_7 (by decide) (fun c_7 => ?_) (fun c_7 => ?_)
    · exact absurd c_7 (by decide)
    · refine lv_aload_n hx hb dX7_refuse_10 rfl (lv_at hl 0 rfl) ?_
      refine va_get (D := D) (ci := 7) (v := .ref xr) (C := RX7) (T := TX7) (N := 9) hx hb hts hi_X7_refuse_7 hown hK hP 0 rfl rfl 6 (by decide) (hts (.fieldLink RX7 46 "TheLiningsInIt" "refusals" "[I") (List.mem_of_getElem? (i := 1) rfl)) (fun _ h9 => h9) rfl dX7_refuse_11 ?_
      refine lv_iload_n hx hb dX7_refuse_14 rfl (lv_at hl 1 rfl) ?_
      refine lv_dup2_11 hx hb dX7_refuse_15 rfl rfl ?_
      refine va_iald hx hb hK hP 1 0 rfl rfl (zf_in (by decide) (by decide)) dX7_refuse_16 ?_
      refine lv_topi (fun x_8 ex_8 => ?_)
      refine lv_iconst (v := 1) hx hb dX7_refuse_17 (by decide) ?_
      refine lv_iadd hx hb dX7_refuse_18 ?_
      refine lv_topi (fun x_9 ex_9 => ?_)
      refine va_iast hx hb hK hP hD hS 1 0 rfl rfl (zf_in (by decide) (by decide)) dX7_refuse_19 (fun H locs hP hD hS => ?_)
      obtain ⟨g_10, hg_10⟩ : ∃ g : Nat → Int32, g = upd fr (7 : Int32).toNatClampNeg x_9 := ⟨_, rfl⟩
      rw [← hg_10] at hP hD
      clear hg_10
      replace hP : va_P D vwCl [(x0, .inr (7, [.ref xs, .ref j0, .ref k0, .ref w0, .ref rd, .ref mv, .ref xr, .int im, .int lf])), (xr, .inl (cI, 8, .inl g_10))] H := hP
      replace hD : va_D _ [(x0, .inr (7, [.ref xs, .ref j0, .ref k0, .ref w0, .ref rd, .ref mv, .ref xr, .int im, .int lf])), (xr, .inl (cI, 8, .inl g_10))] := hD
      refine lv_iload_n hx hb dX7_refuse_20 rfl (lv_at hl 1 rfl) ?_
      refine lv_ineg hx hb dX7_refuse_21 ?_
      refine lv_topi (fun y_11 ey_11 => ?_)
      obtain rfl : y_11 = (-7) := ey_11.trans (by decide)
      exact W.iret (v := (-7)) hx hb hr (fun t ht hW => ⟨⟨(-7), g_10, rfl, rfl, by rw [ht]; exact hP.sub (ws' := [(x0, .inr (7, [.ref xs, .ref j0, .ref k0, .ref w0, .ref rd, .ref mv, .ref xr, .int im, .int lf])), (xr, .inl (cI, 8, .inl g_10))]) [0, 1] rfl, hD.sub (ws' := [(x0, .inr (7, [.ref xs, .ref j0, .ref k0, .ref w0, .ref rd, .ref mv, .ref xr, .int im, .int lf])), (xr, .inl (cI, 8, .inl g_10))]) [0, 1] (by decide) rfl⟩, hS.F ht⟩) hS.2.2 dX7_refuse_22
set_option maxHeartbeats 4000000 in
set_option maxRecDepth 100000 in
theorem c_X_refuse (l : Launch) (D : va_G) (cI cJ cZ cP cS : ClassId) (po : zPool) (x0 xs j0 k0 w0 rd mv xr : Nat) (im lf : Int32) (fr : Nat → Int32) (n : Int32) (hy0 : 0 ≤ im.toInt) (hy1 : im.toInt ≤ 1) (hy2 : (-1) ≤ lf.toInt) (hy3 : lf.toInt ≤ 160) (hy4 : 1 ≤ n.toInt) (hy5 : n.toInt ≤ 7) (hpz : Nat) : Met l yX7_refuse wsX7_refuse ({ frames := 1, cells := 0, slots := 0, locals := 22 }) (va_Pc [.ref x0, .int n] (zW D (zKT cI cJ cZ cP cS) po [(x0, .inr (7, [.ref xs, .ref j0, .ref k0, .ref w0, .ref rd, .ref mv, .ref xr, .int im, .int lf])), (xr, .inl (cI, 8, .inl fr))] hpz)) (va_Qi (fun (r : Int32) (fr2 : (Nat → Int32)) => (r.toInt = -n.toInt) ∧ (-7 ≤ r.toInt ∧ r.toInt ≤ -1)) (zB D [(x0, .inr (7, [.ref xs, .ref j0, .ref k0, .ref w0, .ref rd, .ref mv, .ref xr, .int im, .int lf])), (xr, .inl (cI, 8, .inl fr))] hpz (fun (fr2 : Nat → Int32) => [(x0, .inr (7, [.ref xs, .ref j0, .ref k0, .ref w0, .ref rd, .ref mv, .ref xr, .int im, .int lf])), (xr, .inl (cI, 8, .inl fr2))])) (va_A [(x0, .inr (7, [.ref xs, .ref j0, .ref k0, .ref w0, .ref rd, .ref mv, .ref xr, .int im, .int lf])), (xr, .inl (cI, 8, .inl fr))] hpz)) 0 0 (va_A [(x0, .inr (7, [.ref xs, .ref j0, .ref k0, .ref w0, .ref rd, .ref mv, .ref xr, .int im, .int lf])), (xr, .inl (cI, 8, .inl fr))] hpz) := by
  refine Met.ofW (cc := cX7_refuse) (maxL := 2) (ret := (some .int)) (by decide) rfl ?_
  intro p e s m args below meth c s₁ B hml hv
  obtain ⟨rfl, hsz, hP, hK, hD0, hN, hZ⟩ := hv
  have hx := B.exec
  have hb := B.bytes
  have hr := B.returns
  have hts := atoms_spec (ws := wsX7_refuse) B.pre
  have hown : s.vm.findClass RX7 = some m.cls := findClass_of_methodNamed B.named
  have hlocks := B.notSynchronized
  subst hsz
  have hD := hD0.self (sz := s.heap.size)
  have hA : ∀ q : Nat, s.heap.size ≤ q → va_A [(x0, .inr (7, [.ref xs, .ref j0, .ref k0, .ref w0, .ref rd, .ref mv, .ref xr, .int im, .int lf])), (xr, .inl (cI, 8, .inl fr))] s.heap.size q := fun q h => Or.inr h
  have hS : va_S (va_A [(x0, .inr (7, [.ref xs, .ref j0, .ref k0, .ref w0, .ref rd, .ref mv, .ref xr, .int im, .int lf])), (xr, .inl (cI, 8, .inl fr))] s.heap.size) s.heap s.heap [] := va_S.rf
  replace hP : va_P D vwCl _ s.heap := hP
  have hl := lv_entry ([.ref x0, .int n]) (n := 2) (Nat.le_of_ble_eq_true rfl)
  rw [lg_entry_eq]
  generalize (lg_sl ([.ref x0, .int n]) ++ List.replicate (2 - (lg_sl ([.ref x0, .int n])).length) Slot.unset).toArray = ls at hl ⊢
  replace hl : lv_has ls 2 [(0, .ref x0), (1, .int n)] := hl
  refine zw_start (fun H locs hH hL => ?_)
  replace hP : va_P D vwCl [(x0, .inr (7, [.ref xs, .ref j0, .ref k0, .ref w0, .ref rd, .ref mv, .ref xr, .int im, .int lf])), (xr, .inl (cI, 8, .inl fr))] H := by rw [hH]; exact hP
  replace hS : va_S (va_A [(x0, .inr (7, [.ref xs, .ref j0, .ref k0, .ref w0, .ref rd, .ref mv, .ref xr, .int im, .int lf])), (xr, .inl (cI, 8, .inl fr))] s.heap.size) s.heap H locs := by rw [hH, hL]; exact hS
  clear hH hL
  refine lv_iload_n hx hb dX7_refuse_0 rfl (lv_at hl 1 rfl) ?_
  refine lv_iconst (v := 1) hx hb dX7_refuse_1 (by decide) ?_
  refine lv_bipush (v := 7) hx hb dX7_refuse_2 (by decide) ?_
  have kc1 : (1 : Int32).toInt = 1 := by decide
  have kc7 : (7 : Int32).toInt = 7 := by decide
  refine zc_S (As := [.int n, .int 1, .int 7]) (rest := []) ⟨hx, hb, hml, hown, hts⟩ (c_within l D cI cJ cZ cP cS po (n) (1) (7) ) (va_cwS 3 hts gX7_refuse_X7_within rfl rfl rfl (by decide +kernel) ⟨Nat.le_of_ble_eq_true rfl, Nat.le_of_ble_eq_true rfl⟩) hK hN (hZ.kept hS) rfl hl.1 rfl (Nat.le_of_ble_eq_true rfl) dX7_refuse_4 ⟨Nat.le_of_ble_eq_true rfl, Nat.le_of_ble_eq_true rfl⟩ (fun r_1 hr_1 => ?_)
  rcases hr_1 with ⟨rfl, g_2⟩ | ⟨rfl, g_3, g_4⟩ | ⟨rfl, g_5, g_6⟩
  · exfalso; omega
  · exfalso; omega
  · refine lv_if_eq (tgt := 20) hx hb dX7_refuse_7 (by decide) (fun c_7 => ?_) (fun c_7 => ?_)
    · exact absurd c_7 (by decide)
    · refine lv_aload_n hx hb dX7_refuse_10 rfl (lv_at hl 0 rfl) ?_
      refine va_get (D := D) (ci := 7) (v := .ref xr) (C := RX7) (T := TX7) (N := 9) hx hb hts hi_X7_refuse_7 hown hK hP 0 rfl rfl 6 (by decide) (hts (.fieldLink RX7 46 "TheLiningsInIt" "refusals" "[I") (List.mem_of_getElem? (i := 1) rfl)) (fun _ h9 => h9) rfl dX7_refuse_11 ?_
      refine lv_iload_n hx hb dX7_refuse_14 rfl (lv_at hl 1 rfl) ?_
      refine lv_dup2_11 hx hb dX7_refuse_15 rfl rfl ?_
      refine va_iald hx hb hK hP 1 0 rfl rfl (zf_in (by omega) (by omega)) dX7_refuse_16 ?_
      refine lv_topi (fun x_8 ex_8 => ?_)
      refine lv_iconst (v := 1) hx hb dX7_refuse_17 (by decide) ?_
      refine lv_iadd hx hb dX7_refuse_18 ?_
      refine lv_topi (fun x_9 ex_9 => ?_)
      refine va_iast hx hb hK hP hD hS 1 0 rfl rfl (zf_in (by omega) (by omega)) dX7_refuse_19 (fun H locs hP hD hS => ?_)
      obtain ⟨g_10, hg_10⟩ : ∃ g : Nat → Int32, g = upd fr n.toNatClampNeg x_9 := ⟨_, rfl⟩
      rw [← hg_10] at hP hD
      clear hg_10
      replace hP : va_P D vwCl [(x0, .inr (7, [.ref xs, .ref j0, .ref k0, .ref w0, .ref rd, .ref mv, .ref xr, .int im, .int lf])), (xr, .inl (cI, 8, .inl g_10))] H := hP
      replace hD : va_D _ [(x0, .inr (7, [.ref xs, .ref j0, .ref k0, .ref w0, .ref rd, .ref mv, .ref xr, .int im, .int lf])), (xr, .inl (cI, 8, .inl g_10))] := hD
      refine lv_iload_n hx hb dX7_refuse_20 rfl (lv_at hl 1 rfl) ?_
      refine lv_ineg hx hb dX7_refuse_21 ?_
      refine lv_topi (fun x_11 ex_11 => ?_)
      have qx_11 : x_11.toInt = -n.toInt := by rw [ex_11]; exact zf_neg rfl (by omega) (by omega)
      exact W.iret (v := x_11) hx hb hr (fun t ht hW => ⟨⟨x_11, g_10, rfl, ⟨(show (x_11 : Int32).toInt = -n.toInt from by omega), ⟨by omega, by omega⟩⟩, by rw [ht]; exact hP.sub (ws' := [(x0, .inr (7, [.ref xs, .ref j0, .ref k0, .ref w0, .ref rd, .ref mv, .ref xr, .int im, .int lf])), (xr, .inl (cI, 8, .inl g_10))]) [0, 1] rfl, hD.sub (ws' := [(x0, .inr (7, [.ref xs, .ref j0, .ref k0, .ref w0, .ref rd, .ref mv, .ref xr, .int im, .int lf])), (xr, .inl (cI, 8, .inl g_10))]) [0, 1] (by decide) rfl⟩, hS.F ht⟩) hS.2.2 dX7_refuse_22
set_option maxHeartbeats 4000000 in
set_option maxRecDepth 100000 in
theorem c_X_refuseLower_1 (l : Launch) (D : va_G) (cI cJ cZ cP cS : ClassId) (po : zPool) (x0 xs j0 k0 w0 rd mv xr : Nat) (im lf : Int32) (fr : Nat → Int32) (hy0 : 0 ≤ im.toInt) (hy1 : im.toInt ≤ 1) (hy2 : (-1) ≤ lf.toInt) (hy3 : lf.toInt ≤ 160) (hpz : Nat) : Met l yX7_refuseLower wsX7_refuseLower ({ frames := 2, cells := 0, slots := 0, locals := 43 }) (va_Pc [.ref x0, .int 1] (zW D (zKT cI cJ cZ cP cS) po [(x0, .inr (7, [.ref xs, .ref j0, .ref k0, .ref w0, .ref rd, .ref mv, .ref xr, .int im, .int lf])), (xr, .inl (cI, 8, .inl fr))] hpz)) (va_Qi (fun (r : Int32) (fr2 : (Nat → Int32)) => r = (-11)) (zB D [(x0, .inr (7, [.ref xs, .ref j0, .ref k0, .ref w0, .ref rd, .ref mv, .ref xr, .int im, .int lf])), (xr, .inl (cI, 8, .inl fr))] hpz (fun (fr2 : Nat → Int32) => [(x0, .inr (7, [.ref xs, .ref j0, .ref k0, .ref w0, .ref rd, .ref mv, .ref xr, .int im, .int lf])), (xr, .inl (cI, 8, .inl fr2))])) (va_A [(x0, .inr (7, [.ref xs, .ref j0, .ref k0, .ref w0, .ref rd, .ref mv, .ref xr, .int im, .int lf])), (xr, .inl (cI, 8, .inl fr))] hpz)) 0 0 (va_A [(x0, .inr (7, [.ref xs, .ref j0, .ref k0, .ref w0, .ref rd, .ref mv, .ref xr, .int im, .int lf])), (xr, .inl (cI, 8, .inl fr))] hpz) := by
  refine Met.ofW (cc := cX7_refuseLower) (maxL := 2) (ret := (some .int)) (by decide) rfl ?_
  intro p e s m args below meth c s₁ B hml hv
  obtain ⟨rfl, hsz, hP, hK, hD0, hN, hZ⟩ := hv
  have hx := B.exec
  have hb := B.bytes
  have hr := B.returns
  have hts := atoms_spec (ws := wsX7_refuseLower) B.pre
  have hown : s.vm.findClass RX7 = some m.cls := findClass_of_methodNamed B.named
  have hlocks := B.notSynchronized
  subst hsz
  have hD := hD0.self (sz := s.heap.size)
  have hA : ∀ q : Nat, s.heap.size ≤ q → va_A [(x0, .inr (7, [.ref xs, .ref j0, .ref k0, .ref w0, .ref rd, .ref mv, .ref xr, .int im, .int lf])), (xr, .inl (cI, 8, .inl fr))] s.heap.size q := fun q h => Or.inr h
  have hS : va_S (va_A [(x0, .inr (7, [.ref xs, .ref j0, .ref k0, .ref w0, .ref rd, .ref mv, .ref xr, .int im, .int lf])), (xr, .inl (cI, 8, .inl fr))] s.heap.size) s.heap s.heap [] := va_S.rf
  replace hP : va_P D vwCl _ s.heap := hP
  have hl := lv_entry ([.ref x0, .int 1]) (n := 2) (Nat.le_of_ble_eq_true rfl)
  rw [lg_entry_eq]
  generalize (lg_sl ([.ref x0, .int 1]) ++ List.replicate (2 - (lg_sl ([.ref x0, .int 1])).length) Slot.unset).toArray = ls at hl ⊢
  replace hl : lv_has ls 2 [(0, .ref x0), (1, .int 1)] := hl
  refine zw_start (fun H locs hH hL => ?_)
  replace hP : va_P D vwCl [(x0, .inr (7, [.ref xs, .ref j0, .ref k0, .ref w0, .ref rd, .ref mv, .ref xr, .int im, .int lf])), (xr, .inl (cI, 8, .inl fr))] H := by rw [hH]; exact hP
  replace hS : va_S (va_A [(x0, .inr (7, [.ref xs, .ref j0, .ref k0, .ref w0, .ref rd, .ref mv, .ref xr, .int im, .int lf])), (xr, .inl (cI, 8, .inl fr))] s.heap.size) s.heap H locs := by rw [hH, hL]; exact hS
  clear hH hL
  refine lv_aload_n hx hb dX7_refuseLower_0 rfl (lv_at hl 0 rfl) ?_
  refine lv_iload_n hx hb dX7_refuseLower_1 rfl (lv_at hl 1 rfl) ?_
  skip
  refine zw_V (As := [.int 1]) (rest := []) (wr := []) ⟨hx, hb, hml, hown, hts⟩ (c_X_refuse_1 l D cI cJ cZ cP cS po x0 xs j0 k0 w0 rd mv xr (im) (lf) fr hy0 hy1 hy2 hy3 H.size) (cwV 1 hts gX7_refuseLower_X7_refuse rfl rfl rfl (by decide +kernel) ⟨Nat.le_of_ble_eq_true rfl, Nat.le_of_ble_eq_true rfl⟩) hK hN (hZ.kept hS) hP hD hS hA [0, 1] [] rfl rfl (by decide) (by decide) (by decide) (va_recv hK hP (ci := 7) (q0 := 0) rfl rfl) rfl hl.1 rfl (Nat.le_of_ble_eq_true rfl) dX7_refuseLower_2 ⟨Nat.le_of_ble_eq_true rfl, Nat.le_of_ble_eq_true rfl⟩ (fun r_1 u_2 H locs hr_1 hP hD hS => ?_)
  obtain ⟨q_3, rfl⟩ : ∃ z, z = u_2 := ⟨_, rfl⟩
  replace hP : va_P D vwCl [(x0, .inr (7, [.ref xs, .ref j0, .ref k0, .ref w0, .ref rd, .ref mv, .ref xr, .int im, .int lf])), (xr, .inl (cI, 8, .inl q_3))] H := hP
  replace hD : va_D _ [(x0, .inr (7, [.ref xs, .ref j0, .ref k0, .ref w0, .ref rd, .ref mv, .ref xr, .int im, .int lf])), (xr, .inl (cI, 8, .inl q_3))] := hD
  obtain rfl := hr_1
  refine lv_bipush (v := 10) hx hb dX7_refuseLower_5 (by decide) ?_
  refine lv_isub hx hb dX7_refuseLower_7 ?_
  refine lv_topi (fun y_4 ey_4 => ?_)
  obtain rfl : y_4 = (-11) := ey_4.trans (by decide)
  exact W.iret (v := (-11)) hx hb hr (fun t ht hW => ⟨⟨(-11), q_3, rfl, rfl, by rw [ht]; exact hP.sub (ws' := [(x0, .inr (7, [.ref xs, .ref j0, .ref k0, .ref w0, .ref rd, .ref mv, .ref xr, .int im, .int lf])), (xr, .inl (cI, 8, .inl q_3))]) [0, 1] rfl, hD.sub (ws' := [(x0, .inr (7, [.ref xs, .ref j0, .ref k0, .ref w0, .ref rd, .ref mv, .ref xr, .int im, .int lf])), (xr, .inl (cI, 8, .inl q_3))]) [0, 1] (by decide) rfl⟩, hS.F ht⟩) hS.2.2 dX7_refuseLower_8
set_option maxHeartbeats 4000000 in
set_option maxRecDepth 100000 in
theorem c_X_refuseLower_2 (l : Launch) (D : va_G) (cI cJ cZ cP cS : ClassId) (po : zPool) (x0 xs j0 k0 w0 rd mv xr : Nat) (im lf : Int32) (fr : Nat → Int32) (hy0 : 0 ≤ im.toInt) (hy1 : im.toInt ≤ 1) (hy2 : (-1) ≤ lf.toInt) (hy3 : lf.toInt ≤ 160) (hpz : Nat) : Met l yX7_refuseLower wsX7_refuseLower ({ frames := 2, cells := 0, slots := 0, locals := 43 }) (va_Pc [.ref x0, .int 2] (zW D (zKT cI cJ cZ cP cS) po [(x0, .inr (7, [.ref xs, .ref j0, .ref k0, .ref w0, .ref rd, .ref mv, .ref xr, .int im, .int lf])), (xr, .inl (cI, 8, .inl fr))] hpz)) (va_Qi (fun (r : Int32) (fr2 : (Nat → Int32)) => r = (-12)) (zB D [(x0, .inr (7, [.ref xs, .ref j0, .ref k0, .ref w0, .ref rd, .ref mv, .ref xr, .int im, .int lf])), (xr, .inl (cI, 8, .inl fr))] hpz (fun (fr2 : Nat → Int32) => [(x0, .inr (7, [.ref xs, .ref j0, .ref k0, .ref w0, .ref rd, .ref mv, .ref xr, .int im, .int lf])), (xr, .inl (cI, 8, .inl fr2))])) (va_A [(x0, .inr (7, [.ref xs, .ref j0, .ref k0, .ref w0, .ref rd, .ref mv, .ref xr, .int im, .int lf])), (xr, .inl (cI, 8, .inl fr))] hpz)) 0 0 (va_A [(x0, .inr (7, [.ref xs, .ref j0, .ref k0, .ref w0, .ref rd, .ref mv, .ref xr, .int im, .int lf])), (xr, .inl (cI, 8, .inl fr))] hpz) := by
  refine Met.ofW (cc := cX7_refuseLower) (maxL := 2) (ret := (some .int)) (by decide) rfl ?_
  intro p e s m args below meth c s₁ B hml hv
  obtain ⟨rfl, hsz, hP, hK, hD0, hN, hZ⟩ := hv
  have hx := B.exec
  have hb := B.bytes
  have hr := B.returns
  have hts := atoms_spec (ws := wsX7_refuseLower) B.pre
  have hown : s.vm.findClass RX7 = some m.cls := findClass_of_methodNamed B.named
  have hlocks := B.notSynchronized
  subst hsz
  have hD := hD0.self (sz := s.heap.size)
  have hA : ∀ q : Nat, s.heap.size ≤ q → va_A [(x0, .inr (7, [.ref xs, .ref j0, .ref k0, .ref w0, .ref rd, .ref mv, .ref xr, .int im, .int lf])), (xr, .inl (cI, 8, .inl fr))] s.heap.size q := fun q h => Or.inr h
  have hS : va_S (va_A [(x0, .inr (7, [.ref xs, .ref j0, .ref k0, .ref w0, .ref rd, .ref mv, .ref xr, .int im, .int lf])), (xr, .inl (cI, 8, .inl fr))] s.heap.size) s.heap s.heap [] := va_S.rf
  replace hP : va_P D vwCl _ s.heap := hP
  have hl := lv_entry ([.ref x0, .int 2]) (n := 2) (Nat.le_of_ble_eq_true rfl)
  rw [lg_entry_eq]
  generalize (lg_sl ([.ref x0, .int 2]) ++ List.replicate (2 - (lg_sl ([.ref x0, .int 2])).length) Slot.unset).toArray = ls at hl ⊢
  replace hl : lv_has ls 2 [(0, .ref x0), (1, .int 2)] := hl
  refine zw_start (fun H locs hH hL => ?_)
  replace hP : va_P D vwCl [(x0, .inr (7, [.ref xs, .ref j0, .ref k0, .ref w0, .ref rd, .ref mv, .ref xr, .int im, .int lf])), (xr, .inl (cI, 8, .inl fr))] H := by rw [hH]; exact hP
  replace hS : va_S (va_A [(x0, .inr (7, [.ref xs, .ref j0, .ref k0, .ref w0, .ref rd, .ref mv, .ref xr, .int im, .int lf])), (xr, .inl (cI, 8, .inl fr))] s.heap.size) s.heap H locs := by rw [hH, hL]; exact hS
  clear hH hL
  refine lv_aload_n hx hb dX7_refuseLower_0 rfl (lv_at hl 0 rfl) ?_
  refine lv_iload_n hx hb dX7_refuseLower_1 rfl (lv_at hl 1 rfl) ?_
  skip
  refine zw_V (As := [.int 2]) (rest := []) (wr := []) ⟨hx, hb, hml, hown, hts⟩ (c_X_refuse_2 l D cI cJ cZ cP cS po x0 xs j0 k0 w0 rd mv xr (im) (lf) fr hy0 hy1 hy2 hy3 H.size) (cwV 1 hts gX7_refuseLower_X7_refuse rfl rfl rfl (by decide +kernel) ⟨Nat.le_of_ble_eq_true rfl, Nat.le_of_ble_eq_true rfl⟩) hK hN (hZ.kept hS) hP hD hS hA [0, 1] [] rfl rfl (by decide) (by decide) (by decide) (va_recv hK hP (ci := 7) (q0 := 0) rfl rfl) rfl hl.1 rfl (Nat.le_of_ble_eq_true rfl) dX7_refuseLower_2 ⟨Nat.le_of_ble_eq_true rfl, Nat.le_of_ble_eq_true rfl⟩ (fun r_1 u_2 H locs hr_1 hP hD hS => ?_)
  obtain ⟨q_3, rfl⟩ : ∃ z, z = u_2 := ⟨_, rfl⟩
  replace hP : va_P D vwCl [(x0, .inr (7, [.ref xs, .ref j0, .ref k0, .ref w0, .ref rd, .ref mv, .ref xr, .int im, .int lf])), (xr, .inl (cI, 8, .inl q_3))] H := hP
  replace hD : va_D _ [(x0, .inr (7, [.ref xs, .ref j0, .ref k0, .ref w0, .ref rd, .ref mv, .ref xr, .int im, .int lf])), (xr, .inl (cI, 8, .inl q_3))] := hD
  obtain rfl := hr_1
  refine lv_bipush (v := 10) hx hb dX7_refuseLower_5 (by decide) ?_
  refine lv_isub hx hb dX7_refuseLower_7 ?_
  refine lv_topi (fun y_4 ey_4 => ?_)
  obtain rfl : y_4 = (-12) := ey_4.trans (by decide)
  exact W.iret (v := (-12)) hx hb hr (fun t ht hW => ⟨⟨(-12), q_3, rfl, rfl, by rw [ht]; exact hP.sub (ws' := [(x0, .inr (7, [.ref xs, .ref j0, .ref k0, .ref w0, .ref rd, .ref mv, .ref xr, .int im, .int lf])), (xr, .inl (cI, 8, .inl q_3))]) [0, 1] rfl, hD.sub (ws' := [(x0, .inr (7, [.ref xs, .ref j0, .ref k0, .ref w0, .ref rd, .ref mv, .ref xr, .int im, .int lf])), (xr, .inl (cI, 8, .inl q_3))]) [0, 1] (by decide) rfl⟩, hS.F ht⟩) hS.2.2 dX7_refuseLower_8
set_option maxHeartbeats 4000000 in
set_option maxRecDepth 100000 in
theorem c_X_refuseLower_3 (l : Launch) (D : va_G) (cI cJ cZ cP cS : ClassId) (po : zPool) (x0 xs j0 k0 w0 rd mv xr : Nat) (im lf : Int32) (fr : Nat → Int32) (hy0 : 0 ≤ im.toInt) (hy1 : im.toInt ≤ 1) (hy2 : (-1) ≤ lf.toInt) (hy3 : lf.toInt ≤ 160) (hpz : Nat) : Met l yX7_refuseLower wsX7_refuseLower ({ frames := 2, cells := 0, slots := 0, locals := 43 }) (va_Pc [.ref x0, .int 3] (zW D (zKT cI cJ cZ cP cS) po [(x0, .inr (7, [.ref xs, .ref j0, .ref k0, .ref w0, .ref rd, .ref mv, .ref xr, .int im, .int lf])), (xr, .inl (cI, 8, .inl fr))] hpz)) (va_Qi (fun (r : Int32) (fr2 : (Nat → Int32)) => r = (-13)) (zB D [(x0, .inr (7, [.ref xs, .ref j0, .ref k0, .ref w0, .ref rd, .ref mv, .ref xr, .int im, .int lf])), (xr, .inl (cI, 8, .inl fr))] hpz (fun (fr2 : Nat → Int32) => [(x0, .inr (7, [.ref xs, .ref j0, .ref k0, .ref w0, .ref rd, .ref mv, .ref xr, .int im, .int lf])), (xr, .inl (cI, 8, .inl fr2))])) (va_A [(x0, .inr (7, [.ref xs, .ref j0, .ref k0, .ref w0, .ref rd, .ref mv, .ref xr, .int im, .int lf])), (xr, .inl (cI, 8, .inl fr))] hpz)) 0 0 (va_A [(x0, .inr (7, [.ref xs, .ref j0, .ref k0, .ref w0, .ref rd, .ref mv, .ref xr, .int im, .int lf])), (xr, .inl (cI, 8, .inl fr))] hpz) := by
  refine Met.ofW (cc := cX7_refuseLower) (maxL := 2) (ret := (some .int)) (by decide) rfl ?_
  intro p e s m args below meth c s₁ B hml hv
  obtain ⟨rfl, hsz, hP, hK, hD0, hN, hZ⟩ := hv
  have hx := B.exec
  have hb := B.bytes
  have hr := B.returns
  have hts := atoms_spec (ws := wsX7_refuseLower) B.pre
  have hown : s.vm.findClass RX7 = some m.cls := findClass_of_methodNamed B.named
  have hlocks := B.notSynchronized
  subst hsz
  have hD := hD0.self (sz := s.heap.size)
  have hA : ∀ q : Nat, s.heap.size ≤ q → va_A [(x0, .inr (7, [.ref xs, .ref j0, .ref k0, .ref w0, .ref rd, .ref mv, .ref xr, .int im, .int lf])), (xr, .inl (cI, 8, .inl fr))] s.heap.size q := fun q h => Or.inr h
  have hS : va_S (va_A [(x0, .inr (7, [.ref xs, .ref j0, .ref k0, .ref w0, .ref rd, .ref mv, .ref xr, .int im, .int lf])), (xr, .inl (cI, 8, .inl fr))] s.heap.size) s.heap s.heap [] := va_S.rf
  replace hP : va_P D vwCl _ s.heap := hP
  have hl := lv_entry ([.ref x0, .int 3]) (n := 2) (Nat.le_of_ble_eq_true rfl)
  rw [lg_entry_eq]
  generalize (lg_sl ([.ref x0, .int 3]) ++ List.replicate (2 - (lg_sl ([.ref x0, .int 3])).length) Slot.unset).toArray = ls at hl ⊢
  replace hl : lv_has ls 2 [(0, .ref x0), (1, .int 3)] := hl
  refine zw_start (fun H locs hH hL => ?_)
  replace hP : va_P D vwCl [(x0, .inr (7, [.ref xs, .ref j0, .ref k0, .ref w0, .ref rd, .ref mv, .ref xr, .int im, .int lf])), (xr, .inl (cI, 8, .inl fr))] H := by rw [hH]; exact hP
  replace hS : va_S (va_A [(x0, .inr (7, [.ref xs, .ref j0, .ref k0, .ref w0, .ref rd, .ref mv, .ref xr, .int im, .int lf])), (xr, .inl (cI, 8, .inl fr))] s.heap.size) s.heap H locs := by rw [hH, hL]; exact hS
  clear hH hL
  refine lv_aload_n hx hb dX7_refuseLower_0 rfl (lv_at hl 0 rfl) ?_
  refine lv_iload_n hx hb dX7_refuseLower_1 rfl (lv_at hl 1 rfl) ?_
  skip
  refine zw_V (As := [.int 3]) (rest := []) (wr := []) ⟨hx, hb, hml, hown, hts⟩ (c_X_refuse_3 l D cI cJ cZ cP cS po x0 xs j0 k0 w0 rd mv xr (im) (lf) fr hy0 hy1 hy2 hy3 H.size) (cwV 1 hts gX7_refuseLower_X7_refuse rfl rfl rfl (by decide +kernel) ⟨Nat.le_of_ble_eq_true rfl, Nat.le_of_ble_eq_true rfl⟩) hK hN (hZ.kept hS) hP hD hS hA [0, 1] [] rfl rfl (by decide) (by decide) (by decide) (va_recv hK hP (ci := 7) (q0 := 0) rfl rfl) rfl hl.1 rfl (Nat.le_of_ble_eq_true rfl) dX7_refuseLower_2 ⟨Nat.le_of_ble_eq_true rfl, Nat.le_of_ble_eq_true rfl⟩ (fun r_1 u_2 H locs hr_1 hP hD hS => ?_)
  obtain ⟨q_3, rfl⟩ : ∃ z, z = u_2 := ⟨_, rfl⟩
  replace hP : va_P D vwCl [(x0, .inr (7, [.ref xs, .ref j0, .ref k0, .ref w0, .ref rd, .ref mv, .ref xr, .int im, .int lf])), (xr, .inl (cI, 8, .inl q_3))] H := hP
  replace hD : va_D _ [(x0, .inr (7, [.ref xs, .ref j0, .ref k0, .ref w0, .ref rd, .ref mv, .ref xr, .int im, .int lf])), (xr, .inl (cI, 8, .inl q_3))] := hD
  obtain rfl := hr_1
  refine lv_bipush (v := 10) hx hb dX7_refuseLower_5 (by decide) ?_
  refine lv_isub hx hb dX7_refuseLower_7 ?_
  refine lv_topi (fun y_4 ey_4 => ?_)
  obtain rfl : y_4 = (-13) := ey_4.trans (by decide)
  exact W.iret (v := (-13)) hx hb hr (fun t ht hW => ⟨⟨(-13), q_3, rfl, rfl, by rw [ht]; exact hP.sub (ws' := [(x0, .inr (7, [.ref xs, .ref j0, .ref k0, .ref w0, .ref rd, .ref mv, .ref xr, .int im, .int lf])), (xr, .inl (cI, 8, .inl q_3))]) [0, 1] rfl, hD.sub (ws' := [(x0, .inr (7, [.ref xs, .ref j0, .ref k0, .ref w0, .ref rd, .ref mv, .ref xr, .int im, .int lf])), (xr, .inl (cI, 8, .inl q_3))]) [0, 1] (by decide) rfl⟩, hS.F ht⟩) hS.2.2 dX7_refuseLower_8
set_option maxHeartbeats 4000000 in
set_option maxRecDepth 100000 in
theorem c_X_refuseLower_4 (l : Launch) (D : va_G) (cI cJ cZ cP cS : ClassId) (po : zPool) (x0 xs j0 k0 w0 rd mv xr : Nat) (im lf : Int32) (fr : Nat → Int32) (hy0 : 0 ≤ im.toInt) (hy1 : im.toInt ≤ 1) (hy2 : (-1) ≤ lf.toInt) (hy3 : lf.toInt ≤ 160) (hpz : Nat) : Met l yX7_refuseLower wsX7_refuseLower ({ frames := 2, cells := 0, slots := 0, locals := 43 }) (va_Pc [.ref x0, .int 4] (zW D (zKT cI cJ cZ cP cS) po [(x0, .inr (7, [.ref xs, .ref j0, .ref k0, .ref w0, .ref rd, .ref mv, .ref xr, .int im, .int lf])), (xr, .inl (cI, 8, .inl fr))] hpz)) (va_Qi (fun (r : Int32) (fr2 : (Nat → Int32)) => r = (-14)) (zB D [(x0, .inr (7, [.ref xs, .ref j0, .ref k0, .ref w0, .ref rd, .ref mv, .ref xr, .int im, .int lf])), (xr, .inl (cI, 8, .inl fr))] hpz (fun (fr2 : Nat → Int32) => [(x0, .inr (7, [.ref xs, .ref j0, .ref k0, .ref w0, .ref rd, .ref mv, .ref xr, .int im, .int lf])), (xr, .inl (cI, 8, .inl fr2))])) (va_A [(x0, .inr (7, [.ref xs, .ref j0, .ref k0, .ref w0, .ref rd, .ref mv, .ref xr, .int im, .int lf])), (xr, .inl (cI, 8, .inl fr))] hpz)) 0 0 (va_A [(x0, .inr (7, [.ref xs, .ref j0, .ref k0, .ref w0, .ref rd, .ref mv, .ref xr, .int im, .int lf])), (xr, .inl (cI, 8, .inl fr))] hpz) := by
  refine Met.ofW (cc := cX7_refuseLower) (maxL := 2) (ret := (some .int)) (by decide) rfl ?_
  intro p e s m args below meth c s₁ B hml hv
  obtain ⟨rfl, hsz, hP, hK, hD0, hN, hZ⟩ := hv
  have hx := B.exec
  have hb := B.bytes
  have hr := B.returns
  have hts := atoms_spec (ws := wsX7_refuseLower) B.pre
  have hown : s.vm.findClass RX7 = some m.cls := findClass_of_methodNamed B.named
  have hlocks := B.notSynchronized
  subst hsz
  have hD := hD0.self (sz := s.heap.size)
  have hA : ∀ q : Nat, s.heap.size ≤ q → va_A [(x0, .inr (7, [.ref xs, .ref j0, .ref k0, .ref w0, .ref rd, .ref mv, .ref xr, .int im, .int lf])), (xr, .inl (cI, 8, .inl fr))] s.heap.size q := fun q h => Or.inr h
  have hS : va_S (va_A [(x0, .inr (7, [.ref xs, .ref j0, .ref k0, .ref w0, .ref rd, .ref mv, .ref xr, .int im, .int lf])), (xr, .inl (cI, 8, .inl fr))] s.heap.size) s.heap s.heap [] := va_S.rf
  replace hP : va_P D vwCl _ s.heap := hP
  have hl := lv_entry ([.ref x0, .int 4]) (n := 2) (Nat.le_of_ble_eq_true rfl)
  rw [lg_entry_eq]
  generalize (lg_sl ([.ref x0, .int 4]) ++ List.replicate (2 - (lg_sl ([.ref x0, .int 4])).length) Slot.unset).toArray = ls at hl ⊢
  replace hl : lv_has ls 2 [(0, .ref x0), (1, .int 4)] := hl
  refine zw_start (fun H locs hH hL => ?_)
  replace hP : va_P D vwCl [(x0, .inr (7, [.ref xs, .ref j0, .ref k0, .ref w0, .ref rd, .ref mv, .ref xr, .int im, .int lf])), (xr, .inl (cI, 8, .inl fr))] H := by rw [hH]; exact hP
  replace hS : va_S (va_A [(x0, .inr (7, [.ref xs, .ref j0, .ref k0, .ref w0, .ref rd, .ref mv, .ref xr, .int im, .int lf])), (xr, .inl (cI, 8, .inl fr))] s.heap.size) s.heap H locs := by rw [hH, hL]; exact hS
  clear hH hL
  refine lv_aload_n hx hb dX7_refuseLower_0 rfl (lv_at hl 0 rfl) ?_
  refine lv_iload_n hx hb dX7_refuseLower_1 rfl (lv_at hl 1 rfl) ?_
  skip
  refine zw_V (As := [.int 4]) (rest := []) (wr := []) ⟨hx, hb, hml, hown, hts⟩ (c_X_refuse_4 l D cI cJ cZ cP cS po x0 xs j0 k0 w0 rd mv xr (im) (lf) fr hy0 hy1 hy2 hy3 H.size) (cwV 1 hts gX7_refuseLower_X7_refuse rfl rfl rfl (by decide +kernel) ⟨Nat.le_of_ble_eq_true rfl, Nat.le_of_ble_eq_true rfl⟩) hK hN (hZ.kept hS) hP hD hS hA [0, 1] [] rfl rfl (by decide) (by decide) (by decide) (va_recv hK hP (ci := 7) (q0 := 0) rfl rfl) rfl hl.1 rfl (Nat.le_of_ble_eq_true rfl) dX7_refuseLower_2 ⟨Nat.le_of_ble_eq_true rfl, Nat.le_of_ble_eq_true rfl⟩ (fun r_1 u_2 H locs hr_1 hP hD hS => ?_)
  obtain ⟨q_3, rfl⟩ : ∃ z, z = u_2 := ⟨_, rfl⟩
  replace hP : va_P D vwCl [(x0, .inr (7, [.ref xs, .ref j0, .ref k0, .ref w0, .ref rd, .ref mv, .ref xr, .int im, .int lf])), (xr, .inl (cI, 8, .inl q_3))] H := hP
  replace hD : va_D _ [(x0, .inr (7, [.ref xs, .ref j0, .ref k0, .ref w0, .ref rd, .ref mv, .ref xr, .int im, .int lf])), (xr, .inl (cI, 8, .inl q_3))] := hD
  obtain rfl := hr_1
  refine lv_bipush (v := 10) hx hb dX7_refuseLower_5 (by decide) ?_
  refine lv_isub hx hb dX7_refuseLower_7 ?_
  refine lv_topi (fun y_4 ey_4 => ?_)
  obtain rfl : y_4 = (-14) := ey_4.trans (by decide)
  exact W.iret (v := (-14)) hx hb hr (fun t ht hW => ⟨⟨(-14), q_3, rfl, rfl, by rw [ht]; exact hP.sub (ws' := [(x0, .inr (7, [.ref xs, .ref j0, .ref k0, .ref w0, .ref rd, .ref mv, .ref xr, .int im, .int lf])), (xr, .inl (cI, 8, .inl q_3))]) [0, 1] rfl, hD.sub (ws' := [(x0, .inr (7, [.ref xs, .ref j0, .ref k0, .ref w0, .ref rd, .ref mv, .ref xr, .int im, .int lf])), (xr, .inl (cI, 8, .inl q_3))]) [0, 1] (by decide) rfl⟩, hS.F ht⟩) hS.2.2 dX7_refuseLower_8
set_option maxHeartbeats 4000000 in
set_option maxRecDepth 100000 in
theorem c_X_refuseLower_5 (l : Launch) (D : va_G) (cI cJ cZ cP cS : ClassId) (po : zPool) (x0 xs j0 k0 w0 rd mv xr : Nat) (im lf : Int32) (fr : Nat → Int32) (hy0 : 0 ≤ im.toInt) (hy1 : im.toInt ≤ 1) (hy2 : (-1) ≤ lf.toInt) (hy3 : lf.toInt ≤ 160) (hpz : Nat) : Met l yX7_refuseLower wsX7_refuseLower ({ frames := 2, cells := 0, slots := 0, locals := 43 }) (va_Pc [.ref x0, .int 5] (zW D (zKT cI cJ cZ cP cS) po [(x0, .inr (7, [.ref xs, .ref j0, .ref k0, .ref w0, .ref rd, .ref mv, .ref xr, .int im, .int lf])), (xr, .inl (cI, 8, .inl fr))] hpz)) (va_Qi (fun (r : Int32) (fr2 : (Nat → Int32)) => r = (-15)) (zB D [(x0, .inr (7, [.ref xs, .ref j0, .ref k0, .ref w0, .ref rd, .ref mv, .ref xr, .int im, .int lf])), (xr, .inl (cI, 8, .inl fr))] hpz (fun (fr2 : Nat → Int32) => [(x0, .inr (7, [.ref xs, .ref j0, .ref k0, .ref w0, .ref rd, .ref mv, .ref xr, .int im, .int lf])), (xr, .inl (cI, 8, .inl fr2))])) (va_A [(x0, .inr (7, [.ref xs, .ref j0, .ref k0, .ref w0, .ref rd, .ref mv, .ref xr, .int im, .int lf])), (xr, .inl (cI, 8, .inl fr))] hpz)) 0 0 (va_A [(x0, .inr (7, [.ref xs, .ref j0, .ref k0, .ref w0, .ref rd, .ref mv, .ref xr, .int im, .int lf])), (xr, .inl (cI, 8, .inl fr))] hpz) := by
  refine Met.ofW (cc := cX7_refuseLower) (maxL := 2) (ret := (some .int)) (by decide) rfl ?_
  intro p e s m args below meth c s₁ B hml hv
  obtain ⟨rfl, hsz, hP, hK, hD0, hN, hZ⟩ := hv
  have hx := B.exec
  have hb := B.bytes
  have hr := B.returns
  have hts := atoms_spec (ws := wsX7_refuseLower) B.pre
  have hown : s.vm.findClass RX7 = some m.cls := findClass_of_methodNamed B.named
  have hlocks := B.notSynchronized
  subst hsz
  have hD := hD0.self (sz := s.heap.size)
  have hA : ∀ q : Nat, s.heap.size ≤ q → va_A [(x0, .inr (7, [.ref xs, .ref j0, .ref k0, .ref w0, .ref rd, .ref mv, .ref xr, .int im, .int lf])), (xr, .inl (cI, 8, .inl fr))] s.heap.size q := fun q h => Or.inr h
  have hS : va_S (va_A [(x0, .inr (7, [.ref xs, .ref j0, .ref k0, .ref w0, .ref rd, .ref mv, .ref xr, .int im, .int lf])), (xr, .inl (cI, 8, .inl fr))] s.heap.size) s.heap s.heap [] := va_S.rf
  replace hP : va_P D vwCl _ s.heap := hP
  have hl := lv_entry ([.ref x0, .int 5]) (n := 2) (Nat.le_of_ble_eq_true rfl)
  rw [lg_entry_eq]
  generalize (lg_sl ([.ref x0, .int 5]) ++ List.replicate (2 - (lg_sl ([.ref x0, .int 5])).length) Slot.unset).toArray = ls at hl ⊢
  replace hl : lv_has ls 2 [(0, .ref x0), (1, .int 5)] := hl
  refine zw_start (fun H locs hH hL => ?_)
  replace hP : va_P D vwCl [(x0, .inr (7, [.ref xs, .ref j0, .ref k0, .ref w0, .ref rd, .ref mv, .ref xr, .int im, .int lf])), (xr, .inl (cI, 8, .inl fr))] H := by rw [hH]; exact hP
  replace hS : va_S (va_A [(x0, .inr (7, [.ref xs, .ref j0, .ref k0, .ref w0, .ref rd, .ref mv, .ref xr, .int im, .int lf])), (xr, .inl (cI, 8, .inl fr))] s.heap.size) s.heap H locs := by rw [hH, hL]; exact hS
  clear hH hL
  refine lv_aload_n hx hb dX7_refuseLower_0 rfl (lv_at hl 0 rfl) ?_
  refine lv_iload_n hx hb dX7_refuseLower_1 rfl (lv_at hl 1 rfl) ?_
  skip
  refine zw_V (As := [.int 5]) (rest := []) (wr := []) ⟨hx, hb, hml, hown, hts⟩ (c_X_refuse_5 l D cI cJ cZ cP cS po x0 xs j0 k0 w0 rd mv xr (im) (lf) fr hy0 hy1 hy2 hy3 H.size) (cwV 1 hts gX7_refuseLower_X7_refuse rfl rfl rfl (by decide +kernel) ⟨Nat.le_of_ble_eq_true rfl, Nat.le_of_ble_eq_true rfl⟩) hK hN (hZ.kept hS) hP hD hS hA [0, 1] [] rfl rfl (by decide) (by decide) (by decide) (va_recv hK hP (ci := 7) (q0 := 0) rfl rfl) rfl hl.1 rfl (Nat.le_of_ble_eq_true rfl) dX7_refuseLower_2 ⟨Nat.le_of_ble_eq_true rfl, Nat.le_of_ble_eq_true rfl⟩ (fun r_1 u_2 H locs hr_1 hP hD hS => ?_)
  obtain ⟨q_3, rfl⟩ : ∃ z, z = u_2 := ⟨_, rfl⟩
  replace hP : va_P D vwCl [(x0, .inr (7, [.ref xs, .ref j0, .ref k0, .ref w0, .ref rd, .ref mv, .ref xr, .int im, .int lf])), (xr, .inl (cI, 8, .inl q_3))] H := hP
  replace hD : va_D _ [(x0, .inr (7, [.ref xs, .ref j0, .ref k0, .ref w0, .ref rd, .ref mv, .ref xr, .int im, .int lf])), (xr, .inl (cI, 8, .inl q_3))] := hD
  obtain rfl := hr_1
  refine lv_bipush (v := 10) hx hb dX7_refuseLower_5 (by decide) ?_
  refine lv_isub hx hb dX7_refuseLower_7 ?_
  refine lv_topi (fun y_4 ey_4 => ?_)
  obtain rfl : y_4 = (-15) := ey_4.trans (by decide)
  exact W.iret (v := (-15)) hx hb hr (fun t ht hW => ⟨⟨(-15), q_3, rfl, rfl, by rw [ht]; exact hP.sub (ws' := [(x0, .inr (7, [.ref xs, .ref j0, .ref k0, .ref w0, .ref rd, .ref mv, .ref xr, .int im, .int lf])), (xr, .inl (cI, 8, .inl q_3))]) [0, 1] rfl, hD.sub (ws' := [(x0, .inr (7, [.ref xs, .ref j0, .ref k0, .ref w0, .ref rd, .ref mv, .ref xr, .int im, .int lf])), (xr, .inl (cI, 8, .inl q_3))]) [0, 1] (by decide) rfl⟩, hS.F ht⟩) hS.2.2 dX7_refuseLower_8
set_option maxHeartbeats 4000000 in
set_option maxRecDepth 100000 in
theorem c_X_refuseLower_6 (l : Launch) (D : va_G) (cI cJ cZ cP cS : ClassId) (po : zPool) (x0 xs j0 k0 w0 rd mv xr : Nat) (im lf : Int32) (fr : Nat → Int32) (hy0 : 0 ≤ im.toInt) (hy1 : im.toInt ≤ 1) (hy2 : (-1) ≤ lf.toInt) (hy3 : lf.toInt ≤ 160) (hpz : Nat) : Met l yX7_refuseLower wsX7_refuseLower ({ frames := 2, cells := 0, slots := 0, locals := 43 }) (va_Pc [.ref x0, .int 6] (zW D (zKT cI cJ cZ cP cS) po [(x0, .inr (7, [.ref xs, .ref j0, .ref k0, .ref w0, .ref rd, .ref mv, .ref xr, .int im, .int lf])), (xr, .inl (cI, 8, .inl fr))] hpz)) (va_Qi (fun (r : Int32) (fr2 : (Nat → Int32)) => r = (-16)) (zB D [(x0, .inr (7, [.ref xs, .ref j0, .ref k0, .ref w0, .ref rd, .ref mv, .ref xr, .int im, .int lf])), (xr, .inl (cI, 8, .inl fr))] hpz (fun (fr2 : Nat → Int32) => [(x0, .inr (7, [.ref xs, .ref j0, .ref k0, .ref w0, .ref rd, .ref mv, .ref xr, .int im, .int lf])), (xr, .inl (cI, 8, .inl fr2))])) (va_A [(x0, .inr (7, [.ref xs, .ref j0, .ref k0, .ref w0, .ref rd, .ref mv, .ref xr, .int im, .int lf])), (xr, .inl (cI, 8, .inl fr))] hpz)) 0 0 (va_A [(x0, .inr (7, [.ref xs, .ref j0, .ref k0, .ref w0, .ref rd, .ref mv, .ref xr, .int im, .int lf])), (xr, .inl (cI, 8, .inl fr))] hpz) := by
  refine Met.ofW (cc := cX7_refuseLower) (maxL := 2) (ret := (some .int)) (by decide) rfl ?_
  intro p e s m args below meth c s₁ B hml hv
  obtain ⟨rfl, hsz, hP, hK, hD0, hN, hZ⟩ := hv
  have hx := B.exec
  have hb := B.bytes
  have hr := B.returns
  have hts := atoms_spec (ws := wsX7_refuseLower) B.pre
  have hown : s.vm.findClass RX7 = some m.cls := findClass_of_methodNamed B.named
  have hlocks := B.notSynchronized
  subst hsz
  have hD := hD0.self (sz := s.heap.size)
  have hA : ∀ q : Nat, s.heap.size ≤ q → va_A [(x0, .inr (7, [.ref xs, .ref j0, .ref k0, .ref w0, .ref rd, .ref mv, .ref xr, .int im, .int lf])), (xr, .inl (cI, 8, .inl fr))] s.heap.size q := fun q h => Or.inr h
  have hS : va_S (va_A [(x0, .inr (7, [.ref xs, .ref j0, .ref k0, .ref w0, .ref rd, .ref mv, .ref xr, .int im, .int lf])), (xr, .inl (cI, 8, .inl fr))] s.heap.size) s.heap s.heap [] := va_S.rf
  replace hP : va_P D vwCl _ s.heap := hP
  have hl := lv_entry ([.ref x0, .int 6]) (n := 2) (Nat.le_of_ble_eq_true rfl)
  rw [lg_entry_eq]
  generalize (lg_sl ([.ref x0, .int 6]) ++ List.replicate (2 - (lg_sl ([.ref x0, .int 6])).length) Slot.unset).toArray = ls at hl ⊢
  replace hl : lv_has ls 2 [(0, .ref x0), (1, .int 6)] := hl
  refine zw_start (fun H locs hH hL => ?_)
  replace hP : va_P D vwCl [(x0, .inr (7, [.ref xs, .ref j0, .ref k0, .ref w0, .ref rd, .ref mv, .ref xr, .int im, .int lf])), (xr, .inl (cI, 8, .inl fr))] H := by rw [hH]; exact hP
  replace hS : va_S (va_A [(x0, .inr (7, [.ref xs, .ref j0, .ref k0, .ref w0, .ref rd, .ref mv, .ref xr, .int im, .int lf])), (xr, .inl (cI, 8, .inl fr))] s.heap.size) s.heap H locs := by rw [hH, hL]; exact hS
  clear hH hL
  refine lv_aload_n hx hb dX7_refuseLower_0 rfl (lv_at hl 0 rfl) ?_
  refine lv_iload_n hx hb dX7_refuseLower_1 rfl (lv_at hl 1 rfl) ?_
  skip
  refine zw_V (As := [.int 6]) (rest := []) (wr := []) ⟨hx, hb, hml, hown, hts⟩ (c_X_refuse_6 l D cI cJ cZ cP cS po x0 xs j0 k0 w0 rd mv xr (im) (lf) fr hy0 hy1 hy2 hy3 H.size) (cwV 1 hts gX7_refuseLower_X7_refuse rfl rfl rfl (by decide +kernel) ⟨Nat.le_of_ble_eq_true rfl, Nat.le_of_ble_eq_true rfl⟩) hK hN (hZ.kept hS) hP hD hS hA [0, 1] [] rfl rfl (by decide) (by decide) (by decide) (va_recv hK hP (ci := 7) (q0 := 0) rfl rfl) rfl hl.1 rfl (Nat.le_of_ble_eq_true rfl) dX7_refuseLower_2 ⟨Nat.le_of_ble_eq_true rfl, Nat.le_of_ble_eq_true rfl⟩ (fun r_1 u_2 H locs hr_1 hP hD hS => ?_)
  obtain ⟨q_3, rfl⟩ : ∃ z, z = u_2 := ⟨_, rfl⟩
  replace hP : va_P D vwCl [(x0, .inr (7, [.ref xs, .ref j0, .ref k0, .ref w0, .ref rd, .ref mv, .ref xr, .int im, .int lf])), (xr, .inl (cI, 8, .inl q_3))] H := hP
  replace hD : va_D _ [(x0, .inr (7, [.ref xs, .ref j0, .ref k0, .ref w0, .ref rd, .ref mv, .ref xr, .int im, .int lf])), (xr, .inl (cI, 8, .inl q_3))] := hD
  obtain rfl := hr_1
  refine lv_bipush (v := 10) hx hb dX7_refuseLower_5 (by decide) ?_
  refine lv_isub hx hb dX7_refuseLower_7 ?_
  refine lv_topi (fun y_4 ey_4 => ?_)
  obtain rfl : y_4 = (-16) := ey_4.trans (by decide)
  exact W.iret (v := (-16)) hx hb hr (fun t ht hW => ⟨⟨(-16), q_3, rfl, rfl, by rw [ht]; exact hP.sub (ws' := [(x0, .inr (7, [.ref xs, .ref j0, .ref k0, .ref w0, .ref rd, .ref mv, .ref xr, .int im, .int lf])), (xr, .inl (cI, 8, .inl q_3))]) [0, 1] rfl, hD.sub (ws' := [(x0, .inr (7, [.ref xs, .ref j0, .ref k0, .ref w0, .ref rd, .ref mv, .ref xr, .int im, .int lf])), (xr, .inl (cI, 8, .inl q_3))]) [0, 1] (by decide) rfl⟩, hS.F ht⟩) hS.2.2 dX7_refuseLower_8
set_option maxHeartbeats 4000000 in
set_option maxRecDepth 100000 in
theorem c_X_refuseLower (l : Launch) (D : va_G) (cI cJ cZ cP cS : ClassId) (po : zPool) (x0 xs j0 k0 w0 rd mv xr : Nat) (im lf : Int32) (fr : Nat → Int32) (n : Int32) (hy0 : 0 ≤ im.toInt) (hy1 : im.toInt ≤ 1) (hy2 : (-1) ≤ lf.toInt) (hy3 : lf.toInt ≤ 160) (hy4 : 1 ≤ n.toInt) (hy5 : n.toInt ≤ 7) (hpz : Nat) : Met l yX7_refuseLower wsX7_refuseLower ({ frames := 2, cells := 0, slots := 0, locals := 43 }) (va_Pc [.ref x0, .int n] (zW D (zKT cI cJ cZ cP cS) po [(x0, .inr (7, [.ref xs, .ref j0, .ref k0, .ref w0, .ref rd, .ref mv, .ref xr, .int im, .int lf])), (xr, .inl (cI, 8, .inl fr))] hpz)) (va_Qi (fun (r : Int32) (fr2 : (Nat → Int32)) => (r.toInt = -n.toInt - 10) ∧ (-17 ≤ r.toInt ∧ r.toInt ≤ -11)) (zB D [(x0, .inr (7, [.ref xs, .ref j0, .ref k0, .ref w0, .ref rd, .ref mv, .ref xr, .int im, .int lf])), (xr, .inl (cI, 8, .inl fr))] hpz (fun (fr2 : Nat → Int32) => [(x0, .inr (7, [.ref xs, .ref j0, .ref k0, .ref w0, .ref rd, .ref mv, .ref xr, .int im, .int lf])), (xr, .inl (cI, 8, .inl fr2))])) (va_A [(x0, .inr (7, [.ref xs, .ref j0, .ref k0, .ref w0, .ref rd, .ref mv, .ref xr, .int im, .int lf])), (xr, .inl (cI, 8, .inl fr))] hpz)) 0 0 (va_A [(x0, .inr (7, [.ref xs, .ref j0, .ref k0, .ref w0, .ref rd, .ref mv, .ref xr, .int im, .int lf])), (xr, .inl (cI, 8, .inl fr))] hpz) := by
  refine Met.ofW (cc := cX7_refuseLower) (maxL := 2) (ret := (some .int)) (by decide) rfl ?_
  intro p e s m args below meth c s₁ B hml hv
  obtain ⟨rfl, hsz, hP, hK, hD0, hN, hZ⟩ := hv
  have hx := B.exec
  have hb := B.bytes
  have hr := B.returns
  have hts := atoms_spec (ws := wsX7_refuseLower) B.pre
  have hown : s.vm.findClass RX7 = some m.cls := findClass_of_methodNamed B.named
  have hlocks := B.notSynchronized
  subst hsz
  have hD := hD0.self (sz := s.heap.size)
  have hA : ∀ q : Nat, s.heap.size ≤ q → va_A [(x0, .inr (7, [.ref xs, .ref j0, .ref k0, .ref w0, .ref rd, .ref mv, .ref xr, .int im, .int lf])), (xr, .inl (cI, 8, .inl fr))] s.heap.size q := fun q h => Or.inr h
  have hS : va_S (va_A [(x0, .inr (7, [.ref xs, .ref j0, .ref k0, .ref w0, .ref rd, .ref mv, .ref xr, .int im, .int lf])), (xr, .inl (cI, 8, .inl fr))] s.heap.size) s.heap s.heap [] := va_S.rf
  replace hP : va_P D vwCl _ s.heap := hP
  have hl := lv_entry ([.ref x0, .int n]) (n := 2) (Nat.le_of_ble_eq_true rfl)
  rw [lg_entry_eq]
  generalize (lg_sl ([.ref x0, .int n]) ++ List.replicate (2 - (lg_sl ([.ref x0, .int n])).length) Slot.unset).toArray = ls at hl ⊢
  replace hl : lv_has ls 2 [(0, .ref x0), (1, .int n)] := hl
  refine zw_start (fun H locs hH hL => ?_)
  replace hP : va_P D vwCl [(x0, .inr (7, [.ref xs, .ref j0, .ref k0, .ref w0, .ref rd, .ref mv, .ref xr, .int im, .int lf])), (xr, .inl (cI, 8, .inl fr))] H := by rw [hH]; exact hP
  replace hS : va_S (va_A [(x0, .inr (7, [.ref xs, .ref j0, .ref k0, .ref w0, .ref rd, .ref mv, .ref xr, .int im, .int lf])), (xr, .inl (cI, 8, .inl fr))] s.heap.size) s.heap H locs := by rw [hH, hL]; exact hS
  clear hH hL
  refine lv_aload_n hx hb dX7_refuseLower_0 rfl (lv_at hl 0 rfl) ?_
  refine lv_iload_n hx hb dX7_refuseLower_1 rfl (lv_at hl 1 rfl) ?_
  skip
  refine zw_V (As := [.int n]) (rest := []) (wr := []) ⟨hx, hb, hml, hown, hts⟩ (c_X_refuse l D cI cJ cZ cP cS po x0 xs j0 k0 w0 rd mv xr (im) (lf) fr (n) hy0 hy1 hy2 hy3 hy4 hy5 H.size) (cwV 1 hts gX7_refuseLower_X7_refuse rfl rfl rfl (by decide +kernel) ⟨Nat.le_of_ble_eq_true rfl, Nat.le_of_ble_eq_true rfl⟩) hK hN (hZ.kept hS) hP hD hS hA [0, 1] [] rfl rfl (by decide) (by decide) (by decide) (va_recv hK hP (ci := 7) (q0 := 0) rfl rfl) rfl hl.1 rfl (Nat.le_of_ble_eq_true rfl) dX7_refuseLower_2 ⟨Nat.le_of_ble_eq_true rfl, Nat.le_of_ble_eq_true rfl⟩ (fun r_1 u_2 H locs hr_1 hP hD hS => ?_)
  obtain ⟨q_3, rfl⟩ : ∃ z, z = u_2 := ⟨_, rfl⟩
  obtain ⟨hsr_1_0, hr_1⟩ := hr_1
  replace hP : va_P D vwCl [(x0, .inr (7, [.ref xs, .ref j0, .ref k0, .ref w0, .ref rd, .ref mv, .ref xr, .int im, .int lf])), (xr, .inl (cI, 8, .inl q_3))] H := hP
  replace hD : va_D _ [(x0, .inr (7, [.ref xs, .ref j0, .ref k0, .ref w0, .ref rd, .ref mv, .ref xr, .int im, .int lf])), (xr, .inl (cI, 8, .inl q_3))] := hD
  obtain ⟨g_4, g_5⟩ := hr_1
  refine lv_bipush (v := 10) hx hb dX7_refuseLower_5 (by decide) ?_
  refine lv_isub hx hb dX7_refuseLower_7 ?_
  refine lv_topi (fun x_6 ex_6 => ?_)
  have qx_6 : x_6.toInt = r_1.toInt - 10 := by rw [ex_6]; exact zf_sub rfl (by decide) (by omega) (by omega)
  exact W.iret (v := x_6) hx hb hr (fun t ht hW => ⟨⟨x_6, q_3, rfl, ⟨(show (x_6 : Int32).toInt = -n.toInt - 10 from by omega), ⟨by omega, by omega⟩⟩, by rw [ht]; exact hP.sub (ws' := [(x0, .inr (7, [.ref xs, .ref j0, .ref k0, .ref w0, .ref rd, .ref mv, .ref xr, .int im, .int lf])), (xr, .inl (cI, 8, .inl q_3))]) [0, 1] rfl, hD.sub (ws' := [(x0, .inr (7, [.ref xs, .ref j0, .ref k0, .ref w0, .ref rd, .ref mv, .ref xr, .int im, .int lf])), (xr, .inl (cI, 8, .inl q_3))]) [0, 1] (by decide) rfl⟩, hS.F ht⟩) hS.2.2 dX7_refuseLower_8
theorem hi_X7_shelfAt_7 : ∀ w ∈ u_ws RX7 TX7 9, w ∈ wsX7_shelfAt := fun w h => (goodIn_r (u_ws RX7 TX7 9) [6, 7, 8, 9, 10, 11, 12, 13, 14] rfl (by decide +kernel) w h).1
set_option maxHeartbeats 4000000 in
set_option maxRecDepth 100000 in
theorem c_X_shelfAt (l : Launch) (D : va_G) (cI cJ cZ cP cS : ClassId) (po : zPool) (x0 xs j0 k0 w0 rd mv xr : Nat) (im lf : Int32) (fr : Nat → Int32) (fh : Nat → Option Nat) (s_ : Int32) (hy0 : 0 ≤ im.toInt) (hy1 : im.toInt ≤ 1) (hy2 : (-1) ≤ lf.toInt) (hy3 : lf.toInt ≤ 160) : Met l yX7_shelfAt wsX7_shelfAt ({ frames := 1, cells := 0, slots := 0, locals := 22 }) (va_Pc [.ref x0, .int s_] (zR D (zKT cI cJ cZ cP cS) po [(x0, .inr (7, [.ref xs, .ref j0, .ref k0, .ref w0, .ref rd, .ref mv, .ref xr, .int im, .int lf])), (xs, .inl (cS, 8, .inr (.inr (.inr (.inr fh)))))])) (va_Sq (fun r => (r = none ∧ s_.toInt < 0) ∨ (r = none ∧ 0 ≤ s_.toInt ∧ 7 < s_.toInt) ∨ (r = (fh s_.toNatClampNeg) ∧ 0 ≤ s_.toInt ∧ s_.toInt ≤ 7))) 0 0 (fun _ => False) := by
  refine Met.ofW (cc := cX7_shelfAt) (maxL := 2) (ret := (some (.object "TheLiningsInIt$Shelf"))) (by decide) rfl ?_
  intro p e s m args below meth c s₁ B hml hv
  obtain ⟨rfl, hP, hK, hN, hZ⟩ := hv
  have hx := B.exec
  have hb := B.bytes
  have hr := B.returns
  have hts := atoms_spec (ws := wsX7_shelfAt) B.pre
  have hown : s.vm.findClass RX7 = some m.cls := findClass_of_methodNamed B.named
  have hlocks := B.notSynchronized
  have hl := lv_entry ([.ref x0, .int s_]) (n := 2) (Nat.le_of_ble_eq_true rfl)
  rw [lg_entry_eq]
  generalize (lg_sl ([.ref x0, .int s_]) ++ List.replicate (2 - (lg_sl ([.ref x0, .int s_])).length) Slot.unset).toArray = ls at hl ⊢
  replace hl : lv_has ls 2 [(0, .ref x0), (1, .int s_)] := hl
  refine lv_iload_n hx hb dX7_shelfAt_0 rfl (lv_at hl 1 rfl) ?_
  refine lv_iconst (v := 0) hx hb dX7_shelfAt_1 (by decide) ?_
  refine lv_bipush (v := 7) hx hb dX7_shelfAt_2 (by decide) ?_
  have kc0 : (0 : Int32).toInt = 0 := by decide
  have kc7 : (7 : Int32).toInt = 7 := by decide
  refine zc_S (As := [.int s_, .int 0, .int 7]) (rest := []) ⟨hx, hb, hml, hown, hts⟩ (c_within l D cI cJ cZ cP cS po (s_) (0) (7) ) (va_cwS 3 hts gX7_shelfAt_X7_within rfl rfl rfl (by decide +kernel) ⟨Nat.le_of_ble_eq_true rfl, Nat.le_of_ble_eq_true rfl⟩) hK hN hZ rfl hl.1 rfl (Nat.le_of_ble_eq_true rfl) dX7_shelfAt_4 ⟨Nat.le_of_ble_eq_true rfl, Nat.le_of_ble_eq_true rfl⟩ (fun r_1 hr_1 => ?_)
  rcases hr_1 with ⟨rfl, g_2⟩ | ⟨rfl, g_3, g_4⟩ | ⟨rfl, g_5, g_6⟩
  · refine lv_if_eq (tgt := 19) hx hb dX7_shelfAt_7 (by decide) (fun c_7 => ?_) (fun c_7 => ?_)
    · refine lv_null hx hb dX7_shelfAt_19 ?_
      exact W.aret (v := .null) hx hb hr (Or.inl ⟨_, rfl⟩) (Or.inl rfl) (fun t ht hW => ⟨none, rfl, Or.inl (⟨rfl, (by first | omega | decide)⟩), ht⟩) (fun q hq => by cases hq) dX7_shelfAt_20
    · exact absurd c_7 (by decide)
  · refine lv_if_eq (tgt := 19) hx hb dX7_shelfAt_7 (by decide) (fun c_8 => ?_) (fun c_8 => ?_)
    · refine lv_null hx hb dX7_shelfAt_19 ?_
      exact W.aret (v := .null) hx hb hr (Or.inl ⟨_, rfl⟩) (Or.inl rfl) (fun t ht hW => ⟨none, rfl, Or.inr (Or.inl (⟨rfl, (by first | omega | decide), (by first | omega | decide)⟩)), ht⟩) (fun q hq => by cases hq) dX7_shelfAt_20
    · exact absurd c_8 (by decide)
  · refine lv_if_eq (tgt := 19) hx hb dX7_shelfAt_7 (by decide) (fun c_9 => ?_) (fun c_9 => ?_)
    · exact absurd c_9 (by decide)
    · refine lv_aload_n hx hb dX7_shelfAt_10 rfl (lv_at hl 0 rfl) ?_
      refine va_get (D := D) (ci := 7) (v := .ref xs) (C := RX7) (T := TX7) (N := 9) hx hb hts hi_X7_shelfAt_7 hown hK hP 0 rfl rfl 0 (by decide) (hts (.fieldLink RX7 11 "TheLiningsInIt" "shelves" "[LTheLiningsInIt$Shelf;") (List.mem_of_getElem? (i := 1) rfl)) (fun _ h9 => h9) rfl dX7_shelfAt_11 ?_
      refine lv_iload_n hx hb dX7_shelfAt_14 rfl (lv_at hl 1 rfl) ?_
      refine va_aldq hx hb hK hP 1 4 rfl rfl (zf_in (by omega) (by omega)) dX7_shelfAt_15 ?_
      refine lv_goto (tgt := 20) hx hb dX7_shelfAt_16 (by decide) ?_
      exact W.aret (v := va_rf (fh s_.toNatClampNeg)) hx hb hr (Or.inl ⟨_, rfl⟩) (va_rf_or _) (fun t ht hW => ⟨(fh s_.toNatClampNeg), rfl, Or.inr (Or.inr (⟨rfl, (by first | omega | decide), (by first | omega | decide)⟩)), ht⟩) (fun q hq => by cases hq) dX7_shelfAt_20
set_option maxHeartbeats 4000000 in
set_option maxRecDepth 100000 in
theorem c_X_row (l : Launch) (D : va_G) (cI cJ cZ cP cS : ClassId) (po : zPool) (x0 xs j0 k0 w0 rd mv xr : Nat) (im lf : Int32) (fr : Nat → Int32) (fh : Nat → Option Nat) (s_ : Int32) (h0 e0 : Nat) (he si : Int32) (fe : Nat → Int64) (o n : Int32) (hy0 : 0 ≤ im.toInt) (hy1 : im.toInt ≤ 1) (hy2 : (-1) ≤ lf.toInt) (hy3 : lf.toInt ≤ 160) (hy4 : (-1) ≤ he.toInt) (hy5 : he.toInt ≤ 103) (hy6 : 0 ≤ si.toInt) (hy7 : si.toInt ≤ 160) (hfs : 0 ≤ s_.toInt → s_.toInt ≤ 7 → fh s_.toNatClampNeg = some h0) (hpz : Nat) : Met l yX7_row wsX7_row ({ frames := 2, cells := 0, slots := 0, locals := 46 }) (va_Pc [.ref x0, .int s_, .int o, .int n] (zW D (zKT cI cJ cZ cP cS) po [(x0, .inr (7, [.ref xs, .ref j0, .ref k0, .ref w0, .ref rd, .ref mv, .ref xr, .int im, .int lf])), (xr, .inl (cI, 8, .inl fr)), (xs, .inl (cS, 8, .inr (.inr (.inr (.inr fh))))), (h0, .inr (4, [.ref e0, .int he, .int si])), (e0, .inl (cJ, 160, .inr (.inl fe)))] hpz)) (va_Qi (fun (r : Int32) (u : (Int32) × (Int32) × (Nat → Int64) × (Nat → Int32)) => ((-1) ≤ u.1.toInt ∧ u.1.toInt ≤ 103) ∧ (0 ≤ u.2.1.toInt ∧ u.2.1.toInt ≤ 160) ∧ (r.toInt = zRow s_.toInt o.toInt n.toInt) ∧ (True)) (zB D [(x0, .inr (7, [.ref xs, .ref j0, .ref k0, .ref w0, .ref rd, .ref mv, .ref xr, .int im, .int lf])), (xr, .inl (cI, 8, .inl fr)), (xs, .inl (cS, 8, .inr (.inr (.inr (.inr fh))))), (h0, .inr (4, [.ref e0, .int he, .int si])), (e0, .inl (cJ, 160, .inr (.inl fe)))] hpz (fun (u : (Int32) × (Int32) × (Nat → Int64) × (Nat → Int32)) => [(x0, .inr (7, [.ref xs, .ref j0, .ref k0, .ref w0, .ref rd, .ref mv, .ref xr, .int im, .int lf])), (xr, .inl (cI, 8, .inl u.2.2.2)), (xs, .inl (cS, 8, .inr (.inr (.inr (.inr fh))))), (h0, .inr (4, [.ref e0, .int u.1, .int u.2.1])), (e0, .inl (cJ, 160, .inr (.inl u.2.2.1)))])) (va_A [(x0, .inr (7, [.ref xs, .ref j0, .ref k0, .ref w0, .ref rd, .ref mv, .ref xr, .int im, .int lf])), (xr, .inl (cI, 8, .inl fr)), (xs, .inl (cS, 8, .inr (.inr (.inr (.inr fh))))), (h0, .inr (4, [.ref e0, .int he, .int si])), (e0, .inl (cJ, 160, .inr (.inl fe)))] hpz)) 0 0 (va_A [(x0, .inr (7, [.ref xs, .ref j0, .ref k0, .ref w0, .ref rd, .ref mv, .ref xr, .int im, .int lf])), (xr, .inl (cI, 8, .inl fr)), (xs, .inl (cS, 8, .inr (.inr (.inr (.inr fh))))), (h0, .inr (4, [.ref e0, .int he, .int si])), (e0, .inl (cJ, 160, .inr (.inl fe)))] hpz) := by
  refine Met.ofW (cc := cX7_row) (maxL := 5) (ret := (some .int)) (by decide) rfl ?_
  intro p e s m args below meth c s₁ B hml hv
  obtain ⟨rfl, hsz, hP, hK, hD0, hN, hZ⟩ := hv
  have hx := B.exec
  have hb := B.bytes
  have hr := B.returns
  have hts := atoms_spec (ws := wsX7_row) B.pre
  have hown : s.vm.findClass RX7 = some m.cls := findClass_of_methodNamed B.named
  have hlocks := B.notSynchronized
  subst hsz
  have hD := hD0.self (sz := s.heap.size)
  have hA : ∀ q : Nat, s.heap.size ≤ q → va_A [(x0, .inr (7, [.ref xs, .ref j0, .ref k0, .ref w0, .ref rd, .ref mv, .ref xr, .int im, .int lf])), (xr, .inl (cI, 8, .inl fr)), (xs, .inl (cS, 8, .inr (.inr (.inr (.inr fh))))), (h0, .inr (4, [.ref e0, .int he, .int si])), (e0, .inl (cJ, 160, .inr (.inl fe)))] s.heap.size q := fun q h => Or.inr h
  have hS : va_S (va_A [(x0, .inr (7, [.ref xs, .ref j0, .ref k0, .ref w0, .ref rd, .ref mv, .ref xr, .int im, .int lf])), (xr, .inl (cI, 8, .inl fr)), (xs, .inl (cS, 8, .inr (.inr (.inr (.inr fh))))), (h0, .inr (4, [.ref e0, .int he, .int si])), (e0, .inl (cJ, 160, .inr (.inl fe)))] s.heap.size) s.heap s.heap [] := va_S.rf
  replace hP : va_P D vwCl _ s.heap := hP
  have hl := lv_entry ([.ref x0, .int s_, .int o, .int n]) (n := 5) (Nat.le_of_ble_eq_true rfl)
  rw [lg_entry_eq]
  generalize (lg_sl ([.ref x0, .int s_, .int o, .int n]) ++ List.replicate (5 - (lg_sl ([.ref x0, .int s_, .int o, .int n])).length) Slot.unset).toArray = ls at hl ⊢
  replace hl : lv_has ls 5 [(0, .ref x0), (1, .int s_), (2, .int o), (3, .int n)] := hl
  refine zw_start (fun H locs hH hL => ?_)
  replace hP : va_P D vwCl [(x0, .inr (7, [.ref xs, .ref j0, .ref k0, .ref w0, .ref rd, .ref mv, .ref xr, .int im, .int lf])), (xr, .inl (cI, 8, .inl fr)), (xs, .inl (cS, 8, .inr (.inr (.inr (.inr fh))))), (h0, .inr (4, [.ref e0, .int he, .int si])), (e0, .inl (cJ, 160, .inr (.inl fe)))] H := by rw [hH]; exact hP
  replace hS : va_S (va_A [(x0, .inr (7, [.ref xs, .ref j0, .ref k0, .ref w0, .ref rd, .ref mv, .ref xr, .int im, .int lf])), (xr, .inl (cI, 8, .inl fr)), (xs, .inl (cS, 8, .inr (.inr (.inr (.inr fh))))), (h0, .inr (4, [.ref e0, .int he, .int si])), (e0, .inl (cJ, 160, .inr (.inl fe)))] s.heap.size) s.heap H locs := by rw [hH, hL]; exact hS
  clear hH hL
  refine lv_aload_n hx hb dX7_row_0 rfl (lv_at hl 0 rfl) ?_
  refine lv_iload_n hx hb dX7_row_1 rfl (lv_at hl 1 rfl) ?_
  refine zc_Vq (As := [.int s_]) (rest := []) ⟨hx, hb, hml, hown, hts⟩ (c_X_shelfAt l D cI cJ cZ cP cS po x0 xs j0 k0 w0 rd mv xr (im) (lf) ((fun _ => 0)) fh (s_) hy0 hy1 hy2 hy3) (cwV 1 hts gX7_row_X7_shelfAt rfl rfl rfl (by decide +kernel) ⟨Nat.le_of_ble_eq_true rfl, Nat.le_of_ble_eq_true rfl⟩) hK hN (hZ.kept hS) hP (hP.sub [0, 2] rfl) (va_recv hK hP (ci := 7) (q0 := 0) rfl rfl) rfl hl.1 rfl (Nat.le_of_ble_eq_true rfl) dX7_row_2 ⟨Nat.le_of_ble_eq_true rfl, Nat.le_of_ble_eq_true rfl⟩ (fun r_1 hr_1 => ?_)
  rcases hr_1 with ⟨rfl, g_2⟩ | ⟨rfl, g_3, g_4⟩ | ⟨rfl, g_5, g_6⟩
  · refine lv_astoreN (lv' := [(4, .null), (0, .ref x0), (1, .int s_), (2, .int o), (3, .int n)]) hx hb dX7_row_5 hl (by decide) rfl (fun ls hl => ?_)
    refine lv_aloadN hx hb dX7_row_7 (lv_at hl 0 rfl) ?_
    refine lv_ifnonnullN hx hb dX7_row_9 ?_
    refine lv_aload_n hx hb dX7_row_12 rfl (lv_at hl 1 rfl) ?_
    refine lv_iconst (v := 1) hx hb dX7_row_13 (by decide) ?_
    skip
    refine zw_V (As := [.int 1]) (rest := []) (wr := [(xs, .inl (cS, 8, .inr (.inr (.inr (.inr fh))))), (h0, .inr (4, [.ref e0, .int he, .int si])), (e0, .inl (cJ, 160, .inr (.inl fe)))]) ⟨hx, hb, hml, hown, hts⟩ (c_X_refuse_1 l D cI cJ cZ cP cS po x0 xs j0 k0 w0 rd mv xr (im) (lf) fr hy0 hy1 hy2 hy3 H.size) (cwV 1 hts gX7_row_X7_refuse rfl rfl rfl (by decide +kernel) ⟨Nat.le_of_ble_eq_true rfl, Nat.le_of_ble_eq_true rfl⟩) hK hN (hZ.kept hS) hP hD hS hA [0, 1] [2, 3, 4] rfl rfl (by decide) (by decide) (by decide) (va_recv hK hP (ci := 7) (q0 := 0) rfl rfl) rfl hl.1 rfl (Nat.le_of_ble_eq_true rfl) dX7_row_14 ⟨Nat.le_of_ble_eq_true rfl, Nat.le_of_ble_eq_true rfl⟩ (fun r_7 u_8 H locs hr_7 hP hD hS => ?_)
    obtain ⟨q_9, rfl⟩ : ∃ z, z = u_8 := ⟨_, rfl⟩
    replace hP : va_P D vwCl [(xs, .inl (cS, 8, .inr (.inr (.inr (.inr fh))))), (h0, .inr (4, [.ref e0, .int he, .int si])), (e0, .inl (cJ, 160, .inr (.inl fe))), (x0, .inr (7, [.ref xs, .ref j0, .ref k0, .ref w0, .ref rd, .ref mv, .ref xr, .int im, .int lf])), (xr, .inl (cI, 8, .inl q_9))] H := hP
    replace hD : va_D _ [(xs, .inl (cS, 8, .inr (.inr (.inr (.inr fh))))), (h0, .inr (4, [.ref e0, .int he, .int si])), (e0, .inl (cJ, 160, .inr (.inl fe))), (x0, .inr (7, [.ref xs, .ref j0, .ref k0, .ref w0, .ref rd, .ref mv, .ref xr, .int im, .int lf])), (xr, .inl (cI, 8, .inl q_9))] := hD
    obtain rfl := hr_7
    exact W.iret (v := (-1)) hx hb hr (fun t ht hW => ⟨⟨(-1), (he, si, fe, q_9), rfl, ⟨(show (-1) ≤ he.toInt ∧ he.toInt ≤ 103 from ⟨hy4, hy5⟩), (show 0 ≤ si.toInt ∧ si.toInt ≤ 160 from ⟨hy6, hy7⟩), (show ((-1) : Int32).toInt = zRow s_.toInt o.toInt n.toInt from by (have k9 : ((-1) : Int32).toInt = -1 := (by decide); unfold zRow; (repeat (first | rw [if_pos (by omega)] | rw [if_neg (by omega)])) <;> omega)), trivial⟩, by rw [ht]; exact hP.sub (ws' := [(x0, .inr (7, [.ref xs, .ref j0, .ref k0, .ref w0, .ref rd, .ref mv, .ref xr, .int im, .int lf])), (xr, .inl (cI, 8, .inl q_9)), (xs, .inl (cS, 8, .inr (.inr (.inr (.inr fh))))), (h0, .inr (4, [.ref e0, .int he, .int si])), (e0, .inl (cJ, 160, .inr (.inl fe)))]) [3, 4, 0, 1, 2] rfl, hD.sub (ws' := [(x0, .inr (7, [.ref xs, .ref j0, .ref k0, .ref w0, .ref rd, .ref mv, .ref xr, .int im, .int lf])), (xr, .inl (cI, 8, .inl q_9)), (xs, .inl (cS, 8, .inr (.inr (.inr (.inr fh))))), (h0, .inr (4, [.ref e0, .int he, .int si])), (e0, .inl (cJ, 160, .inr (.inl fe)))]) [3, 4, 0, 1, 2] (by decide) rfl⟩, hS.F ht⟩) hS.2.2 dX7_row_17
  · refine lv_astoreN (lv' := [(4, .null), (0, .ref x0), (1, .int s_), (2, .int o), (3, .int n)]) hx hb dX7_row_5 hl (by decide) rfl (fun ls hl => ?_)
    refine lv_aloadN hx hb dX7_row_7 (lv_at hl 0 rfl) ?_
    refine lv_ifnonnullN hx hb dX7_row_9 ?_
    refine lv_aload_n hx hb dX7_row_12 rfl (lv_at hl 1 rfl) ?_
    refine lv_iconst (v := 1) hx hb dX7_row_13 (by decide) ?_
    skip
    refine zw_V (As := [.int 1]) (rest := []) (wr := [(xs, .inl (cS, 8, .inr (.inr (.inr (.inr fh))))), (h0, .inr (4, [.ref e0, .int he, .int si])), (e0, .inl (cJ, 160, .inr (.inl fe)))]) ⟨hx, hb, hml, hown, hts⟩ (c_X_refuse_1 l D cI cJ cZ cP cS po x0 xs j0 k0 w0 rd mv xr (im) (lf) fr hy0 hy1 hy2 hy3 H.size) (cwV 1 hts gX7_row_X7_refuse rfl rfl rfl (by decide +kernel) ⟨Nat.le_of_ble_eq_true rfl, Nat.le_of_ble_eq_true rfl⟩) hK hN (hZ.kept hS) hP hD hS hA [0, 1] [2, 3, 4] rfl rfl (by decide) (by decide) (by decide) (va_recv hK hP (ci := 7) (q0 := 0) rfl rfl) rfl hl.1 rfl (Nat.le_of_ble_eq_true rfl) dX7_row_14 ⟨Nat.le_of_ble_eq_true rfl, Nat.le_of_ble_eq_true rfl⟩ (fun r_10 u_11 H locs hr_10 hP hD hS => ?_)
    obtain ⟨q_12, rfl⟩ : ∃ z, z = u_11 := ⟨_, rfl⟩
    replace hP : va_P D vwCl [(xs, .inl (cS, 8, .inr (.inr (.inr (.inr fh))))), (h0, .inr (4, [.ref e0, .int he, .int si])), (e0, .inl (cJ, 160, .inr (.inl fe))), (x0, .inr (7, [.ref xs, .ref j0, .ref k0, .ref w0, .ref rd, .ref mv, .ref xr, .int im, .int lf])), (xr, .inl (cI, 8, .inl q_12))] H := hP
    replace hD : va_D _ [(xs, .inl (cS, 8, .inr (.inr (.inr (.inr fh))))), (h0, .inr (4, [.ref e0, .int he, .int si])), (e0, .inl (cJ, 160, .inr (.inl fe))), (x0, .inr (7, [.ref xs, .ref j0, .ref k0, .ref w0, .ref rd, .ref mv, .ref xr, .int im, .int lf])), (xr, .inl (cI, 8, .inl q_12))] := hD
    obtain rfl := hr_10
    exact W.iret (v := (-1)) hx hb hr (fun t ht hW => ⟨⟨(-1), (he, si, fe, q_12), rfl, ⟨(show (-1) ≤ he.toInt ∧ he.toInt ≤ 103 from ⟨hy4, hy5⟩), (show 0 ≤ si.toInt ∧ si.toInt ≤ 160 from ⟨hy6, hy7⟩), (show ((-1) : Int32).toInt = zRow s_.toInt o.toInt n.toInt from by (have k9 : ((-1) : Int32).toInt = -1 := (by decide); unfold zRow; (repeat (first | rw [if_pos (by omega)] | rw [if_neg (by omega)])) <;> omega)), trivial⟩, by rw [ht]; exact hP.sub (ws' := [(x0, .inr (7, [.ref xs, .ref j0, .ref k0, .ref w0, .ref rd, .ref mv, .ref xr, .int im, .int lf])), (xr, .inl (cI, 8, .inl q_12)), (xs, .inl (cS, 8, .inr (.inr (.inr (.inr fh))))), (h0, .inr (4, [.ref e0, .int he, .int si])), (e0, .inl (cJ, 160, .inr (.inl fe)))]) [3, 4, 0, 1, 2] rfl, hD.sub (ws' := [(x0, .inr (7, [.ref xs, .ref j0, .ref k0, .ref w0, .ref rd, .ref mv, .ref xr, .int im, .int lf])), (xr, .inl (cI, 8, .inl q_12)), (xs, .inl (cS, 8, .inr (.inr (.inr (.inr fh))))), (h0, .inr (4, [.ref e0, .int he, .int si])), (e0, .inl (cJ, 160, .inr (.inl fe)))]) [3, 4, 0, 1, 2] (by decide) rfl⟩, hS.F ht⟩) hS.2.2 dX7_row_17
  · rw [hfs (by omega) (by omega)]
    refine W.eq (g2 := F0 m 5 ls (.ref h0 :: [])) rfl ?_
    refine lv_astore (lv' := [(4, .ref h0), (0, .ref x0), (1, .int s_), (2, .int o), (3, .int n)]) hx hb dX7_row_5 hl (by decide) rfl (fun ls hl => ?_)
    refine lv_aload hx hb dX7_row_7 (lv_at hl 0 rfl) ?_
    refine lv_ifnonnull (tgt := 18) hx hb dX7_row_9 (by decide) ?_
    refine lv_iload_n hx hb dX7_row_18 rfl (lv_at hl 4 rfl) ?_
    refine lv_if_ge (tgt := 28) hx hb dX7_row_19 (by decide) (fun c_13 => ?_) (fun c_13 => ?_)
    · have fc_13 : 0 ≤ n.toInt := zf_le c_13 (by decide) rfl
      refine lv_iload_n hx hb dX7_row_28 rfl (lv_at hl 3 rfl) ?_
      refine lv_iconst (v := 0) hx hb dX7_row_29 (by decide) ?_
      refine lv_iconst (v := 3) hx hb dX7_row_30 (by decide) ?_
      have kc0 : (0 : Int32).toInt = 0 := by decide
      have kc3 : (3 : Int32).toInt = 3 := by decide
      refine zc_S (As := [.int o, .int 0, .int 3]) (rest := []) ⟨hx, hb, hml, hown, hts⟩ (c_within l D cI cJ cZ cP cS po (o) (0) (3) ) (va_cwS 3 hts gX7_row_X7_within rfl rfl rfl (by decide +kernel) ⟨Nat.le_of_ble_eq_true rfl, Nat.le_of_ble_eq_true rfl⟩) hK hN (hZ.kept hS) rfl hl.1 rfl (Nat.le_of_ble_eq_true rfl) dX7_row_31 ⟨Nat.le_of_ble_eq_true rfl, Nat.le_of_ble_eq_true rfl⟩ (fun r_14 hr_14 => ?_)
      rcases hr_14 with ⟨rfl, g_15⟩ | ⟨rfl, g_16, g_17⟩ | ⟨rfl, g_18, g_19⟩
      · refine lv_if_ne (tgt := 44) hx hb dX7_row_34 (by decide) (fun c_20 => ?_) (fun c_20 => ?_)
        · exact absurd c_20 (by decide)
        · refine lv_aload_n hx hb dX7_row_37 rfl (lv_at hl 1 rfl) ?_
          refine lv_bipush (v := 6) hx hb dX7_row_38 (by decide) ?_
          skip
          refine zw_V (As := [.int 6]) (rest := []) (wr := [(xs, .inl (cS, 8, .inr (.inr (.inr (.inr fh))))), (h0, .inr (4, [.ref e0, .int he, .int si])), (e0, .inl (cJ, 160, .inr (.inl fe)))]) ⟨hx, hb, hml, hown, hts⟩ (c_X_refuse_6 l D cI cJ cZ cP cS po x0 xs j0 k0 w0 rd mv xr (im) (lf) fr hy0 hy1 hy2 hy3 H.size) (cwV 1 hts gX7_row_X7_refuse rfl rfl rfl (by decide +kernel) ⟨Nat.le_of_ble_eq_true rfl, Nat.le_of_ble_eq_true rfl⟩) hK hN (hZ.kept hS) hP hD hS hA [0, 1] [2, 3, 4] rfl rfl (by decide) (by decide) (by decide) (va_recv hK hP (ci := 7) (q0 := 0) rfl rfl) rfl hl.1 rfl (Nat.le_of_ble_eq_true rfl) dX7_row_40 ⟨Nat.le_of_ble_eq_true rfl, Nat.le_of_ble_eq_true rfl⟩ (fun r_21 u_22 H locs hr_21 hP hD hS => ?_)
          obtain ⟨q_23, rfl⟩ : ∃ z, z = u_22 := ⟨_, rfl⟩
          replace hP : va_P D vwCl [(xs, .inl (cS, 8, .inr (.inr (.inr (.inr fh))))), (h0, .inr (4, [.ref e0, .int he, .int si])), (e0, .inl (cJ, 160, .inr (.inl fe))), (x0, .inr (7, [.ref xs, .ref j0, .ref k0, .ref w0, .ref rd, .ref mv, .ref xr, .int im, .int lf])), (xr, .inl (cI, 8, .inl q_23))] H := hP
          replace hD : va_D _ [(xs, .inl (cS, 8, .inr (.inr (.inr (.inr fh))))), (h0, .inr (4, [.ref e0, .int he, .int si])), (e0, .inl (cJ, 160, .inr (.inl fe))), (x0, .inr (7, [.ref xs, .ref j0, .ref k0, .ref w0, .ref rd, .ref mv, .ref xr, .int im, .int lf])), (xr, .inl (cI, 8, .inl q_23))] := hD
          obtain rfl := hr_21
          exact W.iret (v := (-6)) hx hb hr (fun t ht hW => ⟨⟨(-6), (he, si, fe, q_23), rfl, ⟨(show (-1) ≤ he.toInt ∧ he.toInt ≤ 103 from ⟨hy4, hy5⟩), (show 0 ≤ si.toInt ∧ si.toInt ≤ 160 from ⟨hy6, hy7⟩), (show ((-6) : Int32).toInt = zRow s_.toInt o.toInt n.toInt from by (have k9 : ((-6) : Int32).toInt = -6 := (by decide); unfold zRow; (repeat (first | rw [if_pos (by omega)] | rw [if_neg (by omega)])) <;> omega)), trivial⟩, by rw [ht]; exact hP.sub (ws' := [(x0, .inr (7, [.ref xs, .ref j0, .ref k0, .ref w0, .ref rd, .ref mv, .ref xr, .int im, .int lf])), (xr, .inl (cI, 8, .inl q_23)), (xs, .inl (cS, 8, .inr (.inr (.inr (.inr fh))))), (h0, .inr (4, [.ref e0, .int he, .int si])), (e0, .inl (cJ, 160, .inr (.inl fe)))]) [3, 4, 0, 1, 2] rfl, hD.sub (ws' := [(x0, .inr (7, [.ref xs, .ref j0, .ref k0, .ref w0, .ref rd, .ref mv, .ref xr, .int im, .int lf])), (xr, .inl (cI, 8, .inl q_23)), (xs, .inl (cS, 8, .inr (.inr (.inr (.inr fh))))), (h0, .inr (4, [.ref e0, .int he, .int si])), (e0, .inl (cJ, 160, .inr (.inl fe)))]) [3, 4, 0, 1, 2] (by decide) rfl⟩, hS.F ht⟩) hS.2.2 dX7_row_43
      · refine lv_if_ne (tgt := 44) hx hb dX7_row_34 (by decide) (fun c_24 => ?_) (fun c_24 => ?_)
        · exact absurd c_24 (by decide)
        · refine lv_aload_n hx hb dX7_row_37 rfl (lv_at hl 1 rfl) ?_
          refine lv_bipush (v := 6) hx hb dX7_row_38 (by decide) ?_
          skip
          refine zw_V (As := [.int 6]) (rest := []) (wr := [(xs, .inl (cS, 8, .inr (.inr (.inr (.inr fh))))), (h0, .inr (4, [.ref e0, .int he, .int si])), (e0, .inl (cJ, 160, .inr (.inl fe)))]) ⟨hx, hb, hml, hown, hts⟩ (c_X_refuse_6 l D cI cJ cZ cP cS po x0 xs j0 k0 w0 rd mv xr (im) (lf) fr hy0 hy1 hy2 hy3 H.size) (cwV 1 hts gX7_row_X7_refuse rfl rfl rfl (by decide +kernel) ⟨Nat.le_of_ble_eq_true rfl, Nat.le_of_ble_eq_true rfl⟩) hK hN (hZ.kept hS) hP hD hS hA [0, 1] [2, 3, 4] rfl rfl (by decide) (by decide) (by decide) (va_recv hK hP (ci := 7) (q0 := 0) rfl rfl) rfl hl.1 rfl (Nat.le_of_ble_eq_true rfl) dX7_row_40 ⟨Nat.le_of_ble_eq_true rfl, Nat.le_of_ble_eq_true rfl⟩ (fun r_25 u_26 H locs hr_25 hP hD hS => ?_)
          obtain ⟨q_27, rfl⟩ : ∃ z, z = u_26 := ⟨_, rfl⟩
          replace hP : va_P D vwCl [(xs, .inl (cS, 8, .inr (.inr (.inr (.inr fh))))), (h0, .inr (4, [.ref e0, .int he, .int si])), (e0, .inl (cJ, 160, .inr (.inl fe))), (x0, .inr (7, [.ref xs, .ref j0, .ref k0, .ref w0, .ref rd, .ref mv, .ref xr, .int im, .int lf])), (xr, .inl (cI, 8, .inl q_27))] H := hP
          replace hD : va_D _ [(xs, .inl (cS, 8, .inr (.inr (.inr (.inr fh))))), (h0, .inr (4, [.ref e0, .int he, .int si])), (e0, .inl (cJ, 160, .inr (.inl fe))), (x0, .inr (7, [.ref xs, .ref j0, .ref k0, .ref w0, .ref rd, .ref mv, .ref xr, .int im, .int lf])), (xr, .inl (cI, 8, .inl q_27))] := hD
          obtain rfl := hr_25
          exact W.iret (v := (-6)) hx hb hr (fun t ht hW => ⟨⟨(-6), (he, si, fe, q_27), rfl, ⟨(show (-1) ≤ he.toInt ∧ he.toInt ≤ 103 from ⟨hy4, hy5⟩), (show 0 ≤ si.toInt ∧ si.toInt ≤ 160 from ⟨hy6, hy7⟩), (show ((-6) : Int32).toInt = zRow s_.toInt o.toInt n.toInt from by (have k9 : ((-6) : Int32).toInt = -6 := (by decide); unfold zRow; (repeat (first | rw [if_pos (by omega)] | rw [if_neg (by omega)])) <;> omega)), trivial⟩, by rw [ht]; exact hP.sub (ws' := [(x0, .inr (7, [.ref xs, .ref j0, .ref k0, .ref w0, .ref rd, .ref mv, .ref xr, .int im, .int lf])), (xr, .inl (cI, 8, .inl q_27)), (xs, .inl (cS, 8, .inr (.inr (.inr (.inr fh))))), (h0, .inr (4, [.ref e0, .int he, .int si])), (e0, .inl (cJ, 160, .inr (.inl fe)))]) [3, 4, 0, 1, 2] rfl, hD.sub (ws' := [(x0, .inr (7, [.ref xs, .ref j0, .ref k0, .ref w0, .ref rd, .ref mv, .ref xr, .int im, .int lf])), (xr, .inl (cI, 8, .inl q_27)), (xs, .inl (cS, 8, .inr (.inr (.inr (.inr fh))))), (h0, .inr (4, [.ref e0, .int he, .int si])), (e0, .inl (cJ, 160, .inr (.inl fe)))]) [3, 4, 0, 1, 2] (by decide) rfl⟩, hS.F ht⟩) hS.2.2 dX7_row_43
      · refine lv_if_ne (tgt := 44) hx hb dX7_row_34 (by decide) (fun c_28 => ?_) (fun c_28 => ?_)
        · refine lv_iload_n hx hb dX7_row_44 rfl (lv_at hl 4 rfl) ?_
          refine lv_sipush (v := 160) hx hb dX7_row_45 (by decide) ?_
          refine lv_icmp_le (tgt := 58) hx hb dX7_row_48 (by decide) (fun c_29 => ?_) (fun c_29 => ?_)
          · have fc_29 : n.toInt ≤ 160 := zf_le c_29 rfl (by decide)
            refine lv_aload hx hb dX7_row_58 (lv_at hl 0 rfl) ?_
            refine lv_iload_n hx hb dX7_row_60 rfl (lv_at hl 3 rfl) ?_
            refine lv_iload_n hx hb dX7_row_61 rfl (lv_at hl 4 rfl) ?_
            skip
            refine zw_Vv (As := [.int o, .int n]) (rest := []) (wr := [(x0, .inr (7, [.ref xs, .ref j0, .ref k0, .ref w0, .ref rd, .ref mv, .ref xr, .int im, .int lf])), (xr, .inl (cI, 8, .inl fr)), (xs, .inl (cS, 8, .inr (.inr (.inr (.inr fh)))))]) ⟨hx, hb, hml, hown, hts⟩ (c_Sh_holdRow l D cI cJ cZ cP cS po h0 e0 (he) (si) fe (o) (n) hy4 hy5 hy6 hy7 (by omega) (by omega) (by omega) (by omega) H.size) (cwV 2 hts gX7_row_X4_holdRow rfl rfl rfl (by decide +kernel) ⟨Nat.le_of_ble_eq_true rfl, Nat.le_of_ble_eq_true rfl⟩) hK hN (hZ.kept hS) hP hD hS hA [3, 4] [0, 1, 2] rfl rfl (by decide) (by decide) (by decide) (va_recv hK hP (ci := 4) (q0 := 3) rfl rfl) rfl hl.1 rfl (Nat.le_of_ble_eq_true rfl) dX7_row_62 ⟨Nat.le_of_ble_eq_true rfl, Nat.le_of_ble_eq_true rfl⟩ (fun u_31 H locs hr_30 hP hD hS => ?_)
            obtain ⟨q_32, q_33, q_34⟩ := u_31
            try dsimp only at hr_30
            obtain ⟨hbq_32, hbq_33, hr_30⟩ := hr_30
            replace hP : va_P D vwCl [(x0, .inr (7, [.ref xs, .ref j0, .ref k0, .ref w0, .ref rd, .ref mv, .ref xr, .int im, .int lf])), (xr, .inl (cI, 8, .inl fr)), (xs, .inl (cS, 8, .inr (.inr (.inr (.inr fh))))), (h0, .inr (4, [.ref e0, .int q_32, .int q_33])), (e0, .inl (cJ, 160, .inr (.inl q_34)))] H := hP
            replace hD : va_D _ [(x0, .inr (7, [.ref xs, .ref j0, .ref k0, .ref w0, .ref rd, .ref mv, .ref xr, .int im, .int lf])), (xr, .inl (cI, 8, .inl fr)), (xs, .inl (cS, 8, .inr (.inr (.inr (.inr fh))))), (h0, .inr (4, [.ref e0, .int q_32, .int q_33])), (e0, .inl (cJ, 160, .inr (.inl q_34)))] := hD
            refine lv_iconst (v := 1) hx hb dX7_row_65 (by decide) ?_
            exact W.iret (v := 1) hx hb hr (fun t ht hW => ⟨⟨1, (q_32, q_33, q_34, fr), rfl, ⟨(show (-1) ≤ q_32.toInt ∧ q_32.toInt ≤ 103 from hbq_32), (show 0 ≤ q_33.toInt ∧ q_33.toInt ≤ 160 from hbq_33), (show (1 : Int32).toInt = zRow s_.toInt o.toInt n.toInt from by (have k9 : (1 : Int32).toInt = 1 := (by decide); unfold zRow; (repeat (first | rw [if_pos (by omega)] | rw [if_neg (by omega)])) <;> omega)), trivial⟩, by rw [ht]; exact hP.sub (ws' := [(x0, .inr (7, [.ref xs, .ref j0, .ref k0, .ref w0, .ref rd, .ref mv, .ref xr, .int im, .int lf])), (xr, .inl (cI, 8, .inl fr)), (xs, .inl (cS, 8, .inr (.inr (.inr (.inr fh))))), (h0, .inr (4, [.ref e0, .int q_32, .int q_33])), (e0, .inl (cJ, 160, .inr (.inl q_34)))]) [0, 1, 2, 3, 4] rfl, hD.sub (ws' := [(x0, .inr (7, [.ref xs, .ref j0, .ref k0, .ref w0, .ref rd, .ref mv, .ref xr, .int im, .int lf])), (xr, .inl (cI, 8, .inl fr)), (xs, .inl (cS, 8, .inr (.inr (.inr (.inr fh))))), (h0, .inr (4, [.ref e0, .int q_32, .int q_33])), (e0, .inl (cJ, 160, .inr (.inl q_34)))]) [0, 1, 2, 3, 4] (by decide) rfl⟩, hS.F ht⟩) hS.2.2 dX7_row_66
          · have fc_29 : 160 < n.toInt := zf_nle c_29 rfl (by decide)
            refine lv_aload_n hx hb dX7_row_51 rfl (lv_at hl 1 rfl) ?_
            refine lv_bipush (v := 7) hx hb dX7_row_52 (by decide) ?_
            skip
            refine zw_V (As := [.int 7]) (rest := []) (wr := [(xs, .inl (cS, 8, .inr (.inr (.inr (.inr fh))))), (h0, .inr (4, [.ref e0, .int he, .int si])), (e0, .inl (cJ, 160, .inr (.inl fe)))]) ⟨hx, hb, hml, hown, hts⟩ (c_X_refuse_7 l D cI cJ cZ cP cS po x0 xs j0 k0 w0 rd mv xr (im) (lf) fr hy0 hy1 hy2 hy3 H.size) (cwV 1 hts gX7_row_X7_refuse rfl rfl rfl (by decide +kernel) ⟨Nat.le_of_ble_eq_true rfl, Nat.le_of_ble_eq_true rfl⟩) hK hN (hZ.kept hS) hP hD hS hA [0, 1] [2, 3, 4] rfl rfl (by decide) (by decide) (by decide) (va_recv hK hP (ci := 7) (q0 := 0) rfl rfl) rfl hl.1 rfl (Nat.le_of_ble_eq_true rfl) dX7_row_54 ⟨Nat.le_of_ble_eq_true rfl, Nat.le_of_ble_eq_true rfl⟩ (fun r_35 u_36 H locs hr_35 hP hD hS => ?_)
            obtain ⟨q_37, rfl⟩ : ∃ z, z = u_36 := ⟨_, rfl⟩
            replace hP : va_P D vwCl [(xs, .inl (cS, 8, .inr (.inr (.inr (.inr fh))))), (h0, .inr (4, [.ref e0, .int he, .int si])), (e0, .inl (cJ, 160, .inr (.inl fe))), (x0, .inr (7, [.ref xs, .ref j0, .ref k0, .ref w0, .ref rd, .ref mv, .ref xr, .int im, .int lf])), (xr, .inl (cI, 8, .inl q_37))] H := hP
            replace hD : va_D _ [(xs, .inl (cS, 8, .inr (.inr (.inr (.inr fh))))), (h0, .inr (4, [.ref e0, .int he, .int si])), (e0, .inl (cJ, 160, .inr (.inl fe))), (x0, .inr (7, [.ref xs, .ref j0, .ref k0, .ref w0, .ref rd, .ref mv, .ref xr, .int im, .int lf])), (xr, .inl (cI, 8, .inl q_37))] := hD
            obtain rfl := hr_35
            exact W.iret (v := (-7)) hx hb hr (fun t ht hW => ⟨⟨(-7), (he, si, fe, q_37), rfl, ⟨(show (-1) ≤ he.toInt ∧ he.toInt ≤ 103 from ⟨hy4, hy5⟩), (show 0 ≤ si.toInt ∧ si.toInt ≤ 160 from ⟨hy6, hy7⟩), (show ((-7) : Int32).toInt = zRow s_.toInt o.toInt n.toInt from by (have k9 : ((-7) : Int32).toInt = -7 := (by decide); unfold zRow; (repeat (first | rw [if_pos (by omega)] | rw [if_neg (by omega)])) <;> omega)), trivial⟩, by rw [ht]; exact hP.sub (ws' := [(x0, .inr (7, [.ref xs, .ref j0, .ref k0, .ref w0, .ref rd, .ref mv, .ref xr, .int im, .int lf])), (xr, .inl (cI, 8, .inl q_37)), (xs, .inl (cS, 8, .inr (.inr (.inr (.inr fh))))), (h0, .inr (4, [.ref e0, .int he, .int si])), (e0, .inl (cJ, 160, .inr (.inl fe)))]) [3, 4, 0, 1, 2] rfl, hD.sub (ws' := [(x0, .inr (7, [.ref xs, .ref j0, .ref k0, .ref w0, .ref rd, .ref mv, .ref xr, .int im, .int lf])), (xr, .inl (cI, 8, .inl q_37)), (xs, .inl (cS, 8, .inr (.inr (.inr (.inr fh))))), (h0, .inr (4, [.ref e0, .int he, .int si])), (e0, .inl (cJ, 160, .inr (.inl fe)))]) [3, 4, 0, 1, 2] (by decide) rfl⟩, hS.F ht⟩) hS.2.2 dX7_row_57
        · exact absurd c_28 (by decide)
    · have fc_13 : n.toInt < 0 := zf_nle c_13 (by decide) rfl
      refine lv_aload_n hx hb dX7_row_22 rfl (lv_at hl 1 rfl) ?_
      refine lv_iconst (v := 4) hx hb dX7_row_23 (by decide) ?_
      skip
      refine zw_V (As := [.int 4]) (rest := []) (wr := [(xs, .inl (cS, 8, .inr (.inr (.inr (.inr fh))))), (h0, .inr (4, [.ref e0, .int he, .int si])), (e0, .inl (cJ, 160, .inr (.inl fe)))]) ⟨hx, hb, hml, hown, hts⟩ (c_X_refuse_4 l D cI cJ cZ cP cS po x0 xs j0 k0 w0 rd mv xr (im) (lf) fr hy0 hy1 hy2 hy3 H.size) (cwV 1 hts gX7_row_X7_refuse rfl rfl rfl (by decide +kernel) ⟨Nat.le_of_ble_eq_true rfl, Nat.le_of_ble_eq_true rfl⟩) hK hN (hZ.kept hS) hP hD hS hA [0, 1] [2, 3, 4] rfl rfl (by decide) (by decide) (by decide) (va_recv hK hP (ci := 7) (q0 := 0) rfl rfl) rfl hl.1 rfl (Nat.le_of_ble_eq_true rfl) dX7_row_24 ⟨Nat.le_of_ble_eq_true rfl, Nat.le_of_ble_eq_true rfl⟩ (fun r_38 u_39 H locs hr_38 hP hD hS => ?_)
      obtain ⟨q_40, rfl⟩ : ∃ z, z = u_39 := ⟨_, rfl⟩
      replace hP : va_P D vwCl [(xs, .inl (cS, 8, .inr (.inr (.inr (.inr fh))))), (h0, .inr (4, [.ref e0, .int he, .int si])), (e0, .inl (cJ, 160, .inr (.inl fe))), (x0, .inr (7, [.ref xs, .ref j0, .ref k0, .ref w0, .ref rd, .ref mv, .ref xr, .int im, .int lf])), (xr, .inl (cI, 8, .inl q_40))] H := hP
      replace hD : va_D _ [(xs, .inl (cS, 8, .inr (.inr (.inr (.inr fh))))), (h0, .inr (4, [.ref e0, .int he, .int si])), (e0, .inl (cJ, 160, .inr (.inl fe))), (x0, .inr (7, [.ref xs, .ref j0, .ref k0, .ref w0, .ref rd, .ref mv, .ref xr, .int im, .int lf])), (xr, .inl (cI, 8, .inl q_40))] := hD
      obtain rfl := hr_38
      exact W.iret (v := (-4)) hx hb hr (fun t ht hW => ⟨⟨(-4), (he, si, fe, q_40), rfl, ⟨(show (-1) ≤ he.toInt ∧ he.toInt ≤ 103 from ⟨hy4, hy5⟩), (show 0 ≤ si.toInt ∧ si.toInt ≤ 160 from ⟨hy6, hy7⟩), (show ((-4) : Int32).toInt = zRow s_.toInt o.toInt n.toInt from by (have k9 : ((-4) : Int32).toInt = -4 := (by decide); unfold zRow; (repeat (first | rw [if_pos (by omega)] | rw [if_neg (by omega)])) <;> omega)), trivial⟩, by rw [ht]; exact hP.sub (ws' := [(x0, .inr (7, [.ref xs, .ref j0, .ref k0, .ref w0, .ref rd, .ref mv, .ref xr, .int im, .int lf])), (xr, .inl (cI, 8, .inl q_40)), (xs, .inl (cS, 8, .inr (.inr (.inr (.inr fh))))), (h0, .inr (4, [.ref e0, .int he, .int si])), (e0, .inl (cJ, 160, .inr (.inl fe)))]) [3, 4, 0, 1, 2] rfl, hD.sub (ws' := [(x0, .inr (7, [.ref xs, .ref j0, .ref k0, .ref w0, .ref rd, .ref mv, .ref xr, .int im, .int lf])), (xr, .inl (cI, 8, .inl q_40)), (xs, .inl (cS, 8, .inr (.inr (.inr (.inr fh))))), (h0, .inr (4, [.ref e0, .int he, .int si])), (e0, .inl (cJ, 160, .inr (.inl fe)))]) [3, 4, 0, 1, 2] (by decide) rfl⟩, hS.F ht⟩) hS.2.2 dX7_row_27
set_option maxHeartbeats 4000000 in
set_option maxRecDepth 100000 in
theorem c_X_set (l : Launch) (D : va_G) (cI cJ cZ cP cS : ClassId) (po : zPool) (x0 xs j0 k0 w0 rd mv xr : Nat) (im lf : Int32) (fr : Nat → Int32) (fh : Nat → Option Nat) (s_ : Int32) (h0 e0 : Nat) (he si : Int32) (fe : Nat → Int64) (i : Int32) (v : Int64) (hy0 : 0 ≤ im.toInt) (hy1 : im.toInt ≤ 1) (hy2 : (-1) ≤ lf.toInt) (hy3 : lf.toInt ≤ 160) (hy4 : (-1) ≤ he.toInt) (hy5 : he.toInt ≤ 103) (hy6 : 0 ≤ si.toInt) (hy7 : si.toInt ≤ 160) (hfs : 0 ≤ s_.toInt → s_.toInt ≤ 7 → fh s_.toNatClampNeg = some h0) (hpz : Nat) : Met l yX7_set wsX7_set ({ frames := 2, cells := 0, slots := 0, locals := 43 }) (va_Pc [.ref x0, .int s_, .int i, .long v] (zW D (zKT cI cJ cZ cP cS) po [(x0, .inr (7, [.ref xs, .ref j0, .ref k0, .ref w0, .ref rd, .ref mv, .ref xr, .int im, .int lf])), (xr, .inl (cI, 8, .inl fr)), (xs, .inl (cS, 8, .inr (.inr (.inr (.inr fh))))), (h0, .inr (4, [.ref e0, .int he, .int si])), (e0, .inl (cJ, 160, .inr (.inl fe)))] hpz)) (va_Qi (fun (r : Int32) (u : (Nat → Int64) × (Nat → Int32)) => True) (zB D [(x0, .inr (7, [.ref xs, .ref j0, .ref k0, .ref w0, .ref rd, .ref mv, .ref xr, .int im, .int lf])), (xr, .inl (cI, 8, .inl fr)), (xs, .inl (cS, 8, .inr (.inr (.inr (.inr fh))))), (h0, .inr (4, [.ref e0, .int he, .int si])), (e0, .inl (cJ, 160, .inr (.inl fe)))] hpz (fun (u : (Nat → Int64) × (Nat → Int32)) => [(x0, .inr (7, [.ref xs, .ref j0, .ref k0, .ref w0, .ref rd, .ref mv, .ref xr, .int im, .int lf])), (xr, .inl (cI, 8, .inl u.2)), (xs, .inl (cS, 8, .inr (.inr (.inr (.inr fh))))), (h0, .inr (4, [.ref e0, .int he, .int si])), (e0, .inl (cJ, 160, .inr (.inl u.1)))])) (va_A [(x0, .inr (7, [.ref xs, .ref j0, .ref k0, .ref w0, .ref rd, .ref mv, .ref xr, .int im, .int lf])), (xr, .inl (cI, 8, .inl fr)), (xs, .inl (cS, 8, .inr (.inr (.inr (.inr fh))))), (h0, .inr (4, [.ref e0, .int he, .int si])), (e0, .inl (cJ, 160, .inr (.inl fe)))] hpz)) 0 0 (va_A [(x0, .inr (7, [.ref xs, .ref j0, .ref k0, .ref w0, .ref rd, .ref mv, .ref xr, .int im, .int lf])), (xr, .inl (cI, 8, .inl fr)), (xs, .inl (cS, 8, .inr (.inr (.inr (.inr fh))))), (h0, .inr (4, [.ref e0, .int he, .int si])), (e0, .inl (cJ, 160, .inr (.inl fe)))] hpz) := by
  refine Met.ofW (cc := cX7_set) (maxL := 7) (ret := (some .int)) (by decide) rfl ?_
  intro p e s m args below meth c s₁ B hml hv
  obtain ⟨rfl, hsz, hP, hK, hD0, hN, hZ⟩ := hv
  have hx := B.exec
  have hb := B.bytes
  have hr := B.returns
  have hts := atoms_spec (ws := wsX7_set) B.pre
  have hown : s.vm.findClass RX7 = some m.cls := findClass_of_methodNamed B.named
  have hlocks := B.notSynchronized
  subst hsz
  have hD := hD0.self (sz := s.heap.size)
  have hA : ∀ q : Nat, s.heap.size ≤ q → va_A [(x0, .inr (7, [.ref xs, .ref j0, .ref k0, .ref w0, .ref rd, .ref mv, .ref xr, .int im, .int lf])), (xr, .inl (cI, 8, .inl fr)), (xs, .inl (cS, 8, .inr (.inr (.inr (.inr fh))))), (h0, .inr (4, [.ref e0, .int he, .int si])), (e0, .inl (cJ, 160, .inr (.inl fe)))] s.heap.size q := fun q h => Or.inr h
  have hS : va_S (va_A [(x0, .inr (7, [.ref xs, .ref j0, .ref k0, .ref w0, .ref rd, .ref mv, .ref xr, .int im, .int lf])), (xr, .inl (cI, 8, .inl fr)), (xs, .inl (cS, 8, .inr (.inr (.inr (.inr fh))))), (h0, .inr (4, [.ref e0, .int he, .int si])), (e0, .inl (cJ, 160, .inr (.inl fe)))] s.heap.size) s.heap s.heap [] := va_S.rf
  replace hP : va_P D vwCl _ s.heap := hP
  have hl := lv_entry ([.ref x0, .int s_, .int i, .long v]) (n := 7) (Nat.le_of_ble_eq_true rfl)
  rw [lg_entry_eq]
  generalize (lg_sl ([.ref x0, .int s_, .int i, .long v]) ++ List.replicate (7 - (lg_sl ([.ref x0, .int s_, .int i, .long v])).length) Slot.unset).toArray = ls at hl ⊢
  replace hl : lv_has ls 7 [(0, .ref x0), (1, .int s_), (2, .int i), (3, .long v)] := hl
  refine zw_start (fun H locs hH hL => ?_)
  replace hP : va_P D vwCl [(x0, .inr (7, [.ref xs, .ref j0, .ref k0, .ref w0, .ref rd, .ref mv, .ref xr, .int im, .int lf])), (xr, .inl (cI, 8, .inl fr)), (xs, .inl (cS, 8, .inr (.inr (.inr (.inr fh))))), (h0, .inr (4, [.ref e0, .int he, .int si])), (e0, .inl (cJ, 160, .inr (.inl fe)))] H := by rw [hH]; exact hP
  replace hS : va_S (va_A [(x0, .inr (7, [.ref xs, .ref j0, .ref k0, .ref w0, .ref rd, .ref mv, .ref xr, .int im, .int lf])), (xr, .inl (cI, 8, .inl fr)), (xs, .inl (cS, 8, .inr (.inr (.inr (.inr fh))))), (h0, .inr (4, [.ref e0, .int he, .int si])), (e0, .inl (cJ, 160, .inr (.inl fe)))] s.heap.size) s.heap H locs := by rw [hH, hL]; exact hS
  clear hH hL
  refine lv_aload_n hx hb dX7_set_0 rfl (lv_at hl 0 rfl) ?_
  refine lv_iload_n hx hb dX7_set_1 rfl (lv_at hl 1 rfl) ?_
  refine zc_Vq (As := [.int s_]) (rest := []) ⟨hx, hb, hml, hown, hts⟩ (c_X_shelfAt l D cI cJ cZ cP cS po x0 xs j0 k0 w0 rd mv xr (im) (lf) ((fun _ => 0)) fh (s_) hy0 hy1 hy2 hy3) (cwV 1 hts gX7_set_X7_shelfAt rfl rfl rfl (by decide +kernel) ⟨Nat.le_of_ble_eq_true rfl, Nat.le_of_ble_eq_true rfl⟩) hK hN (hZ.kept hS) hP (hP.sub [0, 2] rfl) (va_recv hK hP (ci := 7) (q0 := 0) rfl rfl) rfl hl.1 rfl (Nat.le_of_ble_eq_true rfl) dX7_set_2 ⟨Nat.le_of_ble_eq_true rfl, Nat.le_of_ble_eq_true rfl⟩ (fun r_1 hr_1 => ?_)
  rcases hr_1 with ⟨rfl, g_2⟩ | ⟨rfl, g_3, g_4⟩ | ⟨rfl, g_5, g_6⟩
  · refine lv_astoreN (lv' := [(5, .null), (0, .ref x0), (1, .int s_), (2, .int i), (3, .long v)]) hx hb dX7_set_5 hl (by decide) rfl (fun ls hl => ?_)
    refine lv_aloadN hx hb dX7_set_7 (lv_at hl 0 rfl) ?_
    refine lv_ifnonnullN hx hb dX7_set_9 ?_
    refine lv_aload_n hx hb dX7_set_12 rfl (lv_at hl 1 rfl) ?_
    refine lv_iconst (v := 1) hx hb dX7_set_13 (by decide) ?_
    skip
    refine zw_V (As := [.int 1]) (rest := []) (wr := [(xs, .inl (cS, 8, .inr (.inr (.inr (.inr fh))))), (h0, .inr (4, [.ref e0, .int he, .int si])), (e0, .inl (cJ, 160, .inr (.inl fe)))]) ⟨hx, hb, hml, hown, hts⟩ (c_X_refuse_1 l D cI cJ cZ cP cS po x0 xs j0 k0 w0 rd mv xr (im) (lf) fr hy0 hy1 hy2 hy3 H.size) (cwV 1 hts gX7_set_X7_refuse rfl rfl rfl (by decide +kernel) ⟨Nat.le_of_ble_eq_true rfl, Nat.le_of_ble_eq_true rfl⟩) hK hN (hZ.kept hS) hP hD hS hA [0, 1] [2, 3, 4] rfl rfl (by decide) (by decide) (by decide) (va_recv hK hP (ci := 7) (q0 := 0) rfl rfl) rfl hl.1 rfl (Nat.le_of_ble_eq_true rfl) dX7_set_14 ⟨Nat.le_of_ble_eq_true rfl, Nat.le_of_ble_eq_true rfl⟩ (fun r_7 u_8 H locs hr_7 hP hD hS => ?_)
    obtain ⟨q_9, rfl⟩ : ∃ z, z = u_8 := ⟨_, rfl⟩
    replace hP : va_P D vwCl [(xs, .inl (cS, 8, .inr (.inr (.inr (.inr fh))))), (h0, .inr (4, [.ref e0, .int he, .int si])), (e0, .inl (cJ, 160, .inr (.inl fe))), (x0, .inr (7, [.ref xs, .ref j0, .ref k0, .ref w0, .ref rd, .ref mv, .ref xr, .int im, .int lf])), (xr, .inl (cI, 8, .inl q_9))] H := hP
    replace hD : va_D _ [(xs, .inl (cS, 8, .inr (.inr (.inr (.inr fh))))), (h0, .inr (4, [.ref e0, .int he, .int si])), (e0, .inl (cJ, 160, .inr (.inl fe))), (x0, .inr (7, [.ref xs, .ref j0, .ref k0, .ref w0, .ref rd, .ref mv, .ref xr, .int im, .int lf])), (xr, .inl (cI, 8, .inl q_9))] := hD
    obtain rfl := hr_7
    exact W.iret (v := (-1)) hx hb hr (fun t ht hW => ⟨⟨(-1), (fe, q_9), rfl, trivial, by rw [ht]; exact hP.sub (ws' := [(x0, .inr (7, [.ref xs, .ref j0, .ref k0, .ref w0, .ref rd, .ref mv, .ref xr, .int im, .int lf])), (xr, .inl (cI, 8, .inl q_9)), (xs, .inl (cS, 8, .inr (.inr (.inr (.inr fh))))), (h0, .inr (4, [.ref e0, .int he, .int si])), (e0, .inl (cJ, 160, .inr (.inl fe)))]) [3, 4, 0, 1, 2] rfl, hD.sub (ws' := [(x0, .inr (7, [.ref xs, .ref j0, .ref k0, .ref w0, .ref rd, .ref mv, .ref xr, .int im, .int lf])), (xr, .inl (cI, 8, .inl q_9)), (xs, .inl (cS, 8, .inr (.inr (.inr (.inr fh))))), (h0, .inr (4, [.ref e0, .int he, .int si])), (e0, .inl (cJ, 160, .inr (.inl fe)))]) [3, 4, 0, 1, 2] (by decide) rfl⟩, hS.F ht⟩) hS.2.2 dX7_set_17
  · refine lv_astoreN (lv' := [(5, .null), (0, .ref x0), (1, .int s_), (2, .int i), (3, .long v)]) hx hb dX7_set_5 hl (by decide) rfl (fun ls hl => ?_)
    refine lv_aloadN hx hb dX7_set_7 (lv_at hl 0 rfl) ?_
    refine lv_ifnonnullN hx hb dX7_set_9 ?_
    refine lv_aload_n hx hb dX7_set_12 rfl (lv_at hl 1 rfl) ?_
    refine lv_iconst (v := 1) hx hb dX7_set_13 (by decide) ?_
    skip
    refine zw_V (As := [.int 1]) (rest := []) (wr := [(xs, .inl (cS, 8, .inr (.inr (.inr (.inr fh))))), (h0, .inr (4, [.ref e0, .int he, .int si])), (e0, .inl (cJ, 160, .inr (.inl fe)))]) ⟨hx, hb, hml, hown, hts⟩ (c_X_refuse_1 l D cI cJ cZ cP cS po x0 xs j0 k0 w0 rd mv xr (im) (lf) fr hy0 hy1 hy2 hy3 H.size) (cwV 1 hts gX7_set_X7_refuse rfl rfl rfl (by decide +kernel) ⟨Nat.le_of_ble_eq_true rfl, Nat.le_of_ble_eq_true rfl⟩) hK hN (hZ.kept hS) hP hD hS hA [0, 1] [2, 3, 4] rfl rfl (by decide) (by decide) (by decide) (va_recv hK hP (ci := 7) (q0 := 0) rfl rfl) rfl hl.1 rfl (Nat.le_of_ble_eq_true rfl) dX7_set_14 ⟨Nat.le_of_ble_eq_true rfl, Nat.le_of_ble_eq_true rfl⟩ (fun r_10 u_11 H locs hr_10 hP hD hS => ?_)
    obtain ⟨q_12, rfl⟩ : ∃ z, z = u_11 := ⟨_, rfl⟩
    replace hP : va_P D vwCl [(xs, .inl (cS, 8, .inr (.inr (.inr (.inr fh))))), (h0, .inr (4, [.ref e0, .int he, .int si])), (e0, .inl (cJ, 160, .inr (.inl fe))), (x0, .inr (7, [.ref xs, .ref j0, .ref k0, .ref w0, .ref rd, .ref mv, .ref xr, .int im, .int lf])), (xr, .inl (cI, 8, .inl q_12))] H := hP
    replace hD : va_D _ [(xs, .inl (cS, 8, .inr (.inr (.inr (.inr fh))))), (h0, .inr (4, [.ref e0, .int he, .int si])), (e0, .inl (cJ, 160, .inr (.inl fe))), (x0, .inr (7, [.ref xs, .ref j0, .ref k0, .ref w0, .ref rd, .ref mv, .ref xr, .int im, .int lf])), (xr, .inl (cI, 8, .inl q_12))] := hD
    obtain rfl := hr_10
    exact W.iret (v := (-1)) hx hb hr (fun t ht hW => ⟨⟨(-1), (fe, q_12), rfl, trivial, by rw [ht]; exact hP.sub (ws' := [(x0, .inr (7, [.ref xs, .ref j0, .ref k0, .ref w0, .ref rd, .ref mv, .ref xr, .int im, .int lf])), (xr, .inl (cI, 8, .inl q_12)), (xs, .inl (cS, 8, .inr (.inr (.inr (.inr fh))))), (h0, .inr (4, [.ref e0, .int he, .int si])), (e0, .inl (cJ, 160, .inr (.inl fe)))]) [3, 4, 0, 1, 2] rfl, hD.sub (ws' := [(x0, .inr (7, [.ref xs, .ref j0, .ref k0, .ref w0, .ref rd, .ref mv, .ref xr, .int im, .int lf])), (xr, .inl (cI, 8, .inl q_12)), (xs, .inl (cS, 8, .inr (.inr (.inr (.inr fh))))), (h0, .inr (4, [.ref e0, .int he, .int si])), (e0, .inl (cJ, 160, .inr (.inl fe)))]) [3, 4, 0, 1, 2] (by decide) rfl⟩, hS.F ht⟩) hS.2.2 dX7_set_17
  · rw [hfs (by omega) (by omega)]
    refine W.eq (g2 := F0 m 5 ls (.ref h0 :: [])) rfl ?_
    refine lv_astore (lv' := [(5, .ref h0), (0, .ref x0), (1, .int s_), (2, .int i), (3, .long v)]) hx hb dX7_set_5 hl (by decide) rfl (fun ls hl => ?_)
    refine lv_aload hx hb dX7_set_7 (lv_at hl 0 rfl) ?_
    refine lv_ifnonnull (tgt := 18) hx hb dX7_set_9 (by decide) ?_
    refine lv_aload hx hb dX7_set_18 (lv_at hl 0 rfl) ?_
    refine zc_V (As := []) (rest := []) ⟨hx, hb, hml, hown, hts⟩ (c_Sh_noRow l D cI cJ cZ cP cS po h0 e0 (he) (si) hy4 hy5 hy6 hy7) (cwV 0 hts gX7_set_X4_noRow rfl rfl rfl (by decide +kernel) ⟨Nat.le_of_ble_eq_true rfl, Nat.le_of_ble_eq_true rfl⟩) hK hN (hZ.kept hS) hP (hP.sub [3] rfl) (va_recv hK hP (ci := 4) (q0 := 3) rfl rfl) rfl hl.1 rfl (Nat.le_of_ble_eq_true rfl) dX7_set_20 ⟨Nat.le_of_ble_eq_true rfl, Nat.le_of_ble_eq_true rfl⟩ (fun r_13 hr_13 => ?_)
    rcases hr_13 with ⟨rfl, g_14, g_15⟩ | ⟨rfl, g_16, g_17⟩ | ⟨rfl, g_18⟩
    · refine lv_istore (lv' := [(6, .int 2), (5, .ref h0), (0, .ref x0), (1, .int s_), (2, .int i), (3, .long v)]) hx hb dX7_set_23 hl (by decide) rfl (fun ls hl => ?_)
      refine lv_iload hx hb dX7_set_25 (lv_at hl 0 rfl) ?_
      refine lv_if_eq (tgt := 37) hx hb dX7_set_27 (by decide) (fun c_19 => ?_) (fun c_19 => ?_)
      · exact absurd c_19 (by decide)
      · refine lv_aload_n hx hb dX7_set_30 rfl (lv_at hl 2 rfl) ?_
        refine lv_iload hx hb dX7_set_31 (lv_at hl 0 rfl) ?_
        skip
        refine zw_V (As := [.int 2]) (rest := []) (wr := [(xs, .inl (cS, 8, .inr (.inr (.inr (.inr fh))))), (h0, .inr (4, [.ref e0, .int he, .int si])), (e0, .inl (cJ, 160, .inr (.inl fe)))]) ⟨hx, hb, hml, hown, hts⟩ (c_X_refuse_2 l D cI cJ cZ cP cS po x0 xs j0 k0 w0 rd mv xr (im) (lf) fr hy0 hy1 hy2 hy3 H.size) (cwV 1 hts gX7_set_X7_refuse rfl rfl rfl (by decide +kernel) ⟨Nat.le_of_ble_eq_true rfl, Nat.le_of_ble_eq_true rfl⟩) hK hN (hZ.kept hS) hP hD hS hA [0, 1] [2, 3, 4] rfl rfl (by decide) (by decide) (by decide) (va_recv hK hP (ci := 7) (q0 := 0) rfl rfl) rfl hl.1 rfl (Nat.le_of_ble_eq_true rfl) dX7_set_33 ⟨Nat.le_of_ble_eq_true rfl, Nat.le_of_ble_eq_true rfl⟩ (fun r_20 u_21 H locs hr_20 hP hD hS => ?_)
        obtain ⟨q_22, rfl⟩ : ∃ z, z = u_21 := ⟨_, rfl⟩
        replace hP : va_P D vwCl [(xs, .inl (cS, 8, .inr (.inr (.inr (.inr fh))))), (h0, .inr (4, [.ref e0, .int he, .int si])), (e0, .inl (cJ, 160, .inr (.inl fe))), (x0, .inr (7, [.ref xs, .ref j0, .ref k0, .ref w0, .ref rd, .ref mv, .ref xr, .int im, .int lf])), (xr, .inl (cI, 8, .inl q_22))] H := hP
        replace hD : va_D _ [(xs, .inl (cS, 8, .inr (.inr (.inr (.inr fh))))), (h0, .inr (4, [.ref e0, .int he, .int si])), (e0, .inl (cJ, 160, .inr (.inl fe))), (x0, .inr (7, [.ref xs, .ref j0, .ref k0, .ref w0, .ref rd, .ref mv, .ref xr, .int im, .int lf])), (xr, .inl (cI, 8, .inl q_22))] := hD
        obtain rfl := hr_20
        exact W.iret (v := (-2)) hx hb hr (fun t ht hW => ⟨⟨(-2), (fe, q_22), rfl, trivial, by rw [ht]; exact hP.sub (ws' := [(x0, .inr (7, [.ref xs, .ref j0, .ref k0, .ref w0, .ref rd, .ref mv, .ref xr, .int im, .int lf])), (xr, .inl (cI, 8, .inl q_22)), (xs, .inl (cS, 8, .inr (.inr (.inr (.inr fh))))), (h0, .inr (4, [.ref e0, .int he, .int si])), (e0, .inl (cJ, 160, .inr (.inl fe)))]) [3, 4, 0, 1, 2] rfl, hD.sub (ws' := [(x0, .inr (7, [.ref xs, .ref j0, .ref k0, .ref w0, .ref rd, .ref mv, .ref xr, .int im, .int lf])), (xr, .inl (cI, 8, .inl q_22)), (xs, .inl (cS, 8, .inr (.inr (.inr (.inr fh))))), (h0, .inr (4, [.ref e0, .int he, .int si])), (e0, .inl (cJ, 160, .inr (.inl fe)))]) [3, 4, 0, 1, 2] (by decide) rfl⟩, hS.F ht⟩) hS.2.2 dX7_set_36
    · refine lv_istore (lv' := [(6, .int 3), (5, .ref h0), (0, .ref x0), (1, .int s_), (2, .int i), (3, .long v)]) hx hb dX7_set_23 hl (by decide) rfl (fun ls hl => ?_)
      refine lv_iload hx hb dX7_set_25 (lv_at hl 0 rfl) ?_
      refine lv_if_eq (tgt := 37) hx hb dX7_set_27 (by decide) (fun c_23 => ?_) (fun c_23 => ?_)
      · exact absurd c_23 (by decide)
      · refine lv_aload_n hx hb dX7_set_30 rfl (lv_at hl 2 rfl) ?_
        refine lv_iload hx hb dX7_set_31 (lv_at hl 0 rfl) ?_
        skip
        refine zw_V (As := [.int 3]) (rest := []) (wr := [(xs, .inl (cS, 8, .inr (.inr (.inr (.inr fh))))), (h0, .inr (4, [.ref e0, .int he, .int si])), (e0, .inl (cJ, 160, .inr (.inl fe)))]) ⟨hx, hb, hml, hown, hts⟩ (c_X_refuse_3 l D cI cJ cZ cP cS po x0 xs j0 k0 w0 rd mv xr (im) (lf) fr hy0 hy1 hy2 hy3 H.size) (cwV 1 hts gX7_set_X7_refuse rfl rfl rfl (by decide +kernel) ⟨Nat.le_of_ble_eq_true rfl, Nat.le_of_ble_eq_true rfl⟩) hK hN (hZ.kept hS) hP hD hS hA [0, 1] [2, 3, 4] rfl rfl (by decide) (by decide) (by decide) (va_recv hK hP (ci := 7) (q0 := 0) rfl rfl) rfl hl.1 rfl (Nat.le_of_ble_eq_true rfl) dX7_set_33 ⟨Nat.le_of_ble_eq_true rfl, Nat.le_of_ble_eq_true rfl⟩ (fun r_24 u_25 H locs hr_24 hP hD hS => ?_)
        obtain ⟨q_26, rfl⟩ : ∃ z, z = u_25 := ⟨_, rfl⟩
        replace hP : va_P D vwCl [(xs, .inl (cS, 8, .inr (.inr (.inr (.inr fh))))), (h0, .inr (4, [.ref e0, .int he, .int si])), (e0, .inl (cJ, 160, .inr (.inl fe))), (x0, .inr (7, [.ref xs, .ref j0, .ref k0, .ref w0, .ref rd, .ref mv, .ref xr, .int im, .int lf])), (xr, .inl (cI, 8, .inl q_26))] H := hP
        replace hD : va_D _ [(xs, .inl (cS, 8, .inr (.inr (.inr (.inr fh))))), (h0, .inr (4, [.ref e0, .int he, .int si])), (e0, .inl (cJ, 160, .inr (.inl fe))), (x0, .inr (7, [.ref xs, .ref j0, .ref k0, .ref w0, .ref rd, .ref mv, .ref xr, .int im, .int lf])), (xr, .inl (cI, 8, .inl q_26))] := hD
        obtain rfl := hr_24
        exact W.iret (v := (-3)) hx hb hr (fun t ht hW => ⟨⟨(-3), (fe, q_26), rfl, trivial, by rw [ht]; exact hP.sub (ws' := [(x0, .inr (7, [.ref xs, .ref j0, .ref k0, .ref w0, .ref rd, .ref mv, .ref xr, .int im, .int lf])), (xr, .inl (cI, 8, .inl q_26)), (xs, .inl (cS, 8, .inr (.inr (.inr (.inr fh))))), (h0, .inr (4, [.ref e0, .int he, .int si])), (e0, .inl (cJ, 160, .inr (.inl fe)))]) [3, 4, 0, 1, 2] rfl, hD.sub (ws' := [(x0, .inr (7, [.ref xs, .ref j0, .ref k0, .ref w0, .ref rd, .ref mv, .ref xr, .int im, .int lf])), (xr, .inl (cI, 8, .inl q_26)), (xs, .inl (cS, 8, .inr (.inr (.inr (.inr fh))))), (h0, .inr (4, [.ref e0, .int he, .int si])), (e0, .inl (cJ, 160, .inr (.inl fe)))]) [3, 4, 0, 1, 2] (by decide) rfl⟩, hS.F ht⟩) hS.2.2 dX7_set_36
    · refine lv_istore (lv' := [(6, .int 0), (5, .ref h0), (0, .ref x0), (1, .int s_), (2, .int i), (3, .long v)]) hx hb dX7_set_23 hl (by decide) rfl (fun ls hl => ?_)
      refine lv_iload hx hb dX7_set_25 (lv_at hl 0 rfl) ?_
      refine lv_if_eq (tgt := 37) hx hb dX7_set_27 (by decide) (fun c_27 => ?_) (fun c_27 => ?_)
      · refine lv_aload hx hb dX7_set_37 (lv_at hl 1 rfl) ?_
        refine lv_iload_n hx hb dX7_set_39 rfl (lv_at hl 4 rfl) ?_
        refine lv_iconst (v := 1) hx hb dX7_set_40 (by decide) ?_
        have kc1 : (1 : Int32).toInt = 1 := by decide
        refine zc_V (As := [.int i, .int 1]) (rest := []) ⟨hx, hb, hml, hown, hts⟩ (c_Sh_hasSpan l D cI cJ cZ cP cS po h0 e0 (he) (si) (i) (1) hy4 hy5 hy6 hy7) (cwV 2 hts gX7_set_X4_hasSpan rfl rfl rfl (by decide +kernel) ⟨Nat.le_of_ble_eq_true rfl, Nat.le_of_ble_eq_true rfl⟩) hK hN (hZ.kept hS) hP (hP.sub [3] rfl) (va_recv hK hP (ci := 4) (q0 := 3) rfl rfl) rfl hl.1 rfl (Nat.le_of_ble_eq_true rfl) dX7_set_41 ⟨Nat.le_of_ble_eq_true rfl, Nat.le_of_ble_eq_true rfl⟩ (fun r_28 hr_28 => ?_)
        rcases hr_28 with ⟨rfl, g_29⟩ | ⟨rfl, g_30, g_31⟩ | ⟨rfl, g_32, g_33, g_34⟩ | ⟨rfl, g_35, g_36, g_37, g_38⟩ | ⟨rfl, g_39, g_40, g_41, g_42⟩
        · refine lv_if_ne (tgt := 53) hx hb dX7_set_44 (by decide) (fun c_43 => ?_) (fun c_43 => ?_)
          · exact absurd c_43 (by decide)
          · refine lv_aload_n hx hb dX7_set_47 rfl (lv_at hl 2 rfl) ?_
            refine lv_iconst (v := 5) hx hb dX7_set_48 (by decide) ?_
            skip
            refine zw_V (As := [.int 5]) (rest := []) (wr := [(xs, .inl (cS, 8, .inr (.inr (.inr (.inr fh))))), (h0, .inr (4, [.ref e0, .int he, .int si])), (e0, .inl (cJ, 160, .inr (.inl fe)))]) ⟨hx, hb, hml, hown, hts⟩ (c_X_refuse_5 l D cI cJ cZ cP cS po x0 xs j0 k0 w0 rd mv xr (im) (lf) fr hy0 hy1 hy2 hy3 H.size) (cwV 1 hts gX7_set_X7_refuse rfl rfl rfl (by decide +kernel) ⟨Nat.le_of_ble_eq_true rfl, Nat.le_of_ble_eq_true rfl⟩) hK hN (hZ.kept hS) hP hD hS hA [0, 1] [2, 3, 4] rfl rfl (by decide) (by decide) (by decide) (va_recv hK hP (ci := 7) (q0 := 0) rfl rfl) rfl hl.1 rfl (Nat.le_of_ble_eq_true rfl) dX7_set_49 ⟨Nat.le_of_ble_eq_true rfl, Nat.le_of_ble_eq_true rfl⟩ (fun r_44 u_45 H locs hr_44 hP hD hS => ?_)
            obtain ⟨q_46, rfl⟩ : ∃ z, z = u_45 := ⟨_, rfl⟩
            replace hP : va_P D vwCl [(xs, .inl (cS, 8, .inr (.inr (.inr (.inr fh))))), (h0, .inr (4, [.ref e0, .int he, .int si])), (e0, .inl (cJ, 160, .inr (.inl fe))), (x0, .inr (7, [.ref xs, .ref j0, .ref k0, .ref w0, .ref rd, .ref mv, .ref xr, .int im, .int lf])), (xr, .inl (cI, 8, .inl q_46))] H := hP
            replace hD : va_D _ [(xs, .inl (cS, 8, .inr (.inr (.inr (.inr fh))))), (h0, .inr (4, [.ref e0, .int he, .int si])), (e0, .inl (cJ, 160, .inr (.inl fe))), (x0, .inr (7, [.ref xs, .ref j0, .ref k0, .ref w0, .ref rd, .ref mv, .ref xr, .int im, .int lf])), (xr, .inl (cI, 8, .inl q_46))] := hD
            obtain rfl := hr_44
            exact W.iret (v := (-5)) hx hb hr (fun t ht hW => ⟨⟨(-5), (fe, q_46), rfl, trivial, by rw [ht]; exact hP.sub (ws' := [(x0, .inr (7, [.ref xs, .ref j0, .ref k0, .ref w0, .ref rd, .ref mv, .ref xr, .int im, .int lf])), (xr, .inl (cI, 8, .inl q_46)), (xs, .inl (cS, 8, .inr (.inr (.inr (.inr fh))))), (h0, .inr (4, [.ref e0, .int he, .int si])), (e0, .inl (cJ, 160, .inr (.inl fe)))]) [3, 4, 0, 1, 2] rfl, hD.sub (ws' := [(x0, .inr (7, [.ref xs, .ref j0, .ref k0, .ref w0, .ref rd, .ref mv, .ref xr, .int im, .int lf])), (xr, .inl (cI, 8, .inl q_46)), (xs, .inl (cS, 8, .inr (.inr (.inr (.inr fh))))), (h0, .inr (4, [.ref e0, .int he, .int si])), (e0, .inl (cJ, 160, .inr (.inl fe)))]) [3, 4, 0, 1, 2] (by decide) rfl⟩, hS.F ht⟩) hS.2.2 dX7_set_52
        · exfalso; omega
        · refine lv_if_ne (tgt := 53) hx hb dX7_set_44 (by decide) (fun c_47 => ?_) (fun c_47 => ?_)
          · exact absurd c_47 (by decide)
          · refine lv_aload_n hx hb dX7_set_47 rfl (lv_at hl 2 rfl) ?_
            refine lv_iconst (v := 5) hx hb dX7_set_48 (by decide) ?_
            skip
            refine zw_V (As := [.int 5]) (rest := []) (wr := [(xs, .inl (cS, 8, .inr (.inr (.inr (.inr fh))))), (h0, .inr (4, [.ref e0, .int he, .int si])), (e0, .inl (cJ, 160, .inr (.inl fe)))]) ⟨hx, hb, hml, hown, hts⟩ (c_X_refuse_5 l D cI cJ cZ cP cS po x0 xs j0 k0 w0 rd mv xr (im) (lf) fr hy0 hy1 hy2 hy3 H.size) (cwV 1 hts gX7_set_X7_refuse rfl rfl rfl (by decide +kernel) ⟨Nat.le_of_ble_eq_true rfl, Nat.le_of_ble_eq_true rfl⟩) hK hN (hZ.kept hS) hP hD hS hA [0, 1] [2, 3, 4] rfl rfl (by decide) (by decide) (by decide) (va_recv hK hP (ci := 7) (q0 := 0) rfl rfl) rfl hl.1 rfl (Nat.le_of_ble_eq_true rfl) dX7_set_49 ⟨Nat.le_of_ble_eq_true rfl, Nat.le_of_ble_eq_true rfl⟩ (fun r_48 u_49 H locs hr_48 hP hD hS => ?_)
            obtain ⟨q_50, rfl⟩ : ∃ z, z = u_49 := ⟨_, rfl⟩
            replace hP : va_P D vwCl [(xs, .inl (cS, 8, .inr (.inr (.inr (.inr fh))))), (h0, .inr (4, [.ref e0, .int he, .int si])), (e0, .inl (cJ, 160, .inr (.inl fe))), (x0, .inr (7, [.ref xs, .ref j0, .ref k0, .ref w0, .ref rd, .ref mv, .ref xr, .int im, .int lf])), (xr, .inl (cI, 8, .inl q_50))] H := hP
            replace hD : va_D _ [(xs, .inl (cS, 8, .inr (.inr (.inr (.inr fh))))), (h0, .inr (4, [.ref e0, .int he, .int si])), (e0, .inl (cJ, 160, .inr (.inl fe))), (x0, .inr (7, [.ref xs, .ref j0, .ref k0, .ref w0, .ref rd, .ref mv, .ref xr, .int im, .int lf])), (xr, .inl (cI, 8, .inl q_50))] := hD
            obtain rfl := hr_48
            exact W.iret (v := (-5)) hx hb hr (fun t ht hW => ⟨⟨(-5), (fe, q_50), rfl, trivial, by rw [ht]; exact hP.sub (ws' := [(x0, .inr (7, [.ref xs, .ref j0, .ref k0, .ref w0, .ref rd, .ref mv, .ref xr, .int im, .int lf])), (xr, .inl (cI, 8, .inl q_50)), (xs, .inl (cS, 8, .inr (.inr (.inr (.inr fh))))), (h0, .inr (4, [.ref e0, .int he, .int si])), (e0, .inl (cJ, 160, .inr (.inl fe)))]) [3, 4, 0, 1, 2] rfl, hD.sub (ws' := [(x0, .inr (7, [.ref xs, .ref j0, .ref k0, .ref w0, .ref rd, .ref mv, .ref xr, .int im, .int lf])), (xr, .inl (cI, 8, .inl q_50)), (xs, .inl (cS, 8, .inr (.inr (.inr (.inr fh))))), (h0, .inr (4, [.ref e0, .int he, .int si])), (e0, .inl (cJ, 160, .inr (.inl fe)))]) [3, 4, 0, 1, 2] (by decide) rfl⟩, hS.F ht⟩) hS.2.2 dX7_set_52
        · refine lv_if_ne (tgt := 53) hx hb dX7_set_44 (by decide) (fun c_51 => ?_) (fun c_51 => ?_)
          · exact absurd c_51 (by decide)
          · refine lv_aload_n hx hb dX7_set_47 rfl (lv_at hl 2 rfl) ?_
            refine lv_iconst (v := 5) hx hb dX7_set_48 (by decide) ?_
            skip
            refine zw_V (As := [.int 5]) (rest := []) (wr := [(xs, .inl (cS, 8, .inr (.inr (.inr (.inr fh))))), (h0, .inr (4, [.ref e0, .int he, .int si])), (e0, .inl (cJ, 160, .inr (.inl fe)))]) ⟨hx, hb, hml, hown, hts⟩ (c_X_refuse_5 l D cI cJ cZ cP cS po x0 xs j0 k0 w0 rd mv xr (im) (lf) fr hy0 hy1 hy2 hy3 H.size) (cwV 1 hts gX7_set_X7_refuse rfl rfl rfl (by decide +kernel) ⟨Nat.le_of_ble_eq_true rfl, Nat.le_of_ble_eq_true rfl⟩) hK hN (hZ.kept hS) hP hD hS hA [0, 1] [2, 3, 4] rfl rfl (by decide) (by decide) (by decide) (va_recv hK hP (ci := 7) (q0 := 0) rfl rfl) rfl hl.1 rfl (Nat.le_of_ble_eq_true rfl) dX7_set_49 ⟨Nat.le_of_ble_eq_true rfl, Nat.le_of_ble_eq_true rfl⟩ (fun r_52 u_53 H locs hr_52 hP hD hS => ?_)
            obtain ⟨q_54, rfl⟩ : ∃ z, z = u_53 := ⟨_, rfl⟩
            replace hP : va_P D vwCl [(xs, .inl (cS, 8, .inr (.inr (.inr (.inr fh))))), (h0, .inr (4, [.ref e0, .int he, .int si])), (e0, .inl (cJ, 160, .inr (.inl fe))), (x0, .inr (7, [.ref xs, .ref j0, .ref k0, .ref w0, .ref rd, .ref mv, .ref xr, .int im, .int lf])), (xr, .inl (cI, 8, .inl q_54))] H := hP
            replace hD : va_D _ [(xs, .inl (cS, 8, .inr (.inr (.inr (.inr fh))))), (h0, .inr (4, [.ref e0, .int he, .int si])), (e0, .inl (cJ, 160, .inr (.inl fe))), (x0, .inr (7, [.ref xs, .ref j0, .ref k0, .ref w0, .ref rd, .ref mv, .ref xr, .int im, .int lf])), (xr, .inl (cI, 8, .inl q_54))] := hD
            obtain rfl := hr_52
            exact W.iret (v := (-5)) hx hb hr (fun t ht hW => ⟨⟨(-5), (fe, q_54), rfl, trivial, by rw [ht]; exact hP.sub (ws' := [(x0, .inr (7, [.ref xs, .ref j0, .ref k0, .ref w0, .ref rd, .ref mv, .ref xr, .int im, .int lf])), (xr, .inl (cI, 8, .inl q_54)), (xs, .inl (cS, 8, .inr (.inr (.inr (.inr fh))))), (h0, .inr (4, [.ref e0, .int he, .int si])), (e0, .inl (cJ, 160, .inr (.inl fe)))]) [3, 4, 0, 1, 2] rfl, hD.sub (ws' := [(x0, .inr (7, [.ref xs, .ref j0, .ref k0, .ref w0, .ref rd, .ref mv, .ref xr, .int im, .int lf])), (xr, .inl (cI, 8, .inl q_54)), (xs, .inl (cS, 8, .inr (.inr (.inr (.inr fh))))), (h0, .inr (4, [.ref e0, .int he, .int si])), (e0, .inl (cJ, 160, .inr (.inl fe)))]) [3, 4, 0, 1, 2] (by decide) rfl⟩, hS.F ht⟩) hS.2.2 dX7_set_52
        · refine lv_if_ne (tgt := 53) hx hb dX7_set_44 (by decide) (fun c_55 => ?_) (fun c_55 => ?_)
          · refine lv_aload hx hb dX7_set_53 (lv_at hl 1 rfl) ?_
            refine lv_iload_n hx hb dX7_set_55 rfl (lv_at hl 4 rfl) ?_
            refine lv_lload_n hx hb dX7_set_56 rfl (lv_at hl 5 rfl) ?_
            skip
            refine zw_Vv (As := [.int i, .long v]) (rest := []) (wr := [(x0, .inr (7, [.ref xs, .ref j0, .ref k0, .ref w0, .ref rd, .ref mv, .ref xr, .int im, .int lf])), (xr, .inl (cI, 8, .inl fr)), (xs, .inl (cS, 8, .inr (.inr (.inr (.inr fh)))))]) ⟨hx, hb, hml, hown, hts⟩ (c_Sh_put l D cI cJ cZ cP cS po h0 e0 (he) (si) fe (i) (v) hy4 hy5 hy6 hy7 (by omega) (by omega) H.size) (cwV 2 hts gX7_set_X4_put rfl rfl rfl (by decide +kernel) ⟨Nat.le_of_ble_eq_true rfl, Nat.le_of_ble_eq_true rfl⟩) hK hN (hZ.kept hS) hP hD hS hA [3, 4] [0, 1, 2] rfl rfl (by decide) (by decide) (by decide) (va_recv hK hP (ci := 4) (q0 := 3) rfl rfl) rfl hl.1 rfl (Nat.le_of_ble_eq_true rfl) dX7_set_57 ⟨Nat.le_of_ble_eq_true rfl, Nat.le_of_ble_eq_true rfl⟩ (fun u_57 H locs hr_56 hP hD hS => ?_)
            obtain ⟨q_58, rfl⟩ : ∃ z, z = u_57 := ⟨_, rfl⟩
            replace hP : va_P D vwCl [(x0, .inr (7, [.ref xs, .ref j0, .ref k0, .ref w0, .ref rd, .ref mv, .ref xr, .int im, .int lf])), (xr, .inl (cI, 8, .inl fr)), (xs, .inl (cS, 8, .inr (.inr (.inr (.inr fh))))), (h0, .inr (4, [.ref e0, .int he, .int si])), (e0, .inl (cJ, 160, .inr (.inl q_58)))] H := hP
            replace hD : va_D _ [(x0, .inr (7, [.ref xs, .ref j0, .ref k0, .ref w0, .ref rd, .ref mv, .ref xr, .int im, .int lf])), (xr, .inl (cI, 8, .inl fr)), (xs, .inl (cS, 8, .inr (.inr (.inr (.inr fh))))), (h0, .inr (4, [.ref e0, .int he, .int si])), (e0, .inl (cJ, 160, .inr (.inl q_58)))] := hD
            refine lv_iconst (v := 1) hx hb dX7_set_60 (by decide) ?_
            exact W.iret (v := 1) hx hb hr (fun t ht hW => ⟨⟨1, (q_58, fr), rfl, trivial, by rw [ht]; exact hP.sub (ws' := [(x0, .inr (7, [.ref xs, .ref j0, .ref k0, .ref w0, .ref rd, .ref mv, .ref xr, .int im, .int lf])), (xr, .inl (cI, 8, .inl fr)), (xs, .inl (cS, 8, .inr (.inr (.inr (.inr fh))))), (h0, .inr (4, [.ref e0, .int he, .int si])), (e0, .inl (cJ, 160, .inr (.inl q_58)))]) [0, 1, 2, 3, 4] rfl, hD.sub (ws' := [(x0, .inr (7, [.ref xs, .ref j0, .ref k0, .ref w0, .ref rd, .ref mv, .ref xr, .int im, .int lf])), (xr, .inl (cI, 8, .inl fr)), (xs, .inl (cS, 8, .inr (.inr (.inr (.inr fh))))), (h0, .inr (4, [.ref e0, .int he, .int si])), (e0, .inl (cJ, 160, .inr (.inl q_58)))]) [0, 1, 2, 3, 4] (by decide) rfl⟩, hS.F ht⟩) hS.2.2 dX7_set_61
          · exact absurd c_55 (by decide)
      · exact absurd c_27 (by decide)
theorem hi_X7_copy_4 : ∀ w ∈ u_ws RX4 TX4 3, w ∈ wsX7_copy := fun w h => (goodIn_r (u_ws RX4 TX4 3) [32, 33, 34] rfl (by decide +kernel) w h).1
set_option maxHeartbeats 4000000 in
set_option maxRecDepth 100000 in
theorem c_X_copy (l : Launch) (D : va_G) (cI cJ cZ cP cS : ClassId) (po : zPool) (x0 xs j0 k0 w0 rd mv xr : Nat) (im lf : Int32) (fr : Nat → Int32) (fh : Nat → Option Nat) (s_ : Int32) (h0 e0 : Nat) (he si : Int32) (fe : Nat → Int64) (q_ : Int32) (g0 e1 : Nat) (ge gs : Int32) (fe1 : Nat → Int64) (i j n : Int32) (hy0 : 0 ≤ im.toInt) (hy1 : im.toInt ≤ 1) (hy2 : (-1) ≤ lf.toInt) (hy3 : lf.toInt ≤ 160) (hy4 : (-1) ≤ he.toInt) (hy5 : he.toInt ≤ 103) (hy6 : 0 ≤ si.toInt) (hy7 : si.toInt ≤ 160) (hy8 : (-1) ≤ ge.toInt) (hy9 : ge.toInt ≤ 103) (hy10 : 0 ≤ gs.toInt) (hy11 : gs.toInt ≤ 160) (hfs : 0 ≤ s_.toInt → s_.toInt ≤ 7 → fh s_.toNatClampNeg = some h0) (hfq : 0 ≤ q_.toInt → q_.toInt ≤ 7 → fh q_.toNatClampNeg = some g0) (hpz : Nat) : Met l yX7_copy wsX7_copy ({ frames := 2, cells := 0, slots := 0, locals := 100 }) (va_Pc [.ref x0, .int s_, .int q_, .int i, .int j, .int n] (zW D (zKT cI cJ cZ cP cS) po [(x0, .inr (7, [.ref xs, .ref j0, .ref k0, .ref w0, .ref rd, .ref mv, .ref xr, .int im, .int lf])), (xr, .inl (cI, 8, .inl fr)), (xs, .inl (cS, 8, .inr (.inr (.inr (.inr fh))))), (h0, .inr (4, [.ref e0, .int he, .int si])), (e0, .inl (cJ, 160, .inr (.inl fe))), (g0, .inr (4, [.ref e1, .int ge, .int gs])), (e1, .inl (cJ, 160, .inr (.inl fe1)))] hpz)) (va_Qi (fun (r : Int32) (u : (Nat → Int64) × (Nat → Int32)) => True) (zB D [(x0, .inr (7, [.ref xs, .ref j0, .ref k0, .ref w0, .ref rd, .ref mv, .ref xr, .int im, .int lf])), (xr, .inl (cI, 8, .inl fr)), (xs, .inl (cS, 8, .inr (.inr (.inr (.inr fh))))), (h0, .inr (4, [.ref e0, .int he, .int si])), (e0, .inl (cJ, 160, .inr (.inl fe))), (g0, .inr (4, [.ref e1, .int ge, .int gs])), (e1, .inl (cJ, 160, .inr (.inl fe1)))] hpz (fun (u : (Nat → Int64) × (Nat → Int32)) => [(x0, .inr (7, [.ref xs, .ref j0, .ref k0, .ref w0, .ref rd, .ref mv, .ref xr, .int im, .int lf])), (xr, .inl (cI, 8, .inl u.2)), (xs, .inl (cS, 8, .inr (.inr (.inr (.inr fh))))), (h0, .inr (4, [.ref e0, .int he, .int si])), (e0, .inl (cJ, 160, .inr (.inl fe))), (g0, .inr (4, [.ref e1, .int ge, .int gs])), (e1, .inl (cJ, 160, .inr (.inl u.1)))])) (va_A [(x0, .inr (7, [.ref xs, .ref j0, .ref k0, .ref w0, .ref rd, .ref mv, .ref xr, .int im, .int lf])), (xr, .inl (cI, 8, .inl fr)), (xs, .inl (cS, 8, .inr (.inr (.inr (.inr fh))))), (h0, .inr (4, [.ref e0, .int he, .int si])), (e0, .inl (cJ, 160, .inr (.inl fe))), (g0, .inr (4, [.ref e1, .int ge, .int gs])), (e1, .inl (cJ, 160, .inr (.inl fe1)))] hpz)) 0 0 (va_A [(x0, .inr (7, [.ref xs, .ref j0, .ref k0, .ref w0, .ref rd, .ref mv, .ref xr, .int im, .int lf])), (xr, .inl (cI, 8, .inl fr)), (xs, .inl (cS, 8, .inr (.inr (.inr (.inr fh))))), (h0, .inr (4, [.ref e0, .int he, .int si])), (e0, .inl (cJ, 160, .inr (.inl fe))), (g0, .inr (4, [.ref e1, .int ge, .int gs])), (e1, .inl (cJ, 160, .inr (.inl fe1)))] hpz) := by
  refine Met.ofW (cc := cX7_copy) (maxL := 11) (ret := (some .int)) (by decide) rfl ?_
  intro p e s m args below meth c s₁ B hml hv
  obtain ⟨rfl, hsz, hP, hK, hD0, hN, hZ⟩ := hv
  have hx := B.exec
  have hb := B.bytes
  have hr := B.returns
  have hts := atoms_spec (ws := wsX7_copy) B.pre
  have hown : s.vm.findClass RX7 = some m.cls := findClass_of_methodNamed B.named
  have hlocks := B.notSynchronized
  subst hsz
  have hD := hD0.self (sz := s.heap.size)
  have hA : ∀ q : Nat, s.heap.size ≤ q → va_A [(x0, .inr (7, [.ref xs, .ref j0, .ref k0, .ref w0, .ref rd, .ref mv, .ref xr, .int im, .int lf])), (xr, .inl (cI, 8, .inl fr)), (xs, .inl (cS, 8, .inr (.inr (.inr (.inr fh))))), (h0, .inr (4, [.ref e0, .int he, .int si])), (e0, .inl (cJ, 160, .inr (.inl fe))), (g0, .inr (4, [.ref e1, .int ge, .int gs])), (e1, .inl (cJ, 160, .inr (.inl fe1)))] s.heap.size q := fun q h => Or.inr h
  have hS : va_S (va_A [(x0, .inr (7, [.ref xs, .ref j0, .ref k0, .ref w0, .ref rd, .ref mv, .ref xr, .int im, .int lf])), (xr, .inl (cI, 8, .inl fr)), (xs, .inl (cS, 8, .inr (.inr (.inr (.inr fh))))), (h0, .inr (4, [.ref e0, .int he, .int si])), (e0, .inl (cJ, 160, .inr (.inl fe))), (g0, .inr (4, [.ref e1, .int ge, .int gs])), (e1, .inl (cJ, 160, .inr (.inl fe1)))] s.heap.size) s.heap s.heap [] := va_S.rf
  replace hP : va_P D vwCl _ s.heap := hP
  have hl := lv_entry ([.ref x0, .int s_, .int q_, .int i, .int j, .int n]) (n := 11) (Nat.le_of_ble_eq_true rfl)
  rw [lg_entry_eq]
  generalize (lg_sl ([.ref x0, .int s_, .int q_, .int i, .int j, .int n]) ++ List.replicate (11 - (lg_sl ([.ref x0, .int s_, .int q_, .int i, .int j, .int n])).length) Slot.unset).toArray = ls at hl ⊢
  replace hl : lv_has ls 11 [(0, .ref x0), (1, .int s_), (2, .int q_), (3, .int i), (4, .int j), (5, .int n)] := hl
  refine zw_start (fun H locs hH hL => ?_)
  replace hP : va_P D vwCl [(x0, .inr (7, [.ref xs, .ref j0, .ref k0, .ref w0, .ref rd, .ref mv, .ref xr, .int im, .int lf])), (xr, .inl (cI, 8, .inl fr)), (xs, .inl (cS, 8, .inr (.inr (.inr (.inr fh))))), (h0, .inr (4, [.ref e0, .int he, .int si])), (e0, .inl (cJ, 160, .inr (.inl fe))), (g0, .inr (4, [.ref e1, .int ge, .int gs])), (e1, .inl (cJ, 160, .inr (.inl fe1)))] H := by rw [hH]; exact hP
  replace hS : va_S (va_A [(x0, .inr (7, [.ref xs, .ref j0, .ref k0, .ref w0, .ref rd, .ref mv, .ref xr, .int im, .int lf])), (xr, .inl (cI, 8, .inl fr)), (xs, .inl (cS, 8, .inr (.inr (.inr (.inr fh))))), (h0, .inr (4, [.ref e0, .int he, .int si])), (e0, .inl (cJ, 160, .inr (.inl fe))), (g0, .inr (4, [.ref e1, .int ge, .int gs])), (e1, .inl (cJ, 160, .inr (.inl fe1)))] s.heap.size) s.heap H locs := by rw [hH, hL]; exact hS
  clear hH hL
  refine lv_aload_n hx hb dX7_copy_0 rfl (lv_at hl 0 rfl) ?_
  refine lv_iload_n hx hb dX7_copy_1 rfl (lv_at hl 1 rfl) ?_
  refine zc_Vq (As := [.int s_]) (rest := []) ⟨hx, hb, hml, hown, hts⟩ (c_X_shelfAt l D cI cJ cZ cP cS po x0 xs j0 k0 w0 rd mv xr (im) (lf) ((fun _ => 0)) fh (s_) hy0 hy1 hy2 hy3) (cwV 1 hts gX7_copy_X7_shelfAt rfl rfl rfl (by decide +kernel) ⟨Nat.le_of_ble_eq_true rfl, Nat.le_of_ble_eq_true rfl⟩) hK hN (hZ.kept hS) hP (hP.sub [0, 2] rfl) (va_recv hK hP (ci := 7) (q0 := 0) rfl rfl) rfl hl.1 rfl (Nat.le_of_ble_eq_true rfl) dX7_copy_2 ⟨Nat.le_of_ble_eq_true rfl, Nat.le_of_ble_eq_true rfl⟩ (fun r_1 hr_1 => ?_)
  rcases hr_1 with ⟨rfl, g_2⟩ | ⟨rfl, g_3, g_4⟩ | ⟨rfl, g_5, g_6⟩
  · refine lv_astoreN (lv' := [(6, .null), (0, .ref x0), (1, .int s_), (2, .int q_), (3, .int i), (4, .int j), (5, .int n)]) hx hb dX7_copy_5 hl (by decide) rfl (fun ls hl => ?_)
    refine lv_aload_n hx hb dX7_copy_7 rfl (lv_at hl 1 rfl) ?_
    refine lv_iload_n hx hb dX7_copy_8 rfl (lv_at hl 3 rfl) ?_
    refine zc_Vq (As := [.int q_]) (rest := []) ⟨hx, hb, hml, hown, hts⟩ (c_X_shelfAt l D cI cJ cZ cP cS po x0 xs j0 k0 w0 rd mv xr (im) (lf) ((fun _ => 0)) fh (q_) hy0 hy1 hy2 hy3) (cwV 1 hts gX7_copy_X7_shelfAt rfl rfl rfl (by decide +kernel) ⟨Nat.le_of_ble_eq_true rfl, Nat.le_of_ble_eq_true rfl⟩) hK hN (hZ.kept hS) hP (hP.sub [0, 2] rfl) (va_recv hK hP (ci := 7) (q0 := 0) rfl rfl) rfl hl.1 rfl (Nat.le_of_ble_eq_true rfl) dX7_copy_9 ⟨Nat.le_of_ble_eq_true rfl, Nat.le_of_ble_eq_true rfl⟩ (fun r_7 hr_7 => ?_)
    rcases hr_7 with ⟨rfl, g_8⟩ | ⟨rfl, g_9, g_10⟩ | ⟨rfl, g_11, g_12⟩
    · refine lv_astoreN (lv' := [(7, .null), (6, .null), (0, .ref x0), (1, .int s_), (2, .int q_), (3, .int i), (4, .int j), (5, .int n)]) hx hb dX7_copy_12 hl (by decide) rfl (fun ls hl => ?_)
      refine lv_aloadN hx hb dX7_copy_14 (lv_at hl 1 rfl) ?_
      refine lv_ifnullN (tgt := 24) hx hb dX7_copy_16 (by decide) ?_
      refine lv_aload_n hx hb dX7_copy_24 rfl (lv_at hl 2 rfl) ?_
      refine lv_iconst (v := 1) hx hb dX7_copy_25 (by decide) ?_
      skip
      refine zw_V (As := [.int 1]) (rest := []) (wr := [(xs, .inl (cS, 8, .inr (.inr (.inr (.inr fh))))), (h0, .inr (4, [.ref e0, .int he, .int si])), (e0, .inl (cJ, 160, .inr (.inl fe))), (g0, .inr (4, [.ref e1, .int ge, .int gs])), (e1, .inl (cJ, 160, .inr (.inl fe1)))]) ⟨hx, hb, hml, hown, hts⟩ (c_X_refuse_1 l D cI cJ cZ cP cS po x0 xs j0 k0 w0 rd mv xr (im) (lf) fr hy0 hy1 hy2 hy3 H.size) (cwV 1 hts gX7_copy_X7_refuse rfl rfl rfl (by decide +kernel) ⟨Nat.le_of_ble_eq_true rfl, Nat.le_of_ble_eq_true rfl⟩) hK hN (hZ.kept hS) hP hD hS hA [0, 1] [2, 3, 4, 5, 6] rfl rfl (by decide) (by decide) (by decide) (va_recv hK hP (ci := 7) (q0 := 0) rfl rfl) rfl hl.1 rfl (Nat.le_of_ble_eq_true rfl) dX7_copy_26 ⟨Nat.le_of_ble_eq_true rfl, Nat.le_of_ble_eq_true rfl⟩ (fun r_13 u_14 H locs hr_13 hP hD hS => ?_)
      obtain ⟨q_15, rfl⟩ : ∃ z, z = u_14 := ⟨_, rfl⟩
      replace hP : va_P D vwCl [(xs, .inl (cS, 8, .inr (.inr (.inr (.inr fh))))), (h0, .inr (4, [.ref e0, .int he, .int si])), (e0, .inl (cJ, 160, .inr (.inl fe))), (g0, .inr (4, [.ref e1, .int ge, .int gs])), (e1, .inl (cJ, 160, .inr (.inl fe1))), (x0, .inr (7, [.ref xs, .ref j0, .ref k0, .ref w0, .ref rd, .ref mv, .ref xr, .int im, .int lf])), (xr, .inl (cI, 8, .inl q_15))] H := hP
      replace hD : va_D _ [(xs, .inl (cS, 8, .inr (.inr (.inr (.inr fh))))), (h0, .inr (4, [.ref e0, .int he, .int si])), (e0, .inl (cJ, 160, .inr (.inl fe))), (g0, .inr (4, [.ref e1, .int ge, .int gs])), (e1, .inl (cJ, 160, .inr (.inl fe1))), (x0, .inr (7, [.ref xs, .ref j0, .ref k0, .ref w0, .ref rd, .ref mv, .ref xr, .int im, .int lf])), (xr, .inl (cI, 8, .inl q_15))] := hD
      obtain rfl := hr_13
      exact W.iret (v := (-1)) hx hb hr (fun t ht hW => ⟨⟨(-1), (fe1, q_15), rfl, trivial, by rw [ht]; exact hP.sub (ws' := [(x0, .inr (7, [.ref xs, .ref j0, .ref k0, .ref w0, .ref rd, .ref mv, .ref xr, .int im, .int lf])), (xr, .inl (cI, 8, .inl q_15)), (xs, .inl (cS, 8, .inr (.inr (.inr (.inr fh))))), (h0, .inr (4, [.ref e0, .int he, .int si])), (e0, .inl (cJ, 160, .inr (.inl fe))), (g0, .inr (4, [.ref e1, .int ge, .int gs])), (e1, .inl (cJ, 160, .inr (.inl fe1)))]) [5, 6, 0, 1, 2, 3, 4] rfl, hD.sub (ws' := [(x0, .inr (7, [.ref xs, .ref j0, .ref k0, .ref w0, .ref rd, .ref mv, .ref xr, .int im, .int lf])), (xr, .inl (cI, 8, .inl q_15)), (xs, .inl (cS, 8, .inr (.inr (.inr (.inr fh))))), (h0, .inr (4, [.ref e0, .int he, .int si])), (e0, .inl (cJ, 160, .inr (.inl fe))), (g0, .inr (4, [.ref e1, .int ge, .int gs])), (e1, .inl (cJ, 160, .inr (.inl fe1)))]) [5, 6, 0, 1, 2, 3, 4] (by decide) rfl⟩, hS.F ht⟩) hS.2.2 dX7_copy_29
    · refine lv_astoreN (lv' := [(7, .null), (6, .null), (0, .ref x0), (1, .int s_), (2, .int q_), (3, .int i), (4, .int j), (5, .int n)]) hx hb dX7_copy_12 hl (by decide) rfl (fun ls hl => ?_)
      refine lv_aloadN hx hb dX7_copy_14 (lv_at hl 1 rfl) ?_
      refine lv_ifnullN (tgt := 24) hx hb dX7_copy_16 (by decide) ?_
      refine lv_aload_n hx hb dX7_copy_24 rfl (lv_at hl 2 rfl) ?_
      refine lv_iconst (v := 1) hx hb dX7_copy_25 (by decide) ?_
      skip
      refine zw_V (As := [.int 1]) (rest := []) (wr := [(xs, .inl (cS, 8, .inr (.inr (.inr (.inr fh))))), (h0, .inr (4, [.ref e0, .int he, .int si])), (e0, .inl (cJ, 160, .inr (.inl fe))), (g0, .inr (4, [.ref e1, .int ge, .int gs])), (e1, .inl (cJ, 160, .inr (.inl fe1)))]) ⟨hx, hb, hml, hown, hts⟩ (c_X_refuse_1 l D cI cJ cZ cP cS po x0 xs j0 k0 w0 rd mv xr (im) (lf) fr hy0 hy1 hy2 hy3 H.size) (cwV 1 hts gX7_copy_X7_refuse rfl rfl rfl (by decide +kernel) ⟨Nat.le_of_ble_eq_true rfl, Nat.le_of_ble_eq_true rfl⟩) hK hN (hZ.kept hS) hP hD hS hA [0, 1] [2, 3, 4, 5, 6] rfl rfl (by decide) (by decide) (by decide) (va_recv hK hP (ci := 7) (q0 := 0) rfl rfl) rfl hl.1 rfl (Nat.le_of_ble_eq_true rfl) dX7_copy_26 ⟨Nat.le_of_ble_eq_true rfl, Nat.le_of_ble_eq_true rfl⟩ (fun r_16 u_17 H locs hr_16 hP hD hS => ?_)
      obtain ⟨q_18, rfl⟩ : ∃ z, z = u_17 := ⟨_, rfl⟩
      replace hP : va_P D vwCl [(xs, .inl (cS, 8, .inr (.inr (.inr (.inr fh))))), (h0, .inr (4, [.ref e0, .int he, .int si])), (e0, .inl (cJ, 160, .inr (.inl fe))), (g0, .inr (4, [.ref e1, .int ge, .int gs])), (e1, .inl (cJ, 160, .inr (.inl fe1))), (x0, .inr (7, [.ref xs, .ref j0, .ref k0, .ref w0, .ref rd, .ref mv, .ref xr, .int im, .int lf])), (xr, .inl (cI, 8, .inl q_18))] H := hP
      replace hD : va_D _ [(xs, .inl (cS, 8, .inr (.inr (.inr (.inr fh))))), (h0, .inr (4, [.ref e0, .int he, .int si])), (e0, .inl (cJ, 160, .inr (.inl fe))), (g0, .inr (4, [.ref e1, .int ge, .int gs])), (e1, .inl (cJ, 160, .inr (.inl fe1))), (x0, .inr (7, [.ref xs, .ref j0, .ref k0, .ref w0, .ref rd, .ref mv, .ref xr, .int im, .int lf])), (xr, .inl (cI, 8, .inl q_18))] := hD
      obtain rfl := hr_16
      exact W.iret (v := (-1)) hx hb hr (fun t ht hW => ⟨⟨(-1), (fe1, q_18), rfl, trivial, by rw [ht]; exact hP.sub (ws' := [(x0, .inr (7, [.ref xs, .ref j0, .ref k0, .ref w0, .ref rd, .ref mv, .ref xr, .int im, .int lf])), (xr, .inl (cI, 8, .inl q_18)), (xs, .inl (cS, 8, .inr (.inr (.inr (.inr fh))))), (h0, .inr (4, [.ref e0, .int he, .int si])), (e0, .inl (cJ, 160, .inr (.inl fe))), (g0, .inr (4, [.ref e1, .int ge, .int gs])), (e1, .inl (cJ, 160, .inr (.inl fe1)))]) [5, 6, 0, 1, 2, 3, 4] rfl, hD.sub (ws' := [(x0, .inr (7, [.ref xs, .ref j0, .ref k0, .ref w0, .ref rd, .ref mv, .ref xr, .int im, .int lf])), (xr, .inl (cI, 8, .inl q_18)), (xs, .inl (cS, 8, .inr (.inr (.inr (.inr fh))))), (h0, .inr (4, [.ref e0, .int he, .int si])), (e0, .inl (cJ, 160, .inr (.inl fe))), (g0, .inr (4, [.ref e1, .int ge, .int gs])), (e1, .inl (cJ, 160, .inr (.inl fe1)))]) [5, 6, 0, 1, 2, 3, 4] (by decide) rfl⟩, hS.F ht⟩) hS.2.2 dX7_copy_29
    · rw [hfq (by omega) (by omega)]
      refine W.eq (g2 := F0 m 12 ls (.ref g0 :: [])) rfl ?_
      refine lv_astore (lv' := [(7, .ref g0), (6, .null), (0, .ref x0), (1, .int s_), (2, .int q_), (3, .int i), (4, .int j), (5, .int n)]) hx hb dX7_copy_12 hl (by decide) rfl (fun ls hl => ?_)
      refine lv_aloadN hx hb dX7_copy_14 (lv_at hl 1 rfl) ?_
      refine lv_ifnullN (tgt := 24) hx hb dX7_copy_16 (by decide) ?_
      refine lv_aload_n hx hb dX7_copy_24 rfl (lv_at hl 2 rfl) ?_
      refine lv_iconst (v := 1) hx hb dX7_copy_25 (by decide) ?_
      skip
      refine zw_V (As := [.int 1]) (rest := []) (wr := [(xs, .inl (cS, 8, .inr (.inr (.inr (.inr fh))))), (h0, .inr (4, [.ref e0, .int he, .int si])), (e0, .inl (cJ, 160, .inr (.inl fe))), (g0, .inr (4, [.ref e1, .int ge, .int gs])), (e1, .inl (cJ, 160, .inr (.inl fe1)))]) ⟨hx, hb, hml, hown, hts⟩ (c_X_refuse_1 l D cI cJ cZ cP cS po x0 xs j0 k0 w0 rd mv xr (im) (lf) fr hy0 hy1 hy2 hy3 H.size) (cwV 1 hts gX7_copy_X7_refuse rfl rfl rfl (by decide +kernel) ⟨Nat.le_of_ble_eq_true rfl, Nat.le_of_ble_eq_true rfl⟩) hK hN (hZ.kept hS) hP hD hS hA [0, 1] [2, 3, 4, 5, 6] rfl rfl (by decide) (by decide) (by decide) (va_recv hK hP (ci := 7) (q0 := 0) rfl rfl) rfl hl.1 rfl (Nat.le_of_ble_eq_true rfl) dX7_copy_26 ⟨Nat.le_of_ble_eq_true rfl, Nat.le_of_ble_eq_true rfl⟩ (fun r_19 u_20 H locs hr_19 hP hD hS => ?_)
      obtain ⟨q_21, rfl⟩ : ∃ z, z = u_20 := ⟨_, rfl⟩
      replace hP : va_P D vwCl [(xs, .inl (cS, 8, .inr (.inr (.inr (.inr fh))))), (h0, .inr (4, [.ref e0, .int he, .int si])), (e0, .inl (cJ, 160, .inr (.inl fe))), (g0, .inr (4, [.ref e1, .int ge, .int gs])), (e1, .inl (cJ, 160, .inr (.inl fe1))), (x0, .inr (7, [.ref xs, .ref j0, .ref k0, .ref w0, .ref rd, .ref mv, .ref xr, .int im, .int lf])), (xr, .inl (cI, 8, .inl q_21))] H := hP
      replace hD : va_D _ [(xs, .inl (cS, 8, .inr (.inr (.inr (.inr fh))))), (h0, .inr (4, [.ref e0, .int he, .int si])), (e0, .inl (cJ, 160, .inr (.inl fe))), (g0, .inr (4, [.ref e1, .int ge, .int gs])), (e1, .inl (cJ, 160, .inr (.inl fe1))), (x0, .inr (7, [.ref xs, .ref j0, .ref k0, .ref w0, .ref rd, .ref mv, .ref xr, .int im, .int lf])), (xr, .inl (cI, 8, .inl q_21))] := hD
      obtain rfl := hr_19
      exact W.iret (v := (-1)) hx hb hr (fun t ht hW => ⟨⟨(-1), (fe1, q_21), rfl, trivial, by rw [ht]; exact hP.sub (ws' := [(x0, .inr (7, [.ref xs, .ref j0, .ref k0, .ref w0, .ref rd, .ref mv, .ref xr, .int im, .int lf])), (xr, .inl (cI, 8, .inl q_21)), (xs, .inl (cS, 8, .inr (.inr (.inr (.inr fh))))), (h0, .inr (4, [.ref e0, .int he, .int si])), (e0, .inl (cJ, 160, .inr (.inl fe))), (g0, .inr (4, [.ref e1, .int ge, .int gs])), (e1, .inl (cJ, 160, .inr (.inl fe1)))]) [5, 6, 0, 1, 2, 3, 4] rfl, hD.sub (ws' := [(x0, .inr (7, [.ref xs, .ref j0, .ref k0, .ref w0, .ref rd, .ref mv, .ref xr, .int im, .int lf])), (xr, .inl (cI, 8, .inl q_21)), (xs, .inl (cS, 8, .inr (.inr (.inr (.inr fh))))), (h0, .inr (4, [.ref e0, .int he, .int si])), (e0, .inl (cJ, 160, .inr (.inl fe))), (g0, .inr (4, [.ref e1, .int ge, .int gs])), (e1, .inl (cJ, 160, .inr (.inl fe1)))]) [5, 6, 0, 1, 2, 3, 4] (by decide) rfl⟩, hS.F ht⟩) hS.2.2 dX7_copy_29
  · refine lv_astoreN (lv' := [(6, .null), (0, .ref x0), (1, .int s_), (2, .int q_), (3, .int i), (4, .int j), (5, .int n)]) hx hb dX7_copy_5 hl (by decide) rfl (fun ls hl => ?_)
    refine lv_aload_n hx hb dX7_copy_7 rfl (lv_at hl 1 rfl) ?_
    refine lv_iload_n hx hb dX7_copy_8 rfl (lv_at hl 3 rfl) ?_
    refine zc_Vq (As := [.int q_]) (rest := []) ⟨hx, hb, hml, hown, hts⟩ (c_X_shelfAt l D cI cJ cZ cP cS po x0 xs j0 k0 w0 rd mv xr (im) (lf) ((fun _ => 0)) fh (q_) hy0 hy1 hy2 hy3) (cwV 1 hts gX7_copy_X7_shelfAt rfl rfl rfl (by decide +kernel) ⟨Nat.le_of_ble_eq_true rfl, Nat.le_of_ble_eq_true rfl⟩) hK hN (hZ.kept hS) hP (hP.sub [0, 2] rfl) (va_recv hK hP (ci := 7) (q0 := 0) rfl rfl) rfl hl.1 rfl (Nat.le_of_ble_eq_true rfl) dX7_copy_9 ⟨Nat.le_of_ble_eq_true rfl, Nat.le_of_ble_eq_true rfl⟩ (fun r_22 hr_22 => ?_)
    rcases hr_22 with ⟨rfl, g_23⟩ | ⟨rfl, g_24, g_25⟩ | ⟨rfl, g_26, g_27⟩
    · refine lv_astoreN (lv' := [(7, .null), (6, .null), (0, .ref x0), (1, .int s_), (2, .int q_), (3, .int i), (4, .int j), (5, .int n)]) hx hb dX7_copy_12 hl (by decide) rfl (fun ls hl => ?_)
      refine lv_aloadN hx hb dX7_copy_14 (lv_at hl 1 rfl) ?_
      refine lv_ifnullN (tgt := 24) hx hb dX7_copy_16 (by decide) ?_
      refine lv_aload_n hx hb dX7_copy_24 rfl (lv_at hl 2 rfl) ?_
      refine lv_iconst (v := 1) hx hb dX7_copy_25 (by decide) ?_
      skip
      refine zw_V (As := [.int 1]) (rest := []) (wr := [(xs, .inl (cS, 8, .inr (.inr (.inr (.inr fh))))), (h0, .inr (4, [.ref e0, .int he, .int si])), (e0, .inl (cJ, 160, .inr (.inl fe))), (g0, .inr (4, [.ref e1, .int ge, .int gs])), (e1, .inl (cJ, 160, .inr (.inl fe1)))]) ⟨hx, hb, hml, hown, hts⟩ (c_X_refuse_1 l D cI cJ cZ cP cS po x0 xs j0 k0 w0 rd mv xr (im) (lf) fr hy0 hy1 hy2 hy3 H.size) (cwV 1 hts gX7_copy_X7_refuse rfl rfl rfl (by decide +kernel) ⟨Nat.le_of_ble_eq_true rfl, Nat.le_of_ble_eq_true rfl⟩) hK hN (hZ.kept hS) hP hD hS hA [0, 1] [2, 3, 4, 5, 6] rfl rfl (by decide) (by decide) (by decide) (va_recv hK hP (ci := 7) (q0 := 0) rfl rfl) rfl hl.1 rfl (Nat.le_of_ble_eq_true rfl) dX7_copy_26 ⟨Nat.le_of_ble_eq_true rfl, Nat.le_of_ble_eq_true rfl⟩ (fun r_28 u_29 H locs hr_28 hP hD hS => ?_)
      obtain ⟨q_30, rfl⟩ : ∃ z, z = u_29 := ⟨_, rfl⟩
      replace hP : va_P D vwCl [(xs, .inl (cS, 8, .inr (.inr (.inr (.inr fh))))), (h0, .inr (4, [.ref e0, .int he, .int si])), (e0, .inl (cJ, 160, .inr (.inl fe))), (g0, .inr (4, [.ref e1, .int ge, .int gs])), (e1, .inl (cJ, 160, .inr (.inl fe1))), (x0, .inr (7, [.ref xs, .ref j0, .ref k0, .ref w0, .ref rd, .ref mv, .ref xr, .int im, .int lf])), (xr, .inl (cI, 8, .inl q_30))] H := hP
      replace hD : va_D _ [(xs, .inl (cS, 8, .inr (.inr (.inr (.inr fh))))), (h0, .inr (4, [.ref e0, .int he, .int si])), (e0, .inl (cJ, 160, .inr (.inl fe))), (g0, .inr (4, [.ref e1, .int ge, .int gs])), (e1, .inl (cJ, 160, .inr (.inl fe1))), (x0, .inr (7, [.ref xs, .ref j0, .ref k0, .ref w0, .ref rd, .ref mv, .ref xr, .int im, .int lf])), (xr, .inl (cI, 8, .inl q_30))] := hD
      obtain rfl := hr_28
      exact W.iret (v := (-1)) hx hb hr (fun t ht hW => ⟨⟨(-1), (fe1, q_30), rfl, trivial, by rw [ht]; exact hP.sub (ws' := [(x0, .inr (7, [.ref xs, .ref j0, .ref k0, .ref w0, .ref rd, .ref mv, .ref xr, .int im, .int lf])), (xr, .inl (cI, 8, .inl q_30)), (xs, .inl (cS, 8, .inr (.inr (.inr (.inr fh))))), (h0, .inr (4, [.ref e0, .int he, .int si])), (e0, .inl (cJ, 160, .inr (.inl fe))), (g0, .inr (4, [.ref e1, .int ge, .int gs])), (e1, .inl (cJ, 160, .inr (.inl fe1)))]) [5, 6, 0, 1, 2, 3, 4] rfl, hD.sub (ws' := [(x0, .inr (7, [.ref xs, .ref j0, .ref k0, .ref w0, .ref rd, .ref mv, .ref xr, .int im, .int lf])), (xr, .inl (cI, 8, .inl q_30)), (xs, .inl (cS, 8, .inr (.inr (.inr (.inr fh))))), (h0, .inr (4, [.ref e0, .int he, .int si])), (e0, .inl (cJ, 160, .inr (.inl fe))), (g0, .inr (4, [.ref e1, .int ge, .int gs])), (e1, .inl (cJ, 160, .inr (.inl fe1)))]) [5, 6, 0, 1, 2, 3, 4] (by decide) rfl⟩, hS.F ht⟩) hS.2.2 dX7_copy_29
    · refine lv_astoreN (lv' := [(7, .null), (6, .null), (0, .ref x0), (1, .int s_), (2, .int q_), (3, .int i), (4, .int j), (5, .int n)]) hx hb dX7_copy_12 hl (by decide) rfl (fun ls hl => ?_)
      refine lv_aloadN hx hb dX7_copy_14 (lv_at hl 1 rfl) ?_
      refine lv_ifnullN (tgt := 24) hx hb dX7_copy_16 (by decide) ?_
      refine lv_aload_n hx hb dX7_copy_24 rfl (lv_at hl 2 rfl) ?_
      refine lv_iconst (v := 1) hx hb dX7_copy_25 (by decide) ?_
      skip
      refine zw_V (As := [.int 1]) (rest := []) (wr := [(xs, .inl (cS, 8, .inr (.inr (.inr (.inr fh))))), (h0, .inr (4, [.ref e0, .int he, .int si])), (e0, .inl (cJ, 160, .inr (.inl fe))), (g0, .inr (4, [.ref e1, .int ge, .int gs])), (e1, .inl (cJ, 160, .inr (.inl fe1)))]) ⟨hx, hb, hml, hown, hts⟩ (c_X_refuse_1 l D cI cJ cZ cP cS po x0 xs j0 k0 w0 rd mv xr (im) (lf) fr hy0 hy1 hy2 hy3 H.size) (cwV 1 hts gX7_copy_X7_refuse rfl rfl rfl (by decide +kernel) ⟨Nat.le_of_ble_eq_true rfl, Nat.le_of_ble_eq_true rfl⟩) hK hN (hZ.kept hS) hP hD hS hA [0, 1] [2, 3, 4, 5, 6] rfl rfl (by decide) (by decide) (by decide) (va_recv hK hP (ci := 7) (q0 := 0) rfl rfl) rfl hl.1 rfl (Nat.le_of_ble_eq_true rfl) dX7_copy_26 ⟨Nat.le_of_ble_eq_true rfl, Nat.le_of_ble_eq_true rfl⟩ (fun r_31 u_32 H locs hr_31 hP hD hS => ?_)
      obtain ⟨q_33, rfl⟩ : ∃ z, z = u_32 := ⟨_, rfl⟩
      replace hP : va_P D vwCl [(xs, .inl (cS, 8, .inr (.inr (.inr (.inr fh))))), (h0, .inr (4, [.ref e0, .int he, .int si])), (e0, .inl (cJ, 160, .inr (.inl fe))), (g0, .inr (4, [.ref e1, .int ge, .int gs])), (e1, .inl (cJ, 160, .inr (.inl fe1))), (x0, .inr (7, [.ref xs, .ref j0, .ref k0, .ref w0, .ref rd, .ref mv, .ref xr, .int im, .int lf])), (xr, .inl (cI, 8, .inl q_33))] H := hP
      replace hD : va_D _ [(xs, .inl (cS, 8, .inr (.inr (.inr (.inr fh))))), (h0, .inr (4, [.ref e0, .int he, .int si])), (e0, .inl (cJ, 160, .inr (.inl fe))), (g0, .inr (4, [.ref e1, .int ge, .int gs])), (e1, .inl (cJ, 160, .inr (.inl fe1))), (x0, .inr (7, [.ref xs, .ref j0, .ref k0, .ref w0, .ref rd, .ref mv, .ref xr, .int im, .int lf])), (xr, .inl (cI, 8, .inl q_33))] := hD
      obtain rfl := hr_31
      exact W.iret (v := (-1)) hx hb hr (fun t ht hW => ⟨⟨(-1), (fe1, q_33), rfl, trivial, by rw [ht]; exact hP.sub (ws' := [(x0, .inr (7, [.ref xs, .ref j0, .ref k0, .ref w0, .ref rd, .ref mv, .ref xr, .int im, .int lf])), (xr, .inl (cI, 8, .inl q_33)), (xs, .inl (cS, 8, .inr (.inr (.inr (.inr fh))))), (h0, .inr (4, [.ref e0, .int he, .int si])), (e0, .inl (cJ, 160, .inr (.inl fe))), (g0, .inr (4, [.ref e1, .int ge, .int gs])), (e1, .inl (cJ, 160, .inr (.inl fe1)))]) [5, 6, 0, 1, 2, 3, 4] rfl, hD.sub (ws' := [(x0, .inr (7, [.ref xs, .ref j0, .ref k0, .ref w0, .ref rd, .ref mv, .ref xr, .int im, .int lf])), (xr, .inl (cI, 8, .inl q_33)), (xs, .inl (cS, 8, .inr (.inr (.inr (.inr fh))))), (h0, .inr (4, [.ref e0, .int he, .int si])), (e0, .inl (cJ, 160, .inr (.inl fe))), (g0, .inr (4, [.ref e1, .int ge, .int gs])), (e1, .inl (cJ, 160, .inr (.inl fe1)))]) [5, 6, 0, 1, 2, 3, 4] (by decide) rfl⟩, hS.F ht⟩) hS.2.2 dX7_copy_29
    · rw [hfq (by omega) (by omega)]
      refine W.eq (g2 := F0 m 12 ls (.ref g0 :: [])) rfl ?_
      refine lv_astore (lv' := [(7, .ref g0), (6, .null), (0, .ref x0), (1, .int s_), (2, .int q_), (3, .int i), (4, .int j), (5, .int n)]) hx hb dX7_copy_12 hl (by decide) rfl (fun ls hl => ?_)
      refine lv_aloadN hx hb dX7_copy_14 (lv_at hl 1 rfl) ?_
      refine lv_ifnullN (tgt := 24) hx hb dX7_copy_16 (by decide) ?_
      refine lv_aload_n hx hb dX7_copy_24 rfl (lv_at hl 2 rfl) ?_
      refine lv_iconst (v := 1) hx hb dX7_copy_25 (by decide) ?_
      skip
      refine zw_V (As := [.int 1]) (rest := []) (wr := [(xs, .inl (cS, 8, .inr (.inr (.inr (.inr fh))))), (h0, .inr (4, [.ref e0, .int he, .int si])), (e0, .inl (cJ, 160, .inr (.inl fe))), (g0, .inr (4, [.ref e1, .int ge, .int gs])), (e1, .inl (cJ, 160, .inr (.inl fe1)))]) ⟨hx, hb, hml, hown, hts⟩ (c_X_refuse_1 l D cI cJ cZ cP cS po x0 xs j0 k0 w0 rd mv xr (im) (lf) fr hy0 hy1 hy2 hy3 H.size) (cwV 1 hts gX7_copy_X7_refuse rfl rfl rfl (by decide +kernel) ⟨Nat.le_of_ble_eq_true rfl, Nat.le_of_ble_eq_true rfl⟩) hK hN (hZ.kept hS) hP hD hS hA [0, 1] [2, 3, 4, 5, 6] rfl rfl (by decide) (by decide) (by decide) (va_recv hK hP (ci := 7) (q0 := 0) rfl rfl) rfl hl.1 rfl (Nat.le_of_ble_eq_true rfl) dX7_copy_26 ⟨Nat.le_of_ble_eq_true rfl, Nat.le_of_ble_eq_true rfl⟩ (fun r_34 u_35 H locs hr_34 hP hD hS => ?_)
      obtain ⟨q_36, rfl⟩ : ∃ z, z = u_35 := ⟨_, rfl⟩
      replace hP : va_P D vwCl [(xs, .inl (cS, 8, .inr (.inr (.inr (.inr fh))))), (h0, .inr (4, [.ref e0, .int he, .int si])), (e0, .inl (cJ, 160, .inr (.inl fe))), (g0, .inr (4, [.ref e1, .int ge, .int gs])), (e1, .inl (cJ, 160, .inr (.inl fe1))), (x0, .inr (7, [.ref xs, .ref j0, .ref k0, .ref w0, .ref rd, .ref mv, .ref xr, .int im, .int lf])), (xr, .inl (cI, 8, .inl q_36))] H := hP
      replace hD : va_D _ [(xs, .inl (cS, 8, .inr (.inr (.inr (.inr fh))))), (h0, .inr (4, [.ref e0, .int he, .int si])), (e0, .inl (cJ, 160, .inr (.inl fe))), (g0, .inr (4, [.ref e1, .int ge, .int gs])), (e1, .inl (cJ, 160, .inr (.inl fe1))), (x0, .inr (7, [.ref xs, .ref j0, .ref k0, .ref w0, .ref rd, .ref mv, .ref xr, .int im, .int lf])), (xr, .inl (cI, 8, .inl q_36))] := hD
      obtain rfl := hr_34
      exact W.iret (v := (-1)) hx hb hr (fun t ht hW => ⟨⟨(-1), (fe1, q_36), rfl, trivial, by rw [ht]; exact hP.sub (ws' := [(x0, .inr (7, [.ref xs, .ref j0, .ref k0, .ref w0, .ref rd, .ref mv, .ref xr, .int im, .int lf])), (xr, .inl (cI, 8, .inl q_36)), (xs, .inl (cS, 8, .inr (.inr (.inr (.inr fh))))), (h0, .inr (4, [.ref e0, .int he, .int si])), (e0, .inl (cJ, 160, .inr (.inl fe))), (g0, .inr (4, [.ref e1, .int ge, .int gs])), (e1, .inl (cJ, 160, .inr (.inl fe1)))]) [5, 6, 0, 1, 2, 3, 4] rfl, hD.sub (ws' := [(x0, .inr (7, [.ref xs, .ref j0, .ref k0, .ref w0, .ref rd, .ref mv, .ref xr, .int im, .int lf])), (xr, .inl (cI, 8, .inl q_36)), (xs, .inl (cS, 8, .inr (.inr (.inr (.inr fh))))), (h0, .inr (4, [.ref e0, .int he, .int si])), (e0, .inl (cJ, 160, .inr (.inl fe))), (g0, .inr (4, [.ref e1, .int ge, .int gs])), (e1, .inl (cJ, 160, .inr (.inl fe1)))]) [5, 6, 0, 1, 2, 3, 4] (by decide) rfl⟩, hS.F ht⟩) hS.2.2 dX7_copy_29
  · rw [hfs (by omega) (by omega)]
    refine W.eq (g2 := F0 m 5 ls (.ref h0 :: [])) rfl ?_
    refine lv_astore (lv' := [(6, .ref h0), (0, .ref x0), (1, .int s_), (2, .int q_), (3, .int i), (4, .int j), (5, .int n)]) hx hb dX7_copy_5 hl (by decide) rfl (fun ls hl => ?_)
    refine lv_aload_n hx hb dX7_copy_7 rfl (lv_at hl 1 rfl) ?_
    refine lv_iload_n hx hb dX7_copy_8 rfl (lv_at hl 3 rfl) ?_
    refine zc_Vq (As := [.int q_]) (rest := []) ⟨hx, hb, hml, hown, hts⟩ (c_X_shelfAt l D cI cJ cZ cP cS po x0 xs j0 k0 w0 rd mv xr (im) (lf) ((fun _ => 0)) fh (q_) hy0 hy1 hy2 hy3) (cwV 1 hts gX7_copy_X7_shelfAt rfl rfl rfl (by decide +kernel) ⟨Nat.le_of_ble_eq_true rfl, Nat.le_of_ble_eq_true rfl⟩) hK hN (hZ.kept hS) hP (hP.sub [0, 2] rfl) (va_recv hK hP (ci := 7) (q0 := 0) rfl rfl) rfl hl.1 rfl (Nat.le_of_ble_eq_true rfl) dX7_copy_9 ⟨Nat.le_of_ble_eq_true rfl, Nat.le_of_ble_eq_true rfl⟩ (fun r_37 hr_37 => ?_)
    rcases hr_37 with ⟨rfl, g_38⟩ | ⟨rfl, g_39, g_40⟩ | ⟨rfl, g_41, g_42⟩
    · refine lv_astoreN (lv' := [(7, .null), (6, .ref h0), (0, .ref x0), (1, .int s_), (2, .int q_), (3, .int i), (4, .int j), (5, .int n)]) hx hb dX7_copy_12 hl (by decide) rfl (fun ls hl => ?_)
      refine lv_aload hx hb dX7_copy_14 (lv_at hl 1 rfl) ?_
      refine lv_ifnull hx hb dX7_copy_16 ?_
      refine lv_aloadN hx hb dX7_copy_19 (lv_at hl 0 rfl) ?_
      refine lv_ifnonnullN hx hb dX7_copy_21 ?_
      refine lv_aload_n hx hb dX7_copy_24 rfl (lv_at hl 2 rfl) ?_
      refine lv_iconst (v := 1) hx hb dX7_copy_25 (by decide) ?_
      skip
      refine zw_V (As := [.int 1]) (rest := []) (wr := [(xs, .inl (cS, 8, .inr (.inr (.inr (.inr fh))))), (h0, .inr (4, [.ref e0, .int he, .int si])), (e0, .inl (cJ, 160, .inr (.inl fe))), (g0, .inr (4, [.ref e1, .int ge, .int gs])), (e1, .inl (cJ, 160, .inr (.inl fe1)))]) ⟨hx, hb, hml, hown, hts⟩ (c_X_refuse_1 l D cI cJ cZ cP cS po x0 xs j0 k0 w0 rd mv xr (im) (lf) fr hy0 hy1 hy2 hy3 H.size) (cwV 1 hts gX7_copy_X7_refuse rfl rfl rfl (by decide +kernel) ⟨Nat.le_of_ble_eq_true rfl, Nat.le_of_ble_eq_true rfl⟩) hK hN (hZ.kept hS) hP hD hS hA [0, 1] [2, 3, 4, 5, 6] rfl rfl (by decide) (by decide) (by decide) (va_recv hK hP (ci := 7) (q0 := 0) rfl rfl) rfl hl.1 rfl (Nat.le_of_ble_eq_true rfl) dX7_copy_26 ⟨Nat.le_of_ble_eq_true rfl, Nat.le_of_ble_eq_true rfl⟩ (fun r_43 u_44 H locs hr_43 hP hD hS => ?_)
      obtain ⟨q_45, rfl⟩ : ∃ z, z = u_44 := ⟨_, rfl⟩
      replace hP : va_P D vwCl [(xs, .inl (cS, 8, .inr (.inr (.inr (.inr fh))))), (h0, .inr (4, [.ref e0, .int he, .int si])), (e0, .inl (cJ, 160, .inr (.inl fe))), (g0, .inr (4, [.ref e1, .int ge, .int gs])), (e1, .inl (cJ, 160, .inr (.inl fe1))), (x0, .inr (7, [.ref xs, .ref j0, .ref k0, .ref w0, .ref rd, .ref mv, .ref xr, .int im, .int lf])), (xr, .inl (cI, 8, .inl q_45))] H := hP
      replace hD : va_D _ [(xs, .inl (cS, 8, .inr (.inr (.inr (.inr fh))))), (h0, .inr (4, [.ref e0, .int he, .int si])), (e0, .inl (cJ, 160, .inr (.inl fe))), (g0, .inr (4, [.ref e1, .int ge, .int gs])), (e1, .inl (cJ, 160, .inr (.inl fe1))), (x0, .inr (7, [.ref xs, .ref j0, .ref k0, .ref w0, .ref rd, .ref mv, .ref xr, .int im, .int lf])), (xr, .inl (cI, 8, .inl q_45))] := hD
      obtain rfl := hr_43
      exact W.iret (v := (-1)) hx hb hr (fun t ht hW => ⟨⟨(-1), (fe1, q_45), rfl, trivial, by rw [ht]; exact hP.sub (ws' := [(x0, .inr (7, [.ref xs, .ref j0, .ref k0, .ref w0, .ref rd, .ref mv, .ref xr, .int im, .int lf])), (xr, .inl (cI, 8, .inl q_45)), (xs, .inl (cS, 8, .inr (.inr (.inr (.inr fh))))), (h0, .inr (4, [.ref e0, .int he, .int si])), (e0, .inl (cJ, 160, .inr (.inl fe))), (g0, .inr (4, [.ref e1, .int ge, .int gs])), (e1, .inl (cJ, 160, .inr (.inl fe1)))]) [5, 6, 0, 1, 2, 3, 4] rfl, hD.sub (ws' := [(x0, .inr (7, [.ref xs, .ref j0, .ref k0, .ref w0, .ref rd, .ref mv, .ref xr, .int im, .int lf])), (xr, .inl (cI, 8, .inl q_45)), (xs, .inl (cS, 8, .inr (.inr (.inr (.inr fh))))), (h0, .inr (4, [.ref e0, .int he, .int si])), (e0, .inl (cJ, 160, .inr (.inl fe))), (g0, .inr (4, [.ref e1, .int ge, .int gs])), (e1, .inl (cJ, 160, .inr (.inl fe1)))]) [5, 6, 0, 1, 2, 3, 4] (by decide) rfl⟩, hS.F ht⟩) hS.2.2 dX7_copy_29
    · refine lv_astoreN (lv' := [(7, .null), (6, .ref h0), (0, .ref x0), (1, .int s_), (2, .int q_), (3, .int i), (4, .int j), (5, .int n)]) hx hb dX7_copy_12 hl (by decide) rfl (fun ls hl => ?_)
      refine lv_aload hx hb dX7_copy_14 (lv_at hl 1 rfl) ?_
      refine lv_ifnull hx hb dX7_copy_16 ?_
      refine lv_aloadN hx hb dX7_copy_19 (lv_at hl 0 rfl) ?_
      refine lv_ifnonnullN hx hb dX7_copy_21 ?_
      refine lv_aload_n hx hb dX7_copy_24 rfl (lv_at hl 2 rfl) ?_
      refine lv_iconst (v := 1) hx hb dX7_copy_25 (by decide) ?_
      skip
      refine zw_V (As := [.int 1]) (rest := []) (wr := [(xs, .inl (cS, 8, .inr (.inr (.inr (.inr fh))))), (h0, .inr (4, [.ref e0, .int he, .int si])), (e0, .inl (cJ, 160, .inr (.inl fe))), (g0, .inr (4, [.ref e1, .int ge, .int gs])), (e1, .inl (cJ, 160, .inr (.inl fe1)))]) ⟨hx, hb, hml, hown, hts⟩ (c_X_refuse_1 l D cI cJ cZ cP cS po x0 xs j0 k0 w0 rd mv xr (im) (lf) fr hy0 hy1 hy2 hy3 H.size) (cwV 1 hts gX7_copy_X7_refuse rfl rfl rfl (by decide +kernel) ⟨Nat.le_of_ble_eq_true rfl, Nat.le_of_ble_eq_true rfl⟩) hK hN (hZ.kept hS) hP hD hS hA [0, 1] [2, 3, 4, 5, 6] rfl rfl (by decide) (by decide) (by decide) (va_recv hK hP (ci := 7) (q0 := 0) rfl rfl) rfl hl.1 rfl (Nat.le_of_ble_eq_true rfl) dX7_copy_26 ⟨Nat.le_of_ble_eq_true rfl, Nat.le_of_ble_eq_true rfl⟩ (fun r_46 u_47 H locs hr_46 hP hD hS => ?_)
      obtain ⟨q_48, rfl⟩ : ∃ z, z = u_47 := ⟨_, rfl⟩
      replace hP : va_P D vwCl [(xs, .inl (cS, 8, .inr (.inr (.inr (.inr fh))))), (h0, .inr (4, [.ref e0, .int he, .int si])), (e0, .inl (cJ, 160, .inr (.inl fe))), (g0, .inr (4, [.ref e1, .int ge, .int gs])), (e1, .inl (cJ, 160, .inr (.inl fe1))), (x0, .inr (7, [.ref xs, .ref j0, .ref k0, .ref w0, .ref rd, .ref mv, .ref xr, .int im, .int lf])), (xr, .inl (cI, 8, .inl q_48))] H := hP
      replace hD : va_D _ [(xs, .inl (cS, 8, .inr (.inr (.inr (.inr fh))))), (h0, .inr (4, [.ref e0, .int he, .int si])), (e0, .inl (cJ, 160, .inr (.inl fe))), (g0, .inr (4, [.ref e1, .int ge, .int gs])), (e1, .inl (cJ, 160, .inr (.inl fe1))), (x0, .inr (7, [.ref xs, .ref j0, .ref k0, .ref w0, .ref rd, .ref mv, .ref xr, .int im, .int lf])), (xr, .inl (cI, 8, .inl q_48))] := hD
      obtain rfl := hr_46
      exact W.iret (v := (-1)) hx hb hr (fun t ht hW => ⟨⟨(-1), (fe1, q_48), rfl, trivial, by rw [ht]; exact hP.sub (ws' := [(x0, .inr (7, [.ref xs, .ref j0, .ref k0, .ref w0, .ref rd, .ref mv, .ref xr, .int im, .int lf])), (xr, .inl (cI, 8, .inl q_48)), (xs, .inl (cS, 8, .inr (.inr (.inr (.inr fh))))), (h0, .inr (4, [.ref e0, .int he, .int si])), (e0, .inl (cJ, 160, .inr (.inl fe))), (g0, .inr (4, [.ref e1, .int ge, .int gs])), (e1, .inl (cJ, 160, .inr (.inl fe1)))]) [5, 6, 0, 1, 2, 3, 4] rfl, hD.sub (ws' := [(x0, .inr (7, [.ref xs, .ref j0, .ref k0, .ref w0, .ref rd, .ref mv, .ref xr, .int im, .int lf])), (xr, .inl (cI, 8, .inl q_48)), (xs, .inl (cS, 8, .inr (.inr (.inr (.inr fh))))), (h0, .inr (4, [.ref e0, .int he, .int si])), (e0, .inl (cJ, 160, .inr (.inl fe))), (g0, .inr (4, [.ref e1, .int ge, .int gs])), (e1, .inl (cJ, 160, .inr (.inl fe1)))]) [5, 6, 0, 1, 2, 3, 4] (by decide) rfl⟩, hS.F ht⟩) hS.2.2 dX7_copy_29
    · rw [hfq (by omega) (by omega)]
      refine W.eq (g2 := F0 m 12 ls (.ref g0 :: [])) rfl ?_
      refine lv_astore (lv' := [(7, .ref g0), (6, .ref h0), (0, .ref x0), (1, .int s_), (2, .int q_), (3, .int i), (4, .int j), (5, .int n)]) hx hb dX7_copy_12 hl (by decide) rfl (fun ls hl => ?_)
      refine lv_aload hx hb dX7_copy_14 (lv_at hl 1 rfl) ?_
      refine lv_ifnull hx hb dX7_copy_16 ?_
      refine lv_aload hx hb dX7_copy_19 (lv_at hl 0 rfl) ?_
      refine lv_ifnonnull (tgt := 30) hx hb dX7_copy_21 (by decide) ?_
      refine lv_aload hx hb dX7_copy_30 (lv_at hl 1 rfl) ?_
      refine zc_V (As := []) (rest := []) ⟨hx, hb, hml, hown, hts⟩ (c_Sh_noRow l D cI cJ cZ cP cS po h0 e0 (he) (si) hy4 hy5 hy6 hy7) (cwV 0 hts gX7_copy_X4_noRow rfl rfl rfl (by decide +kernel) ⟨Nat.le_of_ble_eq_true rfl, Nat.le_of_ble_eq_true rfl⟩) hK hN (hZ.kept hS) hP (hP.sub [3] rfl) (va_recv hK hP (ci := 4) (q0 := 3) rfl rfl) rfl hl.1 rfl (Nat.le_of_ble_eq_true rfl) dX7_copy_32 ⟨Nat.le_of_ble_eq_true rfl, Nat.le_of_ble_eq_true rfl⟩ (fun r_49 hr_49 => ?_)
      rcases hr_49 with ⟨rfl, g_50, g_51⟩ | ⟨rfl, g_52, g_53⟩ | ⟨rfl, g_54⟩
      · refine lv_istore (lv' := [(8, .int 2), (7, .ref g0), (6, .ref h0), (0, .ref x0), (1, .int s_), (2, .int q_), (3, .int i), (4, .int j), (5, .int n)]) hx hb dX7_copy_35 hl (by decide) rfl (fun ls hl => ?_)
        refine lv_aload hx hb dX7_copy_37 (lv_at hl 1 rfl) ?_
        refine zc_V (As := []) (rest := []) ⟨hx, hb, hml, hown, hts⟩ (c_Sh_noRow l D cI cJ cZ cP cS po g0 e1 (ge) (gs) hy8 hy9 hy10 hy11) (cwV 0 hts gX7_copy_X4_noRow rfl rfl rfl (by decide +kernel) ⟨Nat.le_of_ble_eq_true rfl, Nat.le_of_ble_eq_true rfl⟩) hK hN (hZ.kept hS) hP (hP.sub [5] rfl) (va_recv hK hP (ci := 4) (q0 := 5) rfl rfl) rfl hl.1 rfl (Nat.le_of_ble_eq_true rfl) dX7_copy_39 ⟨Nat.le_of_ble_eq_true rfl, Nat.le_of_ble_eq_true rfl⟩ (fun r_55 hr_55 => ?_)
        rcases hr_55 with ⟨rfl, g_56, g_57⟩ | ⟨rfl, g_58, g_59⟩ | ⟨rfl, g_60⟩
        · refine lv_istore (lv' := [(9, .int 2), (8, .int 2), (7, .ref g0), (6, .ref h0), (0, .ref x0), (1, .int s_), (2, .int q_), (3, .int i), (4, .int j), (5, .int n)]) hx hb dX7_copy_42 hl (by decide) rfl (fun ls hl => ?_)
          refine lv_iload hx hb dX7_copy_44 (lv_at hl 1 rfl) ?_
          refine lv_if_ne (tgt := 71) hx hb dX7_copy_46 (by decide) (fun c_61 => ?_) (fun c_61 => ?_)
          · refine lv_iconst (v := 0) hx hb dX7_copy_71 (by decide) ?_
            refine lv_istore (lv' := [(10, .int 0), (9, .int 2), (8, .int 2), (7, .ref g0), (6, .ref h0), (0, .ref x0), (1, .int s_), (2, .int q_), (3, .int i), (4, .int j), (5, .int n)]) hx hb dX7_copy_72 hl (by decide) rfl (fun ls hl => ?_)
            refine lv_iload hx hb dX7_copy_74 (lv_at hl 2 rfl) ?_
            refine lv_iconst (v := 2) hx hb dX7_copy_76 (by decide) ?_
            refine lv_icmp_eq (tgt := 91) hx hb dX7_copy_77 (by decide) (fun c_62 => ?_) (fun c_62 => ?_)
            · refine lv_aload_n hx hb dX7_copy_91 rfl (lv_at hl 5 rfl) ?_
              refine lv_iconst (v := 2) hx hb dX7_copy_92 (by decide) ?_
              skip
              refine zw_V (As := [.int 2]) (rest := []) (wr := [(xs, .inl (cS, 8, .inr (.inr (.inr (.inr fh))))), (h0, .inr (4, [.ref e0, .int he, .int si])), (e0, .inl (cJ, 160, .inr (.inl fe))), (g0, .inr (4, [.ref e1, .int ge, .int gs])), (e1, .inl (cJ, 160, .inr (.inl fe1)))]) ⟨hx, hb, hml, hown, hts⟩ (c_X_refuse_2 l D cI cJ cZ cP cS po x0 xs j0 k0 w0 rd mv xr (im) (lf) fr hy0 hy1 hy2 hy3 H.size) (cwV 1 hts gX7_copy_X7_refuse rfl rfl rfl (by decide +kernel) ⟨Nat.le_of_ble_eq_true rfl, Nat.le_of_ble_eq_true rfl⟩) hK hN (hZ.kept hS) hP hD hS hA [0, 1] [2, 3, 4, 5, 6] rfl rfl (by decide) (by decide) (by decide) (va_recv hK hP (ci := 7) (q0 := 0) rfl rfl) rfl hl.1 rfl (Nat.le_of_ble_eq_true rfl) dX7_copy_93 ⟨Nat.le_of_ble_eq_true rfl, Nat.le_of_ble_eq_true rfl⟩ (fun r_63 u_64 H locs hr_63 hP hD hS => ?_)
              obtain ⟨q_65, rfl⟩ : ∃ z, z = u_64 := ⟨_, rfl⟩
              replace hP : va_P D vwCl [(xs, .inl (cS, 8, .inr (.inr (.inr (.inr fh))))), (h0, .inr (4, [.ref e0, .int he, .int si])), (e0, .inl (cJ, 160, .inr (.inl fe))), (g0, .inr (4, [.ref e1, .int ge, .int gs])), (e1, .inl (cJ, 160, .inr (.inl fe1))), (x0, .inr (7, [.ref xs, .ref j0, .ref k0, .ref w0, .ref rd, .ref mv, .ref xr, .int im, .int lf])), (xr, .inl (cI, 8, .inl q_65))] H := hP
              replace hD : va_D _ [(xs, .inl (cS, 8, .inr (.inr (.inr (.inr fh))))), (h0, .inr (4, [.ref e0, .int he, .int si])), (e0, .inl (cJ, 160, .inr (.inl fe))), (g0, .inr (4, [.ref e1, .int ge, .int gs])), (e1, .inl (cJ, 160, .inr (.inl fe1))), (x0, .inr (7, [.ref xs, .ref j0, .ref k0, .ref w0, .ref rd, .ref mv, .ref xr, .int im, .int lf])), (xr, .inl (cI, 8, .inl q_65))] := hD
              obtain rfl := hr_63
              exact W.iret (v := (-2)) hx hb hr (fun t ht hW => ⟨⟨(-2), (fe1, q_65), rfl, trivial, by rw [ht]; exact hP.sub (ws' := [(x0, .inr (7, [.ref xs, .ref j0, .ref k0, .ref w0, .ref rd, .ref mv, .ref xr, .int im, .int lf])), (xr, .inl (cI, 8, .inl q_65)), (xs, .inl (cS, 8, .inr (.inr (.inr (.inr fh))))), (h0, .inr (4, [.ref e0, .int he, .int si])), (e0, .inl (cJ, 160, .inr (.inl fe))), (g0, .inr (4, [.ref e1, .int ge, .int gs])), (e1, .inl (cJ, 160, .inr (.inl fe1)))]) [5, 6, 0, 1, 2, 3, 4] rfl, hD.sub (ws' := [(x0, .inr (7, [.ref xs, .ref j0, .ref k0, .ref w0, .ref rd, .ref mv, .ref xr, .int im, .int lf])), (xr, .inl (cI, 8, .inl q_65)), (xs, .inl (cS, 8, .inr (.inr (.inr (.inr fh))))), (h0, .inr (4, [.ref e0, .int he, .int si])), (e0, .inl (cJ, 160, .inr (.inl fe))), (g0, .inr (4, [.ref e1, .int ge, .int gs])), (e1, .inl (cJ, 160, .inr (.inl fe1)))]) [5, 6, 0, 1, 2, 3, 4] (by decide) rfl⟩, hS.F ht⟩) hS.2.2 dX7_copy_96
            · exact absurd c_62 (by decide)
          · exact absurd c_61 (by decide)
        · refine lv_istore (lv' := [(9, .int 3), (8, .int 2), (7, .ref g0), (6, .ref h0), (0, .ref x0), (1, .int s_), (2, .int q_), (3, .int i), (4, .int j), (5, .int n)]) hx hb dX7_copy_42 hl (by decide) rfl (fun ls hl => ?_)
          refine lv_iload hx hb dX7_copy_44 (lv_at hl 1 rfl) ?_
          refine lv_if_ne (tgt := 71) hx hb dX7_copy_46 (by decide) (fun c_66 => ?_) (fun c_66 => ?_)
          · refine lv_iconst (v := 0) hx hb dX7_copy_71 (by decide) ?_
            refine lv_istore (lv' := [(10, .int 0), (9, .int 3), (8, .int 2), (7, .ref g0), (6, .ref h0), (0, .ref x0), (1, .int s_), (2, .int q_), (3, .int i), (4, .int j), (5, .int n)]) hx hb dX7_copy_72 hl (by decide) rfl (fun ls hl => ?_)
            refine lv_iload hx hb dX7_copy_74 (lv_at hl 2 rfl) ?_
            refine lv_iconst (v := 2) hx hb dX7_copy_76 (by decide) ?_
            refine lv_icmp_eq (tgt := 91) hx hb dX7_copy_77 (by decide) (fun c_67 => ?_) (fun c_67 => ?_)
            · refine lv_aload_n hx hb dX7_copy_91 rfl (lv_at hl 5 rfl) ?_
              refine lv_iconst (v := 2) hx hb dX7_copy_92 (by decide) ?_
              skip
              refine zw_V (As := [.int 2]) (rest := []) (wr := [(xs, .inl (cS, 8, .inr (.inr (.inr (.inr fh))))), (h0, .inr (4, [.ref e0, .int he, .int si])), (e0, .inl (cJ, 160, .inr (.inl fe))), (g0, .inr (4, [.ref e1, .int ge, .int gs])), (e1, .inl (cJ, 160, .inr (.inl fe1)))]) ⟨hx, hb, hml, hown, hts⟩ (c_X_refuse_2 l D cI cJ cZ cP cS po x0 xs j0 k0 w0 rd mv xr (im) (lf) fr hy0 hy1 hy2 hy3 H.size) (cwV 1 hts gX7_copy_X7_refuse rfl rfl rfl (by decide +kernel) ⟨Nat.le_of_ble_eq_true rfl, Nat.le_of_ble_eq_true rfl⟩) hK hN (hZ.kept hS) hP hD hS hA [0, 1] [2, 3, 4, 5, 6] rfl rfl (by decide) (by decide) (by decide) (va_recv hK hP (ci := 7) (q0 := 0) rfl rfl) rfl hl.1 rfl (Nat.le_of_ble_eq_true rfl) dX7_copy_93 ⟨Nat.le_of_ble_eq_true rfl, Nat.le_of_ble_eq_true rfl⟩ (fun r_68 u_69 H locs hr_68 hP hD hS => ?_)
              obtain ⟨q_70, rfl⟩ : ∃ z, z = u_69 := ⟨_, rfl⟩
              replace hP : va_P D vwCl [(xs, .inl (cS, 8, .inr (.inr (.inr (.inr fh))))), (h0, .inr (4, [.ref e0, .int he, .int si])), (e0, .inl (cJ, 160, .inr (.inl fe))), (g0, .inr (4, [.ref e1, .int ge, .int gs])), (e1, .inl (cJ, 160, .inr (.inl fe1))), (x0, .inr (7, [.ref xs, .ref j0, .ref k0, .ref w0, .ref rd, .ref mv, .ref xr, .int im, .int lf])), (xr, .inl (cI, 8, .inl q_70))] H := hP
              replace hD : va_D _ [(xs, .inl (cS, 8, .inr (.inr (.inr (.inr fh))))), (h0, .inr (4, [.ref e0, .int he, .int si])), (e0, .inl (cJ, 160, .inr (.inl fe))), (g0, .inr (4, [.ref e1, .int ge, .int gs])), (e1, .inl (cJ, 160, .inr (.inl fe1))), (x0, .inr (7, [.ref xs, .ref j0, .ref k0, .ref w0, .ref rd, .ref mv, .ref xr, .int im, .int lf])), (xr, .inl (cI, 8, .inl q_70))] := hD
              obtain rfl := hr_68
              exact W.iret (v := (-2)) hx hb hr (fun t ht hW => ⟨⟨(-2), (fe1, q_70), rfl, trivial, by rw [ht]; exact hP.sub (ws' := [(x0, .inr (7, [.ref xs, .ref j0, .ref k0, .ref w0, .ref rd, .ref mv, .ref xr, .int im, .int lf])), (xr, .inl (cI, 8, .inl q_70)), (xs, .inl (cS, 8, .inr (.inr (.inr (.inr fh))))), (h0, .inr (4, [.ref e0, .int he, .int si])), (e0, .inl (cJ, 160, .inr (.inl fe))), (g0, .inr (4, [.ref e1, .int ge, .int gs])), (e1, .inl (cJ, 160, .inr (.inl fe1)))]) [5, 6, 0, 1, 2, 3, 4] rfl, hD.sub (ws' := [(x0, .inr (7, [.ref xs, .ref j0, .ref k0, .ref w0, .ref rd, .ref mv, .ref xr, .int im, .int lf])), (xr, .inl (cI, 8, .inl q_70)), (xs, .inl (cS, 8, .inr (.inr (.inr (.inr fh))))), (h0, .inr (4, [.ref e0, .int he, .int si])), (e0, .inl (cJ, 160, .inr (.inl fe))), (g0, .inr (4, [.ref e1, .int ge, .int gs])), (e1, .inl (cJ, 160, .inr (.inl fe1)))]) [5, 6, 0, 1, 2, 3, 4] (by decide) rfl⟩, hS.F ht⟩) hS.2.2 dX7_copy_96
            · exact absurd c_67 (by decide)
          · exact absurd c_66 (by decide)
        · refine lv_istore (lv' := [(9, .int 0), (8, .int 2), (7, .ref g0), (6, .ref h0), (0, .ref x0), (1, .int s_), (2, .int q_), (3, .int i), (4, .int j), (5, .int n)]) hx hb dX7_copy_42 hl (by decide) rfl (fun ls hl => ?_)
          refine lv_iload hx hb dX7_copy_44 (lv_at hl 1 rfl) ?_
          refine lv_if_ne (tgt := 71) hx hb dX7_copy_46 (by decide) (fun c_71 => ?_) (fun c_71 => ?_)
          · refine lv_iconst (v := 0) hx hb dX7_copy_71 (by decide) ?_
            refine lv_istore (lv' := [(10, .int 0), (9, .int 0), (8, .int 2), (7, .ref g0), (6, .ref h0), (0, .ref x0), (1, .int s_), (2, .int q_), (3, .int i), (4, .int j), (5, .int n)]) hx hb dX7_copy_72 hl (by decide) rfl (fun ls hl => ?_)
            refine lv_iload hx hb dX7_copy_74 (lv_at hl 2 rfl) ?_
            refine lv_iconst (v := 2) hx hb dX7_copy_76 (by decide) ?_
            refine lv_icmp_eq (tgt := 91) hx hb dX7_copy_77 (by decide) (fun c_72 => ?_) (fun c_72 => ?_)
            · refine lv_aload_n hx hb dX7_copy_91 rfl (lv_at hl 5 rfl) ?_
              refine lv_iconst (v := 2) hx hb dX7_copy_92 (by decide) ?_
              skip
              refine zw_V (As := [.int 2]) (rest := []) (wr := [(xs, .inl (cS, 8, .inr (.inr (.inr (.inr fh))))), (h0, .inr (4, [.ref e0, .int he, .int si])), (e0, .inl (cJ, 160, .inr (.inl fe))), (g0, .inr (4, [.ref e1, .int ge, .int gs])), (e1, .inl (cJ, 160, .inr (.inl fe1)))]) ⟨hx, hb, hml, hown, hts⟩ (c_X_refuse_2 l D cI cJ cZ cP cS po x0 xs j0 k0 w0 rd mv xr (im) (lf) fr hy0 hy1 hy2 hy3 H.size) (cwV 1 hts gX7_copy_X7_refuse rfl rfl rfl (by decide +kernel) ⟨Nat.le_of_ble_eq_true rfl, Nat.le_of_ble_eq_true rfl⟩) hK hN (hZ.kept hS) hP hD hS hA [0, 1] [2, 3, 4, 5, 6] rfl rfl (by decide) (by decide) (by decide) (va_recv hK hP (ci := 7) (q0 := 0) rfl rfl) rfl hl.1 rfl (Nat.le_of_ble_eq_true rfl) dX7_copy_93 ⟨Nat.le_of_ble_eq_true rfl, Nat.le_of_ble_eq_true rfl⟩ (fun r_73 u_74 H locs hr_73 hP hD hS => ?_)
              obtain ⟨q_75, rfl⟩ : ∃ z, z = u_74 := ⟨_, rfl⟩
              replace hP : va_P D vwCl [(xs, .inl (cS, 8, .inr (.inr (.inr (.inr fh))))), (h0, .inr (4, [.ref e0, .int he, .int si])), (e0, .inl (cJ, 160, .inr (.inl fe))), (g0, .inr (4, [.ref e1, .int ge, .int gs])), (e1, .inl (cJ, 160, .inr (.inl fe1))), (x0, .inr (7, [.ref xs, .ref j0, .ref k0, .ref w0, .ref rd, .ref mv, .ref xr, .int im, .int lf])), (xr, .inl (cI, 8, .inl q_75))] H := hP
              replace hD : va_D _ [(xs, .inl (cS, 8, .inr (.inr (.inr (.inr fh))))), (h0, .inr (4, [.ref e0, .int he, .int si])), (e0, .inl (cJ, 160, .inr (.inl fe))), (g0, .inr (4, [.ref e1, .int ge, .int gs])), (e1, .inl (cJ, 160, .inr (.inl fe1))), (x0, .inr (7, [.ref xs, .ref j0, .ref k0, .ref w0, .ref rd, .ref mv, .ref xr, .int im, .int lf])), (xr, .inl (cI, 8, .inl q_75))] := hD
              obtain rfl := hr_73
              exact W.iret (v := (-2)) hx hb hr (fun t ht hW => ⟨⟨(-2), (fe1, q_75), rfl, trivial, by rw [ht]; exact hP.sub (ws' := [(x0, .inr (7, [.ref xs, .ref j0, .ref k0, .ref w0, .ref rd, .ref mv, .ref xr, .int im, .int lf])), (xr, .inl (cI, 8, .inl q_75)), (xs, .inl (cS, 8, .inr (.inr (.inr (.inr fh))))), (h0, .inr (4, [.ref e0, .int he, .int si])), (e0, .inl (cJ, 160, .inr (.inl fe))), (g0, .inr (4, [.ref e1, .int ge, .int gs])), (e1, .inl (cJ, 160, .inr (.inl fe1)))]) [5, 6, 0, 1, 2, 3, 4] rfl, hD.sub (ws' := [(x0, .inr (7, [.ref xs, .ref j0, .ref k0, .ref w0, .ref rd, .ref mv, .ref xr, .int im, .int lf])), (xr, .inl (cI, 8, .inl q_75)), (xs, .inl (cS, 8, .inr (.inr (.inr (.inr fh))))), (h0, .inr (4, [.ref e0, .int he, .int si])), (e0, .inl (cJ, 160, .inr (.inl fe))), (g0, .inr (4, [.ref e1, .int ge, .int gs])), (e1, .inl (cJ, 160, .inr (.inl fe1)))]) [5, 6, 0, 1, 2, 3, 4] (by decide) rfl⟩, hS.F ht⟩) hS.2.2 dX7_copy_96
            · exact absurd c_72 (by decide)
          · exact absurd c_71 (by decide)
      · refine lv_istore (lv' := [(8, .int 3), (7, .ref g0), (6, .ref h0), (0, .ref x0), (1, .int s_), (2, .int q_), (3, .int i), (4, .int j), (5, .int n)]) hx hb dX7_copy_35 hl (by decide) rfl (fun ls hl => ?_)
        refine lv_aload hx hb dX7_copy_37 (lv_at hl 1 rfl) ?_
        refine zc_V (As := []) (rest := []) ⟨hx, hb, hml, hown, hts⟩ (c_Sh_noRow l D cI cJ cZ cP cS po g0 e1 (ge) (gs) hy8 hy9 hy10 hy11) (cwV 0 hts gX7_copy_X4_noRow rfl rfl rfl (by decide +kernel) ⟨Nat.le_of_ble_eq_true rfl, Nat.le_of_ble_eq_true rfl⟩) hK hN (hZ.kept hS) hP (hP.sub [5] rfl) (va_recv hK hP (ci := 4) (q0 := 5) rfl rfl) rfl hl.1 rfl (Nat.le_of_ble_eq_true rfl) dX7_copy_39 ⟨Nat.le_of_ble_eq_true rfl, Nat.le_of_ble_eq_true rfl⟩ (fun r_76 hr_76 => ?_)
        rcases hr_76 with ⟨rfl, g_77, g_78⟩ | ⟨rfl, g_79, g_80⟩ | ⟨rfl, g_81⟩
        · refine lv_istore (lv' := [(9, .int 2), (8, .int 3), (7, .ref g0), (6, .ref h0), (0, .ref x0), (1, .int s_), (2, .int q_), (3, .int i), (4, .int j), (5, .int n)]) hx hb dX7_copy_42 hl (by decide) rfl (fun ls hl => ?_)
          refine lv_iload hx hb dX7_copy_44 (lv_at hl 1 rfl) ?_
          refine lv_if_ne (tgt := 71) hx hb dX7_copy_46 (by decide) (fun c_82 => ?_) (fun c_82 => ?_)
          · refine lv_iconst (v := 0) hx hb dX7_copy_71 (by decide) ?_
            refine lv_istore (lv' := [(10, .int 0), (9, .int 2), (8, .int 3), (7, .ref g0), (6, .ref h0), (0, .ref x0), (1, .int s_), (2, .int q_), (3, .int i), (4, .int j), (5, .int n)]) hx hb dX7_copy_72 hl (by decide) rfl (fun ls hl => ?_)
            refine lv_iload hx hb dX7_copy_74 (lv_at hl 2 rfl) ?_
            refine lv_iconst (v := 2) hx hb dX7_copy_76 (by decide) ?_
            refine lv_icmp_eq (tgt := 91) hx hb dX7_copy_77 (by decide) (fun c_83 => ?_) (fun c_83 => ?_)
            · exact absurd c_83 (by decide)
            · refine lv_iload hx hb dX7_copy_80 (lv_at hl 1 rfl) ?_
              refine lv_iconst (v := 2) hx hb dX7_copy_82 (by decide) ?_
              refine lv_icmp_eq (tgt := 91) hx hb dX7_copy_83 (by decide) (fun c_84 => ?_) (fun c_84 => ?_)
              · refine lv_aload_n hx hb dX7_copy_91 rfl (lv_at hl 5 rfl) ?_
                refine lv_iconst (v := 2) hx hb dX7_copy_92 (by decide) ?_
                skip
                refine zw_V (As := [.int 2]) (rest := []) (wr := [(xs, .inl (cS, 8, .inr (.inr (.inr (.inr fh))))), (h0, .inr (4, [.ref e0, .int he, .int si])), (e0, .inl (cJ, 160, .inr (.inl fe))), (g0, .inr (4, [.ref e1, .int ge, .int gs])), (e1, .inl (cJ, 160, .inr (.inl fe1)))]) ⟨hx, hb, hml, hown, hts⟩ (c_X_refuse_2 l D cI cJ cZ cP cS po x0 xs j0 k0 w0 rd mv xr (im) (lf) fr hy0 hy1 hy2 hy3 H.size) (cwV 1 hts gX7_copy_X7_refuse rfl rfl rfl (by decide +kernel) ⟨Nat.le_of_ble_eq_true rfl, Nat.le_of_ble_eq_true rfl⟩) hK hN (hZ.kept hS) hP hD hS hA [0, 1] [2, 3, 4, 5, 6] rfl rfl (by decide) (by decide) (by decide) (va_recv hK hP (ci := 7) (q0 := 0) rfl rfl) rfl hl.1 rfl (Nat.le_of_ble_eq_true rfl) dX7_copy_93 ⟨Nat.le_of_ble_eq_true rfl, Nat.le_of_ble_eq_true rfl⟩ (fun r_85 u_86 H locs hr_85 hP hD hS => ?_)
                obtain ⟨q_87, rfl⟩ : ∃ z, z = u_86 := ⟨_, rfl⟩
                replace hP : va_P D vwCl [(xs, .inl (cS, 8, .inr (.inr (.inr (.inr fh))))), (h0, .inr (4, [.ref e0, .int he, .int si])), (e0, .inl (cJ, 160, .inr (.inl fe))), (g0, .inr (4, [.ref e1, .int ge, .int gs])), (e1, .inl (cJ, 160, .inr (.inl fe1))), (x0, .inr (7, [.ref xs, .ref j0, .ref k0, .ref w0, .ref rd, .ref mv, .ref xr, .int im, .int lf])), (xr, .inl (cI, 8, .inl q_87))] H := hP
                replace hD : va_D _ [(xs, .inl (cS, 8, .inr (.inr (.inr (.inr fh))))), (h0, .inr (4, [.ref e0, .int he, .int si])), (e0, .inl (cJ, 160, .inr (.inl fe))), (g0, .inr (4, [.ref e1, .int ge, .int gs])), (e1, .inl (cJ, 160, .inr (.inl fe1))), (x0, .inr (7, [.ref xs, .ref j0, .ref k0, .ref w0, .ref rd, .ref mv, .ref xr, .int im, .int lf])), (xr, .inl (cI, 8, .inl q_87))] := hD
                obtain rfl := hr_85
                exact W.iret (v := (-2)) hx hb hr (fun t ht hW => ⟨⟨(-2), (fe1, q_87), rfl, trivial, by rw [ht]; exact hP.sub (ws' := [(x0, .inr (7, [.ref xs, .ref j0, .ref k0, .ref w0, .ref rd, .ref mv, .ref xr, .int im, .int lf])), (xr, .inl (cI, 8, .inl q_87)), (xs, .inl (cS, 8, .inr (.inr (.inr (.inr fh))))), (h0, .inr (4, [.ref e0, .int he, .int si])), (e0, .inl (cJ, 160, .inr (.inl fe))), (g0, .inr (4, [.ref e1, .int ge, .int gs])), (e1, .inl (cJ, 160, .inr (.inl fe1)))]) [5, 6, 0, 1, 2, 3, 4] rfl, hD.sub (ws' := [(x0, .inr (7, [.ref xs, .ref j0, .ref k0, .ref w0, .ref rd, .ref mv, .ref xr, .int im, .int lf])), (xr, .inl (cI, 8, .inl q_87)), (xs, .inl (cS, 8, .inr (.inr (.inr (.inr fh))))), (h0, .inr (4, [.ref e0, .int he, .int si])), (e0, .inl (cJ, 160, .inr (.inl fe))), (g0, .inr (4, [.ref e1, .int ge, .int gs])), (e1, .inl (cJ, 160, .inr (.inl fe1)))]) [5, 6, 0, 1, 2, 3, 4] (by decide) rfl⟩, hS.F ht⟩) hS.2.2 dX7_copy_96
              · exact absurd c_84 (by decide)
          · exact absurd c_82 (by decide)
        · refine lv_istore (lv' := [(9, .int 3), (8, .int 3), (7, .ref g0), (6, .ref h0), (0, .ref x0), (1, .int s_), (2, .int q_), (3, .int i), (4, .int j), (5, .int n)]) hx hb dX7_copy_42 hl (by decide) rfl (fun ls hl => ?_)
          refine lv_iload hx hb dX7_copy_44 (lv_at hl 1 rfl) ?_
          refine lv_if_ne (tgt := 71) hx hb dX7_copy_46 (by decide) (fun c_88 => ?_) (fun c_88 => ?_)
          · refine lv_iconst (v := 0) hx hb dX7_copy_71 (by decide) ?_
            refine lv_istore (lv' := [(10, .int 0), (9, .int 3), (8, .int 3), (7, .ref g0), (6, .ref h0), (0, .ref x0), (1, .int s_), (2, .int q_), (3, .int i), (4, .int j), (5, .int n)]) hx hb dX7_copy_72 hl (by decide) rfl (fun ls hl => ?_)
            refine lv_iload hx hb dX7_copy_74 (lv_at hl 2 rfl) ?_
            refine lv_iconst (v := 2) hx hb dX7_copy_76 (by decide) ?_
            refine lv_icmp_eq (tgt := 91) hx hb dX7_copy_77 (by decide) (fun c_89 => ?_) (fun c_89 => ?_)
            · exact absurd c_89 (by decide)
            · refine lv_iload hx hb dX7_copy_80 (lv_at hl 1 rfl) ?_
              refine lv_iconst (v := 2) hx hb dX7_copy_82 (by decide) ?_
              refine lv_icmp_eq (tgt := 91) hx hb dX7_copy_83 (by decide) (fun c_90 => ?_) (fun c_90 => ?_)
              · exact absurd c_90 (by decide)
              · refine lv_iload hx hb dX7_copy_86 (lv_at hl 0 rfl) ?_
                refine lv_if_eq (tgt := 97) hx hb dX7_copy_88 (by decide) (fun c_91 => ?_) (fun c_91 => ?_)
                · refine lv_iload hx hb dX7_copy_97 (lv_at hl 2 rfl) ?_
                  refine lv_iconst (v := 3) hx hb dX7_copy_99 (by decide) ?_
                  refine lv_icmp_eq (tgt := 109) hx hb dX7_copy_100 (by decide) (fun c_92 => ?_) (fun c_92 => ?_)
                  · refine lv_aload_n hx hb dX7_copy_109 rfl (lv_at hl 5 rfl) ?_
                    refine lv_iconst (v := 3) hx hb dX7_copy_110 (by decide) ?_
                    skip
                    refine zw_V (As := [.int 3]) (rest := []) (wr := [(xs, .inl (cS, 8, .inr (.inr (.inr (.inr fh))))), (h0, .inr (4, [.ref e0, .int he, .int si])), (e0, .inl (cJ, 160, .inr (.inl fe))), (g0, .inr (4, [.ref e1, .int ge, .int gs])), (e1, .inl (cJ, 160, .inr (.inl fe1)))]) ⟨hx, hb, hml, hown, hts⟩ (c_X_refuse_3 l D cI cJ cZ cP cS po x0 xs j0 k0 w0 rd mv xr (im) (lf) fr hy0 hy1 hy2 hy3 H.size) (cwV 1 hts gX7_copy_X7_refuse rfl rfl rfl (by decide +kernel) ⟨Nat.le_of_ble_eq_true rfl, Nat.le_of_ble_eq_true rfl⟩) hK hN (hZ.kept hS) hP hD hS hA [0, 1] [2, 3, 4, 5, 6] rfl rfl (by decide) (by decide) (by decide) (va_recv hK hP (ci := 7) (q0 := 0) rfl rfl) rfl hl.1 rfl (Nat.le_of_ble_eq_true rfl) dX7_copy_111 ⟨Nat.le_of_ble_eq_true rfl, Nat.le_of_ble_eq_true rfl⟩ (fun r_93 u_94 H locs hr_93 hP hD hS => ?_)
                    obtain ⟨q_95, rfl⟩ : ∃ z, z = u_94 := ⟨_, rfl⟩
                    replace hP : va_P D vwCl [(xs, .inl (cS, 8, .inr (.inr (.inr (.inr fh))))), (h0, .inr (4, [.ref e0, .int he, .int si])), (e0, .inl (cJ, 160, .inr (.inl fe))), (g0, .inr (4, [.ref e1, .int ge, .int gs])), (e1, .inl (cJ, 160, .inr (.inl fe1))), (x0, .inr (7, [.ref xs, .ref j0, .ref k0, .ref w0, .ref rd, .ref mv, .ref xr, .int im, .int lf])), (xr, .inl (cI, 8, .inl q_95))] H := hP
                    replace hD : va_D _ [(xs, .inl (cS, 8, .inr (.inr (.inr (.inr fh))))), (h0, .inr (4, [.ref e0, .int he, .int si])), (e0, .inl (cJ, 160, .inr (.inl fe))), (g0, .inr (4, [.ref e1, .int ge, .int gs])), (e1, .inl (cJ, 160, .inr (.inl fe1))), (x0, .inr (7, [.ref xs, .ref j0, .ref k0, .ref w0, .ref rd, .ref mv, .ref xr, .int im, .int lf])), (xr, .inl (cI, 8, .inl q_95))] := hD
                    obtain rfl := hr_93
                    exact W.iret (v := (-3)) hx hb hr (fun t ht hW => ⟨⟨(-3), (fe1, q_95), rfl, trivial, by rw [ht]; exact hP.sub (ws' := [(x0, .inr (7, [.ref xs, .ref j0, .ref k0, .ref w0, .ref rd, .ref mv, .ref xr, .int im, .int lf])), (xr, .inl (cI, 8, .inl q_95)), (xs, .inl (cS, 8, .inr (.inr (.inr (.inr fh))))), (h0, .inr (4, [.ref e0, .int he, .int si])), (e0, .inl (cJ, 160, .inr (.inl fe))), (g0, .inr (4, [.ref e1, .int ge, .int gs])), (e1, .inl (cJ, 160, .inr (.inl fe1)))]) [5, 6, 0, 1, 2, 3, 4] rfl, hD.sub (ws' := [(x0, .inr (7, [.ref xs, .ref j0, .ref k0, .ref w0, .ref rd, .ref mv, .ref xr, .int im, .int lf])), (xr, .inl (cI, 8, .inl q_95)), (xs, .inl (cS, 8, .inr (.inr (.inr (.inr fh))))), (h0, .inr (4, [.ref e0, .int he, .int si])), (e0, .inl (cJ, 160, .inr (.inl fe))), (g0, .inr (4, [.ref e1, .int ge, .int gs])), (e1, .inl (cJ, 160, .inr (.inl fe1)))]) [5, 6, 0, 1, 2, 3, 4] (by decide) rfl⟩, hS.F ht⟩) hS.2.2 dX7_copy_114
                  · exact absurd c_92 (by decide)
                · exact absurd c_91 (by decide)
          · exact absurd c_88 (by decide)
        · refine lv_istore (lv' := [(9, .int 0), (8, .int 3), (7, .ref g0), (6, .ref h0), (0, .ref x0), (1, .int s_), (2, .int q_), (3, .int i), (4, .int j), (5, .int n)]) hx hb dX7_copy_42 hl (by decide) rfl (fun ls hl => ?_)
          refine lv_iload hx hb dX7_copy_44 (lv_at hl 1 rfl) ?_
          refine lv_if_ne (tgt := 71) hx hb dX7_copy_46 (by decide) (fun c_96 => ?_) (fun c_96 => ?_)
          · refine lv_iconst (v := 0) hx hb dX7_copy_71 (by decide) ?_
            refine lv_istore (lv' := [(10, .int 0), (9, .int 0), (8, .int 3), (7, .ref g0), (6, .ref h0), (0, .ref x0), (1, .int s_), (2, .int q_), (3, .int i), (4, .int j), (5, .int n)]) hx hb dX7_copy_72 hl (by decide) rfl (fun ls hl => ?_)
            refine lv_iload hx hb dX7_copy_74 (lv_at hl 2 rfl) ?_
            refine lv_iconst (v := 2) hx hb dX7_copy_76 (by decide) ?_
            refine lv_icmp_eq (tgt := 91) hx hb dX7_copy_77 (by decide) (fun c_97 => ?_) (fun c_97 => ?_)
            · exact absurd c_97 (by decide)
            · refine lv_iload hx hb dX7_copy_80 (lv_at hl 1 rfl) ?_
              refine lv_iconst (v := 2) hx hb dX7_copy_82 (by decide) ?_
              refine lv_icmp_eq (tgt := 91) hx hb dX7_copy_83 (by decide) (fun c_98 => ?_) (fun c_98 => ?_)
              · exact absurd c_98 (by decide)
              · refine lv_iload hx hb dX7_copy_86 (lv_at hl 0 rfl) ?_
                refine lv_if_eq (tgt := 97) hx hb dX7_copy_88 (by decide) (fun c_99 => ?_) (fun c_99 => ?_)
                · refine lv_iload hx hb dX7_copy_97 (lv_at hl 2 rfl) ?_
                  refine lv_iconst (v := 3) hx hb dX7_copy_99 (by decide) ?_
                  refine lv_icmp_eq (tgt := 109) hx hb dX7_copy_100 (by decide) (fun c_100 => ?_) (fun c_100 => ?_)
                  · refine lv_aload_n hx hb dX7_copy_109 rfl (lv_at hl 5 rfl) ?_
                    refine lv_iconst (v := 3) hx hb dX7_copy_110 (by decide) ?_
                    skip
                    refine zw_V (As := [.int 3]) (rest := []) (wr := [(xs, .inl (cS, 8, .inr (.inr (.inr (.inr fh))))), (h0, .inr (4, [.ref e0, .int he, .int si])), (e0, .inl (cJ, 160, .inr (.inl fe))), (g0, .inr (4, [.ref e1, .int ge, .int gs])), (e1, .inl (cJ, 160, .inr (.inl fe1)))]) ⟨hx, hb, hml, hown, hts⟩ (c_X_refuse_3 l D cI cJ cZ cP cS po x0 xs j0 k0 w0 rd mv xr (im) (lf) fr hy0 hy1 hy2 hy3 H.size) (cwV 1 hts gX7_copy_X7_refuse rfl rfl rfl (by decide +kernel) ⟨Nat.le_of_ble_eq_true rfl, Nat.le_of_ble_eq_true rfl⟩) hK hN (hZ.kept hS) hP hD hS hA [0, 1] [2, 3, 4, 5, 6] rfl rfl (by decide) (by decide) (by decide) (va_recv hK hP (ci := 7) (q0 := 0) rfl rfl) rfl hl.1 rfl (Nat.le_of_ble_eq_true rfl) dX7_copy_111 ⟨Nat.le_of_ble_eq_true rfl, Nat.le_of_ble_eq_true rfl⟩ (fun r_101 u_102 H locs hr_101 hP hD hS => ?_)
                    obtain ⟨q_103, rfl⟩ : ∃ z, z = u_102 := ⟨_, rfl⟩
                    replace hP : va_P D vwCl [(xs, .inl (cS, 8, .inr (.inr (.inr (.inr fh))))), (h0, .inr (4, [.ref e0, .int he, .int si])), (e0, .inl (cJ, 160, .inr (.inl fe))), (g0, .inr (4, [.ref e1, .int ge, .int gs])), (e1, .inl (cJ, 160, .inr (.inl fe1))), (x0, .inr (7, [.ref xs, .ref j0, .ref k0, .ref w0, .ref rd, .ref mv, .ref xr, .int im, .int lf])), (xr, .inl (cI, 8, .inl q_103))] H := hP
                    replace hD : va_D _ [(xs, .inl (cS, 8, .inr (.inr (.inr (.inr fh))))), (h0, .inr (4, [.ref e0, .int he, .int si])), (e0, .inl (cJ, 160, .inr (.inl fe))), (g0, .inr (4, [.ref e1, .int ge, .int gs])), (e1, .inl (cJ, 160, .inr (.inl fe1))), (x0, .inr (7, [.ref xs, .ref j0, .ref k0, .ref w0, .ref rd, .ref mv, .ref xr, .int im, .int lf])), (xr, .inl (cI, 8, .inl q_103))] := hD
                    obtain rfl := hr_101
                    exact W.iret (v := (-3)) hx hb hr (fun t ht hW => ⟨⟨(-3), (fe1, q_103), rfl, trivial, by rw [ht]; exact hP.sub (ws' := [(x0, .inr (7, [.ref xs, .ref j0, .ref k0, .ref w0, .ref rd, .ref mv, .ref xr, .int im, .int lf])), (xr, .inl (cI, 8, .inl q_103)), (xs, .inl (cS, 8, .inr (.inr (.inr (.inr fh))))), (h0, .inr (4, [.ref e0, .int he, .int si])), (e0, .inl (cJ, 160, .inr (.inl fe))), (g0, .inr (4, [.ref e1, .int ge, .int gs])), (e1, .inl (cJ, 160, .inr (.inl fe1)))]) [5, 6, 0, 1, 2, 3, 4] rfl, hD.sub (ws' := [(x0, .inr (7, [.ref xs, .ref j0, .ref k0, .ref w0, .ref rd, .ref mv, .ref xr, .int im, .int lf])), (xr, .inl (cI, 8, .inl q_103)), (xs, .inl (cS, 8, .inr (.inr (.inr (.inr fh))))), (h0, .inr (4, [.ref e0, .int he, .int si])), (e0, .inl (cJ, 160, .inr (.inl fe))), (g0, .inr (4, [.ref e1, .int ge, .int gs])), (e1, .inl (cJ, 160, .inr (.inl fe1)))]) [5, 6, 0, 1, 2, 3, 4] (by decide) rfl⟩, hS.F ht⟩) hS.2.2 dX7_copy_114
                  · exact absurd c_100 (by decide)
                · exact absurd c_99 (by decide)
          · exact absurd c_96 (by decide)
      · refine lv_istore (lv' := [(8, .int 0), (7, .ref g0), (6, .ref h0), (0, .ref x0), (1, .int s_), (2, .int q_), (3, .int i), (4, .int j), (5, .int n)]) hx hb dX7_copy_35 hl (by decide) rfl (fun ls hl => ?_)
        refine lv_aload hx hb dX7_copy_37 (lv_at hl 1 rfl) ?_
        refine zc_V (As := []) (rest := []) ⟨hx, hb, hml, hown, hts⟩ (c_Sh_noRow l D cI cJ cZ cP cS po g0 e1 (ge) (gs) hy8 hy9 hy10 hy11) (cwV 0 hts gX7_copy_X4_noRow rfl rfl rfl (by decide +kernel) ⟨Nat.le_of_ble_eq_true rfl, Nat.le_of_ble_eq_true rfl⟩) hK hN (hZ.kept hS) hP (hP.sub [5] rfl) (va_recv hK hP (ci := 4) (q0 := 5) rfl rfl) rfl hl.1 rfl (Nat.le_of_ble_eq_true rfl) dX7_copy_39 ⟨Nat.le_of_ble_eq_true rfl, Nat.le_of_ble_eq_true rfl⟩ (fun r_104 hr_104 => ?_)
        rcases hr_104 with ⟨rfl, g_105, g_106⟩ | ⟨rfl, g_107, g_108⟩ | ⟨rfl, g_109⟩
        · refine lv_istore (lv' := [(9, .int 2), (8, .int 0), (7, .ref g0), (6, .ref h0), (0, .ref x0), (1, .int s_), (2, .int q_), (3, .int i), (4, .int j), (5, .int n)]) hx hb dX7_copy_42 hl (by decide) rfl (fun ls hl => ?_)
          refine lv_iload hx hb dX7_copy_44 (lv_at hl 1 rfl) ?_
          refine lv_if_ne (tgt := 71) hx hb dX7_copy_46 (by decide) (fun c_110 => ?_) (fun c_110 => ?_)
          · exact absurd c_110 (by decide)
          · refine lv_iload hx hb dX7_copy_49 (lv_at hl 0 rfl) ?_
            refine lv_if_ne (tgt := 71) hx hb dX7_copy_51 (by decide) (fun c_111 => ?_) (fun c_111 => ?_)
            · refine lv_iconst (v := 0) hx hb dX7_copy_71 (by decide) ?_
              refine lv_istore (lv' := [(10, .int 0), (9, .int 2), (8, .int 0), (7, .ref g0), (6, .ref h0), (0, .ref x0), (1, .int s_), (2, .int q_), (3, .int i), (4, .int j), (5, .int n)]) hx hb dX7_copy_72 hl (by decide) rfl (fun ls hl => ?_)
              refine lv_iload hx hb dX7_copy_74 (lv_at hl 2 rfl) ?_
              refine lv_iconst (v := 2) hx hb dX7_copy_76 (by decide) ?_
              refine lv_icmp_eq (tgt := 91) hx hb dX7_copy_77 (by decide) (fun c_112 => ?_) (fun c_112 => ?_)
              · exact absurd c_112 (by decide)
              · refine lv_iload hx hb dX7_copy_80 (lv_at hl 1 rfl) ?_
                refine lv_iconst (v := 2) hx hb dX7_copy_82 (by decide) ?_
                refine lv_icmp_eq (tgt := 91) hx hb dX7_copy_83 (by decide) (fun c_113 => ?_) (fun c_113 => ?_)
                · refine lv_aload_n hx hb dX7_copy_91 rfl (lv_at hl 5 rfl) ?_
                  refine lv_iconst (v := 2) hx hb dX7_copy_92 (by decide) ?_
                  skip
                  refine zw_V (As := [.int 2]) (rest := []) (wr := [(xs, .inl (cS, 8, .inr (.inr (.inr (.inr fh))))), (h0, .inr (4, [.ref e0, .int he, .int si])), (e0, .inl (cJ, 160, .inr (.inl fe))), (g0, .inr (4, [.ref e1, .int ge, .int gs])), (e1, .inl (cJ, 160, .inr (.inl fe1)))]) ⟨hx, hb, hml, hown, hts⟩ (c_X_refuse_2 l D cI cJ cZ cP cS po x0 xs j0 k0 w0 rd mv xr (im) (lf) fr hy0 hy1 hy2 hy3 H.size) (cwV 1 hts gX7_copy_X7_refuse rfl rfl rfl (by decide +kernel) ⟨Nat.le_of_ble_eq_true rfl, Nat.le_of_ble_eq_true rfl⟩) hK hN (hZ.kept hS) hP hD hS hA [0, 1] [2, 3, 4, 5, 6] rfl rfl (by decide) (by decide) (by decide) (va_recv hK hP (ci := 7) (q0 := 0) rfl rfl) rfl hl.1 rfl (Nat.le_of_ble_eq_true rfl) dX7_copy_93 ⟨Nat.le_of_ble_eq_true rfl, Nat.le_of_ble_eq_true rfl⟩ (fun r_114 u_115 H locs hr_114 hP hD hS => ?_)
                  obtain ⟨q_116, rfl⟩ : ∃ z, z = u_115 := ⟨_, rfl⟩
                  replace hP : va_P D vwCl [(xs, .inl (cS, 8, .inr (.inr (.inr (.inr fh))))), (h0, .inr (4, [.ref e0, .int he, .int si])), (e0, .inl (cJ, 160, .inr (.inl fe))), (g0, .inr (4, [.ref e1, .int ge, .int gs])), (e1, .inl (cJ, 160, .inr (.inl fe1))), (x0, .inr (7, [.ref xs, .ref j0, .ref k0, .ref w0, .ref rd, .ref mv, .ref xr, .int im, .int lf])), (xr, .inl (cI, 8, .inl q_116))] H := hP
                  replace hD : va_D _ [(xs, .inl (cS, 8, .inr (.inr (.inr (.inr fh))))), (h0, .inr (4, [.ref e0, .int he, .int si])), (e0, .inl (cJ, 160, .inr (.inl fe))), (g0, .inr (4, [.ref e1, .int ge, .int gs])), (e1, .inl (cJ, 160, .inr (.inl fe1))), (x0, .inr (7, [.ref xs, .ref j0, .ref k0, .ref w0, .ref rd, .ref mv, .ref xr, .int im, .int lf])), (xr, .inl (cI, 8, .inl q_116))] := hD
                  obtain rfl := hr_114
                  exact W.iret (v := (-2)) hx hb hr (fun t ht hW => ⟨⟨(-2), (fe1, q_116), rfl, trivial, by rw [ht]; exact hP.sub (ws' := [(x0, .inr (7, [.ref xs, .ref j0, .ref k0, .ref w0, .ref rd, .ref mv, .ref xr, .int im, .int lf])), (xr, .inl (cI, 8, .inl q_116)), (xs, .inl (cS, 8, .inr (.inr (.inr (.inr fh))))), (h0, .inr (4, [.ref e0, .int he, .int si])), (e0, .inl (cJ, 160, .inr (.inl fe))), (g0, .inr (4, [.ref e1, .int ge, .int gs])), (e1, .inl (cJ, 160, .inr (.inl fe1)))]) [5, 6, 0, 1, 2, 3, 4] rfl, hD.sub (ws' := [(x0, .inr (7, [.ref xs, .ref j0, .ref k0, .ref w0, .ref rd, .ref mv, .ref xr, .int im, .int lf])), (xr, .inl (cI, 8, .inl q_116)), (xs, .inl (cS, 8, .inr (.inr (.inr (.inr fh))))), (h0, .inr (4, [.ref e0, .int he, .int si])), (e0, .inl (cJ, 160, .inr (.inl fe))), (g0, .inr (4, [.ref e1, .int ge, .int gs])), (e1, .inl (cJ, 160, .inr (.inl fe1)))]) [5, 6, 0, 1, 2, 3, 4] (by decide) rfl⟩, hS.F ht⟩) hS.2.2 dX7_copy_96
                · exact absurd c_113 (by decide)
            · exact absurd c_111 (by decide)
        · refine lv_istore (lv' := [(9, .int 3), (8, .int 0), (7, .ref g0), (6, .ref h0), (0, .ref x0), (1, .int s_), (2, .int q_), (3, .int i), (4, .int j), (5, .int n)]) hx hb dX7_copy_42 hl (by decide) rfl (fun ls hl => ?_)
          refine lv_iload hx hb dX7_copy_44 (lv_at hl 1 rfl) ?_
          refine lv_if_ne (tgt := 71) hx hb dX7_copy_46 (by decide) (fun c_117 => ?_) (fun c_117 => ?_)
          · exact absurd c_117 (by decide)
          · refine lv_iload hx hb dX7_copy_49 (lv_at hl 0 rfl) ?_
            refine lv_if_ne (tgt := 71) hx hb dX7_copy_51 (by decide) (fun c_118 => ?_) (fun c_118 => ?_)
            · refine lv_iconst (v := 0) hx hb dX7_copy_71 (by decide) ?_
              refine lv_istore (lv' := [(10, .int 0), (9, .int 3), (8, .int 0), (7, .ref g0), (6, .ref h0), (0, .ref x0), (1, .int s_), (2, .int q_), (3, .int i), (4, .int j), (5, .int n)]) hx hb dX7_copy_72 hl (by decide) rfl (fun ls hl => ?_)
              refine lv_iload hx hb dX7_copy_74 (lv_at hl 2 rfl) ?_
              refine lv_iconst (v := 2) hx hb dX7_copy_76 (by decide) ?_
              refine lv_icmp_eq (tgt := 91) hx hb dX7_copy_77 (by decide) (fun c_119 => ?_) (fun c_119 => ?_)
              · exact absurd c_119 (by decide)
              · refine lv_iload hx hb dX7_copy_80 (lv_at hl 1 rfl) ?_
                refine lv_iconst (v := 2) hx hb dX7_copy_82 (by decide) ?_
                refine lv_icmp_eq (tgt := 91) hx hb dX7_copy_83 (by decide) (fun c_120 => ?_) (fun c_120 => ?_)
                · exact absurd c_120 (by decide)
                · refine lv_iload hx hb dX7_copy_86 (lv_at hl 0 rfl) ?_
                  refine lv_if_eq (tgt := 97) hx hb dX7_copy_88 (by decide) (fun c_121 => ?_) (fun c_121 => ?_)
                  · refine lv_iload hx hb dX7_copy_97 (lv_at hl 2 rfl) ?_
                    refine lv_iconst (v := 3) hx hb dX7_copy_99 (by decide) ?_
                    refine lv_icmp_eq (tgt := 109) hx hb dX7_copy_100 (by decide) (fun c_122 => ?_) (fun c_122 => ?_)
                    · exact absurd c_122 (by decide)
                    · refine lv_iload hx hb dX7_copy_103 (lv_at hl 1 rfl) ?_
                      refine lv_iconst (v := 3) hx hb dX7_copy_105 (by decide) ?_
                      refine lv_icmp_ne (tgt := 115) hx hb dX7_copy_106 (by decide) (fun c_123 => ?_) (fun c_123 => ?_)
                      · exact absurd c_123 (by decide)
                      · refine lv_aload_n hx hb dX7_copy_109 rfl (lv_at hl 5 rfl) ?_
                        refine lv_iconst (v := 3) hx hb dX7_copy_110 (by decide) ?_
                        skip
                        refine zw_V (As := [.int 3]) (rest := []) (wr := [(xs, .inl (cS, 8, .inr (.inr (.inr (.inr fh))))), (h0, .inr (4, [.ref e0, .int he, .int si])), (e0, .inl (cJ, 160, .inr (.inl fe))), (g0, .inr (4, [.ref e1, .int ge, .int gs])), (e1, .inl (cJ, 160, .inr (.inl fe1)))]) ⟨hx, hb, hml, hown, hts⟩ (c_X_refuse_3 l D cI cJ cZ cP cS po x0 xs j0 k0 w0 rd mv xr (im) (lf) fr hy0 hy1 hy2 hy3 H.size) (cwV 1 hts gX7_copy_X7_refuse rfl rfl rfl (by decide +kernel) ⟨Nat.le_of_ble_eq_true rfl, Nat.le_of_ble_eq_true rfl⟩) hK hN (hZ.kept hS) hP hD hS hA [0, 1] [2, 3, 4, 5, 6] rfl rfl (by decide) (by decide) (by decide) (va_recv hK hP (ci := 7) (q0 := 0) rfl rfl) rfl hl.1 rfl (Nat.le_of_ble_eq_true rfl) dX7_copy_111 ⟨Nat.le_of_ble_eq_true rfl, Nat.le_of_ble_eq_true rfl⟩ (fun r_124 u_125 H locs hr_124 hP hD hS => ?_)
                        obtain ⟨q_126, rfl⟩ : ∃ z, z = u_125 := ⟨_, rfl⟩
                        replace hP : va_P D vwCl [(xs, .inl (cS, 8, .inr (.inr (.inr (.inr fh))))), (h0, .inr (4, [.ref e0, .int he, .int si])), (e0, .inl (cJ, 160, .inr (.inl fe))), (g0, .inr (4, [.ref e1, .int ge, .int gs])), (e1, .inl (cJ, 160, .inr (.inl fe1))), (x0, .inr (7, [.ref xs, .ref j0, .ref k0, .ref w0, .ref rd, .ref mv, .ref xr, .int im, .int lf])), (xr, .inl (cI, 8, .inl q_126))] H := hP
                        replace hD : va_D _ [(xs, .inl (cS, 8, .inr (.inr (.inr (.inr fh))))), (h0, .inr (4, [.ref e0, .int he, .int si])), (e0, .inl (cJ, 160, .inr (.inl fe))), (g0, .inr (4, [.ref e1, .int ge, .int gs])), (e1, .inl (cJ, 160, .inr (.inl fe1))), (x0, .inr (7, [.ref xs, .ref j0, .ref k0, .ref w0, .ref rd, .ref mv, .ref xr, .int im, .int lf])), (xr, .inl (cI, 8, .inl q_126))] := hD
                        obtain rfl := hr_124
                        exact W.iret (v := (-3)) hx hb hr (fun t ht hW => ⟨⟨(-3), (fe1, q_126), rfl, trivial, by rw [ht]; exact hP.sub (ws' := [(x0, .inr (7, [.ref xs, .ref j0, .ref k0, .ref w0, .ref rd, .ref mv, .ref xr, .int im, .int lf])), (xr, .inl (cI, 8, .inl q_126)), (xs, .inl (cS, 8, .inr (.inr (.inr (.inr fh))))), (h0, .inr (4, [.ref e0, .int he, .int si])), (e0, .inl (cJ, 160, .inr (.inl fe))), (g0, .inr (4, [.ref e1, .int ge, .int gs])), (e1, .inl (cJ, 160, .inr (.inl fe1)))]) [5, 6, 0, 1, 2, 3, 4] rfl, hD.sub (ws' := [(x0, .inr (7, [.ref xs, .ref j0, .ref k0, .ref w0, .ref rd, .ref mv, .ref xr, .int im, .int lf])), (xr, .inl (cI, 8, .inl q_126)), (xs, .inl (cS, 8, .inr (.inr (.inr (.inr fh))))), (h0, .inr (4, [.ref e0, .int he, .int si])), (e0, .inl (cJ, 160, .inr (.inl fe))), (g0, .inr (4, [.ref e1, .int ge, .int gs])), (e1, .inl (cJ, 160, .inr (.inl fe1)))]) [5, 6, 0, 1, 2, 3, 4] (by decide) rfl⟩, hS.F ht⟩) hS.2.2 dX7_copy_114
                  · exact absurd c_121 (by decide)
            · exact absurd c_118 (by decide)
        · refine lv_istore (lv' := [(9, .int 0), (8, .int 0), (7, .ref g0), (6, .ref h0), (0, .ref x0), (1, .int s_), (2, .int q_), (3, .int i), (4, .int j), (5, .int n)]) hx hb dX7_copy_42 hl (by decide) rfl (fun ls hl => ?_)
          refine lv_iload hx hb dX7_copy_44 (lv_at hl 1 rfl) ?_
          refine lv_if_ne (tgt := 71) hx hb dX7_copy_46 (by decide) (fun c_127 => ?_) (fun c_127 => ?_)
          · exact absurd c_127 (by decide)
          · refine lv_iload hx hb dX7_copy_49 (lv_at hl 0 rfl) ?_
            refine lv_if_ne (tgt := 71) hx hb dX7_copy_51 (by decide) (fun c_128 => ?_) (fun c_128 => ?_)
            · exact absurd c_128 (by decide)
            · refine lv_aload hx hb dX7_copy_54 (lv_at hl 3 rfl) ?_
              refine va_get (D := D) (ci := 4) (v := .int he) (C := RX4) (T := TX4) (N := 3) hx hb hts hi_X7_copy_4 hown hK hP 3 rfl rfl 1 (by decide) (hts (.fieldLink RX7 87 "TheLiningsInIt$Shelf" "held" "I") (List.mem_of_getElem? (i := 1) rfl)) (fun _ h9 => h9) rfl dX7_copy_56 ?_
              refine lv_aload hx hb dX7_copy_59 (lv_at hl 2 rfl) ?_
              refine va_get (D := D) (ci := 4) (v := .int ge) (C := RX4) (T := TX4) (N := 3) hx hb hts hi_X7_copy_4 hown hK hP 5 rfl rfl 1 (by decide) (hts (.fieldLink RX7 87 "TheLiningsInIt$Shelf" "held" "I") (List.mem_of_getElem? (i := 1) rfl)) (fun _ h9 => h9) rfl dX7_copy_61 ?_
              refine lv_icmp_eq (tgt := 71) hx hb dX7_copy_64 (by decide) (fun c_129 => ?_) (fun c_129 => ?_)
              · have fc_129 : he.toInt = ge.toInt := zf_eq c_129 rfl rfl
                refine lv_iconst (v := 0) hx hb dX7_copy_71 (by decide) ?_
                refine lv_istore (lv' := [(10, .int 0), (9, .int 0), (8, .int 0), (7, .ref g0), (6, .ref h0), (0, .ref x0), (1, .int s_), (2, .int q_), (3, .int i), (4, .int j), (5, .int n)]) hx hb dX7_copy_72 hl (by decide) rfl (fun ls hl => ?_)
                refine lv_iload hx hb dX7_copy_74 (lv_at hl 2 rfl) ?_
                refine lv_iconst (v := 2) hx hb dX7_copy_76 (by decide) ?_
                refine lv_icmp_eq (tgt := 91) hx hb dX7_copy_77 (by decide) (fun c_130 => ?_) (fun c_130 => ?_)
                · exact absurd c_130 (by decide)
                · refine lv_iload hx hb dX7_copy_80 (lv_at hl 1 rfl) ?_
                  refine lv_iconst (v := 2) hx hb dX7_copy_82 (by decide) ?_
                  refine lv_icmp_eq (tgt := 91) hx hb dX7_copy_83 (by decide) (fun c_131 => ?_) (fun c_131 => ?_)
                  · exact absurd c_131 (by decide)
                  · refine lv_iload hx hb dX7_copy_86 (lv_at hl 0 rfl) ?_
                    refine lv_if_eq (tgt := 97) hx hb dX7_copy_88 (by decide) (fun c_132 => ?_) (fun c_132 => ?_)
                    · refine lv_iload hx hb dX7_copy_97 (lv_at hl 2 rfl) ?_
                      refine lv_iconst (v := 3) hx hb dX7_copy_99 (by decide) ?_
                      refine lv_icmp_eq (tgt := 109) hx hb dX7_copy_100 (by decide) (fun c_133 => ?_) (fun c_133 => ?_)
                      · exact absurd c_133 (by decide)
                      · refine lv_iload hx hb dX7_copy_103 (lv_at hl 1 rfl) ?_
                        refine lv_iconst (v := 3) hx hb dX7_copy_105 (by decide) ?_
                        refine lv_icmp_ne (tgt := 115) hx hb dX7_copy_106 (by decide) (fun c_134 => ?_) (fun c_134 => ?_)
                        · refine lv_iload hx hb dX7_copy_115 (lv_at hl 10 rfl) ?_
                          refine lv_if_ge (tgt := 126) hx hb dX7_copy_117 (by decide) (fun c_135 => ?_) (fun c_135 => ?_)
                          · have fc_135 : 0 ≤ n.toInt := zf_le c_135 (by decide) rfl
                            refine lv_aload hx hb dX7_copy_126 (lv_at hl 4 rfl) ?_
                            refine lv_iload_n hx hb dX7_copy_128 rfl (lv_at hl 8 rfl) ?_
                            refine lv_iload hx hb dX7_copy_129 (lv_at hl 10 rfl) ?_
                            refine zc_V (As := [.int i, .int n]) (rest := []) ⟨hx, hb, hml, hown, hts⟩ (c_Sh_hasSpan l D cI cJ cZ cP cS po h0 e0 (he) (si) (i) (n) hy4 hy5 hy6 hy7) (cwV 2 hts gX7_copy_X4_hasSpan rfl rfl rfl (by decide +kernel) ⟨Nat.le_of_ble_eq_true rfl, Nat.le_of_ble_eq_true rfl⟩) hK hN (hZ.kept hS) hP (hP.sub [3] rfl) (va_recv hK hP (ci := 4) (q0 := 3) rfl rfl) rfl hl.1 rfl (Nat.le_of_ble_eq_true rfl) dX7_copy_131 ⟨Nat.le_of_ble_eq_true rfl, Nat.le_of_ble_eq_true rfl⟩ (fun r_136 hr_136 => ?_)
                            rcases hr_136 with ⟨rfl, g_137⟩ | ⟨rfl, g_138, g_139⟩ | ⟨rfl, g_140, g_141, g_142⟩ | ⟨rfl, g_143, g_144, g_145, g_146⟩ | ⟨rfl, g_147, g_148, g_149, g_150⟩
                            · refine lv_if_eq (tgt := 149) hx hb dX7_copy_134 (by decide) (fun c_151 => ?_) (fun c_151 => ?_)
                              · refine lv_aload_n hx hb dX7_copy_149 rfl (lv_at hl 5 rfl) ?_
                                refine lv_iconst (v := 5) hx hb dX7_copy_150 (by decide) ?_
                                skip
                                refine zw_V (As := [.int 5]) (rest := []) (wr := [(xs, .inl (cS, 8, .inr (.inr (.inr (.inr fh))))), (h0, .inr (4, [.ref e0, .int he, .int si])), (e0, .inl (cJ, 160, .inr (.inl fe))), (g0, .inr (4, [.ref e1, .int ge, .int gs])), (e1, .inl (cJ, 160, .inr (.inl fe1)))]) ⟨hx, hb, hml, hown, hts⟩ (c_X_refuse_5 l D cI cJ cZ cP cS po x0 xs j0 k0 w0 rd mv xr (im) (lf) fr hy0 hy1 hy2 hy3 H.size) (cwV 1 hts gX7_copy_X7_refuse rfl rfl rfl (by decide +kernel) ⟨Nat.le_of_ble_eq_true rfl, Nat.le_of_ble_eq_true rfl⟩) hK hN (hZ.kept hS) hP hD hS hA [0, 1] [2, 3, 4, 5, 6] rfl rfl (by decide) (by decide) (by decide) (va_recv hK hP (ci := 7) (q0 := 0) rfl rfl) rfl hl.1 rfl (Nat.le_of_ble_eq_true rfl) dX7_copy_151 ⟨Nat.le_of_ble_eq_true rfl, Nat.le_of_ble_eq_true rfl⟩ (fun r_152 u_153 H locs hr_152 hP hD hS => ?_)
                                obtain ⟨q_154, rfl⟩ : ∃ z, z = u_153 := ⟨_, rfl⟩
                                replace hP : va_P D vwCl [(xs, .inl (cS, 8, .inr (.inr (.inr (.inr fh))))), (h0, .inr (4, [.ref e0, .int he, .int si])), (e0, .inl (cJ, 160, .inr (.inl fe))), (g0, .inr (4, [.ref e1, .int ge, .int gs])), (e1, .inl (cJ, 160, .inr (.inl fe1))), (x0, .inr (7, [.ref xs, .ref j0, .ref k0, .ref w0, .ref rd, .ref mv, .ref xr, .int im, .int lf])), (xr, .inl (cI, 8, .inl q_154))] H := hP
                                replace hD : va_D _ [(xs, .inl (cS, 8, .inr (.inr (.inr (.inr fh))))), (h0, .inr (4, [.ref e0, .int he, .int si])), (e0, .inl (cJ, 160, .inr (.inl fe))), (g0, .inr (4, [.ref e1, .int ge, .int gs])), (e1, .inl (cJ, 160, .inr (.inl fe1))), (x0, .inr (7, [.ref xs, .ref j0, .ref k0, .ref w0, .ref rd, .ref mv, .ref xr, .int im, .int lf])), (xr, .inl (cI, 8, .inl q_154))] := hD
                                obtain rfl := hr_152
                                exact W.iret (v := (-5)) hx hb hr (fun t ht hW => ⟨⟨(-5), (fe1, q_154), rfl, trivial, by rw [ht]; exact hP.sub (ws' := [(x0, .inr (7, [.ref xs, .ref j0, .ref k0, .ref w0, .ref rd, .ref mv, .ref xr, .int im, .int lf])), (xr, .inl (cI, 8, .inl q_154)), (xs, .inl (cS, 8, .inr (.inr (.inr (.inr fh))))), (h0, .inr (4, [.ref e0, .int he, .int si])), (e0, .inl (cJ, 160, .inr (.inl fe))), (g0, .inr (4, [.ref e1, .int ge, .int gs])), (e1, .inl (cJ, 160, .inr (.inl fe1)))]) [5, 6, 0, 1, 2, 3, 4] rfl, hD.sub (ws' := [(x0, .inr (7, [.ref xs, .ref j0, .ref k0, .ref w0, .ref rd, .ref mv, .ref xr, .int im, .int lf])), (xr, .inl (cI, 8, .inl q_154)), (xs, .inl (cS, 8, .inr (.inr (.inr (.inr fh))))), (h0, .inr (4, [.ref e0, .int he, .int si])), (e0, .inl (cJ, 160, .inr (.inl fe))), (g0, .inr (4, [.ref e1, .int ge, .int gs])), (e1, .inl (cJ, 160, .inr (.inl fe1)))]) [5, 6, 0, 1, 2, 3, 4] (by decide) rfl⟩, hS.F ht⟩) hS.2.2 dX7_copy_154
                              · exact absurd c_151 (by decide)
                            · exfalso; omega
                            · refine lv_if_eq (tgt := 149) hx hb dX7_copy_134 (by decide) (fun c_155 => ?_) (fun c_155 => ?_)
                              · refine lv_aload_n hx hb dX7_copy_149 rfl (lv_at hl 5 rfl) ?_
                                refine lv_iconst (v := 5) hx hb dX7_copy_150 (by decide) ?_
                                skip
                                refine zw_V (As := [.int 5]) (rest := []) (wr := [(xs, .inl (cS, 8, .inr (.inr (.inr (.inr fh))))), (h0, .inr (4, [.ref e0, .int he, .int si])), (e0, .inl (cJ, 160, .inr (.inl fe))), (g0, .inr (4, [.ref e1, .int ge, .int gs])), (e1, .inl (cJ, 160, .inr (.inl fe1)))]) ⟨hx, hb, hml, hown, hts⟩ (c_X_refuse_5 l D cI cJ cZ cP cS po x0 xs j0 k0 w0 rd mv xr (im) (lf) fr hy0 hy1 hy2 hy3 H.size) (cwV 1 hts gX7_copy_X7_refuse rfl rfl rfl (by decide +kernel) ⟨Nat.le_of_ble_eq_true rfl, Nat.le_of_ble_eq_true rfl⟩) hK hN (hZ.kept hS) hP hD hS hA [0, 1] [2, 3, 4, 5, 6] rfl rfl (by decide) (by decide) (by decide) (va_recv hK hP (ci := 7) (q0 := 0) rfl rfl) rfl hl.1 rfl (Nat.le_of_ble_eq_true rfl) dX7_copy_151 ⟨Nat.le_of_ble_eq_true rfl, Nat.le_of_ble_eq_true rfl⟩ (fun r_156 u_157 H locs hr_156 hP hD hS => ?_)
                                obtain ⟨q_158, rfl⟩ : ∃ z, z = u_157 := ⟨_, rfl⟩
                                replace hP : va_P D vwCl [(xs, .inl (cS, 8, .inr (.inr (.inr (.inr fh))))), (h0, .inr (4, [.ref e0, .int he, .int si])), (e0, .inl (cJ, 160, .inr (.inl fe))), (g0, .inr (4, [.ref e1, .int ge, .int gs])), (e1, .inl (cJ, 160, .inr (.inl fe1))), (x0, .inr (7, [.ref xs, .ref j0, .ref k0, .ref w0, .ref rd, .ref mv, .ref xr, .int im, .int lf])), (xr, .inl (cI, 8, .inl q_158))] H := hP
                                replace hD : va_D _ [(xs, .inl (cS, 8, .inr (.inr (.inr (.inr fh))))), (h0, .inr (4, [.ref e0, .int he, .int si])), (e0, .inl (cJ, 160, .inr (.inl fe))), (g0, .inr (4, [.ref e1, .int ge, .int gs])), (e1, .inl (cJ, 160, .inr (.inl fe1))), (x0, .inr (7, [.ref xs, .ref j0, .ref k0, .ref w0, .ref rd, .ref mv, .ref xr, .int im, .int lf])), (xr, .inl (cI, 8, .inl q_158))] := hD
                                obtain rfl := hr_156
                                exact W.iret (v := (-5)) hx hb hr (fun t ht hW => ⟨⟨(-5), (fe1, q_158), rfl, trivial, by rw [ht]; exact hP.sub (ws' := [(x0, .inr (7, [.ref xs, .ref j0, .ref k0, .ref w0, .ref rd, .ref mv, .ref xr, .int im, .int lf])), (xr, .inl (cI, 8, .inl q_158)), (xs, .inl (cS, 8, .inr (.inr (.inr (.inr fh))))), (h0, .inr (4, [.ref e0, .int he, .int si])), (e0, .inl (cJ, 160, .inr (.inl fe))), (g0, .inr (4, [.ref e1, .int ge, .int gs])), (e1, .inl (cJ, 160, .inr (.inl fe1)))]) [5, 6, 0, 1, 2, 3, 4] rfl, hD.sub (ws' := [(x0, .inr (7, [.ref xs, .ref j0, .ref k0, .ref w0, .ref rd, .ref mv, .ref xr, .int im, .int lf])), (xr, .inl (cI, 8, .inl q_158)), (xs, .inl (cS, 8, .inr (.inr (.inr (.inr fh))))), (h0, .inr (4, [.ref e0, .int he, .int si])), (e0, .inl (cJ, 160, .inr (.inl fe))), (g0, .inr (4, [.ref e1, .int ge, .int gs])), (e1, .inl (cJ, 160, .inr (.inl fe1)))]) [5, 6, 0, 1, 2, 3, 4] (by decide) rfl⟩, hS.F ht⟩) hS.2.2 dX7_copy_154
                              · exact absurd c_155 (by decide)
                            · refine lv_if_eq (tgt := 149) hx hb dX7_copy_134 (by decide) (fun c_159 => ?_) (fun c_159 => ?_)
                              · refine lv_aload_n hx hb dX7_copy_149 rfl (lv_at hl 5 rfl) ?_
                                refine lv_iconst (v := 5) hx hb dX7_copy_150 (by decide) ?_
                                skip
                                refine zw_V (As := [.int 5]) (rest := []) (wr := [(xs, .inl (cS, 8, .inr (.inr (.inr (.inr fh))))), (h0, .inr (4, [.ref e0, .int he, .int si])), (e0, .inl (cJ, 160, .inr (.inl fe))), (g0, .inr (4, [.ref e1, .int ge, .int gs])), (e1, .inl (cJ, 160, .inr (.inl fe1)))]) ⟨hx, hb, hml, hown, hts⟩ (c_X_refuse_5 l D cI cJ cZ cP cS po x0 xs j0 k0 w0 rd mv xr (im) (lf) fr hy0 hy1 hy2 hy3 H.size) (cwV 1 hts gX7_copy_X7_refuse rfl rfl rfl (by decide +kernel) ⟨Nat.le_of_ble_eq_true rfl, Nat.le_of_ble_eq_true rfl⟩) hK hN (hZ.kept hS) hP hD hS hA [0, 1] [2, 3, 4, 5, 6] rfl rfl (by decide) (by decide) (by decide) (va_recv hK hP (ci := 7) (q0 := 0) rfl rfl) rfl hl.1 rfl (Nat.le_of_ble_eq_true rfl) dX7_copy_151 ⟨Nat.le_of_ble_eq_true rfl, Nat.le_of_ble_eq_true rfl⟩ (fun r_160 u_161 H locs hr_160 hP hD hS => ?_)
                                obtain ⟨q_162, rfl⟩ : ∃ z, z = u_161 := ⟨_, rfl⟩
                                replace hP : va_P D vwCl [(xs, .inl (cS, 8, .inr (.inr (.inr (.inr fh))))), (h0, .inr (4, [.ref e0, .int he, .int si])), (e0, .inl (cJ, 160, .inr (.inl fe))), (g0, .inr (4, [.ref e1, .int ge, .int gs])), (e1, .inl (cJ, 160, .inr (.inl fe1))), (x0, .inr (7, [.ref xs, .ref j0, .ref k0, .ref w0, .ref rd, .ref mv, .ref xr, .int im, .int lf])), (xr, .inl (cI, 8, .inl q_162))] H := hP
                                replace hD : va_D _ [(xs, .inl (cS, 8, .inr (.inr (.inr (.inr fh))))), (h0, .inr (4, [.ref e0, .int he, .int si])), (e0, .inl (cJ, 160, .inr (.inl fe))), (g0, .inr (4, [.ref e1, .int ge, .int gs])), (e1, .inl (cJ, 160, .inr (.inl fe1))), (x0, .inr (7, [.ref xs, .ref j0, .ref k0, .ref w0, .ref rd, .ref mv, .ref xr, .int im, .int lf])), (xr, .inl (cI, 8, .inl q_162))] := hD
                                obtain rfl := hr_160
                                exact W.iret (v := (-5)) hx hb hr (fun t ht hW => ⟨⟨(-5), (fe1, q_162), rfl, trivial, by rw [ht]; exact hP.sub (ws' := [(x0, .inr (7, [.ref xs, .ref j0, .ref k0, .ref w0, .ref rd, .ref mv, .ref xr, .int im, .int lf])), (xr, .inl (cI, 8, .inl q_162)), (xs, .inl (cS, 8, .inr (.inr (.inr (.inr fh))))), (h0, .inr (4, [.ref e0, .int he, .int si])), (e0, .inl (cJ, 160, .inr (.inl fe))), (g0, .inr (4, [.ref e1, .int ge, .int gs])), (e1, .inl (cJ, 160, .inr (.inl fe1)))]) [5, 6, 0, 1, 2, 3, 4] rfl, hD.sub (ws' := [(x0, .inr (7, [.ref xs, .ref j0, .ref k0, .ref w0, .ref rd, .ref mv, .ref xr, .int im, .int lf])), (xr, .inl (cI, 8, .inl q_162)), (xs, .inl (cS, 8, .inr (.inr (.inr (.inr fh))))), (h0, .inr (4, [.ref e0, .int he, .int si])), (e0, .inl (cJ, 160, .inr (.inl fe))), (g0, .inr (4, [.ref e1, .int ge, .int gs])), (e1, .inl (cJ, 160, .inr (.inl fe1)))]) [5, 6, 0, 1, 2, 3, 4] (by decide) rfl⟩, hS.F ht⟩) hS.2.2 dX7_copy_154
                              · exact absurd c_159 (by decide)
                            · refine lv_if_eq (tgt := 149) hx hb dX7_copy_134 (by decide) (fun c_163 => ?_) (fun c_163 => ?_)
                              · exact absurd c_163 (by decide)
                              · refine lv_aload hx hb dX7_copy_137 (lv_at hl 3 rfl) ?_
                                refine lv_iload hx hb dX7_copy_139 (lv_at hl 9 rfl) ?_
                                refine lv_iload hx hb dX7_copy_141 (lv_at hl 10 rfl) ?_
                                refine zc_V (As := [.int j, .int n]) (rest := []) ⟨hx, hb, hml, hown, hts⟩ (c_Sh_hasSpan l D cI cJ cZ cP cS po g0 e1 (ge) (gs) (j) (n) hy8 hy9 hy10 hy11) (cwV 2 hts gX7_copy_X4_hasSpan rfl rfl rfl (by decide +kernel) ⟨Nat.le_of_ble_eq_true rfl, Nat.le_of_ble_eq_true rfl⟩) hK hN (hZ.kept hS) hP (hP.sub [5] rfl) (va_recv hK hP (ci := 4) (q0 := 5) rfl rfl) rfl hl.1 rfl (Nat.le_of_ble_eq_true rfl) dX7_copy_143 ⟨Nat.le_of_ble_eq_true rfl, Nat.le_of_ble_eq_true rfl⟩ (fun r_164 hr_164 => ?_)
                                rcases hr_164 with ⟨rfl, g_165⟩ | ⟨rfl, g_166, g_167⟩ | ⟨rfl, g_168, g_169, g_170⟩ | ⟨rfl, g_171, g_172, g_173, g_174⟩ | ⟨rfl, g_175, g_176, g_177, g_178⟩
                                · refine lv_if_ne (tgt := 155) hx hb dX7_copy_146 (by decide) (fun c_179 => ?_) (fun c_179 => ?_)
                                  · exact absurd c_179 (by decide)
                                  · refine lv_aload_n hx hb dX7_copy_149 rfl (lv_at hl 5 rfl) ?_
                                    refine lv_iconst (v := 5) hx hb dX7_copy_150 (by decide) ?_
                                    skip
                                    refine zw_V (As := [.int 5]) (rest := []) (wr := [(xs, .inl (cS, 8, .inr (.inr (.inr (.inr fh))))), (h0, .inr (4, [.ref e0, .int he, .int si])), (e0, .inl (cJ, 160, .inr (.inl fe))), (g0, .inr (4, [.ref e1, .int ge, .int gs])), (e1, .inl (cJ, 160, .inr (.inl fe1)))]) ⟨hx, hb, hml, hown, hts⟩ (c_X_refuse_5 l D cI cJ cZ cP cS po x0 xs j0 k0 w0 rd mv xr (im) (lf) fr hy0 hy1 hy2 hy3 H.size) (cwV 1 hts gX7_copy_X7_refuse rfl rfl rfl (by decide +kernel) ⟨Nat.le_of_ble_eq_true rfl, Nat.le_of_ble_eq_true rfl⟩) hK hN (hZ.kept hS) hP hD hS hA [0, 1] [2, 3, 4, 5, 6] rfl rfl (by decide) (by decide) (by decide) (va_recv hK hP (ci := 7) (q0 := 0) rfl rfl) rfl hl.1 rfl (Nat.le_of_ble_eq_true rfl) dX7_copy_151 ⟨Nat.le_of_ble_eq_true rfl, Nat.le_of_ble_eq_true rfl⟩ (fun r_180 u_181 H locs hr_180 hP hD hS => ?_)
                                    obtain ⟨q_182, rfl⟩ : ∃ z, z = u_181 := ⟨_, rfl⟩
                                    replace hP : va_P D vwCl [(xs, .inl (cS, 8, .inr (.inr (.inr (.inr fh))))), (h0, .inr (4, [.ref e0, .int he, .int si])), (e0, .inl (cJ, 160, .inr (.inl fe))), (g0, .inr (4, [.ref e1, .int ge, .int gs])), (e1, .inl (cJ, 160, .inr (.inl fe1))), (x0, .inr (7, [.ref xs, .ref j0, .ref k0, .ref w0, .ref rd, .ref mv, .ref xr, .int im, .int lf])), (xr, .inl (cI, 8, .inl q_182))] H := hP
                                    replace hD : va_D _ [(xs, .inl (cS, 8, .inr (.inr (.inr (.inr fh))))), (h0, .inr (4, [.ref e0, .int he, .int si])), (e0, .inl (cJ, 160, .inr (.inl fe))), (g0, .inr (4, [.ref e1, .int ge, .int gs])), (e1, .inl (cJ, 160, .inr (.inl fe1))), (x0, .inr (7, [.ref xs, .ref j0, .ref k0, .ref w0, .ref rd, .ref mv, .ref xr, .int im, .int lf])), (xr, .inl (cI, 8, .inl q_182))] := hD
                                    obtain rfl := hr_180
                                    exact W.iret (v := (-5)) hx hb hr (fun t ht hW => ⟨⟨(-5), (fe1, q_182), rfl, trivial, by rw [ht]; exact hP.sub (ws' := [(x0, .inr (7, [.ref xs, .ref j0, .ref k0, .ref w0, .ref rd, .ref mv, .ref xr, .int im, .int lf])), (xr, .inl (cI, 8, .inl q_182)), (xs, .inl (cS, 8, .inr (.inr (.inr (.inr fh))))), (h0, .inr (4, [.ref e0, .int he, .int si])), (e0, .inl (cJ, 160, .inr (.inl fe))), (g0, .inr (4, [.ref e1, .int ge, .int gs])), (e1, .inl (cJ, 160, .inr (.inl fe1)))]) [5, 6, 0, 1, 2, 3, 4] rfl, hD.sub (ws' := [(x0, .inr (7, [.ref xs, .ref j0, .ref k0, .ref w0, .ref rd, .ref mv, .ref xr, .int im, .int lf])), (xr, .inl (cI, 8, .inl q_182)), (xs, .inl (cS, 8, .inr (.inr (.inr (.inr fh))))), (h0, .inr (4, [.ref e0, .int he, .int si])), (e0, .inl (cJ, 160, .inr (.inl fe))), (g0, .inr (4, [.ref e1, .int ge, .int gs])), (e1, .inl (cJ, 160, .inr (.inl fe1)))]) [5, 6, 0, 1, 2, 3, 4] (by decide) rfl⟩, hS.F ht⟩) hS.2.2 dX7_copy_154
                                · exfalso; omega
                                · refine lv_if_ne (tgt := 155) hx hb dX7_copy_146 (by decide) (fun c_183 => ?_) (fun c_183 => ?_)
                                  · exact absurd c_183 (by decide)
                                  · refine lv_aload_n hx hb dX7_copy_149 rfl (lv_at hl 5 rfl) ?_
                                    refine lv_iconst (v := 5) hx hb dX7_copy_150 (by decide) ?_
                                    skip
                                    refine zw_V (As := [.int 5]) (rest := []) (wr := [(xs, .inl (cS, 8, .inr (.inr (.inr (.inr fh))))), (h0, .inr (4, [.ref e0, .int he, .int si])), (e0, .inl (cJ, 160, .inr (.inl fe))), (g0, .inr (4, [.ref e1, .int ge, .int gs])), (e1, .inl (cJ, 160, .inr (.inl fe1)))]) ⟨hx, hb, hml, hown, hts⟩ (c_X_refuse_5 l D cI cJ cZ cP cS po x0 xs j0 k0 w0 rd mv xr (im) (lf) fr hy0 hy1 hy2 hy3 H.size) (cwV 1 hts gX7_copy_X7_refuse rfl rfl rfl (by decide +kernel) ⟨Nat.le_of_ble_eq_true rfl, Nat.le_of_ble_eq_true rfl⟩) hK hN (hZ.kept hS) hP hD hS hA [0, 1] [2, 3, 4, 5, 6] rfl rfl (by decide) (by decide) (by decide) (va_recv hK hP (ci := 7) (q0 := 0) rfl rfl) rfl hl.1 rfl (Nat.le_of_ble_eq_true rfl) dX7_copy_151 ⟨Nat.le_of_ble_eq_true rfl, Nat.le_of_ble_eq_true rfl⟩ (fun r_184 u_185 H locs hr_184 hP hD hS => ?_)
                                    obtain ⟨q_186, rfl⟩ : ∃ z, z = u_185 := ⟨_, rfl⟩
                                    replace hP : va_P D vwCl [(xs, .inl (cS, 8, .inr (.inr (.inr (.inr fh))))), (h0, .inr (4, [.ref e0, .int he, .int si])), (e0, .inl (cJ, 160, .inr (.inl fe))), (g0, .inr (4, [.ref e1, .int ge, .int gs])), (e1, .inl (cJ, 160, .inr (.inl fe1))), (x0, .inr (7, [.ref xs, .ref j0, .ref k0, .ref w0, .ref rd, .ref mv, .ref xr, .int im, .int lf])), (xr, .inl (cI, 8, .inl q_186))] H := hP
                                    replace hD : va_D _ [(xs, .inl (cS, 8, .inr (.inr (.inr (.inr fh))))), (h0, .inr (4, [.ref e0, .int he, .int si])), (e0, .inl (cJ, 160, .inr (.inl fe))), (g0, .inr (4, [.ref e1, .int ge, .int gs])), (e1, .inl (cJ, 160, .inr (.inl fe1))), (x0, .inr (7, [.ref xs, .ref j0, .ref k0, .ref w0, .ref rd, .ref mv, .ref xr, .int im, .int lf])), (xr, .inl (cI, 8, .inl q_186))] := hD
                                    obtain rfl := hr_184
                                    exact W.iret (v := (-5)) hx hb hr (fun t ht hW => ⟨⟨(-5), (fe1, q_186), rfl, trivial, by rw [ht]; exact hP.sub (ws' := [(x0, .inr (7, [.ref xs, .ref j0, .ref k0, .ref w0, .ref rd, .ref mv, .ref xr, .int im, .int lf])), (xr, .inl (cI, 8, .inl q_186)), (xs, .inl (cS, 8, .inr (.inr (.inr (.inr fh))))), (h0, .inr (4, [.ref e0, .int he, .int si])), (e0, .inl (cJ, 160, .inr (.inl fe))), (g0, .inr (4, [.ref e1, .int ge, .int gs])), (e1, .inl (cJ, 160, .inr (.inl fe1)))]) [5, 6, 0, 1, 2, 3, 4] rfl, hD.sub (ws' := [(x0, .inr (7, [.ref xs, .ref j0, .ref k0, .ref w0, .ref rd, .ref mv, .ref xr, .int im, .int lf])), (xr, .inl (cI, 8, .inl q_186)), (xs, .inl (cS, 8, .inr (.inr (.inr (.inr fh))))), (h0, .inr (4, [.ref e0, .int he, .int si])), (e0, .inl (cJ, 160, .inr (.inl fe))), (g0, .inr (4, [.ref e1, .int ge, .int gs])), (e1, .inl (cJ, 160, .inr (.inl fe1)))]) [5, 6, 0, 1, 2, 3, 4] (by decide) rfl⟩, hS.F ht⟩) hS.2.2 dX7_copy_154
                                · refine lv_if_ne (tgt := 155) hx hb dX7_copy_146 (by decide) (fun c_187 => ?_) (fun c_187 => ?_)
                                  · exact absurd c_187 (by decide)
                                  · refine lv_aload_n hx hb dX7_copy_149 rfl (lv_at hl 5 rfl) ?_
                                    refine lv_iconst (v := 5) hx hb dX7_copy_150 (by decide) ?_
                                    skip
                                    refine zw_V (As := [.int 5]) (rest := []) (wr := [(xs, .inl (cS, 8, .inr (.inr (.inr (.inr fh))))), (h0, .inr (4, [.ref e0, .int he, .int si])), (e0, .inl (cJ, 160, .inr (.inl fe))), (g0, .inr (4, [.ref e1, .int ge, .int gs])), (e1, .inl (cJ, 160, .inr (.inl fe1)))]) ⟨hx, hb, hml, hown, hts⟩ (c_X_refuse_5 l D cI cJ cZ cP cS po x0 xs j0 k0 w0 rd mv xr (im) (lf) fr hy0 hy1 hy2 hy3 H.size) (cwV 1 hts gX7_copy_X7_refuse rfl rfl rfl (by decide +kernel) ⟨Nat.le_of_ble_eq_true rfl, Nat.le_of_ble_eq_true rfl⟩) hK hN (hZ.kept hS) hP hD hS hA [0, 1] [2, 3, 4, 5, 6] rfl rfl (by decide) (by decide) (by decide) (va_recv hK hP (ci := 7) (q0 := 0) rfl rfl) rfl hl.1 rfl (Nat.le_of_ble_eq_true rfl) dX7_copy_151 ⟨Nat.le_of_ble_eq_true rfl, Nat.le_of_ble_eq_true rfl⟩ (fun r_188 u_189 H locs hr_188 hP hD hS => ?_)
                                    obtain ⟨q_190, rfl⟩ : ∃ z, z = u_189 := ⟨_, rfl⟩
                                    replace hP : va_P D vwCl [(xs, .inl (cS, 8, .inr (.inr (.inr (.inr fh))))), (h0, .inr (4, [.ref e0, .int he, .int si])), (e0, .inl (cJ, 160, .inr (.inl fe))), (g0, .inr (4, [.ref e1, .int ge, .int gs])), (e1, .inl (cJ, 160, .inr (.inl fe1))), (x0, .inr (7, [.ref xs, .ref j0, .ref k0, .ref w0, .ref rd, .ref mv, .ref xr, .int im, .int lf])), (xr, .inl (cI, 8, .inl q_190))] H := hP
                                    replace hD : va_D _ [(xs, .inl (cS, 8, .inr (.inr (.inr (.inr fh))))), (h0, .inr (4, [.ref e0, .int he, .int si])), (e0, .inl (cJ, 160, .inr (.inl fe))), (g0, .inr (4, [.ref e1, .int ge, .int gs])), (e1, .inl (cJ, 160, .inr (.inl fe1))), (x0, .inr (7, [.ref xs, .ref j0, .ref k0, .ref w0, .ref rd, .ref mv, .ref xr, .int im, .int lf])), (xr, .inl (cI, 8, .inl q_190))] := hD
                                    obtain rfl := hr_188
                                    exact W.iret (v := (-5)) hx hb hr (fun t ht hW => ⟨⟨(-5), (fe1, q_190), rfl, trivial, by rw [ht]; exact hP.sub (ws' := [(x0, .inr (7, [.ref xs, .ref j0, .ref k0, .ref w0, .ref rd, .ref mv, .ref xr, .int im, .int lf])), (xr, .inl (cI, 8, .inl q_190)), (xs, .inl (cS, 8, .inr (.inr (.inr (.inr fh))))), (h0, .inr (4, [.ref e0, .int he, .int si])), (e0, .inl (cJ, 160, .inr (.inl fe))), (g0, .inr (4, [.ref e1, .int ge, .int gs])), (e1, .inl (cJ, 160, .inr (.inl fe1)))]) [5, 6, 0, 1, 2, 3, 4] rfl, hD.sub (ws' := [(x0, .inr (7, [.ref xs, .ref j0, .ref k0, .ref w0, .ref rd, .ref mv, .ref xr, .int im, .int lf])), (xr, .inl (cI, 8, .inl q_190)), (xs, .inl (cS, 8, .inr (.inr (.inr (.inr fh))))), (h0, .inr (4, [.ref e0, .int he, .int si])), (e0, .inl (cJ, 160, .inr (.inl fe))), (g0, .inr (4, [.ref e1, .int ge, .int gs])), (e1, .inl (cJ, 160, .inr (.inl fe1)))]) [5, 6, 0, 1, 2, 3, 4] (by decide) rfl⟩, hS.F ht⟩) hS.2.2 dX7_copy_154
                                · refine lv_if_ne (tgt := 155) hx hb dX7_copy_146 (by decide) (fun c_191 => ?_) (fun c_191 => ?_)
                                  · refine lv_aload hx hb dX7_copy_155 (lv_at hl 4 rfl) ?_
                                    refine va_get (D := D) (ci := 4) (v := .ref e0) (C := RX4) (T := TX4) (N := 3) hx hb hts hi_X7_copy_4 hown hK hP 3 rfl rfl 0 (by decide) (hts (.fieldLink RX7 90 "TheLiningsInIt$Shelf" "elements" "[J") (List.mem_of_getElem? (i := 2) rfl)) (fun _ h9 => h9) rfl dX7_copy_157 ?_
                                    refine lv_iload_n hx hb dX7_copy_160 rfl (lv_at hl 8 rfl) ?_
                                    refine lv_aload hx hb dX7_copy_161 (lv_at hl 3 rfl) ?_
                                    refine va_get (D := D) (ci := 4) (v := .ref e1) (C := RX4) (T := TX4) (N := 3) hx hb hts hi_X7_copy_4 hown hK hP 5 rfl rfl 0 (by decide) (hts (.fieldLink RX7 90 "TheLiningsInIt$Shelf" "elements" "[J") (List.mem_of_getElem? (i := 2) rfl)) (fun _ h9 => h9) rfl dX7_copy_163 ?_
                                    refine lv_iload hx hb dX7_copy_166 (lv_at hl 9 rfl) ?_
                                    refine lv_iload hx hb dX7_copy_168 (lv_at hl 10 rfl) ?_
                                    refine va_copyl hx hb (hml.trans hl.1.symm) hown (hts (.methodLink RX7 94 arraycopyName) (List.mem_of_getElem? (i := 3) rfl)) (hts _ (List.mem_of_getElem? (i := 4) rfl)) (hts _ (List.mem_of_getElem? (i := 5) rfl)) (hts _ (List.mem_of_getElem? (i := 6) rfl)) hK hP hD hS 4 6 1 1 rfl rfl rfl rfl rfl (fun h => by have h9 := zf_lt h rfl (show (0 : Int32).toInt = 0 from by decide); omega) (fun h => by have h9 := zf_lt h rfl (show (0 : Int32).toInt = 0 from by decide); omega) (fun h => by have h9 := zf_lt h rfl (show (0 : Int32).toInt = 0 from by decide); omega) (by (show (i : Int32).toInt.toNat + (n : Int32).toInt.toNat ≤ 160; omega)) (by (show (j : Int32).toInt.toNat + (n : Int32).toInt.toNat ≤ 160; omega)) (fun _ _ => rfl) (Nat.le_of_ble_eq_true rfl) (by decide) dX7_copy_170 (fun H locs hP hD hS => ?_)
                                    obtain ⟨g_192, hg_192⟩ : ∃ g : Nat → Int64, g = va_cpy fe fe1 i.toNatClampNeg j.toNatClampNeg n.toNatClampNeg := ⟨_, rfl⟩
                                    rw [← hg_192] at hP hD
                                    replace hP : va_P D vwCl [(x0, .inr (7, [.ref xs, .ref j0, .ref k0, .ref w0, .ref rd, .ref mv, .ref xr, .int im, .int lf])), (xr, .inl (cI, 8, .inl fr)), (xs, .inl (cS, 8, .inr (.inr (.inr (.inr fh))))), (h0, .inr (4, [.ref e0, .int he, .int si])), (e0, .inl (cJ, 160, .inr (.inl fe))), (g0, .inr (4, [.ref e1, .int ge, .int gs])), (e1, .inl (cJ, 160, .inr (.inl g_192)))] H := hP
                                    replace hD : va_D _ [(x0, .inr (7, [.ref xs, .ref j0, .ref k0, .ref w0, .ref rd, .ref mv, .ref xr, .int im, .int lf])), (xr, .inl (cI, 8, .inl fr)), (xs, .inl (cS, 8, .inr (.inr (.inr (.inr fh))))), (h0, .inr (4, [.ref e0, .int he, .int si])), (e0, .inl (cJ, 160, .inr (.inl fe))), (g0, .inr (4, [.ref e1, .int ge, .int gs])), (e1, .inl (cJ, 160, .inr (.inl g_192)))] := hD
                                    refine lv_iconst (v := 1) hx hb dX7_copy_173 (by decide) ?_
                                    exact W.iret (v := 1) hx hb hr (fun t ht hW => ⟨⟨1, (g_192, fr), rfl, trivial, by rw [ht]; exact hP.sub (ws' := [(x0, .inr (7, [.ref xs, .ref j0, .ref k0, .ref w0, .ref rd, .ref mv, .ref xr, .int im, .int lf])), (xr, .inl (cI, 8, .inl fr)), (xs, .inl (cS, 8, .inr (.inr (.inr (.inr fh))))), (h0, .inr (4, [.ref e0, .int he, .int si])), (e0, .inl (cJ, 160, .inr (.inl fe))), (g0, .inr (4, [.ref e1, .int ge, .int gs])), (e1, .inl (cJ, 160, .inr (.inl g_192)))]) [0, 1, 2, 3, 4, 5, 6] rfl, hD.sub (ws' := [(x0, .inr (7, [.ref xs, .ref j0, .ref k0, .ref w0, .ref rd, .ref mv, .ref xr, .int im, .int lf])), (xr, .inl (cI, 8, .inl fr)), (xs, .inl (cS, 8, .inr (.inr (.inr (.inr fh))))), (h0, .inr (4, [.ref e0, .int he, .int si])), (e0, .inl (cJ, 160, .inr (.inl fe))), (g0, .inr (4, [.ref e1, .int ge, .int gs])), (e1, .inl (cJ, 160, .inr (.inl g_192)))]) [0, 1, 2, 3, 4, 5, 6] (by decide) rfl⟩, hS.F ht⟩) hS.2.2 dX7_copy_174
                                  · exact absurd c_191 (by decide)
                          · have fc_135 : n.toInt < 0 := zf_nle c_135 (by decide) rfl
                            refine lv_aload_n hx hb dX7_copy_120 rfl (lv_at hl 5 rfl) ?_
                            refine lv_iconst (v := 4) hx hb dX7_copy_121 (by decide) ?_
                            skip
                            refine zw_V (As := [.int 4]) (rest := []) (wr := [(xs, .inl (cS, 8, .inr (.inr (.inr (.inr fh))))), (h0, .inr (4, [.ref e0, .int he, .int si])), (e0, .inl (cJ, 160, .inr (.inl fe))), (g0, .inr (4, [.ref e1, .int ge, .int gs])), (e1, .inl (cJ, 160, .inr (.inl fe1)))]) ⟨hx, hb, hml, hown, hts⟩ (c_X_refuse_4 l D cI cJ cZ cP cS po x0 xs j0 k0 w0 rd mv xr (im) (lf) fr hy0 hy1 hy2 hy3 H.size) (cwV 1 hts gX7_copy_X7_refuse rfl rfl rfl (by decide +kernel) ⟨Nat.le_of_ble_eq_true rfl, Nat.le_of_ble_eq_true rfl⟩) hK hN (hZ.kept hS) hP hD hS hA [0, 1] [2, 3, 4, 5, 6] rfl rfl (by decide) (by decide) (by decide) (va_recv hK hP (ci := 7) (q0 := 0) rfl rfl) rfl hl.1 rfl (Nat.le_of_ble_eq_true rfl) dX7_copy_122 ⟨Nat.le_of_ble_eq_true rfl, Nat.le_of_ble_eq_true rfl⟩ (fun r_193 u_194 H locs hr_193 hP hD hS => ?_)
                            obtain ⟨q_195, rfl⟩ : ∃ z, z = u_194 := ⟨_, rfl⟩
                            replace hP : va_P D vwCl [(xs, .inl (cS, 8, .inr (.inr (.inr (.inr fh))))), (h0, .inr (4, [.ref e0, .int he, .int si])), (e0, .inl (cJ, 160, .inr (.inl fe))), (g0, .inr (4, [.ref e1, .int ge, .int gs])), (e1, .inl (cJ, 160, .inr (.inl fe1))), (x0, .inr (7, [.ref xs, .ref j0, .ref k0, .ref w0, .ref rd, .ref mv, .ref xr, .int im, .int lf])), (xr, .inl (cI, 8, .inl q_195))] H := hP
                            replace hD : va_D _ [(xs, .inl (cS, 8, .inr (.inr (.inr (.inr fh))))), (h0, .inr (4, [.ref e0, .int he, .int si])), (e0, .inl (cJ, 160, .inr (.inl fe))), (g0, .inr (4, [.ref e1, .int ge, .int gs])), (e1, .inl (cJ, 160, .inr (.inl fe1))), (x0, .inr (7, [.ref xs, .ref j0, .ref k0, .ref w0, .ref rd, .ref mv, .ref xr, .int im, .int lf])), (xr, .inl (cI, 8, .inl q_195))] := hD
                            obtain rfl := hr_193
                            exact W.iret (v := (-4)) hx hb hr (fun t ht hW => ⟨⟨(-4), (fe1, q_195), rfl, trivial, by rw [ht]; exact hP.sub (ws' := [(x0, .inr (7, [.ref xs, .ref j0, .ref k0, .ref w0, .ref rd, .ref mv, .ref xr, .int im, .int lf])), (xr, .inl (cI, 8, .inl q_195)), (xs, .inl (cS, 8, .inr (.inr (.inr (.inr fh))))), (h0, .inr (4, [.ref e0, .int he, .int si])), (e0, .inl (cJ, 160, .inr (.inl fe))), (g0, .inr (4, [.ref e1, .int ge, .int gs])), (e1, .inl (cJ, 160, .inr (.inl fe1)))]) [5, 6, 0, 1, 2, 3, 4] rfl, hD.sub (ws' := [(x0, .inr (7, [.ref xs, .ref j0, .ref k0, .ref w0, .ref rd, .ref mv, .ref xr, .int im, .int lf])), (xr, .inl (cI, 8, .inl q_195)), (xs, .inl (cS, 8, .inr (.inr (.inr (.inr fh))))), (h0, .inr (4, [.ref e0, .int he, .int si])), (e0, .inl (cJ, 160, .inr (.inl fe))), (g0, .inr (4, [.ref e1, .int ge, .int gs])), (e1, .inl (cJ, 160, .inr (.inl fe1)))]) [5, 6, 0, 1, 2, 3, 4] (by decide) rfl⟩, hS.F ht⟩) hS.2.2 dX7_copy_125
                        · exact absurd c_134 (by decide)
                    · exact absurd c_132 (by decide)
              · have fc_129 : he.toInt ≠ ge.toInt := zf_ne c_129 rfl rfl
                refine lv_iconst (v := 1) hx hb dX7_copy_67 (by decide) ?_
                refine lv_goto (tgt := 72) hx hb dX7_copy_68 (by decide) ?_
                refine lv_istore (lv' := [(10, .int 1), (9, .int 0), (8, .int 0), (7, .ref g0), (6, .ref h0), (0, .ref x0), (1, .int s_), (2, .int q_), (3, .int i), (4, .int j), (5, .int n)]) hx hb dX7_copy_72 hl (by decide) rfl (fun ls hl => ?_)
                refine lv_iload hx hb dX7_copy_74 (lv_at hl 2 rfl) ?_
                refine lv_iconst (v := 2) hx hb dX7_copy_76 (by decide) ?_
                refine lv_icmp_eq (tgt := 91) hx hb dX7_copy_77 (by decide) (fun c_196 => ?_) (fun c_196 => ?_)
                · exact absurd c_196 (by decide)
                · refine lv_iload hx hb dX7_copy_80 (lv_at hl 1 rfl) ?_
                  refine lv_iconst (v := 2) hx hb dX7_copy_82 (by decide) ?_
                  refine lv_icmp_eq (tgt := 91) hx hb dX7_copy_83 (by decide) (fun c_197 => ?_) (fun c_197 => ?_)
                  · exact absurd c_197 (by decide)
                  · refine lv_iload hx hb dX7_copy_86 (lv_at hl 0 rfl) ?_
                    refine lv_if_eq (tgt := 97) hx hb dX7_copy_88 (by decide) (fun c_198 => ?_) (fun c_198 => ?_)
                    · exact absurd c_198 (by decide)
                    · refine lv_aload_n hx hb dX7_copy_91 rfl (lv_at hl 5 rfl) ?_
                      refine lv_iconst (v := 2) hx hb dX7_copy_92 (by decide) ?_
                      skip
                      refine zw_V (As := [.int 2]) (rest := []) (wr := [(xs, .inl (cS, 8, .inr (.inr (.inr (.inr fh))))), (h0, .inr (4, [.ref e0, .int he, .int si])), (e0, .inl (cJ, 160, .inr (.inl fe))), (g0, .inr (4, [.ref e1, .int ge, .int gs])), (e1, .inl (cJ, 160, .inr (.inl fe1)))]) ⟨hx, hb, hml, hown, hts⟩ (c_X_refuse_2 l D cI cJ cZ cP cS po x0 xs j0 k0 w0 rd mv xr (im) (lf) fr hy0 hy1 hy2 hy3 H.size) (cwV 1 hts gX7_copy_X7_refuse rfl rfl rfl (by decide +kernel) ⟨Nat.le_of_ble_eq_true rfl, Nat.le_of_ble_eq_true rfl⟩) hK hN (hZ.kept hS) hP hD hS hA [0, 1] [2, 3, 4, 5, 6] rfl rfl (by decide) (by decide) (by decide) (va_recv hK hP (ci := 7) (q0 := 0) rfl rfl) rfl hl.1 rfl (Nat.le_of_ble_eq_true rfl) dX7_copy_93 ⟨Nat.le_of_ble_eq_true rfl, Nat.le_of_ble_eq_true rfl⟩ (fun r_199 u_200 H locs hr_199 hP hD hS => ?_)
                      obtain ⟨q_201, rfl⟩ : ∃ z, z = u_200 := ⟨_, rfl⟩
                      replace hP : va_P D vwCl [(xs, .inl (cS, 8, .inr (.inr (.inr (.inr fh))))), (h0, .inr (4, [.ref e0, .int he, .int si])), (e0, .inl (cJ, 160, .inr (.inl fe))), (g0, .inr (4, [.ref e1, .int ge, .int gs])), (e1, .inl (cJ, 160, .inr (.inl fe1))), (x0, .inr (7, [.ref xs, .ref j0, .ref k0, .ref w0, .ref rd, .ref mv, .ref xr, .int im, .int lf])), (xr, .inl (cI, 8, .inl q_201))] H := hP
                      replace hD : va_D _ [(xs, .inl (cS, 8, .inr (.inr (.inr (.inr fh))))), (h0, .inr (4, [.ref e0, .int he, .int si])), (e0, .inl (cJ, 160, .inr (.inl fe))), (g0, .inr (4, [.ref e1, .int ge, .int gs])), (e1, .inl (cJ, 160, .inr (.inl fe1))), (x0, .inr (7, [.ref xs, .ref j0, .ref k0, .ref w0, .ref rd, .ref mv, .ref xr, .int im, .int lf])), (xr, .inl (cI, 8, .inl q_201))] := hD
                      obtain rfl := hr_199
                      exact W.iret (v := (-2)) hx hb hr (fun t ht hW => ⟨⟨(-2), (fe1, q_201), rfl, trivial, by rw [ht]; exact hP.sub (ws' := [(x0, .inr (7, [.ref xs, .ref j0, .ref k0, .ref w0, .ref rd, .ref mv, .ref xr, .int im, .int lf])), (xr, .inl (cI, 8, .inl q_201)), (xs, .inl (cS, 8, .inr (.inr (.inr (.inr fh))))), (h0, .inr (4, [.ref e0, .int he, .int si])), (e0, .inl (cJ, 160, .inr (.inl fe))), (g0, .inr (4, [.ref e1, .int ge, .int gs])), (e1, .inl (cJ, 160, .inr (.inl fe1)))]) [5, 6, 0, 1, 2, 3, 4] rfl, hD.sub (ws' := [(x0, .inr (7, [.ref xs, .ref j0, .ref k0, .ref w0, .ref rd, .ref mv, .ref xr, .int im, .int lf])), (xr, .inl (cI, 8, .inl q_201)), (xs, .inl (cS, 8, .inr (.inr (.inr (.inr fh))))), (h0, .inr (4, [.ref e0, .int he, .int si])), (e0, .inl (cJ, 160, .inr (.inl fe))), (g0, .inr (4, [.ref e1, .int ge, .int gs])), (e1, .inl (cJ, 160, .inr (.inl fe1)))]) [5, 6, 0, 1, 2, 3, 4] (by decide) rfl⟩, hS.F ht⟩) hS.2.2 dX7_copy_96
set_option maxHeartbeats 4000000 in
set_option maxRecDepth 100000 in
theorem c_X_copy_same (l : Launch) (D : va_G) (cI cJ cZ cP cS : ClassId) (po : zPool) (x0 xs j0 k0 w0 rd mv xr : Nat) (im lf : Int32) (fr : Nat → Int32) (fh : Nat → Option Nat) (s_ : Int32) (h0 e0 : Nat) (he si : Int32) (fe : Nat → Int64) (q_ : Int32) (i j n : Int32) (hy0 : 0 ≤ im.toInt) (hy1 : im.toInt ≤ 1) (hy2 : (-1) ≤ lf.toInt) (hy3 : lf.toInt ≤ 160) (hy4 : (-1) ≤ he.toInt) (hy5 : he.toInt ≤ 103) (hy6 : 0 ≤ si.toInt) (hy7 : si.toInt ≤ 160) (hfs : 0 ≤ s_.toInt → s_.toInt ≤ 7 → fh s_.toNatClampNeg = some h0) (hfq : 0 ≤ q_.toInt → q_.toInt ≤ 7 → fh q_.toNatClampNeg = some h0) (hpz : Nat) : Met l yX7_copy wsX7_copy ({ frames := 2, cells := 0, slots := 0, locals := 100 }) (va_Pc [.ref x0, .int s_, .int q_, .int i, .int j, .int n] (zW D (zKT cI cJ cZ cP cS) po [(x0, .inr (7, [.ref xs, .ref j0, .ref k0, .ref w0, .ref rd, .ref mv, .ref xr, .int im, .int lf])), (xr, .inl (cI, 8, .inl fr)), (xs, .inl (cS, 8, .inr (.inr (.inr (.inr fh))))), (h0, .inr (4, [.ref e0, .int he, .int si])), (e0, .inl (cJ, 160, .inr (.inl fe)))] hpz)) (va_Qi (fun (r : Int32) (u : (Nat → Int64) × (Nat → Int32)) => True) (zB D [(x0, .inr (7, [.ref xs, .ref j0, .ref k0, .ref w0, .ref rd, .ref mv, .ref xr, .int im, .int lf])), (xr, .inl (cI, 8, .inl fr)), (xs, .inl (cS, 8, .inr (.inr (.inr (.inr fh))))), (h0, .inr (4, [.ref e0, .int he, .int si])), (e0, .inl (cJ, 160, .inr (.inl fe)))] hpz (fun (u : (Nat → Int64) × (Nat → Int32)) => [(x0, .inr (7, [.ref xs, .ref j0, .ref k0, .ref w0, .ref rd, .ref mv, .ref xr, .int im, .int lf])), (xr, .inl (cI, 8, .inl u.2)), (xs, .inl (cS, 8, .inr (.inr (.inr (.inr fh))))), (h0, .inr (4, [.ref e0, .int he, .int si])), (e0, .inl (cJ, 160, .inr (.inl u.1)))])) (va_A [(x0, .inr (7, [.ref xs, .ref j0, .ref k0, .ref w0, .ref rd, .ref mv, .ref xr, .int im, .int lf])), (xr, .inl (cI, 8, .inl fr)), (xs, .inl (cS, 8, .inr (.inr (.inr (.inr fh))))), (h0, .inr (4, [.ref e0, .int he, .int si])), (e0, .inl (cJ, 160, .inr (.inl fe)))] hpz)) 0 0 (va_A [(x0, .inr (7, [.ref xs, .ref j0, .ref k0, .ref w0, .ref rd, .ref mv, .ref xr, .int im, .int lf])), (xr, .inl (cI, 8, .inl fr)), (xs, .inl (cS, 8, .inr (.inr (.inr (.inr fh))))), (h0, .inr (4, [.ref e0, .int he, .int si])), (e0, .inl (cJ, 160, .inr (.inl fe)))] hpz) := by
  refine Met.ofW (cc := cX7_copy) (maxL := 11) (ret := (some .int)) (by decide) rfl ?_
  intro p e s m args below meth c s₁ B hml hv
  obtain ⟨rfl, hsz, hP, hK, hD0, hN, hZ⟩ := hv
  have hx := B.exec
  have hb := B.bytes
  have hr := B.returns
  have hts := atoms_spec (ws := wsX7_copy) B.pre
  have hown : s.vm.findClass RX7 = some m.cls := findClass_of_methodNamed B.named
  have hlocks := B.notSynchronized
  subst hsz
  have hD := hD0.self (sz := s.heap.size)
  have hA : ∀ q : Nat, s.heap.size ≤ q → va_A [(x0, .inr (7, [.ref xs, .ref j0, .ref k0, .ref w0, .ref rd, .ref mv, .ref xr, .int im, .int lf])), (xr, .inl (cI, 8, .inl fr)), (xs, .inl (cS, 8, .inr (.inr (.inr (.inr fh))))), (h0, .inr (4, [.ref e0, .int he, .int si])), (e0, .inl (cJ, 160, .inr (.inl fe)))] s.heap.size q := fun q h => Or.inr h
  have hS : va_S (va_A [(x0, .inr (7, [.ref xs, .ref j0, .ref k0, .ref w0, .ref rd, .ref mv, .ref xr, .int im, .int lf])), (xr, .inl (cI, 8, .inl fr)), (xs, .inl (cS, 8, .inr (.inr (.inr (.inr fh))))), (h0, .inr (4, [.ref e0, .int he, .int si])), (e0, .inl (cJ, 160, .inr (.inl fe)))] s.heap.size) s.heap s.heap [] := va_S.rf
  replace hP : va_P D vwCl _ s.heap := hP
  have hl := lv_entry ([.ref x0, .int s_, .int q_, .int i, .int j, .int n]) (n := 11) (Nat.le_of_ble_eq_true rfl)
  rw [lg_entry_eq]
  generalize (lg_sl ([.ref x0, .int s_, .int q_, .int i, .int j, .int n]) ++ List.replicate (11 - (lg_sl ([.ref x0, .int s_, .int q_, .int i, .int j, .int n])).length) Slot.unset).toArray = ls at hl ⊢
  replace hl : lv_has ls 11 [(0, .ref x0), (1, .int s_), (2, .int q_), (3, .int i), (4, .int j), (5, .int n)] := hl
  refine zw_start (fun H locs hH hL => ?_)
  replace hP : va_P D vwCl [(x0, .inr (7, [.ref xs, .ref j0, .ref k0, .ref w0, .ref rd, .ref mv, .ref xr, .int im, .int lf])), (xr, .inl (cI, 8, .inl fr)), (xs, .inl (cS, 8, .inr (.inr (.inr (.inr fh))))), (h0, .inr (4, [.ref e0, .int he, .int si])), (e0, .inl (cJ, 160, .inr (.inl fe)))] H := by rw [hH]; exact hP
  replace hS : va_S (va_A [(x0, .inr (7, [.ref xs, .ref j0, .ref k0, .ref w0, .ref rd, .ref mv, .ref xr, .int im, .int lf])), (xr, .inl (cI, 8, .inl fr)), (xs, .inl (cS, 8, .inr (.inr (.inr (.inr fh))))), (h0, .inr (4, [.ref e0, .int he, .int si])), (e0, .inl (cJ, 160, .inr (.inl fe)))] s.heap.size) s.heap H locs := by rw [hH, hL]; exact hS
  clear hH hL
  refine lv_aload_n hx hb dX7_copy_0 rfl (lv_at hl 0 rfl) ?_
  refine lv_iload_n hx hb dX7_copy_1 rfl (lv_at hl 1 rfl) ?_
  refine zc_Vq (As := [.int s_]) (rest := []) ⟨hx, hb, hml, hown, hts⟩ (c_X_shelfAt l D cI cJ cZ cP cS po x0 xs j0 k0 w0 rd mv xr (im) (lf) ((fun _ => 0)) fh (s_) hy0 hy1 hy2 hy3) (cwV 1 hts gX7_copy_X7_shelfAt rfl rfl rfl (by decide +kernel) ⟨Nat.le_of_ble_eq_true rfl, Nat.le_of_ble_eq_true rfl⟩) hK hN (hZ.kept hS) hP (hP.sub [0, 2] rfl) (va_recv hK hP (ci := 7) (q0 := 0) rfl rfl) rfl hl.1 rfl (Nat.le_of_ble_eq_true rfl) dX7_copy_2 ⟨Nat.le_of_ble_eq_true rfl, Nat.le_of_ble_eq_true rfl⟩ (fun r_1 hr_1 => ?_)
  rcases hr_1 with ⟨rfl, g_2⟩ | ⟨rfl, g_3, g_4⟩ | ⟨rfl, g_5, g_6⟩
  · refine lv_astoreN (lv' := [(6, .null), (0, .ref x0), (1, .int s_), (2, .int q_), (3, .int i), (4, .int j), (5, .int n)]) hx hb dX7_copy_5 hl (by decide) rfl (fun ls hl => ?_)
    refine lv_aload_n hx hb dX7_copy_7 rfl (lv_at hl 1 rfl) ?_
    refine lv_iload_n hx hb dX7_copy_8 rfl (lv_at hl 3 rfl) ?_
    refine zc_Vq (As := [.int q_]) (rest := []) ⟨hx, hb, hml, hown, hts⟩ (c_X_shelfAt l D cI cJ cZ cP cS po x0 xs j0 k0 w0 rd mv xr (im) (lf) ((fun _ => 0)) fh (q_) hy0 hy1 hy2 hy3) (cwV 1 hts gX7_copy_X7_shelfAt rfl rfl rfl (by decide +kernel) ⟨Nat.le_of_ble_eq_true rfl, Nat.le_of_ble_eq_true rfl⟩) hK hN (hZ.kept hS) hP (hP.sub [0, 2] rfl) (va_recv hK hP (ci := 7) (q0 := 0) rfl rfl) rfl hl.1 rfl (Nat.le_of_ble_eq_true rfl) dX7_copy_9 ⟨Nat.le_of_ble_eq_true rfl, Nat.le_of_ble_eq_true rfl⟩ (fun r_7 hr_7 => ?_)
    rcases hr_7 with ⟨rfl, g_8⟩ | ⟨rfl, g_9, g_10⟩ | ⟨rfl, g_11, g_12⟩
    · refine lv_astoreN (lv' := [(7, .null), (6, .null), (0, .ref x0), (1, .int s_), (2, .int q_), (3, .int i), (4, .int j), (5, .int n)]) hx hb dX7_copy_12 hl (by decide) rfl (fun ls hl => ?_)
      refine lv_aloadN hx hb dX7_copy_14 (lv_at hl 1 rfl) ?_
      refine lv_ifnullN (tgt := 24) hx hb dX7_copy_16 (by decide) ?_
      refine lv_aload_n hx hb dX7_copy_24 rfl (lv_at hl 2 rfl) ?_
      refine lv_iconst (v := 1) hx hb dX7_copy_25 (by decide) ?_
      skip
      refine zw_V (As := [.int 1]) (rest := []) (wr := [(xs, .inl (cS, 8, .inr (.inr (.inr (.inr fh))))), (h0, .inr (4, [.ref e0, .int he, .int si])), (e0, .inl (cJ, 160, .inr (.inl fe)))]) ⟨hx, hb, hml, hown, hts⟩ (c_X_refuse_1 l D cI cJ cZ cP cS po x0 xs j0 k0 w0 rd mv xr (im) (lf) fr hy0 hy1 hy2 hy3 H.size) (cwV 1 hts gX7_copy_X7_refuse rfl rfl rfl (by decide +kernel) ⟨Nat.le_of_ble_eq_true rfl, Nat.le_of_ble_eq_true rfl⟩) hK hN (hZ.kept hS) hP hD hS hA [0, 1] [2, 3, 4] rfl rfl (by decide) (by decide) (by decide) (va_recv hK hP (ci := 7) (q0 := 0) rfl rfl) rfl hl.1 rfl (Nat.le_of_ble_eq_true rfl) dX7_copy_26 ⟨Nat.le_of_ble_eq_true rfl, Nat.le_of_ble_eq_true rfl⟩ (fun r_13 u_14 H locs hr_13 hP hD hS => ?_)
      obtain ⟨q_15, rfl⟩ : ∃ z, z = u_14 := ⟨_, rfl⟩
      replace hP : va_P D vwCl [(xs, .inl (cS, 8, .inr (.inr (.inr (.inr fh))))), (h0, .inr (4, [.ref e0, .int he, .int si])), (e0, .inl (cJ, 160, .inr (.inl fe))), (x0, .inr (7, [.ref xs, .ref j0, .ref k0, .ref w0, .ref rd, .ref mv, .ref xr, .int im, .int lf])), (xr, .inl (cI, 8, .inl q_15))] H := hP
      replace hD : va_D _ [(xs, .inl (cS, 8, .inr (.inr (.inr (.inr fh))))), (h0, .inr (4, [.ref e0, .int he, .int si])), (e0, .inl (cJ, 160, .inr (.inl fe))), (x0, .inr (7, [.ref xs, .ref j0, .ref k0, .ref w0, .ref rd, .ref mv, .ref xr, .int im, .int lf])), (xr, .inl (cI, 8, .inl q_15))] := hD
      obtain rfl := hr_13
      exact W.iret (v := (-1)) hx hb hr (fun t ht hW => ⟨⟨(-1), (fe, q_15), rfl, trivial, by rw [ht]; exact hP.sub (ws' := [(x0, .inr (7, [.ref xs, .ref j0, .ref k0, .ref w0, .ref rd, .ref mv, .ref xr, .int im, .int lf])), (xr, .inl (cI, 8, .inl q_15)), (xs, .inl (cS, 8, .inr (.inr (.inr (.inr fh))))), (h0, .inr (4, [.ref e0, .int he, .int si])), (e0, .inl (cJ, 160, .inr (.inl fe)))]) [3, 4, 0, 1, 2] rfl, hD.sub (ws' := [(x0, .inr (7, [.ref xs, .ref j0, .ref k0, .ref w0, .ref rd, .ref mv, .ref xr, .int im, .int lf])), (xr, .inl (cI, 8, .inl q_15)), (xs, .inl (cS, 8, .inr (.inr (.inr (.inr fh))))), (h0, .inr (4, [.ref e0, .int he, .int si])), (e0, .inl (cJ, 160, .inr (.inl fe)))]) [3, 4, 0, 1, 2] (by decide) rfl⟩, hS.F ht⟩) hS.2.2 dX7_copy_29
    · refine lv_astoreN (lv' := [(7, .null), (6, .null), (0, .ref x0), (1, .int s_), (2, .int q_), (3, .int i), (4, .int j), (5, .int n)]) hx hb dX7_copy_12 hl (by decide) rfl (fun ls hl => ?_)
      refine lv_aloadN hx hb dX7_copy_14 (lv_at hl 1 rfl) ?_
      refine lv_ifnullN (tgt := 24) hx hb dX7_copy_16 (by decide) ?_
      refine lv_aload_n hx hb dX7_copy_24 rfl (lv_at hl 2 rfl) ?_
      refine lv_iconst (v := 1) hx hb dX7_copy_25 (by decide) ?_
      skip
      refine zw_V (As := [.int 1]) (rest := []) (wr := [(xs, .inl (cS, 8, .inr (.inr (.inr (.inr fh))))), (h0, .inr (4, [.ref e0, .int he, .int si])), (e0, .inl (cJ, 160, .inr (.inl fe)))]) ⟨hx, hb, hml, hown, hts⟩ (c_X_refuse_1 l D cI cJ cZ cP cS po x0 xs j0 k0 w0 rd mv xr (im) (lf) fr hy0 hy1 hy2 hy3 H.size) (cwV 1 hts gX7_copy_X7_refuse rfl rfl rfl (by decide +kernel) ⟨Nat.le_of_ble_eq_true rfl, Nat.le_of_ble_eq_true rfl⟩) hK hN (hZ.kept hS) hP hD hS hA [0, 1] [2, 3, 4] rfl rfl (by decide) (by decide) (by decide) (va_recv hK hP (ci := 7) (q0 := 0) rfl rfl) rfl hl.1 rfl (Nat.le_of_ble_eq_true rfl) dX7_copy_26 ⟨Nat.le_of_ble_eq_true rfl, Nat.le_of_ble_eq_true rfl⟩ (fun r_16 u_17 H locs hr_16 hP hD hS => ?_)
      obtain ⟨q_18, rfl⟩ : ∃ z, z = u_17 := ⟨_, rfl⟩
      replace hP : va_P D vwCl [(xs, .inl (cS, 8, .inr (.inr (.inr (.inr fh))))), (h0, .inr (4, [.ref e0, .int he, .int si])), (e0, .inl (cJ, 160, .inr (.inl fe))), (x0, .inr (7, [.ref xs, .ref j0, .ref k0, .ref w0, .ref rd, .ref mv, .ref xr, .int im, .int lf])), (xr, .inl (cI, 8, .inl q_18))] H := hP
      replace hD : va_D _ [(xs, .inl (cS, 8, .inr (.inr (.inr (.inr fh))))), (h0, .inr (4, [.ref e0, .int he, .int si])), (e0, .inl (cJ, 160, .inr (.inl fe))), (x0, .inr (7, [.ref xs, .ref j0, .ref k0, .ref w0, .ref rd, .ref mv, .ref xr, .int im, .int lf])), (xr, .inl (cI, 8, .inl q_18))] := hD
      obtain rfl := hr_16
      exact W.iret (v := (-1)) hx hb hr (fun t ht hW => ⟨⟨(-1), (fe, q_18), rfl, trivial, by rw [ht]; exact hP.sub (ws' := [(x0, .inr (7, [.ref xs, .ref j0, .ref k0, .ref w0, .ref rd, .ref mv, .ref xr, .int im, .int lf])), (xr, .inl (cI, 8, .inl q_18)), (xs, .inl (cS, 8, .inr (.inr (.inr (.inr fh))))), (h0, .inr (4, [.ref e0, .int he, .int si])), (e0, .inl (cJ, 160, .inr (.inl fe)))]) [3, 4, 0, 1, 2] rfl, hD.sub (ws' := [(x0, .inr (7, [.ref xs, .ref j0, .ref k0, .ref w0, .ref rd, .ref mv, .ref xr, .int im, .int lf])), (xr, .inl (cI, 8, .inl q_18)), (xs, .inl (cS, 8, .inr (.inr (.inr (.inr fh))))), (h0, .inr (4, [.ref e0, .int he, .int si])), (e0, .inl (cJ, 160, .inr (.inl fe)))]) [3, 4, 0, 1, 2] (by decide) rfl⟩, hS.F ht⟩) hS.2.2 dX7_copy_29
    · rw [hfq (by omega) (by omega)]
      refine W.eq (g2 := F0 m 12 ls (.ref h0 :: [])) rfl ?_
      refine lv_astore (lv' := [(7, .ref h0), (6, .null), (0, .ref x0), (1, .int s_), (2, .int q_), (3, .int i), (4, .int j), (5, .int n)]) hx hb dX7_copy_12 hl (by decide) rfl (fun ls hl => ?_)
      refine lv_aloadN hx hb dX7_copy_14 (lv_at hl 1 rfl) ?_
      refine lv_ifnullN (tgt := 24) hx hb dX7_copy_16 (by decide) ?_
      refine lv_aload_n hx hb dX7_copy_24 rfl (lv_at hl 2 rfl) ?_
      refine lv_iconst (v := 1) hx hb dX7_copy_25 (by decide) ?_
      skip
      refine zw_V (As := [.int 1]) (rest := []) (wr := [(xs, .inl (cS, 8, .inr (.inr (.inr (.inr fh))))), (h0, .inr (4, [.ref e0, .int he, .int si])), (e0, .inl (cJ, 160, .inr (.inl fe)))]) ⟨hx, hb, hml, hown, hts⟩ (c_X_refuse_1 l D cI cJ cZ cP cS po x0 xs j0 k0 w0 rd mv xr (im) (lf) fr hy0 hy1 hy2 hy3 H.size) (cwV 1 hts gX7_copy_X7_refuse rfl rfl rfl (by decide +kernel) ⟨Nat.le_of_ble_eq_true rfl, Nat.le_of_ble_eq_true rfl⟩) hK hN (hZ.kept hS) hP hD hS hA [0, 1] [2, 3, 4] rfl rfl (by decide) (by decide) (by decide) (va_recv hK hP (ci := 7) (q0 := 0) rfl rfl) rfl hl.1 rfl (Nat.le_of_ble_eq_true rfl) dX7_copy_26 ⟨Nat.le_of_ble_eq_true rfl, Nat.le_of_ble_eq_true rfl⟩ (fun r_19 u_20 H locs hr_19 hP hD hS => ?_)
      obtain ⟨q_21, rfl⟩ : ∃ z, z = u_20 := ⟨_, rfl⟩
      replace hP : va_P D vwCl [(xs, .inl (cS, 8, .inr (.inr (.inr (.inr fh))))), (h0, .inr (4, [.ref e0, .int he, .int si])), (e0, .inl (cJ, 160, .inr (.inl fe))), (x0, .inr (7, [.ref xs, .ref j0, .ref k0, .ref w0, .ref rd, .ref mv, .ref xr, .int im, .int lf])), (xr, .inl (cI, 8, .inl q_21))] H := hP
      replace hD : va_D _ [(xs, .inl (cS, 8, .inr (.inr (.inr (.inr fh))))), (h0, .inr (4, [.ref e0, .int he, .int si])), (e0, .inl (cJ, 160, .inr (.inl fe))), (x0, .inr (7, [.ref xs, .ref j0, .ref k0, .ref w0, .ref rd, .ref mv, .ref xr, .int im, .int lf])), (xr, .inl (cI, 8, .inl q_21))] := hD
      obtain rfl := hr_19
      exact W.iret (v := (-1)) hx hb hr (fun t ht hW => ⟨⟨(-1), (fe, q_21), rfl, trivial, by rw [ht]; exact hP.sub (ws' := [(x0, .inr (7, [.ref xs, .ref j0, .ref k0, .ref w0, .ref rd, .ref mv, .ref xr, .int im, .int lf])), (xr, .inl (cI, 8, .inl q_21)), (xs, .inl (cS, 8, .inr (.inr (.inr (.inr fh))))), (h0, .inr (4, [.ref e0, .int he, .int si])), (e0, .inl (cJ, 160, .inr (.inl fe)))]) [3, 4, 0, 1, 2] rfl, hD.sub (ws' := [(x0, .inr (7, [.ref xs, .ref j0, .ref k0, .ref w0, .ref rd, .ref mv, .ref xr, .int im, .int lf])), (xr, .inl (cI, 8, .inl q_21)), (xs, .inl (cS, 8, .inr (.inr (.inr (.inr fh))))), (h0, .inr (4, [.ref e0, .int he, .int si])), (e0, .inl (cJ, 160, .inr (.inl fe)))]) [3, 4, 0, 1, 2] (by decide) rfl⟩, hS.F ht⟩) hS.2.2 dX7_copy_29
  · refine lv_astoreN (lv' := [(6, .null), (0, .ref x0), (1, .int s_), (2, .int q_), (3, .int i), (4, .int j), (5, .int n)]) hx hb dX7_copy_5 hl (by decide) rfl (fun ls hl => ?_)
    refine lv_aload_n hx hb dX7_copy_7 rfl (lv_at hl 1 rfl) ?_
    refine lv_iload_n hx hb dX7_copy_8 rfl (lv_at hl 3 rfl) ?_
    refine zc_Vq (As := [.int q_]) (rest := []) ⟨hx, hb, hml, hown, hts⟩ (c_X_shelfAt l D cI cJ cZ cP cS po x0 xs j0 k0 w0 rd mv xr (im) (lf) ((fun _ => 0)) fh (q_) hy0 hy1 hy2 hy3) (cwV 1 hts gX7_copy_X7_shelfAt rfl rfl rfl (by decide +kernel) ⟨Nat.le_of_ble_eq_true rfl, Nat.le_of_ble_eq_true rfl⟩) hK hN (hZ.kept hS) hP (hP.sub [0, 2] rfl) (va_recv hK hP (ci := 7) (q0 := 0) rfl rfl) rfl hl.1 rfl (Nat.le_of_ble_eq_true rfl) dX7_copy_9 ⟨Nat.le_of_ble_eq_true rfl, Nat.le_of_ble_eq_true rfl⟩ (fun r_22 hr_22 => ?_)
    rcases hr_22 with ⟨rfl, g_23⟩ | ⟨rfl, g_24, g_25⟩ | ⟨rfl, g_26, g_27⟩
    · refine lv_astoreN (lv' := [(7, .null), (6, .null), (0, .ref x0), (1, .int s_), (2, .int q_), (3, .int i), (4, .int j), (5, .int n)]) hx hb dX7_copy_12 hl (by decide) rfl (fun ls hl => ?_)
      refine lv_aloadN hx hb dX7_copy_14 (lv_at hl 1 rfl) ?_
      refine lv_ifnullN (tgt := 24) hx hb dX7_copy_16 (by decide) ?_
      refine lv_aload_n hx hb dX7_copy_24 rfl (lv_at hl 2 rfl) ?_
      refine lv_iconst (v := 1) hx hb dX7_copy_25 (by decide) ?_
      skip
      refine zw_V (As := [.int 1]) (rest := []) (wr := [(xs, .inl (cS, 8, .inr (.inr (.inr (.inr fh))))), (h0, .inr (4, [.ref e0, .int he, .int si])), (e0, .inl (cJ, 160, .inr (.inl fe)))]) ⟨hx, hb, hml, hown, hts⟩ (c_X_refuse_1 l D cI cJ cZ cP cS po x0 xs j0 k0 w0 rd mv xr (im) (lf) fr hy0 hy1 hy2 hy3 H.size) (cwV 1 hts gX7_copy_X7_refuse rfl rfl rfl (by decide +kernel) ⟨Nat.le_of_ble_eq_true rfl, Nat.le_of_ble_eq_true rfl⟩) hK hN (hZ.kept hS) hP hD hS hA [0, 1] [2, 3, 4] rfl rfl (by decide) (by decide) (by decide) (va_recv hK hP (ci := 7) (q0 := 0) rfl rfl) rfl hl.1 rfl (Nat.le_of_ble_eq_true rfl) dX7_copy_26 ⟨Nat.le_of_ble_eq_true rfl, Nat.le_of_ble_eq_true rfl⟩ (fun r_28 u_29 H locs hr_28 hP hD hS => ?_)
      obtain ⟨q_30, rfl⟩ : ∃ z, z = u_29 := ⟨_, rfl⟩
      replace hP : va_P D vwCl [(xs, .inl (cS, 8, .inr (.inr (.inr (.inr fh))))), (h0, .inr (4, [.ref e0, .int he, .int si])), (e0, .inl (cJ, 160, .inr (.inl fe))), (x0, .inr (7, [.ref xs, .ref j0, .ref k0, .ref w0, .ref rd, .ref mv, .ref xr, .int im, .int lf])), (xr, .inl (cI, 8, .inl q_30))] H := hP
      replace hD : va_D _ [(xs, .inl (cS, 8, .inr (.inr (.inr (.inr fh))))), (h0, .inr (4, [.ref e0, .int he, .int si])), (e0, .inl (cJ, 160, .inr (.inl fe))), (x0, .inr (7, [.ref xs, .ref j0, .ref k0, .ref w0, .ref rd, .ref mv, .ref xr, .int im, .int lf])), (xr, .inl (cI, 8, .inl q_30))] := hD
      obtain rfl := hr_28
      exact W.iret (v := (-1)) hx hb hr (fun t ht hW => ⟨⟨(-1), (fe, q_30), rfl, trivial, by rw [ht]; exact hP.sub (ws' := [(x0, .inr (7, [.ref xs, .ref j0, .ref k0, .ref w0, .ref rd, .ref mv, .ref xr, .int im, .int lf])), (xr, .inl (cI, 8, .inl q_30)), (xs, .inl (cS, 8, .inr (.inr (.inr (.inr fh))))), (h0, .inr (4, [.ref e0, .int he, .int si])), (e0, .inl (cJ, 160, .inr (.inl fe)))]) [3, 4, 0, 1, 2] rfl, hD.sub (ws' := [(x0, .inr (7, [.ref xs, .ref j0, .ref k0, .ref w0, .ref rd, .ref mv, .ref xr, .int im, .int lf])), (xr, .inl (cI, 8, .inl q_30)), (xs, .inl (cS, 8, .inr (.inr (.inr (.inr fh))))), (h0, .inr (4, [.ref e0, .int he, .int si])), (e0, .inl (cJ, 160, .inr (.inl fe)))]) [3, 4, 0, 1, 2] (by decide) rfl⟩, hS.F ht⟩) hS.2.2 dX7_copy_29
    · refine lv_astoreN (lv' := [(7, .null), (6, .null), (0, .ref x0), (1, .int s_), (2, .int q_), (3, .int i), (4, .int j), (5, .int n)]) hx hb dX7_copy_12 hl (by decide) rfl (fun ls hl => ?_)
      refine lv_aloadN hx hb dX7_copy_14 (lv_at hl 1 rfl) ?_
      refine lv_ifnullN (tgt := 24) hx hb dX7_copy_16 (by decide) ?_
      refine lv_aload_n hx hb dX7_copy_24 rfl (lv_at hl 2 rfl) ?_
      refine lv_iconst (v := 1) hx hb dX7_copy_25 (by decide) ?_
      skip
      refine zw_V (As := [.int 1]) (rest := []) (wr := [(xs, .inl (cS, 8, .inr (.inr (.inr (.inr fh))))), (h0, .inr (4, [.ref e0, .int he, .int si])), (e0, .inl (cJ, 160, .inr (.inl fe)))]) ⟨hx, hb, hml, hown, hts⟩ (c_X_refuse_1 l D cI cJ cZ cP cS po x0 xs j0 k0 w0 rd mv xr (im) (lf) fr hy0 hy1 hy2 hy3 H.size) (cwV 1 hts gX7_copy_X7_refuse rfl rfl rfl (by decide +kernel) ⟨Nat.le_of_ble_eq_true rfl, Nat.le_of_ble_eq_true rfl⟩) hK hN (hZ.kept hS) hP hD hS hA [0, 1] [2, 3, 4] rfl rfl (by decide) (by decide) (by decide) (va_recv hK hP (ci := 7) (q0 := 0) rfl rfl) rfl hl.1 rfl (Nat.le_of_ble_eq_true rfl) dX7_copy_26 ⟨Nat.le_of_ble_eq_true rfl, Nat.le_of_ble_eq_true rfl⟩ (fun r_31 u_32 H locs hr_31 hP hD hS => ?_)
      obtain ⟨q_33, rfl⟩ : ∃ z, z = u_32 := ⟨_, rfl⟩
      replace hP : va_P D vwCl [(xs, .inl (cS, 8, .inr (.inr (.inr (.inr fh))))), (h0, .inr (4, [.ref e0, .int he, .int si])), (e0, .inl (cJ, 160, .inr (.inl fe))), (x0, .inr (7, [.ref xs, .ref j0, .ref k0, .ref w0, .ref rd, .ref mv, .ref xr, .int im, .int lf])), (xr, .inl (cI, 8, .inl q_33))] H := hP
      replace hD : va_D _ [(xs, .inl (cS, 8, .inr (.inr (.inr (.inr fh))))), (h0, .inr (4, [.ref e0, .int he, .int si])), (e0, .inl (cJ, 160, .inr (.inl fe))), (x0, .inr (7, [.ref xs, .ref j0, .ref k0, .ref w0, .ref rd, .ref mv, .ref xr, .int im, .int lf])), (xr, .inl (cI, 8, .inl q_33))] := hD
      obtain rfl := hr_31
      exact W.iret (v := (-1)) hx hb hr (fun t ht hW => ⟨⟨(-1), (fe, q_33), rfl, trivial, by rw [ht]; exact hP.sub (ws' := [(x0, .inr (7, [.ref xs, .ref j0, .ref k0, .ref w0, .ref rd, .ref mv, .ref xr, .int im, .int lf])), (xr, .inl (cI, 8, .inl q_33)), (xs, .inl (cS, 8, .inr (.inr (.inr (.inr fh))))), (h0, .inr (4, [.ref e0, .int he, .int si])), (e0, .inl (cJ, 160, .inr (.inl fe)))]) [3, 4, 0, 1, 2] rfl, hD.sub (ws' := [(x0, .inr (7, [.ref xs, .ref j0, .ref k0, .ref w0, .ref rd, .ref mv, .ref xr, .int im, .int lf])), (xr, .inl (cI, 8, .inl q_33)), (xs, .inl (cS, 8, .inr (.inr (.inr (.inr fh))))), (h0, .inr (4, [.ref e0, .int he, .int si])), (e0, .inl (cJ, 160, .inr (.inl fe)))]) [3, 4, 0, 1, 2] (by decide) rfl⟩, hS.F ht⟩) hS.2.2 dX7_copy_29
    · rw [hfq (by omega) (by omega)]
      refine W.eq (g2 := F0 m 12 ls (.ref h0 :: [])) rfl ?_
      refine lv_astore (lv' := [(7, .ref h0), (6, .null), (0, .ref x0), (1, .int s_), (2, .int q_), (3, .int i), (4, .int j), (5, .int n)]) hx hb dX7_copy_12 hl (by decide) rfl (fun ls hl => ?_)
      refine lv_aloadN hx hb dX7_copy_14 (lv_at hl 1 rfl) ?_
      refine lv_ifnullN (tgt := 24) hx hb dX7_copy_16 (by decide) ?_
      refine lv_aload_n hx hb dX7_copy_24 rfl (lv_at hl 2 rfl) ?_
      refine lv_iconst (v := 1) hx hb dX7_copy_25 (by decide) ?_
      skip
      refine zw_V (As := [.int 1]) (rest := []) (wr := [(xs, .inl (cS, 8, .inr (.inr (.inr (.inr fh))))), (h0, .inr (4, [.ref e0, .int he, .int si])), (e0, .inl (cJ, 160, .inr (.inl fe)))]) ⟨hx, hb, hml, hown, hts⟩ (c_X_refuse_1 l D cI cJ cZ cP cS po x0 xs j0 k0 w0 rd mv xr (im) (lf) fr hy0 hy1 hy2 hy3 H.size) (cwV 1 hts gX7_copy_X7_refuse rfl rfl rfl (by decide +kernel) ⟨Nat.le_of_ble_eq_true rfl, Nat.le_of_ble_eq_true rfl⟩) hK hN (hZ.kept hS) hP hD hS hA [0, 1] [2, 3, 4] rfl rfl (by decide) (by decide) (by decide) (va_recv hK hP (ci := 7) (q0 := 0) rfl rfl) rfl hl.1 rfl (Nat.le_of_ble_eq_true rfl) dX7_copy_26 ⟨Nat.le_of_ble_eq_true rfl, Nat.le_of_ble_eq_true rfl⟩ (fun r_34 u_35 H locs hr_34 hP hD hS => ?_)
      obtain ⟨q_36, rfl⟩ : ∃ z, z = u_35 := ⟨_, rfl⟩
      replace hP : va_P D vwCl [(xs, .inl (cS, 8, .inr (.inr (.inr (.inr fh))))), (h0, .inr (4, [.ref e0, .int he, .int si])), (e0, .inl (cJ, 160, .inr (.inl fe))), (x0, .inr (7, [.ref xs, .ref j0, .ref k0, .ref w0, .ref rd, .ref mv, .ref xr, .int im, .int lf])), (xr, .inl (cI, 8, .inl q_36))] H := hP
      replace hD : va_D _ [(xs, .inl (cS, 8, .inr (.inr (.inr (.inr fh))))), (h0, .inr (4, [.ref e0, .int he, .int si])), (e0, .inl (cJ, 160, .inr (.inl fe))), (x0, .inr (7, [.ref xs, .ref j0, .ref k0, .ref w0, .ref rd, .ref mv, .ref xr, .int im, .int lf])), (xr, .inl (cI, 8, .inl q_36))] := hD
      obtain rfl := hr_34
      exact W.iret (v := (-1)) hx hb hr (fun t ht hW => ⟨⟨(-1), (fe, q_36), rfl, trivial, by rw [ht]; exact hP.sub (ws' := [(x0, .inr (7, [.ref xs, .ref j0, .ref k0, .ref w0, .ref rd, .ref mv, .ref xr, .int im, .int lf])), (xr, .inl (cI, 8, .inl q_36)), (xs, .inl (cS, 8, .inr (.inr (.inr (.inr fh))))), (h0, .inr (4, [.ref e0, .int he, .int si])), (e0, .inl (cJ, 160, .inr (.inl fe)))]) [3, 4, 0, 1, 2] rfl, hD.sub (ws' := [(x0, .inr (7, [.ref xs, .ref j0, .ref k0, .ref w0, .ref rd, .ref mv, .ref xr, .int im, .int lf])), (xr, .inl (cI, 8, .inl q_36)), (xs, .inl (cS, 8, .inr (.inr (.inr (.inr fh))))), (h0, .inr (4, [.ref e0, .int he, .int si])), (e0, .inl (cJ, 160, .inr (.inl fe)))]) [3, 4, 0, 1, 2] (by decide) rfl⟩, hS.F ht⟩) hS.2.2 dX7_copy_29
  · rw [hfs (by omega) (by omega)]
    refine W.eq (g2 := F0 m 5 ls (.ref h0 :: [])) rfl ?_
    refine lv_astore (lv' := [(6, .ref h0), (0, .ref x0), (1, .int s_), (2, .int q_), (3, .int i), (4, .int j), (5, .int n)]) hx hb dX7_copy_5 hl (by decide) rfl (fun ls hl => ?_)
    refine lv_aload_n hx hb dX7_copy_7 rfl (lv_at hl 1 rfl) ?_
    refine lv_iload_n hx hb dX7_copy_8 rfl (lv_at hl 3 rfl) ?_
    refine zc_Vq (As := [.int q_]) (rest := []) ⟨hx, hb, hml, hown, hts⟩ (c_X_shelfAt l D cI cJ cZ cP cS po x0 xs j0 k0 w0 rd mv xr (im) (lf) ((fun _ => 0)) fh (q_) hy0 hy1 hy2 hy3) (cwV 1 hts gX7_copy_X7_shelfAt rfl rfl rfl (by decide +kernel) ⟨Nat.le_of_ble_eq_true rfl, Nat.le_of_ble_eq_true rfl⟩) hK hN (hZ.kept hS) hP (hP.sub [0, 2] rfl) (va_recv hK hP (ci := 7) (q0 := 0) rfl rfl) rfl hl.1 rfl (Nat.le_of_ble_eq_true rfl) dX7_copy_9 ⟨Nat.le_of_ble_eq_true rfl, Nat.le_of_ble_eq_true rfl⟩ (fun r_37 hr_37 => ?_)
    rcases hr_37 with ⟨rfl, g_38⟩ | ⟨rfl, g_39, g_40⟩ | ⟨rfl, g_41, g_42⟩
    · refine lv_astoreN (lv' := [(7, .null), (6, .ref h0), (0, .ref x0), (1, .int s_), (2, .int q_), (3, .int i), (4, .int j), (5, .int n)]) hx hb dX7_copy_12 hl (by decide) rfl (fun ls hl => ?_)
      refine lv_aload hx hb dX7_copy_14 (lv_at hl 1 rfl) ?_
      refine lv_ifnull hx hb dX7_copy_16 ?_
      refine lv_aloadN hx hb dX7_copy_19 (lv_at hl 0 rfl) ?_
      refine lv_ifnonnullN hx hb dX7_copy_21 ?_
      refine lv_aload_n hx hb dX7_copy_24 rfl (lv_at hl 2 rfl) ?_
      refine lv_iconst (v := 1) hx hb dX7_copy_25 (by decide) ?_
      skip
      refine zw_V (As := [.int 1]) (rest := []) (wr := [(xs, .inl (cS, 8, .inr (.inr (.inr (.inr fh))))), (h0, .inr (4, [.ref e0, .int he, .int si])), (e0, .inl (cJ, 160, .inr (.inl fe)))]) ⟨hx, hb, hml, hown, hts⟩ (c_X_refuse_1 l D cI cJ cZ cP cS po x0 xs j0 k0 w0 rd mv xr (im) (lf) fr hy0 hy1 hy2 hy3 H.size) (cwV 1 hts gX7_copy_X7_refuse rfl rfl rfl (by decide +kernel) ⟨Nat.le_of_ble_eq_true rfl, Nat.le_of_ble_eq_true rfl⟩) hK hN (hZ.kept hS) hP hD hS hA [0, 1] [2, 3, 4] rfl rfl (by decide) (by decide) (by decide) (va_recv hK hP (ci := 7) (q0 := 0) rfl rfl) rfl hl.1 rfl (Nat.le_of_ble_eq_true rfl) dX7_copy_26 ⟨Nat.le_of_ble_eq_true rfl, Nat.le_of_ble_eq_true rfl⟩ (fun r_43 u_44 H locs hr_43 hP hD hS => ?_)
      obtain ⟨q_45, rfl⟩ : ∃ z, z = u_44 := ⟨_, rfl⟩
      replace hP : va_P D vwCl [(xs, .inl (cS, 8, .inr (.inr (.inr (.inr fh))))), (h0, .inr (4, [.ref e0, .int he, .int si])), (e0, .inl (cJ, 160, .inr (.inl fe))), (x0, .inr (7, [.ref xs, .ref j0, .ref k0, .ref w0, .ref rd, .ref mv, .ref xr, .int im, .int lf])), (xr, .inl (cI, 8, .inl q_45))] H := hP
      replace hD : va_D _ [(xs, .inl (cS, 8, .inr (.inr (.inr (.inr fh))))), (h0, .inr (4, [.ref e0, .int he, .int si])), (e0, .inl (cJ, 160, .inr (.inl fe))), (x0, .inr (7, [.ref xs, .ref j0, .ref k0, .ref w0, .ref rd, .ref mv, .ref xr, .int im, .int lf])), (xr, .inl (cI, 8, .inl q_45))] := hD
      obtain rfl := hr_43
      exact W.iret (v := (-1)) hx hb hr (fun t ht hW => ⟨⟨(-1), (fe, q_45), rfl, trivial, by rw [ht]; exact hP.sub (ws' := [(x0, .inr (7, [.ref xs, .ref j0, .ref k0, .ref w0, .ref rd, .ref mv, .ref xr, .int im, .int lf])), (xr, .inl (cI, 8, .inl q_45)), (xs, .inl (cS, 8, .inr (.inr (.inr (.inr fh))))), (h0, .inr (4, [.ref e0, .int he, .int si])), (e0, .inl (cJ, 160, .inr (.inl fe)))]) [3, 4, 0, 1, 2] rfl, hD.sub (ws' := [(x0, .inr (7, [.ref xs, .ref j0, .ref k0, .ref w0, .ref rd, .ref mv, .ref xr, .int im, .int lf])), (xr, .inl (cI, 8, .inl q_45)), (xs, .inl (cS, 8, .inr (.inr (.inr (.inr fh))))), (h0, .inr (4, [.ref e0, .int he, .int si])), (e0, .inl (cJ, 160, .inr (.inl fe)))]) [3, 4, 0, 1, 2] (by decide) rfl⟩, hS.F ht⟩) hS.2.2 dX7_copy_29
    · refine lv_astoreN (lv' := [(7, .null), (6, .ref h0), (0, .ref x0), (1, .int s_), (2, .int q_), (3, .int i), (4, .int j), (5, .int n)]) hx hb dX7_copy_12 hl (by decide) rfl (fun ls hl => ?_)
      refine lv_aload hx hb dX7_copy_14 (lv_at hl 1 rfl) ?_
      refine lv_ifnull hx hb dX7_copy_16 ?_
      refine lv_aloadN hx hb dX7_copy_19 (lv_at hl 0 rfl) ?_
      refine lv_ifnonnullN hx hb dX7_copy_21 ?_
      refine lv_aload_n hx hb dX7_copy_24 rfl (lv_at hl 2 rfl) ?_
      refine lv_iconst (v := 1) hx hb dX7_copy_25 (by decide) ?_
      skip
      refine zw_V (As := [.int 1]) (rest := []) (wr := [(xs, .inl (cS, 8, .inr (.inr (.inr (.inr fh))))), (h0, .inr (4, [.ref e0, .int he, .int si])), (e0, .inl (cJ, 160, .inr (.inl fe)))]) ⟨hx, hb, hml, hown, hts⟩ (c_X_refuse_1 l D cI cJ cZ cP cS po x0 xs j0 k0 w0 rd mv xr (im) (lf) fr hy0 hy1 hy2 hy3 H.size) (cwV 1 hts gX7_copy_X7_refuse rfl rfl rfl (by decide +kernel) ⟨Nat.le_of_ble_eq_true rfl, Nat.le_of_ble_eq_true rfl⟩) hK hN (hZ.kept hS) hP hD hS hA [0, 1] [2, 3, 4] rfl rfl (by decide) (by decide) (by decide) (va_recv hK hP (ci := 7) (q0 := 0) rfl rfl) rfl hl.1 rfl (Nat.le_of_ble_eq_true rfl) dX7_copy_26 ⟨Nat.le_of_ble_eq_true rfl, Nat.le_of_ble_eq_true rfl⟩ (fun r_46 u_47 H locs hr_46 hP hD hS => ?_)
      obtain ⟨q_48, rfl⟩ : ∃ z, z = u_47 := ⟨_, rfl⟩
      replace hP : va_P D vwCl [(xs, .inl (cS, 8, .inr (.inr (.inr (.inr fh))))), (h0, .inr (4, [.ref e0, .int he, .int si])), (e0, .inl (cJ, 160, .inr (.inl fe))), (x0, .inr (7, [.ref xs, .ref j0, .ref k0, .ref w0, .ref rd, .ref mv, .ref xr, .int im, .int lf])), (xr, .inl (cI, 8, .inl q_48))] H := hP
      replace hD : va_D _ [(xs, .inl (cS, 8, .inr (.inr (.inr (.inr fh))))), (h0, .inr (4, [.ref e0, .int he, .int si])), (e0, .inl (cJ, 160, .inr (.inl fe))), (x0, .inr (7, [.ref xs, .ref j0, .ref k0, .ref w0, .ref rd, .ref mv, .ref xr, .int im, .int lf])), (xr, .inl (cI, 8, .inl q_48))] := hD
      obtain rfl := hr_46
      exact W.iret (v := (-1)) hx hb hr (fun t ht hW => ⟨⟨(-1), (fe, q_48), rfl, trivial, by rw [ht]; exact hP.sub (ws' := [(x0, .inr (7, [.ref xs, .ref j0, .ref k0, .ref w0, .ref rd, .ref mv, .ref xr, .int im, .int lf])), (xr, .inl (cI, 8, .inl q_48)), (xs, .inl (cS, 8, .inr (.inr (.inr (.inr fh))))), (h0, .inr (4, [.ref e0, .int he, .int si])), (e0, .inl (cJ, 160, .inr (.inl fe)))]) [3, 4, 0, 1, 2] rfl, hD.sub (ws' := [(x0, .inr (7, [.ref xs, .ref j0, .ref k0, .ref w0, .ref rd, .ref mv, .ref xr, .int im, .int lf])), (xr, .inl (cI, 8, .inl q_48)), (xs, .inl (cS, 8, .inr (.inr (.inr (.inr fh))))), (h0, .inr (4, [.ref e0, .int he, .int si])), (e0, .inl (cJ, 160, .inr (.inl fe)))]) [3, 4, 0, 1, 2] (by decide) rfl⟩, hS.F ht⟩) hS.2.2 dX7_copy_29
    · rw [hfq (by omega) (by omega)]
      refine W.eq (g2 := F0 m 12 ls (.ref h0 :: [])) rfl ?_
      refine lv_astore (lv' := [(7, .ref h0), (6, .ref h0), (0, .ref x0), (1, .int s_), (2, .int q_), (3, .int i), (4, .int j), (5, .int n)]) hx hb dX7_copy_12 hl (by decide) rfl (fun ls hl => ?_)
      refine lv_aload hx hb dX7_copy_14 (lv_at hl 1 rfl) ?_
      refine lv_ifnull hx hb dX7_copy_16 ?_
      refine lv_aload hx hb dX7_copy_19 (lv_at hl 0 rfl) ?_
      refine lv_ifnonnull (tgt := 30) hx hb dX7_copy_21 (by decide) ?_
      refine lv_aload hx hb dX7_copy_30 (lv_at hl 1 rfl) ?_
      refine zc_V (As := []) (rest := []) ⟨hx, hb, hml, hown, hts⟩ (c_Sh_noRow l D cI cJ cZ cP cS po h0 e0 (he) (si) hy4 hy5 hy6 hy7) (cwV 0 hts gX7_copy_X4_noRow rfl rfl rfl (by decide +kernel) ⟨Nat.le_of_ble_eq_true rfl, Nat.le_of_ble_eq_true rfl⟩) hK hN (hZ.kept hS) hP (hP.sub [3] rfl) (va_recv hK hP (ci := 4) (q0 := 3) rfl rfl) rfl hl.1 rfl (Nat.le_of_ble_eq_true rfl) dX7_copy_32 ⟨Nat.le_of_ble_eq_true rfl, Nat.le_of_ble_eq_true rfl⟩ (fun r_49 hr_49 => ?_)
      rcases hr_49 with ⟨rfl, g_50, g_51⟩ | ⟨rfl, g_52, g_53⟩ | ⟨rfl, g_54⟩
      · refine lv_istore (lv' := [(8, .int 2), (7, .ref h0), (6, .ref h0), (0, .ref x0), (1, .int s_), (2, .int q_), (3, .int i), (4, .int j), (5, .int n)]) hx hb dX7_copy_35 hl (by decide) rfl (fun ls hl => ?_)
        refine lv_aload hx hb dX7_copy_37 (lv_at hl 1 rfl) ?_
        refine zc_V (As := []) (rest := []) ⟨hx, hb, hml, hown, hts⟩ (c_Sh_noRow l D cI cJ cZ cP cS po h0 e0 (he) (si) hy4 hy5 hy6 hy7) (cwV 0 hts gX7_copy_X4_noRow rfl rfl rfl (by decide +kernel) ⟨Nat.le_of_ble_eq_true rfl, Nat.le_of_ble_eq_true rfl⟩) hK hN (hZ.kept hS) hP (hP.sub [3] rfl) (va_recv hK hP (ci := 4) (q0 := 3) rfl rfl) rfl hl.1 rfl (Nat.le_of_ble_eq_true rfl) dX7_copy_39 ⟨Nat.le_of_ble_eq_true rfl, Nat.le_of_ble_eq_true rfl⟩ (fun r_55 hr_55 => ?_)
        rcases hr_55 with ⟨rfl, g_56, g_57⟩ | ⟨rfl, g_58, g_59⟩ | ⟨rfl, g_60⟩
        · refine lv_istore (lv' := [(9, .int 2), (8, .int 2), (7, .ref h0), (6, .ref h0), (0, .ref x0), (1, .int s_), (2, .int q_), (3, .int i), (4, .int j), (5, .int n)]) hx hb dX7_copy_42 hl (by decide) rfl (fun ls hl => ?_)
          refine lv_iload hx hb dX7_copy_44 (lv_at hl 1 rfl) ?_
          refine lv_if_ne (tgt := 71) hx hb dX7_copy_46 (by decide) (fun c_61 => ?_) (fun c_61 => ?_)
          · refine lv_iconst (v := 0) hx hb dX7_copy_71 (by decide) ?_
            refine lv_istore (lv' := [(10, .int 0), (9, .int 2), (8, .int 2), (7, .ref h0), (6, .ref h0), (0, .ref x0), (1, .int s_), (2, .int q_), (3, .int i), (4, .int j), (5, .int n)]) hx hb dX7_copy_72 hl (by decide) rfl (fun ls hl => ?_)
            refine lv_iload hx hb dX7_copy_74 (lv_at hl 2 rfl) ?_
            refine lv_iconst (v := 2) hx hb dX7_copy_76 (by decide) ?_
            refine lv_icmp_eq (tgt := 91) hx hb dX7_copy_77 (by decide) (fun c_62 => ?_) (fun c_62 => ?_)
            · refine lv_aload_n hx hb dX7_copy_91 rfl (lv_at hl 5 rfl) ?_
              refine lv_iconst (v := 2) hx hb dX7_copy_92 (by decide) ?_
              skip
              refine zw_V (As := [.int 2]) (rest := []) (wr := [(xs, .inl (cS, 8, .inr (.inr (.inr (.inr fh))))), (h0, .inr (4, [.ref e0, .int he, .int si])), (e0, .inl (cJ, 160, .inr (.inl fe)))]) ⟨hx, hb, hml, hown, hts⟩ (c_X_refuse_2 l D cI cJ cZ cP cS po x0 xs j0 k0 w0 rd mv xr (im) (lf) fr hy0 hy1 hy2 hy3 H.size) (cwV 1 hts gX7_copy_X7_refuse rfl rfl rfl (by decide +kernel) ⟨Nat.le_of_ble_eq_true rfl, Nat.le_of_ble_eq_true rfl⟩) hK hN (hZ.kept hS) hP hD hS hA [0, 1] [2, 3, 4] rfl rfl (by decide) (by decide) (by decide) (va_recv hK hP (ci := 7) (q0 := 0) rfl rfl) rfl hl.1 rfl (Nat.le_of_ble_eq_true rfl) dX7_copy_93 ⟨Nat.le_of_ble_eq_true rfl, Nat.le_of_ble_eq_true rfl⟩ (fun r_63 u_64 H locs hr_63 hP hD hS => ?_)
              obtain ⟨q_65, rfl⟩ : ∃ z, z = u_64 := ⟨_, rfl⟩
              replace hP : va_P D vwCl [(xs, .inl (cS, 8, .inr (.inr (.inr (.inr fh))))), (h0, .inr (4, [.ref e0, .int he, .int si])), (e0, .inl (cJ, 160, .inr (.inl fe))), (x0, .inr (7, [.ref xs, .ref j0, .ref k0, .ref w0, .ref rd, .ref mv, .ref xr, .int im, .int lf])), (xr, .inl (cI, 8, .inl q_65))] H := hP
              replace hD : va_D _ [(xs, .inl (cS, 8, .inr (.inr (.inr (.inr fh))))), (h0, .inr (4, [.ref e0, .int he, .int si])), (e0, .inl (cJ, 160, .inr (.inl fe))), (x0, .inr (7, [.ref xs, .ref j0, .ref k0, .ref w0, .ref rd, .ref mv, .ref xr, .int im, .int lf])), (xr, .inl (cI, 8, .inl q_65))] := hD
              obtain rfl := hr_63
              exact W.iret (v := (-2)) hx hb hr (fun t ht hW => ⟨⟨(-2), (fe, q_65), rfl, trivial, by rw [ht]; exact hP.sub (ws' := [(x0, .inr (7, [.ref xs, .ref j0, .ref k0, .ref w0, .ref rd, .ref mv, .ref xr, .int im, .int lf])), (xr, .inl (cI, 8, .inl q_65)), (xs, .inl (cS, 8, .inr (.inr (.inr (.inr fh))))), (h0, .inr (4, [.ref e0, .int he, .int si])), (e0, .inl (cJ, 160, .inr (.inl fe)))]) [3, 4, 0, 1, 2] rfl, hD.sub (ws' := [(x0, .inr (7, [.ref xs, .ref j0, .ref k0, .ref w0, .ref rd, .ref mv, .ref xr, .int im, .int lf])), (xr, .inl (cI, 8, .inl q_65)), (xs, .inl (cS, 8, .inr (.inr (.inr (.inr fh))))), (h0, .inr (4, [.ref e0, .int he, .int si])), (e0, .inl (cJ, 160, .inr (.inl fe)))]) [3, 4, 0, 1, 2] (by decide) rfl⟩, hS.F ht⟩) hS.2.2 dX7_copy_96
            · exact absurd c_62 (by decide)
          · exact absurd c_61 (by decide)
        · exfalso; omega
        · exfalso; omega
      · refine lv_istore (lv' := [(8, .int 3), (7, .ref h0), (6, .ref h0), (0, .ref x0), (1, .int s_), (2, .int q_), (3, .int i), (4, .int j), (5, .int n)]) hx hb dX7_copy_35 hl (by decide) rfl (fun ls hl => ?_)
        refine lv_aload hx hb dX7_copy_37 (lv_at hl 1 rfl) ?_
        refine zc_V (As := []) (rest := []) ⟨hx, hb, hml, hown, hts⟩ (c_Sh_noRow l D cI cJ cZ cP cS po h0 e0 (he) (si) hy4 hy5 hy6 hy7) (cwV 0 hts gX7_copy_X4_noRow rfl rfl rfl (by decide +kernel) ⟨Nat.le_of_ble_eq_true rfl, Nat.le_of_ble_eq_true rfl⟩) hK hN (hZ.kept hS) hP (hP.sub [3] rfl) (va_recv hK hP (ci := 4) (q0 := 3) rfl rfl) rfl hl.1 rfl (Nat.le_of_ble_eq_true rfl) dX7_copy_39 ⟨Nat.le_of_ble_eq_true rfl, Nat.le_of_ble_eq_true rfl⟩ (fun r_66 hr_66 => ?_)
        rcases hr_66 with ⟨rfl, g_67, g_68⟩ | ⟨rfl, g_69, g_70⟩ | ⟨rfl, g_71⟩
        · exfalso; omega
        · refine lv_istore (lv' := [(9, .int 3), (8, .int 3), (7, .ref h0), (6, .ref h0), (0, .ref x0), (1, .int s_), (2, .int q_), (3, .int i), (4, .int j), (5, .int n)]) hx hb dX7_copy_42 hl (by decide) rfl (fun ls hl => ?_)
          refine lv_iload hx hb dX7_copy_44 (lv_at hl 1 rfl) ?_
          refine lv_if_ne (tgt := 71) hx hb dX7_copy_46 (by decide) (fun c_72 => ?_) (fun c_72 => ?_)
          · refine lv_iconst (v := 0) hx hb dX7_copy_71 (by decide) ?_
            refine lv_istore (lv' := [(10, .int 0), (9, .int 3), (8, .int 3), (7, .ref h0), (6, .ref h0), (0, .ref x0), (1, .int s_), (2, .int q_), (3, .int i), (4, .int j), (5, .int n)]) hx hb dX7_copy_72 hl (by decide) rfl (fun ls hl => ?_)
            refine lv_iload hx hb dX7_copy_74 (lv_at hl 2 rfl) ?_
            refine lv_iconst (v := 2) hx hb dX7_copy_76 (by decide) ?_
            refine lv_icmp_eq (tgt := 91) hx hb dX7_copy_77 (by decide) (fun c_73 => ?_) (fun c_73 => ?_)
            · exact absurd c_73 (by decide)
            · refine lv_iload hx hb dX7_copy_80 (lv_at hl 1 rfl) ?_
              refine lv_iconst (v := 2) hx hb dX7_copy_82 (by decide) ?_
              refine lv_icmp_eq (tgt := 91) hx hb dX7_copy_83 (by decide) (fun c_74 => ?_) (fun c_74 => ?_)
              · exact absurd c_74 (by decide)
              · refine lv_iload hx hb dX7_copy_86 (lv_at hl 0 rfl) ?_
                refine lv_if_eq (tgt := 97) hx hb dX7_copy_88 (by decide) (fun c_75 => ?_) (fun c_75 => ?_)
                · refine lv_iload hx hb dX7_copy_97 (lv_at hl 2 rfl) ?_
                  refine lv_iconst (v := 3) hx hb dX7_copy_99 (by decide) ?_
                  refine lv_icmp_eq (tgt := 109) hx hb dX7_copy_100 (by decide) (fun c_76 => ?_) (fun c_76 => ?_)
                  · refine lv_aload_n hx hb dX7_copy_109 rfl (lv_at hl 5 rfl) ?_
                    refine lv_iconst (v := 3) hx hb dX7_copy_110 (by decide) ?_
                    skip
                    refine zw_V (As := [.int 3]) (rest := []) (wr := [(xs, .inl (cS, 8, .inr (.inr (.inr (.inr fh))))), (h0, .inr (4, [.ref e0, .int he, .int si])), (e0, .inl (cJ, 160, .inr (.inl fe)))]) ⟨hx, hb, hml, hown, hts⟩ (c_X_refuse_3 l D cI cJ cZ cP cS po x0 xs j0 k0 w0 rd mv xr (im) (lf) fr hy0 hy1 hy2 hy3 H.size) (cwV 1 hts gX7_copy_X7_refuse rfl rfl rfl (by decide +kernel) ⟨Nat.le_of_ble_eq_true rfl, Nat.le_of_ble_eq_true rfl⟩) hK hN (hZ.kept hS) hP hD hS hA [0, 1] [2, 3, 4] rfl rfl (by decide) (by decide) (by decide) (va_recv hK hP (ci := 7) (q0 := 0) rfl rfl) rfl hl.1 rfl (Nat.le_of_ble_eq_true rfl) dX7_copy_111 ⟨Nat.le_of_ble_eq_true rfl, Nat.le_of_ble_eq_true rfl⟩ (fun r_77 u_78 H locs hr_77 hP hD hS => ?_)
                    obtain ⟨q_79, rfl⟩ : ∃ z, z = u_78 := ⟨_, rfl⟩
                    replace hP : va_P D vwCl [(xs, .inl (cS, 8, .inr (.inr (.inr (.inr fh))))), (h0, .inr (4, [.ref e0, .int he, .int si])), (e0, .inl (cJ, 160, .inr (.inl fe))), (x0, .inr (7, [.ref xs, .ref j0, .ref k0, .ref w0, .ref rd, .ref mv, .ref xr, .int im, .int lf])), (xr, .inl (cI, 8, .inl q_79))] H := hP
                    replace hD : va_D _ [(xs, .inl (cS, 8, .inr (.inr (.inr (.inr fh))))), (h0, .inr (4, [.ref e0, .int he, .int si])), (e0, .inl (cJ, 160, .inr (.inl fe))), (x0, .inr (7, [.ref xs, .ref j0, .ref k0, .ref w0, .ref rd, .ref mv, .ref xr, .int im, .int lf])), (xr, .inl (cI, 8, .inl q_79))] := hD
                    obtain rfl := hr_77
                    exact W.iret (v := (-3)) hx hb hr (fun t ht hW => ⟨⟨(-3), (fe, q_79), rfl, trivial, by rw [ht]; exact hP.sub (ws' := [(x0, .inr (7, [.ref xs, .ref j0, .ref k0, .ref w0, .ref rd, .ref mv, .ref xr, .int im, .int lf])), (xr, .inl (cI, 8, .inl q_79)), (xs, .inl (cS, 8, .inr (.inr (.inr (.inr fh))))), (h0, .inr (4, [.ref e0, .int he, .int si])), (e0, .inl (cJ, 160, .inr (.inl fe)))]) [3, 4, 0, 1, 2] rfl, hD.sub (ws' := [(x0, .inr (7, [.ref xs, .ref j0, .ref k0, .ref w0, .ref rd, .ref mv, .ref xr, .int im, .int lf])), (xr, .inl (cI, 8, .inl q_79)), (xs, .inl (cS, 8, .inr (.inr (.inr (.inr fh))))), (h0, .inr (4, [.ref e0, .int he, .int si])), (e0, .inl (cJ, 160, .inr (.inl fe)))]) [3, 4, 0, 1, 2] (by decide) rfl⟩, hS.F ht⟩) hS.2.2 dX7_copy_114
                  · exact absurd c_76 (by decide)
                · exact absurd c_75 (by decide)
          · exact absurd c_72 (by decide)
        · exfalso; omega
      · refine lv_istore (lv' := [(8, .int 0), (7, .ref h0), (6, .ref h0), (0, .ref x0), (1, .int s_), (2, .int q_), (3, .int i), (4, .int j), (5, .int n)]) hx hb dX7_copy_35 hl (by decide) rfl (fun ls hl => ?_)
        refine lv_aload hx hb dX7_copy_37 (lv_at hl 1 rfl) ?_
        refine zc_V (As := []) (rest := []) ⟨hx, hb, hml, hown, hts⟩ (c_Sh_noRow l D cI cJ cZ cP cS po h0 e0 (he) (si) hy4 hy5 hy6 hy7) (cwV 0 hts gX7_copy_X4_noRow rfl rfl rfl (by decide +kernel) ⟨Nat.le_of_ble_eq_true rfl, Nat.le_of_ble_eq_true rfl⟩) hK hN (hZ.kept hS) hP (hP.sub [3] rfl) (va_recv hK hP (ci := 4) (q0 := 3) rfl rfl) rfl hl.1 rfl (Nat.le_of_ble_eq_true rfl) dX7_copy_39 ⟨Nat.le_of_ble_eq_true rfl, Nat.le_of_ble_eq_true rfl⟩ (fun r_80 hr_80 => ?_)
        rcases hr_80 with ⟨rfl, g_81, g_82⟩ | ⟨rfl, g_83, g_84⟩ | ⟨rfl, g_85⟩
        · exfalso; omega
        · exfalso; omega
        · refine lv_istore (lv' := [(9, .int 0), (8, .int 0), (7, .ref h0), (6, .ref h0), (0, .ref x0), (1, .int s_), (2, .int q_), (3, .int i), (4, .int j), (5, .int n)]) hx hb dX7_copy_42 hl (by decide) rfl (fun ls hl => ?_)
          refine lv_iload hx hb dX7_copy_44 (lv_at hl 1 rfl) ?_
          refine lv_if_ne (tgt := 71) hx hb dX7_copy_46 (by decide) (fun c_86 => ?_) (fun c_86 => ?_)
          · exact absurd c_86 (by decide)
          · refine lv_iload hx hb dX7_copy_49 (lv_at hl 0 rfl) ?_
            refine lv_if_ne (tgt := 71) hx hb dX7_copy_51 (by decide) (fun c_87 => ?_) (fun c_87 => ?_)
            · exact absurd c_87 (by decide)
            · refine lv_aload hx hb dX7_copy_54 (lv_at hl 3 rfl) ?_
              refine va_get (D := D) (ci := 4) (v := .int he) (C := RX4) (T := TX4) (N := 3) hx hb hts hi_X7_copy_4 hown hK hP 3 rfl rfl 1 (by decide) (hts (.fieldLink RX7 87 "TheLiningsInIt$Shelf" "held" "I") (List.mem_of_getElem? (i := 1) rfl)) (fun _ h9 => h9) rfl dX7_copy_56 ?_
              refine lv_aload hx hb dX7_copy_59 (lv_at hl 2 rfl) ?_
              refine va_get (D := D) (ci := 4) (v := .int he) (C := RX4) (T := TX4) (N := 3) hx hb hts hi_X7_copy_4 hown hK hP 3 rfl rfl 1 (by decide) (hts (.fieldLink RX7 87 "TheLiningsInIt$Shelf" "held" "I") (List.mem_of_getElem? (i := 1) rfl)) (fun _ h9 => h9) rfl dX7_copy_61 ?_
              refine lv_icmp_eq (tgt := 71) hx hb dX7_copy_64 (by decide) (fun c_88 => ?_) (fun c_88 => ?_)
              · have fc_88 : he.toInt = he.toInt := zf_eq c_88 rfl rfl
                refine lv_iconst (v := 0) hx hb dX7_copy_71 (by decide) ?_
                refine lv_istore (lv' := [(10, .int 0), (9, .int 0), (8, .int 0), (7, .ref h0), (6, .ref h0), (0, .ref x0), (1, .int s_), (2, .int q_), (3, .int i), (4, .int j), (5, .int n)]) hx hb dX7_copy_72 hl (by decide) rfl (fun ls hl => ?_)
                refine lv_iload hx hb dX7_copy_74 (lv_at hl 2 rfl) ?_
                refine lv_iconst (v := 2) hx hb dX7_copy_76 (by decide) ?_
                refine lv_icmp_eq (tgt := 91) hx hb dX7_copy_77 (by decide) (fun c_89 => ?_) (fun c_89 => ?_)
                · exact absurd c_89 (by decide)
                · refine lv_iload hx hb dX7_copy_80 (lv_at hl 1 rfl) ?_
                  refine lv_iconst (v := 2) hx hb dX7_copy_82 (by decide) ?_
                  refine lv_icmp_eq (tgt := 91) hx hb dX7_copy_83 (by decide) (fun c_90 => ?_) (fun c_90 => ?_)
                  · exact absurd c_90 (by decide)
                  · refine lv_iload hx hb dX7_copy_86 (lv_at hl 0 rfl) ?_
                    refine lv_if_eq (tgt := 97) hx hb dX7_copy_88 (by decide) (fun c_91 => ?_) (fun c_91 => ?_)
                    · refine lv_iload hx hb dX7_copy_97 (lv_at hl 2 rfl) ?_
                      refine lv_iconst (v := 3) hx hb dX7_copy_99 (by decide) ?_
                      refine lv_icmp_eq (tgt := 109) hx hb dX7_copy_100 (by decide) (fun c_92 => ?_) (fun c_92 => ?_)
                      · exact absurd c_92 (by decide)
                      · refine lv_iload hx hb dX7_copy_103 (lv_at hl 1 rfl) ?_
                        refine lv_iconst (v := 3) hx hb dX7_copy_105 (by decide) ?_
                        refine lv_icmp_ne (tgt := 115) hx hb dX7_copy_106 (by decide) (fun c_93 => ?_) (fun c_93 => ?_)
                        · refine lv_iload hx hb dX7_copy_115 (lv_at hl 10 rfl) ?_
                          refine lv_if_ge (tgt := 126) hx hb dX7_copy_117 (by decide) (fun c_94 => ?_) (fun c_94 => ?_)
                          · have fc_94 : 0 ≤ n.toInt := zf_le c_94 (by decide) rfl
                            refine lv_aload hx hb dX7_copy_126 (lv_at hl 4 rfl) ?_
                            refine lv_iload_n hx hb dX7_copy_128 rfl (lv_at hl 8 rfl) ?_
                            refine lv_iload hx hb dX7_copy_129 (lv_at hl 10 rfl) ?_
                            refine zc_V (As := [.int i, .int n]) (rest := []) ⟨hx, hb, hml, hown, hts⟩ (c_Sh_hasSpan l D cI cJ cZ cP cS po h0 e0 (he) (si) (i) (n) hy4 hy5 hy6 hy7) (cwV 2 hts gX7_copy_X4_hasSpan rfl rfl rfl (by decide +kernel) ⟨Nat.le_of_ble_eq_true rfl, Nat.le_of_ble_eq_true rfl⟩) hK hN (hZ.kept hS) hP (hP.sub [3] rfl) (va_recv hK hP (ci := 4) (q0 := 3) rfl rfl) rfl hl.1 rfl (Nat.le_of_ble_eq_true rfl) dX7_copy_131 ⟨Nat.le_of_ble_eq_true rfl, Nat.le_of_ble_eq_true rfl⟩ (fun r_95 hr_95 => ?_)
                            rcases hr_95 with ⟨rfl, g_96⟩ | ⟨rfl, g_97, g_98⟩ | ⟨rfl, g_99, g_100, g_101⟩ | ⟨rfl, g_102, g_103, g_104, g_105⟩ | ⟨rfl, g_106, g_107, g_108, g_109⟩
                            · refine lv_if_eq (tgt := 149) hx hb dX7_copy_134 (by decide) (fun c_110 => ?_) (fun c_110 => ?_)
                              · refine lv_aload_n hx hb dX7_copy_149 rfl (lv_at hl 5 rfl) ?_
                                refine lv_iconst (v := 5) hx hb dX7_copy_150 (by decide) ?_
                                skip
                                refine zw_V (As := [.int 5]) (rest := []) (wr := [(xs, .inl (cS, 8, .inr (.inr (.inr (.inr fh))))), (h0, .inr (4, [.ref e0, .int he, .int si])), (e0, .inl (cJ, 160, .inr (.inl fe)))]) ⟨hx, hb, hml, hown, hts⟩ (c_X_refuse_5 l D cI cJ cZ cP cS po x0 xs j0 k0 w0 rd mv xr (im) (lf) fr hy0 hy1 hy2 hy3 H.size) (cwV 1 hts gX7_copy_X7_refuse rfl rfl rfl (by decide +kernel) ⟨Nat.le_of_ble_eq_true rfl, Nat.le_of_ble_eq_true rfl⟩) hK hN (hZ.kept hS) hP hD hS hA [0, 1] [2, 3, 4] rfl rfl (by decide) (by decide) (by decide) (va_recv hK hP (ci := 7) (q0 := 0) rfl rfl) rfl hl.1 rfl (Nat.le_of_ble_eq_true rfl) dX7_copy_151 ⟨Nat.le_of_ble_eq_true rfl, Nat.le_of_ble_eq_true rfl⟩ (fun r_111 u_112 H locs hr_111 hP hD hS => ?_)
                                obtain ⟨q_113, rfl⟩ : ∃ z, z = u_112 := ⟨_, rfl⟩
                                replace hP : va_P D vwCl [(xs, .inl (cS, 8, .inr (.inr (.inr (.inr fh))))), (h0, .inr (4, [.ref e0, .int he, .int si])), (e0, .inl (cJ, 160, .inr (.inl fe))), (x0, .inr (7, [.ref xs, .ref j0, .ref k0, .ref w0, .ref rd, .ref mv, .ref xr, .int im, .int lf])), (xr, .inl (cI, 8, .inl q_113))] H := hP
                                replace hD : va_D _ [(xs, .inl (cS, 8, .inr (.inr (.inr (.inr fh))))), (h0, .inr (4, [.ref e0, .int he, .int si])), (e0, .inl (cJ, 160, .inr (.inl fe))), (x0, .inr (7, [.ref xs, .ref j0, .ref k0, .ref w0, .ref rd, .ref mv, .ref xr, .int im, .int lf])), (xr, .inl (cI, 8, .inl q_113))] := hD
                                obtain rfl := hr_111
                                exact W.iret (v := (-5)) hx hb hr (fun t ht hW => ⟨⟨(-5), (fe, q_113), rfl, trivial, by rw [ht]; exact hP.sub (ws' := [(x0, .inr (7, [.ref xs, .ref j0, .ref k0, .ref w0, .ref rd, .ref mv, .ref xr, .int im, .int lf])), (xr, .inl (cI, 8, .inl q_113)), (xs, .inl (cS, 8, .inr (.inr (.inr (.inr fh))))), (h0, .inr (4, [.ref e0, .int he, .int si])), (e0, .inl (cJ, 160, .inr (.inl fe)))]) [3, 4, 0, 1, 2] rfl, hD.sub (ws' := [(x0, .inr (7, [.ref xs, .ref j0, .ref k0, .ref w0, .ref rd, .ref mv, .ref xr, .int im, .int lf])), (xr, .inl (cI, 8, .inl q_113)), (xs, .inl (cS, 8, .inr (.inr (.inr (.inr fh))))), (h0, .inr (4, [.ref e0, .int he, .int si])), (e0, .inl (cJ, 160, .inr (.inl fe)))]) [3, 4, 0, 1, 2] (by decide) rfl⟩, hS.F ht⟩) hS.2.2 dX7_copy_154
                              · exact absurd c_110 (by decide)
                            · exfalso; omega
                            · refine lv_if_eq (tgt := 149) hx hb dX7_copy_134 (by decide) (fun c_114 => ?_) (fun c_114 => ?_)
                              · refine lv_aload_n hx hb dX7_copy_149 rfl (lv_at hl 5 rfl) ?_
                                refine lv_iconst (v := 5) hx hb dX7_copy_150 (by decide) ?_
                                skip
                                refine zw_V (As := [.int 5]) (rest := []) (wr := [(xs, .inl (cS, 8, .inr (.inr (.inr (.inr fh))))), (h0, .inr (4, [.ref e0, .int he, .int si])), (e0, .inl (cJ, 160, .inr (.inl fe)))]) ⟨hx, hb, hml, hown, hts⟩ (c_X_refuse_5 l D cI cJ cZ cP cS po x0 xs j0 k0 w0 rd mv xr (im) (lf) fr hy0 hy1 hy2 hy3 H.size) (cwV 1 hts gX7_copy_X7_refuse rfl rfl rfl (by decide +kernel) ⟨Nat.le_of_ble_eq_true rfl, Nat.le_of_ble_eq_true rfl⟩) hK hN (hZ.kept hS) hP hD hS hA [0, 1] [2, 3, 4] rfl rfl (by decide) (by decide) (by decide) (va_recv hK hP (ci := 7) (q0 := 0) rfl rfl) rfl hl.1 rfl (Nat.le_of_ble_eq_true rfl) dX7_copy_151 ⟨Nat.le_of_ble_eq_true rfl, Nat.le_of_ble_eq_true rfl⟩ (fun r_115 u_116 H locs hr_115 hP hD hS => ?_)
                                obtain ⟨q_117, rfl⟩ : ∃ z, z = u_116 := ⟨_, rfl⟩
                                replace hP : va_P D vwCl [(xs, .inl (cS, 8, .inr (.inr (.inr (.inr fh))))), (h0, .inr (4, [.ref e0, .int he, .int si])), (e0, .inl (cJ, 160, .inr (.inl fe))), (x0, .inr (7, [.ref xs, .ref j0, .ref k0, .ref w0, .ref rd, .ref mv, .ref xr, .int im, .int lf])), (xr, .inl (cI, 8, .inl q_117))] H := hP
                                replace hD : va_D _ [(xs, .inl (cS, 8, .inr (.inr (.inr (.inr fh))))), (h0, .inr (4, [.ref e0, .int he, .int si])), (e0, .inl (cJ, 160, .inr (.inl fe))), (x0, .inr (7, [.ref xs, .ref j0, .ref k0, .ref w0, .ref rd, .ref mv, .ref xr, .int im, .int lf])), (xr, .inl (cI, 8, .inl q_117))] := hD
                                obtain rfl := hr_115
                                exact W.iret (v := (-5)) hx hb hr (fun t ht hW => ⟨⟨(-5), (fe, q_117), rfl, trivial, by rw [ht]; exact hP.sub (ws' := [(x0, .inr (7, [.ref xs, .ref j0, .ref k0, .ref w0, .ref rd, .ref mv, .ref xr, .int im, .int lf])), (xr, .inl (cI, 8, .inl q_117)), (xs, .inl (cS, 8, .inr (.inr (.inr (.inr fh))))), (h0, .inr (4, [.ref e0, .int he, .int si])), (e0, .inl (cJ, 160, .inr (.inl fe)))]) [3, 4, 0, 1, 2] rfl, hD.sub (ws' := [(x0, .inr (7, [.ref xs, .ref j0, .ref k0, .ref w0, .ref rd, .ref mv, .ref xr, .int im, .int lf])), (xr, .inl (cI, 8, .inl q_117)), (xs, .inl (cS, 8, .inr (.inr (.inr (.inr fh))))), (h0, .inr (4, [.ref e0, .int he, .int si])), (e0, .inl (cJ, 160, .inr (.inl fe)))]) [3, 4, 0, 1, 2] (by decide) rfl⟩, hS.F ht⟩) hS.2.2 dX7_copy_154
                              · exact absurd c_114 (by decide)
                            · refine lv_if_eq (tgt := 149) hx hb dX7_copy_134 (by decide) (fun c_118 => ?_) (fun c_118 => ?_)
                              · refine lv_aload_n hx hb dX7_copy_149 rfl (lv_at hl 5 rfl) ?_
                                refine lv_iconst (v := 5) hx hb dX7_copy_150 (by decide) ?_
                                skip
                                refine zw_V (As := [.int 5]) (rest := []) (wr := [(xs, .inl (cS, 8, .inr (.inr (.inr (.inr fh))))), (h0, .inr (4, [.ref e0, .int he, .int si])), (e0, .inl (cJ, 160, .inr (.inl fe)))]) ⟨hx, hb, hml, hown, hts⟩ (c_X_refuse_5 l D cI cJ cZ cP cS po x0 xs j0 k0 w0 rd mv xr (im) (lf) fr hy0 hy1 hy2 hy3 H.size) (cwV 1 hts gX7_copy_X7_refuse rfl rfl rfl (by decide +kernel) ⟨Nat.le_of_ble_eq_true rfl, Nat.le_of_ble_eq_true rfl⟩) hK hN (hZ.kept hS) hP hD hS hA [0, 1] [2, 3, 4] rfl rfl (by decide) (by decide) (by decide) (va_recv hK hP (ci := 7) (q0 := 0) rfl rfl) rfl hl.1 rfl (Nat.le_of_ble_eq_true rfl) dX7_copy_151 ⟨Nat.le_of_ble_eq_true rfl, Nat.le_of_ble_eq_true rfl⟩ (fun r_119 u_120 H locs hr_119 hP hD hS => ?_)
                                obtain ⟨q_121, rfl⟩ : ∃ z, z = u_120 := ⟨_, rfl⟩
                                replace hP : va_P D vwCl [(xs, .inl (cS, 8, .inr (.inr (.inr (.inr fh))))), (h0, .inr (4, [.ref e0, .int he, .int si])), (e0, .inl (cJ, 160, .inr (.inl fe))), (x0, .inr (7, [.ref xs, .ref j0, .ref k0, .ref w0, .ref rd, .ref mv, .ref xr, .int im, .int lf])), (xr, .inl (cI, 8, .inl q_121))] H := hP
                                replace hD : va_D _ [(xs, .inl (cS, 8, .inr (.inr (.inr (.inr fh))))), (h0, .inr (4, [.ref e0, .int he, .int si])), (e0, .inl (cJ, 160, .inr (.inl fe))), (x0, .inr (7, [.ref xs, .ref j0, .ref k0, .ref w0, .ref rd, .ref mv, .ref xr, .int im, .int lf])), (xr, .inl (cI, 8, .inl q_121))] := hD
                                obtain rfl := hr_119
                                exact W.iret (v := (-5)) hx hb hr (fun t ht hW => ⟨⟨(-5), (fe, q_121), rfl, trivial, by rw [ht]; exact hP.sub (ws' := [(x0, .inr (7, [.ref xs, .ref j0, .ref k0, .ref w0, .ref rd, .ref mv, .ref xr, .int im, .int lf])), (xr, .inl (cI, 8, .inl q_121)), (xs, .inl (cS, 8, .inr (.inr (.inr (.inr fh))))), (h0, .inr (4, [.ref e0, .int he, .int si])), (e0, .inl (cJ, 160, .inr (.inl fe)))]) [3, 4, 0, 1, 2] rfl, hD.sub (ws' := [(x0, .inr (7, [.ref xs, .ref j0, .ref k0, .ref w0, .ref rd, .ref mv, .ref xr, .int im, .int lf])), (xr, .inl (cI, 8, .inl q_121)), (xs, .inl (cS, 8, .inr (.inr (.inr (.inr fh))))), (h0, .inr (4, [.ref e0, .int he, .int si])), (e0, .inl (cJ, 160, .inr (.inl fe)))]) [3, 4, 0, 1, 2] (by decide) rfl⟩, hS.F ht⟩) hS.2.2 dX7_copy_154
                              · exact absurd c_118 (by decide)
                            · refine lv_if_eq (tgt := 149) hx hb dX7_copy_134 (by decide) (fun c_122 => ?_) (fun c_122 => ?_)
                              · exact absurd c_122 (by decide)
                              · refine lv_aload hx hb dX7_copy_137 (lv_at hl 3 rfl) ?_
                                refine lv_iload hx hb dX7_copy_139 (lv_at hl 9 rfl) ?_
                                refine lv_iload hx hb dX7_copy_141 (lv_at hl 10 rfl) ?_
                                refine zc_V (As := [.int j, .int n]) (rest := []) ⟨hx, hb, hml, hown, hts⟩ (c_Sh_hasSpan l D cI cJ cZ cP cS po h0 e0 (he) (si) (j) (n) hy4 hy5 hy6 hy7) (cwV 2 hts gX7_copy_X4_hasSpan rfl rfl rfl (by decide +kernel) ⟨Nat.le_of_ble_eq_true rfl, Nat.le_of_ble_eq_true rfl⟩) hK hN (hZ.kept hS) hP (hP.sub [3] rfl) (va_recv hK hP (ci := 4) (q0 := 3) rfl rfl) rfl hl.1 rfl (Nat.le_of_ble_eq_true rfl) dX7_copy_143 ⟨Nat.le_of_ble_eq_true rfl, Nat.le_of_ble_eq_true rfl⟩ (fun r_123 hr_123 => ?_)
                                rcases hr_123 with ⟨rfl, g_124⟩ | ⟨rfl, g_125, g_126⟩ | ⟨rfl, g_127, g_128, g_129⟩ | ⟨rfl, g_130, g_131, g_132, g_133⟩ | ⟨rfl, g_134, g_135, g_136, g_137⟩
                                · refine lv_if_ne (tgt := 155) hx hb dX7_copy_146 (by decide) (fun c_138 => ?_) (fun c_138 => ?_)
                                  · exact absurd c_138 (by decide)
                                  · refine lv_aload_n hx hb dX7_copy_149 rfl (lv_at hl 5 rfl) ?_
                                    refine lv_iconst (v := 5) hx hb dX7_copy_150 (by decide) ?_
                                    skip
                                    refine zw_V (As := [.int 5]) (rest := []) (wr := [(xs, .inl (cS, 8, .inr (.inr (.inr (.inr fh))))), (h0, .inr (4, [.ref e0, .int he, .int si])), (e0, .inl (cJ, 160, .inr (.inl fe)))]) ⟨hx, hb, hml, hown, hts⟩ (c_X_refuse_5 l D cI cJ cZ cP cS po x0 xs j0 k0 w0 rd mv xr (im) (lf) fr hy0 hy1 hy2 hy3 H.size) (cwV 1 hts gX7_copy_X7_refuse rfl rfl rfl (by decide +kernel) ⟨Nat.le_of_ble_eq_true rfl, Nat.le_of_ble_eq_true rfl⟩) hK hN (hZ.kept hS) hP hD hS hA [0, 1] [2, 3, 4] rfl rfl (by decide) (by decide) (by decide) (va_recv hK hP (ci := 7) (q0 := 0) rfl rfl) rfl hl.1 rfl (Nat.le_of_ble_eq_true rfl) dX7_copy_151 ⟨Nat.le_of_ble_eq_true rfl, Nat.le_of_ble_eq_true rfl⟩ (fun r_139 u_140 H locs hr_139 hP hD hS => ?_)
                                    obtain ⟨q_141, rfl⟩ : ∃ z, z = u_140 := ⟨_, rfl⟩
                                    replace hP : va_P D vwCl [(xs, .inl (cS, 8, .inr (.inr (.inr (.inr fh))))), (h0, .inr (4, [.ref e0, .int he, .int si])), (e0, .inl (cJ, 160, .inr (.inl fe))), (x0, .inr (7, [.ref xs, .ref j0, .ref k0, .ref w0, .ref rd, .ref mv, .ref xr, .int im, .int lf])), (xr, .inl (cI, 8, .inl q_141))] H := hP
                                    replace hD : va_D _ [(xs, .inl (cS, 8, .inr (.inr (.inr (.inr fh))))), (h0, .inr (4, [.ref e0, .int he, .int si])), (e0, .inl (cJ, 160, .inr (.inl fe))), (x0, .inr (7, [.ref xs, .ref j0, .ref k0, .ref w0, .ref rd, .ref mv, .ref xr, .int im, .int lf])), (xr, .inl (cI, 8, .inl q_141))] := hD
                                    obtain rfl := hr_139
                                    exact W.iret (v := (-5)) hx hb hr (fun t ht hW => ⟨⟨(-5), (fe, q_141), rfl, trivial, by rw [ht]; exact hP.sub (ws' := [(x0, .inr (7, [.ref xs, .ref j0, .ref k0, .ref w0, .ref rd, .ref mv, .ref xr, .int im, .int lf])), (xr, .inl (cI, 8, .inl q_141)), (xs, .inl (cS, 8, .inr (.inr (.inr (.inr fh))))), (h0, .inr (4, [.ref e0, .int he, .int si])), (e0, .inl (cJ, 160, .inr (.inl fe)))]) [3, 4, 0, 1, 2] rfl, hD.sub (ws' := [(x0, .inr (7, [.ref xs, .ref j0, .ref k0, .ref w0, .ref rd, .ref mv, .ref xr, .int im, .int lf])), (xr, .inl (cI, 8, .inl q_141)), (xs, .inl (cS, 8, .inr (.inr (.inr (.inr fh))))), (h0, .inr (4, [.ref e0, .int he, .int si])), (e0, .inl (cJ, 160, .inr (.inl fe)))]) [3, 4, 0, 1, 2] (by decide) rfl⟩, hS.F ht⟩) hS.2.2 dX7_copy_154
                                · exfalso; omega
                                · exfalso; omega
                                · refine lv_if_ne (tgt := 155) hx hb dX7_copy_146 (by decide) (fun c_142 => ?_) (fun c_142 => ?_)
                                  · exact absurd c_142 (by decide)
                                  · refine lv_aload_n hx hb dX7_copy_149 rfl (lv_at hl 5 rfl) ?_
                                    refine lv_iconst (v := 5) hx hb dX7_copy_150 (by decide) ?_
                                    skip
                                    refine zw_V (As := [.int 5]) (rest := []) (wr := [(xs, .inl (cS, 8, .inr (.inr (.inr (.inr fh))))), (h0, .inr (4, [.ref e0, .int he, .int si])), (e0, .inl (cJ, 160, .inr (.inl fe)))]) ⟨hx, hb, hml, hown, hts⟩ (c_X_refuse_5 l D cI cJ cZ cP cS po x0 xs j0 k0 w0 rd mv xr (im) (lf) fr hy0 hy1 hy2 hy3 H.size) (cwV 1 hts gX7_copy_X7_refuse rfl rfl rfl (by decide +kernel) ⟨Nat.le_of_ble_eq_true rfl, Nat.le_of_ble_eq_true rfl⟩) hK hN (hZ.kept hS) hP hD hS hA [0, 1] [2, 3, 4] rfl rfl (by decide) (by decide) (by decide) (va_recv hK hP (ci := 7) (q0 := 0) rfl rfl) rfl hl.1 rfl (Nat.le_of_ble_eq_true rfl) dX7_copy_151 ⟨Nat.le_of_ble_eq_true rfl, Nat.le_of_ble_eq_true rfl⟩ (fun r_143 u_144 H locs hr_143 hP hD hS => ?_)
                                    obtain ⟨q_145, rfl⟩ : ∃ z, z = u_144 := ⟨_, rfl⟩
                                    replace hP : va_P D vwCl [(xs, .inl (cS, 8, .inr (.inr (.inr (.inr fh))))), (h0, .inr (4, [.ref e0, .int he, .int si])), (e0, .inl (cJ, 160, .inr (.inl fe))), (x0, .inr (7, [.ref xs, .ref j0, .ref k0, .ref w0, .ref rd, .ref mv, .ref xr, .int im, .int lf])), (xr, .inl (cI, 8, .inl q_145))] H := hP
                                    replace hD : va_D _ [(xs, .inl (cS, 8, .inr (.inr (.inr (.inr fh))))), (h0, .inr (4, [.ref e0, .int he, .int si])), (e0, .inl (cJ, 160, .inr (.inl fe))), (x0, .inr (7, [.ref xs, .ref j0, .ref k0, .ref w0, .ref rd, .ref mv, .ref xr, .int im, .int lf])), (xr, .inl (cI, 8, .inl q_145))] := hD
                                    obtain rfl := hr_143
                                    exact W.iret (v := (-5)) hx hb hr (fun t ht hW => ⟨⟨(-5), (fe, q_145), rfl, trivial, by rw [ht]; exact hP.sub (ws' := [(x0, .inr (7, [.ref xs, .ref j0, .ref k0, .ref w0, .ref rd, .ref mv, .ref xr, .int im, .int lf])), (xr, .inl (cI, 8, .inl q_145)), (xs, .inl (cS, 8, .inr (.inr (.inr (.inr fh))))), (h0, .inr (4, [.ref e0, .int he, .int si])), (e0, .inl (cJ, 160, .inr (.inl fe)))]) [3, 4, 0, 1, 2] rfl, hD.sub (ws' := [(x0, .inr (7, [.ref xs, .ref j0, .ref k0, .ref w0, .ref rd, .ref mv, .ref xr, .int im, .int lf])), (xr, .inl (cI, 8, .inl q_145)), (xs, .inl (cS, 8, .inr (.inr (.inr (.inr fh))))), (h0, .inr (4, [.ref e0, .int he, .int si])), (e0, .inl (cJ, 160, .inr (.inl fe)))]) [3, 4, 0, 1, 2] (by decide) rfl⟩, hS.F ht⟩) hS.2.2 dX7_copy_154
                                · refine lv_if_ne (tgt := 155) hx hb dX7_copy_146 (by decide) (fun c_146 => ?_) (fun c_146 => ?_)
                                  · refine lv_aload hx hb dX7_copy_155 (lv_at hl 4 rfl) ?_
                                    refine va_get (D := D) (ci := 4) (v := .ref e0) (C := RX4) (T := TX4) (N := 3) hx hb hts hi_X7_copy_4 hown hK hP 3 rfl rfl 0 (by decide) (hts (.fieldLink RX7 90 "TheLiningsInIt$Shelf" "elements" "[J") (List.mem_of_getElem? (i := 2) rfl)) (fun _ h9 => h9) rfl dX7_copy_157 ?_
                                    refine lv_iload_n hx hb dX7_copy_160 rfl (lv_at hl 8 rfl) ?_
                                    refine lv_aload hx hb dX7_copy_161 (lv_at hl 3 rfl) ?_
                                    refine va_get (D := D) (ci := 4) (v := .ref e0) (C := RX4) (T := TX4) (N := 3) hx hb hts hi_X7_copy_4 hown hK hP 3 rfl rfl 0 (by decide) (hts (.fieldLink RX7 90 "TheLiningsInIt$Shelf" "elements" "[J") (List.mem_of_getElem? (i := 2) rfl)) (fun _ h9 => h9) rfl dX7_copy_163 ?_
                                    refine lv_iload hx hb dX7_copy_166 (lv_at hl 9 rfl) ?_
                                    refine lv_iload hx hb dX7_copy_168 (lv_at hl 10 rfl) ?_
                                    refine va_copyl hx hb (hml.trans hl.1.symm) hown (hts (.methodLink RX7 94 arraycopyName) (List.mem_of_getElem? (i := 3) rfl)) (hts _ (List.mem_of_getElem? (i := 4) rfl)) (hts _ (List.mem_of_getElem? (i := 5) rfl)) (hts _ (List.mem_of_getElem? (i := 6) rfl)) hK hP hD hS 4 4 1 1 rfl rfl rfl rfl rfl (fun h => by have h9 := zf_lt h rfl (show (0 : Int32).toInt = 0 from by decide); omega) (fun h => by have h9 := zf_lt h rfl (show (0 : Int32).toInt = 0 from by decide); omega) (fun h => by have h9 := zf_lt h rfl (show (0 : Int32).toInt = 0 from by decide); omega) (by (show (i : Int32).toInt.toNat + (n : Int32).toInt.toNat ≤ 160; omega)) (by (show (j : Int32).toInt.toNat + (n : Int32).toInt.toNat ≤ 160; omega)) (fun _ _ => rfl) (Nat.le_of_ble_eq_true rfl) (by decide) dX7_copy_170 (fun H locs hP hD hS => ?_)
                                    obtain ⟨g_147, hg_147⟩ : ∃ g : Nat → Int64, g = va_cpy fe fe i.toNatClampNeg j.toNatClampNeg n.toNatClampNeg := ⟨_, rfl⟩
                                    rw [← hg_147] at hP hD
                                    replace hP : va_P D vwCl [(x0, .inr (7, [.ref xs, .ref j0, .ref k0, .ref w0, .ref rd, .ref mv, .ref xr, .int im, .int lf])), (xr, .inl (cI, 8, .inl fr)), (xs, .inl (cS, 8, .inr (.inr (.inr (.inr fh))))), (h0, .inr (4, [.ref e0, .int he, .int si])), (e0, .inl (cJ, 160, .inr (.inl g_147)))] H := hP
                                    replace hD : va_D _ [(x0, .inr (7, [.ref xs, .ref j0, .ref k0, .ref w0, .ref rd, .ref mv, .ref xr, .int im, .int lf])), (xr, .inl (cI, 8, .inl fr)), (xs, .inl (cS, 8, .inr (.inr (.inr (.inr fh))))), (h0, .inr (4, [.ref e0, .int he, .int si])), (e0, .inl (cJ, 160, .inr (.inl g_147)))] := hD
                                    refine lv_iconst (v := 1) hx hb dX7_copy_173 (by decide) ?_
                                    exact W.iret (v := 1) hx hb hr (fun t ht hW => ⟨⟨1, (g_147, fr), rfl, trivial, by rw [ht]; exact hP.sub (ws' := [(x0, .inr (7, [.ref xs, .ref j0, .ref k0, .ref w0, .ref rd, .ref mv, .ref xr, .int im, .int lf])), (xr, .inl (cI, 8, .inl fr)), (xs, .inl (cS, 8, .inr (.inr (.inr (.inr fh))))), (h0, .inr (4, [.ref e0, .int he, .int si])), (e0, .inl (cJ, 160, .inr (.inl g_147)))]) [0, 1, 2, 3, 4] rfl, hD.sub (ws' := [(x0, .inr (7, [.ref xs, .ref j0, .ref k0, .ref w0, .ref rd, .ref mv, .ref xr, .int im, .int lf])), (xr, .inl (cI, 8, .inl fr)), (xs, .inl (cS, 8, .inr (.inr (.inr (.inr fh))))), (h0, .inr (4, [.ref e0, .int he, .int si])), (e0, .inl (cJ, 160, .inr (.inl g_147)))]) [0, 1, 2, 3, 4] (by decide) rfl⟩, hS.F ht⟩) hS.2.2 dX7_copy_174
                                  · exact absurd c_146 (by decide)
                          · have fc_94 : n.toInt < 0 := zf_nle c_94 (by decide) rfl
                            refine lv_aload_n hx hb dX7_copy_120 rfl (lv_at hl 5 rfl) ?_
                            refine lv_iconst (v := 4) hx hb dX7_copy_121 (by decide) ?_
                            skip
                            refine zw_V (As := [.int 4]) (rest := []) (wr := [(xs, .inl (cS, 8, .inr (.inr (.inr (.inr fh))))), (h0, .inr (4, [.ref e0, .int he, .int si])), (e0, .inl (cJ, 160, .inr (.inl fe)))]) ⟨hx, hb, hml, hown, hts⟩ (c_X_refuse_4 l D cI cJ cZ cP cS po x0 xs j0 k0 w0 rd mv xr (im) (lf) fr hy0 hy1 hy2 hy3 H.size) (cwV 1 hts gX7_copy_X7_refuse rfl rfl rfl (by decide +kernel) ⟨Nat.le_of_ble_eq_true rfl, Nat.le_of_ble_eq_true rfl⟩) hK hN (hZ.kept hS) hP hD hS hA [0, 1] [2, 3, 4] rfl rfl (by decide) (by decide) (by decide) (va_recv hK hP (ci := 7) (q0 := 0) rfl rfl) rfl hl.1 rfl (Nat.le_of_ble_eq_true rfl) dX7_copy_122 ⟨Nat.le_of_ble_eq_true rfl, Nat.le_of_ble_eq_true rfl⟩ (fun r_148 u_149 H locs hr_148 hP hD hS => ?_)
                            obtain ⟨q_150, rfl⟩ : ∃ z, z = u_149 := ⟨_, rfl⟩
                            replace hP : va_P D vwCl [(xs, .inl (cS, 8, .inr (.inr (.inr (.inr fh))))), (h0, .inr (4, [.ref e0, .int he, .int si])), (e0, .inl (cJ, 160, .inr (.inl fe))), (x0, .inr (7, [.ref xs, .ref j0, .ref k0, .ref w0, .ref rd, .ref mv, .ref xr, .int im, .int lf])), (xr, .inl (cI, 8, .inl q_150))] H := hP
                            replace hD : va_D _ [(xs, .inl (cS, 8, .inr (.inr (.inr (.inr fh))))), (h0, .inr (4, [.ref e0, .int he, .int si])), (e0, .inl (cJ, 160, .inr (.inl fe))), (x0, .inr (7, [.ref xs, .ref j0, .ref k0, .ref w0, .ref rd, .ref mv, .ref xr, .int im, .int lf])), (xr, .inl (cI, 8, .inl q_150))] := hD
                            obtain rfl := hr_148
                            exact W.iret (v := (-4)) hx hb hr (fun t ht hW => ⟨⟨(-4), (fe, q_150), rfl, trivial, by rw [ht]; exact hP.sub (ws' := [(x0, .inr (7, [.ref xs, .ref j0, .ref k0, .ref w0, .ref rd, .ref mv, .ref xr, .int im, .int lf])), (xr, .inl (cI, 8, .inl q_150)), (xs, .inl (cS, 8, .inr (.inr (.inr (.inr fh))))), (h0, .inr (4, [.ref e0, .int he, .int si])), (e0, .inl (cJ, 160, .inr (.inl fe)))]) [3, 4, 0, 1, 2] rfl, hD.sub (ws' := [(x0, .inr (7, [.ref xs, .ref j0, .ref k0, .ref w0, .ref rd, .ref mv, .ref xr, .int im, .int lf])), (xr, .inl (cI, 8, .inl q_150)), (xs, .inl (cS, 8, .inr (.inr (.inr (.inr fh))))), (h0, .inr (4, [.ref e0, .int he, .int si])), (e0, .inl (cJ, 160, .inr (.inl fe)))]) [3, 4, 0, 1, 2] (by decide) rfl⟩, hS.F ht⟩) hS.2.2 dX7_copy_125
                        · exact absurd c_93 (by decide)
                    · exact absurd c_91 (by decide)
              · exfalso; have fc_88 : he.toInt ≠ he.toInt := zf_ne c_88 rfl rfl; omega
theorem hi_X7_element_4 : ∀ w ∈ u_ws RX4 TX4 3, w ∈ wsX7_element := fun w h => (goodIn_r (u_ws RX4 TX4 3) [22, 23, 24] rfl (by decide +kernel) w h).1
set_option maxHeartbeats 4000000 in
set_option maxRecDepth 100000 in
theorem c_X_element (l : Launch) (D : va_G) (cI cJ cZ cP cS : ClassId) (po : zPool) (x0 xs j0 k0 w0 rd mv xr : Nat) (im lf : Int32) (fr : Nat → Int32) (fh : Nat → Option Nat) (s_ : Int32) (h0 e0 : Nat) (he si : Int32) (fe : Nat → Int64) (i : Int32) (hy0 : 0 ≤ im.toInt) (hy1 : im.toInt ≤ 1) (hy2 : (-1) ≤ lf.toInt) (hy3 : lf.toInt ≤ 160) (hy4 : (-1) ≤ he.toInt) (hy5 : he.toInt ≤ 103) (hy6 : 0 ≤ si.toInt) (hy7 : si.toInt ≤ 160) (hfs : 0 ≤ s_.toInt → s_.toInt ≤ 7 → fh s_.toNatClampNeg = some h0) (hpz : Nat) : Met l yX7_element wsX7_element ({ frames := 2, cells := 0, slots := 0, locals := 43 }) (va_Pc [.ref x0, .int s_, .int i] (zW D (zKT cI cJ cZ cP cS) po [(x0, .inr (7, [.ref xs, .ref j0, .ref k0, .ref w0, .ref rd, .ref mv, .ref xr, .int im, .int lf])), (xs, .inl (cS, 8, .inr (.inr (.inr (.inr fh))))), (h0, .inr (4, [.ref e0, .int he, .int si])), (e0, .inl (cJ, 160, .inr (.inl fe)))] hpz)) (va_Ql (fun (r : Int64) (_ : Unit) => True) (zB D [(x0, .inr (7, [.ref xs, .ref j0, .ref k0, .ref w0, .ref rd, .ref mv, .ref xr, .int im, .int lf])), (xs, .inl (cS, 8, .inr (.inr (.inr (.inr fh))))), (h0, .inr (4, [.ref e0, .int he, .int si])), (e0, .inl (cJ, 160, .inr (.inl fe)))] hpz (fun (_ : Unit) => [(x0, .inr (7, [.ref xs, .ref j0, .ref k0, .ref w0, .ref rd, .ref mv, .ref xr, .int im, .int lf])), (xs, .inl (cS, 8, .inr (.inr (.inr (.inr fh))))), (h0, .inr (4, [.ref e0, .int he, .int si])), (e0, .inl (cJ, 160, .inr (.inl fe)))])) (va_A [(x0, .inr (7, [.ref xs, .ref j0, .ref k0, .ref w0, .ref rd, .ref mv, .ref xr, .int im, .int lf])), (xs, .inl (cS, 8, .inr (.inr (.inr (.inr fh))))), (h0, .inr (4, [.ref e0, .int he, .int si])), (e0, .inl (cJ, 160, .inr (.inl fe)))] hpz)) 0 0 (va_A [(x0, .inr (7, [.ref xs, .ref j0, .ref k0, .ref w0, .ref rd, .ref mv, .ref xr, .int im, .int lf])), (xs, .inl (cS, 8, .inr (.inr (.inr (.inr fh))))), (h0, .inr (4, [.ref e0, .int he, .int si])), (e0, .inl (cJ, 160, .inr (.inl fe)))] hpz) := by
  refine Met.ofW (cc := cX7_element) (maxL := 4) (ret := (some .long)) (by decide) rfl ?_
  intro p e s m args below meth c s₁ B hml hv
  obtain ⟨rfl, hsz, hP, hK, hD0, hN, hZ⟩ := hv
  have hx := B.exec
  have hb := B.bytes
  have hr := B.returns
  have hts := atoms_spec (ws := wsX7_element) B.pre
  have hown : s.vm.findClass RX7 = some m.cls := findClass_of_methodNamed B.named
  have hlocks := B.notSynchronized
  subst hsz
  have hD := hD0.self (sz := s.heap.size)
  have hA : ∀ q : Nat, s.heap.size ≤ q → va_A [(x0, .inr (7, [.ref xs, .ref j0, .ref k0, .ref w0, .ref rd, .ref mv, .ref xr, .int im, .int lf])), (xs, .inl (cS, 8, .inr (.inr (.inr (.inr fh))))), (h0, .inr (4, [.ref e0, .int he, .int si])), (e0, .inl (cJ, 160, .inr (.inl fe)))] s.heap.size q := fun q h => Or.inr h
  have hS : va_S (va_A [(x0, .inr (7, [.ref xs, .ref j0, .ref k0, .ref w0, .ref rd, .ref mv, .ref xr, .int im, .int lf])), (xs, .inl (cS, 8, .inr (.inr (.inr (.inr fh))))), (h0, .inr (4, [.ref e0, .int he, .int si])), (e0, .inl (cJ, 160, .inr (.inl fe)))] s.heap.size) s.heap s.heap [] := va_S.rf
  replace hP : va_P D vwCl _ s.heap := hP
  have hl := lv_entry ([.ref x0, .int s_, .int i]) (n := 4) (Nat.le_of_ble_eq_true rfl)
  rw [lg_entry_eq]
  generalize (lg_sl ([.ref x0, .int s_, .int i]) ++ List.replicate (4 - (lg_sl ([.ref x0, .int s_, .int i])).length) Slot.unset).toArray = ls at hl ⊢
  replace hl : lv_has ls 4 [(0, .ref x0), (1, .int s_), (2, .int i)] := hl
  refine zw_start (fun H locs hH hL => ?_)
  replace hP : va_P D vwCl [(x0, .inr (7, [.ref xs, .ref j0, .ref k0, .ref w0, .ref rd, .ref mv, .ref xr, .int im, .int lf])), (xs, .inl (cS, 8, .inr (.inr (.inr (.inr fh))))), (h0, .inr (4, [.ref e0, .int he, .int si])), (e0, .inl (cJ, 160, .inr (.inl fe)))] H := by rw [hH]; exact hP
  replace hS : va_S (va_A [(x0, .inr (7, [.ref xs, .ref j0, .ref k0, .ref w0, .ref rd, .ref mv, .ref xr, .int im, .int lf])), (xs, .inl (cS, 8, .inr (.inr (.inr (.inr fh))))), (h0, .inr (4, [.ref e0, .int he, .int si])), (e0, .inl (cJ, 160, .inr (.inl fe)))] s.heap.size) s.heap H locs := by rw [hH, hL]; exact hS
  clear hH hL
  refine lv_aload_n hx hb dX7_element_0 rfl (lv_at hl 0 rfl) ?_
  refine lv_iload_n hx hb dX7_element_1 rfl (lv_at hl 1 rfl) ?_
  refine zc_Vq (As := [.int s_]) (rest := []) ⟨hx, hb, hml, hown, hts⟩ (c_X_shelfAt l D cI cJ cZ cP cS po x0 xs j0 k0 w0 rd mv xr (im) (lf) ((fun _ => 0)) fh (s_) hy0 hy1 hy2 hy3) (cwV 1 hts gX7_element_X7_shelfAt rfl rfl rfl (by decide +kernel) ⟨Nat.le_of_ble_eq_true rfl, Nat.le_of_ble_eq_true rfl⟩) hK hN (hZ.kept hS) hP (hP.sub [0, 1] rfl) (va_recv hK hP (ci := 7) (q0 := 0) rfl rfl) rfl hl.1 rfl (Nat.le_of_ble_eq_true rfl) dX7_element_2 ⟨Nat.le_of_ble_eq_true rfl, Nat.le_of_ble_eq_true rfl⟩ (fun r_1 hr_1 => ?_)
  rcases hr_1 with ⟨rfl, g_2⟩ | ⟨rfl, g_3, g_4⟩ | ⟨rfl, g_5, g_6⟩
  · refine lv_astore_nN (lv' := [(3, .null), (0, .ref x0), (1, .int s_), (2, .int i)]) hx hb dX7_element_5 rfl hl (by decide) rfl (fun ls hl => ?_)
    refine lv_aload_nN hx hb dX7_element_6 rfl (lv_at hl 0 rfl) ?_
    refine lv_ifnullN (tgt := 26) hx hb dX7_element_7 (by decide) ?_
    refine lv_lconst (v := 0) hx hb dX7_element_26 (by decide) ?_
    exact W.lret (v := 0) hx hb hr (fun t ht hW => ⟨⟨0, (), rfl, trivial, by rw [ht]; exact hP.sub (ws' := [(x0, .inr (7, [.ref xs, .ref j0, .ref k0, .ref w0, .ref rd, .ref mv, .ref xr, .int im, .int lf])), (xs, .inl (cS, 8, .inr (.inr (.inr (.inr fh))))), (h0, .inr (4, [.ref e0, .int he, .int si])), (e0, .inl (cJ, 160, .inr (.inl fe)))]) [0, 1, 2, 3] rfl, hD.sub (ws' := [(x0, .inr (7, [.ref xs, .ref j0, .ref k0, .ref w0, .ref rd, .ref mv, .ref xr, .int im, .int lf])), (xs, .inl (cS, 8, .inr (.inr (.inr (.inr fh))))), (h0, .inr (4, [.ref e0, .int he, .int si])), (e0, .inl (cJ, 160, .inr (.inl fe)))]) [0, 1, 2, 3] (by decide) rfl⟩, hS.F ht⟩) hS.2.2 dX7_element_27
  · refine lv_astore_nN (lv' := [(3, .null), (0, .ref x0), (1, .int s_), (2, .int i)]) hx hb dX7_element_5 rfl hl (by decide) rfl (fun ls hl => ?_)
    refine lv_aload_nN hx hb dX7_element_6 rfl (lv_at hl 0 rfl) ?_
    refine lv_ifnullN (tgt := 26) hx hb dX7_element_7 (by decide) ?_
    refine lv_lconst (v := 0) hx hb dX7_element_26 (by decide) ?_
    exact W.lret (v := 0) hx hb hr (fun t ht hW => ⟨⟨0, (), rfl, trivial, by rw [ht]; exact hP.sub (ws' := [(x0, .inr (7, [.ref xs, .ref j0, .ref k0, .ref w0, .ref rd, .ref mv, .ref xr, .int im, .int lf])), (xs, .inl (cS, 8, .inr (.inr (.inr (.inr fh))))), (h0, .inr (4, [.ref e0, .int he, .int si])), (e0, .inl (cJ, 160, .inr (.inl fe)))]) [0, 1, 2, 3] rfl, hD.sub (ws' := [(x0, .inr (7, [.ref xs, .ref j0, .ref k0, .ref w0, .ref rd, .ref mv, .ref xr, .int im, .int lf])), (xs, .inl (cS, 8, .inr (.inr (.inr (.inr fh))))), (h0, .inr (4, [.ref e0, .int he, .int si])), (e0, .inl (cJ, 160, .inr (.inl fe)))]) [0, 1, 2, 3] (by decide) rfl⟩, hS.F ht⟩) hS.2.2 dX7_element_27
  · rw [hfs (by omega) (by omega)]
    refine W.eq (g2 := F0 m 5 ls (.ref h0 :: [])) rfl ?_
    refine lv_astore_n (lv' := [(3, .ref h0), (0, .ref x0), (1, .int s_), (2, .int i)]) hx hb dX7_element_5 rfl hl (by decide) rfl (fun ls hl => ?_)
    refine lv_aload_n hx hb dX7_element_6 rfl (lv_at hl 0 rfl) ?_
    refine lv_ifnull hx hb dX7_element_7 ?_
    refine lv_aload_n hx hb dX7_element_10 rfl (lv_at hl 0 rfl) ?_
    refine zc_V (As := []) (rest := []) ⟨hx, hb, hml, hown, hts⟩ (c_Sh_noRow l D cI cJ cZ cP cS po h0 e0 (he) (si) hy4 hy5 hy6 hy7) (cwV 0 hts gX7_element_X4_noRow rfl rfl rfl (by decide +kernel) ⟨Nat.le_of_ble_eq_true rfl, Nat.le_of_ble_eq_true rfl⟩) hK hN (hZ.kept hS) hP (hP.sub [2] rfl) (va_recv hK hP (ci := 4) (q0 := 2) rfl rfl) rfl hl.1 rfl (Nat.le_of_ble_eq_true rfl) dX7_element_11 ⟨Nat.le_of_ble_eq_true rfl, Nat.le_of_ble_eq_true rfl⟩ (fun r_7 hr_7 => ?_)
    rcases hr_7 with ⟨rfl, g_8, g_9⟩ | ⟨rfl, g_10, g_11⟩ | ⟨rfl, g_12⟩
    · refine lv_if_ne (tgt := 26) hx hb dX7_element_14 (by decide) (fun c_13 => ?_) (fun c_13 => ?_)
      · refine lv_lconst (v := 0) hx hb dX7_element_26 (by decide) ?_
        exact W.lret (v := 0) hx hb hr (fun t ht hW => ⟨⟨0, (), rfl, trivial, by rw [ht]; exact hP.sub (ws' := [(x0, .inr (7, [.ref xs, .ref j0, .ref k0, .ref w0, .ref rd, .ref mv, .ref xr, .int im, .int lf])), (xs, .inl (cS, 8, .inr (.inr (.inr (.inr fh))))), (h0, .inr (4, [.ref e0, .int he, .int si])), (e0, .inl (cJ, 160, .inr (.inl fe)))]) [0, 1, 2, 3] rfl, hD.sub (ws' := [(x0, .inr (7, [.ref xs, .ref j0, .ref k0, .ref w0, .ref rd, .ref mv, .ref xr, .int im, .int lf])), (xs, .inl (cS, 8, .inr (.inr (.inr (.inr fh))))), (h0, .inr (4, [.ref e0, .int he, .int si])), (e0, .inl (cJ, 160, .inr (.inl fe)))]) [0, 1, 2, 3] (by decide) rfl⟩, hS.F ht⟩) hS.2.2 dX7_element_27
      · exact absurd c_13 (by decide)
    · refine lv_if_ne (tgt := 26) hx hb dX7_element_14 (by decide) (fun c_14 => ?_) (fun c_14 => ?_)
      · refine lv_lconst (v := 0) hx hb dX7_element_26 (by decide) ?_
        exact W.lret (v := 0) hx hb hr (fun t ht hW => ⟨⟨0, (), rfl, trivial, by rw [ht]; exact hP.sub (ws' := [(x0, .inr (7, [.ref xs, .ref j0, .ref k0, .ref w0, .ref rd, .ref mv, .ref xr, .int im, .int lf])), (xs, .inl (cS, 8, .inr (.inr (.inr (.inr fh))))), (h0, .inr (4, [.ref e0, .int he, .int si])), (e0, .inl (cJ, 160, .inr (.inl fe)))]) [0, 1, 2, 3] rfl, hD.sub (ws' := [(x0, .inr (7, [.ref xs, .ref j0, .ref k0, .ref w0, .ref rd, .ref mv, .ref xr, .int im, .int lf])), (xs, .inl (cS, 8, .inr (.inr (.inr (.inr fh))))), (h0, .inr (4, [.ref e0, .int he, .int si])), (e0, .inl (cJ, 160, .inr (.inl fe)))]) [0, 1, 2, 3] (by decide) rfl⟩, hS.F ht⟩) hS.2.2 dX7_element_27
      · exact absurd c_14 (by decide)
    · refine lv_if_ne (tgt := 26) hx hb dX7_element_14 (by decide) (fun c_15 => ?_) (fun c_15 => ?_)
      · exact absurd c_15 (by decide)
      · refine lv_aload_n hx hb dX7_element_17 rfl (lv_at hl 0 rfl) ?_
        refine lv_iload_n hx hb dX7_element_18 rfl (lv_at hl 3 rfl) ?_
        refine lv_iconst (v := 1) hx hb dX7_element_19 (by decide) ?_
        have kc1 : (1 : Int32).toInt = 1 := by decide
        refine zc_V (As := [.int i, .int 1]) (rest := []) ⟨hx, hb, hml, hown, hts⟩ (c_Sh_hasSpan l D cI cJ cZ cP cS po h0 e0 (he) (si) (i) (1) hy4 hy5 hy6 hy7) (cwV 2 hts gX7_element_X4_hasSpan rfl rfl rfl (by decide +kernel) ⟨Nat.le_of_ble_eq_true rfl, Nat.le_of_ble_eq_true rfl⟩) hK hN (hZ.kept hS) hP (hP.sub [2] rfl) (va_recv hK hP (ci := 4) (q0 := 2) rfl rfl) rfl hl.1 rfl (Nat.le_of_ble_eq_true rfl) dX7_element_20 ⟨Nat.le_of_ble_eq_true rfl, Nat.le_of_ble_eq_true rfl⟩ (fun r_16 hr_16 => ?_)
        rcases hr_16 with ⟨rfl, g_17⟩ | ⟨rfl, g_18, g_19⟩ | ⟨rfl, g_20, g_21, g_22⟩ | ⟨rfl, g_23, g_24, g_25, g_26⟩ | ⟨rfl, g_27, g_28, g_29, g_30⟩
        · refine lv_if_ne (tgt := 28) hx hb dX7_element_23 (by decide) (fun c_31 => ?_) (fun c_31 => ?_)
          · exact absurd c_31 (by decide)
          · refine lv_lconst (v := 0) hx hb dX7_element_26 (by decide) ?_
            exact W.lret (v := 0) hx hb hr (fun t ht hW => ⟨⟨0, (), rfl, trivial, by rw [ht]; exact hP.sub (ws' := [(x0, .inr (7, [.ref xs, .ref j0, .ref k0, .ref w0, .ref rd, .ref mv, .ref xr, .int im, .int lf])), (xs, .inl (cS, 8, .inr (.inr (.inr (.inr fh))))), (h0, .inr (4, [.ref e0, .int he, .int si])), (e0, .inl (cJ, 160, .inr (.inl fe)))]) [0, 1, 2, 3] rfl, hD.sub (ws' := [(x0, .inr (7, [.ref xs, .ref j0, .ref k0, .ref w0, .ref rd, .ref mv, .ref xr, .int im, .int lf])), (xs, .inl (cS, 8, .inr (.inr (.inr (.inr fh))))), (h0, .inr (4, [.ref e0, .int he, .int si])), (e0, .inl (cJ, 160, .inr (.inl fe)))]) [0, 1, 2, 3] (by decide) rfl⟩, hS.F ht⟩) hS.2.2 dX7_element_27
        · exfalso; omega
        · refine lv_if_ne (tgt := 28) hx hb dX7_element_23 (by decide) (fun c_32 => ?_) (fun c_32 => ?_)
          · exact absurd c_32 (by decide)
          · refine lv_lconst (v := 0) hx hb dX7_element_26 (by decide) ?_
            exact W.lret (v := 0) hx hb hr (fun t ht hW => ⟨⟨0, (), rfl, trivial, by rw [ht]; exact hP.sub (ws' := [(x0, .inr (7, [.ref xs, .ref j0, .ref k0, .ref w0, .ref rd, .ref mv, .ref xr, .int im, .int lf])), (xs, .inl (cS, 8, .inr (.inr (.inr (.inr fh))))), (h0, .inr (4, [.ref e0, .int he, .int si])), (e0, .inl (cJ, 160, .inr (.inl fe)))]) [0, 1, 2, 3] rfl, hD.sub (ws' := [(x0, .inr (7, [.ref xs, .ref j0, .ref k0, .ref w0, .ref rd, .ref mv, .ref xr, .int im, .int lf])), (xs, .inl (cS, 8, .inr (.inr (.inr (.inr fh))))), (h0, .inr (4, [.ref e0, .int he, .int si])), (e0, .inl (cJ, 160, .inr (.inl fe)))]) [0, 1, 2, 3] (by decide) rfl⟩, hS.F ht⟩) hS.2.2 dX7_element_27
        · refine lv_if_ne (tgt := 28) hx hb dX7_element_23 (by decide) (fun c_33 => ?_) (fun c_33 => ?_)
          · exact absurd c_33 (by decide)
          · refine lv_lconst (v := 0) hx hb dX7_element_26 (by decide) ?_
            exact W.lret (v := 0) hx hb hr (fun t ht hW => ⟨⟨0, (), rfl, trivial, by rw [ht]; exact hP.sub (ws' := [(x0, .inr (7, [.ref xs, .ref j0, .ref k0, .ref w0, .ref rd, .ref mv, .ref xr, .int im, .int lf])), (xs, .inl (cS, 8, .inr (.inr (.inr (.inr fh))))), (h0, .inr (4, [.ref e0, .int he, .int si])), (e0, .inl (cJ, 160, .inr (.inl fe)))]) [0, 1, 2, 3] rfl, hD.sub (ws' := [(x0, .inr (7, [.ref xs, .ref j0, .ref k0, .ref w0, .ref rd, .ref mv, .ref xr, .int im, .int lf])), (xs, .inl (cS, 8, .inr (.inr (.inr (.inr fh))))), (h0, .inr (4, [.ref e0, .int he, .int si])), (e0, .inl (cJ, 160, .inr (.inl fe)))]) [0, 1, 2, 3] (by decide) rfl⟩, hS.F ht⟩) hS.2.2 dX7_element_27
        · refine lv_if_ne (tgt := 28) hx hb dX7_element_23 (by decide) (fun c_34 => ?_) (fun c_34 => ?_)
          · refine lv_aload_n hx hb dX7_element_28 rfl (lv_at hl 0 rfl) ?_
            refine va_get (D := D) (ci := 4) (v := .ref e0) (C := RX4) (T := TX4) (N := 3) hx hb hts hi_X7_element_4 hown hK hP 2 rfl rfl 0 (by decide) (hts (.fieldLink RX7 90 "TheLiningsInIt$Shelf" "elements" "[J") (List.mem_of_getElem? (i := 1) rfl)) (fun _ h9 => h9) rfl dX7_element_29 ?_
            refine lv_iload_n hx hb dX7_element_32 rfl (lv_at hl 3 rfl) ?_
            refine va_lald hx hb hK hP 3 1 rfl rfl (zf_in (by omega) (by omega)) dX7_element_33 ?_
            refine lv_topl (fun x_35 ex_35 => ?_)
            exact W.lret (v := x_35) hx hb hr (fun t ht hW => ⟨⟨x_35, (), rfl, trivial, by rw [ht]; exact hP.sub (ws' := [(x0, .inr (7, [.ref xs, .ref j0, .ref k0, .ref w0, .ref rd, .ref mv, .ref xr, .int im, .int lf])), (xs, .inl (cS, 8, .inr (.inr (.inr (.inr fh))))), (h0, .inr (4, [.ref e0, .int he, .int si])), (e0, .inl (cJ, 160, .inr (.inl fe)))]) [0, 1, 2, 3] rfl, hD.sub (ws' := [(x0, .inr (7, [.ref xs, .ref j0, .ref k0, .ref w0, .ref rd, .ref mv, .ref xr, .int im, .int lf])), (xs, .inl (cS, 8, .inr (.inr (.inr (.inr fh))))), (h0, .inr (4, [.ref e0, .int he, .int si])), (e0, .inl (cJ, 160, .inr (.inl fe)))]) [0, 1, 2, 3] (by decide) rfl⟩, hS.F ht⟩) hS.2.2 dX7_element_34
          · exact absurd c_34 (by decide)
theorem hi_X7_show_4 : ∀ w ∈ u_ws RX4 TX4 3, w ∈ wsX7_show := fun w h => (goodIn_r (u_ws RX4 TX4 3) [33, 34, 35] rfl (by decide +kernel) w h).1
theorem hi_X7_show_7 : ∀ w ∈ u_ws RX7 TX7 9, w ∈ wsX7_show := fun w h => (goodIn_r (u_ws RX7 TX7 9) [24, 25, 26, 27, 28, 29, 30, 31, 32] rfl (by decide +kernel) w h).1
set_option maxHeartbeats 4000000 in
set_option maxRecDepth 100000 in
theorem c_X_show (l : Launch) (D : va_G) (cI cJ cZ cP cS : ClassId) (po : zPool) (x0 xs j0 k0 w0 rd mv xr : Nat) (im lf : Int32) (fr : Nat → Int32) (fh : Nat → Option Nat) (s_ : Int32) (h0 e0 : Nat) (he si : Int32) (j0 jp jc z0 zl zs : Nat) (cn de tr se hu sd : Int32) (fp : Nat → Option Nat) (kf af tf : Nat → Int32) (p_ : Int32) (hy0 : 0 ≤ im.toInt) (hy1 : im.toInt ≤ 1) (hy2 : (-1) ≤ lf.toInt) (hy3 : lf.toInt ≤ 160) (hy4 : (-1) ≤ he.toInt) (hy5 : he.toInt ≤ 103) (hy6 : 0 ≤ si.toInt) (hy7 : si.toInt ≤ 160) (hfs : 0 ≤ s_.toInt → s_.toInt ≤ 7 → fh s_.toNatClampNeg = some h0) (hy9 : 0 ≤ cn.toInt) (hy10 : cn.toInt ≤ 8) (hy11 : 0 ≤ de.toInt) (hy12 : de.toInt ≤ 24) (hy13 : 0 ≤ hu.toInt) (hy14 : hu.toInt ≤ 9) (hjp : zJP po fp cn kf af tf) (hpz : Nat) : Met l yX7_show wsX7_show ({ frames := 2, cells := 0, slots := 0, locals := 43 }) (va_Pc [.ref x0, .int s_, .int p_] (zW D (zKT cI cJ cZ cP cS) po [(x0, .inr (7, [.ref xs, .ref j0, .ref k0, .ref w0, .ref rd, .ref mv, .ref xr, .int im, .int lf])), (xr, .inl (cI, 8, .inl fr)), (xs, .inl (cS, 8, .inr (.inr (.inr (.inr fh))))), (h0, .inr (4, [.ref e0, .int he, .int si])), (j0, .inr (0, [.ref z0, .ref jp, .ref jc, .int cn, .int de, .int tr, .int se, .int hu, .int sd])), (jp, .inl (cP, 8, .inr (.inr (.inr (.inr fp)))))] hpz)) (va_Qi (fun (r : Int32) (u : (Int32) × (Nat → Int32)) => ((-1) ≤ u.1.toInt ∧ u.1.toInt ≤ 103) ∧ (True)) (zB D [(x0, .inr (7, [.ref xs, .ref j0, .ref k0, .ref w0, .ref rd, .ref mv, .ref xr, .int im, .int lf])), (xr, .inl (cI, 8, .inl fr)), (xs, .inl (cS, 8, .inr (.inr (.inr (.inr fh))))), (h0, .inr (4, [.ref e0, .int he, .int si])), (j0, .inr (0, [.ref z0, .ref jp, .ref jc, .int cn, .int de, .int tr, .int se, .int hu, .int sd])), (jp, .inl (cP, 8, .inr (.inr (.inr (.inr fp)))))] hpz (fun (u : (Int32) × (Nat → Int32)) => [(x0, .inr (7, [.ref xs, .ref j0, .ref k0, .ref w0, .ref rd, .ref mv, .ref xr, .int im, .int lf])), (xr, .inl (cI, 8, .inl u.2)), (xs, .inl (cS, 8, .inr (.inr (.inr (.inr fh))))), (h0, .inr (4, [.ref e0, .int u.1, .int si])), (j0, .inr (0, [.ref z0, .ref jp, .ref jc, .int cn, .int de, .int tr, .int se, .int hu, .int sd])), (jp, .inl (cP, 8, .inr (.inr (.inr (.inr fp)))))])) (va_A [(x0, .inr (7, [.ref xs, .ref j0, .ref k0, .ref w0, .ref rd, .ref mv, .ref xr, .int im, .int lf])), (xr, .inl (cI, 8, .inl fr)), (xs, .inl (cS, 8, .inr (.inr (.inr (.inr fh))))), (h0, .inr (4, [.ref e0, .int he, .int si])), (j0, .inr (0, [.ref z0, .ref jp, .ref jc, .int cn, .int de, .int tr, .int se, .int hu, .int sd])), (jp, .inl (cP, 8, .inr (.inr (.inr (.inr fp)))))] hpz)) 0 0 (va_A [(x0, .inr (7, [.ref xs, .ref j0, .ref k0, .ref w0, .ref rd, .ref mv, .ref xr, .int im, .int lf])), (xr, .inl (cI, 8, .inl fr)), (xs, .inl (cS, 8, .inr (.inr (.inr (.inr fh))))), (h0, .inr (4, [.ref e0, .int he, .int si])), (j0, .inr (0, [.ref z0, .ref jp, .ref jc, .int cn, .int de, .int tr, .int se, .int hu, .int sd])), (jp, .inl (cP, 8, .inr (.inr (.inr (.inr fp)))))] hpz) := by
  refine Met.ofW (cc := cX7_show) (maxL := 4) (ret := (some .int)) (by decide) rfl ?_
  intro p e s m args below meth c s₁ B hml hv
  obtain ⟨rfl, hsz, hP, hK, hD0, hN, hZ⟩ := hv
  have hx := B.exec
  have hb := B.bytes
  have hr := B.returns
  have hts := atoms_spec (ws := wsX7_show) B.pre
  have hown : s.vm.findClass RX7 = some m.cls := findClass_of_methodNamed B.named
  have hlocks := B.notSynchronized
  subst hsz
  have hD := hD0.self (sz := s.heap.size)
  have hA : ∀ q : Nat, s.heap.size ≤ q → va_A [(x0, .inr (7, [.ref xs, .ref j0, .ref k0, .ref w0, .ref rd, .ref mv, .ref xr, .int im, .int lf])), (xr, .inl (cI, 8, .inl fr)), (xs, .inl (cS, 8, .inr (.inr (.inr (.inr fh))))), (h0, .inr (4, [.ref e0, .int he, .int si])), (j0, .inr (0, [.ref z0, .ref jp, .ref jc, .int cn, .int de, .int tr, .int se, .int hu, .int sd])), (jp, .inl (cP, 8, .inr (.inr (.inr (.inr fp)))))] s.heap.size q := fun q h => Or.inr h
  have hS : va_S (va_A [(x0, .inr (7, [.ref xs, .ref j0, .ref k0, .ref w0, .ref rd, .ref mv, .ref xr, .int im, .int lf])), (xr, .inl (cI, 8, .inl fr)), (xs, .inl (cS, 8, .inr (.inr (.inr (.inr fh))))), (h0, .inr (4, [.ref e0, .int he, .int si])), (j0, .inr (0, [.ref z0, .ref jp, .ref jc, .int cn, .int de, .int tr, .int se, .int hu, .int sd])), (jp, .inl (cP, 8, .inr (.inr (.inr (.inr fp)))))] s.heap.size) s.heap s.heap [] := va_S.rf
  replace hP : va_P D vwCl _ s.heap := hP
  have hl := lv_entry ([.ref x0, .int s_, .int p_]) (n := 4) (Nat.le_of_ble_eq_true rfl)
  rw [lg_entry_eq]
  generalize (lg_sl ([.ref x0, .int s_, .int p_]) ++ List.replicate (4 - (lg_sl ([.ref x0, .int s_, .int p_])).length) Slot.unset).toArray = ls at hl ⊢
  replace hl : lv_has ls 4 [(0, .ref x0), (1, .int s_), (2, .int p_)] := hl
  refine zw_start (fun H locs hH hL => ?_)
  replace hP : va_P D vwCl [(x0, .inr (7, [.ref xs, .ref j0, .ref k0, .ref w0, .ref rd, .ref mv, .ref xr, .int im, .int lf])), (xr, .inl (cI, 8, .inl fr)), (xs, .inl (cS, 8, .inr (.inr (.inr (.inr fh))))), (h0, .inr (4, [.ref e0, .int he, .int si])), (j0, .inr (0, [.ref z0, .ref jp, .ref jc, .int cn, .int de, .int tr, .int se, .int hu, .int sd])), (jp, .inl (cP, 8, .inr (.inr (.inr (.inr fp)))))] H := by rw [hH]; exact hP
  replace hS : va_S (va_A [(x0, .inr (7, [.ref xs, .ref j0, .ref k0, .ref w0, .ref rd, .ref mv, .ref xr, .int im, .int lf])), (xr, .inl (cI, 8, .inl fr)), (xs, .inl (cS, 8, .inr (.inr (.inr (.inr fh))))), (h0, .inr (4, [.ref e0, .int he, .int si])), (j0, .inr (0, [.ref z0, .ref jp, .ref jc, .int cn, .int de, .int tr, .int se, .int hu, .int sd])), (jp, .inl (cP, 8, .inr (.inr (.inr (.inr fp)))))] s.heap.size) s.heap H locs := by rw [hH, hL]; exact hS
  clear hH hL
  refine lv_aload_n hx hb dX7_show_0 rfl (lv_at hl 0 rfl) ?_
  refine lv_iload_n hx hb dX7_show_1 rfl (lv_at hl 1 rfl) ?_
  refine zc_Vq (As := [.int s_]) (rest := []) ⟨hx, hb, hml, hown, hts⟩ (c_X_shelfAt l D cI cJ cZ cP cS po x0 xs j0 k0 w0 rd mv xr (im) (lf) ((fun _ => 0)) fh (s_) hy0 hy1 hy2 hy3) (cwV 1 hts gX7_show_X7_shelfAt rfl rfl rfl (by decide +kernel) ⟨Nat.le_of_ble_eq_true rfl, Nat.le_of_ble_eq_true rfl⟩) hK hN (hZ.kept hS) hP (hP.sub [0, 2] rfl) (va_recv hK hP (ci := 7) (q0 := 0) rfl rfl) rfl hl.1 rfl (Nat.le_of_ble_eq_true rfl) dX7_show_2 ⟨Nat.le_of_ble_eq_true rfl, Nat.le_of_ble_eq_true rfl⟩ (fun r_1 hr_1 => ?_)
  rcases hr_1 with ⟨rfl, g_2⟩ | ⟨rfl, g_3, g_4⟩ | ⟨rfl, g_5, g_6⟩
  · refine lv_astore_nN (lv' := [(3, .null), (0, .ref x0), (1, .int s_), (2, .int p_)]) hx hb dX7_show_5 rfl hl (by decide) rfl (fun ls hl => ?_)
    refine lv_aload_nN hx hb dX7_show_6 rfl (lv_at hl 0 rfl) ?_
    refine lv_ifnullN (tgt := 26) hx hb dX7_show_7 (by decide) ?_
    refine lv_aload_n hx hb dX7_show_26 rfl (lv_at hl 1 rfl) ?_
    refine lv_iconst (v := 1) hx hb dX7_show_27 (by decide) ?_
    skip
    refine zw_V (As := [.int 1]) (rest := []) (wr := [(xs, .inl (cS, 8, .inr (.inr (.inr (.inr fh))))), (h0, .inr (4, [.ref e0, .int he, .int si])), (j0, .inr (0, [.ref z0, .ref jp, .ref jc, .int cn, .int de, .int tr, .int se, .int hu, .int sd])), (jp, .inl (cP, 8, .inr (.inr (.inr (.inr fp)))))]) ⟨hx, hb, hml, hown, hts⟩ (c_X_refuse_1 l D cI cJ cZ cP cS po x0 xs j0 k0 w0 rd mv xr (im) (lf) fr hy0 hy1 hy2 hy3 H.size) (cwV 1 hts gX7_show_X7_refuse rfl rfl rfl (by decide +kernel) ⟨Nat.le_of_ble_eq_true rfl, Nat.le_of_ble_eq_true rfl⟩) hK hN (hZ.kept hS) hP hD hS hA [0, 1] [2, 3, 4, 5] rfl rfl (by decide) (by decide) (by decide) (va_recv hK hP (ci := 7) (q0 := 0) rfl rfl) rfl hl.1 rfl (Nat.le_of_ble_eq_true rfl) dX7_show_28 ⟨Nat.le_of_ble_eq_true rfl, Nat.le_of_ble_eq_true rfl⟩ (fun r_7 u_8 H locs hr_7 hP hD hS => ?_)
    obtain ⟨q_9, rfl⟩ : ∃ z, z = u_8 := ⟨_, rfl⟩
    replace hP : va_P D vwCl [(xs, .inl (cS, 8, .inr (.inr (.inr (.inr fh))))), (h0, .inr (4, [.ref e0, .int he, .int si])), (j0, .inr (0, [.ref z0, .ref jp, .ref jc, .int cn, .int de, .int tr, .int se, .int hu, .int sd])), (jp, .inl (cP, 8, .inr (.inr (.inr (.inr fp))))), (x0, .inr (7, [.ref xs, .ref j0, .ref k0, .ref w0, .ref rd, .ref mv, .ref xr, .int im, .int lf])), (xr, .inl (cI, 8, .inl q_9))] H := hP
    replace hD : va_D _ [(xs, .inl (cS, 8, .inr (.inr (.inr (.inr fh))))), (h0, .inr (4, [.ref e0, .int he, .int si])), (j0, .inr (0, [.ref z0, .ref jp, .ref jc, .int cn, .int de, .int tr, .int se, .int hu, .int sd])), (jp, .inl (cP, 8, .inr (.inr (.inr (.inr fp))))), (x0, .inr (7, [.ref xs, .ref j0, .ref k0, .ref w0, .ref rd, .ref mv, .ref xr, .int im, .int lf])), (xr, .inl (cI, 8, .inl q_9))] := hD
    obtain rfl := hr_7
    exact W.iret (v := (-1)) hx hb hr (fun t ht hW => ⟨⟨(-1), (he, q_9), rfl, ⟨(show (-1) ≤ he.toInt ∧ he.toInt ≤ 103 from ⟨hy4, hy5⟩), trivial⟩, by rw [ht]; exact hP.sub (ws' := [(x0, .inr (7, [.ref xs, .ref j0, .ref k0, .ref w0, .ref rd, .ref mv, .ref xr, .int im, .int lf])), (xr, .inl (cI, 8, .inl q_9)), (xs, .inl (cS, 8, .inr (.inr (.inr (.inr fh))))), (h0, .inr (4, [.ref e0, .int he, .int si])), (j0, .inr (0, [.ref z0, .ref jp, .ref jc, .int cn, .int de, .int tr, .int se, .int hu, .int sd])), (jp, .inl (cP, 8, .inr (.inr (.inr (.inr fp)))))]) [4, 5, 0, 1, 2, 3] rfl, hD.sub (ws' := [(x0, .inr (7, [.ref xs, .ref j0, .ref k0, .ref w0, .ref rd, .ref mv, .ref xr, .int im, .int lf])), (xr, .inl (cI, 8, .inl q_9)), (xs, .inl (cS, 8, .inr (.inr (.inr (.inr fh))))), (h0, .inr (4, [.ref e0, .int he, .int si])), (j0, .inr (0, [.ref z0, .ref jp, .ref jc, .int cn, .int de, .int tr, .int se, .int hu, .int sd])), (jp, .inl (cP, 8, .inr (.inr (.inr (.inr fp)))))]) [4, 5, 0, 1, 2, 3] (by decide) rfl⟩, hS.F ht⟩) hS.2.2 dX7_show_31
  · refine lv_astore_nN (lv' := [(3, .null), (0, .ref x0), (1, .int s_), (2, .int p_)]) hx hb dX7_show_5 rfl hl (by decide) rfl (fun ls hl => ?_)
    refine lv_aload_nN hx hb dX7_show_6 rfl (lv_at hl 0 rfl) ?_
    refine lv_ifnullN (tgt := 26) hx hb dX7_show_7 (by decide) ?_
    refine lv_aload_n hx hb dX7_show_26 rfl (lv_at hl 1 rfl) ?_
    refine lv_iconst (v := 1) hx hb dX7_show_27 (by decide) ?_
    skip
    refine zw_V (As := [.int 1]) (rest := []) (wr := [(xs, .inl (cS, 8, .inr (.inr (.inr (.inr fh))))), (h0, .inr (4, [.ref e0, .int he, .int si])), (j0, .inr (0, [.ref z0, .ref jp, .ref jc, .int cn, .int de, .int tr, .int se, .int hu, .int sd])), (jp, .inl (cP, 8, .inr (.inr (.inr (.inr fp)))))]) ⟨hx, hb, hml, hown, hts⟩ (c_X_refuse_1 l D cI cJ cZ cP cS po x0 xs j0 k0 w0 rd mv xr (im) (lf) fr hy0 hy1 hy2 hy3 H.size) (cwV 1 hts gX7_show_X7_refuse rfl rfl rfl (by decide +kernel) ⟨Nat.le_of_ble_eq_true rfl, Nat.le_of_ble_eq_true rfl⟩) hK hN (hZ.kept hS) hP hD hS hA [0, 1] [2, 3, 4, 5] rfl rfl (by decide) (by decide) (by decide) (va_recv hK hP (ci := 7) (q0 := 0) rfl rfl) rfl hl.1 rfl (Nat.le_of_ble_eq_true rfl) dX7_show_28 ⟨Nat.le_of_ble_eq_true rfl, Nat.le_of_ble_eq_true rfl⟩ (fun r_10 u_11 H locs hr_10 hP hD hS => ?_)
    obtain ⟨q_12, rfl⟩ : ∃ z, z = u_11 := ⟨_, rfl⟩
    replace hP : va_P D vwCl [(xs, .inl (cS, 8, .inr (.inr (.inr (.inr fh))))), (h0, .inr (4, [.ref e0, .int he, .int si])), (j0, .inr (0, [.ref z0, .ref jp, .ref jc, .int cn, .int de, .int tr, .int se, .int hu, .int sd])), (jp, .inl (cP, 8, .inr (.inr (.inr (.inr fp))))), (x0, .inr (7, [.ref xs, .ref j0, .ref k0, .ref w0, .ref rd, .ref mv, .ref xr, .int im, .int lf])), (xr, .inl (cI, 8, .inl q_12))] H := hP
    replace hD : va_D _ [(xs, .inl (cS, 8, .inr (.inr (.inr (.inr fh))))), (h0, .inr (4, [.ref e0, .int he, .int si])), (j0, .inr (0, [.ref z0, .ref jp, .ref jc, .int cn, .int de, .int tr, .int se, .int hu, .int sd])), (jp, .inl (cP, 8, .inr (.inr (.inr (.inr fp))))), (x0, .inr (7, [.ref xs, .ref j0, .ref k0, .ref w0, .ref rd, .ref mv, .ref xr, .int im, .int lf])), (xr, .inl (cI, 8, .inl q_12))] := hD
    obtain rfl := hr_10
    exact W.iret (v := (-1)) hx hb hr (fun t ht hW => ⟨⟨(-1), (he, q_12), rfl, ⟨(show (-1) ≤ he.toInt ∧ he.toInt ≤ 103 from ⟨hy4, hy5⟩), trivial⟩, by rw [ht]; exact hP.sub (ws' := [(x0, .inr (7, [.ref xs, .ref j0, .ref k0, .ref w0, .ref rd, .ref mv, .ref xr, .int im, .int lf])), (xr, .inl (cI, 8, .inl q_12)), (xs, .inl (cS, 8, .inr (.inr (.inr (.inr fh))))), (h0, .inr (4, [.ref e0, .int he, .int si])), (j0, .inr (0, [.ref z0, .ref jp, .ref jc, .int cn, .int de, .int tr, .int se, .int hu, .int sd])), (jp, .inl (cP, 8, .inr (.inr (.inr (.inr fp)))))]) [4, 5, 0, 1, 2, 3] rfl, hD.sub (ws' := [(x0, .inr (7, [.ref xs, .ref j0, .ref k0, .ref w0, .ref rd, .ref mv, .ref xr, .int im, .int lf])), (xr, .inl (cI, 8, .inl q_12)), (xs, .inl (cS, 8, .inr (.inr (.inr (.inr fh))))), (h0, .inr (4, [.ref e0, .int he, .int si])), (j0, .inr (0, [.ref z0, .ref jp, .ref jc, .int cn, .int de, .int tr, .int se, .int hu, .int sd])), (jp, .inl (cP, 8, .inr (.inr (.inr (.inr fp)))))]) [4, 5, 0, 1, 2, 3] (by decide) rfl⟩, hS.F ht⟩) hS.2.2 dX7_show_31
  · rw [hfs (by omega) (by omega)]
    refine W.eq (g2 := F0 m 5 ls (.ref h0 :: [])) rfl ?_
    refine lv_astore_n (lv' := [(3, .ref h0), (0, .ref x0), (1, .int s_), (2, .int p_)]) hx hb dX7_show_5 rfl hl (by decide) rfl (fun ls hl => ?_)
    refine lv_aload_n hx hb dX7_show_6 rfl (lv_at hl 0 rfl) ?_
    refine lv_ifnull hx hb dX7_show_7 ?_
    refine lv_iload_n hx hb dX7_show_10 rfl (lv_at hl 3 rfl) ?_
    refine lv_iconst (v := (-1)) hx hb dX7_show_11 (by decide) ?_
    refine lv_icmp_eq (tgt := 32) hx hb dX7_show_12 (by decide) (fun c_13 => ?_) (fun c_13 => ?_)
    · have fc_13 : p_.toInt = (-1) := zf_eq c_13 rfl (by decide)
      refine lv_aload_n hx hb dX7_show_32 rfl (lv_at hl 0 rfl) ?_
      refine lv_iload_n hx hb dX7_show_33 rfl (lv_at hl 3 rfl) ?_
      refine va_put (D := D) (ci := 4) (v := .int p_) (ty := .int) (C := RX4) (T := TX4) (N := 3) hx hb hts hi_X7_show_4 tyX4 tyX4_ok nmX4 hown hK hP hD hS 3 rfl rfl 1 (by decide) (hts (.fieldLink RX7 87 "TheLiningsInIt$Shelf" "held" "I") (List.mem_of_getElem? (i := 2) rfl)) (fun _ h9 => h9) rfl (by decide +kernel) rfl rfl (Nat.le_of_ble_eq_true rfl) dX7_show_34 (fun H locs hP hD hS => ?_)
      replace hP : va_P D vwCl [(x0, .inr (7, [.ref xs, .ref j0, .ref k0, .ref w0, .ref rd, .ref mv, .ref xr, .int im, .int lf])), (xr, .inl (cI, 8, .inl fr)), (xs, .inl (cS, 8, .inr (.inr (.inr (.inr fh))))), (h0, .inr (4, [.ref e0, .int p_, .int si])), (j0, .inr (0, [.ref z0, .ref jp, .ref jc, .int cn, .int de, .int tr, .int se, .int hu, .int sd])), (jp, .inl (cP, 8, .inr (.inr (.inr (.inr fp)))))] H := hP
      replace hD : va_D _ [(x0, .inr (7, [.ref xs, .ref j0, .ref k0, .ref w0, .ref rd, .ref mv, .ref xr, .int im, .int lf])), (xr, .inl (cI, 8, .inl fr)), (xs, .inl (cS, 8, .inr (.inr (.inr (.inr fh))))), (h0, .inr (4, [.ref e0, .int p_, .int si])), (j0, .inr (0, [.ref z0, .ref jp, .ref jc, .int cn, .int de, .int tr, .int se, .int hu, .int sd])), (jp, .inl (cP, 8, .inr (.inr (.inr (.inr fp)))))] := hD
      refine lv_iload_n hx hb dX7_show_37 rfl (lv_at hl 3 rfl) ?_
      refine lv_iconst (v := (-1)) hx hb dX7_show_38 (by decide) ?_
      refine lv_icmp_ne (tgt := 46) hx hb dX7_show_39 (by decide) (fun c_14 => ?_) (fun c_14 => ?_)
      · exfalso; have fc_14 : p_.toInt ≠ (-1) := zf_ne c_14 rfl (by decide); omega
      · have fc_14 : p_.toInt = (-1) := zf_eq c_14 rfl (by decide)
        refine lv_iconst (v := 0) hx hb dX7_show_42 (by decide) ?_
        refine lv_goto (tgt := 47) hx hb dX7_show_43 (by decide) ?_
        exact W.iret (v := 0) hx hb hr (fun t ht hW => ⟨⟨0, (p_, fr), rfl, ⟨(show (-1) ≤ p_.toInt ∧ p_.toInt ≤ 103 from ⟨by omega, by omega⟩), trivial⟩, by rw [ht]; exact hP.sub (ws' := [(x0, .inr (7, [.ref xs, .ref j0, .ref k0, .ref w0, .ref rd, .ref mv, .ref xr, .int im, .int lf])), (xr, .inl (cI, 8, .inl fr)), (xs, .inl (cS, 8, .inr (.inr (.inr (.inr fh))))), (h0, .inr (4, [.ref e0, .int p_, .int si])), (j0, .inr (0, [.ref z0, .ref jp, .ref jc, .int cn, .int de, .int tr, .int se, .int hu, .int sd])), (jp, .inl (cP, 8, .inr (.inr (.inr (.inr fp)))))]) [0, 1, 2, 3, 4, 5] rfl, hD.sub (ws' := [(x0, .inr (7, [.ref xs, .ref j0, .ref k0, .ref w0, .ref rd, .ref mv, .ref xr, .int im, .int lf])), (xr, .inl (cI, 8, .inl fr)), (xs, .inl (cS, 8, .inr (.inr (.inr (.inr fh))))), (h0, .inr (4, [.ref e0, .int p_, .int si])), (j0, .inr (0, [.ref z0, .ref jp, .ref jc, .int cn, .int de, .int tr, .int se, .int hu, .int sd])), (jp, .inl (cP, 8, .inr (.inr (.inr (.inr fp)))))]) [0, 1, 2, 3, 4, 5] (by decide) rfl⟩, hS.F ht⟩) hS.2.2 dX7_show_47
    · have fc_13 : p_.toInt ≠ (-1) := zf_ne c_13 rfl (by decide)
      refine lv_aload_n hx hb dX7_show_15 rfl (lv_at hl 1 rfl) ?_
      refine va_get (D := D) (ci := 7) (v := .ref j0) (C := RX7) (T := TX7) (N := 9) hx hb hts hi_X7_show_7 hown hK hP 0 rfl rfl 1 (by decide) (hts (.fieldLink RX7 18 "TheLiningsInIt" "now" "LTheLiningsInIt$Jacket;") (List.mem_of_getElem? (i := 1) rfl)) (fun _ h9 => h9) rfl dX7_show_16 ?_
      refine lv_iload_n hx hb dX7_show_19 rfl (lv_at hl 3 rfl) ?_
      refine zc_Vq (As := [.int p_]) (rest := []) ⟨hx, hb, hml, hown, hts⟩ (c_J_pullAt l D cI cJ cZ cP cS po j0 jp jc z0 0 0 (cn) (de) (tr) (se) (hu) (sd) fp kf af tf (p_) hy9 hy10 hy11 hy12 hy13 hy14 hjp) (cwV 1 hts gX7_show_X0_pullAt rfl rfl rfl (by decide +kernel) ⟨Nat.le_of_ble_eq_true rfl, Nat.le_of_ble_eq_true rfl⟩) hK hN (hZ.kept hS) hP (hP.sub [4, 5] rfl) (va_recv hK hP (ci := 0) (q0 := 4) rfl rfl) rfl hl.1 rfl (Nat.le_of_ble_eq_true rfl) dX7_show_20 ⟨Nat.le_of_ble_eq_true rfl, Nat.le_of_ble_eq_true rfl⟩ (fun r_15 hr_15 => ?_)
      rcases hr_15 with ⟨rfl, g_16⟩ | ⟨rfl, g_17⟩ | ⟨⟨u_19, kiu_19, au_19, tu_19, rfl, huu_19, hkku_19⟩, g_18⟩
      · refine lv_ifnonnullN hx hb dX7_show_23 ?_
        refine lv_aload_n hx hb dX7_show_26 rfl (lv_at hl 1 rfl) ?_
        refine lv_iconst (v := 1) hx hb dX7_show_27 (by decide) ?_
        skip
        refine zw_V (As := [.int 1]) (rest := []) (wr := [(xs, .inl (cS, 8, .inr (.inr (.inr (.inr fh))))), (h0, .inr (4, [.ref e0, .int he, .int si])), (j0, .inr (0, [.ref z0, .ref jp, .ref jc, .int cn, .int de, .int tr, .int se, .int hu, .int sd])), (jp, .inl (cP, 8, .inr (.inr (.inr (.inr fp)))))]) ⟨hx, hb, hml, hown, hts⟩ (c_X_refuse_1 l D cI cJ cZ cP cS po x0 xs j0 k0 w0 rd mv xr (im) (lf) fr hy0 hy1 hy2 hy3 H.size) (cwV 1 hts gX7_show_X7_refuse rfl rfl rfl (by decide +kernel) ⟨Nat.le_of_ble_eq_true rfl, Nat.le_of_ble_eq_true rfl⟩) hK hN (hZ.kept hS) hP hD hS hA [0, 1] [2, 3, 4, 5] rfl rfl (by decide) (by decide) (by decide) (va_recv hK hP (ci := 7) (q0 := 0) rfl rfl) rfl hl.1 rfl (Nat.le_of_ble_eq_true rfl) dX7_show_28 ⟨Nat.le_of_ble_eq_true rfl, Nat.le_of_ble_eq_true rfl⟩ (fun r_20 u_21 H locs hr_20 hP hD hS => ?_)
        obtain ⟨q_22, rfl⟩ : ∃ z, z = u_21 := ⟨_, rfl⟩
        replace hP : va_P D vwCl [(xs, .inl (cS, 8, .inr (.inr (.inr (.inr fh))))), (h0, .inr (4, [.ref e0, .int he, .int si])), (j0, .inr (0, [.ref z0, .ref jp, .ref jc, .int cn, .int de, .int tr, .int se, .int hu, .int sd])), (jp, .inl (cP, 8, .inr (.inr (.inr (.inr fp))))), (x0, .inr (7, [.ref xs, .ref j0, .ref k0, .ref w0, .ref rd, .ref mv, .ref xr, .int im, .int lf])), (xr, .inl (cI, 8, .inl q_22))] H := hP
        replace hD : va_D _ [(xs, .inl (cS, 8, .inr (.inr (.inr (.inr fh))))), (h0, .inr (4, [.ref e0, .int he, .int si])), (j0, .inr (0, [.ref z0, .ref jp, .ref jc, .int cn, .int de, .int tr, .int se, .int hu, .int sd])), (jp, .inl (cP, 8, .inr (.inr (.inr (.inr fp))))), (x0, .inr (7, [.ref xs, .ref j0, .ref k0, .ref w0, .ref rd, .ref mv, .ref xr, .int im, .int lf])), (xr, .inl (cI, 8, .inl q_22))] := hD
        obtain rfl := hr_20
        exact W.iret (v := (-1)) hx hb hr (fun t ht hW => ⟨⟨(-1), (he, q_22), rfl, ⟨(show (-1) ≤ he.toInt ∧ he.toInt ≤ 103 from ⟨hy4, hy5⟩), trivial⟩, by rw [ht]; exact hP.sub (ws' := [(x0, .inr (7, [.ref xs, .ref j0, .ref k0, .ref w0, .ref rd, .ref mv, .ref xr, .int im, .int lf])), (xr, .inl (cI, 8, .inl q_22)), (xs, .inl (cS, 8, .inr (.inr (.inr (.inr fh))))), (h0, .inr (4, [.ref e0, .int he, .int si])), (j0, .inr (0, [.ref z0, .ref jp, .ref jc, .int cn, .int de, .int tr, .int se, .int hu, .int sd])), (jp, .inl (cP, 8, .inr (.inr (.inr (.inr fp)))))]) [4, 5, 0, 1, 2, 3] rfl, hD.sub (ws' := [(x0, .inr (7, [.ref xs, .ref j0, .ref k0, .ref w0, .ref rd, .ref mv, .ref xr, .int im, .int lf])), (xr, .inl (cI, 8, .inl q_22)), (xs, .inl (cS, 8, .inr (.inr (.inr (.inr fh))))), (h0, .inr (4, [.ref e0, .int he, .int si])), (j0, .inr (0, [.ref z0, .ref jp, .ref jc, .int cn, .int de, .int tr, .int se, .int hu, .int sd])), (jp, .inl (cP, 8, .inr (.inr (.inr (.inr fp)))))]) [4, 5, 0, 1, 2, 3] (by decide) rfl⟩, hS.F ht⟩) hS.2.2 dX7_show_31
      · refine lv_ifnonnullN hx hb dX7_show_23 ?_
        refine lv_aload_n hx hb dX7_show_26 rfl (lv_at hl 1 rfl) ?_
        refine lv_iconst (v := 1) hx hb dX7_show_27 (by decide) ?_
        skip
        refine zw_V (As := [.int 1]) (rest := []) (wr := [(xs, .inl (cS, 8, .inr (.inr (.inr (.inr fh))))), (h0, .inr (4, [.ref e0, .int he, .int si])), (j0, .inr (0, [.ref z0, .ref jp, .ref jc, .int cn, .int de, .int tr, .int se, .int hu, .int sd])), (jp, .inl (cP, 8, .inr (.inr (.inr (.inr fp)))))]) ⟨hx, hb, hml, hown, hts⟩ (c_X_refuse_1 l D cI cJ cZ cP cS po x0 xs j0 k0 w0 rd mv xr (im) (lf) fr hy0 hy1 hy2 hy3 H.size) (cwV 1 hts gX7_show_X7_refuse rfl rfl rfl (by decide +kernel) ⟨Nat.le_of_ble_eq_true rfl, Nat.le_of_ble_eq_true rfl⟩) hK hN (hZ.kept hS) hP hD hS hA [0, 1] [2, 3, 4, 5] rfl rfl (by decide) (by decide) (by decide) (va_recv hK hP (ci := 7) (q0 := 0) rfl rfl) rfl hl.1 rfl (Nat.le_of_ble_eq_true rfl) dX7_show_28 ⟨Nat.le_of_ble_eq_true rfl, Nat.le_of_ble_eq_true rfl⟩ (fun r_23 u_24 H locs hr_23 hP hD hS => ?_)
        obtain ⟨q_25, rfl⟩ : ∃ z, z = u_24 := ⟨_, rfl⟩
        replace hP : va_P D vwCl [(xs, .inl (cS, 8, .inr (.inr (.inr (.inr fh))))), (h0, .inr (4, [.ref e0, .int he, .int si])), (j0, .inr (0, [.ref z0, .ref jp, .ref jc, .int cn, .int de, .int tr, .int se, .int hu, .int sd])), (jp, .inl (cP, 8, .inr (.inr (.inr (.inr fp))))), (x0, .inr (7, [.ref xs, .ref j0, .ref k0, .ref w0, .ref rd, .ref mv, .ref xr, .int im, .int lf])), (xr, .inl (cI, 8, .inl q_25))] H := hP
        replace hD : va_D _ [(xs, .inl (cS, 8, .inr (.inr (.inr (.inr fh))))), (h0, .inr (4, [.ref e0, .int he, .int si])), (j0, .inr (0, [.ref z0, .ref jp, .ref jc, .int cn, .int de, .int tr, .int se, .int hu, .int sd])), (jp, .inl (cP, 8, .inr (.inr (.inr (.inr fp))))), (x0, .inr (7, [.ref xs, .ref j0, .ref k0, .ref w0, .ref rd, .ref mv, .ref xr, .int im, .int lf])), (xr, .inl (cI, 8, .inl q_25))] := hD
        obtain rfl := hr_23
        exact W.iret (v := (-1)) hx hb hr (fun t ht hW => ⟨⟨(-1), (he, q_25), rfl, ⟨(show (-1) ≤ he.toInt ∧ he.toInt ≤ 103 from ⟨hy4, hy5⟩), trivial⟩, by rw [ht]; exact hP.sub (ws' := [(x0, .inr (7, [.ref xs, .ref j0, .ref k0, .ref w0, .ref rd, .ref mv, .ref xr, .int im, .int lf])), (xr, .inl (cI, 8, .inl q_25)), (xs, .inl (cS, 8, .inr (.inr (.inr (.inr fh))))), (h0, .inr (4, [.ref e0, .int he, .int si])), (j0, .inr (0, [.ref z0, .ref jp, .ref jc, .int cn, .int de, .int tr, .int se, .int hu, .int sd])), (jp, .inl (cP, 8, .inr (.inr (.inr (.inr fp)))))]) [4, 5, 0, 1, 2, 3] rfl, hD.sub (ws' := [(x0, .inr (7, [.ref xs, .ref j0, .ref k0, .ref w0, .ref rd, .ref mv, .ref xr, .int im, .int lf])), (xr, .inl (cI, 8, .inl q_25)), (xs, .inl (cS, 8, .inr (.inr (.inr (.inr fh))))), (h0, .inr (4, [.ref e0, .int he, .int si])), (j0, .inr (0, [.ref z0, .ref jp, .ref jc, .int cn, .int de, .int tr, .int se, .int hu, .int sd])), (jp, .inl (cP, 8, .inr (.inr (.inr (.inr fp)))))]) [4, 5, 0, 1, 2, 3] (by decide) rfl⟩, hS.F ht⟩) hS.2.2 dX7_show_31
      · refine W.eq (g2 := F0 m 23 ls (.ref u_19 :: [])) rfl ?_
        obtain ⟨hku_19, hau_19, htu_19⟩ := zPu_pr (hZ.kept hS) huu_19
        refine lv_ifnonnull (tgt := 32) hx hb dX7_show_23 (by decide) ?_
        refine lv_aload_n hx hb dX7_show_32 rfl (lv_at hl 0 rfl) ?_
        refine lv_iload_n hx hb dX7_show_33 rfl (lv_at hl 3 rfl) ?_
        refine va_put (D := D) (ci := 4) (v := .int p_) (ty := .int) (C := RX4) (T := TX4) (N := 3) hx hb hts hi_X7_show_4 tyX4 tyX4_ok nmX4 hown hK hP hD hS 3 rfl rfl 1 (by decide) (hts (.fieldLink RX7 87 "TheLiningsInIt$Shelf" "held" "I") (List.mem_of_getElem? (i := 2) rfl)) (fun _ h9 => h9) rfl (by decide +kernel) rfl rfl (Nat.le_of_ble_eq_true rfl) dX7_show_34 (fun H locs hP hD hS => ?_)
        replace hP : va_P D vwCl [(x0, .inr (7, [.ref xs, .ref j0, .ref k0, .ref w0, .ref rd, .ref mv, .ref xr, .int im, .int lf])), (xr, .inl (cI, 8, .inl fr)), (xs, .inl (cS, 8, .inr (.inr (.inr (.inr fh))))), (h0, .inr (4, [.ref e0, .int p_, .int si])), (j0, .inr (0, [.ref z0, .ref jp, .ref jc, .int cn, .int de, .int tr, .int se, .int hu, .int sd])), (jp, .inl (cP, 8, .inr (.inr (.inr (.inr fp)))))] H := hP
        replace hD : va_D _ [(x0, .inr (7, [.ref xs, .ref j0, .ref k0, .ref w0, .ref rd, .ref mv, .ref xr, .int im, .int lf])), (xr, .inl (cI, 8, .inl fr)), (xs, .inl (cS, 8, .inr (.inr (.inr (.inr fh))))), (h0, .inr (4, [.ref e0, .int p_, .int si])), (j0, .inr (0, [.ref z0, .ref jp, .ref jc, .int cn, .int de, .int tr, .int se, .int hu, .int sd])), (jp, .inl (cP, 8, .inr (.inr (.inr (.inr fp)))))] := hD
        refine lv_iload_n hx hb dX7_show_37 rfl (lv_at hl 3 rfl) ?_
        refine lv_iconst (v := (-1)) hx hb dX7_show_38 (by decide) ?_
        refine lv_icmp_ne (tgt := 46) hx hb dX7_show_39 (by decide) (fun c_26 => ?_) (fun c_26 => ?_)
        · have fc_26 : p_.toInt ≠ (-1) := zf_ne c_26 rfl (by decide)
          refine lv_iconst (v := 1) hx hb dX7_show_46 (by decide) ?_
          exact W.iret (v := 1) hx hb hr (fun t ht hW => ⟨⟨1, (p_, fr), rfl, ⟨(show (-1) ≤ p_.toInt ∧ p_.toInt ≤ 103 from ⟨by omega, by omega⟩), trivial⟩, by rw [ht]; exact hP.sub (ws' := [(x0, .inr (7, [.ref xs, .ref j0, .ref k0, .ref w0, .ref rd, .ref mv, .ref xr, .int im, .int lf])), (xr, .inl (cI, 8, .inl fr)), (xs, .inl (cS, 8, .inr (.inr (.inr (.inr fh))))), (h0, .inr (4, [.ref e0, .int p_, .int si])), (j0, .inr (0, [.ref z0, .ref jp, .ref jc, .int cn, .int de, .int tr, .int se, .int hu, .int sd])), (jp, .inl (cP, 8, .inr (.inr (.inr (.inr fp)))))]) [0, 1, 2, 3, 4, 5] rfl, hD.sub (ws' := [(x0, .inr (7, [.ref xs, .ref j0, .ref k0, .ref w0, .ref rd, .ref mv, .ref xr, .int im, .int lf])), (xr, .inl (cI, 8, .inl fr)), (xs, .inl (cS, 8, .inr (.inr (.inr (.inr fh))))), (h0, .inr (4, [.ref e0, .int p_, .int si])), (j0, .inr (0, [.ref z0, .ref jp, .ref jc, .int cn, .int de, .int tr, .int se, .int hu, .int sd])), (jp, .inl (cP, 8, .inr (.inr (.inr (.inr fp)))))]) [0, 1, 2, 3, 4, 5] (by decide) rfl⟩, hS.F ht⟩) hS.2.2 dX7_show_47
        · exfalso; have fc_26 : p_.toInt = (-1) := zf_eq c_26 rfl (by decide); omega
theorem hi_X7_holds_4 : ∀ w ∈ u_ws RX4 TX4 3, w ∈ wsX7_holds := fun w h => (goodIn_r (u_ws RX4 TX4 3) [11, 12, 13] rfl (by decide +kernel) w h).1
set_option maxHeartbeats 4000000 in
set_option maxRecDepth 100000 in
theorem c_X_holds (l : Launch) (D : va_G) (cI cJ cZ cP cS : ClassId) (po : zPool) (x0 xs j0 k0 w0 rd mv xr : Nat) (im lf : Int32) (fr : Nat → Int32) (fh : Nat → Option Nat) (s_ : Int32) (h0 e0 : Nat) (he si : Int32) (hy0 : 0 ≤ im.toInt) (hy1 : im.toInt ≤ 1) (hy2 : (-1) ≤ lf.toInt) (hy3 : lf.toInt ≤ 160) (hy4 : (-1) ≤ he.toInt) (hy5 : he.toInt ≤ 103) (hy6 : 0 ≤ si.toInt) (hy7 : si.toInt ≤ 160) (hfs : 0 ≤ s_.toInt → s_.toInt ≤ 7 → fh s_.toNatClampNeg = some h0) (hpz : Nat) : Met l yX7_holds wsX7_holds ({ frames := 2, cells := 0, slots := 0, locals := 43 }) (va_Pc [.ref x0, .int s_] (zW D (zKT cI cJ cZ cP cS) po [(x0, .inr (7, [.ref xs, .ref j0, .ref k0, .ref w0, .ref rd, .ref mv, .ref xr, .int im, .int lf])), (xs, .inl (cS, 8, .inr (.inr (.inr (.inr fh))))), (h0, .inr (4, [.ref e0, .int he, .int si]))] hpz)) (va_Qi (fun (r : Int32) (_ : Unit) => True) (zB D [(x0, .inr (7, [.ref xs, .ref j0, .ref k0, .ref w0, .ref rd, .ref mv, .ref xr, .int im, .int lf])), (xs, .inl (cS, 8, .inr (.inr (.inr (.inr fh))))), (h0, .inr (4, [.ref e0, .int he, .int si]))] hpz (fun (_ : Unit) => [(x0, .inr (7, [.ref xs, .ref j0, .ref k0, .ref w0, .ref rd, .ref mv, .ref xr, .int im, .int lf])), (xs, .inl (cS, 8, .inr (.inr (.inr (.inr fh))))), (h0, .inr (4, [.ref e0, .int he, .int si]))])) (va_A [(x0, .inr (7, [.ref xs, .ref j0, .ref k0, .ref w0, .ref rd, .ref mv, .ref xr, .int im, .int lf])), (xs, .inl (cS, 8, .inr (.inr (.inr (.inr fh))))), (h0, .inr (4, [.ref e0, .int he, .int si]))] hpz)) 0 0 (va_A [(x0, .inr (7, [.ref xs, .ref j0, .ref k0, .ref w0, .ref rd, .ref mv, .ref xr, .int im, .int lf])), (xs, .inl (cS, 8, .inr (.inr (.inr (.inr fh))))), (h0, .inr (4, [.ref e0, .int he, .int si]))] hpz) := by
  refine Met.ofW (cc := cX7_holds) (maxL := 3) (ret := (some .int)) (by decide) rfl ?_
  intro p e s m args below meth c s₁ B hml hv
  obtain ⟨rfl, hsz, hP, hK, hD0, hN, hZ⟩ := hv
  have hx := B.exec
  have hb := B.bytes
  have hr := B.returns
  have hts := atoms_spec (ws := wsX7_holds) B.pre
  have hown : s.vm.findClass RX7 = some m.cls := findClass_of_methodNamed B.named
  have hlocks := B.notSynchronized
  subst hsz
  have hD := hD0.self (sz := s.heap.size)
  have hA : ∀ q : Nat, s.heap.size ≤ q → va_A [(x0, .inr (7, [.ref xs, .ref j0, .ref k0, .ref w0, .ref rd, .ref mv, .ref xr, .int im, .int lf])), (xs, .inl (cS, 8, .inr (.inr (.inr (.inr fh))))), (h0, .inr (4, [.ref e0, .int he, .int si]))] s.heap.size q := fun q h => Or.inr h
  have hS : va_S (va_A [(x0, .inr (7, [.ref xs, .ref j0, .ref k0, .ref w0, .ref rd, .ref mv, .ref xr, .int im, .int lf])), (xs, .inl (cS, 8, .inr (.inr (.inr (.inr fh))))), (h0, .inr (4, [.ref e0, .int he, .int si]))] s.heap.size) s.heap s.heap [] := va_S.rf
  replace hP : va_P D vwCl _ s.heap := hP
  have hl := lv_entry ([.ref x0, .int s_]) (n := 3) (Nat.le_of_ble_eq_true rfl)
  rw [lg_entry_eq]
  generalize (lg_sl ([.ref x0, .int s_]) ++ List.replicate (3 - (lg_sl ([.ref x0, .int s_])).length) Slot.unset).toArray = ls at hl ⊢
  replace hl : lv_has ls 3 [(0, .ref x0), (1, .int s_)] := hl
  refine zw_start (fun H locs hH hL => ?_)
  replace hP : va_P D vwCl [(x0, .inr (7, [.ref xs, .ref j0, .ref k0, .ref w0, .ref rd, .ref mv, .ref xr, .int im, .int lf])), (xs, .inl (cS, 8, .inr (.inr (.inr (.inr fh))))), (h0, .inr (4, [.ref e0, .int he, .int si]))] H := by rw [hH]; exact hP
  replace hS : va_S (va_A [(x0, .inr (7, [.ref xs, .ref j0, .ref k0, .ref w0, .ref rd, .ref mv, .ref xr, .int im, .int lf])), (xs, .inl (cS, 8, .inr (.inr (.inr (.inr fh))))), (h0, .inr (4, [.ref e0, .int he, .int si]))] s.heap.size) s.heap H locs := by rw [hH, hL]; exact hS
  clear hH hL
  refine lv_aload_n hx hb dX7_holds_0 rfl (lv_at hl 0 rfl) ?_
  refine lv_iload_n hx hb dX7_holds_1 rfl (lv_at hl 1 rfl) ?_
  refine zc_Vq (As := [.int s_]) (rest := []) ⟨hx, hb, hml, hown, hts⟩ (c_X_shelfAt l D cI cJ cZ cP cS po x0 xs j0 k0 w0 rd mv xr (im) (lf) ((fun _ => 0)) fh (s_) hy0 hy1 hy2 hy3) (cwV 1 hts gX7_holds_X7_shelfAt rfl rfl rfl (by decide +kernel) ⟨Nat.le_of_ble_eq_true rfl, Nat.le_of_ble_eq_true rfl⟩) hK hN (hZ.kept hS) hP (hP.sub [0, 1] rfl) (va_recv hK hP (ci := 7) (q0 := 0) rfl rfl) rfl hl.1 rfl (Nat.le_of_ble_eq_true rfl) dX7_holds_2 ⟨Nat.le_of_ble_eq_true rfl, Nat.le_of_ble_eq_true rfl⟩ (fun r_1 hr_1 => ?_)
  rcases hr_1 with ⟨rfl, g_2⟩ | ⟨rfl, g_3, g_4⟩ | ⟨rfl, g_5, g_6⟩
  · refine lv_astore_nN (lv' := [(2, .null), (0, .ref x0), (1, .int s_)]) hx hb dX7_holds_5 rfl hl (by decide) rfl (fun ls hl => ?_)
    refine lv_aload_nN hx hb dX7_holds_6 rfl (lv_at hl 0 rfl) ?_
    refine lv_ifnonnullN hx hb dX7_holds_7 ?_
    refine lv_iconst (v := (-1)) hx hb dX7_holds_10 (by decide) ?_
    refine lv_goto (tgt := 18) hx hb dX7_holds_11 (by decide) ?_
    exact W.iret (v := (-1)) hx hb hr (fun t ht hW => ⟨⟨(-1), (), rfl, trivial, by rw [ht]; exact hP.sub (ws' := [(x0, .inr (7, [.ref xs, .ref j0, .ref k0, .ref w0, .ref rd, .ref mv, .ref xr, .int im, .int lf])), (xs, .inl (cS, 8, .inr (.inr (.inr (.inr fh))))), (h0, .inr (4, [.ref e0, .int he, .int si]))]) [0, 1, 2] rfl, hD.sub (ws' := [(x0, .inr (7, [.ref xs, .ref j0, .ref k0, .ref w0, .ref rd, .ref mv, .ref xr, .int im, .int lf])), (xs, .inl (cS, 8, .inr (.inr (.inr (.inr fh))))), (h0, .inr (4, [.ref e0, .int he, .int si]))]) [0, 1, 2] (by decide) rfl⟩, hS.F ht⟩) hS.2.2 dX7_holds_18
  · refine lv_astore_nN (lv' := [(2, .null), (0, .ref x0), (1, .int s_)]) hx hb dX7_holds_5 rfl hl (by decide) rfl (fun ls hl => ?_)
    refine lv_aload_nN hx hb dX7_holds_6 rfl (lv_at hl 0 rfl) ?_
    refine lv_ifnonnullN hx hb dX7_holds_7 ?_
    refine lv_iconst (v := (-1)) hx hb dX7_holds_10 (by decide) ?_
    refine lv_goto (tgt := 18) hx hb dX7_holds_11 (by decide) ?_
    exact W.iret (v := (-1)) hx hb hr (fun t ht hW => ⟨⟨(-1), (), rfl, trivial, by rw [ht]; exact hP.sub (ws' := [(x0, .inr (7, [.ref xs, .ref j0, .ref k0, .ref w0, .ref rd, .ref mv, .ref xr, .int im, .int lf])), (xs, .inl (cS, 8, .inr (.inr (.inr (.inr fh))))), (h0, .inr (4, [.ref e0, .int he, .int si]))]) [0, 1, 2] rfl, hD.sub (ws' := [(x0, .inr (7, [.ref xs, .ref j0, .ref k0, .ref w0, .ref rd, .ref mv, .ref xr, .int im, .int lf])), (xs, .inl (cS, 8, .inr (.inr (.inr (.inr fh))))), (h0, .inr (4, [.ref e0, .int he, .int si]))]) [0, 1, 2] (by decide) rfl⟩, hS.F ht⟩) hS.2.2 dX7_holds_18
  · rw [hfs (by omega) (by omega)]
    refine W.eq (g2 := F0 m 5 ls (.ref h0 :: [])) rfl ?_
    refine lv_astore_n (lv' := [(2, .ref h0), (0, .ref x0), (1, .int s_)]) hx hb dX7_holds_5 rfl hl (by decide) rfl (fun ls hl => ?_)
    refine lv_aload_n hx hb dX7_holds_6 rfl (lv_at hl 0 rfl) ?_
    refine lv_ifnonnull (tgt := 14) hx hb dX7_holds_7 (by decide) ?_
    refine lv_aload_n hx hb dX7_holds_14 rfl (lv_at hl 0 rfl) ?_
    refine va_get (D := D) (ci := 4) (v := .int he) (C := RX4) (T := TX4) (N := 3) hx hb hts hi_X7_holds_4 hown hK hP 2 rfl rfl 1 (by decide) (hts (.fieldLink RX7 87 "TheLiningsInIt$Shelf" "held" "I") (List.mem_of_getElem? (i := 1) rfl)) (fun _ h9 => h9) rfl dX7_holds_15 ?_
    exact W.iret (v := he) hx hb hr (fun t ht hW => ⟨⟨he, (), rfl, trivial, by rw [ht]; exact hP.sub (ws' := [(x0, .inr (7, [.ref xs, .ref j0, .ref k0, .ref w0, .ref rd, .ref mv, .ref xr, .int im, .int lf])), (xs, .inl (cS, 8, .inr (.inr (.inr (.inr fh))))), (h0, .inr (4, [.ref e0, .int he, .int si]))]) [0, 1, 2] rfl, hD.sub (ws' := [(x0, .inr (7, [.ref xs, .ref j0, .ref k0, .ref w0, .ref rd, .ref mv, .ref xr, .int im, .int lf])), (xs, .inl (cS, 8, .inr (.inr (.inr (.inr fh))))), (h0, .inr (4, [.ref e0, .int he, .int si]))]) [0, 1, 2] (by decide) rfl⟩, hS.F ht⟩) hS.2.2 dX7_holds_18
theorem hi_X7_says_4 : ∀ w ∈ u_ws RX4 TX4 3, w ∈ wsX7_says := fun w h => (goodIn_r (u_ws RX4 TX4 3) [52, 53, 54] rfl (by decide +kernel) w h).1
theorem hi_X7_says_7 : ∀ w ∈ u_ws RX7 TX7 9, w ∈ wsX7_says := fun w h => (goodIn_r (u_ws RX7 TX7 9) [55, 56, 57, 58, 59, 60, 61, 62, 63] rfl (by decide +kernel) w h).1
theorem hi_X7_says_2 : ∀ w ∈ u_ws RX2 TX2 3, w ∈ wsX7_says := fun w h => (goodIn_r (u_ws RX2 TX2 3) [64, 65, 66] rfl (by decide +kernel) w h).1
theorem hi_X7_says_0 : ∀ w ∈ u_ws RX0 TX0 9, w ∈ wsX7_says := fun w h => (goodIn_r (u_ws RX0 TX0 9) [67, 68, 69, 70, 71, 72, 73, 74, 75] rfl (by decide +kernel) w h).1
set_option maxHeartbeats 4000000 in
set_option maxRecDepth 100000 in
theorem c_X_says (l : Launch) (D : va_G) (cI cJ cZ cP cS : ClassId) (po : zPool) (x0 xs j0 k0 w0 rd mv xr : Nat) (im lf : Int32) (fr : Nat → Int32) (fh : Nat → Option Nat) (s_ : Int32) (h0 e0 : Nat) (he si : Int32) (j0 jp jc z0 zl zs : Nat) (cn de tr se hu sd : Int32) (fp : Nat → Option Nat) (kf af tf : Nat → Int32) (k : Int32) (hy0 : 0 ≤ im.toInt) (hy1 : im.toInt ≤ 1) (hy2 : (-1) ≤ lf.toInt) (hy3 : lf.toInt ≤ 160) (hy4 : (-1) ≤ he.toInt) (hy5 : he.toInt ≤ 103) (hy6 : 0 ≤ si.toInt) (hy7 : si.toInt ≤ 160) (hfs : 0 ≤ s_.toInt → s_.toInt ≤ 7 → fh s_.toNatClampNeg = some h0) (hy9 : 0 ≤ cn.toInt) (hy10 : cn.toInt ≤ 8) (hy11 : 0 ≤ de.toInt) (hy12 : de.toInt ≤ 24) (hy13 : 0 ≤ hu.toInt) (hy14 : hu.toInt ≤ 9) (hjp : zJP po fp cn kf af tf) (hpz : Nat) : Met l yX7_says wsX7_says ({ frames := 2, cells := 0, slots := 0, locals := 45 }) (va_Pc [.ref x0, .int s_, .int k] (zW D (zKT cI cJ cZ cP cS) po [(x0, .inr (7, [.ref xs, .ref j0, .ref k0, .ref w0, .ref rd, .ref mv, .ref xr, .int im, .int lf])), (xr, .inl (cI, 8, .inl fr)), (xs, .inl (cS, 8, .inr (.inr (.inr (.inr fh))))), (h0, .inr (4, [.ref e0, .int he, .int si])), (j0, .inr (0, [.ref z0, .ref jp, .ref jc, .int cn, .int de, .int tr, .int se, .int hu, .int sd])), (jp, .inl (cP, 8, .inr (.inr (.inr (.inr fp)))))] hpz)) (va_Qi (fun (r : Int32) (fr2 : (Nat → Int32)) => True) (zB D [(x0, .inr (7, [.ref xs, .ref j0, .ref k0, .ref w0, .ref rd, .ref mv, .ref xr, .int im, .int lf])), (xr, .inl (cI, 8, .inl fr)), (xs, .inl (cS, 8, .inr (.inr (.inr (.inr fh))))), (h0, .inr (4, [.ref e0, .int he, .int si])), (j0, .inr (0, [.ref z0, .ref jp, .ref jc, .int cn, .int de, .int tr, .int se, .int hu, .int sd])), (jp, .inl (cP, 8, .inr (.inr (.inr (.inr fp)))))] hpz (fun (fr2 : Nat → Int32) => [(x0, .inr (7, [.ref xs, .ref j0, .ref k0, .ref w0, .ref rd, .ref mv, .ref xr, .int im, .int lf])), (xr, .inl (cI, 8, .inl fr2)), (xs, .inl (cS, 8, .inr (.inr (.inr (.inr fh))))), (h0, .inr (4, [.ref e0, .int he, .int si])), (j0, .inr (0, [.ref z0, .ref jp, .ref jc, .int cn, .int de, .int tr, .int se, .int hu, .int sd])), (jp, .inl (cP, 8, .inr (.inr (.inr (.inr fp)))))])) (va_A [(x0, .inr (7, [.ref xs, .ref j0, .ref k0, .ref w0, .ref rd, .ref mv, .ref xr, .int im, .int lf])), (xr, .inl (cI, 8, .inl fr)), (xs, .inl (cS, 8, .inr (.inr (.inr (.inr fh))))), (h0, .inr (4, [.ref e0, .int he, .int si])), (j0, .inr (0, [.ref z0, .ref jp, .ref jc, .int cn, .int de, .int tr, .int se, .int hu, .int sd])), (jp, .inl (cP, 8, .inr (.inr (.inr (.inr fp)))))] hpz)) 0 0 (va_A [(x0, .inr (7, [.ref xs, .ref j0, .ref k0, .ref w0, .ref rd, .ref mv, .ref xr, .int im, .int lf])), (xr, .inl (cI, 8, .inl fr)), (xs, .inl (cS, 8, .inr (.inr (.inr (.inr fh))))), (h0, .inr (4, [.ref e0, .int he, .int si])), (j0, .inr (0, [.ref z0, .ref jp, .ref jc, .int cn, .int de, .int tr, .int se, .int hu, .int sd])), (jp, .inl (cP, 8, .inr (.inr (.inr (.inr fp)))))] hpz) := by
  refine Met.ofW (cc := cX7_says) (maxL := 5) (ret := (some .int)) (by decide) rfl ?_
  intro p e s m args below meth c s₁ B hml hv
  obtain ⟨rfl, hsz, hP, hK, hD0, hN, hZ⟩ := hv
  have hx := B.exec
  have hb := B.bytes
  have hr := B.returns
  have hts := atoms_spec (ws := wsX7_says) B.pre
  have hown : s.vm.findClass RX7 = some m.cls := findClass_of_methodNamed B.named
  have hlocks := B.notSynchronized
  subst hsz
  have hD := hD0.self (sz := s.heap.size)
  have hA : ∀ q : Nat, s.heap.size ≤ q → va_A [(x0, .inr (7, [.ref xs, .ref j0, .ref k0, .ref w0, .ref rd, .ref mv, .ref xr, .int im, .int lf])), (xr, .inl (cI, 8, .inl fr)), (xs, .inl (cS, 8, .inr (.inr (.inr (.inr fh))))), (h0, .inr (4, [.ref e0, .int he, .int si])), (j0, .inr (0, [.ref z0, .ref jp, .ref jc, .int cn, .int de, .int tr, .int se, .int hu, .int sd])), (jp, .inl (cP, 8, .inr (.inr (.inr (.inr fp)))))] s.heap.size q := fun q h => Or.inr h
  have hS : va_S (va_A [(x0, .inr (7, [.ref xs, .ref j0, .ref k0, .ref w0, .ref rd, .ref mv, .ref xr, .int im, .int lf])), (xr, .inl (cI, 8, .inl fr)), (xs, .inl (cS, 8, .inr (.inr (.inr (.inr fh))))), (h0, .inr (4, [.ref e0, .int he, .int si])), (j0, .inr (0, [.ref z0, .ref jp, .ref jc, .int cn, .int de, .int tr, .int se, .int hu, .int sd])), (jp, .inl (cP, 8, .inr (.inr (.inr (.inr fp)))))] s.heap.size) s.heap s.heap [] := va_S.rf
  replace hP : va_P D vwCl _ s.heap := hP
  have hl := lv_entry ([.ref x0, .int s_, .int k]) (n := 5) (Nat.le_of_ble_eq_true rfl)
  rw [lg_entry_eq]
  generalize (lg_sl ([.ref x0, .int s_, .int k]) ++ List.replicate (5 - (lg_sl ([.ref x0, .int s_, .int k])).length) Slot.unset).toArray = ls at hl ⊢
  replace hl : lv_has ls 5 [(0, .ref x0), (1, .int s_), (2, .int k)] := hl
  refine zw_start (fun H locs hH hL => ?_)
  replace hP : va_P D vwCl [(x0, .inr (7, [.ref xs, .ref j0, .ref k0, .ref w0, .ref rd, .ref mv, .ref xr, .int im, .int lf])), (xr, .inl (cI, 8, .inl fr)), (xs, .inl (cS, 8, .inr (.inr (.inr (.inr fh))))), (h0, .inr (4, [.ref e0, .int he, .int si])), (j0, .inr (0, [.ref z0, .ref jp, .ref jc, .int cn, .int de, .int tr, .int se, .int hu, .int sd])), (jp, .inl (cP, 8, .inr (.inr (.inr (.inr fp)))))] H := by rw [hH]; exact hP
  replace hS : va_S (va_A [(x0, .inr (7, [.ref xs, .ref j0, .ref k0, .ref w0, .ref rd, .ref mv, .ref xr, .int im, .int lf])), (xr, .inl (cI, 8, .inl fr)), (xs, .inl (cS, 8, .inr (.inr (.inr (.inr fh))))), (h0, .inr (4, [.ref e0, .int he, .int si])), (j0, .inr (0, [.ref z0, .ref jp, .ref jc, .int cn, .int de, .int tr, .int se, .int hu, .int sd])), (jp, .inl (cP, 8, .inr (.inr (.inr (.inr fp)))))] s.heap.size) s.heap H locs := by rw [hH, hL]; exact hS
  clear hH hL
  refine lv_aload_n hx hb dX7_says_0 rfl (lv_at hl 0 rfl) ?_
  refine lv_iload_n hx hb dX7_says_1 rfl (lv_at hl 1 rfl) ?_
  refine zc_Vq (As := [.int s_]) (rest := []) ⟨hx, hb, hml, hown, hts⟩ (c_X_shelfAt l D cI cJ cZ cP cS po x0 xs j0 k0 w0 rd mv xr (im) (lf) ((fun _ => 0)) fh (s_) hy0 hy1 hy2 hy3) (cwV 1 hts gX7_says_X7_shelfAt rfl rfl rfl (by decide +kernel) ⟨Nat.le_of_ble_eq_true rfl, Nat.le_of_ble_eq_true rfl⟩) hK hN (hZ.kept hS) hP (hP.sub [0, 2] rfl) (va_recv hK hP (ci := 7) (q0 := 0) rfl rfl) rfl hl.1 rfl (Nat.le_of_ble_eq_true rfl) dX7_says_2 ⟨Nat.le_of_ble_eq_true rfl, Nat.le_of_ble_eq_true rfl⟩ (fun r_1 hr_1 => ?_)
  rcases hr_1 with ⟨rfl, g_2⟩ | ⟨rfl, g_3, g_4⟩ | ⟨rfl, g_5, g_6⟩
  · refine lv_astore_nN (lv' := [(3, .null), (0, .ref x0), (1, .int s_), (2, .int k)]) hx hb dX7_says_5 rfl hl (by decide) rfl (fun ls hl => ?_)
    refine lv_aload_nN hx hb dX7_says_6 rfl (lv_at hl 0 rfl) ?_
    refine lv_ifnullN (tgt := 20) hx hb dX7_says_7 (by decide) ?_
    refine lv_aload_n hx hb dX7_says_20 rfl (lv_at hl 1 rfl) ?_
    refine lv_iconst (v := 1) hx hb dX7_says_21 (by decide) ?_
    skip
    refine zw_V (As := [.int 1]) (rest := []) (wr := [(xs, .inl (cS, 8, .inr (.inr (.inr (.inr fh))))), (h0, .inr (4, [.ref e0, .int he, .int si])), (j0, .inr (0, [.ref z0, .ref jp, .ref jc, .int cn, .int de, .int tr, .int se, .int hu, .int sd])), (jp, .inl (cP, 8, .inr (.inr (.inr (.inr fp)))))]) ⟨hx, hb, hml, hown, hts⟩ (c_X_refuse_1 l D cI cJ cZ cP cS po x0 xs j0 k0 w0 rd mv xr (im) (lf) fr hy0 hy1 hy2 hy3 H.size) (cwV 1 hts gX7_says_X7_refuse rfl rfl rfl (by decide +kernel) ⟨Nat.le_of_ble_eq_true rfl, Nat.le_of_ble_eq_true rfl⟩) hK hN (hZ.kept hS) hP hD hS hA [0, 1] [2, 3, 4, 5] rfl rfl (by decide) (by decide) (by decide) (va_recv hK hP (ci := 7) (q0 := 0) rfl rfl) rfl hl.1 rfl (Nat.le_of_ble_eq_true rfl) dX7_says_22 ⟨Nat.le_of_ble_eq_true rfl, Nat.le_of_ble_eq_true rfl⟩ (fun r_7 u_8 H locs hr_7 hP hD hS => ?_)
    obtain ⟨q_9, rfl⟩ : ∃ z, z = u_8 := ⟨_, rfl⟩
    replace hP : va_P D vwCl [(xs, .inl (cS, 8, .inr (.inr (.inr (.inr fh))))), (h0, .inr (4, [.ref e0, .int he, .int si])), (j0, .inr (0, [.ref z0, .ref jp, .ref jc, .int cn, .int de, .int tr, .int se, .int hu, .int sd])), (jp, .inl (cP, 8, .inr (.inr (.inr (.inr fp))))), (x0, .inr (7, [.ref xs, .ref j0, .ref k0, .ref w0, .ref rd, .ref mv, .ref xr, .int im, .int lf])), (xr, .inl (cI, 8, .inl q_9))] H := hP
    replace hD : va_D _ [(xs, .inl (cS, 8, .inr (.inr (.inr (.inr fh))))), (h0, .inr (4, [.ref e0, .int he, .int si])), (j0, .inr (0, [.ref z0, .ref jp, .ref jc, .int cn, .int de, .int tr, .int se, .int hu, .int sd])), (jp, .inl (cP, 8, .inr (.inr (.inr (.inr fp))))), (x0, .inr (7, [.ref xs, .ref j0, .ref k0, .ref w0, .ref rd, .ref mv, .ref xr, .int im, .int lf])), (xr, .inl (cI, 8, .inl q_9))] := hD
    obtain rfl := hr_7
    exact W.iret (v := (-1)) hx hb hr (fun t ht hW => ⟨⟨(-1), q_9, rfl, trivial, by rw [ht]; exact hP.sub (ws' := [(x0, .inr (7, [.ref xs, .ref j0, .ref k0, .ref w0, .ref rd, .ref mv, .ref xr, .int im, .int lf])), (xr, .inl (cI, 8, .inl q_9)), (xs, .inl (cS, 8, .inr (.inr (.inr (.inr fh))))), (h0, .inr (4, [.ref e0, .int he, .int si])), (j0, .inr (0, [.ref z0, .ref jp, .ref jc, .int cn, .int de, .int tr, .int se, .int hu, .int sd])), (jp, .inl (cP, 8, .inr (.inr (.inr (.inr fp)))))]) [4, 5, 0, 1, 2, 3] rfl, hD.sub (ws' := [(x0, .inr (7, [.ref xs, .ref j0, .ref k0, .ref w0, .ref rd, .ref mv, .ref xr, .int im, .int lf])), (xr, .inl (cI, 8, .inl q_9)), (xs, .inl (cS, 8, .inr (.inr (.inr (.inr fh))))), (h0, .inr (4, [.ref e0, .int he, .int si])), (j0, .inr (0, [.ref z0, .ref jp, .ref jc, .int cn, .int de, .int tr, .int se, .int hu, .int sd])), (jp, .inl (cP, 8, .inr (.inr (.inr (.inr fp)))))]) [4, 5, 0, 1, 2, 3] (by decide) rfl⟩, hS.F ht⟩) hS.2.2 dX7_says_25
  · refine lv_astore_nN (lv' := [(3, .null), (0, .ref x0), (1, .int s_), (2, .int k)]) hx hb dX7_says_5 rfl hl (by decide) rfl (fun ls hl => ?_)
    refine lv_aload_nN hx hb dX7_says_6 rfl (lv_at hl 0 rfl) ?_
    refine lv_ifnullN (tgt := 20) hx hb dX7_says_7 (by decide) ?_
    refine lv_aload_n hx hb dX7_says_20 rfl (lv_at hl 1 rfl) ?_
    refine lv_iconst (v := 1) hx hb dX7_says_21 (by decide) ?_
    skip
    refine zw_V (As := [.int 1]) (rest := []) (wr := [(xs, .inl (cS, 8, .inr (.inr (.inr (.inr fh))))), (h0, .inr (4, [.ref e0, .int he, .int si])), (j0, .inr (0, [.ref z0, .ref jp, .ref jc, .int cn, .int de, .int tr, .int se, .int hu, .int sd])), (jp, .inl (cP, 8, .inr (.inr (.inr (.inr fp)))))]) ⟨hx, hb, hml, hown, hts⟩ (c_X_refuse_1 l D cI cJ cZ cP cS po x0 xs j0 k0 w0 rd mv xr (im) (lf) fr hy0 hy1 hy2 hy3 H.size) (cwV 1 hts gX7_says_X7_refuse rfl rfl rfl (by decide +kernel) ⟨Nat.le_of_ble_eq_true rfl, Nat.le_of_ble_eq_true rfl⟩) hK hN (hZ.kept hS) hP hD hS hA [0, 1] [2, 3, 4, 5] rfl rfl (by decide) (by decide) (by decide) (va_recv hK hP (ci := 7) (q0 := 0) rfl rfl) rfl hl.1 rfl (Nat.le_of_ble_eq_true rfl) dX7_says_22 ⟨Nat.le_of_ble_eq_true rfl, Nat.le_of_ble_eq_true rfl⟩ (fun r_10 u_11 H locs hr_10 hP hD hS => ?_)
    obtain ⟨q_12, rfl⟩ : ∃ z, z = u_11 := ⟨_, rfl⟩
    replace hP : va_P D vwCl [(xs, .inl (cS, 8, .inr (.inr (.inr (.inr fh))))), (h0, .inr (4, [.ref e0, .int he, .int si])), (j0, .inr (0, [.ref z0, .ref jp, .ref jc, .int cn, .int de, .int tr, .int se, .int hu, .int sd])), (jp, .inl (cP, 8, .inr (.inr (.inr (.inr fp))))), (x0, .inr (7, [.ref xs, .ref j0, .ref k0, .ref w0, .ref rd, .ref mv, .ref xr, .int im, .int lf])), (xr, .inl (cI, 8, .inl q_12))] H := hP
    replace hD : va_D _ [(xs, .inl (cS, 8, .inr (.inr (.inr (.inr fh))))), (h0, .inr (4, [.ref e0, .int he, .int si])), (j0, .inr (0, [.ref z0, .ref jp, .ref jc, .int cn, .int de, .int tr, .int se, .int hu, .int sd])), (jp, .inl (cP, 8, .inr (.inr (.inr (.inr fp))))), (x0, .inr (7, [.ref xs, .ref j0, .ref k0, .ref w0, .ref rd, .ref mv, .ref xr, .int im, .int lf])), (xr, .inl (cI, 8, .inl q_12))] := hD
    obtain rfl := hr_10
    exact W.iret (v := (-1)) hx hb hr (fun t ht hW => ⟨⟨(-1), q_12, rfl, trivial, by rw [ht]; exact hP.sub (ws' := [(x0, .inr (7, [.ref xs, .ref j0, .ref k0, .ref w0, .ref rd, .ref mv, .ref xr, .int im, .int lf])), (xr, .inl (cI, 8, .inl q_12)), (xs, .inl (cS, 8, .inr (.inr (.inr (.inr fh))))), (h0, .inr (4, [.ref e0, .int he, .int si])), (j0, .inr (0, [.ref z0, .ref jp, .ref jc, .int cn, .int de, .int tr, .int se, .int hu, .int sd])), (jp, .inl (cP, 8, .inr (.inr (.inr (.inr fp)))))]) [4, 5, 0, 1, 2, 3] rfl, hD.sub (ws' := [(x0, .inr (7, [.ref xs, .ref j0, .ref k0, .ref w0, .ref rd, .ref mv, .ref xr, .int im, .int lf])), (xr, .inl (cI, 8, .inl q_12)), (xs, .inl (cS, 8, .inr (.inr (.inr (.inr fh))))), (h0, .inr (4, [.ref e0, .int he, .int si])), (j0, .inr (0, [.ref z0, .ref jp, .ref jc, .int cn, .int de, .int tr, .int se, .int hu, .int sd])), (jp, .inl (cP, 8, .inr (.inr (.inr (.inr fp)))))]) [4, 5, 0, 1, 2, 3] (by decide) rfl⟩, hS.F ht⟩) hS.2.2 dX7_says_25
  · rw [hfs (by omega) (by omega)]
    refine W.eq (g2 := F0 m 5 ls (.ref h0 :: [])) rfl ?_
    refine lv_astore_n (lv' := [(3, .ref h0), (0, .ref x0), (1, .int s_), (2, .int k)]) hx hb dX7_says_5 rfl hl (by decide) rfl (fun ls hl => ?_)
    refine lv_aload_n hx hb dX7_says_6 rfl (lv_at hl 0 rfl) ?_
    refine lv_ifnull hx hb dX7_says_7 ?_
    refine lv_iload_n hx hb dX7_says_10 rfl (lv_at hl 3 rfl) ?_
    refine lv_iconst (v := 0) hx hb dX7_says_11 (by decide) ?_
    refine lv_bipush (v := 6) hx hb dX7_says_12 (by decide) ?_
    have kc0 : (0 : Int32).toInt = 0 := by decide
    have kc6 : (6 : Int32).toInt = 6 := by decide
    refine zc_S (As := [.int k, .int 0, .int 6]) (rest := []) ⟨hx, hb, hml, hown, hts⟩ (c_within l D cI cJ cZ cP cS po (k) (0) (6) ) (va_cwS 3 hts gX7_says_X7_within rfl rfl rfl (by decide +kernel) ⟨Nat.le_of_ble_eq_true rfl, Nat.le_of_ble_eq_true rfl⟩) hK hN (hZ.kept hS) rfl hl.1 rfl (Nat.le_of_ble_eq_true rfl) dX7_says_14 ⟨Nat.le_of_ble_eq_true rfl, Nat.le_of_ble_eq_true rfl⟩ (fun r_13 hr_13 => ?_)
    rcases hr_13 with ⟨rfl, g_14⟩ | ⟨rfl, g_15, g_16⟩ | ⟨rfl, g_17, g_18⟩
    · refine lv_if_ne (tgt := 26) hx hb dX7_says_17 (by decide) (fun c_19 => ?_) (fun c_19 => ?_)
      · exact absurd c_19 (by decide)
      · refine lv_aload_n hx hb dX7_says_20 rfl (lv_at hl 1 rfl) ?_
        refine lv_iconst (v := 1) hx hb dX7_says_21 (by decide) ?_
        skip
        refine zw_V (As := [.int 1]) (rest := []) (wr := [(xs, .inl (cS, 8, .inr (.inr (.inr (.inr fh))))), (h0, .inr (4, [.ref e0, .int he, .int si])), (j0, .inr (0, [.ref z0, .ref jp, .ref jc, .int cn, .int de, .int tr, .int se, .int hu, .int sd])), (jp, .inl (cP, 8, .inr (.inr (.inr (.inr fp)))))]) ⟨hx, hb, hml, hown, hts⟩ (c_X_refuse_1 l D cI cJ cZ cP cS po x0 xs j0 k0 w0 rd mv xr (im) (lf) fr hy0 hy1 hy2 hy3 H.size) (cwV 1 hts gX7_says_X7_refuse rfl rfl rfl (by decide +kernel) ⟨Nat.le_of_ble_eq_true rfl, Nat.le_of_ble_eq_true rfl⟩) hK hN (hZ.kept hS) hP hD hS hA [0, 1] [2, 3, 4, 5] rfl rfl (by decide) (by decide) (by decide) (va_recv hK hP (ci := 7) (q0 := 0) rfl rfl) rfl hl.1 rfl (Nat.le_of_ble_eq_true rfl) dX7_says_22 ⟨Nat.le_of_ble_eq_true rfl, Nat.le_of_ble_eq_true rfl⟩ (fun r_20 u_21 H locs hr_20 hP hD hS => ?_)
        obtain ⟨q_22, rfl⟩ : ∃ z, z = u_21 := ⟨_, rfl⟩
        replace hP : va_P D vwCl [(xs, .inl (cS, 8, .inr (.inr (.inr (.inr fh))))), (h0, .inr (4, [.ref e0, .int he, .int si])), (j0, .inr (0, [.ref z0, .ref jp, .ref jc, .int cn, .int de, .int tr, .int se, .int hu, .int sd])), (jp, .inl (cP, 8, .inr (.inr (.inr (.inr fp))))), (x0, .inr (7, [.ref xs, .ref j0, .ref k0, .ref w0, .ref rd, .ref mv, .ref xr, .int im, .int lf])), (xr, .inl (cI, 8, .inl q_22))] H := hP
        replace hD : va_D _ [(xs, .inl (cS, 8, .inr (.inr (.inr (.inr fh))))), (h0, .inr (4, [.ref e0, .int he, .int si])), (j0, .inr (0, [.ref z0, .ref jp, .ref jc, .int cn, .int de, .int tr, .int se, .int hu, .int sd])), (jp, .inl (cP, 8, .inr (.inr (.inr (.inr fp))))), (x0, .inr (7, [.ref xs, .ref j0, .ref k0, .ref w0, .ref rd, .ref mv, .ref xr, .int im, .int lf])), (xr, .inl (cI, 8, .inl q_22))] := hD
        obtain rfl := hr_20
        exact W.iret (v := (-1)) hx hb hr (fun t ht hW => ⟨⟨(-1), q_22, rfl, trivial, by rw [ht]; exact hP.sub (ws' := [(x0, .inr (7, [.ref xs, .ref j0, .ref k0, .ref w0, .ref rd, .ref mv, .ref xr, .int im, .int lf])), (xr, .inl (cI, 8, .inl q_22)), (xs, .inl (cS, 8, .inr (.inr (.inr (.inr fh))))), (h0, .inr (4, [.ref e0, .int he, .int si])), (j0, .inr (0, [.ref z0, .ref jp, .ref jc, .int cn, .int de, .int tr, .int se, .int hu, .int sd])), (jp, .inl (cP, 8, .inr (.inr (.inr (.inr fp)))))]) [4, 5, 0, 1, 2, 3] rfl, hD.sub (ws' := [(x0, .inr (7, [.ref xs, .ref j0, .ref k0, .ref w0, .ref rd, .ref mv, .ref xr, .int im, .int lf])), (xr, .inl (cI, 8, .inl q_22)), (xs, .inl (cS, 8, .inr (.inr (.inr (.inr fh))))), (h0, .inr (4, [.ref e0, .int he, .int si])), (j0, .inr (0, [.ref z0, .ref jp, .ref jc, .int cn, .int de, .int tr, .int se, .int hu, .int sd])), (jp, .inl (cP, 8, .inr (.inr (.inr (.inr fp)))))]) [4, 5, 0, 1, 2, 3] (by decide) rfl⟩, hS.F ht⟩) hS.2.2 dX7_says_25
    · refine lv_if_ne (tgt := 26) hx hb dX7_says_17 (by decide) (fun c_23 => ?_) (fun c_23 => ?_)
      · exact absurd c_23 (by decide)
      · refine lv_aload_n hx hb dX7_says_20 rfl (lv_at hl 1 rfl) ?_
        refine lv_iconst (v := 1) hx hb dX7_says_21 (by decide) ?_
        skip
        refine zw_V (As := [.int 1]) (rest := []) (wr := [(xs, .inl (cS, 8, .inr (.inr (.inr (.inr fh))))), (h0, .inr (4, [.ref e0, .int he, .int si])), (j0, .inr (0, [.ref z0, .ref jp, .ref jc, .int cn, .int de, .int tr, .int se, .int hu, .int sd])), (jp, .inl (cP, 8, .inr (.inr (.inr (.inr fp)))))]) ⟨hx, hb, hml, hown, hts⟩ (c_X_refuse_1 l D cI cJ cZ cP cS po x0 xs j0 k0 w0 rd mv xr (im) (lf) fr hy0 hy1 hy2 hy3 H.size) (cwV 1 hts gX7_says_X7_refuse rfl rfl rfl (by decide +kernel) ⟨Nat.le_of_ble_eq_true rfl, Nat.le_of_ble_eq_true rfl⟩) hK hN (hZ.kept hS) hP hD hS hA [0, 1] [2, 3, 4, 5] rfl rfl (by decide) (by decide) (by decide) (va_recv hK hP (ci := 7) (q0 := 0) rfl rfl) rfl hl.1 rfl (Nat.le_of_ble_eq_true rfl) dX7_says_22 ⟨Nat.le_of_ble_eq_true rfl, Nat.le_of_ble_eq_true rfl⟩ (fun r_24 u_25 H locs hr_24 hP hD hS => ?_)
        obtain ⟨q_26, rfl⟩ : ∃ z, z = u_25 := ⟨_, rfl⟩
        replace hP : va_P D vwCl [(xs, .inl (cS, 8, .inr (.inr (.inr (.inr fh))))), (h0, .inr (4, [.ref e0, .int he, .int si])), (j0, .inr (0, [.ref z0, .ref jp, .ref jc, .int cn, .int de, .int tr, .int se, .int hu, .int sd])), (jp, .inl (cP, 8, .inr (.inr (.inr (.inr fp))))), (x0, .inr (7, [.ref xs, .ref j0, .ref k0, .ref w0, .ref rd, .ref mv, .ref xr, .int im, .int lf])), (xr, .inl (cI, 8, .inl q_26))] H := hP
        replace hD : va_D _ [(xs, .inl (cS, 8, .inr (.inr (.inr (.inr fh))))), (h0, .inr (4, [.ref e0, .int he, .int si])), (j0, .inr (0, [.ref z0, .ref jp, .ref jc, .int cn, .int de, .int tr, .int se, .int hu, .int sd])), (jp, .inl (cP, 8, .inr (.inr (.inr (.inr fp))))), (x0, .inr (7, [.ref xs, .ref j0, .ref k0, .ref w0, .ref rd, .ref mv, .ref xr, .int im, .int lf])), (xr, .inl (cI, 8, .inl q_26))] := hD
        obtain rfl := hr_24
        exact W.iret (v := (-1)) hx hb hr (fun t ht hW => ⟨⟨(-1), q_26, rfl, trivial, by rw [ht]; exact hP.sub (ws' := [(x0, .inr (7, [.ref xs, .ref j0, .ref k0, .ref w0, .ref rd, .ref mv, .ref xr, .int im, .int lf])), (xr, .inl (cI, 8, .inl q_26)), (xs, .inl (cS, 8, .inr (.inr (.inr (.inr fh))))), (h0, .inr (4, [.ref e0, .int he, .int si])), (j0, .inr (0, [.ref z0, .ref jp, .ref jc, .int cn, .int de, .int tr, .int se, .int hu, .int sd])), (jp, .inl (cP, 8, .inr (.inr (.inr (.inr fp)))))]) [4, 5, 0, 1, 2, 3] rfl, hD.sub (ws' := [(x0, .inr (7, [.ref xs, .ref j0, .ref k0, .ref w0, .ref rd, .ref mv, .ref xr, .int im, .int lf])), (xr, .inl (cI, 8, .inl q_26)), (xs, .inl (cS, 8, .inr (.inr (.inr (.inr fh))))), (h0, .inr (4, [.ref e0, .int he, .int si])), (j0, .inr (0, [.ref z0, .ref jp, .ref jc, .int cn, .int de, .int tr, .int se, .int hu, .int sd])), (jp, .inl (cP, 8, .inr (.inr (.inr (.inr fp)))))]) [4, 5, 0, 1, 2, 3] (by decide) rfl⟩, hS.F ht⟩) hS.2.2 dX7_says_25
    · refine lv_if_ne (tgt := 26) hx hb dX7_says_17 (by decide) (fun c_27 => ?_) (fun c_27 => ?_)
      · refine lv_aload_n hx hb dX7_says_26 rfl (lv_at hl 0 rfl) ?_
        refine va_get (D := D) (ci := 4) (v := .int he) (C := RX4) (T := TX4) (N := 3) hx hb hts hi_X7_says_4 hown hK hP 3 rfl rfl 1 (by decide) (hts (.fieldLink RX7 87 "TheLiningsInIt$Shelf" "held" "I") (List.mem_of_getElem? (i := 1) rfl)) (fun _ h9 => h9) rfl dX7_says_27 ?_
        refine lv_iconst (v := (-1)) hx hb dX7_says_30 (by decide) ?_
        refine lv_icmp_ne (tgt := 40) hx hb dX7_says_31 (by decide) (fun c_28 => ?_) (fun c_28 => ?_)
        · have fc_28 : he.toInt ≠ (-1) := zf_ne c_28 rfl (by decide)
          refine lv_aload_n hx hb dX7_says_40 rfl (lv_at hl 1 rfl) ?_
          refine va_get (D := D) (ci := 7) (v := .ref j0) (C := RX7) (T := TX7) (N := 9) hx hb hts hi_X7_says_7 hown hK hP 0 rfl rfl 1 (by decide) (hts (.fieldLink RX7 18 "TheLiningsInIt" "now" "LTheLiningsInIt$Jacket;") (List.mem_of_getElem? (i := 2) rfl)) (fun _ h9 => h9) rfl dX7_says_41 ?_
          refine lv_aload_n hx hb dX7_says_44 rfl (lv_at hl 0 rfl) ?_
          refine va_get (D := D) (ci := 4) (v := .int he) (C := RX4) (T := TX4) (N := 3) hx hb hts hi_X7_says_4 hown hK hP 3 rfl rfl 1 (by decide) (hts (.fieldLink RX7 87 "TheLiningsInIt$Shelf" "held" "I") (List.mem_of_getElem? (i := 1) rfl)) (fun _ h9 => h9) rfl dX7_says_45 ?_
          refine zc_Vq (As := [.int he]) (rest := []) ⟨hx, hb, hml, hown, hts⟩ (c_J_pullAt l D cI cJ cZ cP cS po j0 jp jc z0 0 0 (cn) (de) (tr) (se) (hu) (sd) fp kf af tf (he) hy9 hy10 hy11 hy12 hy13 hy14 hjp) (cwV 1 hts gX7_says_X0_pullAt rfl rfl rfl (by decide +kernel) ⟨Nat.le_of_ble_eq_true rfl, Nat.le_of_ble_eq_true rfl⟩) hK hN (hZ.kept hS) hP (hP.sub [4, 5] rfl) (va_recv hK hP (ci := 0) (q0 := 4) rfl rfl) rfl hl.1 rfl (Nat.le_of_ble_eq_true rfl) dX7_says_48 ⟨Nat.le_of_ble_eq_true rfl, Nat.le_of_ble_eq_true rfl⟩ (fun r_29 hr_29 => ?_)
          rcases hr_29 with ⟨rfl, g_30⟩ | ⟨rfl, g_31⟩ | ⟨⟨u_33, kiu_33, au_33, tu_33, rfl, huu_33, hkku_33⟩, g_32⟩
          · exfalso; omega
          · refine lv_astoreN (lv' := [(4, .null), (3, .ref h0), (0, .ref x0), (1, .int s_), (2, .int k)]) hx hb dX7_says_51 hl (by decide) rfl (fun ls hl => ?_)
            refine lv_aloadN hx hb dX7_says_53 (lv_at hl 0 rfl) ?_
            refine lv_ifnullN (tgt := 67) hx hb dX7_says_55 (by decide) ?_
            refine lv_aload_n hx hb dX7_says_67 rfl (lv_at hl 2 rfl) ?_
            refine lv_iconst (v := 2) hx hb dX7_says_68 (by decide) ?_
            skip
            refine zw_V (As := [.int 2]) (rest := []) (wr := [(xs, .inl (cS, 8, .inr (.inr (.inr (.inr fh))))), (h0, .inr (4, [.ref e0, .int he, .int si])), (j0, .inr (0, [.ref z0, .ref jp, .ref jc, .int cn, .int de, .int tr, .int se, .int hu, .int sd])), (jp, .inl (cP, 8, .inr (.inr (.inr (.inr fp)))))]) ⟨hx, hb, hml, hown, hts⟩ (c_X_refuse_2 l D cI cJ cZ cP cS po x0 xs j0 k0 w0 rd mv xr (im) (lf) fr hy0 hy1 hy2 hy3 H.size) (cwV 1 hts gX7_says_X7_refuse rfl rfl rfl (by decide +kernel) ⟨Nat.le_of_ble_eq_true rfl, Nat.le_of_ble_eq_true rfl⟩) hK hN (hZ.kept hS) hP hD hS hA [0, 1] [2, 3, 4, 5] rfl rfl (by decide) (by decide) (by decide) (va_recv hK hP (ci := 7) (q0 := 0) rfl rfl) rfl hl.1 rfl (Nat.le_of_ble_eq_true rfl) dX7_says_69 ⟨Nat.le_of_ble_eq_true rfl, Nat.le_of_ble_eq_true rfl⟩ (fun r_34 u_35 H locs hr_34 hP hD hS => ?_)
            obtain ⟨q_36, rfl⟩ : ∃ z, z = u_35 := ⟨_, rfl⟩
            replace hP : va_P D vwCl [(xs, .inl (cS, 8, .inr (.inr (.inr (.inr fh))))), (h0, .inr (4, [.ref e0, .int he, .int si])), (j0, .inr (0, [.ref z0, .ref jp, .ref jc, .int cn, .int de, .int tr, .int se, .int hu, .int sd])), (jp, .inl (cP, 8, .inr (.inr (.inr (.inr fp))))), (x0, .inr (7, [.ref xs, .ref j0, .ref k0, .ref w0, .ref rd, .ref mv, .ref xr, .int im, .int lf])), (xr, .inl (cI, 8, .inl q_36))] H := hP
            replace hD : va_D _ [(xs, .inl (cS, 8, .inr (.inr (.inr (.inr fh))))), (h0, .inr (4, [.ref e0, .int he, .int si])), (j0, .inr (0, [.ref z0, .ref jp, .ref jc, .int cn, .int de, .int tr, .int se, .int hu, .int sd])), (jp, .inl (cP, 8, .inr (.inr (.inr (.inr fp))))), (x0, .inr (7, [.ref xs, .ref j0, .ref k0, .ref w0, .ref rd, .ref mv, .ref xr, .int im, .int lf])), (xr, .inl (cI, 8, .inl q_36))] := hD
            obtain rfl := hr_34
            exact W.iret (v := (-2)) hx hb hr (fun t ht hW => ⟨⟨(-2), q_36, rfl, trivial, by rw [ht]; exact hP.sub (ws' := [(x0, .inr (7, [.ref xs, .ref j0, .ref k0, .ref w0, .ref rd, .ref mv, .ref xr, .int im, .int lf])), (xr, .inl (cI, 8, .inl q_36)), (xs, .inl (cS, 8, .inr (.inr (.inr (.inr fh))))), (h0, .inr (4, [.ref e0, .int he, .int si])), (j0, .inr (0, [.ref z0, .ref jp, .ref jc, .int cn, .int de, .int tr, .int se, .int hu, .int sd])), (jp, .inl (cP, 8, .inr (.inr (.inr (.inr fp)))))]) [4, 5, 0, 1, 2, 3] rfl, hD.sub (ws' := [(x0, .inr (7, [.ref xs, .ref j0, .ref k0, .ref w0, .ref rd, .ref mv, .ref xr, .int im, .int lf])), (xr, .inl (cI, 8, .inl q_36)), (xs, .inl (cS, 8, .inr (.inr (.inr (.inr fh))))), (h0, .inr (4, [.ref e0, .int he, .int si])), (j0, .inr (0, [.ref z0, .ref jp, .ref jc, .int cn, .int de, .int tr, .int se, .int hu, .int sd])), (jp, .inl (cP, 8, .inr (.inr (.inr (.inr fp)))))]) [4, 5, 0, 1, 2, 3] (by decide) rfl⟩, hS.F ht⟩) hS.2.2 dX7_says_72
          · refine W.eq (g2 := F0 m 51 ls (.ref u_33 :: [])) rfl ?_
            obtain ⟨hku_33, hau_33, htu_33⟩ := zPu_pr (hZ.kept hS) huu_33
            refine lv_astore (lv' := [(4, .ref u_33), (3, .ref h0), (0, .ref x0), (1, .int s_), (2, .int k)]) hx hb dX7_says_51 hl (by decide) rfl (fun ls hl => ?_)
            refine lv_aload hx hb dX7_says_53 (lv_at hl 0 rfl) ?_
            refine lv_ifnull hx hb dX7_says_55 ?_
            refine lv_aload hx hb dX7_says_58 (lv_at hl 0 rfl) ?_
            refine lv_iload_n hx hb dX7_says_60 rfl (lv_at hl 4 rfl) ?_
            refine zc_V (As := [.int k]) (rest := []) ⟨hx, hb, hml, hown, hts⟩ (c_Pull_isOf l D cI cJ cZ cP cS po (k) u_33 (kiu_33) (au_33) (tu_33) huu_33 ⟨by omega, by omega, by omega, by omega⟩) (cwV 1 hts gX7_says_X2_isOf rfl rfl rfl (by decide +kernel) ⟨Nat.le_of_ble_eq_true rfl, Nat.le_of_ble_eq_true rfl⟩) hK hN (hZ.kept hS) hP zP_nil (va_recv hK (zPu_P (hZ.kept hS) huu_33) (ci := 2) (q0 := 0) rfl rfl) rfl hl.1 rfl (Nat.le_of_ble_eq_true rfl) dX7_says_61 ⟨Nat.le_of_ble_eq_true rfl, Nat.le_of_ble_eq_true rfl⟩ (fun r_37 hr_37 => ?_)
            obtain ⟨g_38, g_39⟩ := hr_37
            refine lv_if_ne (tgt := 73) hx hb dX7_says_64 (by decide) (fun c_40 => ?_) (fun c_40 => ?_)
            · have fc_40 : r_37.toInt ≠ 0 := zf_ne c_40 rfl (by decide)
              refine lv_iload_n hx hb dX7_says_73 rfl (lv_at hl 4 rfl) ?_
              have hsp : k = 0 ∨ k = 1 ∨ k = 2 ∨ k = 3 ∨ k = 4 ∨ k = 5 ∨ k = 6 := by
                rcases (show k.toInt = 0 ∨ k.toInt = 1 ∨ k.toInt = 2 ∨ k.toInt = 3 ∨ k.toInt = 4 ∨ k.toInt = 5 ∨ k.toInt = 6 by omega) with h9 | h9 | h9 | h9 | h9 | h9 | h9
                · refine Or.inl ?_; exact zf_val h9 (by decide)
                · refine Or.inr (Or.inl ?_); exact zf_val h9 (by decide)
                · refine Or.inr (Or.inr (Or.inl ?_)); exact zf_val h9 (by decide)
                · refine Or.inr (Or.inr (Or.inr (Or.inl ?_))); exact zf_val h9 (by decide)
                · refine Or.inr (Or.inr (Or.inr (Or.inr (Or.inl ?_)))); exact zf_val h9 (by decide)
                · refine Or.inr (Or.inr (Or.inr (Or.inr (Or.inr (Or.inl ?_))))); exact zf_val h9 (by decide)
                · refine Or.inr (Or.inr (Or.inr (Or.inr (Or.inr (Or.inr (?_)))))); exact zf_val h9 (by decide)
              rcases hsp with rfl | rfl | rfl | rfl | rfl | rfl | rfl
              · refine lv_tableIn (tgt := 112) hx hb dX7_says_74 (by decide) (by decide) rfl (by decide) ?_
                refine lv_aload hx hb dX7_says_112 (lv_at hl 0 rfl) ?_
                refine va_get (D := D) (ci := 2) (v := .int tu_33) (C := RX2) (T := TX2) (N := 3) hx hb hts hi_X7_says_2 hown hK (zPu_P (hZ.kept hS) huu_33) 0 rfl rfl 2 (by decide) (hts (.fieldLink RX7 110 "TheLiningsInIt$Pull" "takes" "I") (List.mem_of_getElem? (i := 3) rfl)) (fun _ h9 => h9) rfl dX7_says_114 ?_
                exact W.iret (v := tu_33) hx hb hr (fun t ht hW => ⟨⟨tu_33, fr, rfl, trivial, by rw [ht]; exact hP.sub (ws' := [(x0, .inr (7, [.ref xs, .ref j0, .ref k0, .ref w0, .ref rd, .ref mv, .ref xr, .int im, .int lf])), (xr, .inl (cI, 8, .inl fr)), (xs, .inl (cS, 8, .inr (.inr (.inr (.inr fh))))), (h0, .inr (4, [.ref e0, .int he, .int si])), (j0, .inr (0, [.ref z0, .ref jp, .ref jc, .int cn, .int de, .int tr, .int se, .int hu, .int sd])), (jp, .inl (cP, 8, .inr (.inr (.inr (.inr fp)))))]) [0, 1, 2, 3, 4, 5] rfl, hD.sub (ws' := [(x0, .inr (7, [.ref xs, .ref j0, .ref k0, .ref w0, .ref rd, .ref mv, .ref xr, .int im, .int lf])), (xr, .inl (cI, 8, .inl fr)), (xs, .inl (cS, 8, .inr (.inr (.inr (.inr fh))))), (h0, .inr (4, [.ref e0, .int he, .int si])), (j0, .inr (0, [.ref z0, .ref jp, .ref jc, .int cn, .int de, .int tr, .int se, .int hu, .int sd])), (jp, .inl (cP, 8, .inr (.inr (.inr (.inr fp)))))]) [0, 1, 2, 3, 4, 5] (by decide) rfl⟩, hS.F ht⟩) hS.2.2 dX7_says_117
              · have kc1 : (1 : Int32).toInt = 1 := by decide
                refine lv_tableIn (tgt := 139) hx hb dX7_says_74 (by decide) (by decide) rfl (by decide) ?_
                refine lv_aload hx hb dX7_says_139 (lv_at hl 0 rfl) ?_
                refine lv_bipush (v := 8) hx hb dX7_says_141 (by decide) ?_
                refine lv_aload_n hx hb dX7_says_143 rfl (lv_at hl 2 rfl) ?_
                refine va_get (D := D) (ci := 7) (v := .ref j0) (C := RX7) (T := TX7) (N := 9) hx hb hts hi_X7_says_7 hown hK hP 0 rfl rfl 1 (by decide) (hts (.fieldLink RX7 18 "TheLiningsInIt" "now" "LTheLiningsInIt$Jacket;") (List.mem_of_getElem? (i := 2) rfl)) (fun _ h9 => h9) rfl dX7_says_144 ?_
                refine va_get (D := D) (ci := 0) (v := .int hu) (C := RX0) (T := TX0) (N := 9) hx hb hts hi_X7_says_0 hown hK hP 4 rfl rfl 7 (by decide) (hts (.fieldLink RX7 116 "TheLiningsInIt$Jacket" "hurry" "I") (List.mem_of_getElem? (i := 4) rfl)) (fun _ h9 => h9) rfl dX7_says_147 ?_
                have kc8 : (8 : Int32).toInt = 8 := by decide
                refine zc_V (As := [.int 8, .int hu]) (rest := []) ⟨hx, hb, hml, hown, hts⟩ (c_Pull_waysAt l D cI cJ cZ cP cS po (8) (hu) u_33 (kiu_33) (au_33) (tu_33) huu_33 ⟨by omega, by omega, by omega, by omega⟩ (by omega) (by omega) hy13 hy14) (cwV 2 hts gX7_says_X2_waysAt rfl rfl rfl (by decide +kernel) ⟨Nat.le_of_ble_eq_true rfl, Nat.le_of_ble_eq_true rfl⟩) hK hN (hZ.kept hS) hP zP_nil (va_recv hK (zPu_P (hZ.kept hS) huu_33) (ci := 2) (q0 := 0) rfl rfl) rfl hl.1 rfl (Nat.le_of_ble_eq_true rfl) dX7_says_150 ⟨Nat.le_of_ble_eq_true rfl, Nat.le_of_ble_eq_true rfl⟩ (fun r_41 hr_41 => ?_)
                obtain ⟨g_42, g_43⟩ := hr_41
                exact W.iret (v := r_41) hx hb hr (fun t ht hW => ⟨⟨r_41, fr, rfl, trivial, by rw [ht]; exact hP.sub (ws' := [(x0, .inr (7, [.ref xs, .ref j0, .ref k0, .ref w0, .ref rd, .ref mv, .ref xr, .int im, .int lf])), (xr, .inl (cI, 8, .inl fr)), (xs, .inl (cS, 8, .inr (.inr (.inr (.inr fh))))), (h0, .inr (4, [.ref e0, .int he, .int si])), (j0, .inr (0, [.ref z0, .ref jp, .ref jc, .int cn, .int de, .int tr, .int se, .int hu, .int sd])), (jp, .inl (cP, 8, .inr (.inr (.inr (.inr fp)))))]) [0, 1, 2, 3, 4, 5] rfl, hD.sub (ws' := [(x0, .inr (7, [.ref xs, .ref j0, .ref k0, .ref w0, .ref rd, .ref mv, .ref xr, .int im, .int lf])), (xr, .inl (cI, 8, .inl fr)), (xs, .inl (cS, 8, .inr (.inr (.inr (.inr fh))))), (h0, .inr (4, [.ref e0, .int he, .int si])), (j0, .inr (0, [.ref z0, .ref jp, .ref jc, .int cn, .int de, .int tr, .int se, .int hu, .int sd])), (jp, .inl (cP, 8, .inr (.inr (.inr (.inr fp)))))]) [0, 1, 2, 3, 4, 5] (by decide) rfl⟩, hS.F ht⟩) hS.2.2 dX7_says_153
              · have kc2 : (2 : Int32).toInt = 2 := by decide
                refine lv_tableIn (tgt := 118) hx hb dX7_says_74 (by decide) (by decide) rfl (by decide) ?_
                refine lv_aload hx hb dX7_says_118 (lv_at hl 0 rfl) ?_
                refine zc_V (As := []) (rest := []) ⟨hx, hb, hml, hown, hts⟩ (c_Pull_step l D cI cJ cZ cP cS po u_33 (kiu_33) (au_33) (tu_33) huu_33 ⟨by omega, by omega, by omega, by omega⟩) (cwV 0 hts gX7_says_X2_step rfl rfl rfl (by decide +kernel) ⟨Nat.le_of_ble_eq_true rfl, Nat.le_of_ble_eq_true rfl⟩) hK hN (hZ.kept hS) hP zP_nil (va_recv hK (zPu_P (hZ.kept hS) huu_33) (ci := 2) (q0 := 0) rfl rfl) rfl hl.1 rfl (Nat.le_of_ble_eq_true rfl) dX7_says_120 ⟨Nat.le_of_ble_eq_true rfl, Nat.le_of_ble_eq_true rfl⟩ (fun r_44 hr_44 => ?_)
                obtain ⟨g_45, g_46⟩ := hr_44
                exact W.iret (v := r_44) hx hb hr (fun t ht hW => ⟨⟨r_44, fr, rfl, trivial, by rw [ht]; exact hP.sub (ws' := [(x0, .inr (7, [.ref xs, .ref j0, .ref k0, .ref w0, .ref rd, .ref mv, .ref xr, .int im, .int lf])), (xr, .inl (cI, 8, .inl fr)), (xs, .inl (cS, 8, .inr (.inr (.inr (.inr fh))))), (h0, .inr (4, [.ref e0, .int he, .int si])), (j0, .inr (0, [.ref z0, .ref jp, .ref jc, .int cn, .int de, .int tr, .int se, .int hu, .int sd])), (jp, .inl (cP, 8, .inr (.inr (.inr (.inr fp)))))]) [0, 1, 2, 3, 4, 5] rfl, hD.sub (ws' := [(x0, .inr (7, [.ref xs, .ref j0, .ref k0, .ref w0, .ref rd, .ref mv, .ref xr, .int im, .int lf])), (xr, .inl (cI, 8, .inl fr)), (xs, .inl (cS, 8, .inr (.inr (.inr (.inr fh))))), (h0, .inr (4, [.ref e0, .int he, .int si])), (j0, .inr (0, [.ref z0, .ref jp, .ref jc, .int cn, .int de, .int tr, .int se, .int hu, .int sd])), (jp, .inl (cP, 8, .inr (.inr (.inr (.inr fp)))))]) [0, 1, 2, 3, 4, 5] (by decide) rfl⟩, hS.F ht⟩) hS.2.2 dX7_says_123
              · have kc3 : (3 : Int32).toInt = 3 := by decide
                refine lv_tableIn (tgt := 139) hx hb dX7_says_74 (by decide) (by decide) rfl (by decide) ?_
                refine lv_aload hx hb dX7_says_139 (lv_at hl 0 rfl) ?_
                refine lv_bipush (v := 8) hx hb dX7_says_141 (by decide) ?_
                refine lv_aload_n hx hb dX7_says_143 rfl (lv_at hl 2 rfl) ?_
                refine va_get (D := D) (ci := 7) (v := .ref j0) (C := RX7) (T := TX7) (N := 9) hx hb hts hi_X7_says_7 hown hK hP 0 rfl rfl 1 (by decide) (hts (.fieldLink RX7 18 "TheLiningsInIt" "now" "LTheLiningsInIt$Jacket;") (List.mem_of_getElem? (i := 2) rfl)) (fun _ h9 => h9) rfl dX7_says_144 ?_
                refine va_get (D := D) (ci := 0) (v := .int hu) (C := RX0) (T := TX0) (N := 9) hx hb hts hi_X7_says_0 hown hK hP 4 rfl rfl 7 (by decide) (hts (.fieldLink RX7 116 "TheLiningsInIt$Jacket" "hurry" "I") (List.mem_of_getElem? (i := 4) rfl)) (fun _ h9 => h9) rfl dX7_says_147 ?_
                have kc8 : (8 : Int32).toInt = 8 := by decide
                refine zc_V (As := [.int 8, .int hu]) (rest := []) ⟨hx, hb, hml, hown, hts⟩ (c_Pull_waysAt l D cI cJ cZ cP cS po (8) (hu) u_33 (kiu_33) (au_33) (tu_33) huu_33 ⟨by omega, by omega, by omega, by omega⟩ (by omega) (by omega) hy13 hy14) (cwV 2 hts gX7_says_X2_waysAt rfl rfl rfl (by decide +kernel) ⟨Nat.le_of_ble_eq_true rfl, Nat.le_of_ble_eq_true rfl⟩) hK hN (hZ.kept hS) hP zP_nil (va_recv hK (zPu_P (hZ.kept hS) huu_33) (ci := 2) (q0 := 0) rfl rfl) rfl hl.1 rfl (Nat.le_of_ble_eq_true rfl) dX7_says_150 ⟨Nat.le_of_ble_eq_true rfl, Nat.le_of_ble_eq_true rfl⟩ (fun r_47 hr_47 => ?_)
                obtain ⟨g_48, g_49⟩ := hr_47
                exact W.iret (v := r_47) hx hb hr (fun t ht hW => ⟨⟨r_47, fr, rfl, trivial, by rw [ht]; exact hP.sub (ws' := [(x0, .inr (7, [.ref xs, .ref j0, .ref k0, .ref w0, .ref rd, .ref mv, .ref xr, .int im, .int lf])), (xr, .inl (cI, 8, .inl fr)), (xs, .inl (cS, 8, .inr (.inr (.inr (.inr fh))))), (h0, .inr (4, [.ref e0, .int he, .int si])), (j0, .inr (0, [.ref z0, .ref jp, .ref jc, .int cn, .int de, .int tr, .int se, .int hu, .int sd])), (jp, .inl (cP, 8, .inr (.inr (.inr (.inr fp)))))]) [0, 1, 2, 3, 4, 5] rfl, hD.sub (ws' := [(x0, .inr (7, [.ref xs, .ref j0, .ref k0, .ref w0, .ref rd, .ref mv, .ref xr, .int im, .int lf])), (xr, .inl (cI, 8, .inl fr)), (xs, .inl (cS, 8, .inr (.inr (.inr (.inr fh))))), (h0, .inr (4, [.ref e0, .int he, .int si])), (j0, .inr (0, [.ref z0, .ref jp, .ref jc, .int cn, .int de, .int tr, .int se, .int hu, .int sd])), (jp, .inl (cP, 8, .inr (.inr (.inr (.inr fp)))))]) [0, 1, 2, 3, 4, 5] (by decide) rfl⟩, hS.F ht⟩) hS.2.2 dX7_says_153
              · have kc4 : (4 : Int32).toInt = 4 := by decide
                refine lv_tableIn (tgt := 124) hx hb dX7_says_74 (by decide) (by decide) rfl (by decide) ?_
                refine lv_aload hx hb dX7_says_124 (lv_at hl 0 rfl) ?_
                refine lv_bipush (v := 12) hx hb dX7_says_126 (by decide) ?_
                refine lv_aload_n hx hb dX7_says_128 rfl (lv_at hl 2 rfl) ?_
                refine va_get (D := D) (ci := 7) (v := .ref j0) (C := RX7) (T := TX7) (N := 9) hx hb hts hi_X7_says_7 hown hK hP 0 rfl rfl 1 (by decide) (hts (.fieldLink RX7 18 "TheLiningsInIt" "now" "LTheLiningsInIt$Jacket;") (List.mem_of_getElem? (i := 2) rfl)) (fun _ h9 => h9) rfl dX7_says_129 ?_
                refine va_get (D := D) (ci := 0) (v := .int hu) (C := RX0) (T := TX0) (N := 9) hx hb hts hi_X7_says_0 hown hK hP 4 rfl rfl 7 (by decide) (hts (.fieldLink RX7 116 "TheLiningsInIt$Jacket" "hurry" "I") (List.mem_of_getElem? (i := 4) rfl)) (fun _ h9 => h9) rfl dX7_says_132 ?_
                have kc12 : (12 : Int32).toInt = 12 := by decide
                refine zc_V (As := [.int 12, .int hu]) (rest := []) ⟨hx, hb, hml, hown, hts⟩ (c_Pull_waysAt l D cI cJ cZ cP cS po (12) (hu) u_33 (kiu_33) (au_33) (tu_33) huu_33 ⟨by omega, by omega, by omega, by omega⟩ (by omega) (by omega) hy13 hy14) (cwV 2 hts gX7_says_X2_waysAt rfl rfl rfl (by decide +kernel) ⟨Nat.le_of_ble_eq_true rfl, Nat.le_of_ble_eq_true rfl⟩) hK hN (hZ.kept hS) hP zP_nil (va_recv hK (zPu_P (hZ.kept hS) huu_33) (ci := 2) (q0 := 0) rfl rfl) rfl hl.1 rfl (Nat.le_of_ble_eq_true rfl) dX7_says_135 ⟨Nat.le_of_ble_eq_true rfl, Nat.le_of_ble_eq_true rfl⟩ (fun r_50 hr_50 => ?_)
                obtain ⟨g_51, g_52⟩ := hr_50
                exact W.iret (v := r_50) hx hb hr (fun t ht hW => ⟨⟨r_50, fr, rfl, trivial, by rw [ht]; exact hP.sub (ws' := [(x0, .inr (7, [.ref xs, .ref j0, .ref k0, .ref w0, .ref rd, .ref mv, .ref xr, .int im, .int lf])), (xr, .inl (cI, 8, .inl fr)), (xs, .inl (cS, 8, .inr (.inr (.inr (.inr fh))))), (h0, .inr (4, [.ref e0, .int he, .int si])), (j0, .inr (0, [.ref z0, .ref jp, .ref jc, .int cn, .int de, .int tr, .int se, .int hu, .int sd])), (jp, .inl (cP, 8, .inr (.inr (.inr (.inr fp)))))]) [0, 1, 2, 3, 4, 5] rfl, hD.sub (ws' := [(x0, .inr (7, [.ref xs, .ref j0, .ref k0, .ref w0, .ref rd, .ref mv, .ref xr, .int im, .int lf])), (xr, .inl (cI, 8, .inl fr)), (xs, .inl (cS, 8, .inr (.inr (.inr (.inr fh))))), (h0, .inr (4, [.ref e0, .int he, .int si])), (j0, .inr (0, [.ref z0, .ref jp, .ref jc, .int cn, .int de, .int tr, .int se, .int hu, .int sd])), (jp, .inl (cP, 8, .inr (.inr (.inr (.inr fp)))))]) [0, 1, 2, 3, 4, 5] (by decide) rfl⟩, hS.F ht⟩) hS.2.2 dX7_says_138
              · have kc5 : (5 : Int32).toInt = 5 := by decide
                refine lv_tableIn (tgt := 118) hx hb dX7_says_74 (by decide) (by decide) rfl (by decide) ?_
                refine lv_aload hx hb dX7_says_118 (lv_at hl 0 rfl) ?_
                refine zc_V (As := []) (rest := []) ⟨hx, hb, hml, hown, hts⟩ (c_Pull_step l D cI cJ cZ cP cS po u_33 (kiu_33) (au_33) (tu_33) huu_33 ⟨by omega, by omega, by omega, by omega⟩) (cwV 0 hts gX7_says_X2_step rfl rfl rfl (by decide +kernel) ⟨Nat.le_of_ble_eq_true rfl, Nat.le_of_ble_eq_true rfl⟩) hK hN (hZ.kept hS) hP zP_nil (va_recv hK (zPu_P (hZ.kept hS) huu_33) (ci := 2) (q0 := 0) rfl rfl) rfl hl.1 rfl (Nat.le_of_ble_eq_true rfl) dX7_says_120 ⟨Nat.le_of_ble_eq_true rfl, Nat.le_of_ble_eq_true rfl⟩ (fun r_53 hr_53 => ?_)
                obtain ⟨g_54, g_55⟩ := hr_53
                exact W.iret (v := r_53) hx hb hr (fun t ht hW => ⟨⟨r_53, fr, rfl, trivial, by rw [ht]; exact hP.sub (ws' := [(x0, .inr (7, [.ref xs, .ref j0, .ref k0, .ref w0, .ref rd, .ref mv, .ref xr, .int im, .int lf])), (xr, .inl (cI, 8, .inl fr)), (xs, .inl (cS, 8, .inr (.inr (.inr (.inr fh))))), (h0, .inr (4, [.ref e0, .int he, .int si])), (j0, .inr (0, [.ref z0, .ref jp, .ref jc, .int cn, .int de, .int tr, .int se, .int hu, .int sd])), (jp, .inl (cP, 8, .inr (.inr (.inr (.inr fp)))))]) [0, 1, 2, 3, 4, 5] rfl, hD.sub (ws' := [(x0, .inr (7, [.ref xs, .ref j0, .ref k0, .ref w0, .ref rd, .ref mv, .ref xr, .int im, .int lf])), (xr, .inl (cI, 8, .inl fr)), (xs, .inl (cS, 8, .inr (.inr (.inr (.inr fh))))), (h0, .inr (4, [.ref e0, .int he, .int si])), (j0, .inr (0, [.ref z0, .ref jp, .ref jc, .int cn, .int de, .int tr, .int se, .int hu, .int sd])), (jp, .inl (cP, 8, .inr (.inr (.inr (.inr fp)))))]) [0, 1, 2, 3, 4, 5] (by decide) rfl⟩, hS.F ht⟩) hS.2.2 dX7_says_123
              · refine lv_tableOut (tgt := 139) hx hb dX7_says_74 (by decide) (by decide) ?_
                refine lv_aload hx hb dX7_says_139 (lv_at hl 0 rfl) ?_
                refine lv_bipush (v := 8) hx hb dX7_says_141 (by decide) ?_
                refine lv_aload_n hx hb dX7_says_143 rfl (lv_at hl 2 rfl) ?_
                refine va_get (D := D) (ci := 7) (v := .ref j0) (C := RX7) (T := TX7) (N := 9) hx hb hts hi_X7_says_7 hown hK hP 0 rfl rfl 1 (by decide) (hts (.fieldLink RX7 18 "TheLiningsInIt" "now" "LTheLiningsInIt$Jacket;") (List.mem_of_getElem? (i := 2) rfl)) (fun _ h9 => h9) rfl dX7_says_144 ?_
                refine va_get (D := D) (ci := 0) (v := .int hu) (C := RX0) (T := TX0) (N := 9) hx hb hts hi_X7_says_0 hown hK hP 4 rfl rfl 7 (by decide) (hts (.fieldLink RX7 116 "TheLiningsInIt$Jacket" "hurry" "I") (List.mem_of_getElem? (i := 4) rfl)) (fun _ h9 => h9) rfl dX7_says_147 ?_
                have kc8 : (8 : Int32).toInt = 8 := by decide
                refine zc_V (As := [.int 8, .int hu]) (rest := []) ⟨hx, hb, hml, hown, hts⟩ (c_Pull_waysAt l D cI cJ cZ cP cS po (8) (hu) u_33 (kiu_33) (au_33) (tu_33) huu_33 ⟨by omega, by omega, by omega, by omega⟩ (by omega) (by omega) hy13 hy14) (cwV 2 hts gX7_says_X2_waysAt rfl rfl rfl (by decide +kernel) ⟨Nat.le_of_ble_eq_true rfl, Nat.le_of_ble_eq_true rfl⟩) hK hN (hZ.kept hS) hP zP_nil (va_recv hK (zPu_P (hZ.kept hS) huu_33) (ci := 2) (q0 := 0) rfl rfl) rfl hl.1 rfl (Nat.le_of_ble_eq_true rfl) dX7_says_150 ⟨Nat.le_of_ble_eq_true rfl, Nat.le_of_ble_eq_true rfl⟩ (fun r_56 hr_56 => ?_)
                obtain ⟨g_57, g_58⟩ := hr_56
                exact W.iret (v := r_56) hx hb hr (fun t ht hW => ⟨⟨r_56, fr, rfl, trivial, by rw [ht]; exact hP.sub (ws' := [(x0, .inr (7, [.ref xs, .ref j0, .ref k0, .ref w0, .ref rd, .ref mv, .ref xr, .int im, .int lf])), (xr, .inl (cI, 8, .inl fr)), (xs, .inl (cS, 8, .inr (.inr (.inr (.inr fh))))), (h0, .inr (4, [.ref e0, .int he, .int si])), (j0, .inr (0, [.ref z0, .ref jp, .ref jc, .int cn, .int de, .int tr, .int se, .int hu, .int sd])), (jp, .inl (cP, 8, .inr (.inr (.inr (.inr fp)))))]) [0, 1, 2, 3, 4, 5] rfl, hD.sub (ws' := [(x0, .inr (7, [.ref xs, .ref j0, .ref k0, .ref w0, .ref rd, .ref mv, .ref xr, .int im, .int lf])), (xr, .inl (cI, 8, .inl fr)), (xs, .inl (cS, 8, .inr (.inr (.inr (.inr fh))))), (h0, .inr (4, [.ref e0, .int he, .int si])), (j0, .inr (0, [.ref z0, .ref jp, .ref jc, .int cn, .int de, .int tr, .int se, .int hu, .int sd])), (jp, .inl (cP, 8, .inr (.inr (.inr (.inr fp)))))]) [0, 1, 2, 3, 4, 5] (by decide) rfl⟩, hS.F ht⟩) hS.2.2 dX7_says_153
            · have fc_40 : r_37.toInt = 0 := zf_eq c_40 rfl (by decide)
              refine lv_aload_n hx hb dX7_says_67 rfl (lv_at hl 2 rfl) ?_
              refine lv_iconst (v := 2) hx hb dX7_says_68 (by decide) ?_
              skip
              refine zw_V (As := [.int 2]) (rest := []) (wr := [(xs, .inl (cS, 8, .inr (.inr (.inr (.inr fh))))), (h0, .inr (4, [.ref e0, .int he, .int si])), (j0, .inr (0, [.ref z0, .ref jp, .ref jc, .int cn, .int de, .int tr, .int se, .int hu, .int sd])), (jp, .inl (cP, 8, .inr (.inr (.inr (.inr fp)))))]) ⟨hx, hb, hml, hown, hts⟩ (c_X_refuse_2 l D cI cJ cZ cP cS po x0 xs j0 k0 w0 rd mv xr (im) (lf) fr hy0 hy1 hy2 hy3 H.size) (cwV 1 hts gX7_says_X7_refuse rfl rfl rfl (by decide +kernel) ⟨Nat.le_of_ble_eq_true rfl, Nat.le_of_ble_eq_true rfl⟩) hK hN (hZ.kept hS) hP hD hS hA [0, 1] [2, 3, 4, 5] rfl rfl (by decide) (by decide) (by decide) (va_recv hK hP (ci := 7) (q0 := 0) rfl rfl) rfl hl.1 rfl (Nat.le_of_ble_eq_true rfl) dX7_says_69 ⟨Nat.le_of_ble_eq_true rfl, Nat.le_of_ble_eq_true rfl⟩ (fun r_59 u_60 H locs hr_59 hP hD hS => ?_)
              obtain ⟨q_61, rfl⟩ : ∃ z, z = u_60 := ⟨_, rfl⟩
              replace hP : va_P D vwCl [(xs, .inl (cS, 8, .inr (.inr (.inr (.inr fh))))), (h0, .inr (4, [.ref e0, .int he, .int si])), (j0, .inr (0, [.ref z0, .ref jp, .ref jc, .int cn, .int de, .int tr, .int se, .int hu, .int sd])), (jp, .inl (cP, 8, .inr (.inr (.inr (.inr fp))))), (x0, .inr (7, [.ref xs, .ref j0, .ref k0, .ref w0, .ref rd, .ref mv, .ref xr, .int im, .int lf])), (xr, .inl (cI, 8, .inl q_61))] H := hP
              replace hD : va_D _ [(xs, .inl (cS, 8, .inr (.inr (.inr (.inr fh))))), (h0, .inr (4, [.ref e0, .int he, .int si])), (j0, .inr (0, [.ref z0, .ref jp, .ref jc, .int cn, .int de, .int tr, .int se, .int hu, .int sd])), (jp, .inl (cP, 8, .inr (.inr (.inr (.inr fp))))), (x0, .inr (7, [.ref xs, .ref j0, .ref k0, .ref w0, .ref rd, .ref mv, .ref xr, .int im, .int lf])), (xr, .inl (cI, 8, .inl q_61))] := hD
              obtain rfl := hr_59
              exact W.iret (v := (-2)) hx hb hr (fun t ht hW => ⟨⟨(-2), q_61, rfl, trivial, by rw [ht]; exact hP.sub (ws' := [(x0, .inr (7, [.ref xs, .ref j0, .ref k0, .ref w0, .ref rd, .ref mv, .ref xr, .int im, .int lf])), (xr, .inl (cI, 8, .inl q_61)), (xs, .inl (cS, 8, .inr (.inr (.inr (.inr fh))))), (h0, .inr (4, [.ref e0, .int he, .int si])), (j0, .inr (0, [.ref z0, .ref jp, .ref jc, .int cn, .int de, .int tr, .int se, .int hu, .int sd])), (jp, .inl (cP, 8, .inr (.inr (.inr (.inr fp)))))]) [4, 5, 0, 1, 2, 3] rfl, hD.sub (ws' := [(x0, .inr (7, [.ref xs, .ref j0, .ref k0, .ref w0, .ref rd, .ref mv, .ref xr, .int im, .int lf])), (xr, .inl (cI, 8, .inl q_61)), (xs, .inl (cS, 8, .inr (.inr (.inr (.inr fh))))), (h0, .inr (4, [.ref e0, .int he, .int si])), (j0, .inr (0, [.ref z0, .ref jp, .ref jc, .int cn, .int de, .int tr, .int se, .int hu, .int sd])), (jp, .inl (cP, 8, .inr (.inr (.inr (.inr fp)))))]) [4, 5, 0, 1, 2, 3] (by decide) rfl⟩, hS.F ht⟩) hS.2.2 dX7_says_72
        · have fc_28 : he.toInt = (-1) := zf_eq c_28 rfl (by decide)
          refine lv_aload_n hx hb dX7_says_34 rfl (lv_at hl 1 rfl) ?_
          refine lv_iconst (v := 3) hx hb dX7_says_35 (by decide) ?_
          skip
          refine zw_V (As := [.int 3]) (rest := []) (wr := [(xs, .inl (cS, 8, .inr (.inr (.inr (.inr fh))))), (h0, .inr (4, [.ref e0, .int he, .int si])), (j0, .inr (0, [.ref z0, .ref jp, .ref jc, .int cn, .int de, .int tr, .int se, .int hu, .int sd])), (jp, .inl (cP, 8, .inr (.inr (.inr (.inr fp)))))]) ⟨hx, hb, hml, hown, hts⟩ (c_X_refuse_3 l D cI cJ cZ cP cS po x0 xs j0 k0 w0 rd mv xr (im) (lf) fr hy0 hy1 hy2 hy3 H.size) (cwV 1 hts gX7_says_X7_refuse rfl rfl rfl (by decide +kernel) ⟨Nat.le_of_ble_eq_true rfl, Nat.le_of_ble_eq_true rfl⟩) hK hN (hZ.kept hS) hP hD hS hA [0, 1] [2, 3, 4, 5] rfl rfl (by decide) (by decide) (by decide) (va_recv hK hP (ci := 7) (q0 := 0) rfl rfl) rfl hl.1 rfl (Nat.le_of_ble_eq_true rfl) dX7_says_36 ⟨Nat.le_of_ble_eq_true rfl, Nat.le_of_ble_eq_true rfl⟩ (fun r_62 u_63 H locs hr_62 hP hD hS => ?_)
          obtain ⟨q_64, rfl⟩ : ∃ z, z = u_63 := ⟨_, rfl⟩
          replace hP : va_P D vwCl [(xs, .inl (cS, 8, .inr (.inr (.inr (.inr fh))))), (h0, .inr (4, [.ref e0, .int he, .int si])), (j0, .inr (0, [.ref z0, .ref jp, .ref jc, .int cn, .int de, .int tr, .int se, .int hu, .int sd])), (jp, .inl (cP, 8, .inr (.inr (.inr (.inr fp))))), (x0, .inr (7, [.ref xs, .ref j0, .ref k0, .ref w0, .ref rd, .ref mv, .ref xr, .int im, .int lf])), (xr, .inl (cI, 8, .inl q_64))] H := hP
          replace hD : va_D _ [(xs, .inl (cS, 8, .inr (.inr (.inr (.inr fh))))), (h0, .inr (4, [.ref e0, .int he, .int si])), (j0, .inr (0, [.ref z0, .ref jp, .ref jc, .int cn, .int de, .int tr, .int se, .int hu, .int sd])), (jp, .inl (cP, 8, .inr (.inr (.inr (.inr fp))))), (x0, .inr (7, [.ref xs, .ref j0, .ref k0, .ref w0, .ref rd, .ref mv, .ref xr, .int im, .int lf])), (xr, .inl (cI, 8, .inl q_64))] := hD
          obtain rfl := hr_62
          exact W.iret (v := (-3)) hx hb hr (fun t ht hW => ⟨⟨(-3), q_64, rfl, trivial, by rw [ht]; exact hP.sub (ws' := [(x0, .inr (7, [.ref xs, .ref j0, .ref k0, .ref w0, .ref rd, .ref mv, .ref xr, .int im, .int lf])), (xr, .inl (cI, 8, .inl q_64)), (xs, .inl (cS, 8, .inr (.inr (.inr (.inr fh))))), (h0, .inr (4, [.ref e0, .int he, .int si])), (j0, .inr (0, [.ref z0, .ref jp, .ref jc, .int cn, .int de, .int tr, .int se, .int hu, .int sd])), (jp, .inl (cP, 8, .inr (.inr (.inr (.inr fp)))))]) [4, 5, 0, 1, 2, 3] rfl, hD.sub (ws' := [(x0, .inr (7, [.ref xs, .ref j0, .ref k0, .ref w0, .ref rd, .ref mv, .ref xr, .int im, .int lf])), (xr, .inl (cI, 8, .inl q_64)), (xs, .inl (cS, 8, .inr (.inr (.inr (.inr fh))))), (h0, .inr (4, [.ref e0, .int he, .int si])), (j0, .inr (0, [.ref z0, .ref jp, .ref jc, .int cn, .int de, .int tr, .int se, .int hu, .int sd])), (jp, .inl (cP, 8, .inr (.inr (.inr (.inr fp)))))]) [4, 5, 0, 1, 2, 3] (by decide) rfl⟩, hS.F ht⟩) hS.2.2 dX7_says_39
      · exact absurd c_27 (by decide)
