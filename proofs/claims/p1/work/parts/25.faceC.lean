theorem hi_X7_cases_7 : ∀ w ∈ u_ws RX7 TX7 9, w ∈ wsX7_cases := by decide +kernel
theorem hi_X7_cases_0 : ∀ w ∈ u_ws RX0 TX0 9, w ∈ wsX7_cases := by decide +kernel
set_option maxHeartbeats 4000000 in
set_option maxRecDepth 100000 in
theorem c_cases (l : Launch) (D : va_G) (cI cJ cZ cP cS : ClassId) (x0 xs j0 k0 w0 rd mv xr : Nat) (jp jc z0 zl zs : Nat) (wk wl wc wp : Nat) (fk fl fc : Nat → Int32) (n w : Int32)  (sz : Nat) : Met l yX7_cases wsX7_cases ({ frames := 3, cells := 0, slots := 0, locals := 126 }) (va_Pc [.ref x0, .int n, .int w] (zW D (zKT cI cJ cZ cP cS) [(x0, .inr (7, [.ref xs, .ref j0, .ref k0, .ref w0, .ref rd, .ref mv, .ref xr, .int 0, .int (-1)])), (xr, .inl (cI, 8, .inl (fun _ => 0))), (w0, .inr (5, [.ref wk, .ref wl, .ref wc, .ref wp, .int 0, .int 0, .int 0])), (wk, .inl (cI, 125, .inl fk)), (wl, .inl (cI, 125, .inl fl)), (wc, .inl (cI, 3, .inl fc)), (j0, .inr (0, [.ref z0, .ref jp, .ref jc, .int 0, .int 0, .int 0, .int 60, .int 0, .int 1])), (jc, .inl (cI, 3, .inl (zL3 5 10 50)))] sz)) (va_Qi (fun (r : Int32) (_ : Unit) => (r = (-15) ∧ w.toInt < 0) ∨ (r = (-15) ∧ 0 ≤ w.toInt ∧ 2 < w.toInt) ∨ (r = (-16) ∧ 0 ≤ w.toInt ∧ w.toInt ≤ 2 ∧ n.toInt < 0) ∨ (r = (-16) ∧ 0 ≤ w.toInt ∧ w.toInt ≤ 2 ∧ 0 ≤ n.toInt ∧ 4 < n.toInt) ∨ (r = 1 ∧ 0 ≤ w.toInt ∧ w.toInt ≤ 2 ∧ 0 ≤ n.toInt ∧ n.toInt ≤ 4 ∧ n.toInt = 0 ∧ w.toInt = 2) ∨ (r = 1 ∧ 0 ≤ w.toInt ∧ w.toInt ≤ 2 ∧ 0 ≤ n.toInt ∧ n.toInt ≤ 4 ∧ n.toInt = 0 ∧ w.toInt ≠ 2 ∧ w.toInt ≠ 1) ∨ (r = (-1) ∧ 0 ≤ w.toInt ∧ w.toInt ≤ 2 ∧ 0 ≤ n.toInt ∧ n.toInt ≤ 4 ∧ n.toInt = 0 ∧ w.toInt ≠ 2 ∧ w.toInt = 1) ∨ (r = 12 ∧ 0 ≤ w.toInt ∧ w.toInt ≤ 2 ∧ 0 ≤ n.toInt ∧ n.toInt ≤ 4 ∧ n.toInt = 1 ∧ w.toInt = 2) ∨ (r = 12 ∧ 0 ≤ w.toInt ∧ w.toInt ≤ 2 ∧ 0 ≤ n.toInt ∧ n.toInt ≤ 4 ∧ n.toInt = 1 ∧ w.toInt ≠ 2 ∧ w.toInt ≠ 1) ∨ (r = (-1) ∧ 0 ≤ w.toInt ∧ w.toInt ≤ 2 ∧ 0 ≤ n.toInt ∧ n.toInt ≤ 4 ∧ n.toInt = 1 ∧ w.toInt ≠ 2 ∧ w.toInt = 1) ∨ (r = 144 ∧ 0 ≤ w.toInt ∧ w.toInt ≤ 2 ∧ 0 ≤ n.toInt ∧ n.toInt ≤ 4 ∧ n.toInt = 2 ∧ w.toInt = 2) ∨ (r = 144 ∧ 0 ≤ w.toInt ∧ w.toInt ≤ 2 ∧ 0 ≤ n.toInt ∧ n.toInt ≤ 4 ∧ n.toInt = 2 ∧ w.toInt ≠ 2 ∧ w.toInt ≠ 1) ∨ (r = (-1) ∧ 0 ≤ w.toInt ∧ w.toInt ≤ 2 ∧ 0 ≤ n.toInt ∧ n.toInt ≤ 4 ∧ n.toInt = 2 ∧ w.toInt ≠ 2 ∧ w.toInt = 1) ∨ (r = 1728 ∧ 0 ≤ w.toInt ∧ w.toInt ≤ 2 ∧ 0 ≤ n.toInt ∧ n.toInt ≤ 4 ∧ n.toInt = 3 ∧ w.toInt = 2) ∨ (r = 1728 ∧ 0 ≤ w.toInt ∧ w.toInt ≤ 2 ∧ 0 ≤ n.toInt ∧ n.toInt ≤ 4 ∧ n.toInt = 3 ∧ w.toInt ≠ 2 ∧ w.toInt ≠ 1) ∨ (r = (-1) ∧ 0 ≤ w.toInt ∧ w.toInt ≤ 2 ∧ 0 ≤ n.toInt ∧ n.toInt ≤ 4 ∧ n.toInt = 3 ∧ w.toInt ≠ 2 ∧ w.toInt = 1) ∨ (r = 20736 ∧ 0 ≤ w.toInt ∧ w.toInt ≤ 2 ∧ 0 ≤ n.toInt ∧ n.toInt ≤ 4 ∧ n.toInt = 4 ∧ w.toInt = 2) ∨ (r = 20736 ∧ 0 ≤ w.toInt ∧ w.toInt ≤ 2 ∧ 0 ≤ n.toInt ∧ n.toInt ≤ 4 ∧ n.toInt = 4 ∧ w.toInt ≠ 2 ∧ w.toInt ≠ 1) ∨ (r = (-1) ∧ 0 ≤ w.toInt ∧ w.toInt ≤ 2 ∧ 0 ≤ n.toInt ∧ n.toInt ≤ 4 ∧ n.toInt = 4 ∧ w.toInt ≠ 2 ∧ w.toInt = 1)) (zB D [(x0, .inr (7, [.ref xs, .ref j0, .ref k0, .ref w0, .ref rd, .ref mv, .ref xr, .int 0, .int (-1)])), (xr, .inl (cI, 8, .inl (fun _ => 0))), (w0, .inr (5, [.ref wk, .ref wl, .ref wc, .ref wp, .int 0, .int 0, .int 0])), (wk, .inl (cI, 125, .inl fk)), (wl, .inl (cI, 125, .inl fl)), (wc, .inl (cI, 3, .inl fc)), (j0, .inr (0, [.ref z0, .ref jp, .ref jc, .int 0, .int 0, .int 0, .int 60, .int 0, .int 1])), (jc, .inl (cI, 3, .inl (zL3 5 10 50)))] sz (fun (_ : Unit) => ([] : va_W))) (va_A [(x0, .inr (7, [.ref xs, .ref j0, .ref k0, .ref w0, .ref rd, .ref mv, .ref xr, .int 0, .int (-1)])), (xr, .inl (cI, 8, .inl (fun _ => 0))), (w0, .inr (5, [.ref wk, .ref wl, .ref wc, .ref wp, .int 0, .int 0, .int 0])), (wk, .inl (cI, 125, .inl fk)), (wl, .inl (cI, 125, .inl fl)), (wc, .inl (cI, 3, .inl fc)), (j0, .inr (0, [.ref z0, .ref jp, .ref jc, .int 0, .int 0, .int 0, .int 60, .int 0, .int 1])), (jc, .inl (cI, 3, .inl (zL3 5 10 50)))] sz)) 0 0 (va_A [(x0, .inr (7, [.ref xs, .ref j0, .ref k0, .ref w0, .ref rd, .ref mv, .ref xr, .int 0, .int (-1)])), (xr, .inl (cI, 8, .inl (fun _ => 0))), (w0, .inr (5, [.ref wk, .ref wl, .ref wc, .ref wp, .int 0, .int 0, .int 0])), (wk, .inl (cI, 125, .inl fk)), (wl, .inl (cI, 125, .inl fl)), (wc, .inl (cI, 3, .inl fc)), (j0, .inr (0, [.ref z0, .ref jp, .ref jc, .int 0, .int 0, .int 0, .int 60, .int 0, .int 1])), (jc, .inl (cI, 3, .inl (zL3 5 10 50)))] sz) := by
  refine Met.ofW (cc := cX7_cases) (maxL := 3) (ret := (some .int)) (by decide) rfl ?_
  intro p e s m args below meth c s₁ B hml hv
  obtain ⟨rfl, hsz, hP, hK, hD0, hN, hZ⟩ := hv
  have hx := B.exec
  have hb := B.bytes
  have hr := B.returns
  have hts := atoms_spec (ws := wsX7_cases) B.pre
  have hown : s.vm.findClass RX7 = some m.cls := findClass_of_methodNamed B.named
  have hlocks := B.notSynchronized
  subst hsz
  have hD := hD0.self (sz := s.heap.size)
  have hA : ∀ q : Nat, s.heap.size ≤ q → va_A [(x0, .inr (7, [.ref xs, .ref j0, .ref k0, .ref w0, .ref rd, .ref mv, .ref xr, .int 0, .int (-1)])), (xr, .inl (cI, 8, .inl (fun _ => 0))), (w0, .inr (5, [.ref wk, .ref wl, .ref wc, .ref wp, .int 0, .int 0, .int 0])), (wk, .inl (cI, 125, .inl fk)), (wl, .inl (cI, 125, .inl fl)), (wc, .inl (cI, 3, .inl fc)), (j0, .inr (0, [.ref z0, .ref jp, .ref jc, .int 0, .int 0, .int 0, .int 60, .int 0, .int 1])), (jc, .inl (cI, 3, .inl (zL3 5 10 50)))] s.heap.size q := fun q h => Or.inr h
  have hS : va_S (va_A [(x0, .inr (7, [.ref xs, .ref j0, .ref k0, .ref w0, .ref rd, .ref mv, .ref xr, .int 0, .int (-1)])), (xr, .inl (cI, 8, .inl (fun _ => 0))), (w0, .inr (5, [.ref wk, .ref wl, .ref wc, .ref wp, .int 0, .int 0, .int 0])), (wk, .inl (cI, 125, .inl fk)), (wl, .inl (cI, 125, .inl fl)), (wc, .inl (cI, 3, .inl fc)), (j0, .inr (0, [.ref z0, .ref jp, .ref jc, .int 0, .int 0, .int 0, .int 60, .int 0, .int 1])), (jc, .inl (cI, 3, .inl (zL3 5 10 50)))] s.heap.size) s.heap s.heap [] := va_S.rf
  replace hP : va_P D vwCl _ s.heap := hP
  have hl := lv_entry ([.ref x0, .int n, .int w]) (n := 3) (Nat.le_of_ble_eq_true rfl)
  rw [lg_entry_eq]
  generalize (lg_sl ([.ref x0, .int n, .int w]) ++ List.replicate (3 - (lg_sl ([.ref x0, .int n, .int w])).length) Slot.unset).toArray = ls at hl ⊢
  replace hl : lv_has ls 3 [(0, .ref x0), (1, .int n), (2, .int w)] := hl
  refine zw_start (fun H locs hH hL => ?_)
  replace hP : va_P D vwCl [(x0, .inr (7, [.ref xs, .ref j0, .ref k0, .ref w0, .ref rd, .ref mv, .ref xr, .int 0, .int (-1)])), (xr, .inl (cI, 8, .inl (fun _ => 0))), (w0, .inr (5, [.ref wk, .ref wl, .ref wc, .ref wp, .int 0, .int 0, .int 0])), (wk, .inl (cI, 125, .inl fk)), (wl, .inl (cI, 125, .inl fl)), (wc, .inl (cI, 3, .inl fc)), (j0, .inr (0, [.ref z0, .ref jp, .ref jc, .int 0, .int 0, .int 0, .int 60, .int 0, .int 1])), (jc, .inl (cI, 3, .inl (zL3 5 10 50)))] H := by rw [hH]; exact hP
  replace hS : va_S (va_A [(x0, .inr (7, [.ref xs, .ref j0, .ref k0, .ref w0, .ref rd, .ref mv, .ref xr, .int 0, .int (-1)])), (xr, .inl (cI, 8, .inl (fun _ => 0))), (w0, .inr (5, [.ref wk, .ref wl, .ref wc, .ref wp, .int 0, .int 0, .int 0])), (wk, .inl (cI, 125, .inl fk)), (wl, .inl (cI, 125, .inl fl)), (wc, .inl (cI, 3, .inl fc)), (j0, .inr (0, [.ref z0, .ref jp, .ref jc, .int 0, .int 0, .int 0, .int 60, .int 0, .int 1])), (jc, .inl (cI, 3, .inl (zL3 5 10 50)))] s.heap.size) s.heap H locs := by rw [hH, hL]; exact hS
  clear hH hL
  refine lv_iload_n hx hb dX7_cases_0 rfl (lv_at hl 2 rfl) ?_
  refine lv_iconst (v := 0) hx hb dX7_cases_1 (by decide) ?_
  refine lv_iconst (v := 2) hx hb dX7_cases_2 (by decide) ?_
  have kc0 : (0 : Int32).toInt = 0 := by decide
  have kc2 : (2 : Int32).toInt = 2 := by decide
  refine zc_S (As := [.int w, .int 0, .int 2]) (rest := []) ⟨hx, hb, hml, hown, hts⟩ (c_within l D cI cJ cZ cP cS (w) (0) (2) ) (va_cwS 3 hts gX7_cases_X7_within rfl rfl rfl (by decide +kernel) ⟨Nat.le_of_ble_eq_true rfl, Nat.le_of_ble_eq_true rfl⟩) hK hN (hZ.kept hS) rfl hl.1 rfl (Nat.le_of_ble_eq_true rfl) dX7_cases_3 ⟨Nat.le_of_ble_eq_true rfl, Nat.le_of_ble_eq_true rfl⟩ (fun r_1 hr_1 => ?_)
  rcases hr_1 with ⟨rfl, g_2⟩ | ⟨rfl, g_3, g_4⟩ | ⟨rfl, g_5, g_6⟩
  · refine lv_if_ne (tgt := 15) hx hb dX7_cases_6 (by decide) (fun c_7 => ?_) (fun c_7 => ?_)
    · exact absurd c_7 (by decide)
    · refine lv_aload_n hx hb dX7_cases_9 rfl (lv_at hl 0 rfl) ?_
      refine lv_iconst (v := 5) hx hb dX7_cases_10 (by decide) ?_
      skip
      refine zw_V (As := [.int 5]) (rest := []) (wr := [(w0, .inr (5, [.ref wk, .ref wl, .ref wc, .ref wp, .int 0, .int 0, .int 0])), (wk, .inl (cI, 125, .inl fk)), (wl, .inl (cI, 125, .inl fl)), (wc, .inl (cI, 3, .inl fc)), (j0, .inr (0, [.ref z0, .ref jp, .ref jc, .int 0, .int 0, .int 0, .int 60, .int 0, .int 1])), (jc, .inl (cI, 3, .inl (zL3 5 10 50)))]) ⟨hx, hb, hml, hown, hts⟩ (c_refuseLower_5 l D cI cJ cZ cP cS x0 xs j0 k0 w0 rd mv xr  H.size) (cwV 1 hts gX7_cases_X7_refuseLower rfl rfl rfl (by decide +kernel) ⟨Nat.le_of_ble_eq_true rfl, Nat.le_of_ble_eq_true rfl⟩) hK hN (hZ.kept hS) hP hD hS hA [0, 1] [2, 3, 4, 5, 6, 7] rfl rfl (by decide) (by decide) (by decide) (va_recv hK hP (ci := 7) (q0 := 0) rfl rfl) rfl hl.1 rfl (Nat.le_of_ble_eq_true rfl) dX7_cases_11 ⟨Nat.le_of_ble_eq_true rfl, Nat.le_of_ble_eq_true rfl⟩ (fun r_8 u_9 H locs hr_8 hP hD hS => ?_)
      replace hP : va_P D vwCl [(w0, .inr (5, [.ref wk, .ref wl, .ref wc, .ref wp, .int 0, .int 0, .int 0])), (wk, .inl (cI, 125, .inl fk)), (wl, .inl (cI, 125, .inl fl)), (wc, .inl (cI, 3, .inl fc)), (j0, .inr (0, [.ref z0, .ref jp, .ref jc, .int 0, .int 0, .int 0, .int 60, .int 0, .int 1])), (jc, .inl (cI, 3, .inl (zL3 5 10 50)))] H := hP
      replace hD : va_D _ [(w0, .inr (5, [.ref wk, .ref wl, .ref wc, .ref wp, .int 0, .int 0, .int 0])), (wk, .inl (cI, 125, .inl fk)), (wl, .inl (cI, 125, .inl fl)), (wc, .inl (cI, 3, .inl fc)), (j0, .inr (0, [.ref z0, .ref jp, .ref jc, .int 0, .int 0, .int 0, .int 60, .int 0, .int 1])), (jc, .inl (cI, 3, .inl (zL3 5 10 50)))] := hD
      obtain rfl := hr_8
      exact W.iret (v := (-15)) hx hb hr (fun t ht hW => ⟨⟨(-15), (), rfl, Or.inl (⟨rfl, (by first | omega | decide)⟩), zP_nil, zD_nil⟩, hS.F ht⟩) hS.2.2 dX7_cases_14
  · refine lv_if_ne (tgt := 15) hx hb dX7_cases_6 (by decide) (fun c_10 => ?_) (fun c_10 => ?_)
    · exact absurd c_10 (by decide)
    · refine lv_aload_n hx hb dX7_cases_9 rfl (lv_at hl 0 rfl) ?_
      refine lv_iconst (v := 5) hx hb dX7_cases_10 (by decide) ?_
      skip
      refine zw_V (As := [.int 5]) (rest := []) (wr := [(w0, .inr (5, [.ref wk, .ref wl, .ref wc, .ref wp, .int 0, .int 0, .int 0])), (wk, .inl (cI, 125, .inl fk)), (wl, .inl (cI, 125, .inl fl)), (wc, .inl (cI, 3, .inl fc)), (j0, .inr (0, [.ref z0, .ref jp, .ref jc, .int 0, .int 0, .int 0, .int 60, .int 0, .int 1])), (jc, .inl (cI, 3, .inl (zL3 5 10 50)))]) ⟨hx, hb, hml, hown, hts⟩ (c_refuseLower_5 l D cI cJ cZ cP cS x0 xs j0 k0 w0 rd mv xr  H.size) (cwV 1 hts gX7_cases_X7_refuseLower rfl rfl rfl (by decide +kernel) ⟨Nat.le_of_ble_eq_true rfl, Nat.le_of_ble_eq_true rfl⟩) hK hN (hZ.kept hS) hP hD hS hA [0, 1] [2, 3, 4, 5, 6, 7] rfl rfl (by decide) (by decide) (by decide) (va_recv hK hP (ci := 7) (q0 := 0) rfl rfl) rfl hl.1 rfl (Nat.le_of_ble_eq_true rfl) dX7_cases_11 ⟨Nat.le_of_ble_eq_true rfl, Nat.le_of_ble_eq_true rfl⟩ (fun r_11 u_12 H locs hr_11 hP hD hS => ?_)
      replace hP : va_P D vwCl [(w0, .inr (5, [.ref wk, .ref wl, .ref wc, .ref wp, .int 0, .int 0, .int 0])), (wk, .inl (cI, 125, .inl fk)), (wl, .inl (cI, 125, .inl fl)), (wc, .inl (cI, 3, .inl fc)), (j0, .inr (0, [.ref z0, .ref jp, .ref jc, .int 0, .int 0, .int 0, .int 60, .int 0, .int 1])), (jc, .inl (cI, 3, .inl (zL3 5 10 50)))] H := hP
      replace hD : va_D _ [(w0, .inr (5, [.ref wk, .ref wl, .ref wc, .ref wp, .int 0, .int 0, .int 0])), (wk, .inl (cI, 125, .inl fk)), (wl, .inl (cI, 125, .inl fl)), (wc, .inl (cI, 3, .inl fc)), (j0, .inr (0, [.ref z0, .ref jp, .ref jc, .int 0, .int 0, .int 0, .int 60, .int 0, .int 1])), (jc, .inl (cI, 3, .inl (zL3 5 10 50)))] := hD
      obtain rfl := hr_11
      exact W.iret (v := (-15)) hx hb hr (fun t ht hW => ⟨⟨(-15), (), rfl, Or.inr (Or.inl (⟨rfl, (by first | omega | decide), (by first | omega | decide)⟩)), zP_nil, zD_nil⟩, hS.F ht⟩) hS.2.2 dX7_cases_14
  · refine lv_if_ne (tgt := 15) hx hb dX7_cases_6 (by decide) (fun c_13 => ?_) (fun c_13 => ?_)
    · refine lv_iload_n hx hb dX7_cases_15 rfl (lv_at hl 1 rfl) ?_
      refine lv_iconst (v := 0) hx hb dX7_cases_16 (by decide) ?_
      refine lv_iconst (v := 4) hx hb dX7_cases_17 (by decide) ?_
      have kc4 : (4 : Int32).toInt = 4 := by decide
      refine zc_S (As := [.int n, .int 0, .int 4]) (rest := []) ⟨hx, hb, hml, hown, hts⟩ (c_within l D cI cJ cZ cP cS (n) (0) (4) ) (va_cwS 3 hts gX7_cases_X7_within rfl rfl rfl (by decide +kernel) ⟨Nat.le_of_ble_eq_true rfl, Nat.le_of_ble_eq_true rfl⟩) hK hN (hZ.kept hS) rfl hl.1 rfl (Nat.le_of_ble_eq_true rfl) dX7_cases_18 ⟨Nat.le_of_ble_eq_true rfl, Nat.le_of_ble_eq_true rfl⟩ (fun r_14 hr_14 => ?_)
      rcases hr_14 with ⟨rfl, g_15⟩ | ⟨rfl, g_16, g_17⟩ | ⟨rfl, g_18, g_19⟩
      · refine lv_if_ne (tgt := 31) hx hb dX7_cases_21 (by decide) (fun c_20 => ?_) (fun c_20 => ?_)
        · exact absurd c_20 (by decide)
        · refine lv_aload_n hx hb dX7_cases_24 rfl (lv_at hl 0 rfl) ?_
          refine lv_bipush (v := 6) hx hb dX7_cases_25 (by decide) ?_
          skip
          refine zw_V (As := [.int 6]) (rest := []) (wr := [(w0, .inr (5, [.ref wk, .ref wl, .ref wc, .ref wp, .int 0, .int 0, .int 0])), (wk, .inl (cI, 125, .inl fk)), (wl, .inl (cI, 125, .inl fl)), (wc, .inl (cI, 3, .inl fc)), (j0, .inr (0, [.ref z0, .ref jp, .ref jc, .int 0, .int 0, .int 0, .int 60, .int 0, .int 1])), (jc, .inl (cI, 3, .inl (zL3 5 10 50)))]) ⟨hx, hb, hml, hown, hts⟩ (c_refuseLower_6 l D cI cJ cZ cP cS x0 xs j0 k0 w0 rd mv xr  H.size) (cwV 1 hts gX7_cases_X7_refuseLower rfl rfl rfl (by decide +kernel) ⟨Nat.le_of_ble_eq_true rfl, Nat.le_of_ble_eq_true rfl⟩) hK hN (hZ.kept hS) hP hD hS hA [0, 1] [2, 3, 4, 5, 6, 7] rfl rfl (by decide) (by decide) (by decide) (va_recv hK hP (ci := 7) (q0 := 0) rfl rfl) rfl hl.1 rfl (Nat.le_of_ble_eq_true rfl) dX7_cases_27 ⟨Nat.le_of_ble_eq_true rfl, Nat.le_of_ble_eq_true rfl⟩ (fun r_21 u_22 H locs hr_21 hP hD hS => ?_)
          replace hP : va_P D vwCl [(w0, .inr (5, [.ref wk, .ref wl, .ref wc, .ref wp, .int 0, .int 0, .int 0])), (wk, .inl (cI, 125, .inl fk)), (wl, .inl (cI, 125, .inl fl)), (wc, .inl (cI, 3, .inl fc)), (j0, .inr (0, [.ref z0, .ref jp, .ref jc, .int 0, .int 0, .int 0, .int 60, .int 0, .int 1])), (jc, .inl (cI, 3, .inl (zL3 5 10 50)))] H := hP
          replace hD : va_D _ [(w0, .inr (5, [.ref wk, .ref wl, .ref wc, .ref wp, .int 0, .int 0, .int 0])), (wk, .inl (cI, 125, .inl fk)), (wl, .inl (cI, 125, .inl fl)), (wc, .inl (cI, 3, .inl fc)), (j0, .inr (0, [.ref z0, .ref jp, .ref jc, .int 0, .int 0, .int 0, .int 60, .int 0, .int 1])), (jc, .inl (cI, 3, .inl (zL3 5 10 50)))] := hD
          obtain rfl := hr_21
          exact W.iret (v := (-16)) hx hb hr (fun t ht hW => ⟨⟨(-16), (), rfl, Or.inr (Or.inr (Or.inl (⟨rfl, (by first | omega | decide), (by first | omega | decide), (by first | omega | decide)⟩))), zP_nil, zD_nil⟩, hS.F ht⟩) hS.2.2 dX7_cases_30
      · refine lv_if_ne (tgt := 31) hx hb dX7_cases_21 (by decide) (fun c_23 => ?_) (fun c_23 => ?_)
        · exact absurd c_23 (by decide)
        · refine lv_aload_n hx hb dX7_cases_24 rfl (lv_at hl 0 rfl) ?_
          refine lv_bipush (v := 6) hx hb dX7_cases_25 (by decide) ?_
          skip
          refine zw_V (As := [.int 6]) (rest := []) (wr := [(w0, .inr (5, [.ref wk, .ref wl, .ref wc, .ref wp, .int 0, .int 0, .int 0])), (wk, .inl (cI, 125, .inl fk)), (wl, .inl (cI, 125, .inl fl)), (wc, .inl (cI, 3, .inl fc)), (j0, .inr (0, [.ref z0, .ref jp, .ref jc, .int 0, .int 0, .int 0, .int 60, .int 0, .int 1])), (jc, .inl (cI, 3, .inl (zL3 5 10 50)))]) ⟨hx, hb, hml, hown, hts⟩ (c_refuseLower_6 l D cI cJ cZ cP cS x0 xs j0 k0 w0 rd mv xr  H.size) (cwV 1 hts gX7_cases_X7_refuseLower rfl rfl rfl (by decide +kernel) ⟨Nat.le_of_ble_eq_true rfl, Nat.le_of_ble_eq_true rfl⟩) hK hN (hZ.kept hS) hP hD hS hA [0, 1] [2, 3, 4, 5, 6, 7] rfl rfl (by decide) (by decide) (by decide) (va_recv hK hP (ci := 7) (q0 := 0) rfl rfl) rfl hl.1 rfl (Nat.le_of_ble_eq_true rfl) dX7_cases_27 ⟨Nat.le_of_ble_eq_true rfl, Nat.le_of_ble_eq_true rfl⟩ (fun r_24 u_25 H locs hr_24 hP hD hS => ?_)
          replace hP : va_P D vwCl [(w0, .inr (5, [.ref wk, .ref wl, .ref wc, .ref wp, .int 0, .int 0, .int 0])), (wk, .inl (cI, 125, .inl fk)), (wl, .inl (cI, 125, .inl fl)), (wc, .inl (cI, 3, .inl fc)), (j0, .inr (0, [.ref z0, .ref jp, .ref jc, .int 0, .int 0, .int 0, .int 60, .int 0, .int 1])), (jc, .inl (cI, 3, .inl (zL3 5 10 50)))] H := hP
          replace hD : va_D _ [(w0, .inr (5, [.ref wk, .ref wl, .ref wc, .ref wp, .int 0, .int 0, .int 0])), (wk, .inl (cI, 125, .inl fk)), (wl, .inl (cI, 125, .inl fl)), (wc, .inl (cI, 3, .inl fc)), (j0, .inr (0, [.ref z0, .ref jp, .ref jc, .int 0, .int 0, .int 0, .int 60, .int 0, .int 1])), (jc, .inl (cI, 3, .inl (zL3 5 10 50)))] := hD
          obtain rfl := hr_24
          exact W.iret (v := (-16)) hx hb hr (fun t ht hW => ⟨⟨(-16), (), rfl, Or.inr (Or.inr (Or.inr (Or.inl (⟨rfl, (by first | omega | decide), (by first | omega | decide), (by first | omega | decide), (by first | omega | decide)⟩)))), zP_nil, zD_nil⟩, hS.F ht⟩) hS.2.2 dX7_cases_30
      · refine lv_if_ne (tgt := 31) hx hb dX7_cases_21 (by decide) (fun c_26 => ?_) (fun c_26 => ?_)
        · have hsp : n = 0 ∨ n = 1 ∨ n = 2 ∨ n = 3 ∨ n = 4 := by
            rcases (show n.toInt = 0 ∨ n.toInt = 1 ∨ n.toInt = 2 ∨ n.toInt = 3 ∨ n.toInt = 4 by omega) with h9 | h9 | h9 | h9 | h9
            · refine Or.inl ?_; exact zf_val h9 (by decide)
            · refine Or.inr (Or.inl ?_); exact zf_val h9 (by decide)
            · refine Or.inr (Or.inr (Or.inl ?_)); exact zf_val h9 (by decide)
            · refine Or.inr (Or.inr (Or.inr (Or.inl ?_))); exact zf_val h9 (by decide)
            · refine Or.inr (Or.inr (Or.inr (Or.inr (?_)))); exact zf_val h9 (by decide)
          rcases hsp with rfl | rfl | rfl | rfl | rfl
          · refine lv_aload_n hx hb dX7_cases_31 rfl (lv_at hl 0 rfl) ?_
            refine va_get (D := D) (ci := 7) (v := .ref w0) (C := RX7) (T := TX7) (N := 9) hx hb hts hi_X7_cases_7 hown hK hP 0 rfl rfl 3 (by decide) (hts (.fieldLink RX7 28 "TheLiningsInIt" "ways" "LTheLiningsInIt$Ways;") (List.mem_of_getElem? (i := 1) rfl)) (fun _ h9 => h9) rfl dX7_cases_32 ?_
            refine lv_aload_n hx hb dX7_cases_35 rfl (lv_at hl 0 rfl) ?_
            refine va_get (D := D) (ci := 7) (v := .ref j0) (C := RX7) (T := TX7) (N := 9) hx hb hts hi_X7_cases_7 hown hK hP 0 rfl rfl 1 (by decide) (hts (.fieldLink RX7 18 "TheLiningsInIt" "now" "LTheLiningsInIt$Jacket;") (List.mem_of_getElem? (i := 2) rfl)) (fun _ h9 => h9) rfl dX7_cases_36 ?_
            refine lv_aload_n hx hb dX7_cases_39 rfl (lv_at hl 0 rfl) ?_
            refine va_get (D := D) (ci := 7) (v := .ref j0) (C := RX7) (T := TX7) (N := 9) hx hb hts hi_X7_cases_7 hown hK hP 0 rfl rfl 1 (by decide) (hts (.fieldLink RX7 18 "TheLiningsInIt" "now" "LTheLiningsInIt$Jacket;") (List.mem_of_getElem? (i := 2) rfl)) (fun _ h9 => h9) rfl dX7_cases_40 ?_
            refine va_get (D := D) (ci := 0) (v := .int 0) (C := RX0) (T := TX0) (N := 9) hx hb hts hi_X7_cases_0 hown hK hP 6 rfl rfl 7 (by decide) (hts (.fieldLink RX7 116 "TheLiningsInIt$Jacket" "hurry" "I") (List.mem_of_getElem? (i := 3) rfl)) (fun _ h9 => h9) rfl dX7_cases_43 ?_
            refine lv_iload_n hx hb dX7_cases_46 rfl (lv_at hl 2 rfl) ?_
            refine lv_iconst (v := 2) hx hb dX7_cases_47 (by decide) ?_
            refine lv_icmp_eq (tgt := 55) hx hb dX7_cases_48 (by decide) (fun c_27 => ?_) (fun c_27 => ?_)
            · have fc_27 : w.toInt = 2 := zf_eq c_27 rfl (by decide)
              refine lv_iconst (v := 0) hx hb dX7_cases_55 (by decide) ?_
              skip
              refine zw_Vv (As := [.ref j0, .int 0, .int 0]) (rest := []) (wr := [(x0, .inr (7, [.ref xs, .ref j0, .ref k0, .ref w0, .ref rd, .ref mv, .ref xr, .int 0, .int (-1)])), (xr, .inl (cI, 8, .inl (fun _ => 0)))]) ⟨hx, hb, hml, hown, hts⟩ (c_look l D cI cJ cZ cP cS w0 wk wl wc wp j0 jp jc z0 0 0 fk fl fc (0) (0) (0) (0) (0)  H.size) (cwV 3 hts gX7_cases_X5_look rfl rfl rfl (by decide +kernel) ⟨Nat.le_of_ble_eq_true rfl, Nat.le_of_ble_eq_true rfl⟩) hK hN (hZ.kept hS) hP hD hS hA [2, 3, 4, 5, 6, 7] [0, 1] rfl rfl (by decide) (by decide) (by decide) (va_recv hK hP (ci := 5) (q0 := 2) rfl rfl) rfl hl.1 rfl (Nat.le_of_ble_eq_true rfl) dX7_cases_56 ⟨Nat.le_of_ble_eq_true rfl, Nat.le_of_ble_eq_true rfl⟩ (fun u_29 H locs hr_28 hP hD hS => ?_)
              obtain ⟨q_30, q_31, q_32⟩ := u_29
              replace hP : va_P D vwCl [(x0, .inr (7, [.ref xs, .ref j0, .ref k0, .ref w0, .ref rd, .ref mv, .ref xr, .int 0, .int (-1)])), (xr, .inl (cI, 8, .inl (fun _ => 0))), (w0, .inr (5, [.ref wk, .ref wl, .ref wc, .ref wp, .int 0, .int 0, .int 0])), (wk, .inl (cI, 125, .inl q_30)), (wl, .inl (cI, 125, .inl q_31)), (wc, .inl (cI, 3, .inl q_32)), (j0, .inr (0, [.ref z0, .ref jp, .ref jc, .int 0, .int 0, .int 0, .int 60, .int 0, .int 1])), (jc, .inl (cI, 3, .inl (zL3 5 10 50)))] H := hP
              replace hD : va_D _ [(x0, .inr (7, [.ref xs, .ref j0, .ref k0, .ref w0, .ref rd, .ref mv, .ref xr, .int 0, .int (-1)])), (xr, .inl (cI, 8, .inl (fun _ => 0))), (w0, .inr (5, [.ref wk, .ref wl, .ref wc, .ref wp, .int 0, .int 0, .int 0])), (wk, .inl (cI, 125, .inl q_30)), (wl, .inl (cI, 125, .inl q_31)), (wc, .inl (cI, 3, .inl q_32)), (j0, .inr (0, [.ref z0, .ref jp, .ref jc, .int 0, .int 0, .int 0, .int 60, .int 0, .int 1])), (jc, .inl (cI, 3, .inl (zL3 5 10 50)))] := hD
              refine lv_iload_n hx hb dX7_cases_59 rfl (lv_at hl 2 rfl) ?_
              refine lv_iconst (v := 1) hx hb dX7_cases_60 (by decide) ?_
              refine lv_icmp_ne (tgt := 87) hx hb dX7_cases_61 (by decide) (fun c_33 => ?_) (fun c_33 => ?_)
              · have fc_33 : w.toInt ≠ 1 := zf_ne c_33 rfl (by decide)
                refine lv_aload_n hx hb dX7_cases_87 rfl (lv_at hl 0 rfl) ?_
                refine va_get (D := D) (ci := 7) (v := .ref w0) (C := RX7) (T := TX7) (N := 9) hx hb hts hi_X7_cases_7 hown hK hP 0 rfl rfl 3 (by decide) (hts (.fieldLink RX7 28 "TheLiningsInIt" "ways" "LTheLiningsInIt$Ways;") (List.mem_of_getElem? (i := 1) rfl)) (fun _ h9 => h9) rfl dX7_cases_88 ?_
                refine lv_iload_n hx hb dX7_cases_91 rfl (lv_at hl 1 rfl) ?_
                refine lv_aload_n hx hb dX7_cases_92 rfl (lv_at hl 0 rfl) ?_
                refine va_get (D := D) (ci := 7) (v := .ref j0) (C := RX7) (T := TX7) (N := 9) hx hb hts hi_X7_cases_7 hown hK hP 0 rfl rfl 1 (by decide) (hts (.fieldLink RX7 18 "TheLiningsInIt" "now" "LTheLiningsInIt$Jacket;") (List.mem_of_getElem? (i := 2) rfl)) (fun _ h9 => h9) rfl dX7_cases_93 ?_
                refine va_get (D := D) (ci := 0) (v := .int 0) (C := RX0) (T := TX0) (N := 9) hx hb hts hi_X7_cases_0 hown hK hP 6 rfl rfl 4 (by decide) (hts (.fieldLink RX7 199 "TheLiningsInIt$Jacket" "depth" "I") (List.mem_of_getElem? (i := 4) rfl)) (fun _ h9 => h9) rfl dX7_cases_96 ?_
                refine lv_aload_n hx hb dX7_cases_99 rfl (lv_at hl 0 rfl) ?_
                refine va_get (D := D) (ci := 7) (v := .ref j0) (C := RX7) (T := TX7) (N := 9) hx hb hts hi_X7_cases_7 hown hK hP 0 rfl rfl 1 (by decide) (hts (.fieldLink RX7 18 "TheLiningsInIt" "now" "LTheLiningsInIt$Jacket;") (List.mem_of_getElem? (i := 2) rfl)) (fun _ h9 => h9) rfl dX7_cases_100 ?_
                refine va_get (D := D) (ci := 0) (v := .int 60) (C := RX0) (T := TX0) (N := 9) hx hb hts hi_X7_cases_0 hown hK hP 6 rfl rfl 6 (by decide) (hts (.fieldLink RX7 202 "TheLiningsInIt$Jacket" "seconds" "I") (List.mem_of_getElem? (i := 5) rfl)) (fun _ h9 => h9) rfl dX7_cases_103 ?_
                refine zc_VN (As := [.int 0, .int 0, .int 60]) (rest := []) ⟨hx, hb, hml, hown, hts⟩ (c_most_0 l D cI cJ cZ cP cS w0 (60) ) ⟨(va_cnB 3 hts gX7_cases_X5_most_n208 rfl rfl rfl (hN.1 (RX7, 208, yX5_most) (List.mem_of_getElem? (i := 10) rfl)) (hts _ (List.mem_of_getElem? (i := 22) rfl)) (by decide +kernel) ⟨Nat.le_of_ble_eq_true rfl, Nat.le_of_ble_eq_true rfl⟩), (hts _ (List.mem_of_getElem? (i := 95) rfl)), (hts _ (List.mem_of_getElem? (i := 96) rfl))⟩ hK hN (hZ.kept hS) hP [] rfl (va_recv hK hP (ci := 5) (q0 := 2) rfl rfl) rfl hl.1 rfl (Nat.le_of_ble_eq_true rfl) dX7_cases_106 ⟨Nat.le_of_ble_eq_true rfl, Nat.le_of_ble_eq_true rfl⟩ (fun r_34 hr_34 => ?_)
                obtain rfl := hr_34
                exact W.iret (v := 1) hx hb hr (fun t ht hW => ⟨⟨1, (), rfl, Or.inr (Or.inr (Or.inr (Or.inr (Or.inl (⟨rfl, (by first | omega | decide), (by first | omega | decide), (by first | omega | decide), (by first | omega | decide), (by first | omega | decide), (by first | omega | decide)⟩))))), zP_nil, zD_nil⟩, hS.F ht⟩) hS.2.2 dX7_cases_109
              · exfalso; have fc_33 : w.toInt = 1 := zf_eq c_33 rfl (by decide); omega
            · have fc_27 : w.toInt ≠ 2 := zf_ne c_27 rfl (by decide)
              refine lv_iconst (v := 1) hx hb dX7_cases_51 (by decide) ?_
              refine lv_goto (tgt := 56) hx hb dX7_cases_52 (by decide) ?_
              skip
              refine zw_Vv (As := [.ref j0, .int 0, .int 1]) (rest := []) (wr := [(x0, .inr (7, [.ref xs, .ref j0, .ref k0, .ref w0, .ref rd, .ref mv, .ref xr, .int 0, .int (-1)])), (xr, .inl (cI, 8, .inl (fun _ => 0)))]) ⟨hx, hb, hml, hown, hts⟩ (c_look l D cI cJ cZ cP cS w0 wk wl wc wp j0 jp jc z0 0 0 fk fl fc (0) (0) (0) (0) (1)  H.size) (cwV 3 hts gX7_cases_X5_look rfl rfl rfl (by decide +kernel) ⟨Nat.le_of_ble_eq_true rfl, Nat.le_of_ble_eq_true rfl⟩) hK hN (hZ.kept hS) hP hD hS hA [2, 3, 4, 5, 6, 7] [0, 1] rfl rfl (by decide) (by decide) (by decide) (va_recv hK hP (ci := 5) (q0 := 2) rfl rfl) rfl hl.1 rfl (Nat.le_of_ble_eq_true rfl) dX7_cases_56 ⟨Nat.le_of_ble_eq_true rfl, Nat.le_of_ble_eq_true rfl⟩ (fun u_36 H locs hr_35 hP hD hS => ?_)
              obtain ⟨q_37, q_38, q_39⟩ := u_36
              replace hP : va_P D vwCl [(x0, .inr (7, [.ref xs, .ref j0, .ref k0, .ref w0, .ref rd, .ref mv, .ref xr, .int 0, .int (-1)])), (xr, .inl (cI, 8, .inl (fun _ => 0))), (w0, .inr (5, [.ref wk, .ref wl, .ref wc, .ref wp, .int 0, .int 0, .int 0])), (wk, .inl (cI, 125, .inl q_37)), (wl, .inl (cI, 125, .inl q_38)), (wc, .inl (cI, 3, .inl q_39)), (j0, .inr (0, [.ref z0, .ref jp, .ref jc, .int 0, .int 0, .int 0, .int 60, .int 0, .int 1])), (jc, .inl (cI, 3, .inl (zL3 5 10 50)))] H := hP
              replace hD : va_D _ [(x0, .inr (7, [.ref xs, .ref j0, .ref k0, .ref w0, .ref rd, .ref mv, .ref xr, .int 0, .int (-1)])), (xr, .inl (cI, 8, .inl (fun _ => 0))), (w0, .inr (5, [.ref wk, .ref wl, .ref wc, .ref wp, .int 0, .int 0, .int 0])), (wk, .inl (cI, 125, .inl q_37)), (wl, .inl (cI, 125, .inl q_38)), (wc, .inl (cI, 3, .inl q_39)), (j0, .inr (0, [.ref z0, .ref jp, .ref jc, .int 0, .int 0, .int 0, .int 60, .int 0, .int 1])), (jc, .inl (cI, 3, .inl (zL3 5 10 50)))] := hD
              refine lv_iload_n hx hb dX7_cases_59 rfl (lv_at hl 2 rfl) ?_
              refine lv_iconst (v := 1) hx hb dX7_cases_60 (by decide) ?_
              refine lv_icmp_ne (tgt := 87) hx hb dX7_cases_61 (by decide) (fun c_40 => ?_) (fun c_40 => ?_)
              · have fc_40 : w.toInt ≠ 1 := zf_ne c_40 rfl (by decide)
                refine lv_aload_n hx hb dX7_cases_87 rfl (lv_at hl 0 rfl) ?_
                refine va_get (D := D) (ci := 7) (v := .ref w0) (C := RX7) (T := TX7) (N := 9) hx hb hts hi_X7_cases_7 hown hK hP 0 rfl rfl 3 (by decide) (hts (.fieldLink RX7 28 "TheLiningsInIt" "ways" "LTheLiningsInIt$Ways;") (List.mem_of_getElem? (i := 1) rfl)) (fun _ h9 => h9) rfl dX7_cases_88 ?_
                refine lv_iload_n hx hb dX7_cases_91 rfl (lv_at hl 1 rfl) ?_
                refine lv_aload_n hx hb dX7_cases_92 rfl (lv_at hl 0 rfl) ?_
                refine va_get (D := D) (ci := 7) (v := .ref j0) (C := RX7) (T := TX7) (N := 9) hx hb hts hi_X7_cases_7 hown hK hP 0 rfl rfl 1 (by decide) (hts (.fieldLink RX7 18 "TheLiningsInIt" "now" "LTheLiningsInIt$Jacket;") (List.mem_of_getElem? (i := 2) rfl)) (fun _ h9 => h9) rfl dX7_cases_93 ?_
                refine va_get (D := D) (ci := 0) (v := .int 0) (C := RX0) (T := TX0) (N := 9) hx hb hts hi_X7_cases_0 hown hK hP 6 rfl rfl 4 (by decide) (hts (.fieldLink RX7 199 "TheLiningsInIt$Jacket" "depth" "I") (List.mem_of_getElem? (i := 4) rfl)) (fun _ h9 => h9) rfl dX7_cases_96 ?_
                refine lv_aload_n hx hb dX7_cases_99 rfl (lv_at hl 0 rfl) ?_
                refine va_get (D := D) (ci := 7) (v := .ref j0) (C := RX7) (T := TX7) (N := 9) hx hb hts hi_X7_cases_7 hown hK hP 0 rfl rfl 1 (by decide) (hts (.fieldLink RX7 18 "TheLiningsInIt" "now" "LTheLiningsInIt$Jacket;") (List.mem_of_getElem? (i := 2) rfl)) (fun _ h9 => h9) rfl dX7_cases_100 ?_
                refine va_get (D := D) (ci := 0) (v := .int 60) (C := RX0) (T := TX0) (N := 9) hx hb hts hi_X7_cases_0 hown hK hP 6 rfl rfl 6 (by decide) (hts (.fieldLink RX7 202 "TheLiningsInIt$Jacket" "seconds" "I") (List.mem_of_getElem? (i := 5) rfl)) (fun _ h9 => h9) rfl dX7_cases_103 ?_
                refine zc_VN (As := [.int 0, .int 0, .int 60]) (rest := []) ⟨hx, hb, hml, hown, hts⟩ (c_most_0 l D cI cJ cZ cP cS w0 (60) ) ⟨(va_cnB 3 hts gX7_cases_X5_most_n208 rfl rfl rfl (hN.1 (RX7, 208, yX5_most) (List.mem_of_getElem? (i := 10) rfl)) (hts _ (List.mem_of_getElem? (i := 22) rfl)) (by decide +kernel) ⟨Nat.le_of_ble_eq_true rfl, Nat.le_of_ble_eq_true rfl⟩), (hts _ (List.mem_of_getElem? (i := 95) rfl)), (hts _ (List.mem_of_getElem? (i := 96) rfl))⟩ hK hN (hZ.kept hS) hP [] rfl (va_recv hK hP (ci := 5) (q0 := 2) rfl rfl) rfl hl.1 rfl (Nat.le_of_ble_eq_true rfl) dX7_cases_106 ⟨Nat.le_of_ble_eq_true rfl, Nat.le_of_ble_eq_true rfl⟩ (fun r_41 hr_41 => ?_)
                obtain rfl := hr_41
                exact W.iret (v := 1) hx hb hr (fun t ht hW => ⟨⟨1, (), rfl, Or.inr (Or.inr (Or.inr (Or.inr (Or.inr (Or.inl (⟨rfl, (by first | omega | decide), (by first | omega | decide), (by first | omega | decide), (by first | omega | decide), (by first | omega | decide), (by first | omega | decide), (by first | omega | decide)⟩)))))), zP_nil, zD_nil⟩, hS.F ht⟩) hS.2.2 dX7_cases_109
              · have fc_40 : w.toInt = 1 := zf_eq c_40 rfl (by decide)
                refine lv_aload_n hx hb dX7_cases_64 rfl (lv_at hl 0 rfl) ?_
                refine va_get (D := D) (ci := 7) (v := .ref w0) (C := RX7) (T := TX7) (N := 9) hx hb hts hi_X7_cases_7 hown hK hP 0 rfl rfl 3 (by decide) (hts (.fieldLink RX7 28 "TheLiningsInIt" "ways" "LTheLiningsInIt$Ways;") (List.mem_of_getElem? (i := 1) rfl)) (fun _ h9 => h9) rfl dX7_cases_65 ?_
                refine lv_iload_n hx hb dX7_cases_68 rfl (lv_at hl 1 rfl) ?_
                refine lv_aload_n hx hb dX7_cases_69 rfl (lv_at hl 0 rfl) ?_
                refine va_get (D := D) (ci := 7) (v := .ref j0) (C := RX7) (T := TX7) (N := 9) hx hb hts hi_X7_cases_7 hown hK hP 0 rfl rfl 1 (by decide) (hts (.fieldLink RX7 18 "TheLiningsInIt" "now" "LTheLiningsInIt$Jacket;") (List.mem_of_getElem? (i := 2) rfl)) (fun _ h9 => h9) rfl dX7_cases_70 ?_
                refine va_get (D := D) (ci := 0) (v := .int 0) (C := RX0) (T := TX0) (N := 9) hx hb hts hi_X7_cases_0 hown hK hP 6 rfl rfl 4 (by decide) (hts (.fieldLink RX7 199 "TheLiningsInIt$Jacket" "depth" "I") (List.mem_of_getElem? (i := 4) rfl)) (fun _ h9 => h9) rfl dX7_cases_73 ?_
                refine lv_aload_n hx hb dX7_cases_76 rfl (lv_at hl 0 rfl) ?_
                refine va_get (D := D) (ci := 7) (v := .ref j0) (C := RX7) (T := TX7) (N := 9) hx hb hts hi_X7_cases_7 hown hK hP 0 rfl rfl 1 (by decide) (hts (.fieldLink RX7 18 "TheLiningsInIt" "now" "LTheLiningsInIt$Jacket;") (List.mem_of_getElem? (i := 2) rfl)) (fun _ h9 => h9) rfl dX7_cases_77 ?_
                refine va_get (D := D) (ci := 0) (v := .int 60) (C := RX0) (T := TX0) (N := 9) hx hb hts hi_X7_cases_0 hown hK hP 6 rfl rfl 6 (by decide) (hts (.fieldLink RX7 202 "TheLiningsInIt$Jacket" "seconds" "I") (List.mem_of_getElem? (i := 5) rfl)) (fun _ h9 => h9) rfl dX7_cases_80 ?_
                refine zc_V (As := [.int 0, .int 0, .int 60]) (rest := []) ⟨hx, hb, hml, hown, hts⟩ (c_next l D cI cJ cZ cP cS w0 wk wl wc wp (0) (0) (0) (60) ) (cwV 3 hts gX7_cases_X5_next rfl rfl rfl (by decide +kernel) ⟨Nat.le_of_ble_eq_true rfl, Nat.le_of_ble_eq_true rfl⟩) hK hN (hZ.kept hS) hP [2] rfl (va_recv hK hP (ci := 5) (q0 := 2) rfl rfl) rfl hl.1 rfl (Nat.le_of_ble_eq_true rfl) dX7_cases_83 ⟨Nat.le_of_ble_eq_true rfl, Nat.le_of_ble_eq_true rfl⟩ (fun r_42 hr_42 => ?_)
                obtain rfl := hr_42
                exact W.iret (v := (-1)) hx hb hr (fun t ht hW => ⟨⟨(-1), (), rfl, Or.inr (Or.inr (Or.inr (Or.inr (Or.inr (Or.inr (Or.inl (⟨rfl, (by first | omega | decide), (by first | omega | decide), (by first | omega | decide), (by first | omega | decide), (by first | omega | decide), (by first | omega | decide), (by first | omega | decide)⟩))))))), zP_nil, zD_nil⟩, hS.F ht⟩) hS.2.2 dX7_cases_86
          · refine lv_aload_n hx hb dX7_cases_31 rfl (lv_at hl 0 rfl) ?_
            refine va_get (D := D) (ci := 7) (v := .ref w0) (C := RX7) (T := TX7) (N := 9) hx hb hts hi_X7_cases_7 hown hK hP 0 rfl rfl 3 (by decide) (hts (.fieldLink RX7 28 "TheLiningsInIt" "ways" "LTheLiningsInIt$Ways;") (List.mem_of_getElem? (i := 1) rfl)) (fun _ h9 => h9) rfl dX7_cases_32 ?_
            refine lv_aload_n hx hb dX7_cases_35 rfl (lv_at hl 0 rfl) ?_
            refine va_get (D := D) (ci := 7) (v := .ref j0) (C := RX7) (T := TX7) (N := 9) hx hb hts hi_X7_cases_7 hown hK hP 0 rfl rfl 1 (by decide) (hts (.fieldLink RX7 18 "TheLiningsInIt" "now" "LTheLiningsInIt$Jacket;") (List.mem_of_getElem? (i := 2) rfl)) (fun _ h9 => h9) rfl dX7_cases_36 ?_
            refine lv_aload_n hx hb dX7_cases_39 rfl (lv_at hl 0 rfl) ?_
            refine va_get (D := D) (ci := 7) (v := .ref j0) (C := RX7) (T := TX7) (N := 9) hx hb hts hi_X7_cases_7 hown hK hP 0 rfl rfl 1 (by decide) (hts (.fieldLink RX7 18 "TheLiningsInIt" "now" "LTheLiningsInIt$Jacket;") (List.mem_of_getElem? (i := 2) rfl)) (fun _ h9 => h9) rfl dX7_cases_40 ?_
            refine va_get (D := D) (ci := 0) (v := .int 0) (C := RX0) (T := TX0) (N := 9) hx hb hts hi_X7_cases_0 hown hK hP 6 rfl rfl 7 (by decide) (hts (.fieldLink RX7 116 "TheLiningsInIt$Jacket" "hurry" "I") (List.mem_of_getElem? (i := 3) rfl)) (fun _ h9 => h9) rfl dX7_cases_43 ?_
            refine lv_iload_n hx hb dX7_cases_46 rfl (lv_at hl 2 rfl) ?_
            refine lv_iconst (v := 2) hx hb dX7_cases_47 (by decide) ?_
            refine lv_icmp_eq (tgt := 55) hx hb dX7_cases_48 (by decide) (fun c_43 => ?_) (fun c_43 => ?_)
            · have fc_43 : w.toInt = 2 := zf_eq c_43 rfl (by decide)
              refine lv_iconst (v := 0) hx hb dX7_cases_55 (by decide) ?_
              skip
              refine zw_Vv (As := [.ref j0, .int 0, .int 0]) (rest := []) (wr := [(x0, .inr (7, [.ref xs, .ref j0, .ref k0, .ref w0, .ref rd, .ref mv, .ref xr, .int 0, .int (-1)])), (xr, .inl (cI, 8, .inl (fun _ => 0)))]) ⟨hx, hb, hml, hown, hts⟩ (c_look l D cI cJ cZ cP cS w0 wk wl wc wp j0 jp jc z0 0 0 fk fl fc (0) (0) (0) (0) (0)  H.size) (cwV 3 hts gX7_cases_X5_look rfl rfl rfl (by decide +kernel) ⟨Nat.le_of_ble_eq_true rfl, Nat.le_of_ble_eq_true rfl⟩) hK hN (hZ.kept hS) hP hD hS hA [2, 3, 4, 5, 6, 7] [0, 1] rfl rfl (by decide) (by decide) (by decide) (va_recv hK hP (ci := 5) (q0 := 2) rfl rfl) rfl hl.1 rfl (Nat.le_of_ble_eq_true rfl) dX7_cases_56 ⟨Nat.le_of_ble_eq_true rfl, Nat.le_of_ble_eq_true rfl⟩ (fun u_45 H locs hr_44 hP hD hS => ?_)
              obtain ⟨q_46, q_47, q_48⟩ := u_45
              replace hP : va_P D vwCl [(x0, .inr (7, [.ref xs, .ref j0, .ref k0, .ref w0, .ref rd, .ref mv, .ref xr, .int 0, .int (-1)])), (xr, .inl (cI, 8, .inl (fun _ => 0))), (w0, .inr (5, [.ref wk, .ref wl, .ref wc, .ref wp, .int 0, .int 0, .int 0])), (wk, .inl (cI, 125, .inl q_46)), (wl, .inl (cI, 125, .inl q_47)), (wc, .inl (cI, 3, .inl q_48)), (j0, .inr (0, [.ref z0, .ref jp, .ref jc, .int 0, .int 0, .int 0, .int 60, .int 0, .int 1])), (jc, .inl (cI, 3, .inl (zL3 5 10 50)))] H := hP
              replace hD : va_D _ [(x0, .inr (7, [.ref xs, .ref j0, .ref k0, .ref w0, .ref rd, .ref mv, .ref xr, .int 0, .int (-1)])), (xr, .inl (cI, 8, .inl (fun _ => 0))), (w0, .inr (5, [.ref wk, .ref wl, .ref wc, .ref wp, .int 0, .int 0, .int 0])), (wk, .inl (cI, 125, .inl q_46)), (wl, .inl (cI, 125, .inl q_47)), (wc, .inl (cI, 3, .inl q_48)), (j0, .inr (0, [.ref z0, .ref jp, .ref jc, .int 0, .int 0, .int 0, .int 60, .int 0, .int 1])), (jc, .inl (cI, 3, .inl (zL3 5 10 50)))] := hD
              refine lv_iload_n hx hb dX7_cases_59 rfl (lv_at hl 2 rfl) ?_
              refine lv_iconst (v := 1) hx hb dX7_cases_60 (by decide) ?_
              refine lv_icmp_ne (tgt := 87) hx hb dX7_cases_61 (by decide) (fun c_49 => ?_) (fun c_49 => ?_)
              · have fc_49 : w.toInt ≠ 1 := zf_ne c_49 rfl (by decide)
                refine lv_aload_n hx hb dX7_cases_87 rfl (lv_at hl 0 rfl) ?_
                refine va_get (D := D) (ci := 7) (v := .ref w0) (C := RX7) (T := TX7) (N := 9) hx hb hts hi_X7_cases_7 hown hK hP 0 rfl rfl 3 (by decide) (hts (.fieldLink RX7 28 "TheLiningsInIt" "ways" "LTheLiningsInIt$Ways;") (List.mem_of_getElem? (i := 1) rfl)) (fun _ h9 => h9) rfl dX7_cases_88 ?_
                refine lv_iload_n hx hb dX7_cases_91 rfl (lv_at hl 1 rfl) ?_
                refine lv_aload_n hx hb dX7_cases_92 rfl (lv_at hl 0 rfl) ?_
                refine va_get (D := D) (ci := 7) (v := .ref j0) (C := RX7) (T := TX7) (N := 9) hx hb hts hi_X7_cases_7 hown hK hP 0 rfl rfl 1 (by decide) (hts (.fieldLink RX7 18 "TheLiningsInIt" "now" "LTheLiningsInIt$Jacket;") (List.mem_of_getElem? (i := 2) rfl)) (fun _ h9 => h9) rfl dX7_cases_93 ?_
                refine va_get (D := D) (ci := 0) (v := .int 0) (C := RX0) (T := TX0) (N := 9) hx hb hts hi_X7_cases_0 hown hK hP 6 rfl rfl 4 (by decide) (hts (.fieldLink RX7 199 "TheLiningsInIt$Jacket" "depth" "I") (List.mem_of_getElem? (i := 4) rfl)) (fun _ h9 => h9) rfl dX7_cases_96 ?_
                refine lv_aload_n hx hb dX7_cases_99 rfl (lv_at hl 0 rfl) ?_
                refine va_get (D := D) (ci := 7) (v := .ref j0) (C := RX7) (T := TX7) (N := 9) hx hb hts hi_X7_cases_7 hown hK hP 0 rfl rfl 1 (by decide) (hts (.fieldLink RX7 18 "TheLiningsInIt" "now" "LTheLiningsInIt$Jacket;") (List.mem_of_getElem? (i := 2) rfl)) (fun _ h9 => h9) rfl dX7_cases_100 ?_
                refine va_get (D := D) (ci := 0) (v := .int 60) (C := RX0) (T := TX0) (N := 9) hx hb hts hi_X7_cases_0 hown hK hP 6 rfl rfl 6 (by decide) (hts (.fieldLink RX7 202 "TheLiningsInIt$Jacket" "seconds" "I") (List.mem_of_getElem? (i := 5) rfl)) (fun _ h9 => h9) rfl dX7_cases_103 ?_
                refine zc_VN (As := [.int 1, .int 0, .int 60]) (rest := []) ⟨hx, hb, hml, hown, hts⟩ (c_most_1 l D cI cJ cZ cP cS w0 (60) ) ⟨(va_cnB 3 hts gX7_cases_X5_most_n208 rfl rfl rfl (hN.1 (RX7, 208, yX5_most) (List.mem_of_getElem? (i := 10) rfl)) (hts _ (List.mem_of_getElem? (i := 22) rfl)) (by decide +kernel) ⟨Nat.le_of_ble_eq_true rfl, Nat.le_of_ble_eq_true rfl⟩), (hts _ (List.mem_of_getElem? (i := 95) rfl)), (hts _ (List.mem_of_getElem? (i := 96) rfl))⟩ hK hN (hZ.kept hS) hP [] rfl (va_recv hK hP (ci := 5) (q0 := 2) rfl rfl) rfl hl.1 rfl (Nat.le_of_ble_eq_true rfl) dX7_cases_106 ⟨Nat.le_of_ble_eq_true rfl, Nat.le_of_ble_eq_true rfl⟩ (fun r_50 hr_50 => ?_)
                obtain rfl := hr_50
                exact W.iret (v := 12) hx hb hr (fun t ht hW => ⟨⟨12, (), rfl, Or.inr (Or.inr (Or.inr (Or.inr (Or.inr (Or.inr (Or.inr (Or.inl (⟨rfl, (by first | omega | decide), (by first | omega | decide), (by first | omega | decide), (by first | omega | decide), (by first | omega | decide), (by first | omega | decide)⟩)))))))), zP_nil, zD_nil⟩, hS.F ht⟩) hS.2.2 dX7_cases_109
              · exfalso; have fc_49 : w.toInt = 1 := zf_eq c_49 rfl (by decide); omega
            · have fc_43 : w.toInt ≠ 2 := zf_ne c_43 rfl (by decide)
              refine lv_iconst (v := 1) hx hb dX7_cases_51 (by decide) ?_
              refine lv_goto (tgt := 56) hx hb dX7_cases_52 (by decide) ?_
              skip
              refine zw_Vv (As := [.ref j0, .int 0, .int 1]) (rest := []) (wr := [(x0, .inr (7, [.ref xs, .ref j0, .ref k0, .ref w0, .ref rd, .ref mv, .ref xr, .int 0, .int (-1)])), (xr, .inl (cI, 8, .inl (fun _ => 0)))]) ⟨hx, hb, hml, hown, hts⟩ (c_look l D cI cJ cZ cP cS w0 wk wl wc wp j0 jp jc z0 0 0 fk fl fc (0) (0) (0) (0) (1)  H.size) (cwV 3 hts gX7_cases_X5_look rfl rfl rfl (by decide +kernel) ⟨Nat.le_of_ble_eq_true rfl, Nat.le_of_ble_eq_true rfl⟩) hK hN (hZ.kept hS) hP hD hS hA [2, 3, 4, 5, 6, 7] [0, 1] rfl rfl (by decide) (by decide) (by decide) (va_recv hK hP (ci := 5) (q0 := 2) rfl rfl) rfl hl.1 rfl (Nat.le_of_ble_eq_true rfl) dX7_cases_56 ⟨Nat.le_of_ble_eq_true rfl, Nat.le_of_ble_eq_true rfl⟩ (fun u_52 H locs hr_51 hP hD hS => ?_)
              obtain ⟨q_53, q_54, q_55⟩ := u_52
              replace hP : va_P D vwCl [(x0, .inr (7, [.ref xs, .ref j0, .ref k0, .ref w0, .ref rd, .ref mv, .ref xr, .int 0, .int (-1)])), (xr, .inl (cI, 8, .inl (fun _ => 0))), (w0, .inr (5, [.ref wk, .ref wl, .ref wc, .ref wp, .int 0, .int 0, .int 0])), (wk, .inl (cI, 125, .inl q_53)), (wl, .inl (cI, 125, .inl q_54)), (wc, .inl (cI, 3, .inl q_55)), (j0, .inr (0, [.ref z0, .ref jp, .ref jc, .int 0, .int 0, .int 0, .int 60, .int 0, .int 1])), (jc, .inl (cI, 3, .inl (zL3 5 10 50)))] H := hP
              replace hD : va_D _ [(x0, .inr (7, [.ref xs, .ref j0, .ref k0, .ref w0, .ref rd, .ref mv, .ref xr, .int 0, .int (-1)])), (xr, .inl (cI, 8, .inl (fun _ => 0))), (w0, .inr (5, [.ref wk, .ref wl, .ref wc, .ref wp, .int 0, .int 0, .int 0])), (wk, .inl (cI, 125, .inl q_53)), (wl, .inl (cI, 125, .inl q_54)), (wc, .inl (cI, 3, .inl q_55)), (j0, .inr (0, [.ref z0, .ref jp, .ref jc, .int 0, .int 0, .int 0, .int 60, .int 0, .int 1])), (jc, .inl (cI, 3, .inl (zL3 5 10 50)))] := hD
              refine lv_iload_n hx hb dX7_cases_59 rfl (lv_at hl 2 rfl) ?_
              refine lv_iconst (v := 1) hx hb dX7_cases_60 (by decide) ?_
              refine lv_icmp_ne (tgt := 87) hx hb dX7_cases_61 (by decide) (fun c_56 => ?_) (fun c_56 => ?_)
              · have fc_56 : w.toInt ≠ 1 := zf_ne c_56 rfl (by decide)
                refine lv_aload_n hx hb dX7_cases_87 rfl (lv_at hl 0 rfl) ?_
                refine va_get (D := D) (ci := 7) (v := .ref w0) (C := RX7) (T := TX7) (N := 9) hx hb hts hi_X7_cases_7 hown hK hP 0 rfl rfl 3 (by decide) (hts (.fieldLink RX7 28 "TheLiningsInIt" "ways" "LTheLiningsInIt$Ways;") (List.mem_of_getElem? (i := 1) rfl)) (fun _ h9 => h9) rfl dX7_cases_88 ?_
                refine lv_iload_n hx hb dX7_cases_91 rfl (lv_at hl 1 rfl) ?_
                refine lv_aload_n hx hb dX7_cases_92 rfl (lv_at hl 0 rfl) ?_
                refine va_get (D := D) (ci := 7) (v := .ref j0) (C := RX7) (T := TX7) (N := 9) hx hb hts hi_X7_cases_7 hown hK hP 0 rfl rfl 1 (by decide) (hts (.fieldLink RX7 18 "TheLiningsInIt" "now" "LTheLiningsInIt$Jacket;") (List.mem_of_getElem? (i := 2) rfl)) (fun _ h9 => h9) rfl dX7_cases_93 ?_
                refine va_get (D := D) (ci := 0) (v := .int 0) (C := RX0) (T := TX0) (N := 9) hx hb hts hi_X7_cases_0 hown hK hP 6 rfl rfl 4 (by decide) (hts (.fieldLink RX7 199 "TheLiningsInIt$Jacket" "depth" "I") (List.mem_of_getElem? (i := 4) rfl)) (fun _ h9 => h9) rfl dX7_cases_96 ?_
                refine lv_aload_n hx hb dX7_cases_99 rfl (lv_at hl 0 rfl) ?_
                refine va_get (D := D) (ci := 7) (v := .ref j0) (C := RX7) (T := TX7) (N := 9) hx hb hts hi_X7_cases_7 hown hK hP 0 rfl rfl 1 (by decide) (hts (.fieldLink RX7 18 "TheLiningsInIt" "now" "LTheLiningsInIt$Jacket;") (List.mem_of_getElem? (i := 2) rfl)) (fun _ h9 => h9) rfl dX7_cases_100 ?_
                refine va_get (D := D) (ci := 0) (v := .int 60) (C := RX0) (T := TX0) (N := 9) hx hb hts hi_X7_cases_0 hown hK hP 6 rfl rfl 6 (by decide) (hts (.fieldLink RX7 202 "TheLiningsInIt$Jacket" "seconds" "I") (List.mem_of_getElem? (i := 5) rfl)) (fun _ h9 => h9) rfl dX7_cases_103 ?_
                refine zc_VN (As := [.int 1, .int 0, .int 60]) (rest := []) ⟨hx, hb, hml, hown, hts⟩ (c_most_1 l D cI cJ cZ cP cS w0 (60) ) ⟨(va_cnB 3 hts gX7_cases_X5_most_n208 rfl rfl rfl (hN.1 (RX7, 208, yX5_most) (List.mem_of_getElem? (i := 10) rfl)) (hts _ (List.mem_of_getElem? (i := 22) rfl)) (by decide +kernel) ⟨Nat.le_of_ble_eq_true rfl, Nat.le_of_ble_eq_true rfl⟩), (hts _ (List.mem_of_getElem? (i := 95) rfl)), (hts _ (List.mem_of_getElem? (i := 96) rfl))⟩ hK hN (hZ.kept hS) hP [] rfl (va_recv hK hP (ci := 5) (q0 := 2) rfl rfl) rfl hl.1 rfl (Nat.le_of_ble_eq_true rfl) dX7_cases_106 ⟨Nat.le_of_ble_eq_true rfl, Nat.le_of_ble_eq_true rfl⟩ (fun r_57 hr_57 => ?_)
                obtain rfl := hr_57
                exact W.iret (v := 12) hx hb hr (fun t ht hW => ⟨⟨12, (), rfl, Or.inr (Or.inr (Or.inr (Or.inr (Or.inr (Or.inr (Or.inr (Or.inr (Or.inl (⟨rfl, (by first | omega | decide), (by first | omega | decide), (by first | omega | decide), (by first | omega | decide), (by first | omega | decide), (by first | omega | decide), (by first | omega | decide)⟩))))))))), zP_nil, zD_nil⟩, hS.F ht⟩) hS.2.2 dX7_cases_109
              · have fc_56 : w.toInt = 1 := zf_eq c_56 rfl (by decide)
                refine lv_aload_n hx hb dX7_cases_64 rfl (lv_at hl 0 rfl) ?_
                refine va_get (D := D) (ci := 7) (v := .ref w0) (C := RX7) (T := TX7) (N := 9) hx hb hts hi_X7_cases_7 hown hK hP 0 rfl rfl 3 (by decide) (hts (.fieldLink RX7 28 "TheLiningsInIt" "ways" "LTheLiningsInIt$Ways;") (List.mem_of_getElem? (i := 1) rfl)) (fun _ h9 => h9) rfl dX7_cases_65 ?_
                refine lv_iload_n hx hb dX7_cases_68 rfl (lv_at hl 1 rfl) ?_
                refine lv_aload_n hx hb dX7_cases_69 rfl (lv_at hl 0 rfl) ?_
                refine va_get (D := D) (ci := 7) (v := .ref j0) (C := RX7) (T := TX7) (N := 9) hx hb hts hi_X7_cases_7 hown hK hP 0 rfl rfl 1 (by decide) (hts (.fieldLink RX7 18 "TheLiningsInIt" "now" "LTheLiningsInIt$Jacket;") (List.mem_of_getElem? (i := 2) rfl)) (fun _ h9 => h9) rfl dX7_cases_70 ?_
                refine va_get (D := D) (ci := 0) (v := .int 0) (C := RX0) (T := TX0) (N := 9) hx hb hts hi_X7_cases_0 hown hK hP 6 rfl rfl 4 (by decide) (hts (.fieldLink RX7 199 "TheLiningsInIt$Jacket" "depth" "I") (List.mem_of_getElem? (i := 4) rfl)) (fun _ h9 => h9) rfl dX7_cases_73 ?_
                refine lv_aload_n hx hb dX7_cases_76 rfl (lv_at hl 0 rfl) ?_
                refine va_get (D := D) (ci := 7) (v := .ref j0) (C := RX7) (T := TX7) (N := 9) hx hb hts hi_X7_cases_7 hown hK hP 0 rfl rfl 1 (by decide) (hts (.fieldLink RX7 18 "TheLiningsInIt" "now" "LTheLiningsInIt$Jacket;") (List.mem_of_getElem? (i := 2) rfl)) (fun _ h9 => h9) rfl dX7_cases_77 ?_
                refine va_get (D := D) (ci := 0) (v := .int 60) (C := RX0) (T := TX0) (N := 9) hx hb hts hi_X7_cases_0 hown hK hP 6 rfl rfl 6 (by decide) (hts (.fieldLink RX7 202 "TheLiningsInIt$Jacket" "seconds" "I") (List.mem_of_getElem? (i := 5) rfl)) (fun _ h9 => h9) rfl dX7_cases_80 ?_
                refine zc_V (As := [.int 1, .int 0, .int 60]) (rest := []) ⟨hx, hb, hml, hown, hts⟩ (c_next l D cI cJ cZ cP cS w0 wk wl wc wp (0) (1) (0) (60) ) (cwV 3 hts gX7_cases_X5_next rfl rfl rfl (by decide +kernel) ⟨Nat.le_of_ble_eq_true rfl, Nat.le_of_ble_eq_true rfl⟩) hK hN (hZ.kept hS) hP [2] rfl (va_recv hK hP (ci := 5) (q0 := 2) rfl rfl) rfl hl.1 rfl (Nat.le_of_ble_eq_true rfl) dX7_cases_83 ⟨Nat.le_of_ble_eq_true rfl, Nat.le_of_ble_eq_true rfl⟩ (fun r_58 hr_58 => ?_)
                obtain rfl := hr_58
                exact W.iret (v := (-1)) hx hb hr (fun t ht hW => ⟨⟨(-1), (), rfl, Or.inr (Or.inr (Or.inr (Or.inr (Or.inr (Or.inr (Or.inr (Or.inr (Or.inr (Or.inl (⟨rfl, (by first | omega | decide), (by first | omega | decide), (by first | omega | decide), (by first | omega | decide), (by first | omega | decide), (by first | omega | decide), (by first | omega | decide)⟩)))))))))), zP_nil, zD_nil⟩, hS.F ht⟩) hS.2.2 dX7_cases_86
          · refine lv_aload_n hx hb dX7_cases_31 rfl (lv_at hl 0 rfl) ?_
            refine va_get (D := D) (ci := 7) (v := .ref w0) (C := RX7) (T := TX7) (N := 9) hx hb hts hi_X7_cases_7 hown hK hP 0 rfl rfl 3 (by decide) (hts (.fieldLink RX7 28 "TheLiningsInIt" "ways" "LTheLiningsInIt$Ways;") (List.mem_of_getElem? (i := 1) rfl)) (fun _ h9 => h9) rfl dX7_cases_32 ?_
            refine lv_aload_n hx hb dX7_cases_35 rfl (lv_at hl 0 rfl) ?_
            refine va_get (D := D) (ci := 7) (v := .ref j0) (C := RX7) (T := TX7) (N := 9) hx hb hts hi_X7_cases_7 hown hK hP 0 rfl rfl 1 (by decide) (hts (.fieldLink RX7 18 "TheLiningsInIt" "now" "LTheLiningsInIt$Jacket;") (List.mem_of_getElem? (i := 2) rfl)) (fun _ h9 => h9) rfl dX7_cases_36 ?_
            refine lv_aload_n hx hb dX7_cases_39 rfl (lv_at hl 0 rfl) ?_
            refine va_get (D := D) (ci := 7) (v := .ref j0) (C := RX7) (T := TX7) (N := 9) hx hb hts hi_X7_cases_7 hown hK hP 0 rfl rfl 1 (by decide) (hts (.fieldLink RX7 18 "TheLiningsInIt" "now" "LTheLiningsInIt$Jacket;") (List.mem_of_getElem? (i := 2) rfl)) (fun _ h9 => h9) rfl dX7_cases_40 ?_
            refine va_get (D := D) (ci := 0) (v := .int 0) (C := RX0) (T := TX0) (N := 9) hx hb hts hi_X7_cases_0 hown hK hP 6 rfl rfl 7 (by decide) (hts (.fieldLink RX7 116 "TheLiningsInIt$Jacket" "hurry" "I") (List.mem_of_getElem? (i := 3) rfl)) (fun _ h9 => h9) rfl dX7_cases_43 ?_
            refine lv_iload_n hx hb dX7_cases_46 rfl (lv_at hl 2 rfl) ?_
            refine lv_iconst (v := 2) hx hb dX7_cases_47 (by decide) ?_
            refine lv_icmp_eq (tgt := 55) hx hb dX7_cases_48 (by decide) (fun c_59 => ?_) (fun c_59 => ?_)
            · have fc_59 : w.toInt = 2 := zf_eq c_59 rfl (by decide)
              refine lv_iconst (v := 0) hx hb dX7_cases_55 (by decide) ?_
              skip
              refine zw_Vv (As := [.ref j0, .int 0, .int 0]) (rest := []) (wr := [(x0, .inr (7, [.ref xs, .ref j0, .ref k0, .ref w0, .ref rd, .ref mv, .ref xr, .int 0, .int (-1)])), (xr, .inl (cI, 8, .inl (fun _ => 0)))]) ⟨hx, hb, hml, hown, hts⟩ (c_look l D cI cJ cZ cP cS w0 wk wl wc wp j0 jp jc z0 0 0 fk fl fc (0) (0) (0) (0) (0)  H.size) (cwV 3 hts gX7_cases_X5_look rfl rfl rfl (by decide +kernel) ⟨Nat.le_of_ble_eq_true rfl, Nat.le_of_ble_eq_true rfl⟩) hK hN (hZ.kept hS) hP hD hS hA [2, 3, 4, 5, 6, 7] [0, 1] rfl rfl (by decide) (by decide) (by decide) (va_recv hK hP (ci := 5) (q0 := 2) rfl rfl) rfl hl.1 rfl (Nat.le_of_ble_eq_true rfl) dX7_cases_56 ⟨Nat.le_of_ble_eq_true rfl, Nat.le_of_ble_eq_true rfl⟩ (fun u_61 H locs hr_60 hP hD hS => ?_)
              obtain ⟨q_62, q_63, q_64⟩ := u_61
              replace hP : va_P D vwCl [(x0, .inr (7, [.ref xs, .ref j0, .ref k0, .ref w0, .ref rd, .ref mv, .ref xr, .int 0, .int (-1)])), (xr, .inl (cI, 8, .inl (fun _ => 0))), (w0, .inr (5, [.ref wk, .ref wl, .ref wc, .ref wp, .int 0, .int 0, .int 0])), (wk, .inl (cI, 125, .inl q_62)), (wl, .inl (cI, 125, .inl q_63)), (wc, .inl (cI, 3, .inl q_64)), (j0, .inr (0, [.ref z0, .ref jp, .ref jc, .int 0, .int 0, .int 0, .int 60, .int 0, .int 1])), (jc, .inl (cI, 3, .inl (zL3 5 10 50)))] H := hP
              replace hD : va_D _ [(x0, .inr (7, [.ref xs, .ref j0, .ref k0, .ref w0, .ref rd, .ref mv, .ref xr, .int 0, .int (-1)])), (xr, .inl (cI, 8, .inl (fun _ => 0))), (w0, .inr (5, [.ref wk, .ref wl, .ref wc, .ref wp, .int 0, .int 0, .int 0])), (wk, .inl (cI, 125, .inl q_62)), (wl, .inl (cI, 125, .inl q_63)), (wc, .inl (cI, 3, .inl q_64)), (j0, .inr (0, [.ref z0, .ref jp, .ref jc, .int 0, .int 0, .int 0, .int 60, .int 0, .int 1])), (jc, .inl (cI, 3, .inl (zL3 5 10 50)))] := hD
              refine lv_iload_n hx hb dX7_cases_59 rfl (lv_at hl 2 rfl) ?_
              refine lv_iconst (v := 1) hx hb dX7_cases_60 (by decide) ?_
              refine lv_icmp_ne (tgt := 87) hx hb dX7_cases_61 (by decide) (fun c_65 => ?_) (fun c_65 => ?_)
              · have fc_65 : w.toInt ≠ 1 := zf_ne c_65 rfl (by decide)
                refine lv_aload_n hx hb dX7_cases_87 rfl (lv_at hl 0 rfl) ?_
                refine va_get (D := D) (ci := 7) (v := .ref w0) (C := RX7) (T := TX7) (N := 9) hx hb hts hi_X7_cases_7 hown hK hP 0 rfl rfl 3 (by decide) (hts (.fieldLink RX7 28 "TheLiningsInIt" "ways" "LTheLiningsInIt$Ways;") (List.mem_of_getElem? (i := 1) rfl)) (fun _ h9 => h9) rfl dX7_cases_88 ?_
                refine lv_iload_n hx hb dX7_cases_91 rfl (lv_at hl 1 rfl) ?_
                refine lv_aload_n hx hb dX7_cases_92 rfl (lv_at hl 0 rfl) ?_
                refine va_get (D := D) (ci := 7) (v := .ref j0) (C := RX7) (T := TX7) (N := 9) hx hb hts hi_X7_cases_7 hown hK hP 0 rfl rfl 1 (by decide) (hts (.fieldLink RX7 18 "TheLiningsInIt" "now" "LTheLiningsInIt$Jacket;") (List.mem_of_getElem? (i := 2) rfl)) (fun _ h9 => h9) rfl dX7_cases_93 ?_
                refine va_get (D := D) (ci := 0) (v := .int 0) (C := RX0) (T := TX0) (N := 9) hx hb hts hi_X7_cases_0 hown hK hP 6 rfl rfl 4 (by decide) (hts (.fieldLink RX7 199 "TheLiningsInIt$Jacket" "depth" "I") (List.mem_of_getElem? (i := 4) rfl)) (fun _ h9 => h9) rfl dX7_cases_96 ?_
                refine lv_aload_n hx hb dX7_cases_99 rfl (lv_at hl 0 rfl) ?_
                refine va_get (D := D) (ci := 7) (v := .ref j0) (C := RX7) (T := TX7) (N := 9) hx hb hts hi_X7_cases_7 hown hK hP 0 rfl rfl 1 (by decide) (hts (.fieldLink RX7 18 "TheLiningsInIt" "now" "LTheLiningsInIt$Jacket;") (List.mem_of_getElem? (i := 2) rfl)) (fun _ h9 => h9) rfl dX7_cases_100 ?_
                refine va_get (D := D) (ci := 0) (v := .int 60) (C := RX0) (T := TX0) (N := 9) hx hb hts hi_X7_cases_0 hown hK hP 6 rfl rfl 6 (by decide) (hts (.fieldLink RX7 202 "TheLiningsInIt$Jacket" "seconds" "I") (List.mem_of_getElem? (i := 5) rfl)) (fun _ h9 => h9) rfl dX7_cases_103 ?_
                refine zc_VN (As := [.int 2, .int 0, .int 60]) (rest := []) ⟨hx, hb, hml, hown, hts⟩ (c_most_2 l D cI cJ cZ cP cS w0 (60) ) ⟨(va_cnB 3 hts gX7_cases_X5_most_n208 rfl rfl rfl (hN.1 (RX7, 208, yX5_most) (List.mem_of_getElem? (i := 10) rfl)) (hts _ (List.mem_of_getElem? (i := 22) rfl)) (by decide +kernel) ⟨Nat.le_of_ble_eq_true rfl, Nat.le_of_ble_eq_true rfl⟩), (hts _ (List.mem_of_getElem? (i := 95) rfl)), (hts _ (List.mem_of_getElem? (i := 96) rfl))⟩ hK hN (hZ.kept hS) hP [] rfl (va_recv hK hP (ci := 5) (q0 := 2) rfl rfl) rfl hl.1 rfl (Nat.le_of_ble_eq_true rfl) dX7_cases_106 ⟨Nat.le_of_ble_eq_true rfl, Nat.le_of_ble_eq_true rfl⟩ (fun r_66 hr_66 => ?_)
                obtain rfl := hr_66
                exact W.iret (v := 144) hx hb hr (fun t ht hW => ⟨⟨144, (), rfl, Or.inr (Or.inr (Or.inr (Or.inr (Or.inr (Or.inr (Or.inr (Or.inr (Or.inr (Or.inr (Or.inl (⟨rfl, (by first | omega | decide), (by first | omega | decide), (by first | omega | decide), (by first | omega | decide), (by first | omega | decide), (by first | omega | decide)⟩))))))))))), zP_nil, zD_nil⟩, hS.F ht⟩) hS.2.2 dX7_cases_109
              · exfalso; have fc_65 : w.toInt = 1 := zf_eq c_65 rfl (by decide); omega
            · have fc_59 : w.toInt ≠ 2 := zf_ne c_59 rfl (by decide)
              refine lv_iconst (v := 1) hx hb dX7_cases_51 (by decide) ?_
              refine lv_goto (tgt := 56) hx hb dX7_cases_52 (by decide) ?_
              skip
              refine zw_Vv (As := [.ref j0, .int 0, .int 1]) (rest := []) (wr := [(x0, .inr (7, [.ref xs, .ref j0, .ref k0, .ref w0, .ref rd, .ref mv, .ref xr, .int 0, .int (-1)])), (xr, .inl (cI, 8, .inl (fun _ => 0)))]) ⟨hx, hb, hml, hown, hts⟩ (c_look l D cI cJ cZ cP cS w0 wk wl wc wp j0 jp jc z0 0 0 fk fl fc (0) (0) (0) (0) (1)  H.size) (cwV 3 hts gX7_cases_X5_look rfl rfl rfl (by decide +kernel) ⟨Nat.le_of_ble_eq_true rfl, Nat.le_of_ble_eq_true rfl⟩) hK hN (hZ.kept hS) hP hD hS hA [2, 3, 4, 5, 6, 7] [0, 1] rfl rfl (by decide) (by decide) (by decide) (va_recv hK hP (ci := 5) (q0 := 2) rfl rfl) rfl hl.1 rfl (Nat.le_of_ble_eq_true rfl) dX7_cases_56 ⟨Nat.le_of_ble_eq_true rfl, Nat.le_of_ble_eq_true rfl⟩ (fun u_68 H locs hr_67 hP hD hS => ?_)
              obtain ⟨q_69, q_70, q_71⟩ := u_68
              replace hP : va_P D vwCl [(x0, .inr (7, [.ref xs, .ref j0, .ref k0, .ref w0, .ref rd, .ref mv, .ref xr, .int 0, .int (-1)])), (xr, .inl (cI, 8, .inl (fun _ => 0))), (w0, .inr (5, [.ref wk, .ref wl, .ref wc, .ref wp, .int 0, .int 0, .int 0])), (wk, .inl (cI, 125, .inl q_69)), (wl, .inl (cI, 125, .inl q_70)), (wc, .inl (cI, 3, .inl q_71)), (j0, .inr (0, [.ref z0, .ref jp, .ref jc, .int 0, .int 0, .int 0, .int 60, .int 0, .int 1])), (jc, .inl (cI, 3, .inl (zL3 5 10 50)))] H := hP
              replace hD : va_D _ [(x0, .inr (7, [.ref xs, .ref j0, .ref k0, .ref w0, .ref rd, .ref mv, .ref xr, .int 0, .int (-1)])), (xr, .inl (cI, 8, .inl (fun _ => 0))), (w0, .inr (5, [.ref wk, .ref wl, .ref wc, .ref wp, .int 0, .int 0, .int 0])), (wk, .inl (cI, 125, .inl q_69)), (wl, .inl (cI, 125, .inl q_70)), (wc, .inl (cI, 3, .inl q_71)), (j0, .inr (0, [.ref z0, .ref jp, .ref jc, .int 0, .int 0, .int 0, .int 60, .int 0, .int 1])), (jc, .inl (cI, 3, .inl (zL3 5 10 50)))] := hD
              refine lv_iload_n hx hb dX7_cases_59 rfl (lv_at hl 2 rfl) ?_
              refine lv_iconst (v := 1) hx hb dX7_cases_60 (by decide) ?_
              refine lv_icmp_ne (tgt := 87) hx hb dX7_cases_61 (by decide) (fun c_72 => ?_) (fun c_72 => ?_)
              · have fc_72 : w.toInt ≠ 1 := zf_ne c_72 rfl (by decide)
                refine lv_aload_n hx hb dX7_cases_87 rfl (lv_at hl 0 rfl) ?_
                refine va_get (D := D) (ci := 7) (v := .ref w0) (C := RX7) (T := TX7) (N := 9) hx hb hts hi_X7_cases_7 hown hK hP 0 rfl rfl 3 (by decide) (hts (.fieldLink RX7 28 "TheLiningsInIt" "ways" "LTheLiningsInIt$Ways;") (List.mem_of_getElem? (i := 1) rfl)) (fun _ h9 => h9) rfl dX7_cases_88 ?_
                refine lv_iload_n hx hb dX7_cases_91 rfl (lv_at hl 1 rfl) ?_
                refine lv_aload_n hx hb dX7_cases_92 rfl (lv_at hl 0 rfl) ?_
                refine va_get (D := D) (ci := 7) (v := .ref j0) (C := RX7) (T := TX7) (N := 9) hx hb hts hi_X7_cases_7 hown hK hP 0 rfl rfl 1 (by decide) (hts (.fieldLink RX7 18 "TheLiningsInIt" "now" "LTheLiningsInIt$Jacket;") (List.mem_of_getElem? (i := 2) rfl)) (fun _ h9 => h9) rfl dX7_cases_93 ?_
                refine va_get (D := D) (ci := 0) (v := .int 0) (C := RX0) (T := TX0) (N := 9) hx hb hts hi_X7_cases_0 hown hK hP 6 rfl rfl 4 (by decide) (hts (.fieldLink RX7 199 "TheLiningsInIt$Jacket" "depth" "I") (List.mem_of_getElem? (i := 4) rfl)) (fun _ h9 => h9) rfl dX7_cases_96 ?_
                refine lv_aload_n hx hb dX7_cases_99 rfl (lv_at hl 0 rfl) ?_
                refine va_get (D := D) (ci := 7) (v := .ref j0) (C := RX7) (T := TX7) (N := 9) hx hb hts hi_X7_cases_7 hown hK hP 0 rfl rfl 1 (by decide) (hts (.fieldLink RX7 18 "TheLiningsInIt" "now" "LTheLiningsInIt$Jacket;") (List.mem_of_getElem? (i := 2) rfl)) (fun _ h9 => h9) rfl dX7_cases_100 ?_
                refine va_get (D := D) (ci := 0) (v := .int 60) (C := RX0) (T := TX0) (N := 9) hx hb hts hi_X7_cases_0 hown hK hP 6 rfl rfl 6 (by decide) (hts (.fieldLink RX7 202 "TheLiningsInIt$Jacket" "seconds" "I") (List.mem_of_getElem? (i := 5) rfl)) (fun _ h9 => h9) rfl dX7_cases_103 ?_
                refine zc_VN (As := [.int 2, .int 0, .int 60]) (rest := []) ⟨hx, hb, hml, hown, hts⟩ (c_most_2 l D cI cJ cZ cP cS w0 (60) ) ⟨(va_cnB 3 hts gX7_cases_X5_most_n208 rfl rfl rfl (hN.1 (RX7, 208, yX5_most) (List.mem_of_getElem? (i := 10) rfl)) (hts _ (List.mem_of_getElem? (i := 22) rfl)) (by decide +kernel) ⟨Nat.le_of_ble_eq_true rfl, Nat.le_of_ble_eq_true rfl⟩), (hts _ (List.mem_of_getElem? (i := 95) rfl)), (hts _ (List.mem_of_getElem? (i := 96) rfl))⟩ hK hN (hZ.kept hS) hP [] rfl (va_recv hK hP (ci := 5) (q0 := 2) rfl rfl) rfl hl.1 rfl (Nat.le_of_ble_eq_true rfl) dX7_cases_106 ⟨Nat.le_of_ble_eq_true rfl, Nat.le_of_ble_eq_true rfl⟩ (fun r_73 hr_73 => ?_)
                obtain rfl := hr_73
                exact W.iret (v := 144) hx hb hr (fun t ht hW => ⟨⟨144, (), rfl, Or.inr (Or.inr (Or.inr (Or.inr (Or.inr (Or.inr (Or.inr (Or.inr (Or.inr (Or.inr (Or.inr (Or.inl (⟨rfl, (by first | omega | decide), (by first | omega | decide), (by first | omega | decide), (by first | omega | decide), (by first | omega | decide), (by first | omega | decide), (by first | omega | decide)⟩)))))))))))), zP_nil, zD_nil⟩, hS.F ht⟩) hS.2.2 dX7_cases_109
              · have fc_72 : w.toInt = 1 := zf_eq c_72 rfl (by decide)
                refine lv_aload_n hx hb dX7_cases_64 rfl (lv_at hl 0 rfl) ?_
                refine va_get (D := D) (ci := 7) (v := .ref w0) (C := RX7) (T := TX7) (N := 9) hx hb hts hi_X7_cases_7 hown hK hP 0 rfl rfl 3 (by decide) (hts (.fieldLink RX7 28 "TheLiningsInIt" "ways" "LTheLiningsInIt$Ways;") (List.mem_of_getElem? (i := 1) rfl)) (fun _ h9 => h9) rfl dX7_cases_65 ?_
                refine lv_iload_n hx hb dX7_cases_68 rfl (lv_at hl 1 rfl) ?_
                refine lv_aload_n hx hb dX7_cases_69 rfl (lv_at hl 0 rfl) ?_
                refine va_get (D := D) (ci := 7) (v := .ref j0) (C := RX7) (T := TX7) (N := 9) hx hb hts hi_X7_cases_7 hown hK hP 0 rfl rfl 1 (by decide) (hts (.fieldLink RX7 18 "TheLiningsInIt" "now" "LTheLiningsInIt$Jacket;") (List.mem_of_getElem? (i := 2) rfl)) (fun _ h9 => h9) rfl dX7_cases_70 ?_
                refine va_get (D := D) (ci := 0) (v := .int 0) (C := RX0) (T := TX0) (N := 9) hx hb hts hi_X7_cases_0 hown hK hP 6 rfl rfl 4 (by decide) (hts (.fieldLink RX7 199 "TheLiningsInIt$Jacket" "depth" "I") (List.mem_of_getElem? (i := 4) rfl)) (fun _ h9 => h9) rfl dX7_cases_73 ?_
                refine lv_aload_n hx hb dX7_cases_76 rfl (lv_at hl 0 rfl) ?_
                refine va_get (D := D) (ci := 7) (v := .ref j0) (C := RX7) (T := TX7) (N := 9) hx hb hts hi_X7_cases_7 hown hK hP 0 rfl rfl 1 (by decide) (hts (.fieldLink RX7 18 "TheLiningsInIt" "now" "LTheLiningsInIt$Jacket;") (List.mem_of_getElem? (i := 2) rfl)) (fun _ h9 => h9) rfl dX7_cases_77 ?_
                refine va_get (D := D) (ci := 0) (v := .int 60) (C := RX0) (T := TX0) (N := 9) hx hb hts hi_X7_cases_0 hown hK hP 6 rfl rfl 6 (by decide) (hts (.fieldLink RX7 202 "TheLiningsInIt$Jacket" "seconds" "I") (List.mem_of_getElem? (i := 5) rfl)) (fun _ h9 => h9) rfl dX7_cases_80 ?_
                refine zc_V (As := [.int 2, .int 0, .int 60]) (rest := []) ⟨hx, hb, hml, hown, hts⟩ (c_next l D cI cJ cZ cP cS w0 wk wl wc wp (0) (2) (0) (60) ) (cwV 3 hts gX7_cases_X5_next rfl rfl rfl (by decide +kernel) ⟨Nat.le_of_ble_eq_true rfl, Nat.le_of_ble_eq_true rfl⟩) hK hN (hZ.kept hS) hP [2] rfl (va_recv hK hP (ci := 5) (q0 := 2) rfl rfl) rfl hl.1 rfl (Nat.le_of_ble_eq_true rfl) dX7_cases_83 ⟨Nat.le_of_ble_eq_true rfl, Nat.le_of_ble_eq_true rfl⟩ (fun r_74 hr_74 => ?_)
                obtain rfl := hr_74
                exact W.iret (v := (-1)) hx hb hr (fun t ht hW => ⟨⟨(-1), (), rfl, Or.inr (Or.inr (Or.inr (Or.inr (Or.inr (Or.inr (Or.inr (Or.inr (Or.inr (Or.inr (Or.inr (Or.inr (Or.inl (⟨rfl, (by first | omega | decide), (by first | omega | decide), (by first | omega | decide), (by first | omega | decide), (by first | omega | decide), (by first | omega | decide), (by first | omega | decide)⟩))))))))))))), zP_nil, zD_nil⟩, hS.F ht⟩) hS.2.2 dX7_cases_86
          · refine lv_aload_n hx hb dX7_cases_31 rfl (lv_at hl 0 rfl) ?_
            refine va_get (D := D) (ci := 7) (v := .ref w0) (C := RX7) (T := TX7) (N := 9) hx hb hts hi_X7_cases_7 hown hK hP 0 rfl rfl 3 (by decide) (hts (.fieldLink RX7 28 "TheLiningsInIt" "ways" "LTheLiningsInIt$Ways;") (List.mem_of_getElem? (i := 1) rfl)) (fun _ h9 => h9) rfl dX7_cases_32 ?_
            refine lv_aload_n hx hb dX7_cases_35 rfl (lv_at hl 0 rfl) ?_
            refine va_get (D := D) (ci := 7) (v := .ref j0) (C := RX7) (T := TX7) (N := 9) hx hb hts hi_X7_cases_7 hown hK hP 0 rfl rfl 1 (by decide) (hts (.fieldLink RX7 18 "TheLiningsInIt" "now" "LTheLiningsInIt$Jacket;") (List.mem_of_getElem? (i := 2) rfl)) (fun _ h9 => h9) rfl dX7_cases_36 ?_
            refine lv_aload_n hx hb dX7_cases_39 rfl (lv_at hl 0 rfl) ?_
            refine va_get (D := D) (ci := 7) (v := .ref j0) (C := RX7) (T := TX7) (N := 9) hx hb hts hi_X7_cases_7 hown hK hP 0 rfl rfl 1 (by decide) (hts (.fieldLink RX7 18 "TheLiningsInIt" "now" "LTheLiningsInIt$Jacket;") (List.mem_of_getElem? (i := 2) rfl)) (fun _ h9 => h9) rfl dX7_cases_40 ?_
            refine va_get (D := D) (ci := 0) (v := .int 0) (C := RX0) (T := TX0) (N := 9) hx hb hts hi_X7_cases_0 hown hK hP 6 rfl rfl 7 (by decide) (hts (.fieldLink RX7 116 "TheLiningsInIt$Jacket" "hurry" "I") (List.mem_of_getElem? (i := 3) rfl)) (fun _ h9 => h9) rfl dX7_cases_43 ?_
            refine lv_iload_n hx hb dX7_cases_46 rfl (lv_at hl 2 rfl) ?_
            refine lv_iconst (v := 2) hx hb dX7_cases_47 (by decide) ?_
            refine lv_icmp_eq (tgt := 55) hx hb dX7_cases_48 (by decide) (fun c_75 => ?_) (fun c_75 => ?_)
            · have fc_75 : w.toInt = 2 := zf_eq c_75 rfl (by decide)
              refine lv_iconst (v := 0) hx hb dX7_cases_55 (by decide) ?_
              skip
              refine zw_Vv (As := [.ref j0, .int 0, .int 0]) (rest := []) (wr := [(x0, .inr (7, [.ref xs, .ref j0, .ref k0, .ref w0, .ref rd, .ref mv, .ref xr, .int 0, .int (-1)])), (xr, .inl (cI, 8, .inl (fun _ => 0)))]) ⟨hx, hb, hml, hown, hts⟩ (c_look l D cI cJ cZ cP cS w0 wk wl wc wp j0 jp jc z0 0 0 fk fl fc (0) (0) (0) (0) (0)  H.size) (cwV 3 hts gX7_cases_X5_look rfl rfl rfl (by decide +kernel) ⟨Nat.le_of_ble_eq_true rfl, Nat.le_of_ble_eq_true rfl⟩) hK hN (hZ.kept hS) hP hD hS hA [2, 3, 4, 5, 6, 7] [0, 1] rfl rfl (by decide) (by decide) (by decide) (va_recv hK hP (ci := 5) (q0 := 2) rfl rfl) rfl hl.1 rfl (Nat.le_of_ble_eq_true rfl) dX7_cases_56 ⟨Nat.le_of_ble_eq_true rfl, Nat.le_of_ble_eq_true rfl⟩ (fun u_77 H locs hr_76 hP hD hS => ?_)
              obtain ⟨q_78, q_79, q_80⟩ := u_77
              replace hP : va_P D vwCl [(x0, .inr (7, [.ref xs, .ref j0, .ref k0, .ref w0, .ref rd, .ref mv, .ref xr, .int 0, .int (-1)])), (xr, .inl (cI, 8, .inl (fun _ => 0))), (w0, .inr (5, [.ref wk, .ref wl, .ref wc, .ref wp, .int 0, .int 0, .int 0])), (wk, .inl (cI, 125, .inl q_78)), (wl, .inl (cI, 125, .inl q_79)), (wc, .inl (cI, 3, .inl q_80)), (j0, .inr (0, [.ref z0, .ref jp, .ref jc, .int 0, .int 0, .int 0, .int 60, .int 0, .int 1])), (jc, .inl (cI, 3, .inl (zL3 5 10 50)))] H := hP
              replace hD : va_D _ [(x0, .inr (7, [.ref xs, .ref j0, .ref k0, .ref w0, .ref rd, .ref mv, .ref xr, .int 0, .int (-1)])), (xr, .inl (cI, 8, .inl (fun _ => 0))), (w0, .inr (5, [.ref wk, .ref wl, .ref wc, .ref wp, .int 0, .int 0, .int 0])), (wk, .inl (cI, 125, .inl q_78)), (wl, .inl (cI, 125, .inl q_79)), (wc, .inl (cI, 3, .inl q_80)), (j0, .inr (0, [.ref z0, .ref jp, .ref jc, .int 0, .int 0, .int 0, .int 60, .int 0, .int 1])), (jc, .inl (cI, 3, .inl (zL3 5 10 50)))] := hD
              refine lv_iload_n hx hb dX7_cases_59 rfl (lv_at hl 2 rfl) ?_
              refine lv_iconst (v := 1) hx hb dX7_cases_60 (by decide) ?_
              refine lv_icmp_ne (tgt := 87) hx hb dX7_cases_61 (by decide) (fun c_81 => ?_) (fun c_81 => ?_)
              · have fc_81 : w.toInt ≠ 1 := zf_ne c_81 rfl (by decide)
                refine lv_aload_n hx hb dX7_cases_87 rfl (lv_at hl 0 rfl) ?_
                refine va_get (D := D) (ci := 7) (v := .ref w0) (C := RX7) (T := TX7) (N := 9) hx hb hts hi_X7_cases_7 hown hK hP 0 rfl rfl 3 (by decide) (hts (.fieldLink RX7 28 "TheLiningsInIt" "ways" "LTheLiningsInIt$Ways;") (List.mem_of_getElem? (i := 1) rfl)) (fun _ h9 => h9) rfl dX7_cases_88 ?_
                refine lv_iload_n hx hb dX7_cases_91 rfl (lv_at hl 1 rfl) ?_
                refine lv_aload_n hx hb dX7_cases_92 rfl (lv_at hl 0 rfl) ?_
                refine va_get (D := D) (ci := 7) (v := .ref j0) (C := RX7) (T := TX7) (N := 9) hx hb hts hi_X7_cases_7 hown hK hP 0 rfl rfl 1 (by decide) (hts (.fieldLink RX7 18 "TheLiningsInIt" "now" "LTheLiningsInIt$Jacket;") (List.mem_of_getElem? (i := 2) rfl)) (fun _ h9 => h9) rfl dX7_cases_93 ?_
                refine va_get (D := D) (ci := 0) (v := .int 0) (C := RX0) (T := TX0) (N := 9) hx hb hts hi_X7_cases_0 hown hK hP 6 rfl rfl 4 (by decide) (hts (.fieldLink RX7 199 "TheLiningsInIt$Jacket" "depth" "I") (List.mem_of_getElem? (i := 4) rfl)) (fun _ h9 => h9) rfl dX7_cases_96 ?_
                refine lv_aload_n hx hb dX7_cases_99 rfl (lv_at hl 0 rfl) ?_
                refine va_get (D := D) (ci := 7) (v := .ref j0) (C := RX7) (T := TX7) (N := 9) hx hb hts hi_X7_cases_7 hown hK hP 0 rfl rfl 1 (by decide) (hts (.fieldLink RX7 18 "TheLiningsInIt" "now" "LTheLiningsInIt$Jacket;") (List.mem_of_getElem? (i := 2) rfl)) (fun _ h9 => h9) rfl dX7_cases_100 ?_
                refine va_get (D := D) (ci := 0) (v := .int 60) (C := RX0) (T := TX0) (N := 9) hx hb hts hi_X7_cases_0 hown hK hP 6 rfl rfl 6 (by decide) (hts (.fieldLink RX7 202 "TheLiningsInIt$Jacket" "seconds" "I") (List.mem_of_getElem? (i := 5) rfl)) (fun _ h9 => h9) rfl dX7_cases_103 ?_
                refine zc_VN (As := [.int 3, .int 0, .int 60]) (rest := []) ⟨hx, hb, hml, hown, hts⟩ (c_most_3 l D cI cJ cZ cP cS w0 (60) ) ⟨(va_cnB 3 hts gX7_cases_X5_most_n208 rfl rfl rfl (hN.1 (RX7, 208, yX5_most) (List.mem_of_getElem? (i := 10) rfl)) (hts _ (List.mem_of_getElem? (i := 22) rfl)) (by decide +kernel) ⟨Nat.le_of_ble_eq_true rfl, Nat.le_of_ble_eq_true rfl⟩), (hts _ (List.mem_of_getElem? (i := 95) rfl)), (hts _ (List.mem_of_getElem? (i := 96) rfl))⟩ hK hN (hZ.kept hS) hP [] rfl (va_recv hK hP (ci := 5) (q0 := 2) rfl rfl) rfl hl.1 rfl (Nat.le_of_ble_eq_true rfl) dX7_cases_106 ⟨Nat.le_of_ble_eq_true rfl, Nat.le_of_ble_eq_true rfl⟩ (fun r_82 hr_82 => ?_)
                obtain rfl := hr_82
                exact W.iret (v := 1728) hx hb hr (fun t ht hW => ⟨⟨1728, (), rfl, Or.inr (Or.inr (Or.inr (Or.inr (Or.inr (Or.inr (Or.inr (Or.inr (Or.inr (Or.inr (Or.inr (Or.inr (Or.inr (Or.inl (⟨rfl, (by first | omega | decide), (by first | omega | decide), (by first | omega | decide), (by first | omega | decide), (by first | omega | decide), (by first | omega | decide)⟩)))))))))))))), zP_nil, zD_nil⟩, hS.F ht⟩) hS.2.2 dX7_cases_109
              · exfalso; have fc_81 : w.toInt = 1 := zf_eq c_81 rfl (by decide); omega
            · have fc_75 : w.toInt ≠ 2 := zf_ne c_75 rfl (by decide)
              refine lv_iconst (v := 1) hx hb dX7_cases_51 (by decide) ?_
              refine lv_goto (tgt := 56) hx hb dX7_cases_52 (by decide) ?_
              skip
              refine zw_Vv (As := [.ref j0, .int 0, .int 1]) (rest := []) (wr := [(x0, .inr (7, [.ref xs, .ref j0, .ref k0, .ref w0, .ref rd, .ref mv, .ref xr, .int 0, .int (-1)])), (xr, .inl (cI, 8, .inl (fun _ => 0)))]) ⟨hx, hb, hml, hown, hts⟩ (c_look l D cI cJ cZ cP cS w0 wk wl wc wp j0 jp jc z0 0 0 fk fl fc (0) (0) (0) (0) (1)  H.size) (cwV 3 hts gX7_cases_X5_look rfl rfl rfl (by decide +kernel) ⟨Nat.le_of_ble_eq_true rfl, Nat.le_of_ble_eq_true rfl⟩) hK hN (hZ.kept hS) hP hD hS hA [2, 3, 4, 5, 6, 7] [0, 1] rfl rfl (by decide) (by decide) (by decide) (va_recv hK hP (ci := 5) (q0 := 2) rfl rfl) rfl hl.1 rfl (Nat.le_of_ble_eq_true rfl) dX7_cases_56 ⟨Nat.le_of_ble_eq_true rfl, Nat.le_of_ble_eq_true rfl⟩ (fun u_84 H locs hr_83 hP hD hS => ?_)
              obtain ⟨q_85, q_86, q_87⟩ := u_84
              replace hP : va_P D vwCl [(x0, .inr (7, [.ref xs, .ref j0, .ref k0, .ref w0, .ref rd, .ref mv, .ref xr, .int 0, .int (-1)])), (xr, .inl (cI, 8, .inl (fun _ => 0))), (w0, .inr (5, [.ref wk, .ref wl, .ref wc, .ref wp, .int 0, .int 0, .int 0])), (wk, .inl (cI, 125, .inl q_85)), (wl, .inl (cI, 125, .inl q_86)), (wc, .inl (cI, 3, .inl q_87)), (j0, .inr (0, [.ref z0, .ref jp, .ref jc, .int 0, .int 0, .int 0, .int 60, .int 0, .int 1])), (jc, .inl (cI, 3, .inl (zL3 5 10 50)))] H := hP
              replace hD : va_D _ [(x0, .inr (7, [.ref xs, .ref j0, .ref k0, .ref w0, .ref rd, .ref mv, .ref xr, .int 0, .int (-1)])), (xr, .inl (cI, 8, .inl (fun _ => 0))), (w0, .inr (5, [.ref wk, .ref wl, .ref wc, .ref wp, .int 0, .int 0, .int 0])), (wk, .inl (cI, 125, .inl q_85)), (wl, .inl (cI, 125, .inl q_86)), (wc, .inl (cI, 3, .inl q_87)), (j0, .inr (0, [.ref z0, .ref jp, .ref jc, .int 0, .int 0, .int 0, .int 60, .int 0, .int 1])), (jc, .inl (cI, 3, .inl (zL3 5 10 50)))] := hD
              refine lv_iload_n hx hb dX7_cases_59 rfl (lv_at hl 2 rfl) ?_
              refine lv_iconst (v := 1) hx hb dX7_cases_60 (by decide) ?_
              refine lv_icmp_ne (tgt := 87) hx hb dX7_cases_61 (by decide) (fun c_88 => ?_) (fun c_88 => ?_)
              · have fc_88 : w.toInt ≠ 1 := zf_ne c_88 rfl (by decide)
                refine lv_aload_n hx hb dX7_cases_87 rfl (lv_at hl 0 rfl) ?_
                refine va_get (D := D) (ci := 7) (v := .ref w0) (C := RX7) (T := TX7) (N := 9) hx hb hts hi_X7_cases_7 hown hK hP 0 rfl rfl 3 (by decide) (hts (.fieldLink RX7 28 "TheLiningsInIt" "ways" "LTheLiningsInIt$Ways;") (List.mem_of_getElem? (i := 1) rfl)) (fun _ h9 => h9) rfl dX7_cases_88 ?_
                refine lv_iload_n hx hb dX7_cases_91 rfl (lv_at hl 1 rfl) ?_
                refine lv_aload_n hx hb dX7_cases_92 rfl (lv_at hl 0 rfl) ?_
                refine va_get (D := D) (ci := 7) (v := .ref j0) (C := RX7) (T := TX7) (N := 9) hx hb hts hi_X7_cases_7 hown hK hP 0 rfl rfl 1 (by decide) (hts (.fieldLink RX7 18 "TheLiningsInIt" "now" "LTheLiningsInIt$Jacket;") (List.mem_of_getElem? (i := 2) rfl)) (fun _ h9 => h9) rfl dX7_cases_93 ?_
                refine va_get (D := D) (ci := 0) (v := .int 0) (C := RX0) (T := TX0) (N := 9) hx hb hts hi_X7_cases_0 hown hK hP 6 rfl rfl 4 (by decide) (hts (.fieldLink RX7 199 "TheLiningsInIt$Jacket" "depth" "I") (List.mem_of_getElem? (i := 4) rfl)) (fun _ h9 => h9) rfl dX7_cases_96 ?_
                refine lv_aload_n hx hb dX7_cases_99 rfl (lv_at hl 0 rfl) ?_
                refine va_get (D := D) (ci := 7) (v := .ref j0) (C := RX7) (T := TX7) (N := 9) hx hb hts hi_X7_cases_7 hown hK hP 0 rfl rfl 1 (by decide) (hts (.fieldLink RX7 18 "TheLiningsInIt" "now" "LTheLiningsInIt$Jacket;") (List.mem_of_getElem? (i := 2) rfl)) (fun _ h9 => h9) rfl dX7_cases_100 ?_
                refine va_get (D := D) (ci := 0) (v := .int 60) (C := RX0) (T := TX0) (N := 9) hx hb hts hi_X7_cases_0 hown hK hP 6 rfl rfl 6 (by decide) (hts (.fieldLink RX7 202 "TheLiningsInIt$Jacket" "seconds" "I") (List.mem_of_getElem? (i := 5) rfl)) (fun _ h9 => h9) rfl dX7_cases_103 ?_
                refine zc_VN (As := [.int 3, .int 0, .int 60]) (rest := []) ⟨hx, hb, hml, hown, hts⟩ (c_most_3 l D cI cJ cZ cP cS w0 (60) ) ⟨(va_cnB 3 hts gX7_cases_X5_most_n208 rfl rfl rfl (hN.1 (RX7, 208, yX5_most) (List.mem_of_getElem? (i := 10) rfl)) (hts _ (List.mem_of_getElem? (i := 22) rfl)) (by decide +kernel) ⟨Nat.le_of_ble_eq_true rfl, Nat.le_of_ble_eq_true rfl⟩), (hts _ (List.mem_of_getElem? (i := 95) rfl)), (hts _ (List.mem_of_getElem? (i := 96) rfl))⟩ hK hN (hZ.kept hS) hP [] rfl (va_recv hK hP (ci := 5) (q0 := 2) rfl rfl) rfl hl.1 rfl (Nat.le_of_ble_eq_true rfl) dX7_cases_106 ⟨Nat.le_of_ble_eq_true rfl, Nat.le_of_ble_eq_true rfl⟩ (fun r_89 hr_89 => ?_)
                obtain rfl := hr_89
                exact W.iret (v := 1728) hx hb hr (fun t ht hW => ⟨⟨1728, (), rfl, Or.inr (Or.inr (Or.inr (Or.inr (Or.inr (Or.inr (Or.inr (Or.inr (Or.inr (Or.inr (Or.inr (Or.inr (Or.inr (Or.inr (Or.inl (⟨rfl, (by first | omega | decide), (by first | omega | decide), (by first | omega | decide), (by first | omega | decide), (by first | omega | decide), (by first | omega | decide), (by first | omega | decide)⟩))))))))))))))), zP_nil, zD_nil⟩, hS.F ht⟩) hS.2.2 dX7_cases_109
              · have fc_88 : w.toInt = 1 := zf_eq c_88 rfl (by decide)
                refine lv_aload_n hx hb dX7_cases_64 rfl (lv_at hl 0 rfl) ?_
                refine va_get (D := D) (ci := 7) (v := .ref w0) (C := RX7) (T := TX7) (N := 9) hx hb hts hi_X7_cases_7 hown hK hP 0 rfl rfl 3 (by decide) (hts (.fieldLink RX7 28 "TheLiningsInIt" "ways" "LTheLiningsInIt$Ways;") (List.mem_of_getElem? (i := 1) rfl)) (fun _ h9 => h9) rfl dX7_cases_65 ?_
                refine lv_iload_n hx hb dX7_cases_68 rfl (lv_at hl 1 rfl) ?_
                refine lv_aload_n hx hb dX7_cases_69 rfl (lv_at hl 0 rfl) ?_
                refine va_get (D := D) (ci := 7) (v := .ref j0) (C := RX7) (T := TX7) (N := 9) hx hb hts hi_X7_cases_7 hown hK hP 0 rfl rfl 1 (by decide) (hts (.fieldLink RX7 18 "TheLiningsInIt" "now" "LTheLiningsInIt$Jacket;") (List.mem_of_getElem? (i := 2) rfl)) (fun _ h9 => h9) rfl dX7_cases_70 ?_
                refine va_get (D := D) (ci := 0) (v := .int 0) (C := RX0) (T := TX0) (N := 9) hx hb hts hi_X7_cases_0 hown hK hP 6 rfl rfl 4 (by decide) (hts (.fieldLink RX7 199 "TheLiningsInIt$Jacket" "depth" "I") (List.mem_of_getElem? (i := 4) rfl)) (fun _ h9 => h9) rfl dX7_cases_73 ?_
                refine lv_aload_n hx hb dX7_cases_76 rfl (lv_at hl 0 rfl) ?_
                refine va_get (D := D) (ci := 7) (v := .ref j0) (C := RX7) (T := TX7) (N := 9) hx hb hts hi_X7_cases_7 hown hK hP 0 rfl rfl 1 (by decide) (hts (.fieldLink RX7 18 "TheLiningsInIt" "now" "LTheLiningsInIt$Jacket;") (List.mem_of_getElem? (i := 2) rfl)) (fun _ h9 => h9) rfl dX7_cases_77 ?_
                refine va_get (D := D) (ci := 0) (v := .int 60) (C := RX0) (T := TX0) (N := 9) hx hb hts hi_X7_cases_0 hown hK hP 6 rfl rfl 6 (by decide) (hts (.fieldLink RX7 202 "TheLiningsInIt$Jacket" "seconds" "I") (List.mem_of_getElem? (i := 5) rfl)) (fun _ h9 => h9) rfl dX7_cases_80 ?_
                refine zc_V (As := [.int 3, .int 0, .int 60]) (rest := []) ⟨hx, hb, hml, hown, hts⟩ (c_next l D cI cJ cZ cP cS w0 wk wl wc wp (0) (3) (0) (60) ) (cwV 3 hts gX7_cases_X5_next rfl rfl rfl (by decide +kernel) ⟨Nat.le_of_ble_eq_true rfl, Nat.le_of_ble_eq_true rfl⟩) hK hN (hZ.kept hS) hP [2] rfl (va_recv hK hP (ci := 5) (q0 := 2) rfl rfl) rfl hl.1 rfl (Nat.le_of_ble_eq_true rfl) dX7_cases_83 ⟨Nat.le_of_ble_eq_true rfl, Nat.le_of_ble_eq_true rfl⟩ (fun r_90 hr_90 => ?_)
                obtain rfl := hr_90
                exact W.iret (v := (-1)) hx hb hr (fun t ht hW => ⟨⟨(-1), (), rfl, Or.inr (Or.inr (Or.inr (Or.inr (Or.inr (Or.inr (Or.inr (Or.inr (Or.inr (Or.inr (Or.inr (Or.inr (Or.inr (Or.inr (Or.inr (Or.inl (⟨rfl, (by first | omega | decide), (by first | omega | decide), (by first | omega | decide), (by first | omega | decide), (by first | omega | decide), (by first | omega | decide), (by first | omega | decide)⟩)))))))))))))))), zP_nil, zD_nil⟩, hS.F ht⟩) hS.2.2 dX7_cases_86
          · refine lv_aload_n hx hb dX7_cases_31 rfl (lv_at hl 0 rfl) ?_
            refine va_get (D := D) (ci := 7) (v := .ref w0) (C := RX7) (T := TX7) (N := 9) hx hb hts hi_X7_cases_7 hown hK hP 0 rfl rfl 3 (by decide) (hts (.fieldLink RX7 28 "TheLiningsInIt" "ways" "LTheLiningsInIt$Ways;") (List.mem_of_getElem? (i := 1) rfl)) (fun _ h9 => h9) rfl dX7_cases_32 ?_
            refine lv_aload_n hx hb dX7_cases_35 rfl (lv_at hl 0 rfl) ?_
            refine va_get (D := D) (ci := 7) (v := .ref j0) (C := RX7) (T := TX7) (N := 9) hx hb hts hi_X7_cases_7 hown hK hP 0 rfl rfl 1 (by decide) (hts (.fieldLink RX7 18 "TheLiningsInIt" "now" "LTheLiningsInIt$Jacket;") (List.mem_of_getElem? (i := 2) rfl)) (fun _ h9 => h9) rfl dX7_cases_36 ?_
            refine lv_aload_n hx hb dX7_cases_39 rfl (lv_at hl 0 rfl) ?_
            refine va_get (D := D) (ci := 7) (v := .ref j0) (C := RX7) (T := TX7) (N := 9) hx hb hts hi_X7_cases_7 hown hK hP 0 rfl rfl 1 (by decide) (hts (.fieldLink RX7 18 "TheLiningsInIt" "now" "LTheLiningsInIt$Jacket;") (List.mem_of_getElem? (i := 2) rfl)) (fun _ h9 => h9) rfl dX7_cases_40 ?_
            refine va_get (D := D) (ci := 0) (v := .int 0) (C := RX0) (T := TX0) (N := 9) hx hb hts hi_X7_cases_0 hown hK hP 6 rfl rfl 7 (by decide) (hts (.fieldLink RX7 116 "TheLiningsInIt$Jacket" "hurry" "I") (List.mem_of_getElem? (i := 3) rfl)) (fun _ h9 => h9) rfl dX7_cases_43 ?_
            refine lv_iload_n hx hb dX7_cases_46 rfl (lv_at hl 2 rfl) ?_
            refine lv_iconst (v := 2) hx hb dX7_cases_47 (by decide) ?_
            refine lv_icmp_eq (tgt := 55) hx hb dX7_cases_48 (by decide) (fun c_91 => ?_) (fun c_91 => ?_)
            · have fc_91 : w.toInt = 2 := zf_eq c_91 rfl (by decide)
              refine lv_iconst (v := 0) hx hb dX7_cases_55 (by decide) ?_
              skip
              refine zw_Vv (As := [.ref j0, .int 0, .int 0]) (rest := []) (wr := [(x0, .inr (7, [.ref xs, .ref j0, .ref k0, .ref w0, .ref rd, .ref mv, .ref xr, .int 0, .int (-1)])), (xr, .inl (cI, 8, .inl (fun _ => 0)))]) ⟨hx, hb, hml, hown, hts⟩ (c_look l D cI cJ cZ cP cS w0 wk wl wc wp j0 jp jc z0 0 0 fk fl fc (0) (0) (0) (0) (0)  H.size) (cwV 3 hts gX7_cases_X5_look rfl rfl rfl (by decide +kernel) ⟨Nat.le_of_ble_eq_true rfl, Nat.le_of_ble_eq_true rfl⟩) hK hN (hZ.kept hS) hP hD hS hA [2, 3, 4, 5, 6, 7] [0, 1] rfl rfl (by decide) (by decide) (by decide) (va_recv hK hP (ci := 5) (q0 := 2) rfl rfl) rfl hl.1 rfl (Nat.le_of_ble_eq_true rfl) dX7_cases_56 ⟨Nat.le_of_ble_eq_true rfl, Nat.le_of_ble_eq_true rfl⟩ (fun u_93 H locs hr_92 hP hD hS => ?_)
              obtain ⟨q_94, q_95, q_96⟩ := u_93
              replace hP : va_P D vwCl [(x0, .inr (7, [.ref xs, .ref j0, .ref k0, .ref w0, .ref rd, .ref mv, .ref xr, .int 0, .int (-1)])), (xr, .inl (cI, 8, .inl (fun _ => 0))), (w0, .inr (5, [.ref wk, .ref wl, .ref wc, .ref wp, .int 0, .int 0, .int 0])), (wk, .inl (cI, 125, .inl q_94)), (wl, .inl (cI, 125, .inl q_95)), (wc, .inl (cI, 3, .inl q_96)), (j0, .inr (0, [.ref z0, .ref jp, .ref jc, .int 0, .int 0, .int 0, .int 60, .int 0, .int 1])), (jc, .inl (cI, 3, .inl (zL3 5 10 50)))] H := hP
              replace hD : va_D _ [(x0, .inr (7, [.ref xs, .ref j0, .ref k0, .ref w0, .ref rd, .ref mv, .ref xr, .int 0, .int (-1)])), (xr, .inl (cI, 8, .inl (fun _ => 0))), (w0, .inr (5, [.ref wk, .ref wl, .ref wc, .ref wp, .int 0, .int 0, .int 0])), (wk, .inl (cI, 125, .inl q_94)), (wl, .inl (cI, 125, .inl q_95)), (wc, .inl (cI, 3, .inl q_96)), (j0, .inr (0, [.ref z0, .ref jp, .ref jc, .int 0, .int 0, .int 0, .int 60, .int 0, .int 1])), (jc, .inl (cI, 3, .inl (zL3 5 10 50)))] := hD
              refine lv_iload_n hx hb dX7_cases_59 rfl (lv_at hl 2 rfl) ?_
              refine lv_iconst (v := 1) hx hb dX7_cases_60 (by decide) ?_
              refine lv_icmp_ne (tgt := 87) hx hb dX7_cases_61 (by decide) (fun c_97 => ?_) (fun c_97 => ?_)
              · have fc_97 : w.toInt ≠ 1 := zf_ne c_97 rfl (by decide)
                refine lv_aload_n hx hb dX7_cases_87 rfl (lv_at hl 0 rfl) ?_
                refine va_get (D := D) (ci := 7) (v := .ref w0) (C := RX7) (T := TX7) (N := 9) hx hb hts hi_X7_cases_7 hown hK hP 0 rfl rfl 3 (by decide) (hts (.fieldLink RX7 28 "TheLiningsInIt" "ways" "LTheLiningsInIt$Ways;") (List.mem_of_getElem? (i := 1) rfl)) (fun _ h9 => h9) rfl dX7_cases_88 ?_
                refine lv_iload_n hx hb dX7_cases_91 rfl (lv_at hl 1 rfl) ?_
                refine lv_aload_n hx hb dX7_cases_92 rfl (lv_at hl 0 rfl) ?_
                refine va_get (D := D) (ci := 7) (v := .ref j0) (C := RX7) (T := TX7) (N := 9) hx hb hts hi_X7_cases_7 hown hK hP 0 rfl rfl 1 (by decide) (hts (.fieldLink RX7 18 "TheLiningsInIt" "now" "LTheLiningsInIt$Jacket;") (List.mem_of_getElem? (i := 2) rfl)) (fun _ h9 => h9) rfl dX7_cases_93 ?_
                refine va_get (D := D) (ci := 0) (v := .int 0) (C := RX0) (T := TX0) (N := 9) hx hb hts hi_X7_cases_0 hown hK hP 6 rfl rfl 4 (by decide) (hts (.fieldLink RX7 199 "TheLiningsInIt$Jacket" "depth" "I") (List.mem_of_getElem? (i := 4) rfl)) (fun _ h9 => h9) rfl dX7_cases_96 ?_
                refine lv_aload_n hx hb dX7_cases_99 rfl (lv_at hl 0 rfl) ?_
                refine va_get (D := D) (ci := 7) (v := .ref j0) (C := RX7) (T := TX7) (N := 9) hx hb hts hi_X7_cases_7 hown hK hP 0 rfl rfl 1 (by decide) (hts (.fieldLink RX7 18 "TheLiningsInIt" "now" "LTheLiningsInIt$Jacket;") (List.mem_of_getElem? (i := 2) rfl)) (fun _ h9 => h9) rfl dX7_cases_100 ?_
                refine va_get (D := D) (ci := 0) (v := .int 60) (C := RX0) (T := TX0) (N := 9) hx hb hts hi_X7_cases_0 hown hK hP 6 rfl rfl 6 (by decide) (hts (.fieldLink RX7 202 "TheLiningsInIt$Jacket" "seconds" "I") (List.mem_of_getElem? (i := 5) rfl)) (fun _ h9 => h9) rfl dX7_cases_103 ?_
                refine zc_VN (As := [.int 4, .int 0, .int 60]) (rest := []) ⟨hx, hb, hml, hown, hts⟩ (c_most_4 l D cI cJ cZ cP cS w0 (60) ) ⟨(va_cnB 3 hts gX7_cases_X5_most_n208 rfl rfl rfl (hN.1 (RX7, 208, yX5_most) (List.mem_of_getElem? (i := 10) rfl)) (hts _ (List.mem_of_getElem? (i := 22) rfl)) (by decide +kernel) ⟨Nat.le_of_ble_eq_true rfl, Nat.le_of_ble_eq_true rfl⟩), (hts _ (List.mem_of_getElem? (i := 95) rfl)), (hts _ (List.mem_of_getElem? (i := 96) rfl))⟩ hK hN (hZ.kept hS) hP [] rfl (va_recv hK hP (ci := 5) (q0 := 2) rfl rfl) rfl hl.1 rfl (Nat.le_of_ble_eq_true rfl) dX7_cases_106 ⟨Nat.le_of_ble_eq_true rfl, Nat.le_of_ble_eq_true rfl⟩ (fun r_98 hr_98 => ?_)
                obtain rfl := hr_98
                exact W.iret (v := 20736) hx hb hr (fun t ht hW => ⟨⟨20736, (), rfl, Or.inr (Or.inr (Or.inr (Or.inr (Or.inr (Or.inr (Or.inr (Or.inr (Or.inr (Or.inr (Or.inr (Or.inr (Or.inr (Or.inr (Or.inr (Or.inr (Or.inl (⟨rfl, (by first | omega | decide), (by first | omega | decide), (by first | omega | decide), (by first | omega | decide), (by first | omega | decide), (by first | omega | decide)⟩))))))))))))))))), zP_nil, zD_nil⟩, hS.F ht⟩) hS.2.2 dX7_cases_109
              · exfalso; have fc_97 : w.toInt = 1 := zf_eq c_97 rfl (by decide); omega
            · have fc_91 : w.toInt ≠ 2 := zf_ne c_91 rfl (by decide)
              refine lv_iconst (v := 1) hx hb dX7_cases_51 (by decide) ?_
              refine lv_goto (tgt := 56) hx hb dX7_cases_52 (by decide) ?_
              skip
              refine zw_Vv (As := [.ref j0, .int 0, .int 1]) (rest := []) (wr := [(x0, .inr (7, [.ref xs, .ref j0, .ref k0, .ref w0, .ref rd, .ref mv, .ref xr, .int 0, .int (-1)])), (xr, .inl (cI, 8, .inl (fun _ => 0)))]) ⟨hx, hb, hml, hown, hts⟩ (c_look l D cI cJ cZ cP cS w0 wk wl wc wp j0 jp jc z0 0 0 fk fl fc (0) (0) (0) (0) (1)  H.size) (cwV 3 hts gX7_cases_X5_look rfl rfl rfl (by decide +kernel) ⟨Nat.le_of_ble_eq_true rfl, Nat.le_of_ble_eq_true rfl⟩) hK hN (hZ.kept hS) hP hD hS hA [2, 3, 4, 5, 6, 7] [0, 1] rfl rfl (by decide) (by decide) (by decide) (va_recv hK hP (ci := 5) (q0 := 2) rfl rfl) rfl hl.1 rfl (Nat.le_of_ble_eq_true rfl) dX7_cases_56 ⟨Nat.le_of_ble_eq_true rfl, Nat.le_of_ble_eq_true rfl⟩ (fun u_100 H locs hr_99 hP hD hS => ?_)
              obtain ⟨q_101, q_102, q_103⟩ := u_100
              replace hP : va_P D vwCl [(x0, .inr (7, [.ref xs, .ref j0, .ref k0, .ref w0, .ref rd, .ref mv, .ref xr, .int 0, .int (-1)])), (xr, .inl (cI, 8, .inl (fun _ => 0))), (w0, .inr (5, [.ref wk, .ref wl, .ref wc, .ref wp, .int 0, .int 0, .int 0])), (wk, .inl (cI, 125, .inl q_101)), (wl, .inl (cI, 125, .inl q_102)), (wc, .inl (cI, 3, .inl q_103)), (j0, .inr (0, [.ref z0, .ref jp, .ref jc, .int 0, .int 0, .int 0, .int 60, .int 0, .int 1])), (jc, .inl (cI, 3, .inl (zL3 5 10 50)))] H := hP
              replace hD : va_D _ [(x0, .inr (7, [.ref xs, .ref j0, .ref k0, .ref w0, .ref rd, .ref mv, .ref xr, .int 0, .int (-1)])), (xr, .inl (cI, 8, .inl (fun _ => 0))), (w0, .inr (5, [.ref wk, .ref wl, .ref wc, .ref wp, .int 0, .int 0, .int 0])), (wk, .inl (cI, 125, .inl q_101)), (wl, .inl (cI, 125, .inl q_102)), (wc, .inl (cI, 3, .inl q_103)), (j0, .inr (0, [.ref z0, .ref jp, .ref jc, .int 0, .int 0, .int 0, .int 60, .int 0, .int 1])), (jc, .inl (cI, 3, .inl (zL3 5 10 50)))] := hD
              refine lv_iload_n hx hb dX7_cases_59 rfl (lv_at hl 2 rfl) ?_
              refine lv_iconst (v := 1) hx hb dX7_cases_60 (by decide) ?_
              refine lv_icmp_ne (tgt := 87) hx hb dX7_cases_61 (by decide) (fun c_104 => ?_) (fun c_104 => ?_)
              · have fc_104 : w.toInt ≠ 1 := zf_ne c_104 rfl (by decide)
                refine lv_aload_n hx hb dX7_cases_87 rfl (lv_at hl 0 rfl) ?_
                refine va_get (D := D) (ci := 7) (v := .ref w0) (C := RX7) (T := TX7) (N := 9) hx hb hts hi_X7_cases_7 hown hK hP 0 rfl rfl 3 (by decide) (hts (.fieldLink RX7 28 "TheLiningsInIt" "ways" "LTheLiningsInIt$Ways;") (List.mem_of_getElem? (i := 1) rfl)) (fun _ h9 => h9) rfl dX7_cases_88 ?_
                refine lv_iload_n hx hb dX7_cases_91 rfl (lv_at hl 1 rfl) ?_
                refine lv_aload_n hx hb dX7_cases_92 rfl (lv_at hl 0 rfl) ?_
                refine va_get (D := D) (ci := 7) (v := .ref j0) (C := RX7) (T := TX7) (N := 9) hx hb hts hi_X7_cases_7 hown hK hP 0 rfl rfl 1 (by decide) (hts (.fieldLink RX7 18 "TheLiningsInIt" "now" "LTheLiningsInIt$Jacket;") (List.mem_of_getElem? (i := 2) rfl)) (fun _ h9 => h9) rfl dX7_cases_93 ?_
                refine va_get (D := D) (ci := 0) (v := .int 0) (C := RX0) (T := TX0) (N := 9) hx hb hts hi_X7_cases_0 hown hK hP 6 rfl rfl 4 (by decide) (hts (.fieldLink RX7 199 "TheLiningsInIt$Jacket" "depth" "I") (List.mem_of_getElem? (i := 4) rfl)) (fun _ h9 => h9) rfl dX7_cases_96 ?_
                refine lv_aload_n hx hb dX7_cases_99 rfl (lv_at hl 0 rfl) ?_
                refine va_get (D := D) (ci := 7) (v := .ref j0) (C := RX7) (T := TX7) (N := 9) hx hb hts hi_X7_cases_7 hown hK hP 0 rfl rfl 1 (by decide) (hts (.fieldLink RX7 18 "TheLiningsInIt" "now" "LTheLiningsInIt$Jacket;") (List.mem_of_getElem? (i := 2) rfl)) (fun _ h9 => h9) rfl dX7_cases_100 ?_
                refine va_get (D := D) (ci := 0) (v := .int 60) (C := RX0) (T := TX0) (N := 9) hx hb hts hi_X7_cases_0 hown hK hP 6 rfl rfl 6 (by decide) (hts (.fieldLink RX7 202 "TheLiningsInIt$Jacket" "seconds" "I") (List.mem_of_getElem? (i := 5) rfl)) (fun _ h9 => h9) rfl dX7_cases_103 ?_
                refine zc_VN (As := [.int 4, .int 0, .int 60]) (rest := []) ⟨hx, hb, hml, hown, hts⟩ (c_most_4 l D cI cJ cZ cP cS w0 (60) ) ⟨(va_cnB 3 hts gX7_cases_X5_most_n208 rfl rfl rfl (hN.1 (RX7, 208, yX5_most) (List.mem_of_getElem? (i := 10) rfl)) (hts _ (List.mem_of_getElem? (i := 22) rfl)) (by decide +kernel) ⟨Nat.le_of_ble_eq_true rfl, Nat.le_of_ble_eq_true rfl⟩), (hts _ (List.mem_of_getElem? (i := 95) rfl)), (hts _ (List.mem_of_getElem? (i := 96) rfl))⟩ hK hN (hZ.kept hS) hP [] rfl (va_recv hK hP (ci := 5) (q0 := 2) rfl rfl) rfl hl.1 rfl (Nat.le_of_ble_eq_true rfl) dX7_cases_106 ⟨Nat.le_of_ble_eq_true rfl, Nat.le_of_ble_eq_true rfl⟩ (fun r_105 hr_105 => ?_)
                obtain rfl := hr_105
                exact W.iret (v := 20736) hx hb hr (fun t ht hW => ⟨⟨20736, (), rfl, Or.inr (Or.inr (Or.inr (Or.inr (Or.inr (Or.inr (Or.inr (Or.inr (Or.inr (Or.inr (Or.inr (Or.inr (Or.inr (Or.inr (Or.inr (Or.inr (Or.inr (Or.inl (⟨rfl, (by first | omega | decide), (by first | omega | decide), (by first | omega | decide), (by first | omega | decide), (by first | omega | decide), (by first | omega | decide), (by first | omega | decide)⟩)))))))))))))))))), zP_nil, zD_nil⟩, hS.F ht⟩) hS.2.2 dX7_cases_109
              · have fc_104 : w.toInt = 1 := zf_eq c_104 rfl (by decide)
                refine lv_aload_n hx hb dX7_cases_64 rfl (lv_at hl 0 rfl) ?_
                refine va_get (D := D) (ci := 7) (v := .ref w0) (C := RX7) (T := TX7) (N := 9) hx hb hts hi_X7_cases_7 hown hK hP 0 rfl rfl 3 (by decide) (hts (.fieldLink RX7 28 "TheLiningsInIt" "ways" "LTheLiningsInIt$Ways;") (List.mem_of_getElem? (i := 1) rfl)) (fun _ h9 => h9) rfl dX7_cases_65 ?_
                refine lv_iload_n hx hb dX7_cases_68 rfl (lv_at hl 1 rfl) ?_
                refine lv_aload_n hx hb dX7_cases_69 rfl (lv_at hl 0 rfl) ?_
                refine va_get (D := D) (ci := 7) (v := .ref j0) (C := RX7) (T := TX7) (N := 9) hx hb hts hi_X7_cases_7 hown hK hP 0 rfl rfl 1 (by decide) (hts (.fieldLink RX7 18 "TheLiningsInIt" "now" "LTheLiningsInIt$Jacket;") (List.mem_of_getElem? (i := 2) rfl)) (fun _ h9 => h9) rfl dX7_cases_70 ?_
                refine va_get (D := D) (ci := 0) (v := .int 0) (C := RX0) (T := TX0) (N := 9) hx hb hts hi_X7_cases_0 hown hK hP 6 rfl rfl 4 (by decide) (hts (.fieldLink RX7 199 "TheLiningsInIt$Jacket" "depth" "I") (List.mem_of_getElem? (i := 4) rfl)) (fun _ h9 => h9) rfl dX7_cases_73 ?_
                refine lv_aload_n hx hb dX7_cases_76 rfl (lv_at hl 0 rfl) ?_
                refine va_get (D := D) (ci := 7) (v := .ref j0) (C := RX7) (T := TX7) (N := 9) hx hb hts hi_X7_cases_7 hown hK hP 0 rfl rfl 1 (by decide) (hts (.fieldLink RX7 18 "TheLiningsInIt" "now" "LTheLiningsInIt$Jacket;") (List.mem_of_getElem? (i := 2) rfl)) (fun _ h9 => h9) rfl dX7_cases_77 ?_
                refine va_get (D := D) (ci := 0) (v := .int 60) (C := RX0) (T := TX0) (N := 9) hx hb hts hi_X7_cases_0 hown hK hP 6 rfl rfl 6 (by decide) (hts (.fieldLink RX7 202 "TheLiningsInIt$Jacket" "seconds" "I") (List.mem_of_getElem? (i := 5) rfl)) (fun _ h9 => h9) rfl dX7_cases_80 ?_
                refine zc_V (As := [.int 4, .int 0, .int 60]) (rest := []) ⟨hx, hb, hml, hown, hts⟩ (c_next l D cI cJ cZ cP cS w0 wk wl wc wp (0) (4) (0) (60) ) (cwV 3 hts gX7_cases_X5_next rfl rfl rfl (by decide +kernel) ⟨Nat.le_of_ble_eq_true rfl, Nat.le_of_ble_eq_true rfl⟩) hK hN (hZ.kept hS) hP [2] rfl (va_recv hK hP (ci := 5) (q0 := 2) rfl rfl) rfl hl.1 rfl (Nat.le_of_ble_eq_true rfl) dX7_cases_83 ⟨Nat.le_of_ble_eq_true rfl, Nat.le_of_ble_eq_true rfl⟩ (fun r_106 hr_106 => ?_)
                obtain rfl := hr_106
                exact W.iret (v := (-1)) hx hb hr (fun t ht hW => ⟨⟨(-1), (), rfl, Or.inr (Or.inr (Or.inr (Or.inr (Or.inr (Or.inr (Or.inr (Or.inr (Or.inr (Or.inr (Or.inr (Or.inr (Or.inr (Or.inr (Or.inr (Or.inr (Or.inr (Or.inr (⟨rfl, (by first | omega | decide), (by first | omega | decide), (by first | omega | decide), (by first | omega | decide), (by first | omega | decide), (by first | omega | decide), (by first | omega | decide)⟩)))))))))))))))))), zP_nil, zD_nil⟩, hS.F ht⟩) hS.2.2 dX7_cases_86
        · exact absurd c_26 (by decide)
    · exact absurd c_13 (by decide)
theorem hi_X7_line_7 : ∀ w ∈ u_ws RX7 TX7 9, w ∈ wsX7_line := by decide +kernel
theorem hi_X7_line_0 : ∀ w ∈ u_ws RX0 TX0 9, w ∈ wsX7_line := by decide +kernel
set_option maxHeartbeats 4000000 in
set_option maxRecDepth 100000 in
theorem c_line (l : Launch) (D : va_G) (cI cJ cZ cP cS : ClassId) (x0 xs j0 k0 w0 rd mv xr : Nat) (jp jc z0 zl zs : Nat) (wk wl wc wp : Nat) (fk fl fc : Nat → Int32) (n w : Int32)  (sz : Nat) : Met l yX7_line wsX7_line ({ frames := 3, cells := 0, slots := 0, locals := 126 }) (va_Pc [.ref x0, .int n, .int w] (zW D (zKT cI cJ cZ cP cS) [(x0, .inr (7, [.ref xs, .ref j0, .ref k0, .ref w0, .ref rd, .ref mv, .ref xr, .int 0, .int (-1)])), (xr, .inl (cI, 8, .inl (fun _ => 0))), (w0, .inr (5, [.ref wk, .ref wl, .ref wc, .ref wp, .int 0, .int 0, .int 0])), (wk, .inl (cI, 125, .inl fk)), (wl, .inl (cI, 125, .inl fl)), (wc, .inl (cI, 3, .inl fc)), (j0, .inr (0, [.ref z0, .ref jp, .ref jc, .int 0, .int 0, .int 0, .int 60, .int 0, .int 1])), (jc, .inl (cI, 3, .inl (zL3 5 10 50)))] sz)) (va_Qi (fun (r : Int32) (_ : Unit) => (r = (-15) ∧ w.toInt < 0) ∨ (r = (-15) ∧ 0 ≤ w.toInt ∧ 1 < w.toInt) ∨ (r = (-16) ∧ 0 ≤ w.toInt ∧ w.toInt ≤ 1 ∧ n.toInt < 0) ∨ (r = (-16) ∧ 0 ≤ w.toInt ∧ w.toInt ≤ 1 ∧ 0 ≤ n.toInt ∧ 4 < n.toInt) ∨ (r = 0 ∧ 0 ≤ w.toInt ∧ w.toInt ≤ 1 ∧ 0 ≤ n.toInt ∧ n.toInt ≤ 4 ∧ n.toInt = 0 ∧ w.toInt ≠ 1) ∨ (r = (-1) ∧ 0 ≤ w.toInt ∧ w.toInt ≤ 1 ∧ 0 ≤ n.toInt ∧ n.toInt ≤ 4 ∧ n.toInt = 0 ∧ w.toInt = 1) ∨ (r = 0 ∧ 0 ≤ w.toInt ∧ w.toInt ≤ 1 ∧ 0 ≤ n.toInt ∧ n.toInt ≤ 4 ∧ n.toInt = 1 ∧ w.toInt ≠ 1) ∨ (r = (-1) ∧ 0 ≤ w.toInt ∧ w.toInt ≤ 1 ∧ 0 ≤ n.toInt ∧ n.toInt ≤ 4 ∧ n.toInt = 1 ∧ w.toInt = 1) ∨ (r = 0 ∧ 0 ≤ w.toInt ∧ w.toInt ≤ 1 ∧ 0 ≤ n.toInt ∧ n.toInt ≤ 4 ∧ n.toInt = 2 ∧ w.toInt ≠ 1) ∨ (r = (-1) ∧ 0 ≤ w.toInt ∧ w.toInt ≤ 1 ∧ 0 ≤ n.toInt ∧ n.toInt ≤ 4 ∧ n.toInt = 2 ∧ w.toInt = 1) ∨ (r = 0 ∧ 0 ≤ w.toInt ∧ w.toInt ≤ 1 ∧ 0 ≤ n.toInt ∧ n.toInt ≤ 4 ∧ n.toInt = 3 ∧ w.toInt ≠ 1) ∨ (r = (-1) ∧ 0 ≤ w.toInt ∧ w.toInt ≤ 1 ∧ 0 ≤ n.toInt ∧ n.toInt ≤ 4 ∧ n.toInt = 3 ∧ w.toInt = 1) ∨ (r = 0 ∧ 0 ≤ w.toInt ∧ w.toInt ≤ 1 ∧ 0 ≤ n.toInt ∧ n.toInt ≤ 4 ∧ n.toInt = 4 ∧ w.toInt ≠ 1) ∨ (r = (-1) ∧ 0 ≤ w.toInt ∧ w.toInt ≤ 1 ∧ 0 ≤ n.toInt ∧ n.toInt ≤ 4 ∧ n.toInt = 4 ∧ w.toInt = 1)) (zB D [(x0, .inr (7, [.ref xs, .ref j0, .ref k0, .ref w0, .ref rd, .ref mv, .ref xr, .int 0, .int (-1)])), (xr, .inl (cI, 8, .inl (fun _ => 0))), (w0, .inr (5, [.ref wk, .ref wl, .ref wc, .ref wp, .int 0, .int 0, .int 0])), (wk, .inl (cI, 125, .inl fk)), (wl, .inl (cI, 125, .inl fl)), (wc, .inl (cI, 3, .inl fc)), (j0, .inr (0, [.ref z0, .ref jp, .ref jc, .int 0, .int 0, .int 0, .int 60, .int 0, .int 1])), (jc, .inl (cI, 3, .inl (zL3 5 10 50)))] sz (fun (_ : Unit) => ([] : va_W))) (va_A [(x0, .inr (7, [.ref xs, .ref j0, .ref k0, .ref w0, .ref rd, .ref mv, .ref xr, .int 0, .int (-1)])), (xr, .inl (cI, 8, .inl (fun _ => 0))), (w0, .inr (5, [.ref wk, .ref wl, .ref wc, .ref wp, .int 0, .int 0, .int 0])), (wk, .inl (cI, 125, .inl fk)), (wl, .inl (cI, 125, .inl fl)), (wc, .inl (cI, 3, .inl fc)), (j0, .inr (0, [.ref z0, .ref jp, .ref jc, .int 0, .int 0, .int 0, .int 60, .int 0, .int 1])), (jc, .inl (cI, 3, .inl (zL3 5 10 50)))] sz)) 0 0 (va_A [(x0, .inr (7, [.ref xs, .ref j0, .ref k0, .ref w0, .ref rd, .ref mv, .ref xr, .int 0, .int (-1)])), (xr, .inl (cI, 8, .inl (fun _ => 0))), (w0, .inr (5, [.ref wk, .ref wl, .ref wc, .ref wp, .int 0, .int 0, .int 0])), (wk, .inl (cI, 125, .inl fk)), (wl, .inl (cI, 125, .inl fl)), (wc, .inl (cI, 3, .inl fc)), (j0, .inr (0, [.ref z0, .ref jp, .ref jc, .int 0, .int 0, .int 0, .int 60, .int 0, .int 1])), (jc, .inl (cI, 3, .inl (zL3 5 10 50)))] sz) := by
  refine Met.ofW (cc := cX7_line) (maxL := 3) (ret := (some .int)) (by decide) rfl ?_
  intro p e s m args below meth c s₁ B hml hv
  obtain ⟨rfl, hsz, hP, hK, hD0, hN, hZ⟩ := hv
  have hx := B.exec
  have hb := B.bytes
  have hr := B.returns
  have hts := atoms_spec (ws := wsX7_line) B.pre
  have hown : s.vm.findClass RX7 = some m.cls := findClass_of_methodNamed B.named
  have hlocks := B.notSynchronized
  subst hsz
  have hD := hD0.self (sz := s.heap.size)
  have hA : ∀ q : Nat, s.heap.size ≤ q → va_A [(x0, .inr (7, [.ref xs, .ref j0, .ref k0, .ref w0, .ref rd, .ref mv, .ref xr, .int 0, .int (-1)])), (xr, .inl (cI, 8, .inl (fun _ => 0))), (w0, .inr (5, [.ref wk, .ref wl, .ref wc, .ref wp, .int 0, .int 0, .int 0])), (wk, .inl (cI, 125, .inl fk)), (wl, .inl (cI, 125, .inl fl)), (wc, .inl (cI, 3, .inl fc)), (j0, .inr (0, [.ref z0, .ref jp, .ref jc, .int 0, .int 0, .int 0, .int 60, .int 0, .int 1])), (jc, .inl (cI, 3, .inl (zL3 5 10 50)))] s.heap.size q := fun q h => Or.inr h
  have hS : va_S (va_A [(x0, .inr (7, [.ref xs, .ref j0, .ref k0, .ref w0, .ref rd, .ref mv, .ref xr, .int 0, .int (-1)])), (xr, .inl (cI, 8, .inl (fun _ => 0))), (w0, .inr (5, [.ref wk, .ref wl, .ref wc, .ref wp, .int 0, .int 0, .int 0])), (wk, .inl (cI, 125, .inl fk)), (wl, .inl (cI, 125, .inl fl)), (wc, .inl (cI, 3, .inl fc)), (j0, .inr (0, [.ref z0, .ref jp, .ref jc, .int 0, .int 0, .int 0, .int 60, .int 0, .int 1])), (jc, .inl (cI, 3, .inl (zL3 5 10 50)))] s.heap.size) s.heap s.heap [] := va_S.rf
  replace hP : va_P D vwCl _ s.heap := hP
  have hl := lv_entry ([.ref x0, .int n, .int w]) (n := 3) (Nat.le_of_ble_eq_true rfl)
  rw [lg_entry_eq]
  generalize (lg_sl ([.ref x0, .int n, .int w]) ++ List.replicate (3 - (lg_sl ([.ref x0, .int n, .int w])).length) Slot.unset).toArray = ls at hl ⊢
  replace hl : lv_has ls 3 [(0, .ref x0), (1, .int n), (2, .int w)] := hl
  refine zw_start (fun H locs hH hL => ?_)
  replace hP : va_P D vwCl [(x0, .inr (7, [.ref xs, .ref j0, .ref k0, .ref w0, .ref rd, .ref mv, .ref xr, .int 0, .int (-1)])), (xr, .inl (cI, 8, .inl (fun _ => 0))), (w0, .inr (5, [.ref wk, .ref wl, .ref wc, .ref wp, .int 0, .int 0, .int 0])), (wk, .inl (cI, 125, .inl fk)), (wl, .inl (cI, 125, .inl fl)), (wc, .inl (cI, 3, .inl fc)), (j0, .inr (0, [.ref z0, .ref jp, .ref jc, .int 0, .int 0, .int 0, .int 60, .int 0, .int 1])), (jc, .inl (cI, 3, .inl (zL3 5 10 50)))] H := by rw [hH]; exact hP
  replace hS : va_S (va_A [(x0, .inr (7, [.ref xs, .ref j0, .ref k0, .ref w0, .ref rd, .ref mv, .ref xr, .int 0, .int (-1)])), (xr, .inl (cI, 8, .inl (fun _ => 0))), (w0, .inr (5, [.ref wk, .ref wl, .ref wc, .ref wp, .int 0, .int 0, .int 0])), (wk, .inl (cI, 125, .inl fk)), (wl, .inl (cI, 125, .inl fl)), (wc, .inl (cI, 3, .inl fc)), (j0, .inr (0, [.ref z0, .ref jp, .ref jc, .int 0, .int 0, .int 0, .int 60, .int 0, .int 1])), (jc, .inl (cI, 3, .inl (zL3 5 10 50)))] s.heap.size) s.heap H locs := by rw [hH, hL]; exact hS
  clear hH hL
  refine lv_iload_n hx hb dX7_line_0 rfl (lv_at hl 2 rfl) ?_
  refine lv_iconst (v := 0) hx hb dX7_line_1 (by decide) ?_
  refine lv_iconst (v := 1) hx hb dX7_line_2 (by decide) ?_
  have kc0 : (0 : Int32).toInt = 0 := by decide
  have kc1 : (1 : Int32).toInt = 1 := by decide
  refine zc_S (As := [.int w, .int 0, .int 1]) (rest := []) ⟨hx, hb, hml, hown, hts⟩ (c_within l D cI cJ cZ cP cS (w) (0) (1) ) (va_cwS 3 hts gX7_line_X7_within rfl rfl rfl (by decide +kernel) ⟨Nat.le_of_ble_eq_true rfl, Nat.le_of_ble_eq_true rfl⟩) hK hN (hZ.kept hS) rfl hl.1 rfl (Nat.le_of_ble_eq_true rfl) dX7_line_3 ⟨Nat.le_of_ble_eq_true rfl, Nat.le_of_ble_eq_true rfl⟩ (fun r_1 hr_1 => ?_)
  rcases hr_1 with ⟨rfl, g_2⟩ | ⟨rfl, g_3, g_4⟩ | ⟨rfl, g_5, g_6⟩
  · refine lv_if_ne (tgt := 15) hx hb dX7_line_6 (by decide) (fun c_7 => ?_) (fun c_7 => ?_)
    · exact absurd c_7 (by decide)
    · refine lv_aload_n hx hb dX7_line_9 rfl (lv_at hl 0 rfl) ?_
      refine lv_iconst (v := 5) hx hb dX7_line_10 (by decide) ?_
      skip
      refine zw_V (As := [.int 5]) (rest := []) (wr := [(w0, .inr (5, [.ref wk, .ref wl, .ref wc, .ref wp, .int 0, .int 0, .int 0])), (wk, .inl (cI, 125, .inl fk)), (wl, .inl (cI, 125, .inl fl)), (wc, .inl (cI, 3, .inl fc)), (j0, .inr (0, [.ref z0, .ref jp, .ref jc, .int 0, .int 0, .int 0, .int 60, .int 0, .int 1])), (jc, .inl (cI, 3, .inl (zL3 5 10 50)))]) ⟨hx, hb, hml, hown, hts⟩ (c_refuseLower_5 l D cI cJ cZ cP cS x0 xs j0 k0 w0 rd mv xr  H.size) (cwV 1 hts gX7_line_X7_refuseLower rfl rfl rfl (by decide +kernel) ⟨Nat.le_of_ble_eq_true rfl, Nat.le_of_ble_eq_true rfl⟩) hK hN (hZ.kept hS) hP hD hS hA [0, 1] [2, 3, 4, 5, 6, 7] rfl rfl (by decide) (by decide) (by decide) (va_recv hK hP (ci := 7) (q0 := 0) rfl rfl) rfl hl.1 rfl (Nat.le_of_ble_eq_true rfl) dX7_line_11 ⟨Nat.le_of_ble_eq_true rfl, Nat.le_of_ble_eq_true rfl⟩ (fun r_8 u_9 H locs hr_8 hP hD hS => ?_)
      replace hP : va_P D vwCl [(w0, .inr (5, [.ref wk, .ref wl, .ref wc, .ref wp, .int 0, .int 0, .int 0])), (wk, .inl (cI, 125, .inl fk)), (wl, .inl (cI, 125, .inl fl)), (wc, .inl (cI, 3, .inl fc)), (j0, .inr (0, [.ref z0, .ref jp, .ref jc, .int 0, .int 0, .int 0, .int 60, .int 0, .int 1])), (jc, .inl (cI, 3, .inl (zL3 5 10 50)))] H := hP
      replace hD : va_D _ [(w0, .inr (5, [.ref wk, .ref wl, .ref wc, .ref wp, .int 0, .int 0, .int 0])), (wk, .inl (cI, 125, .inl fk)), (wl, .inl (cI, 125, .inl fl)), (wc, .inl (cI, 3, .inl fc)), (j0, .inr (0, [.ref z0, .ref jp, .ref jc, .int 0, .int 0, .int 0, .int 60, .int 0, .int 1])), (jc, .inl (cI, 3, .inl (zL3 5 10 50)))] := hD
      obtain rfl := hr_8
      exact W.iret (v := (-15)) hx hb hr (fun t ht hW => ⟨⟨(-15), (), rfl, Or.inl (⟨rfl, (by first | omega | decide)⟩), zP_nil, zD_nil⟩, hS.F ht⟩) hS.2.2 dX7_line_14
  · refine lv_if_ne (tgt := 15) hx hb dX7_line_6 (by decide) (fun c_10 => ?_) (fun c_10 => ?_)
    · exact absurd c_10 (by decide)
    · refine lv_aload_n hx hb dX7_line_9 rfl (lv_at hl 0 rfl) ?_
      refine lv_iconst (v := 5) hx hb dX7_line_10 (by decide) ?_
      skip
      refine zw_V (As := [.int 5]) (rest := []) (wr := [(w0, .inr (5, [.ref wk, .ref wl, .ref wc, .ref wp, .int 0, .int 0, .int 0])), (wk, .inl (cI, 125, .inl fk)), (wl, .inl (cI, 125, .inl fl)), (wc, .inl (cI, 3, .inl fc)), (j0, .inr (0, [.ref z0, .ref jp, .ref jc, .int 0, .int 0, .int 0, .int 60, .int 0, .int 1])), (jc, .inl (cI, 3, .inl (zL3 5 10 50)))]) ⟨hx, hb, hml, hown, hts⟩ (c_refuseLower_5 l D cI cJ cZ cP cS x0 xs j0 k0 w0 rd mv xr  H.size) (cwV 1 hts gX7_line_X7_refuseLower rfl rfl rfl (by decide +kernel) ⟨Nat.le_of_ble_eq_true rfl, Nat.le_of_ble_eq_true rfl⟩) hK hN (hZ.kept hS) hP hD hS hA [0, 1] [2, 3, 4, 5, 6, 7] rfl rfl (by decide) (by decide) (by decide) (va_recv hK hP (ci := 7) (q0 := 0) rfl rfl) rfl hl.1 rfl (Nat.le_of_ble_eq_true rfl) dX7_line_11 ⟨Nat.le_of_ble_eq_true rfl, Nat.le_of_ble_eq_true rfl⟩ (fun r_11 u_12 H locs hr_11 hP hD hS => ?_)
      replace hP : va_P D vwCl [(w0, .inr (5, [.ref wk, .ref wl, .ref wc, .ref wp, .int 0, .int 0, .int 0])), (wk, .inl (cI, 125, .inl fk)), (wl, .inl (cI, 125, .inl fl)), (wc, .inl (cI, 3, .inl fc)), (j0, .inr (0, [.ref z0, .ref jp, .ref jc, .int 0, .int 0, .int 0, .int 60, .int 0, .int 1])), (jc, .inl (cI, 3, .inl (zL3 5 10 50)))] H := hP
      replace hD : va_D _ [(w0, .inr (5, [.ref wk, .ref wl, .ref wc, .ref wp, .int 0, .int 0, .int 0])), (wk, .inl (cI, 125, .inl fk)), (wl, .inl (cI, 125, .inl fl)), (wc, .inl (cI, 3, .inl fc)), (j0, .inr (0, [.ref z0, .ref jp, .ref jc, .int 0, .int 0, .int 0, .int 60, .int 0, .int 1])), (jc, .inl (cI, 3, .inl (zL3 5 10 50)))] := hD
      obtain rfl := hr_11
      exact W.iret (v := (-15)) hx hb hr (fun t ht hW => ⟨⟨(-15), (), rfl, Or.inr (Or.inl (⟨rfl, (by first | omega | decide), (by first | omega | decide)⟩)), zP_nil, zD_nil⟩, hS.F ht⟩) hS.2.2 dX7_line_14
  · refine lv_if_ne (tgt := 15) hx hb dX7_line_6 (by decide) (fun c_13 => ?_) (fun c_13 => ?_)
    · refine lv_iload_n hx hb dX7_line_15 rfl (lv_at hl 1 rfl) ?_
      refine lv_iconst (v := 0) hx hb dX7_line_16 (by decide) ?_
      refine lv_iconst (v := 4) hx hb dX7_line_17 (by decide) ?_
      have kc4 : (4 : Int32).toInt = 4 := by decide
      refine zc_S (As := [.int n, .int 0, .int 4]) (rest := []) ⟨hx, hb, hml, hown, hts⟩ (c_within l D cI cJ cZ cP cS (n) (0) (4) ) (va_cwS 3 hts gX7_line_X7_within rfl rfl rfl (by decide +kernel) ⟨Nat.le_of_ble_eq_true rfl, Nat.le_of_ble_eq_true rfl⟩) hK hN (hZ.kept hS) rfl hl.1 rfl (Nat.le_of_ble_eq_true rfl) dX7_line_18 ⟨Nat.le_of_ble_eq_true rfl, Nat.le_of_ble_eq_true rfl⟩ (fun r_14 hr_14 => ?_)
      rcases hr_14 with ⟨rfl, g_15⟩ | ⟨rfl, g_16, g_17⟩ | ⟨rfl, g_18, g_19⟩
      · refine lv_if_ne (tgt := 31) hx hb dX7_line_21 (by decide) (fun c_20 => ?_) (fun c_20 => ?_)
        · exact absurd c_20 (by decide)
        · refine lv_aload_n hx hb dX7_line_24 rfl (lv_at hl 0 rfl) ?_
          refine lv_bipush (v := 6) hx hb dX7_line_25 (by decide) ?_
          skip
          refine zw_V (As := [.int 6]) (rest := []) (wr := [(w0, .inr (5, [.ref wk, .ref wl, .ref wc, .ref wp, .int 0, .int 0, .int 0])), (wk, .inl (cI, 125, .inl fk)), (wl, .inl (cI, 125, .inl fl)), (wc, .inl (cI, 3, .inl fc)), (j0, .inr (0, [.ref z0, .ref jp, .ref jc, .int 0, .int 0, .int 0, .int 60, .int 0, .int 1])), (jc, .inl (cI, 3, .inl (zL3 5 10 50)))]) ⟨hx, hb, hml, hown, hts⟩ (c_refuseLower_6 l D cI cJ cZ cP cS x0 xs j0 k0 w0 rd mv xr  H.size) (cwV 1 hts gX7_line_X7_refuseLower rfl rfl rfl (by decide +kernel) ⟨Nat.le_of_ble_eq_true rfl, Nat.le_of_ble_eq_true rfl⟩) hK hN (hZ.kept hS) hP hD hS hA [0, 1] [2, 3, 4, 5, 6, 7] rfl rfl (by decide) (by decide) (by decide) (va_recv hK hP (ci := 7) (q0 := 0) rfl rfl) rfl hl.1 rfl (Nat.le_of_ble_eq_true rfl) dX7_line_27 ⟨Nat.le_of_ble_eq_true rfl, Nat.le_of_ble_eq_true rfl⟩ (fun r_21 u_22 H locs hr_21 hP hD hS => ?_)
          replace hP : va_P D vwCl [(w0, .inr (5, [.ref wk, .ref wl, .ref wc, .ref wp, .int 0, .int 0, .int 0])), (wk, .inl (cI, 125, .inl fk)), (wl, .inl (cI, 125, .inl fl)), (wc, .inl (cI, 3, .inl fc)), (j0, .inr (0, [.ref z0, .ref jp, .ref jc, .int 0, .int 0, .int 0, .int 60, .int 0, .int 1])), (jc, .inl (cI, 3, .inl (zL3 5 10 50)))] H := hP
          replace hD : va_D _ [(w0, .inr (5, [.ref wk, .ref wl, .ref wc, .ref wp, .int 0, .int 0, .int 0])), (wk, .inl (cI, 125, .inl fk)), (wl, .inl (cI, 125, .inl fl)), (wc, .inl (cI, 3, .inl fc)), (j0, .inr (0, [.ref z0, .ref jp, .ref jc, .int 0, .int 0, .int 0, .int 60, .int 0, .int 1])), (jc, .inl (cI, 3, .inl (zL3 5 10 50)))] := hD
          obtain rfl := hr_21
          exact W.iret (v := (-16)) hx hb hr (fun t ht hW => ⟨⟨(-16), (), rfl, Or.inr (Or.inr (Or.inl (⟨rfl, (by first | omega | decide), (by first | omega | decide), (by first | omega | decide)⟩))), zP_nil, zD_nil⟩, hS.F ht⟩) hS.2.2 dX7_line_30
      · refine lv_if_ne (tgt := 31) hx hb dX7_line_21 (by decide) (fun c_23 => ?_) (fun c_23 => ?_)
        · exact absurd c_23 (by decide)
        · refine lv_aload_n hx hb dX7_line_24 rfl (lv_at hl 0 rfl) ?_
          refine lv_bipush (v := 6) hx hb dX7_line_25 (by decide) ?_
          skip
          refine zw_V (As := [.int 6]) (rest := []) (wr := [(w0, .inr (5, [.ref wk, .ref wl, .ref wc, .ref wp, .int 0, .int 0, .int 0])), (wk, .inl (cI, 125, .inl fk)), (wl, .inl (cI, 125, .inl fl)), (wc, .inl (cI, 3, .inl fc)), (j0, .inr (0, [.ref z0, .ref jp, .ref jc, .int 0, .int 0, .int 0, .int 60, .int 0, .int 1])), (jc, .inl (cI, 3, .inl (zL3 5 10 50)))]) ⟨hx, hb, hml, hown, hts⟩ (c_refuseLower_6 l D cI cJ cZ cP cS x0 xs j0 k0 w0 rd mv xr  H.size) (cwV 1 hts gX7_line_X7_refuseLower rfl rfl rfl (by decide +kernel) ⟨Nat.le_of_ble_eq_true rfl, Nat.le_of_ble_eq_true rfl⟩) hK hN (hZ.kept hS) hP hD hS hA [0, 1] [2, 3, 4, 5, 6, 7] rfl rfl (by decide) (by decide) (by decide) (va_recv hK hP (ci := 7) (q0 := 0) rfl rfl) rfl hl.1 rfl (Nat.le_of_ble_eq_true rfl) dX7_line_27 ⟨Nat.le_of_ble_eq_true rfl, Nat.le_of_ble_eq_true rfl⟩ (fun r_24 u_25 H locs hr_24 hP hD hS => ?_)
          replace hP : va_P D vwCl [(w0, .inr (5, [.ref wk, .ref wl, .ref wc, .ref wp, .int 0, .int 0, .int 0])), (wk, .inl (cI, 125, .inl fk)), (wl, .inl (cI, 125, .inl fl)), (wc, .inl (cI, 3, .inl fc)), (j0, .inr (0, [.ref z0, .ref jp, .ref jc, .int 0, .int 0, .int 0, .int 60, .int 0, .int 1])), (jc, .inl (cI, 3, .inl (zL3 5 10 50)))] H := hP
          replace hD : va_D _ [(w0, .inr (5, [.ref wk, .ref wl, .ref wc, .ref wp, .int 0, .int 0, .int 0])), (wk, .inl (cI, 125, .inl fk)), (wl, .inl (cI, 125, .inl fl)), (wc, .inl (cI, 3, .inl fc)), (j0, .inr (0, [.ref z0, .ref jp, .ref jc, .int 0, .int 0, .int 0, .int 60, .int 0, .int 1])), (jc, .inl (cI, 3, .inl (zL3 5 10 50)))] := hD
          obtain rfl := hr_24
          exact W.iret (v := (-16)) hx hb hr (fun t ht hW => ⟨⟨(-16), (), rfl, Or.inr (Or.inr (Or.inr (Or.inl (⟨rfl, (by first | omega | decide), (by first | omega | decide), (by first | omega | decide), (by first | omega | decide)⟩)))), zP_nil, zD_nil⟩, hS.F ht⟩) hS.2.2 dX7_line_30
      · refine lv_if_ne (tgt := 31) hx hb dX7_line_21 (by decide) (fun c_26 => ?_) (fun c_26 => ?_)
        · have hsp : n = 0 ∨ n = 1 ∨ n = 2 ∨ n = 3 ∨ n = 4 := by
            rcases (show n.toInt = 0 ∨ n.toInt = 1 ∨ n.toInt = 2 ∨ n.toInt = 3 ∨ n.toInt = 4 by omega) with h9 | h9 | h9 | h9 | h9
            · refine Or.inl ?_; exact zf_val h9 (by decide)
            · refine Or.inr (Or.inl ?_); exact zf_val h9 (by decide)
            · refine Or.inr (Or.inr (Or.inl ?_)); exact zf_val h9 (by decide)
            · refine Or.inr (Or.inr (Or.inr (Or.inl ?_))); exact zf_val h9 (by decide)
            · refine Or.inr (Or.inr (Or.inr (Or.inr (?_)))); exact zf_val h9 (by decide)
          rcases hsp with rfl | rfl | rfl | rfl | rfl
          · refine lv_aload_n hx hb dX7_line_31 rfl (lv_at hl 0 rfl) ?_
            refine va_get (D := D) (ci := 7) (v := .ref w0) (C := RX7) (T := TX7) (N := 9) hx hb hts hi_X7_line_7 hown hK hP 0 rfl rfl 3 (by decide) (hts (.fieldLink RX7 28 "TheLiningsInIt" "ways" "LTheLiningsInIt$Ways;") (List.mem_of_getElem? (i := 1) rfl)) (fun _ h9 => h9) rfl dX7_line_32 ?_
            refine lv_aload_n hx hb dX7_line_35 rfl (lv_at hl 0 rfl) ?_
            refine va_get (D := D) (ci := 7) (v := .ref j0) (C := RX7) (T := TX7) (N := 9) hx hb hts hi_X7_line_7 hown hK hP 0 rfl rfl 1 (by decide) (hts (.fieldLink RX7 18 "TheLiningsInIt" "now" "LTheLiningsInIt$Jacket;") (List.mem_of_getElem? (i := 2) rfl)) (fun _ h9 => h9) rfl dX7_line_36 ?_
            refine lv_aload_n hx hb dX7_line_39 rfl (lv_at hl 0 rfl) ?_
            refine va_get (D := D) (ci := 7) (v := .ref j0) (C := RX7) (T := TX7) (N := 9) hx hb hts hi_X7_line_7 hown hK hP 0 rfl rfl 1 (by decide) (hts (.fieldLink RX7 18 "TheLiningsInIt" "now" "LTheLiningsInIt$Jacket;") (List.mem_of_getElem? (i := 2) rfl)) (fun _ h9 => h9) rfl dX7_line_40 ?_
            refine va_get (D := D) (ci := 0) (v := .int 0) (C := RX0) (T := TX0) (N := 9) hx hb hts hi_X7_line_0 hown hK hP 6 rfl rfl 7 (by decide) (hts (.fieldLink RX7 116 "TheLiningsInIt$Jacket" "hurry" "I") (List.mem_of_getElem? (i := 3) rfl)) (fun _ h9 => h9) rfl dX7_line_43 ?_
            refine lv_iconst (v := 1) hx hb dX7_line_46 (by decide) ?_
            skip
            refine zw_Vv (As := [.ref j0, .int 0, .int 1]) (rest := []) (wr := [(x0, .inr (7, [.ref xs, .ref j0, .ref k0, .ref w0, .ref rd, .ref mv, .ref xr, .int 0, .int (-1)])), (xr, .inl (cI, 8, .inl (fun _ => 0)))]) ⟨hx, hb, hml, hown, hts⟩ (c_look l D cI cJ cZ cP cS w0 wk wl wc wp j0 jp jc z0 0 0 fk fl fc (0) (0) (0) (0) (1)  H.size) (cwV 3 hts gX7_line_X5_look rfl rfl rfl (by decide +kernel) ⟨Nat.le_of_ble_eq_true rfl, Nat.le_of_ble_eq_true rfl⟩) hK hN (hZ.kept hS) hP hD hS hA [2, 3, 4, 5, 6, 7] [0, 1] rfl rfl (by decide) (by decide) (by decide) (va_recv hK hP (ci := 5) (q0 := 2) rfl rfl) rfl hl.1 rfl (Nat.le_of_ble_eq_true rfl) dX7_line_47 ⟨Nat.le_of_ble_eq_true rfl, Nat.le_of_ble_eq_true rfl⟩ (fun u_28 H locs hr_27 hP hD hS => ?_)
            obtain ⟨q_29, q_30, q_31⟩ := u_28
            replace hP : va_P D vwCl [(x0, .inr (7, [.ref xs, .ref j0, .ref k0, .ref w0, .ref rd, .ref mv, .ref xr, .int 0, .int (-1)])), (xr, .inl (cI, 8, .inl (fun _ => 0))), (w0, .inr (5, [.ref wk, .ref wl, .ref wc, .ref wp, .int 0, .int 0, .int 0])), (wk, .inl (cI, 125, .inl q_29)), (wl, .inl (cI, 125, .inl q_30)), (wc, .inl (cI, 3, .inl q_31)), (j0, .inr (0, [.ref z0, .ref jp, .ref jc, .int 0, .int 0, .int 0, .int 60, .int 0, .int 1])), (jc, .inl (cI, 3, .inl (zL3 5 10 50)))] H := hP
            replace hD : va_D _ [(x0, .inr (7, [.ref xs, .ref j0, .ref k0, .ref w0, .ref rd, .ref mv, .ref xr, .int 0, .int (-1)])), (xr, .inl (cI, 8, .inl (fun _ => 0))), (w0, .inr (5, [.ref wk, .ref wl, .ref wc, .ref wp, .int 0, .int 0, .int 0])), (wk, .inl (cI, 125, .inl q_29)), (wl, .inl (cI, 125, .inl q_30)), (wc, .inl (cI, 3, .inl q_31)), (j0, .inr (0, [.ref z0, .ref jp, .ref jc, .int 0, .int 0, .int 0, .int 60, .int 0, .int 1])), (jc, .inl (cI, 3, .inl (zL3 5 10 50)))] := hD
            refine lv_iload_n hx hb dX7_line_50 rfl (lv_at hl 2 rfl) ?_
            refine lv_iconst (v := 1) hx hb dX7_line_51 (by decide) ?_
            refine lv_icmp_ne (tgt := 78) hx hb dX7_line_52 (by decide) (fun c_32 => ?_) (fun c_32 => ?_)
            · have fc_32 : w.toInt ≠ 1 := zf_ne c_32 rfl (by decide)
              refine lv_aload_n hx hb dX7_line_78 rfl (lv_at hl 0 rfl) ?_
              refine va_get (D := D) (ci := 7) (v := .ref w0) (C := RX7) (T := TX7) (N := 9) hx hb hts hi_X7_line_7 hown hK hP 0 rfl rfl 3 (by decide) (hts (.fieldLink RX7 28 "TheLiningsInIt" "ways" "LTheLiningsInIt$Ways;") (List.mem_of_getElem? (i := 1) rfl)) (fun _ h9 => h9) rfl dX7_line_79 ?_
              refine lv_iload_n hx hb dX7_line_82 rfl (lv_at hl 1 rfl) ?_
              refine lv_aload_n hx hb dX7_line_83 rfl (lv_at hl 0 rfl) ?_
              refine va_get (D := D) (ci := 7) (v := .ref j0) (C := RX7) (T := TX7) (N := 9) hx hb hts hi_X7_line_7 hown hK hP 0 rfl rfl 1 (by decide) (hts (.fieldLink RX7 18 "TheLiningsInIt" "now" "LTheLiningsInIt$Jacket;") (List.mem_of_getElem? (i := 2) rfl)) (fun _ h9 => h9) rfl dX7_line_84 ?_
              refine va_get (D := D) (ci := 0) (v := .int 0) (C := RX0) (T := TX0) (N := 9) hx hb hts hi_X7_line_0 hown hK hP 6 rfl rfl 4 (by decide) (hts (.fieldLink RX7 199 "TheLiningsInIt$Jacket" "depth" "I") (List.mem_of_getElem? (i := 4) rfl)) (fun _ h9 => h9) rfl dX7_line_87 ?_
              refine lv_aload_n hx hb dX7_line_90 rfl (lv_at hl 0 rfl) ?_
              refine va_get (D := D) (ci := 7) (v := .ref j0) (C := RX7) (T := TX7) (N := 9) hx hb hts hi_X7_line_7 hown hK hP 0 rfl rfl 1 (by decide) (hts (.fieldLink RX7 18 "TheLiningsInIt" "now" "LTheLiningsInIt$Jacket;") (List.mem_of_getElem? (i := 2) rfl)) (fun _ h9 => h9) rfl dX7_line_91 ?_
              refine va_get (D := D) (ci := 0) (v := .int 60) (C := RX0) (T := TX0) (N := 9) hx hb hts hi_X7_line_0 hown hK hP 6 rfl rfl 6 (by decide) (hts (.fieldLink RX7 202 "TheLiningsInIt$Jacket" "seconds" "I") (List.mem_of_getElem? (i := 5) rfl)) (fun _ h9 => h9) rfl dX7_line_94 ?_
              refine zc_VN (As := [.int 0, .int 0, .int 60]) (rest := []) ⟨hx, hb, hml, hown, hts⟩ (c_least_0 l D cI cJ cZ cP cS w0 (60) ) ⟨(va_cnB 3 hts gX7_line_X5_least_n214 rfl rfl rfl (hN.1 (RX7, 214, yX5_least) (List.mem_of_getElem? (i := 11) rfl)) (hts _ (List.mem_of_getElem? (i := 22) rfl)) (by decide +kernel) ⟨Nat.le_of_ble_eq_true rfl, Nat.le_of_ble_eq_true rfl⟩), (hts _ (List.mem_of_getElem? (i := 59) rfl)), (hts _ (List.mem_of_getElem? (i := 60) rfl))⟩ hK hN (hZ.kept hS) hP [] rfl (va_recv hK hP (ci := 5) (q0 := 2) rfl rfl) rfl hl.1 rfl (Nat.le_of_ble_eq_true rfl) dX7_line_97 ⟨Nat.le_of_ble_eq_true rfl, Nat.le_of_ble_eq_true rfl⟩ (fun r_33 hr_33 => ?_)
              obtain rfl := hr_33
              exact W.iret (v := 0) hx hb hr (fun t ht hW => ⟨⟨0, (), rfl, Or.inr (Or.inr (Or.inr (Or.inr (Or.inl (⟨rfl, (by first | omega | decide), (by first | omega | decide), (by first | omega | decide), (by first | omega | decide), (by first | omega | decide), (by first | omega | decide)⟩))))), zP_nil, zD_nil⟩, hS.F ht⟩) hS.2.2 dX7_line_100
            · have fc_32 : w.toInt = 1 := zf_eq c_32 rfl (by decide)
              refine lv_aload_n hx hb dX7_line_55 rfl (lv_at hl 0 rfl) ?_
              refine va_get (D := D) (ci := 7) (v := .ref w0) (C := RX7) (T := TX7) (N := 9) hx hb hts hi_X7_line_7 hown hK hP 0 rfl rfl 3 (by decide) (hts (.fieldLink RX7 28 "TheLiningsInIt" "ways" "LTheLiningsInIt$Ways;") (List.mem_of_getElem? (i := 1) rfl)) (fun _ h9 => h9) rfl dX7_line_56 ?_
              refine lv_iload_n hx hb dX7_line_59 rfl (lv_at hl 1 rfl) ?_
              refine lv_aload_n hx hb dX7_line_60 rfl (lv_at hl 0 rfl) ?_
              refine va_get (D := D) (ci := 7) (v := .ref j0) (C := RX7) (T := TX7) (N := 9) hx hb hts hi_X7_line_7 hown hK hP 0 rfl rfl 1 (by decide) (hts (.fieldLink RX7 18 "TheLiningsInIt" "now" "LTheLiningsInIt$Jacket;") (List.mem_of_getElem? (i := 2) rfl)) (fun _ h9 => h9) rfl dX7_line_61 ?_
              refine va_get (D := D) (ci := 0) (v := .int 0) (C := RX0) (T := TX0) (N := 9) hx hb hts hi_X7_line_0 hown hK hP 6 rfl rfl 4 (by decide) (hts (.fieldLink RX7 199 "TheLiningsInIt$Jacket" "depth" "I") (List.mem_of_getElem? (i := 4) rfl)) (fun _ h9 => h9) rfl dX7_line_64 ?_
              refine lv_aload_n hx hb dX7_line_67 rfl (lv_at hl 0 rfl) ?_
              refine va_get (D := D) (ci := 7) (v := .ref j0) (C := RX7) (T := TX7) (N := 9) hx hb hts hi_X7_line_7 hown hK hP 0 rfl rfl 1 (by decide) (hts (.fieldLink RX7 18 "TheLiningsInIt" "now" "LTheLiningsInIt$Jacket;") (List.mem_of_getElem? (i := 2) rfl)) (fun _ h9 => h9) rfl dX7_line_68 ?_
              refine va_get (D := D) (ci := 0) (v := .int 60) (C := RX0) (T := TX0) (N := 9) hx hb hts hi_X7_line_0 hown hK hP 6 rfl rfl 6 (by decide) (hts (.fieldLink RX7 202 "TheLiningsInIt$Jacket" "seconds" "I") (List.mem_of_getElem? (i := 5) rfl)) (fun _ h9 => h9) rfl dX7_line_71 ?_
              refine zc_V (As := [.int 0, .int 0, .int 60]) (rest := []) ⟨hx, hb, hml, hown, hts⟩ (c_first l D cI cJ cZ cP cS w0 (0) (60) ) (cwV 3 hts gX7_line_X5_first rfl rfl rfl (by decide +kernel) ⟨Nat.le_of_ble_eq_true rfl, Nat.le_of_ble_eq_true rfl⟩) hK hN (hZ.kept hS) hP [] rfl (va_recv hK hP (ci := 5) (q0 := 2) rfl rfl) rfl hl.1 rfl (Nat.le_of_ble_eq_true rfl) dX7_line_74 ⟨Nat.le_of_ble_eq_true rfl, Nat.le_of_ble_eq_true rfl⟩ (fun r_34 hr_34 => ?_)
              obtain rfl := hr_34
              exact W.iret (v := (-1)) hx hb hr (fun t ht hW => ⟨⟨(-1), (), rfl, Or.inr (Or.inr (Or.inr (Or.inr (Or.inr (Or.inl (⟨rfl, (by first | omega | decide), (by first | omega | decide), (by first | omega | decide), (by first | omega | decide), (by first | omega | decide), (by first | omega | decide)⟩)))))), zP_nil, zD_nil⟩, hS.F ht⟩) hS.2.2 dX7_line_77
          · refine lv_aload_n hx hb dX7_line_31 rfl (lv_at hl 0 rfl) ?_
            refine va_get (D := D) (ci := 7) (v := .ref w0) (C := RX7) (T := TX7) (N := 9) hx hb hts hi_X7_line_7 hown hK hP 0 rfl rfl 3 (by decide) (hts (.fieldLink RX7 28 "TheLiningsInIt" "ways" "LTheLiningsInIt$Ways;") (List.mem_of_getElem? (i := 1) rfl)) (fun _ h9 => h9) rfl dX7_line_32 ?_
            refine lv_aload_n hx hb dX7_line_35 rfl (lv_at hl 0 rfl) ?_
            refine va_get (D := D) (ci := 7) (v := .ref j0) (C := RX7) (T := TX7) (N := 9) hx hb hts hi_X7_line_7 hown hK hP 0 rfl rfl 1 (by decide) (hts (.fieldLink RX7 18 "TheLiningsInIt" "now" "LTheLiningsInIt$Jacket;") (List.mem_of_getElem? (i := 2) rfl)) (fun _ h9 => h9) rfl dX7_line_36 ?_
            refine lv_aload_n hx hb dX7_line_39 rfl (lv_at hl 0 rfl) ?_
            refine va_get (D := D) (ci := 7) (v := .ref j0) (C := RX7) (T := TX7) (N := 9) hx hb hts hi_X7_line_7 hown hK hP 0 rfl rfl 1 (by decide) (hts (.fieldLink RX7 18 "TheLiningsInIt" "now" "LTheLiningsInIt$Jacket;") (List.mem_of_getElem? (i := 2) rfl)) (fun _ h9 => h9) rfl dX7_line_40 ?_
            refine va_get (D := D) (ci := 0) (v := .int 0) (C := RX0) (T := TX0) (N := 9) hx hb hts hi_X7_line_0 hown hK hP 6 rfl rfl 7 (by decide) (hts (.fieldLink RX7 116 "TheLiningsInIt$Jacket" "hurry" "I") (List.mem_of_getElem? (i := 3) rfl)) (fun _ h9 => h9) rfl dX7_line_43 ?_
            refine lv_iconst (v := 1) hx hb dX7_line_46 (by decide) ?_
            skip
            refine zw_Vv (As := [.ref j0, .int 0, .int 1]) (rest := []) (wr := [(x0, .inr (7, [.ref xs, .ref j0, .ref k0, .ref w0, .ref rd, .ref mv, .ref xr, .int 0, .int (-1)])), (xr, .inl (cI, 8, .inl (fun _ => 0)))]) ⟨hx, hb, hml, hown, hts⟩ (c_look l D cI cJ cZ cP cS w0 wk wl wc wp j0 jp jc z0 0 0 fk fl fc (0) (0) (0) (0) (1)  H.size) (cwV 3 hts gX7_line_X5_look rfl rfl rfl (by decide +kernel) ⟨Nat.le_of_ble_eq_true rfl, Nat.le_of_ble_eq_true rfl⟩) hK hN (hZ.kept hS) hP hD hS hA [2, 3, 4, 5, 6, 7] [0, 1] rfl rfl (by decide) (by decide) (by decide) (va_recv hK hP (ci := 5) (q0 := 2) rfl rfl) rfl hl.1 rfl (Nat.le_of_ble_eq_true rfl) dX7_line_47 ⟨Nat.le_of_ble_eq_true rfl, Nat.le_of_ble_eq_true rfl⟩ (fun u_36 H locs hr_35 hP hD hS => ?_)
            obtain ⟨q_37, q_38, q_39⟩ := u_36
            replace hP : va_P D vwCl [(x0, .inr (7, [.ref xs, .ref j0, .ref k0, .ref w0, .ref rd, .ref mv, .ref xr, .int 0, .int (-1)])), (xr, .inl (cI, 8, .inl (fun _ => 0))), (w0, .inr (5, [.ref wk, .ref wl, .ref wc, .ref wp, .int 0, .int 0, .int 0])), (wk, .inl (cI, 125, .inl q_37)), (wl, .inl (cI, 125, .inl q_38)), (wc, .inl (cI, 3, .inl q_39)), (j0, .inr (0, [.ref z0, .ref jp, .ref jc, .int 0, .int 0, .int 0, .int 60, .int 0, .int 1])), (jc, .inl (cI, 3, .inl (zL3 5 10 50)))] H := hP
            replace hD : va_D _ [(x0, .inr (7, [.ref xs, .ref j0, .ref k0, .ref w0, .ref rd, .ref mv, .ref xr, .int 0, .int (-1)])), (xr, .inl (cI, 8, .inl (fun _ => 0))), (w0, .inr (5, [.ref wk, .ref wl, .ref wc, .ref wp, .int 0, .int 0, .int 0])), (wk, .inl (cI, 125, .inl q_37)), (wl, .inl (cI, 125, .inl q_38)), (wc, .inl (cI, 3, .inl q_39)), (j0, .inr (0, [.ref z0, .ref jp, .ref jc, .int 0, .int 0, .int 0, .int 60, .int 0, .int 1])), (jc, .inl (cI, 3, .inl (zL3 5 10 50)))] := hD
            refine lv_iload_n hx hb dX7_line_50 rfl (lv_at hl 2 rfl) ?_
            refine lv_iconst (v := 1) hx hb dX7_line_51 (by decide) ?_
            refine lv_icmp_ne (tgt := 78) hx hb dX7_line_52 (by decide) (fun c_40 => ?_) (fun c_40 => ?_)
            · have fc_40 : w.toInt ≠ 1 := zf_ne c_40 rfl (by decide)
              refine lv_aload_n hx hb dX7_line_78 rfl (lv_at hl 0 rfl) ?_
              refine va_get (D := D) (ci := 7) (v := .ref w0) (C := RX7) (T := TX7) (N := 9) hx hb hts hi_X7_line_7 hown hK hP 0 rfl rfl 3 (by decide) (hts (.fieldLink RX7 28 "TheLiningsInIt" "ways" "LTheLiningsInIt$Ways;") (List.mem_of_getElem? (i := 1) rfl)) (fun _ h9 => h9) rfl dX7_line_79 ?_
              refine lv_iload_n hx hb dX7_line_82 rfl (lv_at hl 1 rfl) ?_
              refine lv_aload_n hx hb dX7_line_83 rfl (lv_at hl 0 rfl) ?_
              refine va_get (D := D) (ci := 7) (v := .ref j0) (C := RX7) (T := TX7) (N := 9) hx hb hts hi_X7_line_7 hown hK hP 0 rfl rfl 1 (by decide) (hts (.fieldLink RX7 18 "TheLiningsInIt" "now" "LTheLiningsInIt$Jacket;") (List.mem_of_getElem? (i := 2) rfl)) (fun _ h9 => h9) rfl dX7_line_84 ?_
              refine va_get (D := D) (ci := 0) (v := .int 0) (C := RX0) (T := TX0) (N := 9) hx hb hts hi_X7_line_0 hown hK hP 6 rfl rfl 4 (by decide) (hts (.fieldLink RX7 199 "TheLiningsInIt$Jacket" "depth" "I") (List.mem_of_getElem? (i := 4) rfl)) (fun _ h9 => h9) rfl dX7_line_87 ?_
              refine lv_aload_n hx hb dX7_line_90 rfl (lv_at hl 0 rfl) ?_
              refine va_get (D := D) (ci := 7) (v := .ref j0) (C := RX7) (T := TX7) (N := 9) hx hb hts hi_X7_line_7 hown hK hP 0 rfl rfl 1 (by decide) (hts (.fieldLink RX7 18 "TheLiningsInIt" "now" "LTheLiningsInIt$Jacket;") (List.mem_of_getElem? (i := 2) rfl)) (fun _ h9 => h9) rfl dX7_line_91 ?_
              refine va_get (D := D) (ci := 0) (v := .int 60) (C := RX0) (T := TX0) (N := 9) hx hb hts hi_X7_line_0 hown hK hP 6 rfl rfl 6 (by decide) (hts (.fieldLink RX7 202 "TheLiningsInIt$Jacket" "seconds" "I") (List.mem_of_getElem? (i := 5) rfl)) (fun _ h9 => h9) rfl dX7_line_94 ?_
              refine zc_VN (As := [.int 1, .int 0, .int 60]) (rest := []) ⟨hx, hb, hml, hown, hts⟩ (c_least_1 l D cI cJ cZ cP cS w0 (60) ) ⟨(va_cnB 3 hts gX7_line_X5_least_n214 rfl rfl rfl (hN.1 (RX7, 214, yX5_least) (List.mem_of_getElem? (i := 11) rfl)) (hts _ (List.mem_of_getElem? (i := 22) rfl)) (by decide +kernel) ⟨Nat.le_of_ble_eq_true rfl, Nat.le_of_ble_eq_true rfl⟩), (hts _ (List.mem_of_getElem? (i := 59) rfl)), (hts _ (List.mem_of_getElem? (i := 60) rfl))⟩ hK hN (hZ.kept hS) hP [] rfl (va_recv hK hP (ci := 5) (q0 := 2) rfl rfl) rfl hl.1 rfl (Nat.le_of_ble_eq_true rfl) dX7_line_97 ⟨Nat.le_of_ble_eq_true rfl, Nat.le_of_ble_eq_true rfl⟩ (fun r_41 hr_41 => ?_)
              obtain rfl := hr_41
              exact W.iret (v := 0) hx hb hr (fun t ht hW => ⟨⟨0, (), rfl, Or.inr (Or.inr (Or.inr (Or.inr (Or.inr (Or.inr (Or.inl (⟨rfl, (by first | omega | decide), (by first | omega | decide), (by first | omega | decide), (by first | omega | decide), (by first | omega | decide), (by first | omega | decide)⟩))))))), zP_nil, zD_nil⟩, hS.F ht⟩) hS.2.2 dX7_line_100
            · have fc_40 : w.toInt = 1 := zf_eq c_40 rfl (by decide)
              refine lv_aload_n hx hb dX7_line_55 rfl (lv_at hl 0 rfl) ?_
              refine va_get (D := D) (ci := 7) (v := .ref w0) (C := RX7) (T := TX7) (N := 9) hx hb hts hi_X7_line_7 hown hK hP 0 rfl rfl 3 (by decide) (hts (.fieldLink RX7 28 "TheLiningsInIt" "ways" "LTheLiningsInIt$Ways;") (List.mem_of_getElem? (i := 1) rfl)) (fun _ h9 => h9) rfl dX7_line_56 ?_
              refine lv_iload_n hx hb dX7_line_59 rfl (lv_at hl 1 rfl) ?_
              refine lv_aload_n hx hb dX7_line_60 rfl (lv_at hl 0 rfl) ?_
              refine va_get (D := D) (ci := 7) (v := .ref j0) (C := RX7) (T := TX7) (N := 9) hx hb hts hi_X7_line_7 hown hK hP 0 rfl rfl 1 (by decide) (hts (.fieldLink RX7 18 "TheLiningsInIt" "now" "LTheLiningsInIt$Jacket;") (List.mem_of_getElem? (i := 2) rfl)) (fun _ h9 => h9) rfl dX7_line_61 ?_
              refine va_get (D := D) (ci := 0) (v := .int 0) (C := RX0) (T := TX0) (N := 9) hx hb hts hi_X7_line_0 hown hK hP 6 rfl rfl 4 (by decide) (hts (.fieldLink RX7 199 "TheLiningsInIt$Jacket" "depth" "I") (List.mem_of_getElem? (i := 4) rfl)) (fun _ h9 => h9) rfl dX7_line_64 ?_
              refine lv_aload_n hx hb dX7_line_67 rfl (lv_at hl 0 rfl) ?_
              refine va_get (D := D) (ci := 7) (v := .ref j0) (C := RX7) (T := TX7) (N := 9) hx hb hts hi_X7_line_7 hown hK hP 0 rfl rfl 1 (by decide) (hts (.fieldLink RX7 18 "TheLiningsInIt" "now" "LTheLiningsInIt$Jacket;") (List.mem_of_getElem? (i := 2) rfl)) (fun _ h9 => h9) rfl dX7_line_68 ?_
              refine va_get (D := D) (ci := 0) (v := .int 60) (C := RX0) (T := TX0) (N := 9) hx hb hts hi_X7_line_0 hown hK hP 6 rfl rfl 6 (by decide) (hts (.fieldLink RX7 202 "TheLiningsInIt$Jacket" "seconds" "I") (List.mem_of_getElem? (i := 5) rfl)) (fun _ h9 => h9) rfl dX7_line_71 ?_
              refine zc_V (As := [.int 1, .int 0, .int 60]) (rest := []) ⟨hx, hb, hml, hown, hts⟩ (c_first l D cI cJ cZ cP cS w0 (1) (60) ) (cwV 3 hts gX7_line_X5_first rfl rfl rfl (by decide +kernel) ⟨Nat.le_of_ble_eq_true rfl, Nat.le_of_ble_eq_true rfl⟩) hK hN (hZ.kept hS) hP [] rfl (va_recv hK hP (ci := 5) (q0 := 2) rfl rfl) rfl hl.1 rfl (Nat.le_of_ble_eq_true rfl) dX7_line_74 ⟨Nat.le_of_ble_eq_true rfl, Nat.le_of_ble_eq_true rfl⟩ (fun r_42 hr_42 => ?_)
              obtain rfl := hr_42
              exact W.iret (v := (-1)) hx hb hr (fun t ht hW => ⟨⟨(-1), (), rfl, Or.inr (Or.inr (Or.inr (Or.inr (Or.inr (Or.inr (Or.inr (Or.inl (⟨rfl, (by first | omega | decide), (by first | omega | decide), (by first | omega | decide), (by first | omega | decide), (by first | omega | decide), (by first | omega | decide)⟩)))))))), zP_nil, zD_nil⟩, hS.F ht⟩) hS.2.2 dX7_line_77
          · refine lv_aload_n hx hb dX7_line_31 rfl (lv_at hl 0 rfl) ?_
            refine va_get (D := D) (ci := 7) (v := .ref w0) (C := RX7) (T := TX7) (N := 9) hx hb hts hi_X7_line_7 hown hK hP 0 rfl rfl 3 (by decide) (hts (.fieldLink RX7 28 "TheLiningsInIt" "ways" "LTheLiningsInIt$Ways;") (List.mem_of_getElem? (i := 1) rfl)) (fun _ h9 => h9) rfl dX7_line_32 ?_
            refine lv_aload_n hx hb dX7_line_35 rfl (lv_at hl 0 rfl) ?_
            refine va_get (D := D) (ci := 7) (v := .ref j0) (C := RX7) (T := TX7) (N := 9) hx hb hts hi_X7_line_7 hown hK hP 0 rfl rfl 1 (by decide) (hts (.fieldLink RX7 18 "TheLiningsInIt" "now" "LTheLiningsInIt$Jacket;") (List.mem_of_getElem? (i := 2) rfl)) (fun _ h9 => h9) rfl dX7_line_36 ?_
            refine lv_aload_n hx hb dX7_line_39 rfl (lv_at hl 0 rfl) ?_
            refine va_get (D := D) (ci := 7) (v := .ref j0) (C := RX7) (T := TX7) (N := 9) hx hb hts hi_X7_line_7 hown hK hP 0 rfl rfl 1 (by decide) (hts (.fieldLink RX7 18 "TheLiningsInIt" "now" "LTheLiningsInIt$Jacket;") (List.mem_of_getElem? (i := 2) rfl)) (fun _ h9 => h9) rfl dX7_line_40 ?_
            refine va_get (D := D) (ci := 0) (v := .int 0) (C := RX0) (T := TX0) (N := 9) hx hb hts hi_X7_line_0 hown hK hP 6 rfl rfl 7 (by decide) (hts (.fieldLink RX7 116 "TheLiningsInIt$Jacket" "hurry" "I") (List.mem_of_getElem? (i := 3) rfl)) (fun _ h9 => h9) rfl dX7_line_43 ?_
            refine lv_iconst (v := 1) hx hb dX7_line_46 (by decide) ?_
            skip
            refine zw_Vv (As := [.ref j0, .int 0, .int 1]) (rest := []) (wr := [(x0, .inr (7, [.ref xs, .ref j0, .ref k0, .ref w0, .ref rd, .ref mv, .ref xr, .int 0, .int (-1)])), (xr, .inl (cI, 8, .inl (fun _ => 0)))]) ⟨hx, hb, hml, hown, hts⟩ (c_look l D cI cJ cZ cP cS w0 wk wl wc wp j0 jp jc z0 0 0 fk fl fc (0) (0) (0) (0) (1)  H.size) (cwV 3 hts gX7_line_X5_look rfl rfl rfl (by decide +kernel) ⟨Nat.le_of_ble_eq_true rfl, Nat.le_of_ble_eq_true rfl⟩) hK hN (hZ.kept hS) hP hD hS hA [2, 3, 4, 5, 6, 7] [0, 1] rfl rfl (by decide) (by decide) (by decide) (va_recv hK hP (ci := 5) (q0 := 2) rfl rfl) rfl hl.1 rfl (Nat.le_of_ble_eq_true rfl) dX7_line_47 ⟨Nat.le_of_ble_eq_true rfl, Nat.le_of_ble_eq_true rfl⟩ (fun u_44 H locs hr_43 hP hD hS => ?_)
            obtain ⟨q_45, q_46, q_47⟩ := u_44
            replace hP : va_P D vwCl [(x0, .inr (7, [.ref xs, .ref j0, .ref k0, .ref w0, .ref rd, .ref mv, .ref xr, .int 0, .int (-1)])), (xr, .inl (cI, 8, .inl (fun _ => 0))), (w0, .inr (5, [.ref wk, .ref wl, .ref wc, .ref wp, .int 0, .int 0, .int 0])), (wk, .inl (cI, 125, .inl q_45)), (wl, .inl (cI, 125, .inl q_46)), (wc, .inl (cI, 3, .inl q_47)), (j0, .inr (0, [.ref z0, .ref jp, .ref jc, .int 0, .int 0, .int 0, .int 60, .int 0, .int 1])), (jc, .inl (cI, 3, .inl (zL3 5 10 50)))] H := hP
            replace hD : va_D _ [(x0, .inr (7, [.ref xs, .ref j0, .ref k0, .ref w0, .ref rd, .ref mv, .ref xr, .int 0, .int (-1)])), (xr, .inl (cI, 8, .inl (fun _ => 0))), (w0, .inr (5, [.ref wk, .ref wl, .ref wc, .ref wp, .int 0, .int 0, .int 0])), (wk, .inl (cI, 125, .inl q_45)), (wl, .inl (cI, 125, .inl q_46)), (wc, .inl (cI, 3, .inl q_47)), (j0, .inr (0, [.ref z0, .ref jp, .ref jc, .int 0, .int 0, .int 0, .int 60, .int 0, .int 1])), (jc, .inl (cI, 3, .inl (zL3 5 10 50)))] := hD
            refine lv_iload_n hx hb dX7_line_50 rfl (lv_at hl 2 rfl) ?_
            refine lv_iconst (v := 1) hx hb dX7_line_51 (by decide) ?_
            refine lv_icmp_ne (tgt := 78) hx hb dX7_line_52 (by decide) (fun c_48 => ?_) (fun c_48 => ?_)
            · have fc_48 : w.toInt ≠ 1 := zf_ne c_48 rfl (by decide)
              refine lv_aload_n hx hb dX7_line_78 rfl (lv_at hl 0 rfl) ?_
              refine va_get (D := D) (ci := 7) (v := .ref w0) (C := RX7) (T := TX7) (N := 9) hx hb hts hi_X7_line_7 hown hK hP 0 rfl rfl 3 (by decide) (hts (.fieldLink RX7 28 "TheLiningsInIt" "ways" "LTheLiningsInIt$Ways;") (List.mem_of_getElem? (i := 1) rfl)) (fun _ h9 => h9) rfl dX7_line_79 ?_
              refine lv_iload_n hx hb dX7_line_82 rfl (lv_at hl 1 rfl) ?_
              refine lv_aload_n hx hb dX7_line_83 rfl (lv_at hl 0 rfl) ?_
              refine va_get (D := D) (ci := 7) (v := .ref j0) (C := RX7) (T := TX7) (N := 9) hx hb hts hi_X7_line_7 hown hK hP 0 rfl rfl 1 (by decide) (hts (.fieldLink RX7 18 "TheLiningsInIt" "now" "LTheLiningsInIt$Jacket;") (List.mem_of_getElem? (i := 2) rfl)) (fun _ h9 => h9) rfl dX7_line_84 ?_
              refine va_get (D := D) (ci := 0) (v := .int 0) (C := RX0) (T := TX0) (N := 9) hx hb hts hi_X7_line_0 hown hK hP 6 rfl rfl 4 (by decide) (hts (.fieldLink RX7 199 "TheLiningsInIt$Jacket" "depth" "I") (List.mem_of_getElem? (i := 4) rfl)) (fun _ h9 => h9) rfl dX7_line_87 ?_
              refine lv_aload_n hx hb dX7_line_90 rfl (lv_at hl 0 rfl) ?_
              refine va_get (D := D) (ci := 7) (v := .ref j0) (C := RX7) (T := TX7) (N := 9) hx hb hts hi_X7_line_7 hown hK hP 0 rfl rfl 1 (by decide) (hts (.fieldLink RX7 18 "TheLiningsInIt" "now" "LTheLiningsInIt$Jacket;") (List.mem_of_getElem? (i := 2) rfl)) (fun _ h9 => h9) rfl dX7_line_91 ?_
              refine va_get (D := D) (ci := 0) (v := .int 60) (C := RX0) (T := TX0) (N := 9) hx hb hts hi_X7_line_0 hown hK hP 6 rfl rfl 6 (by decide) (hts (.fieldLink RX7 202 "TheLiningsInIt$Jacket" "seconds" "I") (List.mem_of_getElem? (i := 5) rfl)) (fun _ h9 => h9) rfl dX7_line_94 ?_
              refine zc_VN (As := [.int 2, .int 0, .int 60]) (rest := []) ⟨hx, hb, hml, hown, hts⟩ (c_least_2 l D cI cJ cZ cP cS w0 (60) ) ⟨(va_cnB 3 hts gX7_line_X5_least_n214 rfl rfl rfl (hN.1 (RX7, 214, yX5_least) (List.mem_of_getElem? (i := 11) rfl)) (hts _ (List.mem_of_getElem? (i := 22) rfl)) (by decide +kernel) ⟨Nat.le_of_ble_eq_true rfl, Nat.le_of_ble_eq_true rfl⟩), (hts _ (List.mem_of_getElem? (i := 59) rfl)), (hts _ (List.mem_of_getElem? (i := 60) rfl))⟩ hK hN (hZ.kept hS) hP [] rfl (va_recv hK hP (ci := 5) (q0 := 2) rfl rfl) rfl hl.1 rfl (Nat.le_of_ble_eq_true rfl) dX7_line_97 ⟨Nat.le_of_ble_eq_true rfl, Nat.le_of_ble_eq_true rfl⟩ (fun r_49 hr_49 => ?_)
              obtain rfl := hr_49
              exact W.iret (v := 0) hx hb hr (fun t ht hW => ⟨⟨0, (), rfl, Or.inr (Or.inr (Or.inr (Or.inr (Or.inr (Or.inr (Or.inr (Or.inr (Or.inl (⟨rfl, (by first | omega | decide), (by first | omega | decide), (by first | omega | decide), (by first | omega | decide), (by first | omega | decide), (by first | omega | decide)⟩))))))))), zP_nil, zD_nil⟩, hS.F ht⟩) hS.2.2 dX7_line_100
            · have fc_48 : w.toInt = 1 := zf_eq c_48 rfl (by decide)
              refine lv_aload_n hx hb dX7_line_55 rfl (lv_at hl 0 rfl) ?_
              refine va_get (D := D) (ci := 7) (v := .ref w0) (C := RX7) (T := TX7) (N := 9) hx hb hts hi_X7_line_7 hown hK hP 0 rfl rfl 3 (by decide) (hts (.fieldLink RX7 28 "TheLiningsInIt" "ways" "LTheLiningsInIt$Ways;") (List.mem_of_getElem? (i := 1) rfl)) (fun _ h9 => h9) rfl dX7_line_56 ?_
              refine lv_iload_n hx hb dX7_line_59 rfl (lv_at hl 1 rfl) ?_
              refine lv_aload_n hx hb dX7_line_60 rfl (lv_at hl 0 rfl) ?_
              refine va_get (D := D) (ci := 7) (v := .ref j0) (C := RX7) (T := TX7) (N := 9) hx hb hts hi_X7_line_7 hown hK hP 0 rfl rfl 1 (by decide) (hts (.fieldLink RX7 18 "TheLiningsInIt" "now" "LTheLiningsInIt$Jacket;") (List.mem_of_getElem? (i := 2) rfl)) (fun _ h9 => h9) rfl dX7_line_61 ?_
              refine va_get (D := D) (ci := 0) (v := .int 0) (C := RX0) (T := TX0) (N := 9) hx hb hts hi_X7_line_0 hown hK hP 6 rfl rfl 4 (by decide) (hts (.fieldLink RX7 199 "TheLiningsInIt$Jacket" "depth" "I") (List.mem_of_getElem? (i := 4) rfl)) (fun _ h9 => h9) rfl dX7_line_64 ?_
              refine lv_aload_n hx hb dX7_line_67 rfl (lv_at hl 0 rfl) ?_
              refine va_get (D := D) (ci := 7) (v := .ref j0) (C := RX7) (T := TX7) (N := 9) hx hb hts hi_X7_line_7 hown hK hP 0 rfl rfl 1 (by decide) (hts (.fieldLink RX7 18 "TheLiningsInIt" "now" "LTheLiningsInIt$Jacket;") (List.mem_of_getElem? (i := 2) rfl)) (fun _ h9 => h9) rfl dX7_line_68 ?_
              refine va_get (D := D) (ci := 0) (v := .int 60) (C := RX0) (T := TX0) (N := 9) hx hb hts hi_X7_line_0 hown hK hP 6 rfl rfl 6 (by decide) (hts (.fieldLink RX7 202 "TheLiningsInIt$Jacket" "seconds" "I") (List.mem_of_getElem? (i := 5) rfl)) (fun _ h9 => h9) rfl dX7_line_71 ?_
              refine zc_V (As := [.int 2, .int 0, .int 60]) (rest := []) ⟨hx, hb, hml, hown, hts⟩ (c_first l D cI cJ cZ cP cS w0 (2) (60) ) (cwV 3 hts gX7_line_X5_first rfl rfl rfl (by decide +kernel) ⟨Nat.le_of_ble_eq_true rfl, Nat.le_of_ble_eq_true rfl⟩) hK hN (hZ.kept hS) hP [] rfl (va_recv hK hP (ci := 5) (q0 := 2) rfl rfl) rfl hl.1 rfl (Nat.le_of_ble_eq_true rfl) dX7_line_74 ⟨Nat.le_of_ble_eq_true rfl, Nat.le_of_ble_eq_true rfl⟩ (fun r_50 hr_50 => ?_)
              obtain rfl := hr_50
              exact W.iret (v := (-1)) hx hb hr (fun t ht hW => ⟨⟨(-1), (), rfl, Or.inr (Or.inr (Or.inr (Or.inr (Or.inr (Or.inr (Or.inr (Or.inr (Or.inr (Or.inl (⟨rfl, (by first | omega | decide), (by first | omega | decide), (by first | omega | decide), (by first | omega | decide), (by first | omega | decide), (by first | omega | decide)⟩)))))))))), zP_nil, zD_nil⟩, hS.F ht⟩) hS.2.2 dX7_line_77
          · refine lv_aload_n hx hb dX7_line_31 rfl (lv_at hl 0 rfl) ?_
            refine va_get (D := D) (ci := 7) (v := .ref w0) (C := RX7) (T := TX7) (N := 9) hx hb hts hi_X7_line_7 hown hK hP 0 rfl rfl 3 (by decide) (hts (.fieldLink RX7 28 "TheLiningsInIt" "ways" "LTheLiningsInIt$Ways;") (List.mem_of_getElem? (i := 1) rfl)) (fun _ h9 => h9) rfl dX7_line_32 ?_
            refine lv_aload_n hx hb dX7_line_35 rfl (lv_at hl 0 rfl) ?_
            refine va_get (D := D) (ci := 7) (v := .ref j0) (C := RX7) (T := TX7) (N := 9) hx hb hts hi_X7_line_7 hown hK hP 0 rfl rfl 1 (by decide) (hts (.fieldLink RX7 18 "TheLiningsInIt" "now" "LTheLiningsInIt$Jacket;") (List.mem_of_getElem? (i := 2) rfl)) (fun _ h9 => h9) rfl dX7_line_36 ?_
            refine lv_aload_n hx hb dX7_line_39 rfl (lv_at hl 0 rfl) ?_
            refine va_get (D := D) (ci := 7) (v := .ref j0) (C := RX7) (T := TX7) (N := 9) hx hb hts hi_X7_line_7 hown hK hP 0 rfl rfl 1 (by decide) (hts (.fieldLink RX7 18 "TheLiningsInIt" "now" "LTheLiningsInIt$Jacket;") (List.mem_of_getElem? (i := 2) rfl)) (fun _ h9 => h9) rfl dX7_line_40 ?_
            refine va_get (D := D) (ci := 0) (v := .int 0) (C := RX0) (T := TX0) (N := 9) hx hb hts hi_X7_line_0 hown hK hP 6 rfl rfl 7 (by decide) (hts (.fieldLink RX7 116 "TheLiningsInIt$Jacket" "hurry" "I") (List.mem_of_getElem? (i := 3) rfl)) (fun _ h9 => h9) rfl dX7_line_43 ?_
            refine lv_iconst (v := 1) hx hb dX7_line_46 (by decide) ?_
            skip
            refine zw_Vv (As := [.ref j0, .int 0, .int 1]) (rest := []) (wr := [(x0, .inr (7, [.ref xs, .ref j0, .ref k0, .ref w0, .ref rd, .ref mv, .ref xr, .int 0, .int (-1)])), (xr, .inl (cI, 8, .inl (fun _ => 0)))]) ⟨hx, hb, hml, hown, hts⟩ (c_look l D cI cJ cZ cP cS w0 wk wl wc wp j0 jp jc z0 0 0 fk fl fc (0) (0) (0) (0) (1)  H.size) (cwV 3 hts gX7_line_X5_look rfl rfl rfl (by decide +kernel) ⟨Nat.le_of_ble_eq_true rfl, Nat.le_of_ble_eq_true rfl⟩) hK hN (hZ.kept hS) hP hD hS hA [2, 3, 4, 5, 6, 7] [0, 1] rfl rfl (by decide) (by decide) (by decide) (va_recv hK hP (ci := 5) (q0 := 2) rfl rfl) rfl hl.1 rfl (Nat.le_of_ble_eq_true rfl) dX7_line_47 ⟨Nat.le_of_ble_eq_true rfl, Nat.le_of_ble_eq_true rfl⟩ (fun u_52 H locs hr_51 hP hD hS => ?_)
            obtain ⟨q_53, q_54, q_55⟩ := u_52
            replace hP : va_P D vwCl [(x0, .inr (7, [.ref xs, .ref j0, .ref k0, .ref w0, .ref rd, .ref mv, .ref xr, .int 0, .int (-1)])), (xr, .inl (cI, 8, .inl (fun _ => 0))), (w0, .inr (5, [.ref wk, .ref wl, .ref wc, .ref wp, .int 0, .int 0, .int 0])), (wk, .inl (cI, 125, .inl q_53)), (wl, .inl (cI, 125, .inl q_54)), (wc, .inl (cI, 3, .inl q_55)), (j0, .inr (0, [.ref z0, .ref jp, .ref jc, .int 0, .int 0, .int 0, .int 60, .int 0, .int 1])), (jc, .inl (cI, 3, .inl (zL3 5 10 50)))] H := hP
            replace hD : va_D _ [(x0, .inr (7, [.ref xs, .ref j0, .ref k0, .ref w0, .ref rd, .ref mv, .ref xr, .int 0, .int (-1)])), (xr, .inl (cI, 8, .inl (fun _ => 0))), (w0, .inr (5, [.ref wk, .ref wl, .ref wc, .ref wp, .int 0, .int 0, .int 0])), (wk, .inl (cI, 125, .inl q_53)), (wl, .inl (cI, 125, .inl q_54)), (wc, .inl (cI, 3, .inl q_55)), (j0, .inr (0, [.ref z0, .ref jp, .ref jc, .int 0, .int 0, .int 0, .int 60, .int 0, .int 1])), (jc, .inl (cI, 3, .inl (zL3 5 10 50)))] := hD
            refine lv_iload_n hx hb dX7_line_50 rfl (lv_at hl 2 rfl) ?_
            refine lv_iconst (v := 1) hx hb dX7_line_51 (by decide) ?_
            refine lv_icmp_ne (tgt := 78) hx hb dX7_line_52 (by decide) (fun c_56 => ?_) (fun c_56 => ?_)
            · have fc_56 : w.toInt ≠ 1 := zf_ne c_56 rfl (by decide)
              refine lv_aload_n hx hb dX7_line_78 rfl (lv_at hl 0 rfl) ?_
              refine va_get (D := D) (ci := 7) (v := .ref w0) (C := RX7) (T := TX7) (N := 9) hx hb hts hi_X7_line_7 hown hK hP 0 rfl rfl 3 (by decide) (hts (.fieldLink RX7 28 "TheLiningsInIt" "ways" "LTheLiningsInIt$Ways;") (List.mem_of_getElem? (i := 1) rfl)) (fun _ h9 => h9) rfl dX7_line_79 ?_
              refine lv_iload_n hx hb dX7_line_82 rfl (lv_at hl 1 rfl) ?_
              refine lv_aload_n hx hb dX7_line_83 rfl (lv_at hl 0 rfl) ?_
              refine va_get (D := D) (ci := 7) (v := .ref j0) (C := RX7) (T := TX7) (N := 9) hx hb hts hi_X7_line_7 hown hK hP 0 rfl rfl 1 (by decide) (hts (.fieldLink RX7 18 "TheLiningsInIt" "now" "LTheLiningsInIt$Jacket;") (List.mem_of_getElem? (i := 2) rfl)) (fun _ h9 => h9) rfl dX7_line_84 ?_
              refine va_get (D := D) (ci := 0) (v := .int 0) (C := RX0) (T := TX0) (N := 9) hx hb hts hi_X7_line_0 hown hK hP 6 rfl rfl 4 (by decide) (hts (.fieldLink RX7 199 "TheLiningsInIt$Jacket" "depth" "I") (List.mem_of_getElem? (i := 4) rfl)) (fun _ h9 => h9) rfl dX7_line_87 ?_
              refine lv_aload_n hx hb dX7_line_90 rfl (lv_at hl 0 rfl) ?_
              refine va_get (D := D) (ci := 7) (v := .ref j0) (C := RX7) (T := TX7) (N := 9) hx hb hts hi_X7_line_7 hown hK hP 0 rfl rfl 1 (by decide) (hts (.fieldLink RX7 18 "TheLiningsInIt" "now" "LTheLiningsInIt$Jacket;") (List.mem_of_getElem? (i := 2) rfl)) (fun _ h9 => h9) rfl dX7_line_91 ?_
              refine va_get (D := D) (ci := 0) (v := .int 60) (C := RX0) (T := TX0) (N := 9) hx hb hts hi_X7_line_0 hown hK hP 6 rfl rfl 6 (by decide) (hts (.fieldLink RX7 202 "TheLiningsInIt$Jacket" "seconds" "I") (List.mem_of_getElem? (i := 5) rfl)) (fun _ h9 => h9) rfl dX7_line_94 ?_
              refine zc_VN (As := [.int 3, .int 0, .int 60]) (rest := []) ⟨hx, hb, hml, hown, hts⟩ (c_least_3 l D cI cJ cZ cP cS w0 (60) ) ⟨(va_cnB 3 hts gX7_line_X5_least_n214 rfl rfl rfl (hN.1 (RX7, 214, yX5_least) (List.mem_of_getElem? (i := 11) rfl)) (hts _ (List.mem_of_getElem? (i := 22) rfl)) (by decide +kernel) ⟨Nat.le_of_ble_eq_true rfl, Nat.le_of_ble_eq_true rfl⟩), (hts _ (List.mem_of_getElem? (i := 59) rfl)), (hts _ (List.mem_of_getElem? (i := 60) rfl))⟩ hK hN (hZ.kept hS) hP [] rfl (va_recv hK hP (ci := 5) (q0 := 2) rfl rfl) rfl hl.1 rfl (Nat.le_of_ble_eq_true rfl) dX7_line_97 ⟨Nat.le_of_ble_eq_true rfl, Nat.le_of_ble_eq_true rfl⟩ (fun r_57 hr_57 => ?_)
              obtain rfl := hr_57
              exact W.iret (v := 0) hx hb hr (fun t ht hW => ⟨⟨0, (), rfl, Or.inr (Or.inr (Or.inr (Or.inr (Or.inr (Or.inr (Or.inr (Or.inr (Or.inr (Or.inr (Or.inl (⟨rfl, (by first | omega | decide), (by first | omega | decide), (by first | omega | decide), (by first | omega | decide), (by first | omega | decide), (by first | omega | decide)⟩))))))))))), zP_nil, zD_nil⟩, hS.F ht⟩) hS.2.2 dX7_line_100
            · have fc_56 : w.toInt = 1 := zf_eq c_56 rfl (by decide)
              refine lv_aload_n hx hb dX7_line_55 rfl (lv_at hl 0 rfl) ?_
              refine va_get (D := D) (ci := 7) (v := .ref w0) (C := RX7) (T := TX7) (N := 9) hx hb hts hi_X7_line_7 hown hK hP 0 rfl rfl 3 (by decide) (hts (.fieldLink RX7 28 "TheLiningsInIt" "ways" "LTheLiningsInIt$Ways;") (List.mem_of_getElem? (i := 1) rfl)) (fun _ h9 => h9) rfl dX7_line_56 ?_
              refine lv_iload_n hx hb dX7_line_59 rfl (lv_at hl 1 rfl) ?_
              refine lv_aload_n hx hb dX7_line_60 rfl (lv_at hl 0 rfl) ?_
              refine va_get (D := D) (ci := 7) (v := .ref j0) (C := RX7) (T := TX7) (N := 9) hx hb hts hi_X7_line_7 hown hK hP 0 rfl rfl 1 (by decide) (hts (.fieldLink RX7 18 "TheLiningsInIt" "now" "LTheLiningsInIt$Jacket;") (List.mem_of_getElem? (i := 2) rfl)) (fun _ h9 => h9) rfl dX7_line_61 ?_
              refine va_get (D := D) (ci := 0) (v := .int 0) (C := RX0) (T := TX0) (N := 9) hx hb hts hi_X7_line_0 hown hK hP 6 rfl rfl 4 (by decide) (hts (.fieldLink RX7 199 "TheLiningsInIt$Jacket" "depth" "I") (List.mem_of_getElem? (i := 4) rfl)) (fun _ h9 => h9) rfl dX7_line_64 ?_
              refine lv_aload_n hx hb dX7_line_67 rfl (lv_at hl 0 rfl) ?_
              refine va_get (D := D) (ci := 7) (v := .ref j0) (C := RX7) (T := TX7) (N := 9) hx hb hts hi_X7_line_7 hown hK hP 0 rfl rfl 1 (by decide) (hts (.fieldLink RX7 18 "TheLiningsInIt" "now" "LTheLiningsInIt$Jacket;") (List.mem_of_getElem? (i := 2) rfl)) (fun _ h9 => h9) rfl dX7_line_68 ?_
              refine va_get (D := D) (ci := 0) (v := .int 60) (C := RX0) (T := TX0) (N := 9) hx hb hts hi_X7_line_0 hown hK hP 6 rfl rfl 6 (by decide) (hts (.fieldLink RX7 202 "TheLiningsInIt$Jacket" "seconds" "I") (List.mem_of_getElem? (i := 5) rfl)) (fun _ h9 => h9) rfl dX7_line_71 ?_
              refine zc_V (As := [.int 3, .int 0, .int 60]) (rest := []) ⟨hx, hb, hml, hown, hts⟩ (c_first l D cI cJ cZ cP cS w0 (3) (60) ) (cwV 3 hts gX7_line_X5_first rfl rfl rfl (by decide +kernel) ⟨Nat.le_of_ble_eq_true rfl, Nat.le_of_ble_eq_true rfl⟩) hK hN (hZ.kept hS) hP [] rfl (va_recv hK hP (ci := 5) (q0 := 2) rfl rfl) rfl hl.1 rfl (Nat.le_of_ble_eq_true rfl) dX7_line_74 ⟨Nat.le_of_ble_eq_true rfl, Nat.le_of_ble_eq_true rfl⟩ (fun r_58 hr_58 => ?_)
              obtain rfl := hr_58
              exact W.iret (v := (-1)) hx hb hr (fun t ht hW => ⟨⟨(-1), (), rfl, Or.inr (Or.inr (Or.inr (Or.inr (Or.inr (Or.inr (Or.inr (Or.inr (Or.inr (Or.inr (Or.inr (Or.inl (⟨rfl, (by first | omega | decide), (by first | omega | decide), (by first | omega | decide), (by first | omega | decide), (by first | omega | decide), (by first | omega | decide)⟩)))))))))))), zP_nil, zD_nil⟩, hS.F ht⟩) hS.2.2 dX7_line_77
          · refine lv_aload_n hx hb dX7_line_31 rfl (lv_at hl 0 rfl) ?_
            refine va_get (D := D) (ci := 7) (v := .ref w0) (C := RX7) (T := TX7) (N := 9) hx hb hts hi_X7_line_7 hown hK hP 0 rfl rfl 3 (by decide) (hts (.fieldLink RX7 28 "TheLiningsInIt" "ways" "LTheLiningsInIt$Ways;") (List.mem_of_getElem? (i := 1) rfl)) (fun _ h9 => h9) rfl dX7_line_32 ?_
            refine lv_aload_n hx hb dX7_line_35 rfl (lv_at hl 0 rfl) ?_
            refine va_get (D := D) (ci := 7) (v := .ref j0) (C := RX7) (T := TX7) (N := 9) hx hb hts hi_X7_line_7 hown hK hP 0 rfl rfl 1 (by decide) (hts (.fieldLink RX7 18 "TheLiningsInIt" "now" "LTheLiningsInIt$Jacket;") (List.mem_of_getElem? (i := 2) rfl)) (fun _ h9 => h9) rfl dX7_line_36 ?_
            refine lv_aload_n hx hb dX7_line_39 rfl (lv_at hl 0 rfl) ?_
            refine va_get (D := D) (ci := 7) (v := .ref j0) (C := RX7) (T := TX7) (N := 9) hx hb hts hi_X7_line_7 hown hK hP 0 rfl rfl 1 (by decide) (hts (.fieldLink RX7 18 "TheLiningsInIt" "now" "LTheLiningsInIt$Jacket;") (List.mem_of_getElem? (i := 2) rfl)) (fun _ h9 => h9) rfl dX7_line_40 ?_
            refine va_get (D := D) (ci := 0) (v := .int 0) (C := RX0) (T := TX0) (N := 9) hx hb hts hi_X7_line_0 hown hK hP 6 rfl rfl 7 (by decide) (hts (.fieldLink RX7 116 "TheLiningsInIt$Jacket" "hurry" "I") (List.mem_of_getElem? (i := 3) rfl)) (fun _ h9 => h9) rfl dX7_line_43 ?_
            refine lv_iconst (v := 1) hx hb dX7_line_46 (by decide) ?_
            skip
            refine zw_Vv (As := [.ref j0, .int 0, .int 1]) (rest := []) (wr := [(x0, .inr (7, [.ref xs, .ref j0, .ref k0, .ref w0, .ref rd, .ref mv, .ref xr, .int 0, .int (-1)])), (xr, .inl (cI, 8, .inl (fun _ => 0)))]) ⟨hx, hb, hml, hown, hts⟩ (c_look l D cI cJ cZ cP cS w0 wk wl wc wp j0 jp jc z0 0 0 fk fl fc (0) (0) (0) (0) (1)  H.size) (cwV 3 hts gX7_line_X5_look rfl rfl rfl (by decide +kernel) ⟨Nat.le_of_ble_eq_true rfl, Nat.le_of_ble_eq_true rfl⟩) hK hN (hZ.kept hS) hP hD hS hA [2, 3, 4, 5, 6, 7] [0, 1] rfl rfl (by decide) (by decide) (by decide) (va_recv hK hP (ci := 5) (q0 := 2) rfl rfl) rfl hl.1 rfl (Nat.le_of_ble_eq_true rfl) dX7_line_47 ⟨Nat.le_of_ble_eq_true rfl, Nat.le_of_ble_eq_true rfl⟩ (fun u_60 H locs hr_59 hP hD hS => ?_)
            obtain ⟨q_61, q_62, q_63⟩ := u_60
            replace hP : va_P D vwCl [(x0, .inr (7, [.ref xs, .ref j0, .ref k0, .ref w0, .ref rd, .ref mv, .ref xr, .int 0, .int (-1)])), (xr, .inl (cI, 8, .inl (fun _ => 0))), (w0, .inr (5, [.ref wk, .ref wl, .ref wc, .ref wp, .int 0, .int 0, .int 0])), (wk, .inl (cI, 125, .inl q_61)), (wl, .inl (cI, 125, .inl q_62)), (wc, .inl (cI, 3, .inl q_63)), (j0, .inr (0, [.ref z0, .ref jp, .ref jc, .int 0, .int 0, .int 0, .int 60, .int 0, .int 1])), (jc, .inl (cI, 3, .inl (zL3 5 10 50)))] H := hP
            replace hD : va_D _ [(x0, .inr (7, [.ref xs, .ref j0, .ref k0, .ref w0, .ref rd, .ref mv, .ref xr, .int 0, .int (-1)])), (xr, .inl (cI, 8, .inl (fun _ => 0))), (w0, .inr (5, [.ref wk, .ref wl, .ref wc, .ref wp, .int 0, .int 0, .int 0])), (wk, .inl (cI, 125, .inl q_61)), (wl, .inl (cI, 125, .inl q_62)), (wc, .inl (cI, 3, .inl q_63)), (j0, .inr (0, [.ref z0, .ref jp, .ref jc, .int 0, .int 0, .int 0, .int 60, .int 0, .int 1])), (jc, .inl (cI, 3, .inl (zL3 5 10 50)))] := hD
            refine lv_iload_n hx hb dX7_line_50 rfl (lv_at hl 2 rfl) ?_
            refine lv_iconst (v := 1) hx hb dX7_line_51 (by decide) ?_
            refine lv_icmp_ne (tgt := 78) hx hb dX7_line_52 (by decide) (fun c_64 => ?_) (fun c_64 => ?_)
            · have fc_64 : w.toInt ≠ 1 := zf_ne c_64 rfl (by decide)
              refine lv_aload_n hx hb dX7_line_78 rfl (lv_at hl 0 rfl) ?_
              refine va_get (D := D) (ci := 7) (v := .ref w0) (C := RX7) (T := TX7) (N := 9) hx hb hts hi_X7_line_7 hown hK hP 0 rfl rfl 3 (by decide) (hts (.fieldLink RX7 28 "TheLiningsInIt" "ways" "LTheLiningsInIt$Ways;") (List.mem_of_getElem? (i := 1) rfl)) (fun _ h9 => h9) rfl dX7_line_79 ?_
              refine lv_iload_n hx hb dX7_line_82 rfl (lv_at hl 1 rfl) ?_
              refine lv_aload_n hx hb dX7_line_83 rfl (lv_at hl 0 rfl) ?_
              refine va_get (D := D) (ci := 7) (v := .ref j0) (C := RX7) (T := TX7) (N := 9) hx hb hts hi_X7_line_7 hown hK hP 0 rfl rfl 1 (by decide) (hts (.fieldLink RX7 18 "TheLiningsInIt" "now" "LTheLiningsInIt$Jacket;") (List.mem_of_getElem? (i := 2) rfl)) (fun _ h9 => h9) rfl dX7_line_84 ?_
              refine va_get (D := D) (ci := 0) (v := .int 0) (C := RX0) (T := TX0) (N := 9) hx hb hts hi_X7_line_0 hown hK hP 6 rfl rfl 4 (by decide) (hts (.fieldLink RX7 199 "TheLiningsInIt$Jacket" "depth" "I") (List.mem_of_getElem? (i := 4) rfl)) (fun _ h9 => h9) rfl dX7_line_87 ?_
              refine lv_aload_n hx hb dX7_line_90 rfl (lv_at hl 0 rfl) ?_
              refine va_get (D := D) (ci := 7) (v := .ref j0) (C := RX7) (T := TX7) (N := 9) hx hb hts hi_X7_line_7 hown hK hP 0 rfl rfl 1 (by decide) (hts (.fieldLink RX7 18 "TheLiningsInIt" "now" "LTheLiningsInIt$Jacket;") (List.mem_of_getElem? (i := 2) rfl)) (fun _ h9 => h9) rfl dX7_line_91 ?_
              refine va_get (D := D) (ci := 0) (v := .int 60) (C := RX0) (T := TX0) (N := 9) hx hb hts hi_X7_line_0 hown hK hP 6 rfl rfl 6 (by decide) (hts (.fieldLink RX7 202 "TheLiningsInIt$Jacket" "seconds" "I") (List.mem_of_getElem? (i := 5) rfl)) (fun _ h9 => h9) rfl dX7_line_94 ?_
              refine zc_VN (As := [.int 4, .int 0, .int 60]) (rest := []) ⟨hx, hb, hml, hown, hts⟩ (c_least_4 l D cI cJ cZ cP cS w0 (60) ) ⟨(va_cnB 3 hts gX7_line_X5_least_n214 rfl rfl rfl (hN.1 (RX7, 214, yX5_least) (List.mem_of_getElem? (i := 11) rfl)) (hts _ (List.mem_of_getElem? (i := 22) rfl)) (by decide +kernel) ⟨Nat.le_of_ble_eq_true rfl, Nat.le_of_ble_eq_true rfl⟩), (hts _ (List.mem_of_getElem? (i := 59) rfl)), (hts _ (List.mem_of_getElem? (i := 60) rfl))⟩ hK hN (hZ.kept hS) hP [] rfl (va_recv hK hP (ci := 5) (q0 := 2) rfl rfl) rfl hl.1 rfl (Nat.le_of_ble_eq_true rfl) dX7_line_97 ⟨Nat.le_of_ble_eq_true rfl, Nat.le_of_ble_eq_true rfl⟩ (fun r_65 hr_65 => ?_)
              obtain rfl := hr_65
              exact W.iret (v := 0) hx hb hr (fun t ht hW => ⟨⟨0, (), rfl, Or.inr (Or.inr (Or.inr (Or.inr (Or.inr (Or.inr (Or.inr (Or.inr (Or.inr (Or.inr (Or.inr (Or.inr (Or.inl (⟨rfl, (by first | omega | decide), (by first | omega | decide), (by first | omega | decide), (by first | omega | decide), (by first | omega | decide), (by first | omega | decide)⟩))))))))))))), zP_nil, zD_nil⟩, hS.F ht⟩) hS.2.2 dX7_line_100
            · have fc_64 : w.toInt = 1 := zf_eq c_64 rfl (by decide)
              refine lv_aload_n hx hb dX7_line_55 rfl (lv_at hl 0 rfl) ?_
              refine va_get (D := D) (ci := 7) (v := .ref w0) (C := RX7) (T := TX7) (N := 9) hx hb hts hi_X7_line_7 hown hK hP 0 rfl rfl 3 (by decide) (hts (.fieldLink RX7 28 "TheLiningsInIt" "ways" "LTheLiningsInIt$Ways;") (List.mem_of_getElem? (i := 1) rfl)) (fun _ h9 => h9) rfl dX7_line_56 ?_
              refine lv_iload_n hx hb dX7_line_59 rfl (lv_at hl 1 rfl) ?_
              refine lv_aload_n hx hb dX7_line_60 rfl (lv_at hl 0 rfl) ?_
              refine va_get (D := D) (ci := 7) (v := .ref j0) (C := RX7) (T := TX7) (N := 9) hx hb hts hi_X7_line_7 hown hK hP 0 rfl rfl 1 (by decide) (hts (.fieldLink RX7 18 "TheLiningsInIt" "now" "LTheLiningsInIt$Jacket;") (List.mem_of_getElem? (i := 2) rfl)) (fun _ h9 => h9) rfl dX7_line_61 ?_
              refine va_get (D := D) (ci := 0) (v := .int 0) (C := RX0) (T := TX0) (N := 9) hx hb hts hi_X7_line_0 hown hK hP 6 rfl rfl 4 (by decide) (hts (.fieldLink RX7 199 "TheLiningsInIt$Jacket" "depth" "I") (List.mem_of_getElem? (i := 4) rfl)) (fun _ h9 => h9) rfl dX7_line_64 ?_
              refine lv_aload_n hx hb dX7_line_67 rfl (lv_at hl 0 rfl) ?_
              refine va_get (D := D) (ci := 7) (v := .ref j0) (C := RX7) (T := TX7) (N := 9) hx hb hts hi_X7_line_7 hown hK hP 0 rfl rfl 1 (by decide) (hts (.fieldLink RX7 18 "TheLiningsInIt" "now" "LTheLiningsInIt$Jacket;") (List.mem_of_getElem? (i := 2) rfl)) (fun _ h9 => h9) rfl dX7_line_68 ?_
              refine va_get (D := D) (ci := 0) (v := .int 60) (C := RX0) (T := TX0) (N := 9) hx hb hts hi_X7_line_0 hown hK hP 6 rfl rfl 6 (by decide) (hts (.fieldLink RX7 202 "TheLiningsInIt$Jacket" "seconds" "I") (List.mem_of_getElem? (i := 5) rfl)) (fun _ h9 => h9) rfl dX7_line_71 ?_
              refine zc_V (As := [.int 4, .int 0, .int 60]) (rest := []) ⟨hx, hb, hml, hown, hts⟩ (c_first l D cI cJ cZ cP cS w0 (4) (60) ) (cwV 3 hts gX7_line_X5_first rfl rfl rfl (by decide +kernel) ⟨Nat.le_of_ble_eq_true rfl, Nat.le_of_ble_eq_true rfl⟩) hK hN (hZ.kept hS) hP [] rfl (va_recv hK hP (ci := 5) (q0 := 2) rfl rfl) rfl hl.1 rfl (Nat.le_of_ble_eq_true rfl) dX7_line_74 ⟨Nat.le_of_ble_eq_true rfl, Nat.le_of_ble_eq_true rfl⟩ (fun r_66 hr_66 => ?_)
              obtain rfl := hr_66
              exact W.iret (v := (-1)) hx hb hr (fun t ht hW => ⟨⟨(-1), (), rfl, Or.inr (Or.inr (Or.inr (Or.inr (Or.inr (Or.inr (Or.inr (Or.inr (Or.inr (Or.inr (Or.inr (Or.inr (Or.inr (⟨rfl, (by first | omega | decide), (by first | omega | decide), (by first | omega | decide), (by first | omega | decide), (by first | omega | decide), (by first | omega | decide)⟩))))))))))))), zP_nil, zD_nil⟩, hS.F ht⟩) hS.2.2 dX7_line_77
        · exact absurd c_26 (by decide)
    · exact absurd c_13 (by decide)
theorem hi_X7_casesBy_7 : ∀ w ∈ u_ws RX7 TX7 9, w ∈ wsX7_casesBy := by decide +kernel
theorem hi_X7_casesBy_0 : ∀ w ∈ u_ws RX0 TX0 9, w ∈ wsX7_casesBy := by decide +kernel
set_option maxHeartbeats 4000000 in
set_option maxRecDepth 100000 in
theorem c_casesBy_0 (l : Launch) (D : va_G) (cI cJ cZ cP cS : ClassId) (x0 xs j0 k0 w0 rd mv xr : Nat) (jp jc z0 zl zs : Nat) (wk wl wc wp : Nat) (fk fl fc : Nat → Int32) (cn hu lg h : Int32)  (sz : Nat) : Met l yX7_casesBy wsX7_casesBy ({ frames := 2, cells := 0, slots := 0, locals := 126 }) (va_Pc [.ref x0, .int h, .int 0] (zW D (zKT cI cJ cZ cP cS) [(x0, .inr (7, [.ref xs, .ref j0, .ref k0, .ref w0, .ref rd, .ref mv, .ref xr, .int 0, .int (-1)])), (w0, .inr (5, [.ref wk, .ref wl, .ref wc, .ref wp, .int cn, .int hu, .int lg])), (wk, .inl (cI, 125, .inl fk)), (wl, .inl (cI, 125, .inl fl)), (wc, .inl (cI, 3, .inl fc)), (j0, .inr (0, [.ref z0, .ref jp, .ref jc, .int 0, .int 0, .int 0, .int 60, .int 0, .int 1])), (jc, .inl (cI, 3, .inl (zL3 5 10 50)))] sz)) (va_Qi (fun (r : Int32) (_ : (Nat → Int32) × (Nat → Int32) × (Nat → Int32)) => r = 1) (zB D [(x0, .inr (7, [.ref xs, .ref j0, .ref k0, .ref w0, .ref rd, .ref mv, .ref xr, .int 0, .int (-1)])), (w0, .inr (5, [.ref wk, .ref wl, .ref wc, .ref wp, .int cn, .int hu, .int lg])), (wk, .inl (cI, 125, .inl fk)), (wl, .inl (cI, 125, .inl fl)), (wc, .inl (cI, 3, .inl fc)), (j0, .inr (0, [.ref z0, .ref jp, .ref jc, .int 0, .int 0, .int 0, .int 60, .int 0, .int 1])), (jc, .inl (cI, 3, .inl (zL3 5 10 50)))] sz (fun (u : (Nat → Int32) × (Nat → Int32) × (Nat → Int32)) => [(x0, .inr (7, [.ref xs, .ref j0, .ref k0, .ref w0, .ref rd, .ref mv, .ref xr, .int 0, .int (-1)])), (w0, .inr (5, [.ref wk, .ref wl, .ref wc, .ref wp, .int 0, .int h, .int 0])), (wk, .inl (cI, 125, .inl u.1)), (wl, .inl (cI, 125, .inl u.2.1)), (wc, .inl (cI, 3, .inl u.2.2)), (j0, .inr (0, [.ref z0, .ref jp, .ref jc, .int 0, .int 0, .int 0, .int 60, .int 0, .int 1])), (jc, .inl (cI, 3, .inl (zL3 5 10 50)))])) (va_A [(x0, .inr (7, [.ref xs, .ref j0, .ref k0, .ref w0, .ref rd, .ref mv, .ref xr, .int 0, .int (-1)])), (w0, .inr (5, [.ref wk, .ref wl, .ref wc, .ref wp, .int cn, .int hu, .int lg])), (wk, .inl (cI, 125, .inl fk)), (wl, .inl (cI, 125, .inl fl)), (wc, .inl (cI, 3, .inl fc)), (j0, .inr (0, [.ref z0, .ref jp, .ref jc, .int 0, .int 0, .int 0, .int 60, .int 0, .int 1])), (jc, .inl (cI, 3, .inl (zL3 5 10 50)))] sz)) 0 0 (va_A [(x0, .inr (7, [.ref xs, .ref j0, .ref k0, .ref w0, .ref rd, .ref mv, .ref xr, .int 0, .int (-1)])), (w0, .inr (5, [.ref wk, .ref wl, .ref wc, .ref wp, .int cn, .int hu, .int lg])), (wk, .inl (cI, 125, .inl fk)), (wl, .inl (cI, 125, .inl fl)), (wc, .inl (cI, 3, .inl fc)), (j0, .inr (0, [.ref z0, .ref jp, .ref jc, .int 0, .int 0, .int 0, .int 60, .int 0, .int 1])), (jc, .inl (cI, 3, .inl (zL3 5 10 50)))] sz) := by
  refine Met.ofW (cc := cX7_casesBy) (maxL := 3) (ret := (some .int)) (by decide) rfl ?_
  intro p e s m args below meth c s₁ B hml hv
  obtain ⟨rfl, hsz, hP, hK, hD0, hN, hZ⟩ := hv
  have hx := B.exec
  have hb := B.bytes
  have hr := B.returns
  have hts := atoms_spec (ws := wsX7_casesBy) B.pre
  have hown : s.vm.findClass RX7 = some m.cls := findClass_of_methodNamed B.named
  have hlocks := B.notSynchronized
  subst hsz
  have hD := hD0.self (sz := s.heap.size)
  have hA : ∀ q : Nat, s.heap.size ≤ q → va_A [(x0, .inr (7, [.ref xs, .ref j0, .ref k0, .ref w0, .ref rd, .ref mv, .ref xr, .int 0, .int (-1)])), (w0, .inr (5, [.ref wk, .ref wl, .ref wc, .ref wp, .int cn, .int hu, .int lg])), (wk, .inl (cI, 125, .inl fk)), (wl, .inl (cI, 125, .inl fl)), (wc, .inl (cI, 3, .inl fc)), (j0, .inr (0, [.ref z0, .ref jp, .ref jc, .int 0, .int 0, .int 0, .int 60, .int 0, .int 1])), (jc, .inl (cI, 3, .inl (zL3 5 10 50)))] s.heap.size q := fun q h => Or.inr h
  have hS : va_S (va_A [(x0, .inr (7, [.ref xs, .ref j0, .ref k0, .ref w0, .ref rd, .ref mv, .ref xr, .int 0, .int (-1)])), (w0, .inr (5, [.ref wk, .ref wl, .ref wc, .ref wp, .int cn, .int hu, .int lg])), (wk, .inl (cI, 125, .inl fk)), (wl, .inl (cI, 125, .inl fl)), (wc, .inl (cI, 3, .inl fc)), (j0, .inr (0, [.ref z0, .ref jp, .ref jc, .int 0, .int 0, .int 0, .int 60, .int 0, .int 1])), (jc, .inl (cI, 3, .inl (zL3 5 10 50)))] s.heap.size) s.heap s.heap [] := va_S.rf
  replace hP : va_P D vwCl _ s.heap := hP
  have hl := lv_entry ([.ref x0, .int h, .int 0]) (n := 3) (Nat.le_of_ble_eq_true rfl)
  rw [lg_entry_eq]
  generalize (lg_sl ([.ref x0, .int h, .int 0]) ++ List.replicate (3 - (lg_sl ([.ref x0, .int h, .int 0])).length) Slot.unset).toArray = ls at hl ⊢
  replace hl : lv_has ls 3 [(0, .ref x0), (1, .int h), (2, .int 0)] := hl
  refine zw_start (fun H locs hH hL => ?_)
  replace hP : va_P D vwCl [(x0, .inr (7, [.ref xs, .ref j0, .ref k0, .ref w0, .ref rd, .ref mv, .ref xr, .int 0, .int (-1)])), (w0, .inr (5, [.ref wk, .ref wl, .ref wc, .ref wp, .int cn, .int hu, .int lg])), (wk, .inl (cI, 125, .inl fk)), (wl, .inl (cI, 125, .inl fl)), (wc, .inl (cI, 3, .inl fc)), (j0, .inr (0, [.ref z0, .ref jp, .ref jc, .int 0, .int 0, .int 0, .int 60, .int 0, .int 1])), (jc, .inl (cI, 3, .inl (zL3 5 10 50)))] H := by rw [hH]; exact hP
  replace hS : va_S (va_A [(x0, .inr (7, [.ref xs, .ref j0, .ref k0, .ref w0, .ref rd, .ref mv, .ref xr, .int 0, .int (-1)])), (w0, .inr (5, [.ref wk, .ref wl, .ref wc, .ref wp, .int cn, .int hu, .int lg])), (wk, .inl (cI, 125, .inl fk)), (wl, .inl (cI, 125, .inl fl)), (wc, .inl (cI, 3, .inl fc)), (j0, .inr (0, [.ref z0, .ref jp, .ref jc, .int 0, .int 0, .int 0, .int 60, .int 0, .int 1])), (jc, .inl (cI, 3, .inl (zL3 5 10 50)))] s.heap.size) s.heap H locs := by rw [hH, hL]; exact hS
  clear hH hL
  refine lv_aload_n hx hb dX7_casesBy_0 rfl (lv_at hl 0 rfl) ?_
  refine va_get (D := D) (ci := 7) (v := .ref w0) (C := RX7) (T := TX7) (N := 9) hx hb hts hi_X7_casesBy_7 hown hK hP 0 rfl rfl 3 (by decide) (hts (.fieldLink RX7 28 "TheLiningsInIt" "ways" "LTheLiningsInIt$Ways;") (List.mem_of_getElem? (i := 1) rfl)) (fun _ h9 => h9) rfl dX7_casesBy_1 ?_
  refine lv_aload_n hx hb dX7_casesBy_4 rfl (lv_at hl 0 rfl) ?_
  refine va_get (D := D) (ci := 7) (v := .ref j0) (C := RX7) (T := TX7) (N := 9) hx hb hts hi_X7_casesBy_7 hown hK hP 0 rfl rfl 1 (by decide) (hts (.fieldLink RX7 18 "TheLiningsInIt" "now" "LTheLiningsInIt$Jacket;") (List.mem_of_getElem? (i := 2) rfl)) (fun _ h9 => h9) rfl dX7_casesBy_5 ?_
  refine lv_iload_n hx hb dX7_casesBy_8 rfl (lv_at hl 1 rfl) ?_
  refine lv_iconst (v := 1) hx hb dX7_casesBy_9 (by decide) ?_
  skip
  refine zw_Vv (As := [.ref j0, .int h, .int 1]) (rest := []) (wr := [(x0, .inr (7, [.ref xs, .ref j0, .ref k0, .ref w0, .ref rd, .ref mv, .ref xr, .int 0, .int (-1)]))]) ⟨hx, hb, hml, hown, hts⟩ (c_look l D cI cJ cZ cP cS w0 wk wl wc wp j0 jp jc z0 0 0 fk fl fc (cn) (hu) (lg) (h) (1)  H.size) (cwV 3 hts gX7_casesBy_X5_look rfl rfl rfl (by decide +kernel) ⟨Nat.le_of_ble_eq_true rfl, Nat.le_of_ble_eq_true rfl⟩) hK hN (hZ.kept hS) hP hD hS hA [1, 2, 3, 4, 5, 6] [0] rfl rfl (by decide) (by decide) (by decide) (va_recv hK hP (ci := 5) (q0 := 1) rfl rfl) rfl hl.1 rfl (Nat.le_of_ble_eq_true rfl) dX7_casesBy_10 ⟨Nat.le_of_ble_eq_true rfl, Nat.le_of_ble_eq_true rfl⟩ (fun u_2 H locs hr_1 hP hD hS => ?_)
  obtain ⟨q_3, q_4, q_5⟩ := u_2
  replace hP : va_P D vwCl [(x0, .inr (7, [.ref xs, .ref j0, .ref k0, .ref w0, .ref rd, .ref mv, .ref xr, .int 0, .int (-1)])), (w0, .inr (5, [.ref wk, .ref wl, .ref wc, .ref wp, .int 0, .int h, .int 0])), (wk, .inl (cI, 125, .inl q_3)), (wl, .inl (cI, 125, .inl q_4)), (wc, .inl (cI, 3, .inl q_5)), (j0, .inr (0, [.ref z0, .ref jp, .ref jc, .int 0, .int 0, .int 0, .int 60, .int 0, .int 1])), (jc, .inl (cI, 3, .inl (zL3 5 10 50)))] H := hP
  replace hD : va_D _ [(x0, .inr (7, [.ref xs, .ref j0, .ref k0, .ref w0, .ref rd, .ref mv, .ref xr, .int 0, .int (-1)])), (w0, .inr (5, [.ref wk, .ref wl, .ref wc, .ref wp, .int 0, .int h, .int 0])), (wk, .inl (cI, 125, .inl q_3)), (wl, .inl (cI, 125, .inl q_4)), (wc, .inl (cI, 3, .inl q_5)), (j0, .inr (0, [.ref z0, .ref jp, .ref jc, .int 0, .int 0, .int 0, .int 60, .int 0, .int 1])), (jc, .inl (cI, 3, .inl (zL3 5 10 50)))] := hD
  refine lv_aload_n hx hb dX7_casesBy_13 rfl (lv_at hl 0 rfl) ?_
  refine va_get (D := D) (ci := 7) (v := .ref w0) (C := RX7) (T := TX7) (N := 9) hx hb hts hi_X7_casesBy_7 hown hK hP 0 rfl rfl 3 (by decide) (hts (.fieldLink RX7 28 "TheLiningsInIt" "ways" "LTheLiningsInIt$Ways;") (List.mem_of_getElem? (i := 1) rfl)) (fun _ h9 => h9) rfl dX7_casesBy_14 ?_
  refine lv_iload_n hx hb dX7_casesBy_17 rfl (lv_at hl 2 rfl) ?_
  refine lv_aload_n hx hb dX7_casesBy_18 rfl (lv_at hl 0 rfl) ?_
  refine va_get (D := D) (ci := 7) (v := .ref j0) (C := RX7) (T := TX7) (N := 9) hx hb hts hi_X7_casesBy_7 hown hK hP 0 rfl rfl 1 (by decide) (hts (.fieldLink RX7 18 "TheLiningsInIt" "now" "LTheLiningsInIt$Jacket;") (List.mem_of_getElem? (i := 2) rfl)) (fun _ h9 => h9) rfl dX7_casesBy_19 ?_
  refine va_get (D := D) (ci := 0) (v := .int 0) (C := RX0) (T := TX0) (N := 9) hx hb hts hi_X7_casesBy_0 hown hK hP 5 rfl rfl 4 (by decide) (hts (.fieldLink RX7 199 "TheLiningsInIt$Jacket" "depth" "I") (List.mem_of_getElem? (i := 3) rfl)) (fun _ h9 => h9) rfl dX7_casesBy_22 ?_
  refine lv_aload_n hx hb dX7_casesBy_25 rfl (lv_at hl 0 rfl) ?_
  refine va_get (D := D) (ci := 7) (v := .ref j0) (C := RX7) (T := TX7) (N := 9) hx hb hts hi_X7_casesBy_7 hown hK hP 0 rfl rfl 1 (by decide) (hts (.fieldLink RX7 18 "TheLiningsInIt" "now" "LTheLiningsInIt$Jacket;") (List.mem_of_getElem? (i := 2) rfl)) (fun _ h9 => h9) rfl dX7_casesBy_26 ?_
  refine va_get (D := D) (ci := 0) (v := .int 60) (C := RX0) (T := TX0) (N := 9) hx hb hts hi_X7_casesBy_0 hown hK hP 5 rfl rfl 6 (by decide) (hts (.fieldLink RX7 202 "TheLiningsInIt$Jacket" "seconds" "I") (List.mem_of_getElem? (i := 4) rfl)) (fun _ h9 => h9) rfl dX7_casesBy_29 ?_
  refine zc_VN (As := [.int 0, .int 0, .int 60]) (rest := []) ⟨hx, hb, hml, hown, hts⟩ (c_most_0 l D cI cJ cZ cP cS w0 (60) ) ⟨(va_cnB 3 hts gX7_casesBy_X5_most_n208 rfl rfl rfl (hN.1 (RX7, 208, yX5_most) (List.mem_of_getElem? (i := 10) rfl)) (hts _ (List.mem_of_getElem? (i := 8) rfl)) (by decide +kernel) ⟨Nat.le_of_ble_eq_true rfl, Nat.le_of_ble_eq_true rfl⟩), (hts _ (List.mem_of_getElem? (i := 43) rfl)), (hts _ (List.mem_of_getElem? (i := 44) rfl))⟩ hK hN (hZ.kept hS) hP [] rfl (va_recv hK hP (ci := 5) (q0 := 1) rfl rfl) rfl hl.1 rfl (Nat.le_of_ble_eq_true rfl) dX7_casesBy_32 ⟨Nat.le_of_ble_eq_true rfl, Nat.le_of_ble_eq_true rfl⟩ (fun r_6 hr_6 => ?_)
  obtain rfl := hr_6
  exact W.iret (v := 1) hx hb hr (fun t ht hW => ⟨⟨1, (q_3, q_4, q_5), rfl, rfl, by rw [ht]; exact hP.sub (ws' := [(x0, .inr (7, [.ref xs, .ref j0, .ref k0, .ref w0, .ref rd, .ref mv, .ref xr, .int 0, .int (-1)])), (w0, .inr (5, [.ref wk, .ref wl, .ref wc, .ref wp, .int 0, .int h, .int 0])), (wk, .inl (cI, 125, .inl q_3)), (wl, .inl (cI, 125, .inl q_4)), (wc, .inl (cI, 3, .inl q_5)), (j0, .inr (0, [.ref z0, .ref jp, .ref jc, .int 0, .int 0, .int 0, .int 60, .int 0, .int 1])), (jc, .inl (cI, 3, .inl (zL3 5 10 50)))]) [0, 1, 2, 3, 4, 5, 6] rfl, hD.sub (ws' := [(x0, .inr (7, [.ref xs, .ref j0, .ref k0, .ref w0, .ref rd, .ref mv, .ref xr, .int 0, .int (-1)])), (w0, .inr (5, [.ref wk, .ref wl, .ref wc, .ref wp, .int 0, .int h, .int 0])), (wk, .inl (cI, 125, .inl q_3)), (wl, .inl (cI, 125, .inl q_4)), (wc, .inl (cI, 3, .inl q_5)), (j0, .inr (0, [.ref z0, .ref jp, .ref jc, .int 0, .int 0, .int 0, .int 60, .int 0, .int 1])), (jc, .inl (cI, 3, .inl (zL3 5 10 50)))]) [0, 1, 2, 3, 4, 5, 6] (by decide) rfl⟩, hS.F ht⟩) hS.2.2 dX7_casesBy_35
set_option maxHeartbeats 4000000 in
set_option maxRecDepth 100000 in
theorem c_casesBy_1 (l : Launch) (D : va_G) (cI cJ cZ cP cS : ClassId) (x0 xs j0 k0 w0 rd mv xr : Nat) (jp jc z0 zl zs : Nat) (wk wl wc wp : Nat) (fk fl fc : Nat → Int32) (cn hu lg h : Int32)  (sz : Nat) : Met l yX7_casesBy wsX7_casesBy ({ frames := 2, cells := 0, slots := 0, locals := 126 }) (va_Pc [.ref x0, .int h, .int 1] (zW D (zKT cI cJ cZ cP cS) [(x0, .inr (7, [.ref xs, .ref j0, .ref k0, .ref w0, .ref rd, .ref mv, .ref xr, .int 0, .int (-1)])), (w0, .inr (5, [.ref wk, .ref wl, .ref wc, .ref wp, .int cn, .int hu, .int lg])), (wk, .inl (cI, 125, .inl fk)), (wl, .inl (cI, 125, .inl fl)), (wc, .inl (cI, 3, .inl fc)), (j0, .inr (0, [.ref z0, .ref jp, .ref jc, .int 0, .int 0, .int 0, .int 60, .int 0, .int 1])), (jc, .inl (cI, 3, .inl (zL3 5 10 50)))] sz)) (va_Qi (fun (r : Int32) (_ : (Nat → Int32) × (Nat → Int32) × (Nat → Int32)) => r = 12) (zB D [(x0, .inr (7, [.ref xs, .ref j0, .ref k0, .ref w0, .ref rd, .ref mv, .ref xr, .int 0, .int (-1)])), (w0, .inr (5, [.ref wk, .ref wl, .ref wc, .ref wp, .int cn, .int hu, .int lg])), (wk, .inl (cI, 125, .inl fk)), (wl, .inl (cI, 125, .inl fl)), (wc, .inl (cI, 3, .inl fc)), (j0, .inr (0, [.ref z0, .ref jp, .ref jc, .int 0, .int 0, .int 0, .int 60, .int 0, .int 1])), (jc, .inl (cI, 3, .inl (zL3 5 10 50)))] sz (fun (u : (Nat → Int32) × (Nat → Int32) × (Nat → Int32)) => [(x0, .inr (7, [.ref xs, .ref j0, .ref k0, .ref w0, .ref rd, .ref mv, .ref xr, .int 0, .int (-1)])), (w0, .inr (5, [.ref wk, .ref wl, .ref wc, .ref wp, .int 0, .int h, .int 0])), (wk, .inl (cI, 125, .inl u.1)), (wl, .inl (cI, 125, .inl u.2.1)), (wc, .inl (cI, 3, .inl u.2.2)), (j0, .inr (0, [.ref z0, .ref jp, .ref jc, .int 0, .int 0, .int 0, .int 60, .int 0, .int 1])), (jc, .inl (cI, 3, .inl (zL3 5 10 50)))])) (va_A [(x0, .inr (7, [.ref xs, .ref j0, .ref k0, .ref w0, .ref rd, .ref mv, .ref xr, .int 0, .int (-1)])), (w0, .inr (5, [.ref wk, .ref wl, .ref wc, .ref wp, .int cn, .int hu, .int lg])), (wk, .inl (cI, 125, .inl fk)), (wl, .inl (cI, 125, .inl fl)), (wc, .inl (cI, 3, .inl fc)), (j0, .inr (0, [.ref z0, .ref jp, .ref jc, .int 0, .int 0, .int 0, .int 60, .int 0, .int 1])), (jc, .inl (cI, 3, .inl (zL3 5 10 50)))] sz)) 0 0 (va_A [(x0, .inr (7, [.ref xs, .ref j0, .ref k0, .ref w0, .ref rd, .ref mv, .ref xr, .int 0, .int (-1)])), (w0, .inr (5, [.ref wk, .ref wl, .ref wc, .ref wp, .int cn, .int hu, .int lg])), (wk, .inl (cI, 125, .inl fk)), (wl, .inl (cI, 125, .inl fl)), (wc, .inl (cI, 3, .inl fc)), (j0, .inr (0, [.ref z0, .ref jp, .ref jc, .int 0, .int 0, .int 0, .int 60, .int 0, .int 1])), (jc, .inl (cI, 3, .inl (zL3 5 10 50)))] sz) := by
  refine Met.ofW (cc := cX7_casesBy) (maxL := 3) (ret := (some .int)) (by decide) rfl ?_
  intro p e s m args below meth c s₁ B hml hv
  obtain ⟨rfl, hsz, hP, hK, hD0, hN, hZ⟩ := hv
  have hx := B.exec
  have hb := B.bytes
  have hr := B.returns
  have hts := atoms_spec (ws := wsX7_casesBy) B.pre
  have hown : s.vm.findClass RX7 = some m.cls := findClass_of_methodNamed B.named
  have hlocks := B.notSynchronized
  subst hsz
  have hD := hD0.self (sz := s.heap.size)
  have hA : ∀ q : Nat, s.heap.size ≤ q → va_A [(x0, .inr (7, [.ref xs, .ref j0, .ref k0, .ref w0, .ref rd, .ref mv, .ref xr, .int 0, .int (-1)])), (w0, .inr (5, [.ref wk, .ref wl, .ref wc, .ref wp, .int cn, .int hu, .int lg])), (wk, .inl (cI, 125, .inl fk)), (wl, .inl (cI, 125, .inl fl)), (wc, .inl (cI, 3, .inl fc)), (j0, .inr (0, [.ref z0, .ref jp, .ref jc, .int 0, .int 0, .int 0, .int 60, .int 0, .int 1])), (jc, .inl (cI, 3, .inl (zL3 5 10 50)))] s.heap.size q := fun q h => Or.inr h
  have hS : va_S (va_A [(x0, .inr (7, [.ref xs, .ref j0, .ref k0, .ref w0, .ref rd, .ref mv, .ref xr, .int 0, .int (-1)])), (w0, .inr (5, [.ref wk, .ref wl, .ref wc, .ref wp, .int cn, .int hu, .int lg])), (wk, .inl (cI, 125, .inl fk)), (wl, .inl (cI, 125, .inl fl)), (wc, .inl (cI, 3, .inl fc)), (j0, .inr (0, [.ref z0, .ref jp, .ref jc, .int 0, .int 0, .int 0, .int 60, .int 0, .int 1])), (jc, .inl (cI, 3, .inl (zL3 5 10 50)))] s.heap.size) s.heap s.heap [] := va_S.rf
  replace hP : va_P D vwCl _ s.heap := hP
  have hl := lv_entry ([.ref x0, .int h, .int 1]) (n := 3) (Nat.le_of_ble_eq_true rfl)
  rw [lg_entry_eq]
  generalize (lg_sl ([.ref x0, .int h, .int 1]) ++ List.replicate (3 - (lg_sl ([.ref x0, .int h, .int 1])).length) Slot.unset).toArray = ls at hl ⊢
  replace hl : lv_has ls 3 [(0, .ref x0), (1, .int h), (2, .int 1)] := hl
  refine zw_start (fun H locs hH hL => ?_)
  replace hP : va_P D vwCl [(x0, .inr (7, [.ref xs, .ref j0, .ref k0, .ref w0, .ref rd, .ref mv, .ref xr, .int 0, .int (-1)])), (w0, .inr (5, [.ref wk, .ref wl, .ref wc, .ref wp, .int cn, .int hu, .int lg])), (wk, .inl (cI, 125, .inl fk)), (wl, .inl (cI, 125, .inl fl)), (wc, .inl (cI, 3, .inl fc)), (j0, .inr (0, [.ref z0, .ref jp, .ref jc, .int 0, .int 0, .int 0, .int 60, .int 0, .int 1])), (jc, .inl (cI, 3, .inl (zL3 5 10 50)))] H := by rw [hH]; exact hP
  replace hS : va_S (va_A [(x0, .inr (7, [.ref xs, .ref j0, .ref k0, .ref w0, .ref rd, .ref mv, .ref xr, .int 0, .int (-1)])), (w0, .inr (5, [.ref wk, .ref wl, .ref wc, .ref wp, .int cn, .int hu, .int lg])), (wk, .inl (cI, 125, .inl fk)), (wl, .inl (cI, 125, .inl fl)), (wc, .inl (cI, 3, .inl fc)), (j0, .inr (0, [.ref z0, .ref jp, .ref jc, .int 0, .int 0, .int 0, .int 60, .int 0, .int 1])), (jc, .inl (cI, 3, .inl (zL3 5 10 50)))] s.heap.size) s.heap H locs := by rw [hH, hL]; exact hS
  clear hH hL
  refine lv_aload_n hx hb dX7_casesBy_0 rfl (lv_at hl 0 rfl) ?_
  refine va_get (D := D) (ci := 7) (v := .ref w0) (C := RX7) (T := TX7) (N := 9) hx hb hts hi_X7_casesBy_7 hown hK hP 0 rfl rfl 3 (by decide) (hts (.fieldLink RX7 28 "TheLiningsInIt" "ways" "LTheLiningsInIt$Ways;") (List.mem_of_getElem? (i := 1) rfl)) (fun _ h9 => h9) rfl dX7_casesBy_1 ?_
  refine lv_aload_n hx hb dX7_casesBy_4 rfl (lv_at hl 0 rfl) ?_
  refine va_get (D := D) (ci := 7) (v := .ref j0) (C := RX7) (T := TX7) (N := 9) hx hb hts hi_X7_casesBy_7 hown hK hP 0 rfl rfl 1 (by decide) (hts (.fieldLink RX7 18 "TheLiningsInIt" "now" "LTheLiningsInIt$Jacket;") (List.mem_of_getElem? (i := 2) rfl)) (fun _ h9 => h9) rfl dX7_casesBy_5 ?_
  refine lv_iload_n hx hb dX7_casesBy_8 rfl (lv_at hl 1 rfl) ?_
  refine lv_iconst (v := 1) hx hb dX7_casesBy_9 (by decide) ?_
  skip
  refine zw_Vv (As := [.ref j0, .int h, .int 1]) (rest := []) (wr := [(x0, .inr (7, [.ref xs, .ref j0, .ref k0, .ref w0, .ref rd, .ref mv, .ref xr, .int 0, .int (-1)]))]) ⟨hx, hb, hml, hown, hts⟩ (c_look l D cI cJ cZ cP cS w0 wk wl wc wp j0 jp jc z0 0 0 fk fl fc (cn) (hu) (lg) (h) (1)  H.size) (cwV 3 hts gX7_casesBy_X5_look rfl rfl rfl (by decide +kernel) ⟨Nat.le_of_ble_eq_true rfl, Nat.le_of_ble_eq_true rfl⟩) hK hN (hZ.kept hS) hP hD hS hA [1, 2, 3, 4, 5, 6] [0] rfl rfl (by decide) (by decide) (by decide) (va_recv hK hP (ci := 5) (q0 := 1) rfl rfl) rfl hl.1 rfl (Nat.le_of_ble_eq_true rfl) dX7_casesBy_10 ⟨Nat.le_of_ble_eq_true rfl, Nat.le_of_ble_eq_true rfl⟩ (fun u_2 H locs hr_1 hP hD hS => ?_)
  obtain ⟨q_3, q_4, q_5⟩ := u_2
  replace hP : va_P D vwCl [(x0, .inr (7, [.ref xs, .ref j0, .ref k0, .ref w0, .ref rd, .ref mv, .ref xr, .int 0, .int (-1)])), (w0, .inr (5, [.ref wk, .ref wl, .ref wc, .ref wp, .int 0, .int h, .int 0])), (wk, .inl (cI, 125, .inl q_3)), (wl, .inl (cI, 125, .inl q_4)), (wc, .inl (cI, 3, .inl q_5)), (j0, .inr (0, [.ref z0, .ref jp, .ref jc, .int 0, .int 0, .int 0, .int 60, .int 0, .int 1])), (jc, .inl (cI, 3, .inl (zL3 5 10 50)))] H := hP
  replace hD : va_D _ [(x0, .inr (7, [.ref xs, .ref j0, .ref k0, .ref w0, .ref rd, .ref mv, .ref xr, .int 0, .int (-1)])), (w0, .inr (5, [.ref wk, .ref wl, .ref wc, .ref wp, .int 0, .int h, .int 0])), (wk, .inl (cI, 125, .inl q_3)), (wl, .inl (cI, 125, .inl q_4)), (wc, .inl (cI, 3, .inl q_5)), (j0, .inr (0, [.ref z0, .ref jp, .ref jc, .int 0, .int 0, .int 0, .int 60, .int 0, .int 1])), (jc, .inl (cI, 3, .inl (zL3 5 10 50)))] := hD
  refine lv_aload_n hx hb dX7_casesBy_13 rfl (lv_at hl 0 rfl) ?_
  refine va_get (D := D) (ci := 7) (v := .ref w0) (C := RX7) (T := TX7) (N := 9) hx hb hts hi_X7_casesBy_7 hown hK hP 0 rfl rfl 3 (by decide) (hts (.fieldLink RX7 28 "TheLiningsInIt" "ways" "LTheLiningsInIt$Ways;") (List.mem_of_getElem? (i := 1) rfl)) (fun _ h9 => h9) rfl dX7_casesBy_14 ?_
  refine lv_iload_n hx hb dX7_casesBy_17 rfl (lv_at hl 2 rfl) ?_
  refine lv_aload_n hx hb dX7_casesBy_18 rfl (lv_at hl 0 rfl) ?_
  refine va_get (D := D) (ci := 7) (v := .ref j0) (C := RX7) (T := TX7) (N := 9) hx hb hts hi_X7_casesBy_7 hown hK hP 0 rfl rfl 1 (by decide) (hts (.fieldLink RX7 18 "TheLiningsInIt" "now" "LTheLiningsInIt$Jacket;") (List.mem_of_getElem? (i := 2) rfl)) (fun _ h9 => h9) rfl dX7_casesBy_19 ?_
  refine va_get (D := D) (ci := 0) (v := .int 0) (C := RX0) (T := TX0) (N := 9) hx hb hts hi_X7_casesBy_0 hown hK hP 5 rfl rfl 4 (by decide) (hts (.fieldLink RX7 199 "TheLiningsInIt$Jacket" "depth" "I") (List.mem_of_getElem? (i := 3) rfl)) (fun _ h9 => h9) rfl dX7_casesBy_22 ?_
  refine lv_aload_n hx hb dX7_casesBy_25 rfl (lv_at hl 0 rfl) ?_
  refine va_get (D := D) (ci := 7) (v := .ref j0) (C := RX7) (T := TX7) (N := 9) hx hb hts hi_X7_casesBy_7 hown hK hP 0 rfl rfl 1 (by decide) (hts (.fieldLink RX7 18 "TheLiningsInIt" "now" "LTheLiningsInIt$Jacket;") (List.mem_of_getElem? (i := 2) rfl)) (fun _ h9 => h9) rfl dX7_casesBy_26 ?_
  refine va_get (D := D) (ci := 0) (v := .int 60) (C := RX0) (T := TX0) (N := 9) hx hb hts hi_X7_casesBy_0 hown hK hP 5 rfl rfl 6 (by decide) (hts (.fieldLink RX7 202 "TheLiningsInIt$Jacket" "seconds" "I") (List.mem_of_getElem? (i := 4) rfl)) (fun _ h9 => h9) rfl dX7_casesBy_29 ?_
  refine zc_VN (As := [.int 1, .int 0, .int 60]) (rest := []) ⟨hx, hb, hml, hown, hts⟩ (c_most_1 l D cI cJ cZ cP cS w0 (60) ) ⟨(va_cnB 3 hts gX7_casesBy_X5_most_n208 rfl rfl rfl (hN.1 (RX7, 208, yX5_most) (List.mem_of_getElem? (i := 10) rfl)) (hts _ (List.mem_of_getElem? (i := 8) rfl)) (by decide +kernel) ⟨Nat.le_of_ble_eq_true rfl, Nat.le_of_ble_eq_true rfl⟩), (hts _ (List.mem_of_getElem? (i := 43) rfl)), (hts _ (List.mem_of_getElem? (i := 44) rfl))⟩ hK hN (hZ.kept hS) hP [] rfl (va_recv hK hP (ci := 5) (q0 := 1) rfl rfl) rfl hl.1 rfl (Nat.le_of_ble_eq_true rfl) dX7_casesBy_32 ⟨Nat.le_of_ble_eq_true rfl, Nat.le_of_ble_eq_true rfl⟩ (fun r_6 hr_6 => ?_)
  obtain rfl := hr_6
  exact W.iret (v := 12) hx hb hr (fun t ht hW => ⟨⟨12, (q_3, q_4, q_5), rfl, rfl, by rw [ht]; exact hP.sub (ws' := [(x0, .inr (7, [.ref xs, .ref j0, .ref k0, .ref w0, .ref rd, .ref mv, .ref xr, .int 0, .int (-1)])), (w0, .inr (5, [.ref wk, .ref wl, .ref wc, .ref wp, .int 0, .int h, .int 0])), (wk, .inl (cI, 125, .inl q_3)), (wl, .inl (cI, 125, .inl q_4)), (wc, .inl (cI, 3, .inl q_5)), (j0, .inr (0, [.ref z0, .ref jp, .ref jc, .int 0, .int 0, .int 0, .int 60, .int 0, .int 1])), (jc, .inl (cI, 3, .inl (zL3 5 10 50)))]) [0, 1, 2, 3, 4, 5, 6] rfl, hD.sub (ws' := [(x0, .inr (7, [.ref xs, .ref j0, .ref k0, .ref w0, .ref rd, .ref mv, .ref xr, .int 0, .int (-1)])), (w0, .inr (5, [.ref wk, .ref wl, .ref wc, .ref wp, .int 0, .int h, .int 0])), (wk, .inl (cI, 125, .inl q_3)), (wl, .inl (cI, 125, .inl q_4)), (wc, .inl (cI, 3, .inl q_5)), (j0, .inr (0, [.ref z0, .ref jp, .ref jc, .int 0, .int 0, .int 0, .int 60, .int 0, .int 1])), (jc, .inl (cI, 3, .inl (zL3 5 10 50)))]) [0, 1, 2, 3, 4, 5, 6] (by decide) rfl⟩, hS.F ht⟩) hS.2.2 dX7_casesBy_35
set_option maxHeartbeats 4000000 in
set_option maxRecDepth 100000 in
theorem c_casesBy_2 (l : Launch) (D : va_G) (cI cJ cZ cP cS : ClassId) (x0 xs j0 k0 w0 rd mv xr : Nat) (jp jc z0 zl zs : Nat) (wk wl wc wp : Nat) (fk fl fc : Nat → Int32) (cn hu lg h : Int32)  (sz : Nat) : Met l yX7_casesBy wsX7_casesBy ({ frames := 2, cells := 0, slots := 0, locals := 126 }) (va_Pc [.ref x0, .int h, .int 2] (zW D (zKT cI cJ cZ cP cS) [(x0, .inr (7, [.ref xs, .ref j0, .ref k0, .ref w0, .ref rd, .ref mv, .ref xr, .int 0, .int (-1)])), (w0, .inr (5, [.ref wk, .ref wl, .ref wc, .ref wp, .int cn, .int hu, .int lg])), (wk, .inl (cI, 125, .inl fk)), (wl, .inl (cI, 125, .inl fl)), (wc, .inl (cI, 3, .inl fc)), (j0, .inr (0, [.ref z0, .ref jp, .ref jc, .int 0, .int 0, .int 0, .int 60, .int 0, .int 1])), (jc, .inl (cI, 3, .inl (zL3 5 10 50)))] sz)) (va_Qi (fun (r : Int32) (_ : (Nat → Int32) × (Nat → Int32) × (Nat → Int32)) => r = 144) (zB D [(x0, .inr (7, [.ref xs, .ref j0, .ref k0, .ref w0, .ref rd, .ref mv, .ref xr, .int 0, .int (-1)])), (w0, .inr (5, [.ref wk, .ref wl, .ref wc, .ref wp, .int cn, .int hu, .int lg])), (wk, .inl (cI, 125, .inl fk)), (wl, .inl (cI, 125, .inl fl)), (wc, .inl (cI, 3, .inl fc)), (j0, .inr (0, [.ref z0, .ref jp, .ref jc, .int 0, .int 0, .int 0, .int 60, .int 0, .int 1])), (jc, .inl (cI, 3, .inl (zL3 5 10 50)))] sz (fun (u : (Nat → Int32) × (Nat → Int32) × (Nat → Int32)) => [(x0, .inr (7, [.ref xs, .ref j0, .ref k0, .ref w0, .ref rd, .ref mv, .ref xr, .int 0, .int (-1)])), (w0, .inr (5, [.ref wk, .ref wl, .ref wc, .ref wp, .int 0, .int h, .int 0])), (wk, .inl (cI, 125, .inl u.1)), (wl, .inl (cI, 125, .inl u.2.1)), (wc, .inl (cI, 3, .inl u.2.2)), (j0, .inr (0, [.ref z0, .ref jp, .ref jc, .int 0, .int 0, .int 0, .int 60, .int 0, .int 1])), (jc, .inl (cI, 3, .inl (zL3 5 10 50)))])) (va_A [(x0, .inr (7, [.ref xs, .ref j0, .ref k0, .ref w0, .ref rd, .ref mv, .ref xr, .int 0, .int (-1)])), (w0, .inr (5, [.ref wk, .ref wl, .ref wc, .ref wp, .int cn, .int hu, .int lg])), (wk, .inl (cI, 125, .inl fk)), (wl, .inl (cI, 125, .inl fl)), (wc, .inl (cI, 3, .inl fc)), (j0, .inr (0, [.ref z0, .ref jp, .ref jc, .int 0, .int 0, .int 0, .int 60, .int 0, .int 1])), (jc, .inl (cI, 3, .inl (zL3 5 10 50)))] sz)) 0 0 (va_A [(x0, .inr (7, [.ref xs, .ref j0, .ref k0, .ref w0, .ref rd, .ref mv, .ref xr, .int 0, .int (-1)])), (w0, .inr (5, [.ref wk, .ref wl, .ref wc, .ref wp, .int cn, .int hu, .int lg])), (wk, .inl (cI, 125, .inl fk)), (wl, .inl (cI, 125, .inl fl)), (wc, .inl (cI, 3, .inl fc)), (j0, .inr (0, [.ref z0, .ref jp, .ref jc, .int 0, .int 0, .int 0, .int 60, .int 0, .int 1])), (jc, .inl (cI, 3, .inl (zL3 5 10 50)))] sz) := by
  refine Met.ofW (cc := cX7_casesBy) (maxL := 3) (ret := (some .int)) (by decide) rfl ?_
  intro p e s m args below meth c s₁ B hml hv
  obtain ⟨rfl, hsz, hP, hK, hD0, hN, hZ⟩ := hv
  have hx := B.exec
  have hb := B.bytes
  have hr := B.returns
  have hts := atoms_spec (ws := wsX7_casesBy) B.pre
  have hown : s.vm.findClass RX7 = some m.cls := findClass_of_methodNamed B.named
  have hlocks := B.notSynchronized
  subst hsz
  have hD := hD0.self (sz := s.heap.size)
  have hA : ∀ q : Nat, s.heap.size ≤ q → va_A [(x0, .inr (7, [.ref xs, .ref j0, .ref k0, .ref w0, .ref rd, .ref mv, .ref xr, .int 0, .int (-1)])), (w0, .inr (5, [.ref wk, .ref wl, .ref wc, .ref wp, .int cn, .int hu, .int lg])), (wk, .inl (cI, 125, .inl fk)), (wl, .inl (cI, 125, .inl fl)), (wc, .inl (cI, 3, .inl fc)), (j0, .inr (0, [.ref z0, .ref jp, .ref jc, .int 0, .int 0, .int 0, .int 60, .int 0, .int 1])), (jc, .inl (cI, 3, .inl (zL3 5 10 50)))] s.heap.size q := fun q h => Or.inr h
  have hS : va_S (va_A [(x0, .inr (7, [.ref xs, .ref j0, .ref k0, .ref w0, .ref rd, .ref mv, .ref xr, .int 0, .int (-1)])), (w0, .inr (5, [.ref wk, .ref wl, .ref wc, .ref wp, .int cn, .int hu, .int lg])), (wk, .inl (cI, 125, .inl fk)), (wl, .inl (cI, 125, .inl fl)), (wc, .inl (cI, 3, .inl fc)), (j0, .inr (0, [.ref z0, .ref jp, .ref jc, .int 0, .int 0, .int 0, .int 60, .int 0, .int 1])), (jc, .inl (cI, 3, .inl (zL3 5 10 50)))] s.heap.size) s.heap s.heap [] := va_S.rf
  replace hP : va_P D vwCl _ s.heap := hP
  have hl := lv_entry ([.ref x0, .int h, .int 2]) (n := 3) (Nat.le_of_ble_eq_true rfl)
  rw [lg_entry_eq]
  generalize (lg_sl ([.ref x0, .int h, .int 2]) ++ List.replicate (3 - (lg_sl ([.ref x0, .int h, .int 2])).length) Slot.unset).toArray = ls at hl ⊢
  replace hl : lv_has ls 3 [(0, .ref x0), (1, .int h), (2, .int 2)] := hl
  refine zw_start (fun H locs hH hL => ?_)
  replace hP : va_P D vwCl [(x0, .inr (7, [.ref xs, .ref j0, .ref k0, .ref w0, .ref rd, .ref mv, .ref xr, .int 0, .int (-1)])), (w0, .inr (5, [.ref wk, .ref wl, .ref wc, .ref wp, .int cn, .int hu, .int lg])), (wk, .inl (cI, 125, .inl fk)), (wl, .inl (cI, 125, .inl fl)), (wc, .inl (cI, 3, .inl fc)), (j0, .inr (0, [.ref z0, .ref jp, .ref jc, .int 0, .int 0, .int 0, .int 60, .int 0, .int 1])), (jc, .inl (cI, 3, .inl (zL3 5 10 50)))] H := by rw [hH]; exact hP
  replace hS : va_S (va_A [(x0, .inr (7, [.ref xs, .ref j0, .ref k0, .ref w0, .ref rd, .ref mv, .ref xr, .int 0, .int (-1)])), (w0, .inr (5, [.ref wk, .ref wl, .ref wc, .ref wp, .int cn, .int hu, .int lg])), (wk, .inl (cI, 125, .inl fk)), (wl, .inl (cI, 125, .inl fl)), (wc, .inl (cI, 3, .inl fc)), (j0, .inr (0, [.ref z0, .ref jp, .ref jc, .int 0, .int 0, .int 0, .int 60, .int 0, .int 1])), (jc, .inl (cI, 3, .inl (zL3 5 10 50)))] s.heap.size) s.heap H locs := by rw [hH, hL]; exact hS
  clear hH hL
  refine lv_aload_n hx hb dX7_casesBy_0 rfl (lv_at hl 0 rfl) ?_
  refine va_get (D := D) (ci := 7) (v := .ref w0) (C := RX7) (T := TX7) (N := 9) hx hb hts hi_X7_casesBy_7 hown hK hP 0 rfl rfl 3 (by decide) (hts (.fieldLink RX7 28 "TheLiningsInIt" "ways" "LTheLiningsInIt$Ways;") (List.mem_of_getElem? (i := 1) rfl)) (fun _ h9 => h9) rfl dX7_casesBy_1 ?_
  refine lv_aload_n hx hb dX7_casesBy_4 rfl (lv_at hl 0 rfl) ?_
  refine va_get (D := D) (ci := 7) (v := .ref j0) (C := RX7) (T := TX7) (N := 9) hx hb hts hi_X7_casesBy_7 hown hK hP 0 rfl rfl 1 (by decide) (hts (.fieldLink RX7 18 "TheLiningsInIt" "now" "LTheLiningsInIt$Jacket;") (List.mem_of_getElem? (i := 2) rfl)) (fun _ h9 => h9) rfl dX7_casesBy_5 ?_
  refine lv_iload_n hx hb dX7_casesBy_8 rfl (lv_at hl 1 rfl) ?_
  refine lv_iconst (v := 1) hx hb dX7_casesBy_9 (by decide) ?_
  skip
  refine zw_Vv (As := [.ref j0, .int h, .int 1]) (rest := []) (wr := [(x0, .inr (7, [.ref xs, .ref j0, .ref k0, .ref w0, .ref rd, .ref mv, .ref xr, .int 0, .int (-1)]))]) ⟨hx, hb, hml, hown, hts⟩ (c_look l D cI cJ cZ cP cS w0 wk wl wc wp j0 jp jc z0 0 0 fk fl fc (cn) (hu) (lg) (h) (1)  H.size) (cwV 3 hts gX7_casesBy_X5_look rfl rfl rfl (by decide +kernel) ⟨Nat.le_of_ble_eq_true rfl, Nat.le_of_ble_eq_true rfl⟩) hK hN (hZ.kept hS) hP hD hS hA [1, 2, 3, 4, 5, 6] [0] rfl rfl (by decide) (by decide) (by decide) (va_recv hK hP (ci := 5) (q0 := 1) rfl rfl) rfl hl.1 rfl (Nat.le_of_ble_eq_true rfl) dX7_casesBy_10 ⟨Nat.le_of_ble_eq_true rfl, Nat.le_of_ble_eq_true rfl⟩ (fun u_2 H locs hr_1 hP hD hS => ?_)
  obtain ⟨q_3, q_4, q_5⟩ := u_2
  replace hP : va_P D vwCl [(x0, .inr (7, [.ref xs, .ref j0, .ref k0, .ref w0, .ref rd, .ref mv, .ref xr, .int 0, .int (-1)])), (w0, .inr (5, [.ref wk, .ref wl, .ref wc, .ref wp, .int 0, .int h, .int 0])), (wk, .inl (cI, 125, .inl q_3)), (wl, .inl (cI, 125, .inl q_4)), (wc, .inl (cI, 3, .inl q_5)), (j0, .inr (0, [.ref z0, .ref jp, .ref jc, .int 0, .int 0, .int 0, .int 60, .int 0, .int 1])), (jc, .inl (cI, 3, .inl (zL3 5 10 50)))] H := hP
  replace hD : va_D _ [(x0, .inr (7, [.ref xs, .ref j0, .ref k0, .ref w0, .ref rd, .ref mv, .ref xr, .int 0, .int (-1)])), (w0, .inr (5, [.ref wk, .ref wl, .ref wc, .ref wp, .int 0, .int h, .int 0])), (wk, .inl (cI, 125, .inl q_3)), (wl, .inl (cI, 125, .inl q_4)), (wc, .inl (cI, 3, .inl q_5)), (j0, .inr (0, [.ref z0, .ref jp, .ref jc, .int 0, .int 0, .int 0, .int 60, .int 0, .int 1])), (jc, .inl (cI, 3, .inl (zL3 5 10 50)))] := hD
  refine lv_aload_n hx hb dX7_casesBy_13 rfl (lv_at hl 0 rfl) ?_
  refine va_get (D := D) (ci := 7) (v := .ref w0) (C := RX7) (T := TX7) (N := 9) hx hb hts hi_X7_casesBy_7 hown hK hP 0 rfl rfl 3 (by decide) (hts (.fieldLink RX7 28 "TheLiningsInIt" "ways" "LTheLiningsInIt$Ways;") (List.mem_of_getElem? (i := 1) rfl)) (fun _ h9 => h9) rfl dX7_casesBy_14 ?_
  refine lv_iload_n hx hb dX7_casesBy_17 rfl (lv_at hl 2 rfl) ?_
  refine lv_aload_n hx hb dX7_casesBy_18 rfl (lv_at hl 0 rfl) ?_
  refine va_get (D := D) (ci := 7) (v := .ref j0) (C := RX7) (T := TX7) (N := 9) hx hb hts hi_X7_casesBy_7 hown hK hP 0 rfl rfl 1 (by decide) (hts (.fieldLink RX7 18 "TheLiningsInIt" "now" "LTheLiningsInIt$Jacket;") (List.mem_of_getElem? (i := 2) rfl)) (fun _ h9 => h9) rfl dX7_casesBy_19 ?_
  refine va_get (D := D) (ci := 0) (v := .int 0) (C := RX0) (T := TX0) (N := 9) hx hb hts hi_X7_casesBy_0 hown hK hP 5 rfl rfl 4 (by decide) (hts (.fieldLink RX7 199 "TheLiningsInIt$Jacket" "depth" "I") (List.mem_of_getElem? (i := 3) rfl)) (fun _ h9 => h9) rfl dX7_casesBy_22 ?_
  refine lv_aload_n hx hb dX7_casesBy_25 rfl (lv_at hl 0 rfl) ?_
  refine va_get (D := D) (ci := 7) (v := .ref j0) (C := RX7) (T := TX7) (N := 9) hx hb hts hi_X7_casesBy_7 hown hK hP 0 rfl rfl 1 (by decide) (hts (.fieldLink RX7 18 "TheLiningsInIt" "now" "LTheLiningsInIt$Jacket;") (List.mem_of_getElem? (i := 2) rfl)) (fun _ h9 => h9) rfl dX7_casesBy_26 ?_
  refine va_get (D := D) (ci := 0) (v := .int 60) (C := RX0) (T := TX0) (N := 9) hx hb hts hi_X7_casesBy_0 hown hK hP 5 rfl rfl 6 (by decide) (hts (.fieldLink RX7 202 "TheLiningsInIt$Jacket" "seconds" "I") (List.mem_of_getElem? (i := 4) rfl)) (fun _ h9 => h9) rfl dX7_casesBy_29 ?_
  refine zc_VN (As := [.int 2, .int 0, .int 60]) (rest := []) ⟨hx, hb, hml, hown, hts⟩ (c_most_2 l D cI cJ cZ cP cS w0 (60) ) ⟨(va_cnB 3 hts gX7_casesBy_X5_most_n208 rfl rfl rfl (hN.1 (RX7, 208, yX5_most) (List.mem_of_getElem? (i := 10) rfl)) (hts _ (List.mem_of_getElem? (i := 8) rfl)) (by decide +kernel) ⟨Nat.le_of_ble_eq_true rfl, Nat.le_of_ble_eq_true rfl⟩), (hts _ (List.mem_of_getElem? (i := 43) rfl)), (hts _ (List.mem_of_getElem? (i := 44) rfl))⟩ hK hN (hZ.kept hS) hP [] rfl (va_recv hK hP (ci := 5) (q0 := 1) rfl rfl) rfl hl.1 rfl (Nat.le_of_ble_eq_true rfl) dX7_casesBy_32 ⟨Nat.le_of_ble_eq_true rfl, Nat.le_of_ble_eq_true rfl⟩ (fun r_6 hr_6 => ?_)
  obtain rfl := hr_6
  exact W.iret (v := 144) hx hb hr (fun t ht hW => ⟨⟨144, (q_3, q_4, q_5), rfl, rfl, by rw [ht]; exact hP.sub (ws' := [(x0, .inr (7, [.ref xs, .ref j0, .ref k0, .ref w0, .ref rd, .ref mv, .ref xr, .int 0, .int (-1)])), (w0, .inr (5, [.ref wk, .ref wl, .ref wc, .ref wp, .int 0, .int h, .int 0])), (wk, .inl (cI, 125, .inl q_3)), (wl, .inl (cI, 125, .inl q_4)), (wc, .inl (cI, 3, .inl q_5)), (j0, .inr (0, [.ref z0, .ref jp, .ref jc, .int 0, .int 0, .int 0, .int 60, .int 0, .int 1])), (jc, .inl (cI, 3, .inl (zL3 5 10 50)))]) [0, 1, 2, 3, 4, 5, 6] rfl, hD.sub (ws' := [(x0, .inr (7, [.ref xs, .ref j0, .ref k0, .ref w0, .ref rd, .ref mv, .ref xr, .int 0, .int (-1)])), (w0, .inr (5, [.ref wk, .ref wl, .ref wc, .ref wp, .int 0, .int h, .int 0])), (wk, .inl (cI, 125, .inl q_3)), (wl, .inl (cI, 125, .inl q_4)), (wc, .inl (cI, 3, .inl q_5)), (j0, .inr (0, [.ref z0, .ref jp, .ref jc, .int 0, .int 0, .int 0, .int 60, .int 0, .int 1])), (jc, .inl (cI, 3, .inl (zL3 5 10 50)))]) [0, 1, 2, 3, 4, 5, 6] (by decide) rfl⟩, hS.F ht⟩) hS.2.2 dX7_casesBy_35
set_option maxHeartbeats 4000000 in
set_option maxRecDepth 100000 in
theorem c_casesBy_3 (l : Launch) (D : va_G) (cI cJ cZ cP cS : ClassId) (x0 xs j0 k0 w0 rd mv xr : Nat) (jp jc z0 zl zs : Nat) (wk wl wc wp : Nat) (fk fl fc : Nat → Int32) (cn hu lg h : Int32)  (sz : Nat) : Met l yX7_casesBy wsX7_casesBy ({ frames := 2, cells := 0, slots := 0, locals := 126 }) (va_Pc [.ref x0, .int h, .int 3] (zW D (zKT cI cJ cZ cP cS) [(x0, .inr (7, [.ref xs, .ref j0, .ref k0, .ref w0, .ref rd, .ref mv, .ref xr, .int 0, .int (-1)])), (w0, .inr (5, [.ref wk, .ref wl, .ref wc, .ref wp, .int cn, .int hu, .int lg])), (wk, .inl (cI, 125, .inl fk)), (wl, .inl (cI, 125, .inl fl)), (wc, .inl (cI, 3, .inl fc)), (j0, .inr (0, [.ref z0, .ref jp, .ref jc, .int 0, .int 0, .int 0, .int 60, .int 0, .int 1])), (jc, .inl (cI, 3, .inl (zL3 5 10 50)))] sz)) (va_Qi (fun (r : Int32) (_ : (Nat → Int32) × (Nat → Int32) × (Nat → Int32)) => r = 1728) (zB D [(x0, .inr (7, [.ref xs, .ref j0, .ref k0, .ref w0, .ref rd, .ref mv, .ref xr, .int 0, .int (-1)])), (w0, .inr (5, [.ref wk, .ref wl, .ref wc, .ref wp, .int cn, .int hu, .int lg])), (wk, .inl (cI, 125, .inl fk)), (wl, .inl (cI, 125, .inl fl)), (wc, .inl (cI, 3, .inl fc)), (j0, .inr (0, [.ref z0, .ref jp, .ref jc, .int 0, .int 0, .int 0, .int 60, .int 0, .int 1])), (jc, .inl (cI, 3, .inl (zL3 5 10 50)))] sz (fun (u : (Nat → Int32) × (Nat → Int32) × (Nat → Int32)) => [(x0, .inr (7, [.ref xs, .ref j0, .ref k0, .ref w0, .ref rd, .ref mv, .ref xr, .int 0, .int (-1)])), (w0, .inr (5, [.ref wk, .ref wl, .ref wc, .ref wp, .int 0, .int h, .int 0])), (wk, .inl (cI, 125, .inl u.1)), (wl, .inl (cI, 125, .inl u.2.1)), (wc, .inl (cI, 3, .inl u.2.2)), (j0, .inr (0, [.ref z0, .ref jp, .ref jc, .int 0, .int 0, .int 0, .int 60, .int 0, .int 1])), (jc, .inl (cI, 3, .inl (zL3 5 10 50)))])) (va_A [(x0, .inr (7, [.ref xs, .ref j0, .ref k0, .ref w0, .ref rd, .ref mv, .ref xr, .int 0, .int (-1)])), (w0, .inr (5, [.ref wk, .ref wl, .ref wc, .ref wp, .int cn, .int hu, .int lg])), (wk, .inl (cI, 125, .inl fk)), (wl, .inl (cI, 125, .inl fl)), (wc, .inl (cI, 3, .inl fc)), (j0, .inr (0, [.ref z0, .ref jp, .ref jc, .int 0, .int 0, .int 0, .int 60, .int 0, .int 1])), (jc, .inl (cI, 3, .inl (zL3 5 10 50)))] sz)) 0 0 (va_A [(x0, .inr (7, [.ref xs, .ref j0, .ref k0, .ref w0, .ref rd, .ref mv, .ref xr, .int 0, .int (-1)])), (w0, .inr (5, [.ref wk, .ref wl, .ref wc, .ref wp, .int cn, .int hu, .int lg])), (wk, .inl (cI, 125, .inl fk)), (wl, .inl (cI, 125, .inl fl)), (wc, .inl (cI, 3, .inl fc)), (j0, .inr (0, [.ref z0, .ref jp, .ref jc, .int 0, .int 0, .int 0, .int 60, .int 0, .int 1])), (jc, .inl (cI, 3, .inl (zL3 5 10 50)))] sz) := by
  refine Met.ofW (cc := cX7_casesBy) (maxL := 3) (ret := (some .int)) (by decide) rfl ?_
  intro p e s m args below meth c s₁ B hml hv
  obtain ⟨rfl, hsz, hP, hK, hD0, hN, hZ⟩ := hv
  have hx := B.exec
  have hb := B.bytes
  have hr := B.returns
  have hts := atoms_spec (ws := wsX7_casesBy) B.pre
  have hown : s.vm.findClass RX7 = some m.cls := findClass_of_methodNamed B.named
  have hlocks := B.notSynchronized
  subst hsz
  have hD := hD0.self (sz := s.heap.size)
  have hA : ∀ q : Nat, s.heap.size ≤ q → va_A [(x0, .inr (7, [.ref xs, .ref j0, .ref k0, .ref w0, .ref rd, .ref mv, .ref xr, .int 0, .int (-1)])), (w0, .inr (5, [.ref wk, .ref wl, .ref wc, .ref wp, .int cn, .int hu, .int lg])), (wk, .inl (cI, 125, .inl fk)), (wl, .inl (cI, 125, .inl fl)), (wc, .inl (cI, 3, .inl fc)), (j0, .inr (0, [.ref z0, .ref jp, .ref jc, .int 0, .int 0, .int 0, .int 60, .int 0, .int 1])), (jc, .inl (cI, 3, .inl (zL3 5 10 50)))] s.heap.size q := fun q h => Or.inr h
  have hS : va_S (va_A [(x0, .inr (7, [.ref xs, .ref j0, .ref k0, .ref w0, .ref rd, .ref mv, .ref xr, .int 0, .int (-1)])), (w0, .inr (5, [.ref wk, .ref wl, .ref wc, .ref wp, .int cn, .int hu, .int lg])), (wk, .inl (cI, 125, .inl fk)), (wl, .inl (cI, 125, .inl fl)), (wc, .inl (cI, 3, .inl fc)), (j0, .inr (0, [.ref z0, .ref jp, .ref jc, .int 0, .int 0, .int 0, .int 60, .int 0, .int 1])), (jc, .inl (cI, 3, .inl (zL3 5 10 50)))] s.heap.size) s.heap s.heap [] := va_S.rf
  replace hP : va_P D vwCl _ s.heap := hP
  have hl := lv_entry ([.ref x0, .int h, .int 3]) (n := 3) (Nat.le_of_ble_eq_true rfl)
  rw [lg_entry_eq]
  generalize (lg_sl ([.ref x0, .int h, .int 3]) ++ List.replicate (3 - (lg_sl ([.ref x0, .int h, .int 3])).length) Slot.unset).toArray = ls at hl ⊢
  replace hl : lv_has ls 3 [(0, .ref x0), (1, .int h), (2, .int 3)] := hl
  refine zw_start (fun H locs hH hL => ?_)
  replace hP : va_P D vwCl [(x0, .inr (7, [.ref xs, .ref j0, .ref k0, .ref w0, .ref rd, .ref mv, .ref xr, .int 0, .int (-1)])), (w0, .inr (5, [.ref wk, .ref wl, .ref wc, .ref wp, .int cn, .int hu, .int lg])), (wk, .inl (cI, 125, .inl fk)), (wl, .inl (cI, 125, .inl fl)), (wc, .inl (cI, 3, .inl fc)), (j0, .inr (0, [.ref z0, .ref jp, .ref jc, .int 0, .int 0, .int 0, .int 60, .int 0, .int 1])), (jc, .inl (cI, 3, .inl (zL3 5 10 50)))] H := by rw [hH]; exact hP
  replace hS : va_S (va_A [(x0, .inr (7, [.ref xs, .ref j0, .ref k0, .ref w0, .ref rd, .ref mv, .ref xr, .int 0, .int (-1)])), (w0, .inr (5, [.ref wk, .ref wl, .ref wc, .ref wp, .int cn, .int hu, .int lg])), (wk, .inl (cI, 125, .inl fk)), (wl, .inl (cI, 125, .inl fl)), (wc, .inl (cI, 3, .inl fc)), (j0, .inr (0, [.ref z0, .ref jp, .ref jc, .int 0, .int 0, .int 0, .int 60, .int 0, .int 1])), (jc, .inl (cI, 3, .inl (zL3 5 10 50)))] s.heap.size) s.heap H locs := by rw [hH, hL]; exact hS
  clear hH hL
  refine lv_aload_n hx hb dX7_casesBy_0 rfl (lv_at hl 0 rfl) ?_
  refine va_get (D := D) (ci := 7) (v := .ref w0) (C := RX7) (T := TX7) (N := 9) hx hb hts hi_X7_casesBy_7 hown hK hP 0 rfl rfl 3 (by decide) (hts (.fieldLink RX7 28 "TheLiningsInIt" "ways" "LTheLiningsInIt$Ways;") (List.mem_of_getElem? (i := 1) rfl)) (fun _ h9 => h9) rfl dX7_casesBy_1 ?_
  refine lv_aload_n hx hb dX7_casesBy_4 rfl (lv_at hl 0 rfl) ?_
  refine va_get (D := D) (ci := 7) (v := .ref j0) (C := RX7) (T := TX7) (N := 9) hx hb hts hi_X7_casesBy_7 hown hK hP 0 rfl rfl 1 (by decide) (hts (.fieldLink RX7 18 "TheLiningsInIt" "now" "LTheLiningsInIt$Jacket;") (List.mem_of_getElem? (i := 2) rfl)) (fun _ h9 => h9) rfl dX7_casesBy_5 ?_
  refine lv_iload_n hx hb dX7_casesBy_8 rfl (lv_at hl 1 rfl) ?_
  refine lv_iconst (v := 1) hx hb dX7_casesBy_9 (by decide) ?_
  skip
  refine zw_Vv (As := [.ref j0, .int h, .int 1]) (rest := []) (wr := [(x0, .inr (7, [.ref xs, .ref j0, .ref k0, .ref w0, .ref rd, .ref mv, .ref xr, .int 0, .int (-1)]))]) ⟨hx, hb, hml, hown, hts⟩ (c_look l D cI cJ cZ cP cS w0 wk wl wc wp j0 jp jc z0 0 0 fk fl fc (cn) (hu) (lg) (h) (1)  H.size) (cwV 3 hts gX7_casesBy_X5_look rfl rfl rfl (by decide +kernel) ⟨Nat.le_of_ble_eq_true rfl, Nat.le_of_ble_eq_true rfl⟩) hK hN (hZ.kept hS) hP hD hS hA [1, 2, 3, 4, 5, 6] [0] rfl rfl (by decide) (by decide) (by decide) (va_recv hK hP (ci := 5) (q0 := 1) rfl rfl) rfl hl.1 rfl (Nat.le_of_ble_eq_true rfl) dX7_casesBy_10 ⟨Nat.le_of_ble_eq_true rfl, Nat.le_of_ble_eq_true rfl⟩ (fun u_2 H locs hr_1 hP hD hS => ?_)
  obtain ⟨q_3, q_4, q_5⟩ := u_2
  replace hP : va_P D vwCl [(x0, .inr (7, [.ref xs, .ref j0, .ref k0, .ref w0, .ref rd, .ref mv, .ref xr, .int 0, .int (-1)])), (w0, .inr (5, [.ref wk, .ref wl, .ref wc, .ref wp, .int 0, .int h, .int 0])), (wk, .inl (cI, 125, .inl q_3)), (wl, .inl (cI, 125, .inl q_4)), (wc, .inl (cI, 3, .inl q_5)), (j0, .inr (0, [.ref z0, .ref jp, .ref jc, .int 0, .int 0, .int 0, .int 60, .int 0, .int 1])), (jc, .inl (cI, 3, .inl (zL3 5 10 50)))] H := hP
  replace hD : va_D _ [(x0, .inr (7, [.ref xs, .ref j0, .ref k0, .ref w0, .ref rd, .ref mv, .ref xr, .int 0, .int (-1)])), (w0, .inr (5, [.ref wk, .ref wl, .ref wc, .ref wp, .int 0, .int h, .int 0])), (wk, .inl (cI, 125, .inl q_3)), (wl, .inl (cI, 125, .inl q_4)), (wc, .inl (cI, 3, .inl q_5)), (j0, .inr (0, [.ref z0, .ref jp, .ref jc, .int 0, .int 0, .int 0, .int 60, .int 0, .int 1])), (jc, .inl (cI, 3, .inl (zL3 5 10 50)))] := hD
  refine lv_aload_n hx hb dX7_casesBy_13 rfl (lv_at hl 0 rfl) ?_
  refine va_get (D := D) (ci := 7) (v := .ref w0) (C := RX7) (T := TX7) (N := 9) hx hb hts hi_X7_casesBy_7 hown hK hP 0 rfl rfl 3 (by decide) (hts (.fieldLink RX7 28 "TheLiningsInIt" "ways" "LTheLiningsInIt$Ways;") (List.mem_of_getElem? (i := 1) rfl)) (fun _ h9 => h9) rfl dX7_casesBy_14 ?_
  refine lv_iload_n hx hb dX7_casesBy_17 rfl (lv_at hl 2 rfl) ?_
  refine lv_aload_n hx hb dX7_casesBy_18 rfl (lv_at hl 0 rfl) ?_
  refine va_get (D := D) (ci := 7) (v := .ref j0) (C := RX7) (T := TX7) (N := 9) hx hb hts hi_X7_casesBy_7 hown hK hP 0 rfl rfl 1 (by decide) (hts (.fieldLink RX7 18 "TheLiningsInIt" "now" "LTheLiningsInIt$Jacket;") (List.mem_of_getElem? (i := 2) rfl)) (fun _ h9 => h9) rfl dX7_casesBy_19 ?_
  refine va_get (D := D) (ci := 0) (v := .int 0) (C := RX0) (T := TX0) (N := 9) hx hb hts hi_X7_casesBy_0 hown hK hP 5 rfl rfl 4 (by decide) (hts (.fieldLink RX7 199 "TheLiningsInIt$Jacket" "depth" "I") (List.mem_of_getElem? (i := 3) rfl)) (fun _ h9 => h9) rfl dX7_casesBy_22 ?_
  refine lv_aload_n hx hb dX7_casesBy_25 rfl (lv_at hl 0 rfl) ?_
  refine va_get (D := D) (ci := 7) (v := .ref j0) (C := RX7) (T := TX7) (N := 9) hx hb hts hi_X7_casesBy_7 hown hK hP 0 rfl rfl 1 (by decide) (hts (.fieldLink RX7 18 "TheLiningsInIt" "now" "LTheLiningsInIt$Jacket;") (List.mem_of_getElem? (i := 2) rfl)) (fun _ h9 => h9) rfl dX7_casesBy_26 ?_
  refine va_get (D := D) (ci := 0) (v := .int 60) (C := RX0) (T := TX0) (N := 9) hx hb hts hi_X7_casesBy_0 hown hK hP 5 rfl rfl 6 (by decide) (hts (.fieldLink RX7 202 "TheLiningsInIt$Jacket" "seconds" "I") (List.mem_of_getElem? (i := 4) rfl)) (fun _ h9 => h9) rfl dX7_casesBy_29 ?_
  refine zc_VN (As := [.int 3, .int 0, .int 60]) (rest := []) ⟨hx, hb, hml, hown, hts⟩ (c_most_3 l D cI cJ cZ cP cS w0 (60) ) ⟨(va_cnB 3 hts gX7_casesBy_X5_most_n208 rfl rfl rfl (hN.1 (RX7, 208, yX5_most) (List.mem_of_getElem? (i := 10) rfl)) (hts _ (List.mem_of_getElem? (i := 8) rfl)) (by decide +kernel) ⟨Nat.le_of_ble_eq_true rfl, Nat.le_of_ble_eq_true rfl⟩), (hts _ (List.mem_of_getElem? (i := 43) rfl)), (hts _ (List.mem_of_getElem? (i := 44) rfl))⟩ hK hN (hZ.kept hS) hP [] rfl (va_recv hK hP (ci := 5) (q0 := 1) rfl rfl) rfl hl.1 rfl (Nat.le_of_ble_eq_true rfl) dX7_casesBy_32 ⟨Nat.le_of_ble_eq_true rfl, Nat.le_of_ble_eq_true rfl⟩ (fun r_6 hr_6 => ?_)
  obtain rfl := hr_6
  exact W.iret (v := 1728) hx hb hr (fun t ht hW => ⟨⟨1728, (q_3, q_4, q_5), rfl, rfl, by rw [ht]; exact hP.sub (ws' := [(x0, .inr (7, [.ref xs, .ref j0, .ref k0, .ref w0, .ref rd, .ref mv, .ref xr, .int 0, .int (-1)])), (w0, .inr (5, [.ref wk, .ref wl, .ref wc, .ref wp, .int 0, .int h, .int 0])), (wk, .inl (cI, 125, .inl q_3)), (wl, .inl (cI, 125, .inl q_4)), (wc, .inl (cI, 3, .inl q_5)), (j0, .inr (0, [.ref z0, .ref jp, .ref jc, .int 0, .int 0, .int 0, .int 60, .int 0, .int 1])), (jc, .inl (cI, 3, .inl (zL3 5 10 50)))]) [0, 1, 2, 3, 4, 5, 6] rfl, hD.sub (ws' := [(x0, .inr (7, [.ref xs, .ref j0, .ref k0, .ref w0, .ref rd, .ref mv, .ref xr, .int 0, .int (-1)])), (w0, .inr (5, [.ref wk, .ref wl, .ref wc, .ref wp, .int 0, .int h, .int 0])), (wk, .inl (cI, 125, .inl q_3)), (wl, .inl (cI, 125, .inl q_4)), (wc, .inl (cI, 3, .inl q_5)), (j0, .inr (0, [.ref z0, .ref jp, .ref jc, .int 0, .int 0, .int 0, .int 60, .int 0, .int 1])), (jc, .inl (cI, 3, .inl (zL3 5 10 50)))]) [0, 1, 2, 3, 4, 5, 6] (by decide) rfl⟩, hS.F ht⟩) hS.2.2 dX7_casesBy_35
set_option maxHeartbeats 4000000 in
set_option maxRecDepth 100000 in
theorem c_casesBy_4 (l : Launch) (D : va_G) (cI cJ cZ cP cS : ClassId) (x0 xs j0 k0 w0 rd mv xr : Nat) (jp jc z0 zl zs : Nat) (wk wl wc wp : Nat) (fk fl fc : Nat → Int32) (cn hu lg h : Int32)  (sz : Nat) : Met l yX7_casesBy wsX7_casesBy ({ frames := 2, cells := 0, slots := 0, locals := 126 }) (va_Pc [.ref x0, .int h, .int 4] (zW D (zKT cI cJ cZ cP cS) [(x0, .inr (7, [.ref xs, .ref j0, .ref k0, .ref w0, .ref rd, .ref mv, .ref xr, .int 0, .int (-1)])), (w0, .inr (5, [.ref wk, .ref wl, .ref wc, .ref wp, .int cn, .int hu, .int lg])), (wk, .inl (cI, 125, .inl fk)), (wl, .inl (cI, 125, .inl fl)), (wc, .inl (cI, 3, .inl fc)), (j0, .inr (0, [.ref z0, .ref jp, .ref jc, .int 0, .int 0, .int 0, .int 60, .int 0, .int 1])), (jc, .inl (cI, 3, .inl (zL3 5 10 50)))] sz)) (va_Qi (fun (r : Int32) (_ : (Nat → Int32) × (Nat → Int32) × (Nat → Int32)) => r = 20736) (zB D [(x0, .inr (7, [.ref xs, .ref j0, .ref k0, .ref w0, .ref rd, .ref mv, .ref xr, .int 0, .int (-1)])), (w0, .inr (5, [.ref wk, .ref wl, .ref wc, .ref wp, .int cn, .int hu, .int lg])), (wk, .inl (cI, 125, .inl fk)), (wl, .inl (cI, 125, .inl fl)), (wc, .inl (cI, 3, .inl fc)), (j0, .inr (0, [.ref z0, .ref jp, .ref jc, .int 0, .int 0, .int 0, .int 60, .int 0, .int 1])), (jc, .inl (cI, 3, .inl (zL3 5 10 50)))] sz (fun (u : (Nat → Int32) × (Nat → Int32) × (Nat → Int32)) => [(x0, .inr (7, [.ref xs, .ref j0, .ref k0, .ref w0, .ref rd, .ref mv, .ref xr, .int 0, .int (-1)])), (w0, .inr (5, [.ref wk, .ref wl, .ref wc, .ref wp, .int 0, .int h, .int 0])), (wk, .inl (cI, 125, .inl u.1)), (wl, .inl (cI, 125, .inl u.2.1)), (wc, .inl (cI, 3, .inl u.2.2)), (j0, .inr (0, [.ref z0, .ref jp, .ref jc, .int 0, .int 0, .int 0, .int 60, .int 0, .int 1])), (jc, .inl (cI, 3, .inl (zL3 5 10 50)))])) (va_A [(x0, .inr (7, [.ref xs, .ref j0, .ref k0, .ref w0, .ref rd, .ref mv, .ref xr, .int 0, .int (-1)])), (w0, .inr (5, [.ref wk, .ref wl, .ref wc, .ref wp, .int cn, .int hu, .int lg])), (wk, .inl (cI, 125, .inl fk)), (wl, .inl (cI, 125, .inl fl)), (wc, .inl (cI, 3, .inl fc)), (j0, .inr (0, [.ref z0, .ref jp, .ref jc, .int 0, .int 0, .int 0, .int 60, .int 0, .int 1])), (jc, .inl (cI, 3, .inl (zL3 5 10 50)))] sz)) 0 0 (va_A [(x0, .inr (7, [.ref xs, .ref j0, .ref k0, .ref w0, .ref rd, .ref mv, .ref xr, .int 0, .int (-1)])), (w0, .inr (5, [.ref wk, .ref wl, .ref wc, .ref wp, .int cn, .int hu, .int lg])), (wk, .inl (cI, 125, .inl fk)), (wl, .inl (cI, 125, .inl fl)), (wc, .inl (cI, 3, .inl fc)), (j0, .inr (0, [.ref z0, .ref jp, .ref jc, .int 0, .int 0, .int 0, .int 60, .int 0, .int 1])), (jc, .inl (cI, 3, .inl (zL3 5 10 50)))] sz) := by
  refine Met.ofW (cc := cX7_casesBy) (maxL := 3) (ret := (some .int)) (by decide) rfl ?_
  intro p e s m args below meth c s₁ B hml hv
  obtain ⟨rfl, hsz, hP, hK, hD0, hN, hZ⟩ := hv
  have hx := B.exec
  have hb := B.bytes
  have hr := B.returns
  have hts := atoms_spec (ws := wsX7_casesBy) B.pre
  have hown : s.vm.findClass RX7 = some m.cls := findClass_of_methodNamed B.named
  have hlocks := B.notSynchronized
  subst hsz
  have hD := hD0.self (sz := s.heap.size)
  have hA : ∀ q : Nat, s.heap.size ≤ q → va_A [(x0, .inr (7, [.ref xs, .ref j0, .ref k0, .ref w0, .ref rd, .ref mv, .ref xr, .int 0, .int (-1)])), (w0, .inr (5, [.ref wk, .ref wl, .ref wc, .ref wp, .int cn, .int hu, .int lg])), (wk, .inl (cI, 125, .inl fk)), (wl, .inl (cI, 125, .inl fl)), (wc, .inl (cI, 3, .inl fc)), (j0, .inr (0, [.ref z0, .ref jp, .ref jc, .int 0, .int 0, .int 0, .int 60, .int 0, .int 1])), (jc, .inl (cI, 3, .inl (zL3 5 10 50)))] s.heap.size q := fun q h => Or.inr h
  have hS : va_S (va_A [(x0, .inr (7, [.ref xs, .ref j0, .ref k0, .ref w0, .ref rd, .ref mv, .ref xr, .int 0, .int (-1)])), (w0, .inr (5, [.ref wk, .ref wl, .ref wc, .ref wp, .int cn, .int hu, .int lg])), (wk, .inl (cI, 125, .inl fk)), (wl, .inl (cI, 125, .inl fl)), (wc, .inl (cI, 3, .inl fc)), (j0, .inr (0, [.ref z0, .ref jp, .ref jc, .int 0, .int 0, .int 0, .int 60, .int 0, .int 1])), (jc, .inl (cI, 3, .inl (zL3 5 10 50)))] s.heap.size) s.heap s.heap [] := va_S.rf
  replace hP : va_P D vwCl _ s.heap := hP
  have hl := lv_entry ([.ref x0, .int h, .int 4]) (n := 3) (Nat.le_of_ble_eq_true rfl)
  rw [lg_entry_eq]
  generalize (lg_sl ([.ref x0, .int h, .int 4]) ++ List.replicate (3 - (lg_sl ([.ref x0, .int h, .int 4])).length) Slot.unset).toArray = ls at hl ⊢
  replace hl : lv_has ls 3 [(0, .ref x0), (1, .int h), (2, .int 4)] := hl
  refine zw_start (fun H locs hH hL => ?_)
  replace hP : va_P D vwCl [(x0, .inr (7, [.ref xs, .ref j0, .ref k0, .ref w0, .ref rd, .ref mv, .ref xr, .int 0, .int (-1)])), (w0, .inr (5, [.ref wk, .ref wl, .ref wc, .ref wp, .int cn, .int hu, .int lg])), (wk, .inl (cI, 125, .inl fk)), (wl, .inl (cI, 125, .inl fl)), (wc, .inl (cI, 3, .inl fc)), (j0, .inr (0, [.ref z0, .ref jp, .ref jc, .int 0, .int 0, .int 0, .int 60, .int 0, .int 1])), (jc, .inl (cI, 3, .inl (zL3 5 10 50)))] H := by rw [hH]; exact hP
  replace hS : va_S (va_A [(x0, .inr (7, [.ref xs, .ref j0, .ref k0, .ref w0, .ref rd, .ref mv, .ref xr, .int 0, .int (-1)])), (w0, .inr (5, [.ref wk, .ref wl, .ref wc, .ref wp, .int cn, .int hu, .int lg])), (wk, .inl (cI, 125, .inl fk)), (wl, .inl (cI, 125, .inl fl)), (wc, .inl (cI, 3, .inl fc)), (j0, .inr (0, [.ref z0, .ref jp, .ref jc, .int 0, .int 0, .int 0, .int 60, .int 0, .int 1])), (jc, .inl (cI, 3, .inl (zL3 5 10 50)))] s.heap.size) s.heap H locs := by rw [hH, hL]; exact hS
  clear hH hL
  refine lv_aload_n hx hb dX7_casesBy_0 rfl (lv_at hl 0 rfl) ?_
  refine va_get (D := D) (ci := 7) (v := .ref w0) (C := RX7) (T := TX7) (N := 9) hx hb hts hi_X7_casesBy_7 hown hK hP 0 rfl rfl 3 (by decide) (hts (.fieldLink RX7 28 "TheLiningsInIt" "ways" "LTheLiningsInIt$Ways;") (List.mem_of_getElem? (i := 1) rfl)) (fun _ h9 => h9) rfl dX7_casesBy_1 ?_
  refine lv_aload_n hx hb dX7_casesBy_4 rfl (lv_at hl 0 rfl) ?_
  refine va_get (D := D) (ci := 7) (v := .ref j0) (C := RX7) (T := TX7) (N := 9) hx hb hts hi_X7_casesBy_7 hown hK hP 0 rfl rfl 1 (by decide) (hts (.fieldLink RX7 18 "TheLiningsInIt" "now" "LTheLiningsInIt$Jacket;") (List.mem_of_getElem? (i := 2) rfl)) (fun _ h9 => h9) rfl dX7_casesBy_5 ?_
  refine lv_iload_n hx hb dX7_casesBy_8 rfl (lv_at hl 1 rfl) ?_
  refine lv_iconst (v := 1) hx hb dX7_casesBy_9 (by decide) ?_
  skip
  refine zw_Vv (As := [.ref j0, .int h, .int 1]) (rest := []) (wr := [(x0, .inr (7, [.ref xs, .ref j0, .ref k0, .ref w0, .ref rd, .ref mv, .ref xr, .int 0, .int (-1)]))]) ⟨hx, hb, hml, hown, hts⟩ (c_look l D cI cJ cZ cP cS w0 wk wl wc wp j0 jp jc z0 0 0 fk fl fc (cn) (hu) (lg) (h) (1)  H.size) (cwV 3 hts gX7_casesBy_X5_look rfl rfl rfl (by decide +kernel) ⟨Nat.le_of_ble_eq_true rfl, Nat.le_of_ble_eq_true rfl⟩) hK hN (hZ.kept hS) hP hD hS hA [1, 2, 3, 4, 5, 6] [0] rfl rfl (by decide) (by decide) (by decide) (va_recv hK hP (ci := 5) (q0 := 1) rfl rfl) rfl hl.1 rfl (Nat.le_of_ble_eq_true rfl) dX7_casesBy_10 ⟨Nat.le_of_ble_eq_true rfl, Nat.le_of_ble_eq_true rfl⟩ (fun u_2 H locs hr_1 hP hD hS => ?_)
  obtain ⟨q_3, q_4, q_5⟩ := u_2
  replace hP : va_P D vwCl [(x0, .inr (7, [.ref xs, .ref j0, .ref k0, .ref w0, .ref rd, .ref mv, .ref xr, .int 0, .int (-1)])), (w0, .inr (5, [.ref wk, .ref wl, .ref wc, .ref wp, .int 0, .int h, .int 0])), (wk, .inl (cI, 125, .inl q_3)), (wl, .inl (cI, 125, .inl q_4)), (wc, .inl (cI, 3, .inl q_5)), (j0, .inr (0, [.ref z0, .ref jp, .ref jc, .int 0, .int 0, .int 0, .int 60, .int 0, .int 1])), (jc, .inl (cI, 3, .inl (zL3 5 10 50)))] H := hP
  replace hD : va_D _ [(x0, .inr (7, [.ref xs, .ref j0, .ref k0, .ref w0, .ref rd, .ref mv, .ref xr, .int 0, .int (-1)])), (w0, .inr (5, [.ref wk, .ref wl, .ref wc, .ref wp, .int 0, .int h, .int 0])), (wk, .inl (cI, 125, .inl q_3)), (wl, .inl (cI, 125, .inl q_4)), (wc, .inl (cI, 3, .inl q_5)), (j0, .inr (0, [.ref z0, .ref jp, .ref jc, .int 0, .int 0, .int 0, .int 60, .int 0, .int 1])), (jc, .inl (cI, 3, .inl (zL3 5 10 50)))] := hD
  refine lv_aload_n hx hb dX7_casesBy_13 rfl (lv_at hl 0 rfl) ?_
  refine va_get (D := D) (ci := 7) (v := .ref w0) (C := RX7) (T := TX7) (N := 9) hx hb hts hi_X7_casesBy_7 hown hK hP 0 rfl rfl 3 (by decide) (hts (.fieldLink RX7 28 "TheLiningsInIt" "ways" "LTheLiningsInIt$Ways;") (List.mem_of_getElem? (i := 1) rfl)) (fun _ h9 => h9) rfl dX7_casesBy_14 ?_
  refine lv_iload_n hx hb dX7_casesBy_17 rfl (lv_at hl 2 rfl) ?_
  refine lv_aload_n hx hb dX7_casesBy_18 rfl (lv_at hl 0 rfl) ?_
  refine va_get (D := D) (ci := 7) (v := .ref j0) (C := RX7) (T := TX7) (N := 9) hx hb hts hi_X7_casesBy_7 hown hK hP 0 rfl rfl 1 (by decide) (hts (.fieldLink RX7 18 "TheLiningsInIt" "now" "LTheLiningsInIt$Jacket;") (List.mem_of_getElem? (i := 2) rfl)) (fun _ h9 => h9) rfl dX7_casesBy_19 ?_
  refine va_get (D := D) (ci := 0) (v := .int 0) (C := RX0) (T := TX0) (N := 9) hx hb hts hi_X7_casesBy_0 hown hK hP 5 rfl rfl 4 (by decide) (hts (.fieldLink RX7 199 "TheLiningsInIt$Jacket" "depth" "I") (List.mem_of_getElem? (i := 3) rfl)) (fun _ h9 => h9) rfl dX7_casesBy_22 ?_
  refine lv_aload_n hx hb dX7_casesBy_25 rfl (lv_at hl 0 rfl) ?_
  refine va_get (D := D) (ci := 7) (v := .ref j0) (C := RX7) (T := TX7) (N := 9) hx hb hts hi_X7_casesBy_7 hown hK hP 0 rfl rfl 1 (by decide) (hts (.fieldLink RX7 18 "TheLiningsInIt" "now" "LTheLiningsInIt$Jacket;") (List.mem_of_getElem? (i := 2) rfl)) (fun _ h9 => h9) rfl dX7_casesBy_26 ?_
  refine va_get (D := D) (ci := 0) (v := .int 60) (C := RX0) (T := TX0) (N := 9) hx hb hts hi_X7_casesBy_0 hown hK hP 5 rfl rfl 6 (by decide) (hts (.fieldLink RX7 202 "TheLiningsInIt$Jacket" "seconds" "I") (List.mem_of_getElem? (i := 4) rfl)) (fun _ h9 => h9) rfl dX7_casesBy_29 ?_
  refine zc_VN (As := [.int 4, .int 0, .int 60]) (rest := []) ⟨hx, hb, hml, hown, hts⟩ (c_most_4 l D cI cJ cZ cP cS w0 (60) ) ⟨(va_cnB 3 hts gX7_casesBy_X5_most_n208 rfl rfl rfl (hN.1 (RX7, 208, yX5_most) (List.mem_of_getElem? (i := 10) rfl)) (hts _ (List.mem_of_getElem? (i := 8) rfl)) (by decide +kernel) ⟨Nat.le_of_ble_eq_true rfl, Nat.le_of_ble_eq_true rfl⟩), (hts _ (List.mem_of_getElem? (i := 43) rfl)), (hts _ (List.mem_of_getElem? (i := 44) rfl))⟩ hK hN (hZ.kept hS) hP [] rfl (va_recv hK hP (ci := 5) (q0 := 1) rfl rfl) rfl hl.1 rfl (Nat.le_of_ble_eq_true rfl) dX7_casesBy_32 ⟨Nat.le_of_ble_eq_true rfl, Nat.le_of_ble_eq_true rfl⟩ (fun r_6 hr_6 => ?_)
  obtain rfl := hr_6
  exact W.iret (v := 20736) hx hb hr (fun t ht hW => ⟨⟨20736, (q_3, q_4, q_5), rfl, rfl, by rw [ht]; exact hP.sub (ws' := [(x0, .inr (7, [.ref xs, .ref j0, .ref k0, .ref w0, .ref rd, .ref mv, .ref xr, .int 0, .int (-1)])), (w0, .inr (5, [.ref wk, .ref wl, .ref wc, .ref wp, .int 0, .int h, .int 0])), (wk, .inl (cI, 125, .inl q_3)), (wl, .inl (cI, 125, .inl q_4)), (wc, .inl (cI, 3, .inl q_5)), (j0, .inr (0, [.ref z0, .ref jp, .ref jc, .int 0, .int 0, .int 0, .int 60, .int 0, .int 1])), (jc, .inl (cI, 3, .inl (zL3 5 10 50)))]) [0, 1, 2, 3, 4, 5, 6] rfl, hD.sub (ws' := [(x0, .inr (7, [.ref xs, .ref j0, .ref k0, .ref w0, .ref rd, .ref mv, .ref xr, .int 0, .int (-1)])), (w0, .inr (5, [.ref wk, .ref wl, .ref wc, .ref wp, .int 0, .int h, .int 0])), (wk, .inl (cI, 125, .inl q_3)), (wl, .inl (cI, 125, .inl q_4)), (wc, .inl (cI, 3, .inl q_5)), (j0, .inr (0, [.ref z0, .ref jp, .ref jc, .int 0, .int 0, .int 0, .int 60, .int 0, .int 1])), (jc, .inl (cI, 3, .inl (zL3 5 10 50)))]) [0, 1, 2, 3, 4, 5, 6] (by decide) rfl⟩, hS.F ht⟩) hS.2.2 dX7_casesBy_35
set_option maxHeartbeats 4000000 in
set_option maxRecDepth 100000 in
theorem c_haste (l : Launch) (D : va_G) (cI cJ cZ cP cS : ClassId) (x0 xs j0 k0 w0 rd mv xr : Nat) (jp jc z0 zl zs : Nat) (wk wl wc wp : Nat) (fk fl fc : Nat → Int32) (n w : Int32)  (sz : Nat) : Met l yX7_haste wsX7_haste ({ frames := 3, cells := 0, slots := 0, locals := 148 }) (va_Pc [.ref x0, .int n, .int w] (zW D (zKT cI cJ cZ cP cS) [(x0, .inr (7, [.ref xs, .ref j0, .ref k0, .ref w0, .ref rd, .ref mv, .ref xr, .int 0, .int (-1)])), (xr, .inl (cI, 8, .inl (fun _ => 0))), (w0, .inr (5, [.ref wk, .ref wl, .ref wc, .ref wp, .int 0, .int 0, .int 0])), (wk, .inl (cI, 125, .inl fk)), (wl, .inl (cI, 125, .inl fl)), (wc, .inl (cI, 3, .inl fc)), (j0, .inr (0, [.ref z0, .ref jp, .ref jc, .int 0, .int 0, .int 0, .int 60, .int 0, .int 1])), (jc, .inl (cI, 3, .inl (zL3 5 10 50)))] sz)) (va_Qi (fun (r : Int32) (_ : Unit) => (r = (-5) ∧ w.toInt < 0) ∨ (r = (-5) ∧ 0 ≤ w.toInt ∧ 1 < w.toInt) ∨ (r = (-6) ∧ 0 ≤ w.toInt ∧ w.toInt ≤ 1 ∧ n.toInt < 0) ∨ (r = (-6) ∧ 0 ≤ w.toInt ∧ w.toInt ≤ 1 ∧ 0 ≤ n.toInt ∧ 4 < n.toInt) ∨ (r = 0 ∧ 0 ≤ w.toInt ∧ w.toInt ≤ 1 ∧ 0 ≤ n.toInt ∧ n.toInt ≤ 4 ∧ n.toInt = 0 ∧ w.toInt ≠ 1) ∨ (r = 0 ∧ 0 ≤ w.toInt ∧ w.toInt ≤ 1 ∧ 0 ≤ n.toInt ∧ n.toInt ≤ 4 ∧ n.toInt = 0 ∧ w.toInt = 1) ∨ (r = 0 ∧ 0 ≤ w.toInt ∧ w.toInt ≤ 1 ∧ 0 ≤ n.toInt ∧ n.toInt ≤ 4 ∧ n.toInt = 1 ∧ w.toInt ≠ 1) ∨ (r = 0 ∧ 0 ≤ w.toInt ∧ w.toInt ≤ 1 ∧ 0 ≤ n.toInt ∧ n.toInt ≤ 4 ∧ n.toInt = 1 ∧ w.toInt = 1) ∨ (r = 0 ∧ 0 ≤ w.toInt ∧ w.toInt ≤ 1 ∧ 0 ≤ n.toInt ∧ n.toInt ≤ 4 ∧ n.toInt = 2 ∧ w.toInt ≠ 1) ∨ (r = 0 ∧ 0 ≤ w.toInt ∧ w.toInt ≤ 1 ∧ 0 ≤ n.toInt ∧ n.toInt ≤ 4 ∧ n.toInt = 2 ∧ w.toInt = 1) ∨ (r = 0 ∧ 0 ≤ w.toInt ∧ w.toInt ≤ 1 ∧ 0 ≤ n.toInt ∧ n.toInt ≤ 4 ∧ n.toInt = 3 ∧ w.toInt ≠ 1) ∨ (r = 0 ∧ 0 ≤ w.toInt ∧ w.toInt ≤ 1 ∧ 0 ≤ n.toInt ∧ n.toInt ≤ 4 ∧ n.toInt = 3 ∧ w.toInt = 1) ∨ (r = 0 ∧ 0 ≤ w.toInt ∧ w.toInt ≤ 1 ∧ 0 ≤ n.toInt ∧ n.toInt ≤ 4 ∧ n.toInt = 4 ∧ w.toInt ≠ 1) ∨ (r = 0 ∧ 0 ≤ w.toInt ∧ w.toInt ≤ 1 ∧ 0 ≤ n.toInt ∧ n.toInt ≤ 4 ∧ n.toInt = 4 ∧ w.toInt = 1)) (zB D [(x0, .inr (7, [.ref xs, .ref j0, .ref k0, .ref w0, .ref rd, .ref mv, .ref xr, .int 0, .int (-1)])), (xr, .inl (cI, 8, .inl (fun _ => 0))), (w0, .inr (5, [.ref wk, .ref wl, .ref wc, .ref wp, .int 0, .int 0, .int 0])), (wk, .inl (cI, 125, .inl fk)), (wl, .inl (cI, 125, .inl fl)), (wc, .inl (cI, 3, .inl fc)), (j0, .inr (0, [.ref z0, .ref jp, .ref jc, .int 0, .int 0, .int 0, .int 60, .int 0, .int 1])), (jc, .inl (cI, 3, .inl (zL3 5 10 50)))] sz (fun (_ : Unit) => ([] : va_W))) (va_A [(x0, .inr (7, [.ref xs, .ref j0, .ref k0, .ref w0, .ref rd, .ref mv, .ref xr, .int 0, .int (-1)])), (xr, .inl (cI, 8, .inl (fun _ => 0))), (w0, .inr (5, [.ref wk, .ref wl, .ref wc, .ref wp, .int 0, .int 0, .int 0])), (wk, .inl (cI, 125, .inl fk)), (wl, .inl (cI, 125, .inl fl)), (wc, .inl (cI, 3, .inl fc)), (j0, .inr (0, [.ref z0, .ref jp, .ref jc, .int 0, .int 0, .int 0, .int 60, .int 0, .int 1])), (jc, .inl (cI, 3, .inl (zL3 5 10 50)))] sz)) 0 0 (va_A [(x0, .inr (7, [.ref xs, .ref j0, .ref k0, .ref w0, .ref rd, .ref mv, .ref xr, .int 0, .int (-1)])), (xr, .inl (cI, 8, .inl (fun _ => 0))), (w0, .inr (5, [.ref wk, .ref wl, .ref wc, .ref wp, .int 0, .int 0, .int 0])), (wk, .inl (cI, 125, .inl fk)), (wl, .inl (cI, 125, .inl fl)), (wc, .inl (cI, 3, .inl fc)), (j0, .inr (0, [.ref z0, .ref jp, .ref jc, .int 0, .int 0, .int 0, .int 60, .int 0, .int 1])), (jc, .inl (cI, 3, .inl (zL3 5 10 50)))] sz) := by
  refine Met.ofW (cc := cX7_haste) (maxL := 7) (ret := (some .int)) (by decide) rfl ?_
  intro p e s m args below meth c s₁ B hml hv
  obtain ⟨rfl, hsz, hP, hK, hD0, hN, hZ⟩ := hv
  have hx := B.exec
  have hb := B.bytes
  have hr := B.returns
  have hts := atoms_spec (ws := wsX7_haste) B.pre
  have hown : s.vm.findClass RX7 = some m.cls := findClass_of_methodNamed B.named
  have hlocks := B.notSynchronized
  subst hsz
  have hD := hD0.self (sz := s.heap.size)
  have hA : ∀ q : Nat, s.heap.size ≤ q → va_A [(x0, .inr (7, [.ref xs, .ref j0, .ref k0, .ref w0, .ref rd, .ref mv, .ref xr, .int 0, .int (-1)])), (xr, .inl (cI, 8, .inl (fun _ => 0))), (w0, .inr (5, [.ref wk, .ref wl, .ref wc, .ref wp, .int 0, .int 0, .int 0])), (wk, .inl (cI, 125, .inl fk)), (wl, .inl (cI, 125, .inl fl)), (wc, .inl (cI, 3, .inl fc)), (j0, .inr (0, [.ref z0, .ref jp, .ref jc, .int 0, .int 0, .int 0, .int 60, .int 0, .int 1])), (jc, .inl (cI, 3, .inl (zL3 5 10 50)))] s.heap.size q := fun q h => Or.inr h
  have hS : va_S (va_A [(x0, .inr (7, [.ref xs, .ref j0, .ref k0, .ref w0, .ref rd, .ref mv, .ref xr, .int 0, .int (-1)])), (xr, .inl (cI, 8, .inl (fun _ => 0))), (w0, .inr (5, [.ref wk, .ref wl, .ref wc, .ref wp, .int 0, .int 0, .int 0])), (wk, .inl (cI, 125, .inl fk)), (wl, .inl (cI, 125, .inl fl)), (wc, .inl (cI, 3, .inl fc)), (j0, .inr (0, [.ref z0, .ref jp, .ref jc, .int 0, .int 0, .int 0, .int 60, .int 0, .int 1])), (jc, .inl (cI, 3, .inl (zL3 5 10 50)))] s.heap.size) s.heap s.heap [] := va_S.rf
  replace hP : va_P D vwCl _ s.heap := hP
  have hl := lv_entry ([.ref x0, .int n, .int w]) (n := 7) (Nat.le_of_ble_eq_true rfl)
  rw [lg_entry_eq]
  generalize (lg_sl ([.ref x0, .int n, .int w]) ++ List.replicate (7 - (lg_sl ([.ref x0, .int n, .int w])).length) Slot.unset).toArray = ls at hl ⊢
  replace hl : lv_has ls 7 [(0, .ref x0), (1, .int n), (2, .int w)] := hl
  refine zw_start (fun H locs hH hL => ?_)
  replace hP : va_P D vwCl [(x0, .inr (7, [.ref xs, .ref j0, .ref k0, .ref w0, .ref rd, .ref mv, .ref xr, .int 0, .int (-1)])), (xr, .inl (cI, 8, .inl (fun _ => 0))), (w0, .inr (5, [.ref wk, .ref wl, .ref wc, .ref wp, .int 0, .int 0, .int 0])), (wk, .inl (cI, 125, .inl fk)), (wl, .inl (cI, 125, .inl fl)), (wc, .inl (cI, 3, .inl fc)), (j0, .inr (0, [.ref z0, .ref jp, .ref jc, .int 0, .int 0, .int 0, .int 60, .int 0, .int 1])), (jc, .inl (cI, 3, .inl (zL3 5 10 50)))] H := by rw [hH]; exact hP
  replace hS : va_S (va_A [(x0, .inr (7, [.ref xs, .ref j0, .ref k0, .ref w0, .ref rd, .ref mv, .ref xr, .int 0, .int (-1)])), (xr, .inl (cI, 8, .inl (fun _ => 0))), (w0, .inr (5, [.ref wk, .ref wl, .ref wc, .ref wp, .int 0, .int 0, .int 0])), (wk, .inl (cI, 125, .inl fk)), (wl, .inl (cI, 125, .inl fl)), (wc, .inl (cI, 3, .inl fc)), (j0, .inr (0, [.ref z0, .ref jp, .ref jc, .int 0, .int 0, .int 0, .int 60, .int 0, .int 1])), (jc, .inl (cI, 3, .inl (zL3 5 10 50)))] s.heap.size) s.heap H locs := by rw [hH, hL]; exact hS
  clear hH hL
  refine lv_iload_n hx hb dX7_haste_0 rfl (lv_at hl 2 rfl) ?_
  refine lv_iconst (v := 0) hx hb dX7_haste_1 (by decide) ?_
  refine lv_iconst (v := 1) hx hb dX7_haste_2 (by decide) ?_
  have kc0 : (0 : Int32).toInt = 0 := by decide
  have kc1 : (1 : Int32).toInt = 1 := by decide
  refine zc_S (As := [.int w, .int 0, .int 1]) (rest := []) ⟨hx, hb, hml, hown, hts⟩ (c_within l D cI cJ cZ cP cS (w) (0) (1) ) (va_cwS 3 hts gX7_haste_X7_within rfl rfl rfl (by decide +kernel) ⟨Nat.le_of_ble_eq_true rfl, Nat.le_of_ble_eq_true rfl⟩) hK hN (hZ.kept hS) rfl hl.1 rfl (Nat.le_of_ble_eq_true rfl) dX7_haste_3 ⟨Nat.le_of_ble_eq_true rfl, Nat.le_of_ble_eq_true rfl⟩ (fun r_1 hr_1 => ?_)
  rcases hr_1 with ⟨rfl, g_2⟩ | ⟨rfl, g_3, g_4⟩ | ⟨rfl, g_5, g_6⟩
  · refine lv_if_ne (tgt := 15) hx hb dX7_haste_6 (by decide) (fun c_7 => ?_) (fun c_7 => ?_)
    · exact absurd c_7 (by decide)
    · refine lv_aload_n hx hb dX7_haste_9 rfl (lv_at hl 0 rfl) ?_
      refine lv_iconst (v := 5) hx hb dX7_haste_10 (by decide) ?_
      skip
      refine zw_V (As := [.int 5]) (rest := []) (wr := [(w0, .inr (5, [.ref wk, .ref wl, .ref wc, .ref wp, .int 0, .int 0, .int 0])), (wk, .inl (cI, 125, .inl fk)), (wl, .inl (cI, 125, .inl fl)), (wc, .inl (cI, 3, .inl fc)), (j0, .inr (0, [.ref z0, .ref jp, .ref jc, .int 0, .int 0, .int 0, .int 60, .int 0, .int 1])), (jc, .inl (cI, 3, .inl (zL3 5 10 50)))]) ⟨hx, hb, hml, hown, hts⟩ (c_refuse_5 l D cI cJ cZ cP cS x0 xs j0 k0 w0 rd mv xr  H.size) (cwV 1 hts gX7_haste_X7_refuse rfl rfl rfl (by decide +kernel) ⟨Nat.le_of_ble_eq_true rfl, Nat.le_of_ble_eq_true rfl⟩) hK hN (hZ.kept hS) hP hD hS hA [0, 1] [2, 3, 4, 5, 6, 7] rfl rfl (by decide) (by decide) (by decide) (va_recv hK hP (ci := 7) (q0 := 0) rfl rfl) rfl hl.1 rfl (Nat.le_of_ble_eq_true rfl) dX7_haste_11 ⟨Nat.le_of_ble_eq_true rfl, Nat.le_of_ble_eq_true rfl⟩ (fun r_8 u_9 H locs hr_8 hP hD hS => ?_)
      replace hP : va_P D vwCl [(w0, .inr (5, [.ref wk, .ref wl, .ref wc, .ref wp, .int 0, .int 0, .int 0])), (wk, .inl (cI, 125, .inl fk)), (wl, .inl (cI, 125, .inl fl)), (wc, .inl (cI, 3, .inl fc)), (j0, .inr (0, [.ref z0, .ref jp, .ref jc, .int 0, .int 0, .int 0, .int 60, .int 0, .int 1])), (jc, .inl (cI, 3, .inl (zL3 5 10 50)))] H := hP
      replace hD : va_D _ [(w0, .inr (5, [.ref wk, .ref wl, .ref wc, .ref wp, .int 0, .int 0, .int 0])), (wk, .inl (cI, 125, .inl fk)), (wl, .inl (cI, 125, .inl fl)), (wc, .inl (cI, 3, .inl fc)), (j0, .inr (0, [.ref z0, .ref jp, .ref jc, .int 0, .int 0, .int 0, .int 60, .int 0, .int 1])), (jc, .inl (cI, 3, .inl (zL3 5 10 50)))] := hD
      obtain rfl := hr_8
      exact W.iret (v := (-5)) hx hb hr (fun t ht hW => ⟨⟨(-5), (), rfl, Or.inl (⟨rfl, (by first | omega | decide)⟩), zP_nil, zD_nil⟩, hS.F ht⟩) hS.2.2 dX7_haste_14
  · refine lv_if_ne (tgt := 15) hx hb dX7_haste_6 (by decide) (fun c_10 => ?_) (fun c_10 => ?_)
    · exact absurd c_10 (by decide)
    · refine lv_aload_n hx hb dX7_haste_9 rfl (lv_at hl 0 rfl) ?_
      refine lv_iconst (v := 5) hx hb dX7_haste_10 (by decide) ?_
      skip
      refine zw_V (As := [.int 5]) (rest := []) (wr := [(w0, .inr (5, [.ref wk, .ref wl, .ref wc, .ref wp, .int 0, .int 0, .int 0])), (wk, .inl (cI, 125, .inl fk)), (wl, .inl (cI, 125, .inl fl)), (wc, .inl (cI, 3, .inl fc)), (j0, .inr (0, [.ref z0, .ref jp, .ref jc, .int 0, .int 0, .int 0, .int 60, .int 0, .int 1])), (jc, .inl (cI, 3, .inl (zL3 5 10 50)))]) ⟨hx, hb, hml, hown, hts⟩ (c_refuse_5 l D cI cJ cZ cP cS x0 xs j0 k0 w0 rd mv xr  H.size) (cwV 1 hts gX7_haste_X7_refuse rfl rfl rfl (by decide +kernel) ⟨Nat.le_of_ble_eq_true rfl, Nat.le_of_ble_eq_true rfl⟩) hK hN (hZ.kept hS) hP hD hS hA [0, 1] [2, 3, 4, 5, 6, 7] rfl rfl (by decide) (by decide) (by decide) (va_recv hK hP (ci := 7) (q0 := 0) rfl rfl) rfl hl.1 rfl (Nat.le_of_ble_eq_true rfl) dX7_haste_11 ⟨Nat.le_of_ble_eq_true rfl, Nat.le_of_ble_eq_true rfl⟩ (fun r_11 u_12 H locs hr_11 hP hD hS => ?_)
      replace hP : va_P D vwCl [(w0, .inr (5, [.ref wk, .ref wl, .ref wc, .ref wp, .int 0, .int 0, .int 0])), (wk, .inl (cI, 125, .inl fk)), (wl, .inl (cI, 125, .inl fl)), (wc, .inl (cI, 3, .inl fc)), (j0, .inr (0, [.ref z0, .ref jp, .ref jc, .int 0, .int 0, .int 0, .int 60, .int 0, .int 1])), (jc, .inl (cI, 3, .inl (zL3 5 10 50)))] H := hP
      replace hD : va_D _ [(w0, .inr (5, [.ref wk, .ref wl, .ref wc, .ref wp, .int 0, .int 0, .int 0])), (wk, .inl (cI, 125, .inl fk)), (wl, .inl (cI, 125, .inl fl)), (wc, .inl (cI, 3, .inl fc)), (j0, .inr (0, [.ref z0, .ref jp, .ref jc, .int 0, .int 0, .int 0, .int 60, .int 0, .int 1])), (jc, .inl (cI, 3, .inl (zL3 5 10 50)))] := hD
      obtain rfl := hr_11
      exact W.iret (v := (-5)) hx hb hr (fun t ht hW => ⟨⟨(-5), (), rfl, Or.inr (Or.inl (⟨rfl, (by first | omega | decide), (by first | omega | decide)⟩)), zP_nil, zD_nil⟩, hS.F ht⟩) hS.2.2 dX7_haste_14
  · refine lv_if_ne (tgt := 15) hx hb dX7_haste_6 (by decide) (fun c_13 => ?_) (fun c_13 => ?_)
    · refine lv_iload_n hx hb dX7_haste_15 rfl (lv_at hl 1 rfl) ?_
      refine lv_iconst (v := 0) hx hb dX7_haste_16 (by decide) ?_
      refine lv_iconst (v := 4) hx hb dX7_haste_17 (by decide) ?_
      have kc4 : (4 : Int32).toInt = 4 := by decide
      refine zc_S (As := [.int n, .int 0, .int 4]) (rest := []) ⟨hx, hb, hml, hown, hts⟩ (c_within l D cI cJ cZ cP cS (n) (0) (4) ) (va_cwS 3 hts gX7_haste_X7_within rfl rfl rfl (by decide +kernel) ⟨Nat.le_of_ble_eq_true rfl, Nat.le_of_ble_eq_true rfl⟩) hK hN (hZ.kept hS) rfl hl.1 rfl (Nat.le_of_ble_eq_true rfl) dX7_haste_18 ⟨Nat.le_of_ble_eq_true rfl, Nat.le_of_ble_eq_true rfl⟩ (fun r_14 hr_14 => ?_)
      rcases hr_14 with ⟨rfl, g_15⟩ | ⟨rfl, g_16, g_17⟩ | ⟨rfl, g_18, g_19⟩
      · refine lv_if_ne (tgt := 31) hx hb dX7_haste_21 (by decide) (fun c_20 => ?_) (fun c_20 => ?_)
        · exact absurd c_20 (by decide)
        · refine lv_aload_n hx hb dX7_haste_24 rfl (lv_at hl 0 rfl) ?_
          refine lv_bipush (v := 6) hx hb dX7_haste_25 (by decide) ?_
          skip
          refine zw_V (As := [.int 6]) (rest := []) (wr := [(w0, .inr (5, [.ref wk, .ref wl, .ref wc, .ref wp, .int 0, .int 0, .int 0])), (wk, .inl (cI, 125, .inl fk)), (wl, .inl (cI, 125, .inl fl)), (wc, .inl (cI, 3, .inl fc)), (j0, .inr (0, [.ref z0, .ref jp, .ref jc, .int 0, .int 0, .int 0, .int 60, .int 0, .int 1])), (jc, .inl (cI, 3, .inl (zL3 5 10 50)))]) ⟨hx, hb, hml, hown, hts⟩ (c_refuse_6 l D cI cJ cZ cP cS x0 xs j0 k0 w0 rd mv xr  H.size) (cwV 1 hts gX7_haste_X7_refuse rfl rfl rfl (by decide +kernel) ⟨Nat.le_of_ble_eq_true rfl, Nat.le_of_ble_eq_true rfl⟩) hK hN (hZ.kept hS) hP hD hS hA [0, 1] [2, 3, 4, 5, 6, 7] rfl rfl (by decide) (by decide) (by decide) (va_recv hK hP (ci := 7) (q0 := 0) rfl rfl) rfl hl.1 rfl (Nat.le_of_ble_eq_true rfl) dX7_haste_27 ⟨Nat.le_of_ble_eq_true rfl, Nat.le_of_ble_eq_true rfl⟩ (fun r_21 u_22 H locs hr_21 hP hD hS => ?_)
          replace hP : va_P D vwCl [(w0, .inr (5, [.ref wk, .ref wl, .ref wc, .ref wp, .int 0, .int 0, .int 0])), (wk, .inl (cI, 125, .inl fk)), (wl, .inl (cI, 125, .inl fl)), (wc, .inl (cI, 3, .inl fc)), (j0, .inr (0, [.ref z0, .ref jp, .ref jc, .int 0, .int 0, .int 0, .int 60, .int 0, .int 1])), (jc, .inl (cI, 3, .inl (zL3 5 10 50)))] H := hP
          replace hD : va_D _ [(w0, .inr (5, [.ref wk, .ref wl, .ref wc, .ref wp, .int 0, .int 0, .int 0])), (wk, .inl (cI, 125, .inl fk)), (wl, .inl (cI, 125, .inl fl)), (wc, .inl (cI, 3, .inl fc)), (j0, .inr (0, [.ref z0, .ref jp, .ref jc, .int 0, .int 0, .int 0, .int 60, .int 0, .int 1])), (jc, .inl (cI, 3, .inl (zL3 5 10 50)))] := hD
          obtain rfl := hr_21
          exact W.iret (v := (-6)) hx hb hr (fun t ht hW => ⟨⟨(-6), (), rfl, Or.inr (Or.inr (Or.inl (⟨rfl, (by first | omega | decide), (by first | omega | decide), (by first | omega | decide)⟩))), zP_nil, zD_nil⟩, hS.F ht⟩) hS.2.2 dX7_haste_30
      · refine lv_if_ne (tgt := 31) hx hb dX7_haste_21 (by decide) (fun c_23 => ?_) (fun c_23 => ?_)
        · exact absurd c_23 (by decide)
        · refine lv_aload_n hx hb dX7_haste_24 rfl (lv_at hl 0 rfl) ?_
          refine lv_bipush (v := 6) hx hb dX7_haste_25 (by decide) ?_
          skip
          refine zw_V (As := [.int 6]) (rest := []) (wr := [(w0, .inr (5, [.ref wk, .ref wl, .ref wc, .ref wp, .int 0, .int 0, .int 0])), (wk, .inl (cI, 125, .inl fk)), (wl, .inl (cI, 125, .inl fl)), (wc, .inl (cI, 3, .inl fc)), (j0, .inr (0, [.ref z0, .ref jp, .ref jc, .int 0, .int 0, .int 0, .int 60, .int 0, .int 1])), (jc, .inl (cI, 3, .inl (zL3 5 10 50)))]) ⟨hx, hb, hml, hown, hts⟩ (c_refuse_6 l D cI cJ cZ cP cS x0 xs j0 k0 w0 rd mv xr  H.size) (cwV 1 hts gX7_haste_X7_refuse rfl rfl rfl (by decide +kernel) ⟨Nat.le_of_ble_eq_true rfl, Nat.le_of_ble_eq_true rfl⟩) hK hN (hZ.kept hS) hP hD hS hA [0, 1] [2, 3, 4, 5, 6, 7] rfl rfl (by decide) (by decide) (by decide) (va_recv hK hP (ci := 7) (q0 := 0) rfl rfl) rfl hl.1 rfl (Nat.le_of_ble_eq_true rfl) dX7_haste_27 ⟨Nat.le_of_ble_eq_true rfl, Nat.le_of_ble_eq_true rfl⟩ (fun r_24 u_25 H locs hr_24 hP hD hS => ?_)
          replace hP : va_P D vwCl [(w0, .inr (5, [.ref wk, .ref wl, .ref wc, .ref wp, .int 0, .int 0, .int 0])), (wk, .inl (cI, 125, .inl fk)), (wl, .inl (cI, 125, .inl fl)), (wc, .inl (cI, 3, .inl fc)), (j0, .inr (0, [.ref z0, .ref jp, .ref jc, .int 0, .int 0, .int 0, .int 60, .int 0, .int 1])), (jc, .inl (cI, 3, .inl (zL3 5 10 50)))] H := hP
          replace hD : va_D _ [(w0, .inr (5, [.ref wk, .ref wl, .ref wc, .ref wp, .int 0, .int 0, .int 0])), (wk, .inl (cI, 125, .inl fk)), (wl, .inl (cI, 125, .inl fl)), (wc, .inl (cI, 3, .inl fc)), (j0, .inr (0, [.ref z0, .ref jp, .ref jc, .int 0, .int 0, .int 0, .int 60, .int 0, .int 1])), (jc, .inl (cI, 3, .inl (zL3 5 10 50)))] := hD
          obtain rfl := hr_24
          exact W.iret (v := (-6)) hx hb hr (fun t ht hW => ⟨⟨(-6), (), rfl, Or.inr (Or.inr (Or.inr (Or.inl (⟨rfl, (by first | omega | decide), (by first | omega | decide), (by first | omega | decide), (by first | omega | decide)⟩)))), zP_nil, zD_nil⟩, hS.F ht⟩) hS.2.2 dX7_haste_30
      · refine lv_if_ne (tgt := 31) hx hb dX7_haste_21 (by decide) (fun c_26 => ?_) (fun c_26 => ?_)
        · have hsp : n = 0 ∨ n = 1 ∨ n = 2 ∨ n = 3 ∨ n = 4 := by
            rcases (show n.toInt = 0 ∨ n.toInt = 1 ∨ n.toInt = 2 ∨ n.toInt = 3 ∨ n.toInt = 4 by omega) with h9 | h9 | h9 | h9 | h9
            · refine Or.inl ?_; exact zf_val h9 (by decide)
            · refine Or.inr (Or.inl ?_); exact zf_val h9 (by decide)
            · refine Or.inr (Or.inr (Or.inl ?_)); exact zf_val h9 (by decide)
            · refine Or.inr (Or.inr (Or.inr (Or.inl ?_))); exact zf_val h9 (by decide)
            · refine Or.inr (Or.inr (Or.inr (Or.inr (?_)))); exact zf_val h9 (by decide)
          rcases hsp with rfl | rfl | rfl | rfl | rfl
          · refine lv_iload_n hx hb dX7_haste_31 rfl (lv_at hl 2 rfl) ?_
            refine lv_iconst (v := 1) hx hb dX7_haste_32 (by decide) ?_
            refine lv_icmp_ne (tgt := 58) hx hb dX7_haste_33 (by decide) (fun c_27 => ?_) (fun c_27 => ?_)
            · have fc_27 : w.toInt ≠ 1 := zf_ne c_27 rfl (by decide)
              refine lv_iconst (v := 0) hx hb dX7_haste_58 (by decide) ?_
              refine lv_istore_n (lv' := [(3, .int 0), (0, .ref x0), (1, .int 0), (2, .int w)]) hx hb dX7_haste_59 rfl hl (by decide) rfl (fun ls hl => ?_)
              refine lv_aload_n hx hb dX7_haste_60 rfl (lv_at hl 1 rfl) ?_
              refine lv_iconst (v := 0) hx hb dX7_haste_61 (by decide) ?_
              refine lv_iload_n hx hb dX7_haste_62 rfl (lv_at hl 2 rfl) ?_
              skip
              refine zw_V (As := [.int 0, .int 0]) (rest := []) (wr := [(xr, .inl (cI, 8, .inl (fun _ => 0)))]) ⟨hx, hb, hml, hown, hts⟩ (c_casesBy_0 l D cI cJ cZ cP cS x0 xs j0 k0 w0 rd mv xr jp jc z0 0 0 wk wl wc wp fk fl fc (0) (0) (0) (0)  H.size) (cwV 2 hts gX7_haste_X7_casesBy rfl rfl rfl (by decide +kernel) ⟨Nat.le_of_ble_eq_true rfl, Nat.le_of_ble_eq_true rfl⟩) hK hN (hZ.kept hS) hP hD hS hA [0, 2, 3, 4, 5, 6, 7] [1] rfl rfl (by decide) (by decide) (by decide) (va_recv hK hP (ci := 7) (q0 := 0) rfl rfl) rfl hl.1 rfl (Nat.le_of_ble_eq_true rfl) dX7_haste_63 ⟨Nat.le_of_ble_eq_true rfl, Nat.le_of_ble_eq_true rfl⟩ (fun r_28 u_29 H locs hr_28 hP hD hS => ?_)
              obtain ⟨q_30, q_31, q_32⟩ := u_29
              replace hP : va_P D vwCl [(xr, .inl (cI, 8, .inl (fun _ => 0))), (x0, .inr (7, [.ref xs, .ref j0, .ref k0, .ref w0, .ref rd, .ref mv, .ref xr, .int 0, .int (-1)])), (w0, .inr (5, [.ref wk, .ref wl, .ref wc, .ref wp, .int 0, .int 0, .int 0])), (wk, .inl (cI, 125, .inl q_30)), (wl, .inl (cI, 125, .inl q_31)), (wc, .inl (cI, 3, .inl q_32)), (j0, .inr (0, [.ref z0, .ref jp, .ref jc, .int 0, .int 0, .int 0, .int 60, .int 0, .int 1])), (jc, .inl (cI, 3, .inl (zL3 5 10 50)))] H := hP
              replace hD : va_D _ [(xr, .inl (cI, 8, .inl (fun _ => 0))), (x0, .inr (7, [.ref xs, .ref j0, .ref k0, .ref w0, .ref rd, .ref mv, .ref xr, .int 0, .int (-1)])), (w0, .inr (5, [.ref wk, .ref wl, .ref wc, .ref wp, .int 0, .int 0, .int 0])), (wk, .inl (cI, 125, .inl q_30)), (wl, .inl (cI, 125, .inl q_31)), (wc, .inl (cI, 3, .inl q_32)), (j0, .inr (0, [.ref z0, .ref jp, .ref jc, .int 0, .int 0, .int 0, .int 60, .int 0, .int 1])), (jc, .inl (cI, 3, .inl (zL3 5 10 50)))] := hD
              obtain rfl := hr_28
              refine lv_istore (lv' := [(4, .int 1), (3, .int 0), (0, .ref x0), (1, .int 0), (2, .int w)]) hx hb dX7_haste_66 hl (by decide) rfl (fun ls hl => ?_)
              refine lv_iconst (v := 1) hx hb dX7_haste_68 (by decide) ?_
              refine lv_istore (lv' := [(5, .int 1), (4, .int 1), (3, .int 0), (0, .ref x0), (1, .int 0), (2, .int w)]) hx hb dX7_haste_69 hl (by decide) rfl (fun ls hl => ?_)
              refine lv_iload hx hb dX7_haste_71 (lv_at hl 0 rfl) ?_
              refine lv_bipush (v := 9) hx hb dX7_haste_73 (by decide) ?_
              refine lv_icmp_gt (tgt := 107) hx hb dX7_haste_75 (by decide) (fun c_33 => ?_) (fun c_33 => ?_)
              · exact absurd c_33 (by decide)
              · refine lv_aload_n hx hb dX7_haste_78 rfl (lv_at hl 3 rfl) ?_
                refine lv_iload hx hb dX7_haste_79 (lv_at hl 0 rfl) ?_
                refine lv_iload_n hx hb dX7_haste_81 rfl (lv_at hl 4 rfl) ?_
                skip
                refine zw_V (As := [.int 1, .int 0]) (rest := []) (wr := [(xr, .inl (cI, 8, .inl (fun _ => 0)))]) ⟨hx, hb, hml, hown, hts⟩ (c_casesBy_0 l D cI cJ cZ cP cS x0 xs j0 k0 w0 rd mv xr jp jc z0 0 0 wk wl wc wp q_30 q_31 q_32 (0) (0) (0) (1)  H.size) (cwV 2 hts gX7_haste_X7_casesBy rfl rfl rfl (by decide +kernel) ⟨Nat.le_of_ble_eq_true rfl, Nat.le_of_ble_eq_true rfl⟩) hK hN (hZ.kept hS) hP hD hS hA [1, 2, 3, 4, 5, 6, 7] [0] rfl rfl (by decide) (by decide) (by decide) (va_recv hK hP (ci := 7) (q0 := 1) rfl rfl) rfl hl.1 rfl (Nat.le_of_ble_eq_true rfl) dX7_haste_82 ⟨Nat.le_of_ble_eq_true rfl, Nat.le_of_ble_eq_true rfl⟩ (fun r_34 u_35 H locs hr_34 hP hD hS => ?_)
                obtain ⟨q_36, q_37, q_38⟩ := u_35
                replace hP : va_P D vwCl [(xr, .inl (cI, 8, .inl (fun _ => 0))), (x0, .inr (7, [.ref xs, .ref j0, .ref k0, .ref w0, .ref rd, .ref mv, .ref xr, .int 0, .int (-1)])), (w0, .inr (5, [.ref wk, .ref wl, .ref wc, .ref wp, .int 0, .int 1, .int 0])), (wk, .inl (cI, 125, .inl q_36)), (wl, .inl (cI, 125, .inl q_37)), (wc, .inl (cI, 3, .inl q_38)), (j0, .inr (0, [.ref z0, .ref jp, .ref jc, .int 0, .int 0, .int 0, .int 60, .int 0, .int 1])), (jc, .inl (cI, 3, .inl (zL3 5 10 50)))] H := hP
                replace hD : va_D _ [(xr, .inl (cI, 8, .inl (fun _ => 0))), (x0, .inr (7, [.ref xs, .ref j0, .ref k0, .ref w0, .ref rd, .ref mv, .ref xr, .int 0, .int (-1)])), (w0, .inr (5, [.ref wk, .ref wl, .ref wc, .ref wp, .int 0, .int 1, .int 0])), (wk, .inl (cI, 125, .inl q_36)), (wl, .inl (cI, 125, .inl q_37)), (wc, .inl (cI, 3, .inl q_38)), (j0, .inr (0, [.ref z0, .ref jp, .ref jc, .int 0, .int 0, .int 0, .int 60, .int 0, .int 1])), (jc, .inl (cI, 3, .inl (zL3 5 10 50)))] := hD
                obtain rfl := hr_34
                refine lv_istore (lv' := [(6, .int 1), (5, .int 1), (4, .int 1), (3, .int 0), (0, .ref x0), (1, .int 0), (2, .int w)]) hx hb dX7_haste_85 hl (by decide) rfl (fun ls hl => ?_)
                refine lv_iload hx hb dX7_haste_87 (lv_at hl 0 rfl) ?_
                refine lv_iload hx hb dX7_haste_89 (lv_at hl 2 rfl) ?_
                refine lv_icmp_le (tgt := 101) hx hb dX7_haste_91 (by decide) (fun c_39 => ?_) (fun c_39 => ?_)
                · refine lv_iinc (v := 2) (lv' := [(5, .int 2), (6, .int 1), (4, .int 1), (3, .int 0), (0, .ref x0), (1, .int 0), (2, .int w)]) hx hb dX7_haste_101 hl (k := 1) rfl (by decide) (by decide) rfl (fun ls hl => ?_)
                  refine lv_goto (tgt := 71) hx hb dX7_haste_104 (by decide) ?_
                  refine lv_iload hx hb dX7_haste_71 (lv_at hl 0 rfl) ?_
                  refine lv_bipush (v := 9) hx hb dX7_haste_73 (by decide) ?_
                  refine lv_icmp_gt (tgt := 107) hx hb dX7_haste_75 (by decide) (fun c_40 => ?_) (fun c_40 => ?_)
                  · exact absurd c_40 (by decide)
                  · refine lv_aload_n hx hb dX7_haste_78 rfl (lv_at hl 4 rfl) ?_
                    refine lv_iload hx hb dX7_haste_79 (lv_at hl 0 rfl) ?_
                    refine lv_iload_n hx hb dX7_haste_81 rfl (lv_at hl 5 rfl) ?_
                    skip
                    refine zw_V (As := [.int 2, .int 0]) (rest := []) (wr := [(xr, .inl (cI, 8, .inl (fun _ => 0)))]) ⟨hx, hb, hml, hown, hts⟩ (c_casesBy_0 l D cI cJ cZ cP cS x0 xs j0 k0 w0 rd mv xr jp jc z0 0 0 wk wl wc wp q_36 q_37 q_38 (0) (1) (0) (2)  H.size) (cwV 2 hts gX7_haste_X7_casesBy rfl rfl rfl (by decide +kernel) ⟨Nat.le_of_ble_eq_true rfl, Nat.le_of_ble_eq_true rfl⟩) hK hN (hZ.kept hS) hP hD hS hA [1, 2, 3, 4, 5, 6, 7] [0] rfl rfl (by decide) (by decide) (by decide) (va_recv hK hP (ci := 7) (q0 := 1) rfl rfl) rfl hl.1 rfl (Nat.le_of_ble_eq_true rfl) dX7_haste_82 ⟨Nat.le_of_ble_eq_true rfl, Nat.le_of_ble_eq_true rfl⟩ (fun r_41 u_42 H locs hr_41 hP hD hS => ?_)
                    obtain ⟨q_43, q_44, q_45⟩ := u_42
                    replace hP : va_P D vwCl [(xr, .inl (cI, 8, .inl (fun _ => 0))), (x0, .inr (7, [.ref xs, .ref j0, .ref k0, .ref w0, .ref rd, .ref mv, .ref xr, .int 0, .int (-1)])), (w0, .inr (5, [.ref wk, .ref wl, .ref wc, .ref wp, .int 0, .int 2, .int 0])), (wk, .inl (cI, 125, .inl q_43)), (wl, .inl (cI, 125, .inl q_44)), (wc, .inl (cI, 3, .inl q_45)), (j0, .inr (0, [.ref z0, .ref jp, .ref jc, .int 0, .int 0, .int 0, .int 60, .int 0, .int 1])), (jc, .inl (cI, 3, .inl (zL3 5 10 50)))] H := hP
                    replace hD : va_D _ [(xr, .inl (cI, 8, .inl (fun _ => 0))), (x0, .inr (7, [.ref xs, .ref j0, .ref k0, .ref w0, .ref rd, .ref mv, .ref xr, .int 0, .int (-1)])), (w0, .inr (5, [.ref wk, .ref wl, .ref wc, .ref wp, .int 0, .int 2, .int 0])), (wk, .inl (cI, 125, .inl q_43)), (wl, .inl (cI, 125, .inl q_44)), (wc, .inl (cI, 3, .inl q_45)), (j0, .inr (0, [.ref z0, .ref jp, .ref jc, .int 0, .int 0, .int 0, .int 60, .int 0, .int 1])), (jc, .inl (cI, 3, .inl (zL3 5 10 50)))] := hD
                    obtain rfl := hr_41
                    refine lv_istore (lv' := [(6, .int 1), (5, .int 2), (4, .int 1), (3, .int 0), (0, .ref x0), (1, .int 0), (2, .int w)]) hx hb dX7_haste_85 hl (by decide) rfl (fun ls hl => ?_)
                    refine lv_iload hx hb dX7_haste_87 (lv_at hl 0 rfl) ?_
                    refine lv_iload hx hb dX7_haste_89 (lv_at hl 2 rfl) ?_
                    refine lv_icmp_le (tgt := 101) hx hb dX7_haste_91 (by decide) (fun c_46 => ?_) (fun c_46 => ?_)
                    · refine lv_iinc (v := 3) (lv' := [(5, .int 3), (6, .int 1), (4, .int 1), (3, .int 0), (0, .ref x0), (1, .int 0), (2, .int w)]) hx hb dX7_haste_101 hl (k := 1) rfl (by decide) (by decide) rfl (fun ls hl => ?_)
                      refine lv_goto (tgt := 71) hx hb dX7_haste_104 (by decide) ?_
                      refine lv_iload hx hb dX7_haste_71 (lv_at hl 0 rfl) ?_
                      refine lv_bipush (v := 9) hx hb dX7_haste_73 (by decide) ?_
                      refine lv_icmp_gt (tgt := 107) hx hb dX7_haste_75 (by decide) (fun c_47 => ?_) (fun c_47 => ?_)
                      · exact absurd c_47 (by decide)
                      · refine lv_aload_n hx hb dX7_haste_78 rfl (lv_at hl 4 rfl) ?_
                        refine lv_iload hx hb dX7_haste_79 (lv_at hl 0 rfl) ?_
                        refine lv_iload_n hx hb dX7_haste_81 rfl (lv_at hl 5 rfl) ?_
                        skip
                        refine zw_V (As := [.int 3, .int 0]) (rest := []) (wr := [(xr, .inl (cI, 8, .inl (fun _ => 0)))]) ⟨hx, hb, hml, hown, hts⟩ (c_casesBy_0 l D cI cJ cZ cP cS x0 xs j0 k0 w0 rd mv xr jp jc z0 0 0 wk wl wc wp q_43 q_44 q_45 (0) (2) (0) (3)  H.size) (cwV 2 hts gX7_haste_X7_casesBy rfl rfl rfl (by decide +kernel) ⟨Nat.le_of_ble_eq_true rfl, Nat.le_of_ble_eq_true rfl⟩) hK hN (hZ.kept hS) hP hD hS hA [1, 2, 3, 4, 5, 6, 7] [0] rfl rfl (by decide) (by decide) (by decide) (va_recv hK hP (ci := 7) (q0 := 1) rfl rfl) rfl hl.1 rfl (Nat.le_of_ble_eq_true rfl) dX7_haste_82 ⟨Nat.le_of_ble_eq_true rfl, Nat.le_of_ble_eq_true rfl⟩ (fun r_48 u_49 H locs hr_48 hP hD hS => ?_)
                        obtain ⟨q_50, q_51, q_52⟩ := u_49
                        replace hP : va_P D vwCl [(xr, .inl (cI, 8, .inl (fun _ => 0))), (x0, .inr (7, [.ref xs, .ref j0, .ref k0, .ref w0, .ref rd, .ref mv, .ref xr, .int 0, .int (-1)])), (w0, .inr (5, [.ref wk, .ref wl, .ref wc, .ref wp, .int 0, .int 3, .int 0])), (wk, .inl (cI, 125, .inl q_50)), (wl, .inl (cI, 125, .inl q_51)), (wc, .inl (cI, 3, .inl q_52)), (j0, .inr (0, [.ref z0, .ref jp, .ref jc, .int 0, .int 0, .int 0, .int 60, .int 0, .int 1])), (jc, .inl (cI, 3, .inl (zL3 5 10 50)))] H := hP
                        replace hD : va_D _ [(xr, .inl (cI, 8, .inl (fun _ => 0))), (x0, .inr (7, [.ref xs, .ref j0, .ref k0, .ref w0, .ref rd, .ref mv, .ref xr, .int 0, .int (-1)])), (w0, .inr (5, [.ref wk, .ref wl, .ref wc, .ref wp, .int 0, .int 3, .int 0])), (wk, .inl (cI, 125, .inl q_50)), (wl, .inl (cI, 125, .inl q_51)), (wc, .inl (cI, 3, .inl q_52)), (j0, .inr (0, [.ref z0, .ref jp, .ref jc, .int 0, .int 0, .int 0, .int 60, .int 0, .int 1])), (jc, .inl (cI, 3, .inl (zL3 5 10 50)))] := hD
                        obtain rfl := hr_48
                        refine lv_istore (lv' := [(6, .int 1), (5, .int 3), (4, .int 1), (3, .int 0), (0, .ref x0), (1, .int 0), (2, .int w)]) hx hb dX7_haste_85 hl (by decide) rfl (fun ls hl => ?_)
                        refine lv_iload hx hb dX7_haste_87 (lv_at hl 0 rfl) ?_
                        refine lv_iload hx hb dX7_haste_89 (lv_at hl 2 rfl) ?_
                        refine lv_icmp_le (tgt := 101) hx hb dX7_haste_91 (by decide) (fun c_53 => ?_) (fun c_53 => ?_)
                        · refine lv_iinc (v := 4) (lv' := [(5, .int 4), (6, .int 1), (4, .int 1), (3, .int 0), (0, .ref x0), (1, .int 0), (2, .int w)]) hx hb dX7_haste_101 hl (k := 1) rfl (by decide) (by decide) rfl (fun ls hl => ?_)
                          refine lv_goto (tgt := 71) hx hb dX7_haste_104 (by decide) ?_
                          refine lv_iload hx hb dX7_haste_71 (lv_at hl 0 rfl) ?_
                          refine lv_bipush (v := 9) hx hb dX7_haste_73 (by decide) ?_
                          refine lv_icmp_gt (tgt := 107) hx hb dX7_haste_75 (by decide) (fun c_54 => ?_) (fun c_54 => ?_)
                          · exact absurd c_54 (by decide)
                          · refine lv_aload_n hx hb dX7_haste_78 rfl (lv_at hl 4 rfl) ?_
                            refine lv_iload hx hb dX7_haste_79 (lv_at hl 0 rfl) ?_
                            refine lv_iload_n hx hb dX7_haste_81 rfl (lv_at hl 5 rfl) ?_
                            skip
                            refine zw_V (As := [.int 4, .int 0]) (rest := []) (wr := [(xr, .inl (cI, 8, .inl (fun _ => 0)))]) ⟨hx, hb, hml, hown, hts⟩ (c_casesBy_0 l D cI cJ cZ cP cS x0 xs j0 k0 w0 rd mv xr jp jc z0 0 0 wk wl wc wp q_50 q_51 q_52 (0) (3) (0) (4)  H.size) (cwV 2 hts gX7_haste_X7_casesBy rfl rfl rfl (by decide +kernel) ⟨Nat.le_of_ble_eq_true rfl, Nat.le_of_ble_eq_true rfl⟩) hK hN (hZ.kept hS) hP hD hS hA [1, 2, 3, 4, 5, 6, 7] [0] rfl rfl (by decide) (by decide) (by decide) (va_recv hK hP (ci := 7) (q0 := 1) rfl rfl) rfl hl.1 rfl (Nat.le_of_ble_eq_true rfl) dX7_haste_82 ⟨Nat.le_of_ble_eq_true rfl, Nat.le_of_ble_eq_true rfl⟩ (fun r_55 u_56 H locs hr_55 hP hD hS => ?_)
                            obtain ⟨q_57, q_58, q_59⟩ := u_56
                            replace hP : va_P D vwCl [(xr, .inl (cI, 8, .inl (fun _ => 0))), (x0, .inr (7, [.ref xs, .ref j0, .ref k0, .ref w0, .ref rd, .ref mv, .ref xr, .int 0, .int (-1)])), (w0, .inr (5, [.ref wk, .ref wl, .ref wc, .ref wp, .int 0, .int 4, .int 0])), (wk, .inl (cI, 125, .inl q_57)), (wl, .inl (cI, 125, .inl q_58)), (wc, .inl (cI, 3, .inl q_59)), (j0, .inr (0, [.ref z0, .ref jp, .ref jc, .int 0, .int 0, .int 0, .int 60, .int 0, .int 1])), (jc, .inl (cI, 3, .inl (zL3 5 10 50)))] H := hP
                            replace hD : va_D _ [(xr, .inl (cI, 8, .inl (fun _ => 0))), (x0, .inr (7, [.ref xs, .ref j0, .ref k0, .ref w0, .ref rd, .ref mv, .ref xr, .int 0, .int (-1)])), (w0, .inr (5, [.ref wk, .ref wl, .ref wc, .ref wp, .int 0, .int 4, .int 0])), (wk, .inl (cI, 125, .inl q_57)), (wl, .inl (cI, 125, .inl q_58)), (wc, .inl (cI, 3, .inl q_59)), (j0, .inr (0, [.ref z0, .ref jp, .ref jc, .int 0, .int 0, .int 0, .int 60, .int 0, .int 1])), (jc, .inl (cI, 3, .inl (zL3 5 10 50)))] := hD
                            obtain rfl := hr_55
                            refine lv_istore (lv' := [(6, .int 1), (5, .int 4), (4, .int 1), (3, .int 0), (0, .ref x0), (1, .int 0), (2, .int w)]) hx hb dX7_haste_85 hl (by decide) rfl (fun ls hl => ?_)
                            refine lv_iload hx hb dX7_haste_87 (lv_at hl 0 rfl) ?_
                            refine lv_iload hx hb dX7_haste_89 (lv_at hl 2 rfl) ?_
                            refine lv_icmp_le (tgt := 101) hx hb dX7_haste_91 (by decide) (fun c_60 => ?_) (fun c_60 => ?_)
                            · refine lv_iinc (v := 5) (lv' := [(5, .int 5), (6, .int 1), (4, .int 1), (3, .int 0), (0, .ref x0), (1, .int 0), (2, .int w)]) hx hb dX7_haste_101 hl (k := 1) rfl (by decide) (by decide) rfl (fun ls hl => ?_)
                              refine lv_goto (tgt := 71) hx hb dX7_haste_104 (by decide) ?_
                              refine lv_iload hx hb dX7_haste_71 (lv_at hl 0 rfl) ?_
                              refine lv_bipush (v := 9) hx hb dX7_haste_73 (by decide) ?_
                              refine lv_icmp_gt (tgt := 107) hx hb dX7_haste_75 (by decide) (fun c_61 => ?_) (fun c_61 => ?_)
                              · exact absurd c_61 (by decide)
                              · refine lv_aload_n hx hb dX7_haste_78 rfl (lv_at hl 4 rfl) ?_
                                refine lv_iload hx hb dX7_haste_79 (lv_at hl 0 rfl) ?_
                                refine lv_iload_n hx hb dX7_haste_81 rfl (lv_at hl 5 rfl) ?_
                                skip
                                refine zw_V (As := [.int 5, .int 0]) (rest := []) (wr := [(xr, .inl (cI, 8, .inl (fun _ => 0)))]) ⟨hx, hb, hml, hown, hts⟩ (c_casesBy_0 l D cI cJ cZ cP cS x0 xs j0 k0 w0 rd mv xr jp jc z0 0 0 wk wl wc wp q_57 q_58 q_59 (0) (4) (0) (5)  H.size) (cwV 2 hts gX7_haste_X7_casesBy rfl rfl rfl (by decide +kernel) ⟨Nat.le_of_ble_eq_true rfl, Nat.le_of_ble_eq_true rfl⟩) hK hN (hZ.kept hS) hP hD hS hA [1, 2, 3, 4, 5, 6, 7] [0] rfl rfl (by decide) (by decide) (by decide) (va_recv hK hP (ci := 7) (q0 := 1) rfl rfl) rfl hl.1 rfl (Nat.le_of_ble_eq_true rfl) dX7_haste_82 ⟨Nat.le_of_ble_eq_true rfl, Nat.le_of_ble_eq_true rfl⟩ (fun r_62 u_63 H locs hr_62 hP hD hS => ?_)
                                obtain ⟨q_64, q_65, q_66⟩ := u_63
                                replace hP : va_P D vwCl [(xr, .inl (cI, 8, .inl (fun _ => 0))), (x0, .inr (7, [.ref xs, .ref j0, .ref k0, .ref w0, .ref rd, .ref mv, .ref xr, .int 0, .int (-1)])), (w0, .inr (5, [.ref wk, .ref wl, .ref wc, .ref wp, .int 0, .int 5, .int 0])), (wk, .inl (cI, 125, .inl q_64)), (wl, .inl (cI, 125, .inl q_65)), (wc, .inl (cI, 3, .inl q_66)), (j0, .inr (0, [.ref z0, .ref jp, .ref jc, .int 0, .int 0, .int 0, .int 60, .int 0, .int 1])), (jc, .inl (cI, 3, .inl (zL3 5 10 50)))] H := hP
                                replace hD : va_D _ [(xr, .inl (cI, 8, .inl (fun _ => 0))), (x0, .inr (7, [.ref xs, .ref j0, .ref k0, .ref w0, .ref rd, .ref mv, .ref xr, .int 0, .int (-1)])), (w0, .inr (5, [.ref wk, .ref wl, .ref wc, .ref wp, .int 0, .int 5, .int 0])), (wk, .inl (cI, 125, .inl q_64)), (wl, .inl (cI, 125, .inl q_65)), (wc, .inl (cI, 3, .inl q_66)), (j0, .inr (0, [.ref z0, .ref jp, .ref jc, .int 0, .int 0, .int 0, .int 60, .int 0, .int 1])), (jc, .inl (cI, 3, .inl (zL3 5 10 50)))] := hD
                                obtain rfl := hr_62
                                refine lv_istore (lv' := [(6, .int 1), (5, .int 5), (4, .int 1), (3, .int 0), (0, .ref x0), (1, .int 0), (2, .int w)]) hx hb dX7_haste_85 hl (by decide) rfl (fun ls hl => ?_)
                                refine lv_iload hx hb dX7_haste_87 (lv_at hl 0 rfl) ?_
                                refine lv_iload hx hb dX7_haste_89 (lv_at hl 2 rfl) ?_
                                refine lv_icmp_le (tgt := 101) hx hb dX7_haste_91 (by decide) (fun c_67 => ?_) (fun c_67 => ?_)
                                · refine lv_iinc (v := 6) (lv' := [(5, .int 6), (6, .int 1), (4, .int 1), (3, .int 0), (0, .ref x0), (1, .int 0), (2, .int w)]) hx hb dX7_haste_101 hl (k := 1) rfl (by decide) (by decide) rfl (fun ls hl => ?_)
                                  refine lv_goto (tgt := 71) hx hb dX7_haste_104 (by decide) ?_
                                  refine lv_iload hx hb dX7_haste_71 (lv_at hl 0 rfl) ?_
                                  refine lv_bipush (v := 9) hx hb dX7_haste_73 (by decide) ?_
                                  refine lv_icmp_gt (tgt := 107) hx hb dX7_haste_75 (by decide) (fun c_68 => ?_) (fun c_68 => ?_)
                                  · exact absurd c_68 (by decide)
                                  · refine lv_aload_n hx hb dX7_haste_78 rfl (lv_at hl 4 rfl) ?_
                                    refine lv_iload hx hb dX7_haste_79 (lv_at hl 0 rfl) ?_
                                    refine lv_iload_n hx hb dX7_haste_81 rfl (lv_at hl 5 rfl) ?_
                                    skip
                                    refine zw_V (As := [.int 6, .int 0]) (rest := []) (wr := [(xr, .inl (cI, 8, .inl (fun _ => 0)))]) ⟨hx, hb, hml, hown, hts⟩ (c_casesBy_0 l D cI cJ cZ cP cS x0 xs j0 k0 w0 rd mv xr jp jc z0 0 0 wk wl wc wp q_64 q_65 q_66 (0) (5) (0) (6)  H.size) (cwV 2 hts gX7_haste_X7_casesBy rfl rfl rfl (by decide +kernel) ⟨Nat.le_of_ble_eq_true rfl, Nat.le_of_ble_eq_true rfl⟩) hK hN (hZ.kept hS) hP hD hS hA [1, 2, 3, 4, 5, 6, 7] [0] rfl rfl (by decide) (by decide) (by decide) (va_recv hK hP (ci := 7) (q0 := 1) rfl rfl) rfl hl.1 rfl (Nat.le_of_ble_eq_true rfl) dX7_haste_82 ⟨Nat.le_of_ble_eq_true rfl, Nat.le_of_ble_eq_true rfl⟩ (fun r_69 u_70 H locs hr_69 hP hD hS => ?_)
                                    obtain ⟨q_71, q_72, q_73⟩ := u_70
                                    replace hP : va_P D vwCl [(xr, .inl (cI, 8, .inl (fun _ => 0))), (x0, .inr (7, [.ref xs, .ref j0, .ref k0, .ref w0, .ref rd, .ref mv, .ref xr, .int 0, .int (-1)])), (w0, .inr (5, [.ref wk, .ref wl, .ref wc, .ref wp, .int 0, .int 6, .int 0])), (wk, .inl (cI, 125, .inl q_71)), (wl, .inl (cI, 125, .inl q_72)), (wc, .inl (cI, 3, .inl q_73)), (j0, .inr (0, [.ref z0, .ref jp, .ref jc, .int 0, .int 0, .int 0, .int 60, .int 0, .int 1])), (jc, .inl (cI, 3, .inl (zL3 5 10 50)))] H := hP
                                    replace hD : va_D _ [(xr, .inl (cI, 8, .inl (fun _ => 0))), (x0, .inr (7, [.ref xs, .ref j0, .ref k0, .ref w0, .ref rd, .ref mv, .ref xr, .int 0, .int (-1)])), (w0, .inr (5, [.ref wk, .ref wl, .ref wc, .ref wp, .int 0, .int 6, .int 0])), (wk, .inl (cI, 125, .inl q_71)), (wl, .inl (cI, 125, .inl q_72)), (wc, .inl (cI, 3, .inl q_73)), (j0, .inr (0, [.ref z0, .ref jp, .ref jc, .int 0, .int 0, .int 0, .int 60, .int 0, .int 1])), (jc, .inl (cI, 3, .inl (zL3 5 10 50)))] := hD
                                    obtain rfl := hr_69
                                    refine lv_istore (lv' := [(6, .int 1), (5, .int 6), (4, .int 1), (3, .int 0), (0, .ref x0), (1, .int 0), (2, .int w)]) hx hb dX7_haste_85 hl (by decide) rfl (fun ls hl => ?_)
                                    refine lv_iload hx hb dX7_haste_87 (lv_at hl 0 rfl) ?_
                                    refine lv_iload hx hb dX7_haste_89 (lv_at hl 2 rfl) ?_
                                    refine lv_icmp_le (tgt := 101) hx hb dX7_haste_91 (by decide) (fun c_74 => ?_) (fun c_74 => ?_)
                                    · refine lv_iinc (v := 7) (lv' := [(5, .int 7), (6, .int 1), (4, .int 1), (3, .int 0), (0, .ref x0), (1, .int 0), (2, .int w)]) hx hb dX7_haste_101 hl (k := 1) rfl (by decide) (by decide) rfl (fun ls hl => ?_)
                                      refine lv_goto (tgt := 71) hx hb dX7_haste_104 (by decide) ?_
                                      refine lv_iload hx hb dX7_haste_71 (lv_at hl 0 rfl) ?_
                                      refine lv_bipush (v := 9) hx hb dX7_haste_73 (by decide) ?_
                                      refine lv_icmp_gt (tgt := 107) hx hb dX7_haste_75 (by decide) (fun c_75 => ?_) (fun c_75 => ?_)
                                      · exact absurd c_75 (by decide)
                                      · refine lv_aload_n hx hb dX7_haste_78 rfl (lv_at hl 4 rfl) ?_
                                        refine lv_iload hx hb dX7_haste_79 (lv_at hl 0 rfl) ?_
                                        refine lv_iload_n hx hb dX7_haste_81 rfl (lv_at hl 5 rfl) ?_
                                        skip
                                        refine zw_V (As := [.int 7, .int 0]) (rest := []) (wr := [(xr, .inl (cI, 8, .inl (fun _ => 0)))]) ⟨hx, hb, hml, hown, hts⟩ (c_casesBy_0 l D cI cJ cZ cP cS x0 xs j0 k0 w0 rd mv xr jp jc z0 0 0 wk wl wc wp q_71 q_72 q_73 (0) (6) (0) (7)  H.size) (cwV 2 hts gX7_haste_X7_casesBy rfl rfl rfl (by decide +kernel) ⟨Nat.le_of_ble_eq_true rfl, Nat.le_of_ble_eq_true rfl⟩) hK hN (hZ.kept hS) hP hD hS hA [1, 2, 3, 4, 5, 6, 7] [0] rfl rfl (by decide) (by decide) (by decide) (va_recv hK hP (ci := 7) (q0 := 1) rfl rfl) rfl hl.1 rfl (Nat.le_of_ble_eq_true rfl) dX7_haste_82 ⟨Nat.le_of_ble_eq_true rfl, Nat.le_of_ble_eq_true rfl⟩ (fun r_76 u_77 H locs hr_76 hP hD hS => ?_)
                                        obtain ⟨q_78, q_79, q_80⟩ := u_77
                                        replace hP : va_P D vwCl [(xr, .inl (cI, 8, .inl (fun _ => 0))), (x0, .inr (7, [.ref xs, .ref j0, .ref k0, .ref w0, .ref rd, .ref mv, .ref xr, .int 0, .int (-1)])), (w0, .inr (5, [.ref wk, .ref wl, .ref wc, .ref wp, .int 0, .int 7, .int 0])), (wk, .inl (cI, 125, .inl q_78)), (wl, .inl (cI, 125, .inl q_79)), (wc, .inl (cI, 3, .inl q_80)), (j0, .inr (0, [.ref z0, .ref jp, .ref jc, .int 0, .int 0, .int 0, .int 60, .int 0, .int 1])), (jc, .inl (cI, 3, .inl (zL3 5 10 50)))] H := hP
                                        replace hD : va_D _ [(xr, .inl (cI, 8, .inl (fun _ => 0))), (x0, .inr (7, [.ref xs, .ref j0, .ref k0, .ref w0, .ref rd, .ref mv, .ref xr, .int 0, .int (-1)])), (w0, .inr (5, [.ref wk, .ref wl, .ref wc, .ref wp, .int 0, .int 7, .int 0])), (wk, .inl (cI, 125, .inl q_78)), (wl, .inl (cI, 125, .inl q_79)), (wc, .inl (cI, 3, .inl q_80)), (j0, .inr (0, [.ref z0, .ref jp, .ref jc, .int 0, .int 0, .int 0, .int 60, .int 0, .int 1])), (jc, .inl (cI, 3, .inl (zL3 5 10 50)))] := hD
                                        obtain rfl := hr_76
                                        refine lv_istore (lv' := [(6, .int 1), (5, .int 7), (4, .int 1), (3, .int 0), (0, .ref x0), (1, .int 0), (2, .int w)]) hx hb dX7_haste_85 hl (by decide) rfl (fun ls hl => ?_)
                                        refine lv_iload hx hb dX7_haste_87 (lv_at hl 0 rfl) ?_
                                        refine lv_iload hx hb dX7_haste_89 (lv_at hl 2 rfl) ?_
                                        refine lv_icmp_le (tgt := 101) hx hb dX7_haste_91 (by decide) (fun c_81 => ?_) (fun c_81 => ?_)
                                        · refine lv_iinc (v := 8) (lv' := [(5, .int 8), (6, .int 1), (4, .int 1), (3, .int 0), (0, .ref x0), (1, .int 0), (2, .int w)]) hx hb dX7_haste_101 hl (k := 1) rfl (by decide) (by decide) rfl (fun ls hl => ?_)
                                          refine lv_goto (tgt := 71) hx hb dX7_haste_104 (by decide) ?_
                                          refine lv_iload hx hb dX7_haste_71 (lv_at hl 0 rfl) ?_
                                          refine lv_bipush (v := 9) hx hb dX7_haste_73 (by decide) ?_
                                          refine lv_icmp_gt (tgt := 107) hx hb dX7_haste_75 (by decide) (fun c_82 => ?_) (fun c_82 => ?_)
                                          · exact absurd c_82 (by decide)
                                          · refine lv_aload_n hx hb dX7_haste_78 rfl (lv_at hl 4 rfl) ?_
                                            refine lv_iload hx hb dX7_haste_79 (lv_at hl 0 rfl) ?_
                                            refine lv_iload_n hx hb dX7_haste_81 rfl (lv_at hl 5 rfl) ?_
                                            skip
                                            refine zw_V (As := [.int 8, .int 0]) (rest := []) (wr := [(xr, .inl (cI, 8, .inl (fun _ => 0)))]) ⟨hx, hb, hml, hown, hts⟩ (c_casesBy_0 l D cI cJ cZ cP cS x0 xs j0 k0 w0 rd mv xr jp jc z0 0 0 wk wl wc wp q_78 q_79 q_80 (0) (7) (0) (8)  H.size) (cwV 2 hts gX7_haste_X7_casesBy rfl rfl rfl (by decide +kernel) ⟨Nat.le_of_ble_eq_true rfl, Nat.le_of_ble_eq_true rfl⟩) hK hN (hZ.kept hS) hP hD hS hA [1, 2, 3, 4, 5, 6, 7] [0] rfl rfl (by decide) (by decide) (by decide) (va_recv hK hP (ci := 7) (q0 := 1) rfl rfl) rfl hl.1 rfl (Nat.le_of_ble_eq_true rfl) dX7_haste_82 ⟨Nat.le_of_ble_eq_true rfl, Nat.le_of_ble_eq_true rfl⟩ (fun r_83 u_84 H locs hr_83 hP hD hS => ?_)
                                            obtain ⟨q_85, q_86, q_87⟩ := u_84
                                            replace hP : va_P D vwCl [(xr, .inl (cI, 8, .inl (fun _ => 0))), (x0, .inr (7, [.ref xs, .ref j0, .ref k0, .ref w0, .ref rd, .ref mv, .ref xr, .int 0, .int (-1)])), (w0, .inr (5, [.ref wk, .ref wl, .ref wc, .ref wp, .int 0, .int 8, .int 0])), (wk, .inl (cI, 125, .inl q_85)), (wl, .inl (cI, 125, .inl q_86)), (wc, .inl (cI, 3, .inl q_87)), (j0, .inr (0, [.ref z0, .ref jp, .ref jc, .int 0, .int 0, .int 0, .int 60, .int 0, .int 1])), (jc, .inl (cI, 3, .inl (zL3 5 10 50)))] H := hP
                                            replace hD : va_D _ [(xr, .inl (cI, 8, .inl (fun _ => 0))), (x0, .inr (7, [.ref xs, .ref j0, .ref k0, .ref w0, .ref rd, .ref mv, .ref xr, .int 0, .int (-1)])), (w0, .inr (5, [.ref wk, .ref wl, .ref wc, .ref wp, .int 0, .int 8, .int 0])), (wk, .inl (cI, 125, .inl q_85)), (wl, .inl (cI, 125, .inl q_86)), (wc, .inl (cI, 3, .inl q_87)), (j0, .inr (0, [.ref z0, .ref jp, .ref jc, .int 0, .int 0, .int 0, .int 60, .int 0, .int 1])), (jc, .inl (cI, 3, .inl (zL3 5 10 50)))] := hD
                                            obtain rfl := hr_83
                                            refine lv_istore (lv' := [(6, .int 1), (5, .int 8), (4, .int 1), (3, .int 0), (0, .ref x0), (1, .int 0), (2, .int w)]) hx hb dX7_haste_85 hl (by decide) rfl (fun ls hl => ?_)
                                            refine lv_iload hx hb dX7_haste_87 (lv_at hl 0 rfl) ?_
                                            refine lv_iload hx hb dX7_haste_89 (lv_at hl 2 rfl) ?_
                                            refine lv_icmp_le (tgt := 101) hx hb dX7_haste_91 (by decide) (fun c_88 => ?_) (fun c_88 => ?_)
                                            · refine lv_iinc (v := 9) (lv' := [(5, .int 9), (6, .int 1), (4, .int 1), (3, .int 0), (0, .ref x0), (1, .int 0), (2, .int w)]) hx hb dX7_haste_101 hl (k := 1) rfl (by decide) (by decide) rfl (fun ls hl => ?_)
                                              refine lv_goto (tgt := 71) hx hb dX7_haste_104 (by decide) ?_
                                              refine lv_iload hx hb dX7_haste_71 (lv_at hl 0 rfl) ?_
                                              refine lv_bipush (v := 9) hx hb dX7_haste_73 (by decide) ?_
                                              refine lv_icmp_gt (tgt := 107) hx hb dX7_haste_75 (by decide) (fun c_89 => ?_) (fun c_89 => ?_)
                                              · exact absurd c_89 (by decide)
                                              · refine lv_aload_n hx hb dX7_haste_78 rfl (lv_at hl 4 rfl) ?_
                                                refine lv_iload hx hb dX7_haste_79 (lv_at hl 0 rfl) ?_
                                                refine lv_iload_n hx hb dX7_haste_81 rfl (lv_at hl 5 rfl) ?_
                                                skip
                                                refine zw_V (As := [.int 9, .int 0]) (rest := []) (wr := [(xr, .inl (cI, 8, .inl (fun _ => 0)))]) ⟨hx, hb, hml, hown, hts⟩ (c_casesBy_0 l D cI cJ cZ cP cS x0 xs j0 k0 w0 rd mv xr jp jc z0 0 0 wk wl wc wp q_85 q_86 q_87 (0) (8) (0) (9)  H.size) (cwV 2 hts gX7_haste_X7_casesBy rfl rfl rfl (by decide +kernel) ⟨Nat.le_of_ble_eq_true rfl, Nat.le_of_ble_eq_true rfl⟩) hK hN (hZ.kept hS) hP hD hS hA [1, 2, 3, 4, 5, 6, 7] [0] rfl rfl (by decide) (by decide) (by decide) (va_recv hK hP (ci := 7) (q0 := 1) rfl rfl) rfl hl.1 rfl (Nat.le_of_ble_eq_true rfl) dX7_haste_82 ⟨Nat.le_of_ble_eq_true rfl, Nat.le_of_ble_eq_true rfl⟩ (fun r_90 u_91 H locs hr_90 hP hD hS => ?_)
                                                obtain ⟨q_92, q_93, q_94⟩ := u_91
                                                replace hP : va_P D vwCl [(xr, .inl (cI, 8, .inl (fun _ => 0))), (x0, .inr (7, [.ref xs, .ref j0, .ref k0, .ref w0, .ref rd, .ref mv, .ref xr, .int 0, .int (-1)])), (w0, .inr (5, [.ref wk, .ref wl, .ref wc, .ref wp, .int 0, .int 9, .int 0])), (wk, .inl (cI, 125, .inl q_92)), (wl, .inl (cI, 125, .inl q_93)), (wc, .inl (cI, 3, .inl q_94)), (j0, .inr (0, [.ref z0, .ref jp, .ref jc, .int 0, .int 0, .int 0, .int 60, .int 0, .int 1])), (jc, .inl (cI, 3, .inl (zL3 5 10 50)))] H := hP
                                                replace hD : va_D _ [(xr, .inl (cI, 8, .inl (fun _ => 0))), (x0, .inr (7, [.ref xs, .ref j0, .ref k0, .ref w0, .ref rd, .ref mv, .ref xr, .int 0, .int (-1)])), (w0, .inr (5, [.ref wk, .ref wl, .ref wc, .ref wp, .int 0, .int 9, .int 0])), (wk, .inl (cI, 125, .inl q_92)), (wl, .inl (cI, 125, .inl q_93)), (wc, .inl (cI, 3, .inl q_94)), (j0, .inr (0, [.ref z0, .ref jp, .ref jc, .int 0, .int 0, .int 0, .int 60, .int 0, .int 1])), (jc, .inl (cI, 3, .inl (zL3 5 10 50)))] := hD
                                                obtain rfl := hr_90
                                                refine lv_istore (lv' := [(6, .int 1), (5, .int 9), (4, .int 1), (3, .int 0), (0, .ref x0), (1, .int 0), (2, .int w)]) hx hb dX7_haste_85 hl (by decide) rfl (fun ls hl => ?_)
                                                refine lv_iload hx hb dX7_haste_87 (lv_at hl 0 rfl) ?_
                                                refine lv_iload hx hb dX7_haste_89 (lv_at hl 2 rfl) ?_
                                                refine lv_icmp_le (tgt := 101) hx hb dX7_haste_91 (by decide) (fun c_95 => ?_) (fun c_95 => ?_)
                                                · refine lv_iinc (v := 10) (lv' := [(5, .int 10), (6, .int 1), (4, .int 1), (3, .int 0), (0, .ref x0), (1, .int 0), (2, .int w)]) hx hb dX7_haste_101 hl (k := 1) rfl (by decide) (by decide) rfl (fun ls hl => ?_)
                                                  refine lv_goto (tgt := 71) hx hb dX7_haste_104 (by decide) ?_
                                                  refine lv_iload hx hb dX7_haste_71 (lv_at hl 0 rfl) ?_
                                                  refine lv_bipush (v := 9) hx hb dX7_haste_73 (by decide) ?_
                                                  refine lv_icmp_gt (tgt := 107) hx hb dX7_haste_75 (by decide) (fun c_96 => ?_) (fun c_96 => ?_)
                                                  · refine lv_iload_n hx hb dX7_haste_107 rfl (lv_at hl 3 rfl) ?_
                                                    exact W.iret (v := 0) hx hb hr (fun t ht hW => ⟨⟨0, (), rfl, Or.inr (Or.inr (Or.inr (Or.inr (Or.inl (⟨rfl, (by first | omega | decide), (by first | omega | decide), (by first | omega | decide), (by first | omega | decide), (by first | omega | decide), (by first | omega | decide)⟩))))), zP_nil, zD_nil⟩, hS.F ht⟩) hS.2.2 dX7_haste_108
                                                  · exact absurd c_96 (by decide)
                                                · exact absurd c_95 (by decide)
                                            · exact absurd c_88 (by decide)
                                        · exact absurd c_81 (by decide)
                                    · exact absurd c_74 (by decide)
                                · exact absurd c_67 (by decide)
                            · exact absurd c_60 (by decide)
                        · exact absurd c_53 (by decide)
                    · exact absurd c_46 (by decide)
                · exact absurd c_39 (by decide)
            · have fc_27 : w.toInt = 1 := zf_eq c_27 rfl (by decide)
              refine lv_aload_n hx hb dX7_haste_36 rfl (lv_at hl 0 rfl) ?_
              refine lv_bipush (v := 9) hx hb dX7_haste_37 (by decide) ?_
              refine lv_iload_n hx hb dX7_haste_39 rfl (lv_at hl 1 rfl) ?_
              skip
              refine zw_V (As := [.int 9, .int 0]) (rest := []) (wr := [(xr, .inl (cI, 8, .inl (fun _ => 0)))]) ⟨hx, hb, hml, hown, hts⟩ (c_casesBy_0 l D cI cJ cZ cP cS x0 xs j0 k0 w0 rd mv xr jp jc z0 0 0 wk wl wc wp fk fl fc (0) (0) (0) (9)  H.size) (cwV 2 hts gX7_haste_X7_casesBy rfl rfl rfl (by decide +kernel) ⟨Nat.le_of_ble_eq_true rfl, Nat.le_of_ble_eq_true rfl⟩) hK hN (hZ.kept hS) hP hD hS hA [0, 2, 3, 4, 5, 6, 7] [1] rfl rfl (by decide) (by decide) (by decide) (va_recv hK hP (ci := 7) (q0 := 0) rfl rfl) rfl hl.1 rfl (Nat.le_of_ble_eq_true rfl) dX7_haste_40 ⟨Nat.le_of_ble_eq_true rfl, Nat.le_of_ble_eq_true rfl⟩ (fun r_97 u_98 H locs hr_97 hP hD hS => ?_)
              obtain ⟨q_99, q_100, q_101⟩ := u_98
              replace hP : va_P D vwCl [(xr, .inl (cI, 8, .inl (fun _ => 0))), (x0, .inr (7, [.ref xs, .ref j0, .ref k0, .ref w0, .ref rd, .ref mv, .ref xr, .int 0, .int (-1)])), (w0, .inr (5, [.ref wk, .ref wl, .ref wc, .ref wp, .int 0, .int 9, .int 0])), (wk, .inl (cI, 125, .inl q_99)), (wl, .inl (cI, 125, .inl q_100)), (wc, .inl (cI, 3, .inl q_101)), (j0, .inr (0, [.ref z0, .ref jp, .ref jc, .int 0, .int 0, .int 0, .int 60, .int 0, .int 1])), (jc, .inl (cI, 3, .inl (zL3 5 10 50)))] H := hP
              replace hD : va_D _ [(xr, .inl (cI, 8, .inl (fun _ => 0))), (x0, .inr (7, [.ref xs, .ref j0, .ref k0, .ref w0, .ref rd, .ref mv, .ref xr, .int 0, .int (-1)])), (w0, .inr (5, [.ref wk, .ref wl, .ref wc, .ref wp, .int 0, .int 9, .int 0])), (wk, .inl (cI, 125, .inl q_99)), (wl, .inl (cI, 125, .inl q_100)), (wc, .inl (cI, 3, .inl q_101)), (j0, .inr (0, [.ref z0, .ref jp, .ref jc, .int 0, .int 0, .int 0, .int 60, .int 0, .int 1])), (jc, .inl (cI, 3, .inl (zL3 5 10 50)))] := hD
              obtain rfl := hr_97
              refine lv_aload_n hx hb dX7_haste_43 rfl (lv_at hl 0 rfl) ?_
              refine lv_iconst (v := 0) hx hb dX7_haste_44 (by decide) ?_
              refine lv_iload_n hx hb dX7_haste_45 rfl (lv_at hl 1 rfl) ?_
              skip
              refine zw_V (As := [.int 0, .int 0]) (rest := [.int 1]) (wr := [(xr, .inl (cI, 8, .inl (fun _ => 0)))]) ⟨hx, hb, hml, hown, hts⟩ (c_casesBy_0 l D cI cJ cZ cP cS x0 xs j0 k0 w0 rd mv xr jp jc z0 0 0 wk wl wc wp q_99 q_100 q_101 (0) (9) (0) (0)  H.size) (cwV 2 hts gX7_haste_X7_casesBy rfl rfl rfl (by decide +kernel) ⟨Nat.le_of_ble_eq_true rfl, Nat.le_of_ble_eq_true rfl⟩) hK hN (hZ.kept hS) hP hD hS hA [1, 2, 3, 4, 5, 6, 7] [0] rfl rfl (by decide) (by decide) (by decide) (va_recv hK hP (ci := 7) (q0 := 1) rfl rfl) rfl hl.1 rfl (Nat.le_of_ble_eq_true rfl) dX7_haste_46 ⟨Nat.le_of_ble_eq_true rfl, Nat.le_of_ble_eq_true rfl⟩ (fun r_102 u_103 H locs hr_102 hP hD hS => ?_)
              obtain ⟨q_104, q_105, q_106⟩ := u_103
              replace hP : va_P D vwCl [(xr, .inl (cI, 8, .inl (fun _ => 0))), (x0, .inr (7, [.ref xs, .ref j0, .ref k0, .ref w0, .ref rd, .ref mv, .ref xr, .int 0, .int (-1)])), (w0, .inr (5, [.ref wk, .ref wl, .ref wc, .ref wp, .int 0, .int 0, .int 0])), (wk, .inl (cI, 125, .inl q_104)), (wl, .inl (cI, 125, .inl q_105)), (wc, .inl (cI, 3, .inl q_106)), (j0, .inr (0, [.ref z0, .ref jp, .ref jc, .int 0, .int 0, .int 0, .int 60, .int 0, .int 1])), (jc, .inl (cI, 3, .inl (zL3 5 10 50)))] H := hP
              replace hD : va_D _ [(xr, .inl (cI, 8, .inl (fun _ => 0))), (x0, .inr (7, [.ref xs, .ref j0, .ref k0, .ref w0, .ref rd, .ref mv, .ref xr, .int 0, .int (-1)])), (w0, .inr (5, [.ref wk, .ref wl, .ref wc, .ref wp, .int 0, .int 0, .int 0])), (wk, .inl (cI, 125, .inl q_104)), (wl, .inl (cI, 125, .inl q_105)), (wc, .inl (cI, 3, .inl q_106)), (j0, .inr (0, [.ref z0, .ref jp, .ref jc, .int 0, .int 0, .int 0, .int 60, .int 0, .int 1])), (jc, .inl (cI, 3, .inl (zL3 5 10 50)))] := hD
              obtain rfl := hr_102
              refine lv_icmp_ge (tgt := 56) hx hb dX7_haste_49 (by decide) (fun c_107 => ?_) (fun c_107 => ?_)
              · refine lv_iconst (v := 0) hx hb dX7_haste_56 (by decide) ?_
                exact W.iret (v := 0) hx hb hr (fun t ht hW => ⟨⟨0, (), rfl, Or.inr (Or.inr (Or.inr (Or.inr (Or.inr (Or.inl (⟨rfl, (by first | omega | decide), (by first | omega | decide), (by first | omega | decide), (by first | omega | decide), (by first | omega | decide), (by first | omega | decide)⟩)))))), zP_nil, zD_nil⟩, hS.F ht⟩) hS.2.2 dX7_haste_57
              · exact absurd c_107 (by decide)
          · refine lv_iload_n hx hb dX7_haste_31 rfl (lv_at hl 2 rfl) ?_
            refine lv_iconst (v := 1) hx hb dX7_haste_32 (by decide) ?_
            refine lv_icmp_ne (tgt := 58) hx hb dX7_haste_33 (by decide) (fun c_108 => ?_) (fun c_108 => ?_)
            · have fc_108 : w.toInt ≠ 1 := zf_ne c_108 rfl (by decide)
              refine lv_iconst (v := 0) hx hb dX7_haste_58 (by decide) ?_
              refine lv_istore_n (lv' := [(3, .int 0), (0, .ref x0), (1, .int 1), (2, .int w)]) hx hb dX7_haste_59 rfl hl (by decide) rfl (fun ls hl => ?_)
              refine lv_aload_n hx hb dX7_haste_60 rfl (lv_at hl 1 rfl) ?_
              refine lv_iconst (v := 0) hx hb dX7_haste_61 (by decide) ?_
              refine lv_iload_n hx hb dX7_haste_62 rfl (lv_at hl 2 rfl) ?_
              skip
              refine zw_V (As := [.int 0, .int 1]) (rest := []) (wr := [(xr, .inl (cI, 8, .inl (fun _ => 0)))]) ⟨hx, hb, hml, hown, hts⟩ (c_casesBy_1 l D cI cJ cZ cP cS x0 xs j0 k0 w0 rd mv xr jp jc z0 0 0 wk wl wc wp fk fl fc (0) (0) (0) (0)  H.size) (cwV 2 hts gX7_haste_X7_casesBy rfl rfl rfl (by decide +kernel) ⟨Nat.le_of_ble_eq_true rfl, Nat.le_of_ble_eq_true rfl⟩) hK hN (hZ.kept hS) hP hD hS hA [0, 2, 3, 4, 5, 6, 7] [1] rfl rfl (by decide) (by decide) (by decide) (va_recv hK hP (ci := 7) (q0 := 0) rfl rfl) rfl hl.1 rfl (Nat.le_of_ble_eq_true rfl) dX7_haste_63 ⟨Nat.le_of_ble_eq_true rfl, Nat.le_of_ble_eq_true rfl⟩ (fun r_109 u_110 H locs hr_109 hP hD hS => ?_)
              obtain ⟨q_111, q_112, q_113⟩ := u_110
              replace hP : va_P D vwCl [(xr, .inl (cI, 8, .inl (fun _ => 0))), (x0, .inr (7, [.ref xs, .ref j0, .ref k0, .ref w0, .ref rd, .ref mv, .ref xr, .int 0, .int (-1)])), (w0, .inr (5, [.ref wk, .ref wl, .ref wc, .ref wp, .int 0, .int 0, .int 0])), (wk, .inl (cI, 125, .inl q_111)), (wl, .inl (cI, 125, .inl q_112)), (wc, .inl (cI, 3, .inl q_113)), (j0, .inr (0, [.ref z0, .ref jp, .ref jc, .int 0, .int 0, .int 0, .int 60, .int 0, .int 1])), (jc, .inl (cI, 3, .inl (zL3 5 10 50)))] H := hP
              replace hD : va_D _ [(xr, .inl (cI, 8, .inl (fun _ => 0))), (x0, .inr (7, [.ref xs, .ref j0, .ref k0, .ref w0, .ref rd, .ref mv, .ref xr, .int 0, .int (-1)])), (w0, .inr (5, [.ref wk, .ref wl, .ref wc, .ref wp, .int 0, .int 0, .int 0])), (wk, .inl (cI, 125, .inl q_111)), (wl, .inl (cI, 125, .inl q_112)), (wc, .inl (cI, 3, .inl q_113)), (j0, .inr (0, [.ref z0, .ref jp, .ref jc, .int 0, .int 0, .int 0, .int 60, .int 0, .int 1])), (jc, .inl (cI, 3, .inl (zL3 5 10 50)))] := hD
              obtain rfl := hr_109
              refine lv_istore (lv' := [(4, .int 12), (3, .int 0), (0, .ref x0), (1, .int 1), (2, .int w)]) hx hb dX7_haste_66 hl (by decide) rfl (fun ls hl => ?_)
              refine lv_iconst (v := 1) hx hb dX7_haste_68 (by decide) ?_
              refine lv_istore (lv' := [(5, .int 1), (4, .int 12), (3, .int 0), (0, .ref x0), (1, .int 1), (2, .int w)]) hx hb dX7_haste_69 hl (by decide) rfl (fun ls hl => ?_)
              refine lv_iload hx hb dX7_haste_71 (lv_at hl 0 rfl) ?_
              refine lv_bipush (v := 9) hx hb dX7_haste_73 (by decide) ?_
              refine lv_icmp_gt (tgt := 107) hx hb dX7_haste_75 (by decide) (fun c_114 => ?_) (fun c_114 => ?_)
              · exact absurd c_114 (by decide)
              · refine lv_aload_n hx hb dX7_haste_78 rfl (lv_at hl 3 rfl) ?_
                refine lv_iload hx hb dX7_haste_79 (lv_at hl 0 rfl) ?_
                refine lv_iload_n hx hb dX7_haste_81 rfl (lv_at hl 4 rfl) ?_
                skip
                refine zw_V (As := [.int 1, .int 1]) (rest := []) (wr := [(xr, .inl (cI, 8, .inl (fun _ => 0)))]) ⟨hx, hb, hml, hown, hts⟩ (c_casesBy_1 l D cI cJ cZ cP cS x0 xs j0 k0 w0 rd mv xr jp jc z0 0 0 wk wl wc wp q_111 q_112 q_113 (0) (0) (0) (1)  H.size) (cwV 2 hts gX7_haste_X7_casesBy rfl rfl rfl (by decide +kernel) ⟨Nat.le_of_ble_eq_true rfl, Nat.le_of_ble_eq_true rfl⟩) hK hN (hZ.kept hS) hP hD hS hA [1, 2, 3, 4, 5, 6, 7] [0] rfl rfl (by decide) (by decide) (by decide) (va_recv hK hP (ci := 7) (q0 := 1) rfl rfl) rfl hl.1 rfl (Nat.le_of_ble_eq_true rfl) dX7_haste_82 ⟨Nat.le_of_ble_eq_true rfl, Nat.le_of_ble_eq_true rfl⟩ (fun r_115 u_116 H locs hr_115 hP hD hS => ?_)
                obtain ⟨q_117, q_118, q_119⟩ := u_116
                replace hP : va_P D vwCl [(xr, .inl (cI, 8, .inl (fun _ => 0))), (x0, .inr (7, [.ref xs, .ref j0, .ref k0, .ref w0, .ref rd, .ref mv, .ref xr, .int 0, .int (-1)])), (w0, .inr (5, [.ref wk, .ref wl, .ref wc, .ref wp, .int 0, .int 1, .int 0])), (wk, .inl (cI, 125, .inl q_117)), (wl, .inl (cI, 125, .inl q_118)), (wc, .inl (cI, 3, .inl q_119)), (j0, .inr (0, [.ref z0, .ref jp, .ref jc, .int 0, .int 0, .int 0, .int 60, .int 0, .int 1])), (jc, .inl (cI, 3, .inl (zL3 5 10 50)))] H := hP
                replace hD : va_D _ [(xr, .inl (cI, 8, .inl (fun _ => 0))), (x0, .inr (7, [.ref xs, .ref j0, .ref k0, .ref w0, .ref rd, .ref mv, .ref xr, .int 0, .int (-1)])), (w0, .inr (5, [.ref wk, .ref wl, .ref wc, .ref wp, .int 0, .int 1, .int 0])), (wk, .inl (cI, 125, .inl q_117)), (wl, .inl (cI, 125, .inl q_118)), (wc, .inl (cI, 3, .inl q_119)), (j0, .inr (0, [.ref z0, .ref jp, .ref jc, .int 0, .int 0, .int 0, .int 60, .int 0, .int 1])), (jc, .inl (cI, 3, .inl (zL3 5 10 50)))] := hD
                obtain rfl := hr_115
                refine lv_istore (lv' := [(6, .int 12), (5, .int 1), (4, .int 12), (3, .int 0), (0, .ref x0), (1, .int 1), (2, .int w)]) hx hb dX7_haste_85 hl (by decide) rfl (fun ls hl => ?_)
                refine lv_iload hx hb dX7_haste_87 (lv_at hl 0 rfl) ?_
                refine lv_iload hx hb dX7_haste_89 (lv_at hl 2 rfl) ?_
                refine lv_icmp_le (tgt := 101) hx hb dX7_haste_91 (by decide) (fun c_120 => ?_) (fun c_120 => ?_)
                · refine lv_iinc (v := 2) (lv' := [(5, .int 2), (6, .int 12), (4, .int 12), (3, .int 0), (0, .ref x0), (1, .int 1), (2, .int w)]) hx hb dX7_haste_101 hl (k := 1) rfl (by decide) (by decide) rfl (fun ls hl => ?_)
                  refine lv_goto (tgt := 71) hx hb dX7_haste_104 (by decide) ?_
                  refine lv_iload hx hb dX7_haste_71 (lv_at hl 0 rfl) ?_
                  refine lv_bipush (v := 9) hx hb dX7_haste_73 (by decide) ?_
                  refine lv_icmp_gt (tgt := 107) hx hb dX7_haste_75 (by decide) (fun c_121 => ?_) (fun c_121 => ?_)
                  · exact absurd c_121 (by decide)
                  · refine lv_aload_n hx hb dX7_haste_78 rfl (lv_at hl 4 rfl) ?_
                    refine lv_iload hx hb dX7_haste_79 (lv_at hl 0 rfl) ?_
                    refine lv_iload_n hx hb dX7_haste_81 rfl (lv_at hl 5 rfl) ?_
                    skip
                    refine zw_V (As := [.int 2, .int 1]) (rest := []) (wr := [(xr, .inl (cI, 8, .inl (fun _ => 0)))]) ⟨hx, hb, hml, hown, hts⟩ (c_casesBy_1 l D cI cJ cZ cP cS x0 xs j0 k0 w0 rd mv xr jp jc z0 0 0 wk wl wc wp q_117 q_118 q_119 (0) (1) (0) (2)  H.size) (cwV 2 hts gX7_haste_X7_casesBy rfl rfl rfl (by decide +kernel) ⟨Nat.le_of_ble_eq_true rfl, Nat.le_of_ble_eq_true rfl⟩) hK hN (hZ.kept hS) hP hD hS hA [1, 2, 3, 4, 5, 6, 7] [0] rfl rfl (by decide) (by decide) (by decide) (va_recv hK hP (ci := 7) (q0 := 1) rfl rfl) rfl hl.1 rfl (Nat.le_of_ble_eq_true rfl) dX7_haste_82 ⟨Nat.le_of_ble_eq_true rfl, Nat.le_of_ble_eq_true rfl⟩ (fun r_122 u_123 H locs hr_122 hP hD hS => ?_)
                    obtain ⟨q_124, q_125, q_126⟩ := u_123
                    replace hP : va_P D vwCl [(xr, .inl (cI, 8, .inl (fun _ => 0))), (x0, .inr (7, [.ref xs, .ref j0, .ref k0, .ref w0, .ref rd, .ref mv, .ref xr, .int 0, .int (-1)])), (w0, .inr (5, [.ref wk, .ref wl, .ref wc, .ref wp, .int 0, .int 2, .int 0])), (wk, .inl (cI, 125, .inl q_124)), (wl, .inl (cI, 125, .inl q_125)), (wc, .inl (cI, 3, .inl q_126)), (j0, .inr (0, [.ref z0, .ref jp, .ref jc, .int 0, .int 0, .int 0, .int 60, .int 0, .int 1])), (jc, .inl (cI, 3, .inl (zL3 5 10 50)))] H := hP
                    replace hD : va_D _ [(xr, .inl (cI, 8, .inl (fun _ => 0))), (x0, .inr (7, [.ref xs, .ref j0, .ref k0, .ref w0, .ref rd, .ref mv, .ref xr, .int 0, .int (-1)])), (w0, .inr (5, [.ref wk, .ref wl, .ref wc, .ref wp, .int 0, .int 2, .int 0])), (wk, .inl (cI, 125, .inl q_124)), (wl, .inl (cI, 125, .inl q_125)), (wc, .inl (cI, 3, .inl q_126)), (j0, .inr (0, [.ref z0, .ref jp, .ref jc, .int 0, .int 0, .int 0, .int 60, .int 0, .int 1])), (jc, .inl (cI, 3, .inl (zL3 5 10 50)))] := hD
                    obtain rfl := hr_122
                    refine lv_istore (lv' := [(6, .int 12), (5, .int 2), (4, .int 12), (3, .int 0), (0, .ref x0), (1, .int 1), (2, .int w)]) hx hb dX7_haste_85 hl (by decide) rfl (fun ls hl => ?_)
                    refine lv_iload hx hb dX7_haste_87 (lv_at hl 0 rfl) ?_
                    refine lv_iload hx hb dX7_haste_89 (lv_at hl 2 rfl) ?_
                    refine lv_icmp_le (tgt := 101) hx hb dX7_haste_91 (by decide) (fun c_127 => ?_) (fun c_127 => ?_)
                    · refine lv_iinc (v := 3) (lv' := [(5, .int 3), (6, .int 12), (4, .int 12), (3, .int 0), (0, .ref x0), (1, .int 1), (2, .int w)]) hx hb dX7_haste_101 hl (k := 1) rfl (by decide) (by decide) rfl (fun ls hl => ?_)
                      refine lv_goto (tgt := 71) hx hb dX7_haste_104 (by decide) ?_
                      refine lv_iload hx hb dX7_haste_71 (lv_at hl 0 rfl) ?_
                      refine lv_bipush (v := 9) hx hb dX7_haste_73 (by decide) ?_
                      refine lv_icmp_gt (tgt := 107) hx hb dX7_haste_75 (by decide) (fun c_128 => ?_) (fun c_128 => ?_)
                      · exact absurd c_128 (by decide)
                      · refine lv_aload_n hx hb dX7_haste_78 rfl (lv_at hl 4 rfl) ?_
                        refine lv_iload hx hb dX7_haste_79 (lv_at hl 0 rfl) ?_
                        refine lv_iload_n hx hb dX7_haste_81 rfl (lv_at hl 5 rfl) ?_
                        skip
                        refine zw_V (As := [.int 3, .int 1]) (rest := []) (wr := [(xr, .inl (cI, 8, .inl (fun _ => 0)))]) ⟨hx, hb, hml, hown, hts⟩ (c_casesBy_1 l D cI cJ cZ cP cS x0 xs j0 k0 w0 rd mv xr jp jc z0 0 0 wk wl wc wp q_124 q_125 q_126 (0) (2) (0) (3)  H.size) (cwV 2 hts gX7_haste_X7_casesBy rfl rfl rfl (by decide +kernel) ⟨Nat.le_of_ble_eq_true rfl, Nat.le_of_ble_eq_true rfl⟩) hK hN (hZ.kept hS) hP hD hS hA [1, 2, 3, 4, 5, 6, 7] [0] rfl rfl (by decide) (by decide) (by decide) (va_recv hK hP (ci := 7) (q0 := 1) rfl rfl) rfl hl.1 rfl (Nat.le_of_ble_eq_true rfl) dX7_haste_82 ⟨Nat.le_of_ble_eq_true rfl, Nat.le_of_ble_eq_true rfl⟩ (fun r_129 u_130 H locs hr_129 hP hD hS => ?_)
                        obtain ⟨q_131, q_132, q_133⟩ := u_130
                        replace hP : va_P D vwCl [(xr, .inl (cI, 8, .inl (fun _ => 0))), (x0, .inr (7, [.ref xs, .ref j0, .ref k0, .ref w0, .ref rd, .ref mv, .ref xr, .int 0, .int (-1)])), (w0, .inr (5, [.ref wk, .ref wl, .ref wc, .ref wp, .int 0, .int 3, .int 0])), (wk, .inl (cI, 125, .inl q_131)), (wl, .inl (cI, 125, .inl q_132)), (wc, .inl (cI, 3, .inl q_133)), (j0, .inr (0, [.ref z0, .ref jp, .ref jc, .int 0, .int 0, .int 0, .int 60, .int 0, .int 1])), (jc, .inl (cI, 3, .inl (zL3 5 10 50)))] H := hP
                        replace hD : va_D _ [(xr, .inl (cI, 8, .inl (fun _ => 0))), (x0, .inr (7, [.ref xs, .ref j0, .ref k0, .ref w0, .ref rd, .ref mv, .ref xr, .int 0, .int (-1)])), (w0, .inr (5, [.ref wk, .ref wl, .ref wc, .ref wp, .int 0, .int 3, .int 0])), (wk, .inl (cI, 125, .inl q_131)), (wl, .inl (cI, 125, .inl q_132)), (wc, .inl (cI, 3, .inl q_133)), (j0, .inr (0, [.ref z0, .ref jp, .ref jc, .int 0, .int 0, .int 0, .int 60, .int 0, .int 1])), (jc, .inl (cI, 3, .inl (zL3 5 10 50)))] := hD
                        obtain rfl := hr_129
                        refine lv_istore (lv' := [(6, .int 12), (5, .int 3), (4, .int 12), (3, .int 0), (0, .ref x0), (1, .int 1), (2, .int w)]) hx hb dX7_haste_85 hl (by decide) rfl (fun ls hl => ?_)
                        refine lv_iload hx hb dX7_haste_87 (lv_at hl 0 rfl) ?_
                        refine lv_iload hx hb dX7_haste_89 (lv_at hl 2 rfl) ?_
                        refine lv_icmp_le (tgt := 101) hx hb dX7_haste_91 (by decide) (fun c_134 => ?_) (fun c_134 => ?_)
                        · refine lv_iinc (v := 4) (lv' := [(5, .int 4), (6, .int 12), (4, .int 12), (3, .int 0), (0, .ref x0), (1, .int 1), (2, .int w)]) hx hb dX7_haste_101 hl (k := 1) rfl (by decide) (by decide) rfl (fun ls hl => ?_)
                          refine lv_goto (tgt := 71) hx hb dX7_haste_104 (by decide) ?_
                          refine lv_iload hx hb dX7_haste_71 (lv_at hl 0 rfl) ?_
                          refine lv_bipush (v := 9) hx hb dX7_haste_73 (by decide) ?_
                          refine lv_icmp_gt (tgt := 107) hx hb dX7_haste_75 (by decide) (fun c_135 => ?_) (fun c_135 => ?_)
                          · exact absurd c_135 (by decide)
                          · refine lv_aload_n hx hb dX7_haste_78 rfl (lv_at hl 4 rfl) ?_
                            refine lv_iload hx hb dX7_haste_79 (lv_at hl 0 rfl) ?_
                            refine lv_iload_n hx hb dX7_haste_81 rfl (lv_at hl 5 rfl) ?_
                            skip
                            refine zw_V (As := [.int 4, .int 1]) (rest := []) (wr := [(xr, .inl (cI, 8, .inl (fun _ => 0)))]) ⟨hx, hb, hml, hown, hts⟩ (c_casesBy_1 l D cI cJ cZ cP cS x0 xs j0 k0 w0 rd mv xr jp jc z0 0 0 wk wl wc wp q_131 q_132 q_133 (0) (3) (0) (4)  H.size) (cwV 2 hts gX7_haste_X7_casesBy rfl rfl rfl (by decide +kernel) ⟨Nat.le_of_ble_eq_true rfl, Nat.le_of_ble_eq_true rfl⟩) hK hN (hZ.kept hS) hP hD hS hA [1, 2, 3, 4, 5, 6, 7] [0] rfl rfl (by decide) (by decide) (by decide) (va_recv hK hP (ci := 7) (q0 := 1) rfl rfl) rfl hl.1 rfl (Nat.le_of_ble_eq_true rfl) dX7_haste_82 ⟨Nat.le_of_ble_eq_true rfl, Nat.le_of_ble_eq_true rfl⟩ (fun r_136 u_137 H locs hr_136 hP hD hS => ?_)
                            obtain ⟨q_138, q_139, q_140⟩ := u_137
                            replace hP : va_P D vwCl [(xr, .inl (cI, 8, .inl (fun _ => 0))), (x0, .inr (7, [.ref xs, .ref j0, .ref k0, .ref w0, .ref rd, .ref mv, .ref xr, .int 0, .int (-1)])), (w0, .inr (5, [.ref wk, .ref wl, .ref wc, .ref wp, .int 0, .int 4, .int 0])), (wk, .inl (cI, 125, .inl q_138)), (wl, .inl (cI, 125, .inl q_139)), (wc, .inl (cI, 3, .inl q_140)), (j0, .inr (0, [.ref z0, .ref jp, .ref jc, .int 0, .int 0, .int 0, .int 60, .int 0, .int 1])), (jc, .inl (cI, 3, .inl (zL3 5 10 50)))] H := hP
                            replace hD : va_D _ [(xr, .inl (cI, 8, .inl (fun _ => 0))), (x0, .inr (7, [.ref xs, .ref j0, .ref k0, .ref w0, .ref rd, .ref mv, .ref xr, .int 0, .int (-1)])), (w0, .inr (5, [.ref wk, .ref wl, .ref wc, .ref wp, .int 0, .int 4, .int 0])), (wk, .inl (cI, 125, .inl q_138)), (wl, .inl (cI, 125, .inl q_139)), (wc, .inl (cI, 3, .inl q_140)), (j0, .inr (0, [.ref z0, .ref jp, .ref jc, .int 0, .int 0, .int 0, .int 60, .int 0, .int 1])), (jc, .inl (cI, 3, .inl (zL3 5 10 50)))] := hD
                            obtain rfl := hr_136
                            refine lv_istore (lv' := [(6, .int 12), (5, .int 4), (4, .int 12), (3, .int 0), (0, .ref x0), (1, .int 1), (2, .int w)]) hx hb dX7_haste_85 hl (by decide) rfl (fun ls hl => ?_)
                            refine lv_iload hx hb dX7_haste_87 (lv_at hl 0 rfl) ?_
                            refine lv_iload hx hb dX7_haste_89 (lv_at hl 2 rfl) ?_
                            refine lv_icmp_le (tgt := 101) hx hb dX7_haste_91 (by decide) (fun c_141 => ?_) (fun c_141 => ?_)
                            · refine lv_iinc (v := 5) (lv' := [(5, .int 5), (6, .int 12), (4, .int 12), (3, .int 0), (0, .ref x0), (1, .int 1), (2, .int w)]) hx hb dX7_haste_101 hl (k := 1) rfl (by decide) (by decide) rfl (fun ls hl => ?_)
                              refine lv_goto (tgt := 71) hx hb dX7_haste_104 (by decide) ?_
                              refine lv_iload hx hb dX7_haste_71 (lv_at hl 0 rfl) ?_
                              refine lv_bipush (v := 9) hx hb dX7_haste_73 (by decide) ?_
                              refine lv_icmp_gt (tgt := 107) hx hb dX7_haste_75 (by decide) (fun c_142 => ?_) (fun c_142 => ?_)
                              · exact absurd c_142 (by decide)
                              · refine lv_aload_n hx hb dX7_haste_78 rfl (lv_at hl 4 rfl) ?_
                                refine lv_iload hx hb dX7_haste_79 (lv_at hl 0 rfl) ?_
                                refine lv_iload_n hx hb dX7_haste_81 rfl (lv_at hl 5 rfl) ?_
                                skip
                                refine zw_V (As := [.int 5, .int 1]) (rest := []) (wr := [(xr, .inl (cI, 8, .inl (fun _ => 0)))]) ⟨hx, hb, hml, hown, hts⟩ (c_casesBy_1 l D cI cJ cZ cP cS x0 xs j0 k0 w0 rd mv xr jp jc z0 0 0 wk wl wc wp q_138 q_139 q_140 (0) (4) (0) (5)  H.size) (cwV 2 hts gX7_haste_X7_casesBy rfl rfl rfl (by decide +kernel) ⟨Nat.le_of_ble_eq_true rfl, Nat.le_of_ble_eq_true rfl⟩) hK hN (hZ.kept hS) hP hD hS hA [1, 2, 3, 4, 5, 6, 7] [0] rfl rfl (by decide) (by decide) (by decide) (va_recv hK hP (ci := 7) (q0 := 1) rfl rfl) rfl hl.1 rfl (Nat.le_of_ble_eq_true rfl) dX7_haste_82 ⟨Nat.le_of_ble_eq_true rfl, Nat.le_of_ble_eq_true rfl⟩ (fun r_143 u_144 H locs hr_143 hP hD hS => ?_)
                                obtain ⟨q_145, q_146, q_147⟩ := u_144
                                replace hP : va_P D vwCl [(xr, .inl (cI, 8, .inl (fun _ => 0))), (x0, .inr (7, [.ref xs, .ref j0, .ref k0, .ref w0, .ref rd, .ref mv, .ref xr, .int 0, .int (-1)])), (w0, .inr (5, [.ref wk, .ref wl, .ref wc, .ref wp, .int 0, .int 5, .int 0])), (wk, .inl (cI, 125, .inl q_145)), (wl, .inl (cI, 125, .inl q_146)), (wc, .inl (cI, 3, .inl q_147)), (j0, .inr (0, [.ref z0, .ref jp, .ref jc, .int 0, .int 0, .int 0, .int 60, .int 0, .int 1])), (jc, .inl (cI, 3, .inl (zL3 5 10 50)))] H := hP
                                replace hD : va_D _ [(xr, .inl (cI, 8, .inl (fun _ => 0))), (x0, .inr (7, [.ref xs, .ref j0, .ref k0, .ref w0, .ref rd, .ref mv, .ref xr, .int 0, .int (-1)])), (w0, .inr (5, [.ref wk, .ref wl, .ref wc, .ref wp, .int 0, .int 5, .int 0])), (wk, .inl (cI, 125, .inl q_145)), (wl, .inl (cI, 125, .inl q_146)), (wc, .inl (cI, 3, .inl q_147)), (j0, .inr (0, [.ref z0, .ref jp, .ref jc, .int 0, .int 0, .int 0, .int 60, .int 0, .int 1])), (jc, .inl (cI, 3, .inl (zL3 5 10 50)))] := hD
                                obtain rfl := hr_143
                                refine lv_istore (lv' := [(6, .int 12), (5, .int 5), (4, .int 12), (3, .int 0), (0, .ref x0), (1, .int 1), (2, .int w)]) hx hb dX7_haste_85 hl (by decide) rfl (fun ls hl => ?_)
                                refine lv_iload hx hb dX7_haste_87 (lv_at hl 0 rfl) ?_
                                refine lv_iload hx hb dX7_haste_89 (lv_at hl 2 rfl) ?_
                                refine lv_icmp_le (tgt := 101) hx hb dX7_haste_91 (by decide) (fun c_148 => ?_) (fun c_148 => ?_)
                                · refine lv_iinc (v := 6) (lv' := [(5, .int 6), (6, .int 12), (4, .int 12), (3, .int 0), (0, .ref x0), (1, .int 1), (2, .int w)]) hx hb dX7_haste_101 hl (k := 1) rfl (by decide) (by decide) rfl (fun ls hl => ?_)
                                  refine lv_goto (tgt := 71) hx hb dX7_haste_104 (by decide) ?_
                                  refine lv_iload hx hb dX7_haste_71 (lv_at hl 0 rfl) ?_
                                  refine lv_bipush (v := 9) hx hb dX7_haste_73 (by decide) ?_
                                  refine lv_icmp_gt (tgt := 107) hx hb dX7_haste_75 (by decide) (fun c_149 => ?_) (fun c_149 => ?_)
                                  · exact absurd c_149 (by decide)
                                  · refine lv_aload_n hx hb dX7_haste_78 rfl (lv_at hl 4 rfl) ?_
                                    refine lv_iload hx hb dX7_haste_79 (lv_at hl 0 rfl) ?_
                                    refine lv_iload_n hx hb dX7_haste_81 rfl (lv_at hl 5 rfl) ?_
                                    skip
                                    refine zw_V (As := [.int 6, .int 1]) (rest := []) (wr := [(xr, .inl (cI, 8, .inl (fun _ => 0)))]) ⟨hx, hb, hml, hown, hts⟩ (c_casesBy_1 l D cI cJ cZ cP cS x0 xs j0 k0 w0 rd mv xr jp jc z0 0 0 wk wl wc wp q_145 q_146 q_147 (0) (5) (0) (6)  H.size) (cwV 2 hts gX7_haste_X7_casesBy rfl rfl rfl (by decide +kernel) ⟨Nat.le_of_ble_eq_true rfl, Nat.le_of_ble_eq_true rfl⟩) hK hN (hZ.kept hS) hP hD hS hA [1, 2, 3, 4, 5, 6, 7] [0] rfl rfl (by decide) (by decide) (by decide) (va_recv hK hP (ci := 7) (q0 := 1) rfl rfl) rfl hl.1 rfl (Nat.le_of_ble_eq_true rfl) dX7_haste_82 ⟨Nat.le_of_ble_eq_true rfl, Nat.le_of_ble_eq_true rfl⟩ (fun r_150 u_151 H locs hr_150 hP hD hS => ?_)
                                    obtain ⟨q_152, q_153, q_154⟩ := u_151
                                    replace hP : va_P D vwCl [(xr, .inl (cI, 8, .inl (fun _ => 0))), (x0, .inr (7, [.ref xs, .ref j0, .ref k0, .ref w0, .ref rd, .ref mv, .ref xr, .int 0, .int (-1)])), (w0, .inr (5, [.ref wk, .ref wl, .ref wc, .ref wp, .int 0, .int 6, .int 0])), (wk, .inl (cI, 125, .inl q_152)), (wl, .inl (cI, 125, .inl q_153)), (wc, .inl (cI, 3, .inl q_154)), (j0, .inr (0, [.ref z0, .ref jp, .ref jc, .int 0, .int 0, .int 0, .int 60, .int 0, .int 1])), (jc, .inl (cI, 3, .inl (zL3 5 10 50)))] H := hP
                                    replace hD : va_D _ [(xr, .inl (cI, 8, .inl (fun _ => 0))), (x0, .inr (7, [.ref xs, .ref j0, .ref k0, .ref w0, .ref rd, .ref mv, .ref xr, .int 0, .int (-1)])), (w0, .inr (5, [.ref wk, .ref wl, .ref wc, .ref wp, .int 0, .int 6, .int 0])), (wk, .inl (cI, 125, .inl q_152)), (wl, .inl (cI, 125, .inl q_153)), (wc, .inl (cI, 3, .inl q_154)), (j0, .inr (0, [.ref z0, .ref jp, .ref jc, .int 0, .int 0, .int 0, .int 60, .int 0, .int 1])), (jc, .inl (cI, 3, .inl (zL3 5 10 50)))] := hD
                                    obtain rfl := hr_150
                                    refine lv_istore (lv' := [(6, .int 12), (5, .int 6), (4, .int 12), (3, .int 0), (0, .ref x0), (1, .int 1), (2, .int w)]) hx hb dX7_haste_85 hl (by decide) rfl (fun ls hl => ?_)
                                    refine lv_iload hx hb dX7_haste_87 (lv_at hl 0 rfl) ?_
                                    refine lv_iload hx hb dX7_haste_89 (lv_at hl 2 rfl) ?_
                                    refine lv_icmp_le (tgt := 101) hx hb dX7_haste_91 (by decide) (fun c_155 => ?_) (fun c_155 => ?_)
                                    · refine lv_iinc (v := 7) (lv' := [(5, .int 7), (6, .int 12), (4, .int 12), (3, .int 0), (0, .ref x0), (1, .int 1), (2, .int w)]) hx hb dX7_haste_101 hl (k := 1) rfl (by decide) (by decide) rfl (fun ls hl => ?_)
                                      refine lv_goto (tgt := 71) hx hb dX7_haste_104 (by decide) ?_
                                      refine lv_iload hx hb dX7_haste_71 (lv_at hl 0 rfl) ?_
                                      refine lv_bipush (v := 9) hx hb dX7_haste_73 (by decide) ?_
                                      refine lv_icmp_gt (tgt := 107) hx hb dX7_haste_75 (by decide) (fun c_156 => ?_) (fun c_156 => ?_)
                                      · exact absurd c_156 (by decide)
                                      · refine lv_aload_n hx hb dX7_haste_78 rfl (lv_at hl 4 rfl) ?_
                                        refine lv_iload hx hb dX7_haste_79 (lv_at hl 0 rfl) ?_
                                        refine lv_iload_n hx hb dX7_haste_81 rfl (lv_at hl 5 rfl) ?_
                                        skip
                                        refine zw_V (As := [.int 7, .int 1]) (rest := []) (wr := [(xr, .inl (cI, 8, .inl (fun _ => 0)))]) ⟨hx, hb, hml, hown, hts⟩ (c_casesBy_1 l D cI cJ cZ cP cS x0 xs j0 k0 w0 rd mv xr jp jc z0 0 0 wk wl wc wp q_152 q_153 q_154 (0) (6) (0) (7)  H.size) (cwV 2 hts gX7_haste_X7_casesBy rfl rfl rfl (by decide +kernel) ⟨Nat.le_of_ble_eq_true rfl, Nat.le_of_ble_eq_true rfl⟩) hK hN (hZ.kept hS) hP hD hS hA [1, 2, 3, 4, 5, 6, 7] [0] rfl rfl (by decide) (by decide) (by decide) (va_recv hK hP (ci := 7) (q0 := 1) rfl rfl) rfl hl.1 rfl (Nat.le_of_ble_eq_true rfl) dX7_haste_82 ⟨Nat.le_of_ble_eq_true rfl, Nat.le_of_ble_eq_true rfl⟩ (fun r_157 u_158 H locs hr_157 hP hD hS => ?_)
                                        obtain ⟨q_159, q_160, q_161⟩ := u_158
                                        replace hP : va_P D vwCl [(xr, .inl (cI, 8, .inl (fun _ => 0))), (x0, .inr (7, [.ref xs, .ref j0, .ref k0, .ref w0, .ref rd, .ref mv, .ref xr, .int 0, .int (-1)])), (w0, .inr (5, [.ref wk, .ref wl, .ref wc, .ref wp, .int 0, .int 7, .int 0])), (wk, .inl (cI, 125, .inl q_159)), (wl, .inl (cI, 125, .inl q_160)), (wc, .inl (cI, 3, .inl q_161)), (j0, .inr (0, [.ref z0, .ref jp, .ref jc, .int 0, .int 0, .int 0, .int 60, .int 0, .int 1])), (jc, .inl (cI, 3, .inl (zL3 5 10 50)))] H := hP
                                        replace hD : va_D _ [(xr, .inl (cI, 8, .inl (fun _ => 0))), (x0, .inr (7, [.ref xs, .ref j0, .ref k0, .ref w0, .ref rd, .ref mv, .ref xr, .int 0, .int (-1)])), (w0, .inr (5, [.ref wk, .ref wl, .ref wc, .ref wp, .int 0, .int 7, .int 0])), (wk, .inl (cI, 125, .inl q_159)), (wl, .inl (cI, 125, .inl q_160)), (wc, .inl (cI, 3, .inl q_161)), (j0, .inr (0, [.ref z0, .ref jp, .ref jc, .int 0, .int 0, .int 0, .int 60, .int 0, .int 1])), (jc, .inl (cI, 3, .inl (zL3 5 10 50)))] := hD
                                        obtain rfl := hr_157
                                        refine lv_istore (lv' := [(6, .int 12), (5, .int 7), (4, .int 12), (3, .int 0), (0, .ref x0), (1, .int 1), (2, .int w)]) hx hb dX7_haste_85 hl (by decide) rfl (fun ls hl => ?_)
                                        refine lv_iload hx hb dX7_haste_87 (lv_at hl 0 rfl) ?_
                                        refine lv_iload hx hb dX7_haste_89 (lv_at hl 2 rfl) ?_
                                        refine lv_icmp_le (tgt := 101) hx hb dX7_haste_91 (by decide) (fun c_162 => ?_) (fun c_162 => ?_)
                                        · refine lv_iinc (v := 8) (lv' := [(5, .int 8), (6, .int 12), (4, .int 12), (3, .int 0), (0, .ref x0), (1, .int 1), (2, .int w)]) hx hb dX7_haste_101 hl (k := 1) rfl (by decide) (by decide) rfl (fun ls hl => ?_)
                                          refine lv_goto (tgt := 71) hx hb dX7_haste_104 (by decide) ?_
                                          refine lv_iload hx hb dX7_haste_71 (lv_at hl 0 rfl) ?_
                                          refine lv_bipush (v := 9) hx hb dX7_haste_73 (by decide) ?_
                                          refine lv_icmp_gt (tgt := 107) hx hb dX7_haste_75 (by decide) (fun c_163 => ?_) (fun c_163 => ?_)
                                          · exact absurd c_163 (by decide)
                                          · refine lv_aload_n hx hb dX7_haste_78 rfl (lv_at hl 4 rfl) ?_
                                            refine lv_iload hx hb dX7_haste_79 (lv_at hl 0 rfl) ?_
                                            refine lv_iload_n hx hb dX7_haste_81 rfl (lv_at hl 5 rfl) ?_
                                            skip
                                            refine zw_V (As := [.int 8, .int 1]) (rest := []) (wr := [(xr, .inl (cI, 8, .inl (fun _ => 0)))]) ⟨hx, hb, hml, hown, hts⟩ (c_casesBy_1 l D cI cJ cZ cP cS x0 xs j0 k0 w0 rd mv xr jp jc z0 0 0 wk wl wc wp q_159 q_160 q_161 (0) (7) (0) (8)  H.size) (cwV 2 hts gX7_haste_X7_casesBy rfl rfl rfl (by decide +kernel) ⟨Nat.le_of_ble_eq_true rfl, Nat.le_of_ble_eq_true rfl⟩) hK hN (hZ.kept hS) hP hD hS hA [1, 2, 3, 4, 5, 6, 7] [0] rfl rfl (by decide) (by decide) (by decide) (va_recv hK hP (ci := 7) (q0 := 1) rfl rfl) rfl hl.1 rfl (Nat.le_of_ble_eq_true rfl) dX7_haste_82 ⟨Nat.le_of_ble_eq_true rfl, Nat.le_of_ble_eq_true rfl⟩ (fun r_164 u_165 H locs hr_164 hP hD hS => ?_)
                                            obtain ⟨q_166, q_167, q_168⟩ := u_165
                                            replace hP : va_P D vwCl [(xr, .inl (cI, 8, .inl (fun _ => 0))), (x0, .inr (7, [.ref xs, .ref j0, .ref k0, .ref w0, .ref rd, .ref mv, .ref xr, .int 0, .int (-1)])), (w0, .inr (5, [.ref wk, .ref wl, .ref wc, .ref wp, .int 0, .int 8, .int 0])), (wk, .inl (cI, 125, .inl q_166)), (wl, .inl (cI, 125, .inl q_167)), (wc, .inl (cI, 3, .inl q_168)), (j0, .inr (0, [.ref z0, .ref jp, .ref jc, .int 0, .int 0, .int 0, .int 60, .int 0, .int 1])), (jc, .inl (cI, 3, .inl (zL3 5 10 50)))] H := hP
                                            replace hD : va_D _ [(xr, .inl (cI, 8, .inl (fun _ => 0))), (x0, .inr (7, [.ref xs, .ref j0, .ref k0, .ref w0, .ref rd, .ref mv, .ref xr, .int 0, .int (-1)])), (w0, .inr (5, [.ref wk, .ref wl, .ref wc, .ref wp, .int 0, .int 8, .int 0])), (wk, .inl (cI, 125, .inl q_166)), (wl, .inl (cI, 125, .inl q_167)), (wc, .inl (cI, 3, .inl q_168)), (j0, .inr (0, [.ref z0, .ref jp, .ref jc, .int 0, .int 0, .int 0, .int 60, .int 0, .int 1])), (jc, .inl (cI, 3, .inl (zL3 5 10 50)))] := hD
                                            obtain rfl := hr_164
                                            refine lv_istore (lv' := [(6, .int 12), (5, .int 8), (4, .int 12), (3, .int 0), (0, .ref x0), (1, .int 1), (2, .int w)]) hx hb dX7_haste_85 hl (by decide) rfl (fun ls hl => ?_)
                                            refine lv_iload hx hb dX7_haste_87 (lv_at hl 0 rfl) ?_
                                            refine lv_iload hx hb dX7_haste_89 (lv_at hl 2 rfl) ?_
                                            refine lv_icmp_le (tgt := 101) hx hb dX7_haste_91 (by decide) (fun c_169 => ?_) (fun c_169 => ?_)
                                            · refine lv_iinc (v := 9) (lv' := [(5, .int 9), (6, .int 12), (4, .int 12), (3, .int 0), (0, .ref x0), (1, .int 1), (2, .int w)]) hx hb dX7_haste_101 hl (k := 1) rfl (by decide) (by decide) rfl (fun ls hl => ?_)
                                              refine lv_goto (tgt := 71) hx hb dX7_haste_104 (by decide) ?_
                                              refine lv_iload hx hb dX7_haste_71 (lv_at hl 0 rfl) ?_
                                              refine lv_bipush (v := 9) hx hb dX7_haste_73 (by decide) ?_
                                              refine lv_icmp_gt (tgt := 107) hx hb dX7_haste_75 (by decide) (fun c_170 => ?_) (fun c_170 => ?_)
                                              · exact absurd c_170 (by decide)
                                              · refine lv_aload_n hx hb dX7_haste_78 rfl (lv_at hl 4 rfl) ?_
                                                refine lv_iload hx hb dX7_haste_79 (lv_at hl 0 rfl) ?_
                                                refine lv_iload_n hx hb dX7_haste_81 rfl (lv_at hl 5 rfl) ?_
                                                skip
                                                refine zw_V (As := [.int 9, .int 1]) (rest := []) (wr := [(xr, .inl (cI, 8, .inl (fun _ => 0)))]) ⟨hx, hb, hml, hown, hts⟩ (c_casesBy_1 l D cI cJ cZ cP cS x0 xs j0 k0 w0 rd mv xr jp jc z0 0 0 wk wl wc wp q_166 q_167 q_168 (0) (8) (0) (9)  H.size) (cwV 2 hts gX7_haste_X7_casesBy rfl rfl rfl (by decide +kernel) ⟨Nat.le_of_ble_eq_true rfl, Nat.le_of_ble_eq_true rfl⟩) hK hN (hZ.kept hS) hP hD hS hA [1, 2, 3, 4, 5, 6, 7] [0] rfl rfl (by decide) (by decide) (by decide) (va_recv hK hP (ci := 7) (q0 := 1) rfl rfl) rfl hl.1 rfl (Nat.le_of_ble_eq_true rfl) dX7_haste_82 ⟨Nat.le_of_ble_eq_true rfl, Nat.le_of_ble_eq_true rfl⟩ (fun r_171 u_172 H locs hr_171 hP hD hS => ?_)
                                                obtain ⟨q_173, q_174, q_175⟩ := u_172
                                                replace hP : va_P D vwCl [(xr, .inl (cI, 8, .inl (fun _ => 0))), (x0, .inr (7, [.ref xs, .ref j0, .ref k0, .ref w0, .ref rd, .ref mv, .ref xr, .int 0, .int (-1)])), (w0, .inr (5, [.ref wk, .ref wl, .ref wc, .ref wp, .int 0, .int 9, .int 0])), (wk, .inl (cI, 125, .inl q_173)), (wl, .inl (cI, 125, .inl q_174)), (wc, .inl (cI, 3, .inl q_175)), (j0, .inr (0, [.ref z0, .ref jp, .ref jc, .int 0, .int 0, .int 0, .int 60, .int 0, .int 1])), (jc, .inl (cI, 3, .inl (zL3 5 10 50)))] H := hP
                                                replace hD : va_D _ [(xr, .inl (cI, 8, .inl (fun _ => 0))), (x0, .inr (7, [.ref xs, .ref j0, .ref k0, .ref w0, .ref rd, .ref mv, .ref xr, .int 0, .int (-1)])), (w0, .inr (5, [.ref wk, .ref wl, .ref wc, .ref wp, .int 0, .int 9, .int 0])), (wk, .inl (cI, 125, .inl q_173)), (wl, .inl (cI, 125, .inl q_174)), (wc, .inl (cI, 3, .inl q_175)), (j0, .inr (0, [.ref z0, .ref jp, .ref jc, .int 0, .int 0, .int 0, .int 60, .int 0, .int 1])), (jc, .inl (cI, 3, .inl (zL3 5 10 50)))] := hD
                                                obtain rfl := hr_171
                                                refine lv_istore (lv' := [(6, .int 12), (5, .int 9), (4, .int 12), (3, .int 0), (0, .ref x0), (1, .int 1), (2, .int w)]) hx hb dX7_haste_85 hl (by decide) rfl (fun ls hl => ?_)
                                                refine lv_iload hx hb dX7_haste_87 (lv_at hl 0 rfl) ?_
                                                refine lv_iload hx hb dX7_haste_89 (lv_at hl 2 rfl) ?_
                                                refine lv_icmp_le (tgt := 101) hx hb dX7_haste_91 (by decide) (fun c_176 => ?_) (fun c_176 => ?_)
                                                · refine lv_iinc (v := 10) (lv' := [(5, .int 10), (6, .int 12), (4, .int 12), (3, .int 0), (0, .ref x0), (1, .int 1), (2, .int w)]) hx hb dX7_haste_101 hl (k := 1) rfl (by decide) (by decide) rfl (fun ls hl => ?_)
                                                  refine lv_goto (tgt := 71) hx hb dX7_haste_104 (by decide) ?_
                                                  refine lv_iload hx hb dX7_haste_71 (lv_at hl 0 rfl) ?_
                                                  refine lv_bipush (v := 9) hx hb dX7_haste_73 (by decide) ?_
                                                  refine lv_icmp_gt (tgt := 107) hx hb dX7_haste_75 (by decide) (fun c_177 => ?_) (fun c_177 => ?_)
                                                  · refine lv_iload_n hx hb dX7_haste_107 rfl (lv_at hl 3 rfl) ?_
                                                    exact W.iret (v := 0) hx hb hr (fun t ht hW => ⟨⟨0, (), rfl, Or.inr (Or.inr (Or.inr (Or.inr (Or.inr (Or.inr (Or.inl (⟨rfl, (by first | omega | decide), (by first | omega | decide), (by first | omega | decide), (by first | omega | decide), (by first | omega | decide), (by first | omega | decide)⟩))))))), zP_nil, zD_nil⟩, hS.F ht⟩) hS.2.2 dX7_haste_108
                                                  · exact absurd c_177 (by decide)
                                                · exact absurd c_176 (by decide)
                                            · exact absurd c_169 (by decide)
                                        · exact absurd c_162 (by decide)
                                    · exact absurd c_155 (by decide)
                                · exact absurd c_148 (by decide)
                            · exact absurd c_141 (by decide)
                        · exact absurd c_134 (by decide)
                    · exact absurd c_127 (by decide)
                · exact absurd c_120 (by decide)
            · have fc_108 : w.toInt = 1 := zf_eq c_108 rfl (by decide)
              refine lv_aload_n hx hb dX7_haste_36 rfl (lv_at hl 0 rfl) ?_
              refine lv_bipush (v := 9) hx hb dX7_haste_37 (by decide) ?_
              refine lv_iload_n hx hb dX7_haste_39 rfl (lv_at hl 1 rfl) ?_
              skip
              refine zw_V (As := [.int 9, .int 1]) (rest := []) (wr := [(xr, .inl (cI, 8, .inl (fun _ => 0)))]) ⟨hx, hb, hml, hown, hts⟩ (c_casesBy_1 l D cI cJ cZ cP cS x0 xs j0 k0 w0 rd mv xr jp jc z0 0 0 wk wl wc wp fk fl fc (0) (0) (0) (9)  H.size) (cwV 2 hts gX7_haste_X7_casesBy rfl rfl rfl (by decide +kernel) ⟨Nat.le_of_ble_eq_true rfl, Nat.le_of_ble_eq_true rfl⟩) hK hN (hZ.kept hS) hP hD hS hA [0, 2, 3, 4, 5, 6, 7] [1] rfl rfl (by decide) (by decide) (by decide) (va_recv hK hP (ci := 7) (q0 := 0) rfl rfl) rfl hl.1 rfl (Nat.le_of_ble_eq_true rfl) dX7_haste_40 ⟨Nat.le_of_ble_eq_true rfl, Nat.le_of_ble_eq_true rfl⟩ (fun r_178 u_179 H locs hr_178 hP hD hS => ?_)
              obtain ⟨q_180, q_181, q_182⟩ := u_179
              replace hP : va_P D vwCl [(xr, .inl (cI, 8, .inl (fun _ => 0))), (x0, .inr (7, [.ref xs, .ref j0, .ref k0, .ref w0, .ref rd, .ref mv, .ref xr, .int 0, .int (-1)])), (w0, .inr (5, [.ref wk, .ref wl, .ref wc, .ref wp, .int 0, .int 9, .int 0])), (wk, .inl (cI, 125, .inl q_180)), (wl, .inl (cI, 125, .inl q_181)), (wc, .inl (cI, 3, .inl q_182)), (j0, .inr (0, [.ref z0, .ref jp, .ref jc, .int 0, .int 0, .int 0, .int 60, .int 0, .int 1])), (jc, .inl (cI, 3, .inl (zL3 5 10 50)))] H := hP
              replace hD : va_D _ [(xr, .inl (cI, 8, .inl (fun _ => 0))), (x0, .inr (7, [.ref xs, .ref j0, .ref k0, .ref w0, .ref rd, .ref mv, .ref xr, .int 0, .int (-1)])), (w0, .inr (5, [.ref wk, .ref wl, .ref wc, .ref wp, .int 0, .int 9, .int 0])), (wk, .inl (cI, 125, .inl q_180)), (wl, .inl (cI, 125, .inl q_181)), (wc, .inl (cI, 3, .inl q_182)), (j0, .inr (0, [.ref z0, .ref jp, .ref jc, .int 0, .int 0, .int 0, .int 60, .int 0, .int 1])), (jc, .inl (cI, 3, .inl (zL3 5 10 50)))] := hD
              obtain rfl := hr_178
              refine lv_aload_n hx hb dX7_haste_43 rfl (lv_at hl 0 rfl) ?_
              refine lv_iconst (v := 0) hx hb dX7_haste_44 (by decide) ?_
              refine lv_iload_n hx hb dX7_haste_45 rfl (lv_at hl 1 rfl) ?_
              skip
              refine zw_V (As := [.int 0, .int 1]) (rest := [.int 12]) (wr := [(xr, .inl (cI, 8, .inl (fun _ => 0)))]) ⟨hx, hb, hml, hown, hts⟩ (c_casesBy_1 l D cI cJ cZ cP cS x0 xs j0 k0 w0 rd mv xr jp jc z0 0 0 wk wl wc wp q_180 q_181 q_182 (0) (9) (0) (0)  H.size) (cwV 2 hts gX7_haste_X7_casesBy rfl rfl rfl (by decide +kernel) ⟨Nat.le_of_ble_eq_true rfl, Nat.le_of_ble_eq_true rfl⟩) hK hN (hZ.kept hS) hP hD hS hA [1, 2, 3, 4, 5, 6, 7] [0] rfl rfl (by decide) (by decide) (by decide) (va_recv hK hP (ci := 7) (q0 := 1) rfl rfl) rfl hl.1 rfl (Nat.le_of_ble_eq_true rfl) dX7_haste_46 ⟨Nat.le_of_ble_eq_true rfl, Nat.le_of_ble_eq_true rfl⟩ (fun r_183 u_184 H locs hr_183 hP hD hS => ?_)
              obtain ⟨q_185, q_186, q_187⟩ := u_184
              replace hP : va_P D vwCl [(xr, .inl (cI, 8, .inl (fun _ => 0))), (x0, .inr (7, [.ref xs, .ref j0, .ref k0, .ref w0, .ref rd, .ref mv, .ref xr, .int 0, .int (-1)])), (w0, .inr (5, [.ref wk, .ref wl, .ref wc, .ref wp, .int 0, .int 0, .int 0])), (wk, .inl (cI, 125, .inl q_185)), (wl, .inl (cI, 125, .inl q_186)), (wc, .inl (cI, 3, .inl q_187)), (j0, .inr (0, [.ref z0, .ref jp, .ref jc, .int 0, .int 0, .int 0, .int 60, .int 0, .int 1])), (jc, .inl (cI, 3, .inl (zL3 5 10 50)))] H := hP
              replace hD : va_D _ [(xr, .inl (cI, 8, .inl (fun _ => 0))), (x0, .inr (7, [.ref xs, .ref j0, .ref k0, .ref w0, .ref rd, .ref mv, .ref xr, .int 0, .int (-1)])), (w0, .inr (5, [.ref wk, .ref wl, .ref wc, .ref wp, .int 0, .int 0, .int 0])), (wk, .inl (cI, 125, .inl q_185)), (wl, .inl (cI, 125, .inl q_186)), (wc, .inl (cI, 3, .inl q_187)), (j0, .inr (0, [.ref z0, .ref jp, .ref jc, .int 0, .int 0, .int 0, .int 60, .int 0, .int 1])), (jc, .inl (cI, 3, .inl (zL3 5 10 50)))] := hD
              obtain rfl := hr_183
              refine lv_icmp_ge (tgt := 56) hx hb dX7_haste_49 (by decide) (fun c_188 => ?_) (fun c_188 => ?_)
              · refine lv_iconst (v := 0) hx hb dX7_haste_56 (by decide) ?_
                exact W.iret (v := 0) hx hb hr (fun t ht hW => ⟨⟨0, (), rfl, Or.inr (Or.inr (Or.inr (Or.inr (Or.inr (Or.inr (Or.inr (Or.inl (⟨rfl, (by first | omega | decide), (by first | omega | decide), (by first | omega | decide), (by first | omega | decide), (by first | omega | decide), (by first | omega | decide)⟩)))))))), zP_nil, zD_nil⟩, hS.F ht⟩) hS.2.2 dX7_haste_57
              · exact absurd c_188 (by decide)
          · refine lv_iload_n hx hb dX7_haste_31 rfl (lv_at hl 2 rfl) ?_
            refine lv_iconst (v := 1) hx hb dX7_haste_32 (by decide) ?_
            refine lv_icmp_ne (tgt := 58) hx hb dX7_haste_33 (by decide) (fun c_189 => ?_) (fun c_189 => ?_)
            · have fc_189 : w.toInt ≠ 1 := zf_ne c_189 rfl (by decide)
              refine lv_iconst (v := 0) hx hb dX7_haste_58 (by decide) ?_
              refine lv_istore_n (lv' := [(3, .int 0), (0, .ref x0), (1, .int 2), (2, .int w)]) hx hb dX7_haste_59 rfl hl (by decide) rfl (fun ls hl => ?_)
              refine lv_aload_n hx hb dX7_haste_60 rfl (lv_at hl 1 rfl) ?_
              refine lv_iconst (v := 0) hx hb dX7_haste_61 (by decide) ?_
              refine lv_iload_n hx hb dX7_haste_62 rfl (lv_at hl 2 rfl) ?_
              skip
              refine zw_V (As := [.int 0, .int 2]) (rest := []) (wr := [(xr, .inl (cI, 8, .inl (fun _ => 0)))]) ⟨hx, hb, hml, hown, hts⟩ (c_casesBy_2 l D cI cJ cZ cP cS x0 xs j0 k0 w0 rd mv xr jp jc z0 0 0 wk wl wc wp fk fl fc (0) (0) (0) (0)  H.size) (cwV 2 hts gX7_haste_X7_casesBy rfl rfl rfl (by decide +kernel) ⟨Nat.le_of_ble_eq_true rfl, Nat.le_of_ble_eq_true rfl⟩) hK hN (hZ.kept hS) hP hD hS hA [0, 2, 3, 4, 5, 6, 7] [1] rfl rfl (by decide) (by decide) (by decide) (va_recv hK hP (ci := 7) (q0 := 0) rfl rfl) rfl hl.1 rfl (Nat.le_of_ble_eq_true rfl) dX7_haste_63 ⟨Nat.le_of_ble_eq_true rfl, Nat.le_of_ble_eq_true rfl⟩ (fun r_190 u_191 H locs hr_190 hP hD hS => ?_)
              obtain ⟨q_192, q_193, q_194⟩ := u_191
              replace hP : va_P D vwCl [(xr, .inl (cI, 8, .inl (fun _ => 0))), (x0, .inr (7, [.ref xs, .ref j0, .ref k0, .ref w0, .ref rd, .ref mv, .ref xr, .int 0, .int (-1)])), (w0, .inr (5, [.ref wk, .ref wl, .ref wc, .ref wp, .int 0, .int 0, .int 0])), (wk, .inl (cI, 125, .inl q_192)), (wl, .inl (cI, 125, .inl q_193)), (wc, .inl (cI, 3, .inl q_194)), (j0, .inr (0, [.ref z0, .ref jp, .ref jc, .int 0, .int 0, .int 0, .int 60, .int 0, .int 1])), (jc, .inl (cI, 3, .inl (zL3 5 10 50)))] H := hP
              replace hD : va_D _ [(xr, .inl (cI, 8, .inl (fun _ => 0))), (x0, .inr (7, [.ref xs, .ref j0, .ref k0, .ref w0, .ref rd, .ref mv, .ref xr, .int 0, .int (-1)])), (w0, .inr (5, [.ref wk, .ref wl, .ref wc, .ref wp, .int 0, .int 0, .int 0])), (wk, .inl (cI, 125, .inl q_192)), (wl, .inl (cI, 125, .inl q_193)), (wc, .inl (cI, 3, .inl q_194)), (j0, .inr (0, [.ref z0, .ref jp, .ref jc, .int 0, .int 0, .int 0, .int 60, .int 0, .int 1])), (jc, .inl (cI, 3, .inl (zL3 5 10 50)))] := hD
              obtain rfl := hr_190
              refine lv_istore (lv' := [(4, .int 144), (3, .int 0), (0, .ref x0), (1, .int 2), (2, .int w)]) hx hb dX7_haste_66 hl (by decide) rfl (fun ls hl => ?_)
              refine lv_iconst (v := 1) hx hb dX7_haste_68 (by decide) ?_
              refine lv_istore (lv' := [(5, .int 1), (4, .int 144), (3, .int 0), (0, .ref x0), (1, .int 2), (2, .int w)]) hx hb dX7_haste_69 hl (by decide) rfl (fun ls hl => ?_)
              refine lv_iload hx hb dX7_haste_71 (lv_at hl 0 rfl) ?_
              refine lv_bipush (v := 9) hx hb dX7_haste_73 (by decide) ?_
              refine lv_icmp_gt (tgt := 107) hx hb dX7_haste_75 (by decide) (fun c_195 => ?_) (fun c_195 => ?_)
              · exact absurd c_195 (by decide)
              · refine lv_aload_n hx hb dX7_haste_78 rfl (lv_at hl 3 rfl) ?_
                refine lv_iload hx hb dX7_haste_79 (lv_at hl 0 rfl) ?_
                refine lv_iload_n hx hb dX7_haste_81 rfl (lv_at hl 4 rfl) ?_
                skip
                refine zw_V (As := [.int 1, .int 2]) (rest := []) (wr := [(xr, .inl (cI, 8, .inl (fun _ => 0)))]) ⟨hx, hb, hml, hown, hts⟩ (c_casesBy_2 l D cI cJ cZ cP cS x0 xs j0 k0 w0 rd mv xr jp jc z0 0 0 wk wl wc wp q_192 q_193 q_194 (0) (0) (0) (1)  H.size) (cwV 2 hts gX7_haste_X7_casesBy rfl rfl rfl (by decide +kernel) ⟨Nat.le_of_ble_eq_true rfl, Nat.le_of_ble_eq_true rfl⟩) hK hN (hZ.kept hS) hP hD hS hA [1, 2, 3, 4, 5, 6, 7] [0] rfl rfl (by decide) (by decide) (by decide) (va_recv hK hP (ci := 7) (q0 := 1) rfl rfl) rfl hl.1 rfl (Nat.le_of_ble_eq_true rfl) dX7_haste_82 ⟨Nat.le_of_ble_eq_true rfl, Nat.le_of_ble_eq_true rfl⟩ (fun r_196 u_197 H locs hr_196 hP hD hS => ?_)
                obtain ⟨q_198, q_199, q_200⟩ := u_197
                replace hP : va_P D vwCl [(xr, .inl (cI, 8, .inl (fun _ => 0))), (x0, .inr (7, [.ref xs, .ref j0, .ref k0, .ref w0, .ref rd, .ref mv, .ref xr, .int 0, .int (-1)])), (w0, .inr (5, [.ref wk, .ref wl, .ref wc, .ref wp, .int 0, .int 1, .int 0])), (wk, .inl (cI, 125, .inl q_198)), (wl, .inl (cI, 125, .inl q_199)), (wc, .inl (cI, 3, .inl q_200)), (j0, .inr (0, [.ref z0, .ref jp, .ref jc, .int 0, .int 0, .int 0, .int 60, .int 0, .int 1])), (jc, .inl (cI, 3, .inl (zL3 5 10 50)))] H := hP
                replace hD : va_D _ [(xr, .inl (cI, 8, .inl (fun _ => 0))), (x0, .inr (7, [.ref xs, .ref j0, .ref k0, .ref w0, .ref rd, .ref mv, .ref xr, .int 0, .int (-1)])), (w0, .inr (5, [.ref wk, .ref wl, .ref wc, .ref wp, .int 0, .int 1, .int 0])), (wk, .inl (cI, 125, .inl q_198)), (wl, .inl (cI, 125, .inl q_199)), (wc, .inl (cI, 3, .inl q_200)), (j0, .inr (0, [.ref z0, .ref jp, .ref jc, .int 0, .int 0, .int 0, .int 60, .int 0, .int 1])), (jc, .inl (cI, 3, .inl (zL3 5 10 50)))] := hD
                obtain rfl := hr_196
                refine lv_istore (lv' := [(6, .int 144), (5, .int 1), (4, .int 144), (3, .int 0), (0, .ref x0), (1, .int 2), (2, .int w)]) hx hb dX7_haste_85 hl (by decide) rfl (fun ls hl => ?_)
                refine lv_iload hx hb dX7_haste_87 (lv_at hl 0 rfl) ?_
                refine lv_iload hx hb dX7_haste_89 (lv_at hl 2 rfl) ?_
                refine lv_icmp_le (tgt := 101) hx hb dX7_haste_91 (by decide) (fun c_201 => ?_) (fun c_201 => ?_)
                · refine lv_iinc (v := 2) (lv' := [(5, .int 2), (6, .int 144), (4, .int 144), (3, .int 0), (0, .ref x0), (1, .int 2), (2, .int w)]) hx hb dX7_haste_101 hl (k := 1) rfl (by decide) (by decide) rfl (fun ls hl => ?_)
                  refine lv_goto (tgt := 71) hx hb dX7_haste_104 (by decide) ?_
                  refine lv_iload hx hb dX7_haste_71 (lv_at hl 0 rfl) ?_
                  refine lv_bipush (v := 9) hx hb dX7_haste_73 (by decide) ?_
                  refine lv_icmp_gt (tgt := 107) hx hb dX7_haste_75 (by decide) (fun c_202 => ?_) (fun c_202 => ?_)
                  · exact absurd c_202 (by decide)
                  · refine lv_aload_n hx hb dX7_haste_78 rfl (lv_at hl 4 rfl) ?_
                    refine lv_iload hx hb dX7_haste_79 (lv_at hl 0 rfl) ?_
                    refine lv_iload_n hx hb dX7_haste_81 rfl (lv_at hl 5 rfl) ?_
                    skip
                    refine zw_V (As := [.int 2, .int 2]) (rest := []) (wr := [(xr, .inl (cI, 8, .inl (fun _ => 0)))]) ⟨hx, hb, hml, hown, hts⟩ (c_casesBy_2 l D cI cJ cZ cP cS x0 xs j0 k0 w0 rd mv xr jp jc z0 0 0 wk wl wc wp q_198 q_199 q_200 (0) (1) (0) (2)  H.size) (cwV 2 hts gX7_haste_X7_casesBy rfl rfl rfl (by decide +kernel) ⟨Nat.le_of_ble_eq_true rfl, Nat.le_of_ble_eq_true rfl⟩) hK hN (hZ.kept hS) hP hD hS hA [1, 2, 3, 4, 5, 6, 7] [0] rfl rfl (by decide) (by decide) (by decide) (va_recv hK hP (ci := 7) (q0 := 1) rfl rfl) rfl hl.1 rfl (Nat.le_of_ble_eq_true rfl) dX7_haste_82 ⟨Nat.le_of_ble_eq_true rfl, Nat.le_of_ble_eq_true rfl⟩ (fun r_203 u_204 H locs hr_203 hP hD hS => ?_)
                    obtain ⟨q_205, q_206, q_207⟩ := u_204
                    replace hP : va_P D vwCl [(xr, .inl (cI, 8, .inl (fun _ => 0))), (x0, .inr (7, [.ref xs, .ref j0, .ref k0, .ref w0, .ref rd, .ref mv, .ref xr, .int 0, .int (-1)])), (w0, .inr (5, [.ref wk, .ref wl, .ref wc, .ref wp, .int 0, .int 2, .int 0])), (wk, .inl (cI, 125, .inl q_205)), (wl, .inl (cI, 125, .inl q_206)), (wc, .inl (cI, 3, .inl q_207)), (j0, .inr (0, [.ref z0, .ref jp, .ref jc, .int 0, .int 0, .int 0, .int 60, .int 0, .int 1])), (jc, .inl (cI, 3, .inl (zL3 5 10 50)))] H := hP
                    replace hD : va_D _ [(xr, .inl (cI, 8, .inl (fun _ => 0))), (x0, .inr (7, [.ref xs, .ref j0, .ref k0, .ref w0, .ref rd, .ref mv, .ref xr, .int 0, .int (-1)])), (w0, .inr (5, [.ref wk, .ref wl, .ref wc, .ref wp, .int 0, .int 2, .int 0])), (wk, .inl (cI, 125, .inl q_205)), (wl, .inl (cI, 125, .inl q_206)), (wc, .inl (cI, 3, .inl q_207)), (j0, .inr (0, [.ref z0, .ref jp, .ref jc, .int 0, .int 0, .int 0, .int 60, .int 0, .int 1])), (jc, .inl (cI, 3, .inl (zL3 5 10 50)))] := hD
                    obtain rfl := hr_203
                    refine lv_istore (lv' := [(6, .int 144), (5, .int 2), (4, .int 144), (3, .int 0), (0, .ref x0), (1, .int 2), (2, .int w)]) hx hb dX7_haste_85 hl (by decide) rfl (fun ls hl => ?_)
                    refine lv_iload hx hb dX7_haste_87 (lv_at hl 0 rfl) ?_
                    refine lv_iload hx hb dX7_haste_89 (lv_at hl 2 rfl) ?_
                    refine lv_icmp_le (tgt := 101) hx hb dX7_haste_91 (by decide) (fun c_208 => ?_) (fun c_208 => ?_)
                    · refine lv_iinc (v := 3) (lv' := [(5, .int 3), (6, .int 144), (4, .int 144), (3, .int 0), (0, .ref x0), (1, .int 2), (2, .int w)]) hx hb dX7_haste_101 hl (k := 1) rfl (by decide) (by decide) rfl (fun ls hl => ?_)
                      refine lv_goto (tgt := 71) hx hb dX7_haste_104 (by decide) ?_
                      refine lv_iload hx hb dX7_haste_71 (lv_at hl 0 rfl) ?_
                      refine lv_bipush (v := 9) hx hb dX7_haste_73 (by decide) ?_
                      refine lv_icmp_gt (tgt := 107) hx hb dX7_haste_75 (by decide) (fun c_209 => ?_) (fun c_209 => ?_)
                      · exact absurd c_209 (by decide)
                      · refine lv_aload_n hx hb dX7_haste_78 rfl (lv_at hl 4 rfl) ?_
                        refine lv_iload hx hb dX7_haste_79 (lv_at hl 0 rfl) ?_
                        refine lv_iload_n hx hb dX7_haste_81 rfl (lv_at hl 5 rfl) ?_
                        skip
                        refine zw_V (As := [.int 3, .int 2]) (rest := []) (wr := [(xr, .inl (cI, 8, .inl (fun _ => 0)))]) ⟨hx, hb, hml, hown, hts⟩ (c_casesBy_2 l D cI cJ cZ cP cS x0 xs j0 k0 w0 rd mv xr jp jc z0 0 0 wk wl wc wp q_205 q_206 q_207 (0) (2) (0) (3)  H.size) (cwV 2 hts gX7_haste_X7_casesBy rfl rfl rfl (by decide +kernel) ⟨Nat.le_of_ble_eq_true rfl, Nat.le_of_ble_eq_true rfl⟩) hK hN (hZ.kept hS) hP hD hS hA [1, 2, 3, 4, 5, 6, 7] [0] rfl rfl (by decide) (by decide) (by decide) (va_recv hK hP (ci := 7) (q0 := 1) rfl rfl) rfl hl.1 rfl (Nat.le_of_ble_eq_true rfl) dX7_haste_82 ⟨Nat.le_of_ble_eq_true rfl, Nat.le_of_ble_eq_true rfl⟩ (fun r_210 u_211 H locs hr_210 hP hD hS => ?_)
                        obtain ⟨q_212, q_213, q_214⟩ := u_211
                        replace hP : va_P D vwCl [(xr, .inl (cI, 8, .inl (fun _ => 0))), (x0, .inr (7, [.ref xs, .ref j0, .ref k0, .ref w0, .ref rd, .ref mv, .ref xr, .int 0, .int (-1)])), (w0, .inr (5, [.ref wk, .ref wl, .ref wc, .ref wp, .int 0, .int 3, .int 0])), (wk, .inl (cI, 125, .inl q_212)), (wl, .inl (cI, 125, .inl q_213)), (wc, .inl (cI, 3, .inl q_214)), (j0, .inr (0, [.ref z0, .ref jp, .ref jc, .int 0, .int 0, .int 0, .int 60, .int 0, .int 1])), (jc, .inl (cI, 3, .inl (zL3 5 10 50)))] H := hP
                        replace hD : va_D _ [(xr, .inl (cI, 8, .inl (fun _ => 0))), (x0, .inr (7, [.ref xs, .ref j0, .ref k0, .ref w0, .ref rd, .ref mv, .ref xr, .int 0, .int (-1)])), (w0, .inr (5, [.ref wk, .ref wl, .ref wc, .ref wp, .int 0, .int 3, .int 0])), (wk, .inl (cI, 125, .inl q_212)), (wl, .inl (cI, 125, .inl q_213)), (wc, .inl (cI, 3, .inl q_214)), (j0, .inr (0, [.ref z0, .ref jp, .ref jc, .int 0, .int 0, .int 0, .int 60, .int 0, .int 1])), (jc, .inl (cI, 3, .inl (zL3 5 10 50)))] := hD
                        obtain rfl := hr_210
                        refine lv_istore (lv' := [(6, .int 144), (5, .int 3), (4, .int 144), (3, .int 0), (0, .ref x0), (1, .int 2), (2, .int w)]) hx hb dX7_haste_85 hl (by decide) rfl (fun ls hl => ?_)
                        refine lv_iload hx hb dX7_haste_87 (lv_at hl 0 rfl) ?_
                        refine lv_iload hx hb dX7_haste_89 (lv_at hl 2 rfl) ?_
                        refine lv_icmp_le (tgt := 101) hx hb dX7_haste_91 (by decide) (fun c_215 => ?_) (fun c_215 => ?_)
                        · refine lv_iinc (v := 4) (lv' := [(5, .int 4), (6, .int 144), (4, .int 144), (3, .int 0), (0, .ref x0), (1, .int 2), (2, .int w)]) hx hb dX7_haste_101 hl (k := 1) rfl (by decide) (by decide) rfl (fun ls hl => ?_)
                          refine lv_goto (tgt := 71) hx hb dX7_haste_104 (by decide) ?_
                          refine lv_iload hx hb dX7_haste_71 (lv_at hl 0 rfl) ?_
                          refine lv_bipush (v := 9) hx hb dX7_haste_73 (by decide) ?_
                          refine lv_icmp_gt (tgt := 107) hx hb dX7_haste_75 (by decide) (fun c_216 => ?_) (fun c_216 => ?_)
                          · exact absurd c_216 (by decide)
                          · refine lv_aload_n hx hb dX7_haste_78 rfl (lv_at hl 4 rfl) ?_
                            refine lv_iload hx hb dX7_haste_79 (lv_at hl 0 rfl) ?_
                            refine lv_iload_n hx hb dX7_haste_81 rfl (lv_at hl 5 rfl) ?_
                            skip
                            refine zw_V (As := [.int 4, .int 2]) (rest := []) (wr := [(xr, .inl (cI, 8, .inl (fun _ => 0)))]) ⟨hx, hb, hml, hown, hts⟩ (c_casesBy_2 l D cI cJ cZ cP cS x0 xs j0 k0 w0 rd mv xr jp jc z0 0 0 wk wl wc wp q_212 q_213 q_214 (0) (3) (0) (4)  H.size) (cwV 2 hts gX7_haste_X7_casesBy rfl rfl rfl (by decide +kernel) ⟨Nat.le_of_ble_eq_true rfl, Nat.le_of_ble_eq_true rfl⟩) hK hN (hZ.kept hS) hP hD hS hA [1, 2, 3, 4, 5, 6, 7] [0] rfl rfl (by decide) (by decide) (by decide) (va_recv hK hP (ci := 7) (q0 := 1) rfl rfl) rfl hl.1 rfl (Nat.le_of_ble_eq_true rfl) dX7_haste_82 ⟨Nat.le_of_ble_eq_true rfl, Nat.le_of_ble_eq_true rfl⟩ (fun r_217 u_218 H locs hr_217 hP hD hS => ?_)
                            obtain ⟨q_219, q_220, q_221⟩ := u_218
                            replace hP : va_P D vwCl [(xr, .inl (cI, 8, .inl (fun _ => 0))), (x0, .inr (7, [.ref xs, .ref j0, .ref k0, .ref w0, .ref rd, .ref mv, .ref xr, .int 0, .int (-1)])), (w0, .inr (5, [.ref wk, .ref wl, .ref wc, .ref wp, .int 0, .int 4, .int 0])), (wk, .inl (cI, 125, .inl q_219)), (wl, .inl (cI, 125, .inl q_220)), (wc, .inl (cI, 3, .inl q_221)), (j0, .inr (0, [.ref z0, .ref jp, .ref jc, .int 0, .int 0, .int 0, .int 60, .int 0, .int 1])), (jc, .inl (cI, 3, .inl (zL3 5 10 50)))] H := hP
                            replace hD : va_D _ [(xr, .inl (cI, 8, .inl (fun _ => 0))), (x0, .inr (7, [.ref xs, .ref j0, .ref k0, .ref w0, .ref rd, .ref mv, .ref xr, .int 0, .int (-1)])), (w0, .inr (5, [.ref wk, .ref wl, .ref wc, .ref wp, .int 0, .int 4, .int 0])), (wk, .inl (cI, 125, .inl q_219)), (wl, .inl (cI, 125, .inl q_220)), (wc, .inl (cI, 3, .inl q_221)), (j0, .inr (0, [.ref z0, .ref jp, .ref jc, .int 0, .int 0, .int 0, .int 60, .int 0, .int 1])), (jc, .inl (cI, 3, .inl (zL3 5 10 50)))] := hD
                            obtain rfl := hr_217
                            refine lv_istore (lv' := [(6, .int 144), (5, .int 4), (4, .int 144), (3, .int 0), (0, .ref x0), (1, .int 2), (2, .int w)]) hx hb dX7_haste_85 hl (by decide) rfl (fun ls hl => ?_)
                            refine lv_iload hx hb dX7_haste_87 (lv_at hl 0 rfl) ?_
                            refine lv_iload hx hb dX7_haste_89 (lv_at hl 2 rfl) ?_
                            refine lv_icmp_le (tgt := 101) hx hb dX7_haste_91 (by decide) (fun c_222 => ?_) (fun c_222 => ?_)
                            · refine lv_iinc (v := 5) (lv' := [(5, .int 5), (6, .int 144), (4, .int 144), (3, .int 0), (0, .ref x0), (1, .int 2), (2, .int w)]) hx hb dX7_haste_101 hl (k := 1) rfl (by decide) (by decide) rfl (fun ls hl => ?_)
                              refine lv_goto (tgt := 71) hx hb dX7_haste_104 (by decide) ?_
                              refine lv_iload hx hb dX7_haste_71 (lv_at hl 0 rfl) ?_
                              refine lv_bipush (v := 9) hx hb dX7_haste_73 (by decide) ?_
                              refine lv_icmp_gt (tgt := 107) hx hb dX7_haste_75 (by decide) (fun c_223 => ?_) (fun c_223 => ?_)
                              · exact absurd c_223 (by decide)
                              · refine lv_aload_n hx hb dX7_haste_78 rfl (lv_at hl 4 rfl) ?_
                                refine lv_iload hx hb dX7_haste_79 (lv_at hl 0 rfl) ?_
                                refine lv_iload_n hx hb dX7_haste_81 rfl (lv_at hl 5 rfl) ?_
                                skip
                                refine zw_V (As := [.int 5, .int 2]) (rest := []) (wr := [(xr, .inl (cI, 8, .inl (fun _ => 0)))]) ⟨hx, hb, hml, hown, hts⟩ (c_casesBy_2 l D cI cJ cZ cP cS x0 xs j0 k0 w0 rd mv xr jp jc z0 0 0 wk wl wc wp q_219 q_220 q_221 (0) (4) (0) (5)  H.size) (cwV 2 hts gX7_haste_X7_casesBy rfl rfl rfl (by decide +kernel) ⟨Nat.le_of_ble_eq_true rfl, Nat.le_of_ble_eq_true rfl⟩) hK hN (hZ.kept hS) hP hD hS hA [1, 2, 3, 4, 5, 6, 7] [0] rfl rfl (by decide) (by decide) (by decide) (va_recv hK hP (ci := 7) (q0 := 1) rfl rfl) rfl hl.1 rfl (Nat.le_of_ble_eq_true rfl) dX7_haste_82 ⟨Nat.le_of_ble_eq_true rfl, Nat.le_of_ble_eq_true rfl⟩ (fun r_224 u_225 H locs hr_224 hP hD hS => ?_)
                                obtain ⟨q_226, q_227, q_228⟩ := u_225
                                replace hP : va_P D vwCl [(xr, .inl (cI, 8, .inl (fun _ => 0))), (x0, .inr (7, [.ref xs, .ref j0, .ref k0, .ref w0, .ref rd, .ref mv, .ref xr, .int 0, .int (-1)])), (w0, .inr (5, [.ref wk, .ref wl, .ref wc, .ref wp, .int 0, .int 5, .int 0])), (wk, .inl (cI, 125, .inl q_226)), (wl, .inl (cI, 125, .inl q_227)), (wc, .inl (cI, 3, .inl q_228)), (j0, .inr (0, [.ref z0, .ref jp, .ref jc, .int 0, .int 0, .int 0, .int 60, .int 0, .int 1])), (jc, .inl (cI, 3, .inl (zL3 5 10 50)))] H := hP
                                replace hD : va_D _ [(xr, .inl (cI, 8, .inl (fun _ => 0))), (x0, .inr (7, [.ref xs, .ref j0, .ref k0, .ref w0, .ref rd, .ref mv, .ref xr, .int 0, .int (-1)])), (w0, .inr (5, [.ref wk, .ref wl, .ref wc, .ref wp, .int 0, .int 5, .int 0])), (wk, .inl (cI, 125, .inl q_226)), (wl, .inl (cI, 125, .inl q_227)), (wc, .inl (cI, 3, .inl q_228)), (j0, .inr (0, [.ref z0, .ref jp, .ref jc, .int 0, .int 0, .int 0, .int 60, .int 0, .int 1])), (jc, .inl (cI, 3, .inl (zL3 5 10 50)))] := hD
                                obtain rfl := hr_224
                                refine lv_istore (lv' := [(6, .int 144), (5, .int 5), (4, .int 144), (3, .int 0), (0, .ref x0), (1, .int 2), (2, .int w)]) hx hb dX7_haste_85 hl (by decide) rfl (fun ls hl => ?_)
                                refine lv_iload hx hb dX7_haste_87 (lv_at hl 0 rfl) ?_
                                refine lv_iload hx hb dX7_haste_89 (lv_at hl 2 rfl) ?_
                                refine lv_icmp_le (tgt := 101) hx hb dX7_haste_91 (by decide) (fun c_229 => ?_) (fun c_229 => ?_)
                                · refine lv_iinc (v := 6) (lv' := [(5, .int 6), (6, .int 144), (4, .int 144), (3, .int 0), (0, .ref x0), (1, .int 2), (2, .int w)]) hx hb dX7_haste_101 hl (k := 1) rfl (by decide) (by decide) rfl (fun ls hl => ?_)
                                  refine lv_goto (tgt := 71) hx hb dX7_haste_104 (by decide) ?_
                                  refine lv_iload hx hb dX7_haste_71 (lv_at hl 0 rfl) ?_
                                  refine lv_bipush (v := 9) hx hb dX7_haste_73 (by decide) ?_
                                  refine lv_icmp_gt (tgt := 107) hx hb dX7_haste_75 (by decide) (fun c_230 => ?_) (fun c_230 => ?_)
                                  · exact absurd c_230 (by decide)
                                  · refine lv_aload_n hx hb dX7_haste_78 rfl (lv_at hl 4 rfl) ?_
                                    refine lv_iload hx hb dX7_haste_79 (lv_at hl 0 rfl) ?_
                                    refine lv_iload_n hx hb dX7_haste_81 rfl (lv_at hl 5 rfl) ?_
                                    skip
                                    refine zw_V (As := [.int 6, .int 2]) (rest := []) (wr := [(xr, .inl (cI, 8, .inl (fun _ => 0)))]) ⟨hx, hb, hml, hown, hts⟩ (c_casesBy_2 l D cI cJ cZ cP cS x0 xs j0 k0 w0 rd mv xr jp jc z0 0 0 wk wl wc wp q_226 q_227 q_228 (0) (5) (0) (6)  H.size) (cwV 2 hts gX7_haste_X7_casesBy rfl rfl rfl (by decide +kernel) ⟨Nat.le_of_ble_eq_true rfl, Nat.le_of_ble_eq_true rfl⟩) hK hN (hZ.kept hS) hP hD hS hA [1, 2, 3, 4, 5, 6, 7] [0] rfl rfl (by decide) (by decide) (by decide) (va_recv hK hP (ci := 7) (q0 := 1) rfl rfl) rfl hl.1 rfl (Nat.le_of_ble_eq_true rfl) dX7_haste_82 ⟨Nat.le_of_ble_eq_true rfl, Nat.le_of_ble_eq_true rfl⟩ (fun r_231 u_232 H locs hr_231 hP hD hS => ?_)
                                    obtain ⟨q_233, q_234, q_235⟩ := u_232
                                    replace hP : va_P D vwCl [(xr, .inl (cI, 8, .inl (fun _ => 0))), (x0, .inr (7, [.ref xs, .ref j0, .ref k0, .ref w0, .ref rd, .ref mv, .ref xr, .int 0, .int (-1)])), (w0, .inr (5, [.ref wk, .ref wl, .ref wc, .ref wp, .int 0, .int 6, .int 0])), (wk, .inl (cI, 125, .inl q_233)), (wl, .inl (cI, 125, .inl q_234)), (wc, .inl (cI, 3, .inl q_235)), (j0, .inr (0, [.ref z0, .ref jp, .ref jc, .int 0, .int 0, .int 0, .int 60, .int 0, .int 1])), (jc, .inl (cI, 3, .inl (zL3 5 10 50)))] H := hP
                                    replace hD : va_D _ [(xr, .inl (cI, 8, .inl (fun _ => 0))), (x0, .inr (7, [.ref xs, .ref j0, .ref k0, .ref w0, .ref rd, .ref mv, .ref xr, .int 0, .int (-1)])), (w0, .inr (5, [.ref wk, .ref wl, .ref wc, .ref wp, .int 0, .int 6, .int 0])), (wk, .inl (cI, 125, .inl q_233)), (wl, .inl (cI, 125, .inl q_234)), (wc, .inl (cI, 3, .inl q_235)), (j0, .inr (0, [.ref z0, .ref jp, .ref jc, .int 0, .int 0, .int 0, .int 60, .int 0, .int 1])), (jc, .inl (cI, 3, .inl (zL3 5 10 50)))] := hD
                                    obtain rfl := hr_231
                                    refine lv_istore (lv' := [(6, .int 144), (5, .int 6), (4, .int 144), (3, .int 0), (0, .ref x0), (1, .int 2), (2, .int w)]) hx hb dX7_haste_85 hl (by decide) rfl (fun ls hl => ?_)
                                    refine lv_iload hx hb dX7_haste_87 (lv_at hl 0 rfl) ?_
                                    refine lv_iload hx hb dX7_haste_89 (lv_at hl 2 rfl) ?_
                                    refine lv_icmp_le (tgt := 101) hx hb dX7_haste_91 (by decide) (fun c_236 => ?_) (fun c_236 => ?_)
                                    · refine lv_iinc (v := 7) (lv' := [(5, .int 7), (6, .int 144), (4, .int 144), (3, .int 0), (0, .ref x0), (1, .int 2), (2, .int w)]) hx hb dX7_haste_101 hl (k := 1) rfl (by decide) (by decide) rfl (fun ls hl => ?_)
                                      refine lv_goto (tgt := 71) hx hb dX7_haste_104 (by decide) ?_
                                      refine lv_iload hx hb dX7_haste_71 (lv_at hl 0 rfl) ?_
                                      refine lv_bipush (v := 9) hx hb dX7_haste_73 (by decide) ?_
                                      refine lv_icmp_gt (tgt := 107) hx hb dX7_haste_75 (by decide) (fun c_237 => ?_) (fun c_237 => ?_)
                                      · exact absurd c_237 (by decide)
                                      · refine lv_aload_n hx hb dX7_haste_78 rfl (lv_at hl 4 rfl) ?_
                                        refine lv_iload hx hb dX7_haste_79 (lv_at hl 0 rfl) ?_
                                        refine lv_iload_n hx hb dX7_haste_81 rfl (lv_at hl 5 rfl) ?_
                                        skip
                                        refine zw_V (As := [.int 7, .int 2]) (rest := []) (wr := [(xr, .inl (cI, 8, .inl (fun _ => 0)))]) ⟨hx, hb, hml, hown, hts⟩ (c_casesBy_2 l D cI cJ cZ cP cS x0 xs j0 k0 w0 rd mv xr jp jc z0 0 0 wk wl wc wp q_233 q_234 q_235 (0) (6) (0) (7)  H.size) (cwV 2 hts gX7_haste_X7_casesBy rfl rfl rfl (by decide +kernel) ⟨Nat.le_of_ble_eq_true rfl, Nat.le_of_ble_eq_true rfl⟩) hK hN (hZ.kept hS) hP hD hS hA [1, 2, 3, 4, 5, 6, 7] [0] rfl rfl (by decide) (by decide) (by decide) (va_recv hK hP (ci := 7) (q0 := 1) rfl rfl) rfl hl.1 rfl (Nat.le_of_ble_eq_true rfl) dX7_haste_82 ⟨Nat.le_of_ble_eq_true rfl, Nat.le_of_ble_eq_true rfl⟩ (fun r_238 u_239 H locs hr_238 hP hD hS => ?_)
                                        obtain ⟨q_240, q_241, q_242⟩ := u_239
                                        replace hP : va_P D vwCl [(xr, .inl (cI, 8, .inl (fun _ => 0))), (x0, .inr (7, [.ref xs, .ref j0, .ref k0, .ref w0, .ref rd, .ref mv, .ref xr, .int 0, .int (-1)])), (w0, .inr (5, [.ref wk, .ref wl, .ref wc, .ref wp, .int 0, .int 7, .int 0])), (wk, .inl (cI, 125, .inl q_240)), (wl, .inl (cI, 125, .inl q_241)), (wc, .inl (cI, 3, .inl q_242)), (j0, .inr (0, [.ref z0, .ref jp, .ref jc, .int 0, .int 0, .int 0, .int 60, .int 0, .int 1])), (jc, .inl (cI, 3, .inl (zL3 5 10 50)))] H := hP
                                        replace hD : va_D _ [(xr, .inl (cI, 8, .inl (fun _ => 0))), (x0, .inr (7, [.ref xs, .ref j0, .ref k0, .ref w0, .ref rd, .ref mv, .ref xr, .int 0, .int (-1)])), (w0, .inr (5, [.ref wk, .ref wl, .ref wc, .ref wp, .int 0, .int 7, .int 0])), (wk, .inl (cI, 125, .inl q_240)), (wl, .inl (cI, 125, .inl q_241)), (wc, .inl (cI, 3, .inl q_242)), (j0, .inr (0, [.ref z0, .ref jp, .ref jc, .int 0, .int 0, .int 0, .int 60, .int 0, .int 1])), (jc, .inl (cI, 3, .inl (zL3 5 10 50)))] := hD
                                        obtain rfl := hr_238
                                        refine lv_istore (lv' := [(6, .int 144), (5, .int 7), (4, .int 144), (3, .int 0), (0, .ref x0), (1, .int 2), (2, .int w)]) hx hb dX7_haste_85 hl (by decide) rfl (fun ls hl => ?_)
                                        refine lv_iload hx hb dX7_haste_87 (lv_at hl 0 rfl) ?_
                                        refine lv_iload hx hb dX7_haste_89 (lv_at hl 2 rfl) ?_
                                        refine lv_icmp_le (tgt := 101) hx hb dX7_haste_91 (by decide) (fun c_243 => ?_) (fun c_243 => ?_)
                                        · refine lv_iinc (v := 8) (lv' := [(5, .int 8), (6, .int 144), (4, .int 144), (3, .int 0), (0, .ref x0), (1, .int 2), (2, .int w)]) hx hb dX7_haste_101 hl (k := 1) rfl (by decide) (by decide) rfl (fun ls hl => ?_)
                                          refine lv_goto (tgt := 71) hx hb dX7_haste_104 (by decide) ?_
                                          refine lv_iload hx hb dX7_haste_71 (lv_at hl 0 rfl) ?_
                                          refine lv_bipush (v := 9) hx hb dX7_haste_73 (by decide) ?_
                                          refine lv_icmp_gt (tgt := 107) hx hb dX7_haste_75 (by decide) (fun c_244 => ?_) (fun c_244 => ?_)
                                          · exact absurd c_244 (by decide)
                                          · refine lv_aload_n hx hb dX7_haste_78 rfl (lv_at hl 4 rfl) ?_
                                            refine lv_iload hx hb dX7_haste_79 (lv_at hl 0 rfl) ?_
                                            refine lv_iload_n hx hb dX7_haste_81 rfl (lv_at hl 5 rfl) ?_
                                            skip
                                            refine zw_V (As := [.int 8, .int 2]) (rest := []) (wr := [(xr, .inl (cI, 8, .inl (fun _ => 0)))]) ⟨hx, hb, hml, hown, hts⟩ (c_casesBy_2 l D cI cJ cZ cP cS x0 xs j0 k0 w0 rd mv xr jp jc z0 0 0 wk wl wc wp q_240 q_241 q_242 (0) (7) (0) (8)  H.size) (cwV 2 hts gX7_haste_X7_casesBy rfl rfl rfl (by decide +kernel) ⟨Nat.le_of_ble_eq_true rfl, Nat.le_of_ble_eq_true rfl⟩) hK hN (hZ.kept hS) hP hD hS hA [1, 2, 3, 4, 5, 6, 7] [0] rfl rfl (by decide) (by decide) (by decide) (va_recv hK hP (ci := 7) (q0 := 1) rfl rfl) rfl hl.1 rfl (Nat.le_of_ble_eq_true rfl) dX7_haste_82 ⟨Nat.le_of_ble_eq_true rfl, Nat.le_of_ble_eq_true rfl⟩ (fun r_245 u_246 H locs hr_245 hP hD hS => ?_)
                                            obtain ⟨q_247, q_248, q_249⟩ := u_246
                                            replace hP : va_P D vwCl [(xr, .inl (cI, 8, .inl (fun _ => 0))), (x0, .inr (7, [.ref xs, .ref j0, .ref k0, .ref w0, .ref rd, .ref mv, .ref xr, .int 0, .int (-1)])), (w0, .inr (5, [.ref wk, .ref wl, .ref wc, .ref wp, .int 0, .int 8, .int 0])), (wk, .inl (cI, 125, .inl q_247)), (wl, .inl (cI, 125, .inl q_248)), (wc, .inl (cI, 3, .inl q_249)), (j0, .inr (0, [.ref z0, .ref jp, .ref jc, .int 0, .int 0, .int 0, .int 60, .int 0, .int 1])), (jc, .inl (cI, 3, .inl (zL3 5 10 50)))] H := hP
                                            replace hD : va_D _ [(xr, .inl (cI, 8, .inl (fun _ => 0))), (x0, .inr (7, [.ref xs, .ref j0, .ref k0, .ref w0, .ref rd, .ref mv, .ref xr, .int 0, .int (-1)])), (w0, .inr (5, [.ref wk, .ref wl, .ref wc, .ref wp, .int 0, .int 8, .int 0])), (wk, .inl (cI, 125, .inl q_247)), (wl, .inl (cI, 125, .inl q_248)), (wc, .inl (cI, 3, .inl q_249)), (j0, .inr (0, [.ref z0, .ref jp, .ref jc, .int 0, .int 0, .int 0, .int 60, .int 0, .int 1])), (jc, .inl (cI, 3, .inl (zL3 5 10 50)))] := hD
                                            obtain rfl := hr_245
                                            refine lv_istore (lv' := [(6, .int 144), (5, .int 8), (4, .int 144), (3, .int 0), (0, .ref x0), (1, .int 2), (2, .int w)]) hx hb dX7_haste_85 hl (by decide) rfl (fun ls hl => ?_)
                                            refine lv_iload hx hb dX7_haste_87 (lv_at hl 0 rfl) ?_
                                            refine lv_iload hx hb dX7_haste_89 (lv_at hl 2 rfl) ?_
                                            refine lv_icmp_le (tgt := 101) hx hb dX7_haste_91 (by decide) (fun c_250 => ?_) (fun c_250 => ?_)
                                            · refine lv_iinc (v := 9) (lv' := [(5, .int 9), (6, .int 144), (4, .int 144), (3, .int 0), (0, .ref x0), (1, .int 2), (2, .int w)]) hx hb dX7_haste_101 hl (k := 1) rfl (by decide) (by decide) rfl (fun ls hl => ?_)
                                              refine lv_goto (tgt := 71) hx hb dX7_haste_104 (by decide) ?_
                                              refine lv_iload hx hb dX7_haste_71 (lv_at hl 0 rfl) ?_
                                              refine lv_bipush (v := 9) hx hb dX7_haste_73 (by decide) ?_
                                              refine lv_icmp_gt (tgt := 107) hx hb dX7_haste_75 (by decide) (fun c_251 => ?_) (fun c_251 => ?_)
                                              · exact absurd c_251 (by decide)
                                              · refine lv_aload_n hx hb dX7_haste_78 rfl (lv_at hl 4 rfl) ?_
                                                refine lv_iload hx hb dX7_haste_79 (lv_at hl 0 rfl) ?_
                                                refine lv_iload_n hx hb dX7_haste_81 rfl (lv_at hl 5 rfl) ?_
                                                skip
                                                refine zw_V (As := [.int 9, .int 2]) (rest := []) (wr := [(xr, .inl (cI, 8, .inl (fun _ => 0)))]) ⟨hx, hb, hml, hown, hts⟩ (c_casesBy_2 l D cI cJ cZ cP cS x0 xs j0 k0 w0 rd mv xr jp jc z0 0 0 wk wl wc wp q_247 q_248 q_249 (0) (8) (0) (9)  H.size) (cwV 2 hts gX7_haste_X7_casesBy rfl rfl rfl (by decide +kernel) ⟨Nat.le_of_ble_eq_true rfl, Nat.le_of_ble_eq_true rfl⟩) hK hN (hZ.kept hS) hP hD hS hA [1, 2, 3, 4, 5, 6, 7] [0] rfl rfl (by decide) (by decide) (by decide) (va_recv hK hP (ci := 7) (q0 := 1) rfl rfl) rfl hl.1 rfl (Nat.le_of_ble_eq_true rfl) dX7_haste_82 ⟨Nat.le_of_ble_eq_true rfl, Nat.le_of_ble_eq_true rfl⟩ (fun r_252 u_253 H locs hr_252 hP hD hS => ?_)
                                                obtain ⟨q_254, q_255, q_256⟩ := u_253
                                                replace hP : va_P D vwCl [(xr, .inl (cI, 8, .inl (fun _ => 0))), (x0, .inr (7, [.ref xs, .ref j0, .ref k0, .ref w0, .ref rd, .ref mv, .ref xr, .int 0, .int (-1)])), (w0, .inr (5, [.ref wk, .ref wl, .ref wc, .ref wp, .int 0, .int 9, .int 0])), (wk, .inl (cI, 125, .inl q_254)), (wl, .inl (cI, 125, .inl q_255)), (wc, .inl (cI, 3, .inl q_256)), (j0, .inr (0, [.ref z0, .ref jp, .ref jc, .int 0, .int 0, .int 0, .int 60, .int 0, .int 1])), (jc, .inl (cI, 3, .inl (zL3 5 10 50)))] H := hP
                                                replace hD : va_D _ [(xr, .inl (cI, 8, .inl (fun _ => 0))), (x0, .inr (7, [.ref xs, .ref j0, .ref k0, .ref w0, .ref rd, .ref mv, .ref xr, .int 0, .int (-1)])), (w0, .inr (5, [.ref wk, .ref wl, .ref wc, .ref wp, .int 0, .int 9, .int 0])), (wk, .inl (cI, 125, .inl q_254)), (wl, .inl (cI, 125, .inl q_255)), (wc, .inl (cI, 3, .inl q_256)), (j0, .inr (0, [.ref z0, .ref jp, .ref jc, .int 0, .int 0, .int 0, .int 60, .int 0, .int 1])), (jc, .inl (cI, 3, .inl (zL3 5 10 50)))] := hD
                                                obtain rfl := hr_252
                                                refine lv_istore (lv' := [(6, .int 144), (5, .int 9), (4, .int 144), (3, .int 0), (0, .ref x0), (1, .int 2), (2, .int w)]) hx hb dX7_haste_85 hl (by decide) rfl (fun ls hl => ?_)
                                                refine lv_iload hx hb dX7_haste_87 (lv_at hl 0 rfl) ?_
                                                refine lv_iload hx hb dX7_haste_89 (lv_at hl 2 rfl) ?_
                                                refine lv_icmp_le (tgt := 101) hx hb dX7_haste_91 (by decide) (fun c_257 => ?_) (fun c_257 => ?_)
                                                · refine lv_iinc (v := 10) (lv' := [(5, .int 10), (6, .int 144), (4, .int 144), (3, .int 0), (0, .ref x0), (1, .int 2), (2, .int w)]) hx hb dX7_haste_101 hl (k := 1) rfl (by decide) (by decide) rfl (fun ls hl => ?_)
                                                  refine lv_goto (tgt := 71) hx hb dX7_haste_104 (by decide) ?_
                                                  refine lv_iload hx hb dX7_haste_71 (lv_at hl 0 rfl) ?_
                                                  refine lv_bipush (v := 9) hx hb dX7_haste_73 (by decide) ?_
                                                  refine lv_icmp_gt (tgt := 107) hx hb dX7_haste_75 (by decide) (fun c_258 => ?_) (fun c_258 => ?_)
                                                  · refine lv_iload_n hx hb dX7_haste_107 rfl (lv_at hl 3 rfl) ?_
                                                    exact W.iret (v := 0) hx hb hr (fun t ht hW => ⟨⟨0, (), rfl, Or.inr (Or.inr (Or.inr (Or.inr (Or.inr (Or.inr (Or.inr (Or.inr (Or.inl (⟨rfl, (by first | omega | decide), (by first | omega | decide), (by first | omega | decide), (by first | omega | decide), (by first | omega | decide), (by first | omega | decide)⟩))))))))), zP_nil, zD_nil⟩, hS.F ht⟩) hS.2.2 dX7_haste_108
                                                  · exact absurd c_258 (by decide)
                                                · exact absurd c_257 (by decide)
                                            · exact absurd c_250 (by decide)
                                        · exact absurd c_243 (by decide)
                                    · exact absurd c_236 (by decide)
                                · exact absurd c_229 (by decide)
                            · exact absurd c_222 (by decide)
                        · exact absurd c_215 (by decide)
                    · exact absurd c_208 (by decide)
                · exact absurd c_201 (by decide)
            · have fc_189 : w.toInt = 1 := zf_eq c_189 rfl (by decide)
              refine lv_aload_n hx hb dX7_haste_36 rfl (lv_at hl 0 rfl) ?_
              refine lv_bipush (v := 9) hx hb dX7_haste_37 (by decide) ?_
              refine lv_iload_n hx hb dX7_haste_39 rfl (lv_at hl 1 rfl) ?_
              skip
              refine zw_V (As := [.int 9, .int 2]) (rest := []) (wr := [(xr, .inl (cI, 8, .inl (fun _ => 0)))]) ⟨hx, hb, hml, hown, hts⟩ (c_casesBy_2 l D cI cJ cZ cP cS x0 xs j0 k0 w0 rd mv xr jp jc z0 0 0 wk wl wc wp fk fl fc (0) (0) (0) (9)  H.size) (cwV 2 hts gX7_haste_X7_casesBy rfl rfl rfl (by decide +kernel) ⟨Nat.le_of_ble_eq_true rfl, Nat.le_of_ble_eq_true rfl⟩) hK hN (hZ.kept hS) hP hD hS hA [0, 2, 3, 4, 5, 6, 7] [1] rfl rfl (by decide) (by decide) (by decide) (va_recv hK hP (ci := 7) (q0 := 0) rfl rfl) rfl hl.1 rfl (Nat.le_of_ble_eq_true rfl) dX7_haste_40 ⟨Nat.le_of_ble_eq_true rfl, Nat.le_of_ble_eq_true rfl⟩ (fun r_259 u_260 H locs hr_259 hP hD hS => ?_)
              obtain ⟨q_261, q_262, q_263⟩ := u_260
              replace hP : va_P D vwCl [(xr, .inl (cI, 8, .inl (fun _ => 0))), (x0, .inr (7, [.ref xs, .ref j0, .ref k0, .ref w0, .ref rd, .ref mv, .ref xr, .int 0, .int (-1)])), (w0, .inr (5, [.ref wk, .ref wl, .ref wc, .ref wp, .int 0, .int 9, .int 0])), (wk, .inl (cI, 125, .inl q_261)), (wl, .inl (cI, 125, .inl q_262)), (wc, .inl (cI, 3, .inl q_263)), (j0, .inr (0, [.ref z0, .ref jp, .ref jc, .int 0, .int 0, .int 0, .int 60, .int 0, .int 1])), (jc, .inl (cI, 3, .inl (zL3 5 10 50)))] H := hP
              replace hD : va_D _ [(xr, .inl (cI, 8, .inl (fun _ => 0))), (x0, .inr (7, [.ref xs, .ref j0, .ref k0, .ref w0, .ref rd, .ref mv, .ref xr, .int 0, .int (-1)])), (w0, .inr (5, [.ref wk, .ref wl, .ref wc, .ref wp, .int 0, .int 9, .int 0])), (wk, .inl (cI, 125, .inl q_261)), (wl, .inl (cI, 125, .inl q_262)), (wc, .inl (cI, 3, .inl q_263)), (j0, .inr (0, [.ref z0, .ref jp, .ref jc, .int 0, .int 0, .int 0, .int 60, .int 0, .int 1])), (jc, .inl (cI, 3, .inl (zL3 5 10 50)))] := hD
              obtain rfl := hr_259
              refine lv_aload_n hx hb dX7_haste_43 rfl (lv_at hl 0 rfl) ?_
              refine lv_iconst (v := 0) hx hb dX7_haste_44 (by decide) ?_
              refine lv_iload_n hx hb dX7_haste_45 rfl (lv_at hl 1 rfl) ?_
              skip
              refine zw_V (As := [.int 0, .int 2]) (rest := [.int 144]) (wr := [(xr, .inl (cI, 8, .inl (fun _ => 0)))]) ⟨hx, hb, hml, hown, hts⟩ (c_casesBy_2 l D cI cJ cZ cP cS x0 xs j0 k0 w0 rd mv xr jp jc z0 0 0 wk wl wc wp q_261 q_262 q_263 (0) (9) (0) (0)  H.size) (cwV 2 hts gX7_haste_X7_casesBy rfl rfl rfl (by decide +kernel) ⟨Nat.le_of_ble_eq_true rfl, Nat.le_of_ble_eq_true rfl⟩) hK hN (hZ.kept hS) hP hD hS hA [1, 2, 3, 4, 5, 6, 7] [0] rfl rfl (by decide) (by decide) (by decide) (va_recv hK hP (ci := 7) (q0 := 1) rfl rfl) rfl hl.1 rfl (Nat.le_of_ble_eq_true rfl) dX7_haste_46 ⟨Nat.le_of_ble_eq_true rfl, Nat.le_of_ble_eq_true rfl⟩ (fun r_264 u_265 H locs hr_264 hP hD hS => ?_)
              obtain ⟨q_266, q_267, q_268⟩ := u_265
              replace hP : va_P D vwCl [(xr, .inl (cI, 8, .inl (fun _ => 0))), (x0, .inr (7, [.ref xs, .ref j0, .ref k0, .ref w0, .ref rd, .ref mv, .ref xr, .int 0, .int (-1)])), (w0, .inr (5, [.ref wk, .ref wl, .ref wc, .ref wp, .int 0, .int 0, .int 0])), (wk, .inl (cI, 125, .inl q_266)), (wl, .inl (cI, 125, .inl q_267)), (wc, .inl (cI, 3, .inl q_268)), (j0, .inr (0, [.ref z0, .ref jp, .ref jc, .int 0, .int 0, .int 0, .int 60, .int 0, .int 1])), (jc, .inl (cI, 3, .inl (zL3 5 10 50)))] H := hP
              replace hD : va_D _ [(xr, .inl (cI, 8, .inl (fun _ => 0))), (x0, .inr (7, [.ref xs, .ref j0, .ref k0, .ref w0, .ref rd, .ref mv, .ref xr, .int 0, .int (-1)])), (w0, .inr (5, [.ref wk, .ref wl, .ref wc, .ref wp, .int 0, .int 0, .int 0])), (wk, .inl (cI, 125, .inl q_266)), (wl, .inl (cI, 125, .inl q_267)), (wc, .inl (cI, 3, .inl q_268)), (j0, .inr (0, [.ref z0, .ref jp, .ref jc, .int 0, .int 0, .int 0, .int 60, .int 0, .int 1])), (jc, .inl (cI, 3, .inl (zL3 5 10 50)))] := hD
              obtain rfl := hr_264
              refine lv_icmp_ge (tgt := 56) hx hb dX7_haste_49 (by decide) (fun c_269 => ?_) (fun c_269 => ?_)
              · refine lv_iconst (v := 0) hx hb dX7_haste_56 (by decide) ?_
                exact W.iret (v := 0) hx hb hr (fun t ht hW => ⟨⟨0, (), rfl, Or.inr (Or.inr (Or.inr (Or.inr (Or.inr (Or.inr (Or.inr (Or.inr (Or.inr (Or.inl (⟨rfl, (by first | omega | decide), (by first | omega | decide), (by first | omega | decide), (by first | omega | decide), (by first | omega | decide), (by first | omega | decide)⟩)))))))))), zP_nil, zD_nil⟩, hS.F ht⟩) hS.2.2 dX7_haste_57
              · exact absurd c_269 (by decide)
          · refine lv_iload_n hx hb dX7_haste_31 rfl (lv_at hl 2 rfl) ?_
            refine lv_iconst (v := 1) hx hb dX7_haste_32 (by decide) ?_
            refine lv_icmp_ne (tgt := 58) hx hb dX7_haste_33 (by decide) (fun c_270 => ?_) (fun c_270 => ?_)
            · have fc_270 : w.toInt ≠ 1 := zf_ne c_270 rfl (by decide)
              refine lv_iconst (v := 0) hx hb dX7_haste_58 (by decide) ?_
              refine lv_istore_n (lv' := [(3, .int 0), (0, .ref x0), (1, .int 3), (2, .int w)]) hx hb dX7_haste_59 rfl hl (by decide) rfl (fun ls hl => ?_)
              refine lv_aload_n hx hb dX7_haste_60 rfl (lv_at hl 1 rfl) ?_
              refine lv_iconst (v := 0) hx hb dX7_haste_61 (by decide) ?_
              refine lv_iload_n hx hb dX7_haste_62 rfl (lv_at hl 2 rfl) ?_
              skip
              refine zw_V (As := [.int 0, .int 3]) (rest := []) (wr := [(xr, .inl (cI, 8, .inl (fun _ => 0)))]) ⟨hx, hb, hml, hown, hts⟩ (c_casesBy_3 l D cI cJ cZ cP cS x0 xs j0 k0 w0 rd mv xr jp jc z0 0 0 wk wl wc wp fk fl fc (0) (0) (0) (0)  H.size) (cwV 2 hts gX7_haste_X7_casesBy rfl rfl rfl (by decide +kernel) ⟨Nat.le_of_ble_eq_true rfl, Nat.le_of_ble_eq_true rfl⟩) hK hN (hZ.kept hS) hP hD hS hA [0, 2, 3, 4, 5, 6, 7] [1] rfl rfl (by decide) (by decide) (by decide) (va_recv hK hP (ci := 7) (q0 := 0) rfl rfl) rfl hl.1 rfl (Nat.le_of_ble_eq_true rfl) dX7_haste_63 ⟨Nat.le_of_ble_eq_true rfl, Nat.le_of_ble_eq_true rfl⟩ (fun r_271 u_272 H locs hr_271 hP hD hS => ?_)
              obtain ⟨q_273, q_274, q_275⟩ := u_272
              replace hP : va_P D vwCl [(xr, .inl (cI, 8, .inl (fun _ => 0))), (x0, .inr (7, [.ref xs, .ref j0, .ref k0, .ref w0, .ref rd, .ref mv, .ref xr, .int 0, .int (-1)])), (w0, .inr (5, [.ref wk, .ref wl, .ref wc, .ref wp, .int 0, .int 0, .int 0])), (wk, .inl (cI, 125, .inl q_273)), (wl, .inl (cI, 125, .inl q_274)), (wc, .inl (cI, 3, .inl q_275)), (j0, .inr (0, [.ref z0, .ref jp, .ref jc, .int 0, .int 0, .int 0, .int 60, .int 0, .int 1])), (jc, .inl (cI, 3, .inl (zL3 5 10 50)))] H := hP
              replace hD : va_D _ [(xr, .inl (cI, 8, .inl (fun _ => 0))), (x0, .inr (7, [.ref xs, .ref j0, .ref k0, .ref w0, .ref rd, .ref mv, .ref xr, .int 0, .int (-1)])), (w0, .inr (5, [.ref wk, .ref wl, .ref wc, .ref wp, .int 0, .int 0, .int 0])), (wk, .inl (cI, 125, .inl q_273)), (wl, .inl (cI, 125, .inl q_274)), (wc, .inl (cI, 3, .inl q_275)), (j0, .inr (0, [.ref z0, .ref jp, .ref jc, .int 0, .int 0, .int 0, .int 60, .int 0, .int 1])), (jc, .inl (cI, 3, .inl (zL3 5 10 50)))] := hD
              obtain rfl := hr_271
              refine lv_istore (lv' := [(4, .int 1728), (3, .int 0), (0, .ref x0), (1, .int 3), (2, .int w)]) hx hb dX7_haste_66 hl (by decide) rfl (fun ls hl => ?_)
              refine lv_iconst (v := 1) hx hb dX7_haste_68 (by decide) ?_
              refine lv_istore (lv' := [(5, .int 1), (4, .int 1728), (3, .int 0), (0, .ref x0), (1, .int 3), (2, .int w)]) hx hb dX7_haste_69 hl (by decide) rfl (fun ls hl => ?_)
              refine lv_iload hx hb dX7_haste_71 (lv_at hl 0 rfl) ?_
              refine lv_bipush (v := 9) hx hb dX7_haste_73 (by decide) ?_
              refine lv_icmp_gt (tgt := 107) hx hb dX7_haste_75 (by decide) (fun c_276 => ?_) (fun c_276 => ?_)
              · exact absurd c_276 (by decide)
              · refine lv_aload_n hx hb dX7_haste_78 rfl (lv_at hl 3 rfl) ?_
                refine lv_iload hx hb dX7_haste_79 (lv_at hl 0 rfl) ?_
                refine lv_iload_n hx hb dX7_haste_81 rfl (lv_at hl 4 rfl) ?_
                skip
                refine zw_V (As := [.int 1, .int 3]) (rest := []) (wr := [(xr, .inl (cI, 8, .inl (fun _ => 0)))]) ⟨hx, hb, hml, hown, hts⟩ (c_casesBy_3 l D cI cJ cZ cP cS x0 xs j0 k0 w0 rd mv xr jp jc z0 0 0 wk wl wc wp q_273 q_274 q_275 (0) (0) (0) (1)  H.size) (cwV 2 hts gX7_haste_X7_casesBy rfl rfl rfl (by decide +kernel) ⟨Nat.le_of_ble_eq_true rfl, Nat.le_of_ble_eq_true rfl⟩) hK hN (hZ.kept hS) hP hD hS hA [1, 2, 3, 4, 5, 6, 7] [0] rfl rfl (by decide) (by decide) (by decide) (va_recv hK hP (ci := 7) (q0 := 1) rfl rfl) rfl hl.1 rfl (Nat.le_of_ble_eq_true rfl) dX7_haste_82 ⟨Nat.le_of_ble_eq_true rfl, Nat.le_of_ble_eq_true rfl⟩ (fun r_277 u_278 H locs hr_277 hP hD hS => ?_)
                obtain ⟨q_279, q_280, q_281⟩ := u_278
                replace hP : va_P D vwCl [(xr, .inl (cI, 8, .inl (fun _ => 0))), (x0, .inr (7, [.ref xs, .ref j0, .ref k0, .ref w0, .ref rd, .ref mv, .ref xr, .int 0, .int (-1)])), (w0, .inr (5, [.ref wk, .ref wl, .ref wc, .ref wp, .int 0, .int 1, .int 0])), (wk, .inl (cI, 125, .inl q_279)), (wl, .inl (cI, 125, .inl q_280)), (wc, .inl (cI, 3, .inl q_281)), (j0, .inr (0, [.ref z0, .ref jp, .ref jc, .int 0, .int 0, .int 0, .int 60, .int 0, .int 1])), (jc, .inl (cI, 3, .inl (zL3 5 10 50)))] H := hP
                replace hD : va_D _ [(xr, .inl (cI, 8, .inl (fun _ => 0))), (x0, .inr (7, [.ref xs, .ref j0, .ref k0, .ref w0, .ref rd, .ref mv, .ref xr, .int 0, .int (-1)])), (w0, .inr (5, [.ref wk, .ref wl, .ref wc, .ref wp, .int 0, .int 1, .int 0])), (wk, .inl (cI, 125, .inl q_279)), (wl, .inl (cI, 125, .inl q_280)), (wc, .inl (cI, 3, .inl q_281)), (j0, .inr (0, [.ref z0, .ref jp, .ref jc, .int 0, .int 0, .int 0, .int 60, .int 0, .int 1])), (jc, .inl (cI, 3, .inl (zL3 5 10 50)))] := hD
                obtain rfl := hr_277
                refine lv_istore (lv' := [(6, .int 1728), (5, .int 1), (4, .int 1728), (3, .int 0), (0, .ref x0), (1, .int 3), (2, .int w)]) hx hb dX7_haste_85 hl (by decide) rfl (fun ls hl => ?_)
                refine lv_iload hx hb dX7_haste_87 (lv_at hl 0 rfl) ?_
                refine lv_iload hx hb dX7_haste_89 (lv_at hl 2 rfl) ?_
                refine lv_icmp_le (tgt := 101) hx hb dX7_haste_91 (by decide) (fun c_282 => ?_) (fun c_282 => ?_)
                · refine lv_iinc (v := 2) (lv' := [(5, .int 2), (6, .int 1728), (4, .int 1728), (3, .int 0), (0, .ref x0), (1, .int 3), (2, .int w)]) hx hb dX7_haste_101 hl (k := 1) rfl (by decide) (by decide) rfl (fun ls hl => ?_)
                  refine lv_goto (tgt := 71) hx hb dX7_haste_104 (by decide) ?_
                  refine lv_iload hx hb dX7_haste_71 (lv_at hl 0 rfl) ?_
                  refine lv_bipush (v := 9) hx hb dX7_haste_73 (by decide) ?_
                  refine lv_icmp_gt (tgt := 107) hx hb dX7_haste_75 (by decide) (fun c_283 => ?_) (fun c_283 => ?_)
                  · exact absurd c_283 (by decide)
                  · refine lv_aload_n hx hb dX7_haste_78 rfl (lv_at hl 4 rfl) ?_
                    refine lv_iload hx hb dX7_haste_79 (lv_at hl 0 rfl) ?_
                    refine lv_iload_n hx hb dX7_haste_81 rfl (lv_at hl 5 rfl) ?_
                    skip
                    refine zw_V (As := [.int 2, .int 3]) (rest := []) (wr := [(xr, .inl (cI, 8, .inl (fun _ => 0)))]) ⟨hx, hb, hml, hown, hts⟩ (c_casesBy_3 l D cI cJ cZ cP cS x0 xs j0 k0 w0 rd mv xr jp jc z0 0 0 wk wl wc wp q_279 q_280 q_281 (0) (1) (0) (2)  H.size) (cwV 2 hts gX7_haste_X7_casesBy rfl rfl rfl (by decide +kernel) ⟨Nat.le_of_ble_eq_true rfl, Nat.le_of_ble_eq_true rfl⟩) hK hN (hZ.kept hS) hP hD hS hA [1, 2, 3, 4, 5, 6, 7] [0] rfl rfl (by decide) (by decide) (by decide) (va_recv hK hP (ci := 7) (q0 := 1) rfl rfl) rfl hl.1 rfl (Nat.le_of_ble_eq_true rfl) dX7_haste_82 ⟨Nat.le_of_ble_eq_true rfl, Nat.le_of_ble_eq_true rfl⟩ (fun r_284 u_285 H locs hr_284 hP hD hS => ?_)
                    obtain ⟨q_286, q_287, q_288⟩ := u_285
                    replace hP : va_P D vwCl [(xr, .inl (cI, 8, .inl (fun _ => 0))), (x0, .inr (7, [.ref xs, .ref j0, .ref k0, .ref w0, .ref rd, .ref mv, .ref xr, .int 0, .int (-1)])), (w0, .inr (5, [.ref wk, .ref wl, .ref wc, .ref wp, .int 0, .int 2, .int 0])), (wk, .inl (cI, 125, .inl q_286)), (wl, .inl (cI, 125, .inl q_287)), (wc, .inl (cI, 3, .inl q_288)), (j0, .inr (0, [.ref z0, .ref jp, .ref jc, .int 0, .int 0, .int 0, .int 60, .int 0, .int 1])), (jc, .inl (cI, 3, .inl (zL3 5 10 50)))] H := hP
                    replace hD : va_D _ [(xr, .inl (cI, 8, .inl (fun _ => 0))), (x0, .inr (7, [.ref xs, .ref j0, .ref k0, .ref w0, .ref rd, .ref mv, .ref xr, .int 0, .int (-1)])), (w0, .inr (5, [.ref wk, .ref wl, .ref wc, .ref wp, .int 0, .int 2, .int 0])), (wk, .inl (cI, 125, .inl q_286)), (wl, .inl (cI, 125, .inl q_287)), (wc, .inl (cI, 3, .inl q_288)), (j0, .inr (0, [.ref z0, .ref jp, .ref jc, .int 0, .int 0, .int 0, .int 60, .int 0, .int 1])), (jc, .inl (cI, 3, .inl (zL3 5 10 50)))] := hD
                    obtain rfl := hr_284
                    refine lv_istore (lv' := [(6, .int 1728), (5, .int 2), (4, .int 1728), (3, .int 0), (0, .ref x0), (1, .int 3), (2, .int w)]) hx hb dX7_haste_85 hl (by decide) rfl (fun ls hl => ?_)
                    refine lv_iload hx hb dX7_haste_87 (lv_at hl 0 rfl) ?_
                    refine lv_iload hx hb dX7_haste_89 (lv_at hl 2 rfl) ?_
                    refine lv_icmp_le (tgt := 101) hx hb dX7_haste_91 (by decide) (fun c_289 => ?_) (fun c_289 => ?_)
                    · refine lv_iinc (v := 3) (lv' := [(5, .int 3), (6, .int 1728), (4, .int 1728), (3, .int 0), (0, .ref x0), (1, .int 3), (2, .int w)]) hx hb dX7_haste_101 hl (k := 1) rfl (by decide) (by decide) rfl (fun ls hl => ?_)
                      refine lv_goto (tgt := 71) hx hb dX7_haste_104 (by decide) ?_
                      refine lv_iload hx hb dX7_haste_71 (lv_at hl 0 rfl) ?_
                      refine lv_bipush (v := 9) hx hb dX7_haste_73 (by decide) ?_
                      refine lv_icmp_gt (tgt := 107) hx hb dX7_haste_75 (by decide) (fun c_290 => ?_) (fun c_290 => ?_)
                      · exact absurd c_290 (by decide)
                      · refine lv_aload_n hx hb dX7_haste_78 rfl (lv_at hl 4 rfl) ?_
                        refine lv_iload hx hb dX7_haste_79 (lv_at hl 0 rfl) ?_
                        refine lv_iload_n hx hb dX7_haste_81 rfl (lv_at hl 5 rfl) ?_
                        skip
                        refine zw_V (As := [.int 3, .int 3]) (rest := []) (wr := [(xr, .inl (cI, 8, .inl (fun _ => 0)))]) ⟨hx, hb, hml, hown, hts⟩ (c_casesBy_3 l D cI cJ cZ cP cS x0 xs j0 k0 w0 rd mv xr jp jc z0 0 0 wk wl wc wp q_286 q_287 q_288 (0) (2) (0) (3)  H.size) (cwV 2 hts gX7_haste_X7_casesBy rfl rfl rfl (by decide +kernel) ⟨Nat.le_of_ble_eq_true rfl, Nat.le_of_ble_eq_true rfl⟩) hK hN (hZ.kept hS) hP hD hS hA [1, 2, 3, 4, 5, 6, 7] [0] rfl rfl (by decide) (by decide) (by decide) (va_recv hK hP (ci := 7) (q0 := 1) rfl rfl) rfl hl.1 rfl (Nat.le_of_ble_eq_true rfl) dX7_haste_82 ⟨Nat.le_of_ble_eq_true rfl, Nat.le_of_ble_eq_true rfl⟩ (fun r_291 u_292 H locs hr_291 hP hD hS => ?_)
                        obtain ⟨q_293, q_294, q_295⟩ := u_292
                        replace hP : va_P D vwCl [(xr, .inl (cI, 8, .inl (fun _ => 0))), (x0, .inr (7, [.ref xs, .ref j0, .ref k0, .ref w0, .ref rd, .ref mv, .ref xr, .int 0, .int (-1)])), (w0, .inr (5, [.ref wk, .ref wl, .ref wc, .ref wp, .int 0, .int 3, .int 0])), (wk, .inl (cI, 125, .inl q_293)), (wl, .inl (cI, 125, .inl q_294)), (wc, .inl (cI, 3, .inl q_295)), (j0, .inr (0, [.ref z0, .ref jp, .ref jc, .int 0, .int 0, .int 0, .int 60, .int 0, .int 1])), (jc, .inl (cI, 3, .inl (zL3 5 10 50)))] H := hP
                        replace hD : va_D _ [(xr, .inl (cI, 8, .inl (fun _ => 0))), (x0, .inr (7, [.ref xs, .ref j0, .ref k0, .ref w0, .ref rd, .ref mv, .ref xr, .int 0, .int (-1)])), (w0, .inr (5, [.ref wk, .ref wl, .ref wc, .ref wp, .int 0, .int 3, .int 0])), (wk, .inl (cI, 125, .inl q_293)), (wl, .inl (cI, 125, .inl q_294)), (wc, .inl (cI, 3, .inl q_295)), (j0, .inr (0, [.ref z0, .ref jp, .ref jc, .int 0, .int 0, .int 0, .int 60, .int 0, .int 1])), (jc, .inl (cI, 3, .inl (zL3 5 10 50)))] := hD
                        obtain rfl := hr_291
                        refine lv_istore (lv' := [(6, .int 1728), (5, .int 3), (4, .int 1728), (3, .int 0), (0, .ref x0), (1, .int 3), (2, .int w)]) hx hb dX7_haste_85 hl (by decide) rfl (fun ls hl => ?_)
                        refine lv_iload hx hb dX7_haste_87 (lv_at hl 0 rfl) ?_
                        refine lv_iload hx hb dX7_haste_89 (lv_at hl 2 rfl) ?_
                        refine lv_icmp_le (tgt := 101) hx hb dX7_haste_91 (by decide) (fun c_296 => ?_) (fun c_296 => ?_)
                        · refine lv_iinc (v := 4) (lv' := [(5, .int 4), (6, .int 1728), (4, .int 1728), (3, .int 0), (0, .ref x0), (1, .int 3), (2, .int w)]) hx hb dX7_haste_101 hl (k := 1) rfl (by decide) (by decide) rfl (fun ls hl => ?_)
                          refine lv_goto (tgt := 71) hx hb dX7_haste_104 (by decide) ?_
                          refine lv_iload hx hb dX7_haste_71 (lv_at hl 0 rfl) ?_
                          refine lv_bipush (v := 9) hx hb dX7_haste_73 (by decide) ?_
                          refine lv_icmp_gt (tgt := 107) hx hb dX7_haste_75 (by decide) (fun c_297 => ?_) (fun c_297 => ?_)
                          · exact absurd c_297 (by decide)
                          · refine lv_aload_n hx hb dX7_haste_78 rfl (lv_at hl 4 rfl) ?_
                            refine lv_iload hx hb dX7_haste_79 (lv_at hl 0 rfl) ?_
                            refine lv_iload_n hx hb dX7_haste_81 rfl (lv_at hl 5 rfl) ?_
                            skip
                            refine zw_V (As := [.int 4, .int 3]) (rest := []) (wr := [(xr, .inl (cI, 8, .inl (fun _ => 0)))]) ⟨hx, hb, hml, hown, hts⟩ (c_casesBy_3 l D cI cJ cZ cP cS x0 xs j0 k0 w0 rd mv xr jp jc z0 0 0 wk wl wc wp q_293 q_294 q_295 (0) (3) (0) (4)  H.size) (cwV 2 hts gX7_haste_X7_casesBy rfl rfl rfl (by decide +kernel) ⟨Nat.le_of_ble_eq_true rfl, Nat.le_of_ble_eq_true rfl⟩) hK hN (hZ.kept hS) hP hD hS hA [1, 2, 3, 4, 5, 6, 7] [0] rfl rfl (by decide) (by decide) (by decide) (va_recv hK hP (ci := 7) (q0 := 1) rfl rfl) rfl hl.1 rfl (Nat.le_of_ble_eq_true rfl) dX7_haste_82 ⟨Nat.le_of_ble_eq_true rfl, Nat.le_of_ble_eq_true rfl⟩ (fun r_298 u_299 H locs hr_298 hP hD hS => ?_)
                            obtain ⟨q_300, q_301, q_302⟩ := u_299
                            replace hP : va_P D vwCl [(xr, .inl (cI, 8, .inl (fun _ => 0))), (x0, .inr (7, [.ref xs, .ref j0, .ref k0, .ref w0, .ref rd, .ref mv, .ref xr, .int 0, .int (-1)])), (w0, .inr (5, [.ref wk, .ref wl, .ref wc, .ref wp, .int 0, .int 4, .int 0])), (wk, .inl (cI, 125, .inl q_300)), (wl, .inl (cI, 125, .inl q_301)), (wc, .inl (cI, 3, .inl q_302)), (j0, .inr (0, [.ref z0, .ref jp, .ref jc, .int 0, .int 0, .int 0, .int 60, .int 0, .int 1])), (jc, .inl (cI, 3, .inl (zL3 5 10 50)))] H := hP
                            replace hD : va_D _ [(xr, .inl (cI, 8, .inl (fun _ => 0))), (x0, .inr (7, [.ref xs, .ref j0, .ref k0, .ref w0, .ref rd, .ref mv, .ref xr, .int 0, .int (-1)])), (w0, .inr (5, [.ref wk, .ref wl, .ref wc, .ref wp, .int 0, .int 4, .int 0])), (wk, .inl (cI, 125, .inl q_300)), (wl, .inl (cI, 125, .inl q_301)), (wc, .inl (cI, 3, .inl q_302)), (j0, .inr (0, [.ref z0, .ref jp, .ref jc, .int 0, .int 0, .int 0, .int 60, .int 0, .int 1])), (jc, .inl (cI, 3, .inl (zL3 5 10 50)))] := hD
                            obtain rfl := hr_298
                            refine lv_istore (lv' := [(6, .int 1728), (5, .int 4), (4, .int 1728), (3, .int 0), (0, .ref x0), (1, .int 3), (2, .int w)]) hx hb dX7_haste_85 hl (by decide) rfl (fun ls hl => ?_)
                            refine lv_iload hx hb dX7_haste_87 (lv_at hl 0 rfl) ?_
                            refine lv_iload hx hb dX7_haste_89 (lv_at hl 2 rfl) ?_
                            refine lv_icmp_le (tgt := 101) hx hb dX7_haste_91 (by decide) (fun c_303 => ?_) (fun c_303 => ?_)
                            · refine lv_iinc (v := 5) (lv' := [(5, .int 5), (6, .int 1728), (4, .int 1728), (3, .int 0), (0, .ref x0), (1, .int 3), (2, .int w)]) hx hb dX7_haste_101 hl (k := 1) rfl (by decide) (by decide) rfl (fun ls hl => ?_)
                              refine lv_goto (tgt := 71) hx hb dX7_haste_104 (by decide) ?_
                              refine lv_iload hx hb dX7_haste_71 (lv_at hl 0 rfl) ?_
                              refine lv_bipush (v := 9) hx hb dX7_haste_73 (by decide) ?_
                              refine lv_icmp_gt (tgt := 107) hx hb dX7_haste_75 (by decide) (fun c_304 => ?_) (fun c_304 => ?_)
                              · exact absurd c_304 (by decide)
                              · refine lv_aload_n hx hb dX7_haste_78 rfl (lv_at hl 4 rfl) ?_
                                refine lv_iload hx hb dX7_haste_79 (lv_at hl 0 rfl) ?_
                                refine lv_iload_n hx hb dX7_haste_81 rfl (lv_at hl 5 rfl) ?_
                                skip
                                refine zw_V (As := [.int 5, .int 3]) (rest := []) (wr := [(xr, .inl (cI, 8, .inl (fun _ => 0)))]) ⟨hx, hb, hml, hown, hts⟩ (c_casesBy_3 l D cI cJ cZ cP cS x0 xs j0 k0 w0 rd mv xr jp jc z0 0 0 wk wl wc wp q_300 q_301 q_302 (0) (4) (0) (5)  H.size) (cwV 2 hts gX7_haste_X7_casesBy rfl rfl rfl (by decide +kernel) ⟨Nat.le_of_ble_eq_true rfl, Nat.le_of_ble_eq_true rfl⟩) hK hN (hZ.kept hS) hP hD hS hA [1, 2, 3, 4, 5, 6, 7] [0] rfl rfl (by decide) (by decide) (by decide) (va_recv hK hP (ci := 7) (q0 := 1) rfl rfl) rfl hl.1 rfl (Nat.le_of_ble_eq_true rfl) dX7_haste_82 ⟨Nat.le_of_ble_eq_true rfl, Nat.le_of_ble_eq_true rfl⟩ (fun r_305 u_306 H locs hr_305 hP hD hS => ?_)
                                obtain ⟨q_307, q_308, q_309⟩ := u_306
                                replace hP : va_P D vwCl [(xr, .inl (cI, 8, .inl (fun _ => 0))), (x0, .inr (7, [.ref xs, .ref j0, .ref k0, .ref w0, .ref rd, .ref mv, .ref xr, .int 0, .int (-1)])), (w0, .inr (5, [.ref wk, .ref wl, .ref wc, .ref wp, .int 0, .int 5, .int 0])), (wk, .inl (cI, 125, .inl q_307)), (wl, .inl (cI, 125, .inl q_308)), (wc, .inl (cI, 3, .inl q_309)), (j0, .inr (0, [.ref z0, .ref jp, .ref jc, .int 0, .int 0, .int 0, .int 60, .int 0, .int 1])), (jc, .inl (cI, 3, .inl (zL3 5 10 50)))] H := hP
                                replace hD : va_D _ [(xr, .inl (cI, 8, .inl (fun _ => 0))), (x0, .inr (7, [.ref xs, .ref j0, .ref k0, .ref w0, .ref rd, .ref mv, .ref xr, .int 0, .int (-1)])), (w0, .inr (5, [.ref wk, .ref wl, .ref wc, .ref wp, .int 0, .int 5, .int 0])), (wk, .inl (cI, 125, .inl q_307)), (wl, .inl (cI, 125, .inl q_308)), (wc, .inl (cI, 3, .inl q_309)), (j0, .inr (0, [.ref z0, .ref jp, .ref jc, .int 0, .int 0, .int 0, .int 60, .int 0, .int 1])), (jc, .inl (cI, 3, .inl (zL3 5 10 50)))] := hD
                                obtain rfl := hr_305
                                refine lv_istore (lv' := [(6, .int 1728), (5, .int 5), (4, .int 1728), (3, .int 0), (0, .ref x0), (1, .int 3), (2, .int w)]) hx hb dX7_haste_85 hl (by decide) rfl (fun ls hl => ?_)
                                refine lv_iload hx hb dX7_haste_87 (lv_at hl 0 rfl) ?_
                                refine lv_iload hx hb dX7_haste_89 (lv_at hl 2 rfl) ?_
                                refine lv_icmp_le (tgt := 101) hx hb dX7_haste_91 (by decide) (fun c_310 => ?_) (fun c_310 => ?_)
                                · refine lv_iinc (v := 6) (lv' := [(5, .int 6), (6, .int 1728), (4, .int 1728), (3, .int 0), (0, .ref x0), (1, .int 3), (2, .int w)]) hx hb dX7_haste_101 hl (k := 1) rfl (by decide) (by decide) rfl (fun ls hl => ?_)
                                  refine lv_goto (tgt := 71) hx hb dX7_haste_104 (by decide) ?_
                                  refine lv_iload hx hb dX7_haste_71 (lv_at hl 0 rfl) ?_
                                  refine lv_bipush (v := 9) hx hb dX7_haste_73 (by decide) ?_
                                  refine lv_icmp_gt (tgt := 107) hx hb dX7_haste_75 (by decide) (fun c_311 => ?_) (fun c_311 => ?_)
                                  · exact absurd c_311 (by decide)
                                  · refine lv_aload_n hx hb dX7_haste_78 rfl (lv_at hl 4 rfl) ?_
                                    refine lv_iload hx hb dX7_haste_79 (lv_at hl 0 rfl) ?_
                                    refine lv_iload_n hx hb dX7_haste_81 rfl (lv_at hl 5 rfl) ?_
                                    skip
                                    refine zw_V (As := [.int 6, .int 3]) (rest := []) (wr := [(xr, .inl (cI, 8, .inl (fun _ => 0)))]) ⟨hx, hb, hml, hown, hts⟩ (c_casesBy_3 l D cI cJ cZ cP cS x0 xs j0 k0 w0 rd mv xr jp jc z0 0 0 wk wl wc wp q_307 q_308 q_309 (0) (5) (0) (6)  H.size) (cwV 2 hts gX7_haste_X7_casesBy rfl rfl rfl (by decide +kernel) ⟨Nat.le_of_ble_eq_true rfl, Nat.le_of_ble_eq_true rfl⟩) hK hN (hZ.kept hS) hP hD hS hA [1, 2, 3, 4, 5, 6, 7] [0] rfl rfl (by decide) (by decide) (by decide) (va_recv hK hP (ci := 7) (q0 := 1) rfl rfl) rfl hl.1 rfl (Nat.le_of_ble_eq_true rfl) dX7_haste_82 ⟨Nat.le_of_ble_eq_true rfl, Nat.le_of_ble_eq_true rfl⟩ (fun r_312 u_313 H locs hr_312 hP hD hS => ?_)
                                    obtain ⟨q_314, q_315, q_316⟩ := u_313
                                    replace hP : va_P D vwCl [(xr, .inl (cI, 8, .inl (fun _ => 0))), (x0, .inr (7, [.ref xs, .ref j0, .ref k0, .ref w0, .ref rd, .ref mv, .ref xr, .int 0, .int (-1)])), (w0, .inr (5, [.ref wk, .ref wl, .ref wc, .ref wp, .int 0, .int 6, .int 0])), (wk, .inl (cI, 125, .inl q_314)), (wl, .inl (cI, 125, .inl q_315)), (wc, .inl (cI, 3, .inl q_316)), (j0, .inr (0, [.ref z0, .ref jp, .ref jc, .int 0, .int 0, .int 0, .int 60, .int 0, .int 1])), (jc, .inl (cI, 3, .inl (zL3 5 10 50)))] H := hP
                                    replace hD : va_D _ [(xr, .inl (cI, 8, .inl (fun _ => 0))), (x0, .inr (7, [.ref xs, .ref j0, .ref k0, .ref w0, .ref rd, .ref mv, .ref xr, .int 0, .int (-1)])), (w0, .inr (5, [.ref wk, .ref wl, .ref wc, .ref wp, .int 0, .int 6, .int 0])), (wk, .inl (cI, 125, .inl q_314)), (wl, .inl (cI, 125, .inl q_315)), (wc, .inl (cI, 3, .inl q_316)), (j0, .inr (0, [.ref z0, .ref jp, .ref jc, .int 0, .int 0, .int 0, .int 60, .int 0, .int 1])), (jc, .inl (cI, 3, .inl (zL3 5 10 50)))] := hD
                                    obtain rfl := hr_312
                                    refine lv_istore (lv' := [(6, .int 1728), (5, .int 6), (4, .int 1728), (3, .int 0), (0, .ref x0), (1, .int 3), (2, .int w)]) hx hb dX7_haste_85 hl (by decide) rfl (fun ls hl => ?_)
                                    refine lv_iload hx hb dX7_haste_87 (lv_at hl 0 rfl) ?_
                                    refine lv_iload hx hb dX7_haste_89 (lv_at hl 2 rfl) ?_
                                    refine lv_icmp_le (tgt := 101) hx hb dX7_haste_91 (by decide) (fun c_317 => ?_) (fun c_317 => ?_)
                                    · refine lv_iinc (v := 7) (lv' := [(5, .int 7), (6, .int 1728), (4, .int 1728), (3, .int 0), (0, .ref x0), (1, .int 3), (2, .int w)]) hx hb dX7_haste_101 hl (k := 1) rfl (by decide) (by decide) rfl (fun ls hl => ?_)
                                      refine lv_goto (tgt := 71) hx hb dX7_haste_104 (by decide) ?_
                                      refine lv_iload hx hb dX7_haste_71 (lv_at hl 0 rfl) ?_
                                      refine lv_bipush (v := 9) hx hb dX7_haste_73 (by decide) ?_
                                      refine lv_icmp_gt (tgt := 107) hx hb dX7_haste_75 (by decide) (fun c_318 => ?_) (fun c_318 => ?_)
                                      · exact absurd c_318 (by decide)
                                      · refine lv_aload_n hx hb dX7_haste_78 rfl (lv_at hl 4 rfl) ?_
                                        refine lv_iload hx hb dX7_haste_79 (lv_at hl 0 rfl) ?_
                                        refine lv_iload_n hx hb dX7_haste_81 rfl (lv_at hl 5 rfl) ?_
                                        skip
                                        refine zw_V (As := [.int 7, .int 3]) (rest := []) (wr := [(xr, .inl (cI, 8, .inl (fun _ => 0)))]) ⟨hx, hb, hml, hown, hts⟩ (c_casesBy_3 l D cI cJ cZ cP cS x0 xs j0 k0 w0 rd mv xr jp jc z0 0 0 wk wl wc wp q_314 q_315 q_316 (0) (6) (0) (7)  H.size) (cwV 2 hts gX7_haste_X7_casesBy rfl rfl rfl (by decide +kernel) ⟨Nat.le_of_ble_eq_true rfl, Nat.le_of_ble_eq_true rfl⟩) hK hN (hZ.kept hS) hP hD hS hA [1, 2, 3, 4, 5, 6, 7] [0] rfl rfl (by decide) (by decide) (by decide) (va_recv hK hP (ci := 7) (q0 := 1) rfl rfl) rfl hl.1 rfl (Nat.le_of_ble_eq_true rfl) dX7_haste_82 ⟨Nat.le_of_ble_eq_true rfl, Nat.le_of_ble_eq_true rfl⟩ (fun r_319 u_320 H locs hr_319 hP hD hS => ?_)
                                        obtain ⟨q_321, q_322, q_323⟩ := u_320
                                        replace hP : va_P D vwCl [(xr, .inl (cI, 8, .inl (fun _ => 0))), (x0, .inr (7, [.ref xs, .ref j0, .ref k0, .ref w0, .ref rd, .ref mv, .ref xr, .int 0, .int (-1)])), (w0, .inr (5, [.ref wk, .ref wl, .ref wc, .ref wp, .int 0, .int 7, .int 0])), (wk, .inl (cI, 125, .inl q_321)), (wl, .inl (cI, 125, .inl q_322)), (wc, .inl (cI, 3, .inl q_323)), (j0, .inr (0, [.ref z0, .ref jp, .ref jc, .int 0, .int 0, .int 0, .int 60, .int 0, .int 1])), (jc, .inl (cI, 3, .inl (zL3 5 10 50)))] H := hP
                                        replace hD : va_D _ [(xr, .inl (cI, 8, .inl (fun _ => 0))), (x0, .inr (7, [.ref xs, .ref j0, .ref k0, .ref w0, .ref rd, .ref mv, .ref xr, .int 0, .int (-1)])), (w0, .inr (5, [.ref wk, .ref wl, .ref wc, .ref wp, .int 0, .int 7, .int 0])), (wk, .inl (cI, 125, .inl q_321)), (wl, .inl (cI, 125, .inl q_322)), (wc, .inl (cI, 3, .inl q_323)), (j0, .inr (0, [.ref z0, .ref jp, .ref jc, .int 0, .int 0, .int 0, .int 60, .int 0, .int 1])), (jc, .inl (cI, 3, .inl (zL3 5 10 50)))] := hD
                                        obtain rfl := hr_319
                                        refine lv_istore (lv' := [(6, .int 1728), (5, .int 7), (4, .int 1728), (3, .int 0), (0, .ref x0), (1, .int 3), (2, .int w)]) hx hb dX7_haste_85 hl (by decide) rfl (fun ls hl => ?_)
                                        refine lv_iload hx hb dX7_haste_87 (lv_at hl 0 rfl) ?_
                                        refine lv_iload hx hb dX7_haste_89 (lv_at hl 2 rfl) ?_
                                        refine lv_icmp_le (tgt := 101) hx hb dX7_haste_91 (by decide) (fun c_324 => ?_) (fun c_324 => ?_)
                                        · refine lv_iinc (v := 8) (lv' := [(5, .int 8), (6, .int 1728), (4, .int 1728), (3, .int 0), (0, .ref x0), (1, .int 3), (2, .int w)]) hx hb dX7_haste_101 hl (k := 1) rfl (by decide) (by decide) rfl (fun ls hl => ?_)
                                          refine lv_goto (tgt := 71) hx hb dX7_haste_104 (by decide) ?_
                                          refine lv_iload hx hb dX7_haste_71 (lv_at hl 0 rfl) ?_
                                          refine lv_bipush (v := 9) hx hb dX7_haste_73 (by decide) ?_
                                          refine lv_icmp_gt (tgt := 107) hx hb dX7_haste_75 (by decide) (fun c_325 => ?_) (fun c_325 => ?_)
                                          · exact absurd c_325 (by decide)
                                          · refine lv_aload_n hx hb dX7_haste_78 rfl (lv_at hl 4 rfl) ?_
                                            refine lv_iload hx hb dX7_haste_79 (lv_at hl 0 rfl) ?_
                                            refine lv_iload_n hx hb dX7_haste_81 rfl (lv_at hl 5 rfl) ?_
                                            skip
                                            refine zw_V (As := [.int 8, .int 3]) (rest := []) (wr := [(xr, .inl (cI, 8, .inl (fun _ => 0)))]) ⟨hx, hb, hml, hown, hts⟩ (c_casesBy_3 l D cI cJ cZ cP cS x0 xs j0 k0 w0 rd mv xr jp jc z0 0 0 wk wl wc wp q_321 q_322 q_323 (0) (7) (0) (8)  H.size) (cwV 2 hts gX7_haste_X7_casesBy rfl rfl rfl (by decide +kernel) ⟨Nat.le_of_ble_eq_true rfl, Nat.le_of_ble_eq_true rfl⟩) hK hN (hZ.kept hS) hP hD hS hA [1, 2, 3, 4, 5, 6, 7] [0] rfl rfl (by decide) (by decide) (by decide) (va_recv hK hP (ci := 7) (q0 := 1) rfl rfl) rfl hl.1 rfl (Nat.le_of_ble_eq_true rfl) dX7_haste_82 ⟨Nat.le_of_ble_eq_true rfl, Nat.le_of_ble_eq_true rfl⟩ (fun r_326 u_327 H locs hr_326 hP hD hS => ?_)
                                            obtain ⟨q_328, q_329, q_330⟩ := u_327
                                            replace hP : va_P D vwCl [(xr, .inl (cI, 8, .inl (fun _ => 0))), (x0, .inr (7, [.ref xs, .ref j0, .ref k0, .ref w0, .ref rd, .ref mv, .ref xr, .int 0, .int (-1)])), (w0, .inr (5, [.ref wk, .ref wl, .ref wc, .ref wp, .int 0, .int 8, .int 0])), (wk, .inl (cI, 125, .inl q_328)), (wl, .inl (cI, 125, .inl q_329)), (wc, .inl (cI, 3, .inl q_330)), (j0, .inr (0, [.ref z0, .ref jp, .ref jc, .int 0, .int 0, .int 0, .int 60, .int 0, .int 1])), (jc, .inl (cI, 3, .inl (zL3 5 10 50)))] H := hP
                                            replace hD : va_D _ [(xr, .inl (cI, 8, .inl (fun _ => 0))), (x0, .inr (7, [.ref xs, .ref j0, .ref k0, .ref w0, .ref rd, .ref mv, .ref xr, .int 0, .int (-1)])), (w0, .inr (5, [.ref wk, .ref wl, .ref wc, .ref wp, .int 0, .int 8, .int 0])), (wk, .inl (cI, 125, .inl q_328)), (wl, .inl (cI, 125, .inl q_329)), (wc, .inl (cI, 3, .inl q_330)), (j0, .inr (0, [.ref z0, .ref jp, .ref jc, .int 0, .int 0, .int 0, .int 60, .int 0, .int 1])), (jc, .inl (cI, 3, .inl (zL3 5 10 50)))] := hD
                                            obtain rfl := hr_326
                                            refine lv_istore (lv' := [(6, .int 1728), (5, .int 8), (4, .int 1728), (3, .int 0), (0, .ref x0), (1, .int 3), (2, .int w)]) hx hb dX7_haste_85 hl (by decide) rfl (fun ls hl => ?_)
                                            refine lv_iload hx hb dX7_haste_87 (lv_at hl 0 rfl) ?_
                                            refine lv_iload hx hb dX7_haste_89 (lv_at hl 2 rfl) ?_
                                            refine lv_icmp_le (tgt := 101) hx hb dX7_haste_91 (by decide) (fun c_331 => ?_) (fun c_331 => ?_)
                                            · refine lv_iinc (v := 9) (lv' := [(5, .int 9), (6, .int 1728), (4, .int 1728), (3, .int 0), (0, .ref x0), (1, .int 3), (2, .int w)]) hx hb dX7_haste_101 hl (k := 1) rfl (by decide) (by decide) rfl (fun ls hl => ?_)
                                              refine lv_goto (tgt := 71) hx hb dX7_haste_104 (by decide) ?_
                                              refine lv_iload hx hb dX7_haste_71 (lv_at hl 0 rfl) ?_
                                              refine lv_bipush (v := 9) hx hb dX7_haste_73 (by decide) ?_
                                              refine lv_icmp_gt (tgt := 107) hx hb dX7_haste_75 (by decide) (fun c_332 => ?_) (fun c_332 => ?_)
                                              · exact absurd c_332 (by decide)
                                              · refine lv_aload_n hx hb dX7_haste_78 rfl (lv_at hl 4 rfl) ?_
                                                refine lv_iload hx hb dX7_haste_79 (lv_at hl 0 rfl) ?_
                                                refine lv_iload_n hx hb dX7_haste_81 rfl (lv_at hl 5 rfl) ?_
                                                skip
                                                refine zw_V (As := [.int 9, .int 3]) (rest := []) (wr := [(xr, .inl (cI, 8, .inl (fun _ => 0)))]) ⟨hx, hb, hml, hown, hts⟩ (c_casesBy_3 l D cI cJ cZ cP cS x0 xs j0 k0 w0 rd mv xr jp jc z0 0 0 wk wl wc wp q_328 q_329 q_330 (0) (8) (0) (9)  H.size) (cwV 2 hts gX7_haste_X7_casesBy rfl rfl rfl (by decide +kernel) ⟨Nat.le_of_ble_eq_true rfl, Nat.le_of_ble_eq_true rfl⟩) hK hN (hZ.kept hS) hP hD hS hA [1, 2, 3, 4, 5, 6, 7] [0] rfl rfl (by decide) (by decide) (by decide) (va_recv hK hP (ci := 7) (q0 := 1) rfl rfl) rfl hl.1 rfl (Nat.le_of_ble_eq_true rfl) dX7_haste_82 ⟨Nat.le_of_ble_eq_true rfl, Nat.le_of_ble_eq_true rfl⟩ (fun r_333 u_334 H locs hr_333 hP hD hS => ?_)
                                                obtain ⟨q_335, q_336, q_337⟩ := u_334
                                                replace hP : va_P D vwCl [(xr, .inl (cI, 8, .inl (fun _ => 0))), (x0, .inr (7, [.ref xs, .ref j0, .ref k0, .ref w0, .ref rd, .ref mv, .ref xr, .int 0, .int (-1)])), (w0, .inr (5, [.ref wk, .ref wl, .ref wc, .ref wp, .int 0, .int 9, .int 0])), (wk, .inl (cI, 125, .inl q_335)), (wl, .inl (cI, 125, .inl q_336)), (wc, .inl (cI, 3, .inl q_337)), (j0, .inr (0, [.ref z0, .ref jp, .ref jc, .int 0, .int 0, .int 0, .int 60, .int 0, .int 1])), (jc, .inl (cI, 3, .inl (zL3 5 10 50)))] H := hP
                                                replace hD : va_D _ [(xr, .inl (cI, 8, .inl (fun _ => 0))), (x0, .inr (7, [.ref xs, .ref j0, .ref k0, .ref w0, .ref rd, .ref mv, .ref xr, .int 0, .int (-1)])), (w0, .inr (5, [.ref wk, .ref wl, .ref wc, .ref wp, .int 0, .int 9, .int 0])), (wk, .inl (cI, 125, .inl q_335)), (wl, .inl (cI, 125, .inl q_336)), (wc, .inl (cI, 3, .inl q_337)), (j0, .inr (0, [.ref z0, .ref jp, .ref jc, .int 0, .int 0, .int 0, .int 60, .int 0, .int 1])), (jc, .inl (cI, 3, .inl (zL3 5 10 50)))] := hD
                                                obtain rfl := hr_333
                                                refine lv_istore (lv' := [(6, .int 1728), (5, .int 9), (4, .int 1728), (3, .int 0), (0, .ref x0), (1, .int 3), (2, .int w)]) hx hb dX7_haste_85 hl (by decide) rfl (fun ls hl => ?_)
                                                refine lv_iload hx hb dX7_haste_87 (lv_at hl 0 rfl) ?_
                                                refine lv_iload hx hb dX7_haste_89 (lv_at hl 2 rfl) ?_
                                                refine lv_icmp_le (tgt := 101) hx hb dX7_haste_91 (by decide) (fun c_338 => ?_) (fun c_338 => ?_)
                                                · refine lv_iinc (v := 10) (lv' := [(5, .int 10), (6, .int 1728), (4, .int 1728), (3, .int 0), (0, .ref x0), (1, .int 3), (2, .int w)]) hx hb dX7_haste_101 hl (k := 1) rfl (by decide) (by decide) rfl (fun ls hl => ?_)
                                                  refine lv_goto (tgt := 71) hx hb dX7_haste_104 (by decide) ?_
                                                  refine lv_iload hx hb dX7_haste_71 (lv_at hl 0 rfl) ?_
                                                  refine lv_bipush (v := 9) hx hb dX7_haste_73 (by decide) ?_
                                                  refine lv_icmp_gt (tgt := 107) hx hb dX7_haste_75 (by decide) (fun c_339 => ?_) (fun c_339 => ?_)
                                                  · refine lv_iload_n hx hb dX7_haste_107 rfl (lv_at hl 3 rfl) ?_
                                                    exact W.iret (v := 0) hx hb hr (fun t ht hW => ⟨⟨0, (), rfl, Or.inr (Or.inr (Or.inr (Or.inr (Or.inr (Or.inr (Or.inr (Or.inr (Or.inr (Or.inr (Or.inl (⟨rfl, (by first | omega | decide), (by first | omega | decide), (by first | omega | decide), (by first | omega | decide), (by first | omega | decide), (by first | omega | decide)⟩))))))))))), zP_nil, zD_nil⟩, hS.F ht⟩) hS.2.2 dX7_haste_108
                                                  · exact absurd c_339 (by decide)
                                                · exact absurd c_338 (by decide)
                                            · exact absurd c_331 (by decide)
                                        · exact absurd c_324 (by decide)
                                    · exact absurd c_317 (by decide)
                                · exact absurd c_310 (by decide)
                            · exact absurd c_303 (by decide)
                        · exact absurd c_296 (by decide)
                    · exact absurd c_289 (by decide)
                · exact absurd c_282 (by decide)
            · have fc_270 : w.toInt = 1 := zf_eq c_270 rfl (by decide)
              refine lv_aload_n hx hb dX7_haste_36 rfl (lv_at hl 0 rfl) ?_
              refine lv_bipush (v := 9) hx hb dX7_haste_37 (by decide) ?_
              refine lv_iload_n hx hb dX7_haste_39 rfl (lv_at hl 1 rfl) ?_
              skip
              refine zw_V (As := [.int 9, .int 3]) (rest := []) (wr := [(xr, .inl (cI, 8, .inl (fun _ => 0)))]) ⟨hx, hb, hml, hown, hts⟩ (c_casesBy_3 l D cI cJ cZ cP cS x0 xs j0 k0 w0 rd mv xr jp jc z0 0 0 wk wl wc wp fk fl fc (0) (0) (0) (9)  H.size) (cwV 2 hts gX7_haste_X7_casesBy rfl rfl rfl (by decide +kernel) ⟨Nat.le_of_ble_eq_true rfl, Nat.le_of_ble_eq_true rfl⟩) hK hN (hZ.kept hS) hP hD hS hA [0, 2, 3, 4, 5, 6, 7] [1] rfl rfl (by decide) (by decide) (by decide) (va_recv hK hP (ci := 7) (q0 := 0) rfl rfl) rfl hl.1 rfl (Nat.le_of_ble_eq_true rfl) dX7_haste_40 ⟨Nat.le_of_ble_eq_true rfl, Nat.le_of_ble_eq_true rfl⟩ (fun r_340 u_341 H locs hr_340 hP hD hS => ?_)
              obtain ⟨q_342, q_343, q_344⟩ := u_341
              replace hP : va_P D vwCl [(xr, .inl (cI, 8, .inl (fun _ => 0))), (x0, .inr (7, [.ref xs, .ref j0, .ref k0, .ref w0, .ref rd, .ref mv, .ref xr, .int 0, .int (-1)])), (w0, .inr (5, [.ref wk, .ref wl, .ref wc, .ref wp, .int 0, .int 9, .int 0])), (wk, .inl (cI, 125, .inl q_342)), (wl, .inl (cI, 125, .inl q_343)), (wc, .inl (cI, 3, .inl q_344)), (j0, .inr (0, [.ref z0, .ref jp, .ref jc, .int 0, .int 0, .int 0, .int 60, .int 0, .int 1])), (jc, .inl (cI, 3, .inl (zL3 5 10 50)))] H := hP
              replace hD : va_D _ [(xr, .inl (cI, 8, .inl (fun _ => 0))), (x0, .inr (7, [.ref xs, .ref j0, .ref k0, .ref w0, .ref rd, .ref mv, .ref xr, .int 0, .int (-1)])), (w0, .inr (5, [.ref wk, .ref wl, .ref wc, .ref wp, .int 0, .int 9, .int 0])), (wk, .inl (cI, 125, .inl q_342)), (wl, .inl (cI, 125, .inl q_343)), (wc, .inl (cI, 3, .inl q_344)), (j0, .inr (0, [.ref z0, .ref jp, .ref jc, .int 0, .int 0, .int 0, .int 60, .int 0, .int 1])), (jc, .inl (cI, 3, .inl (zL3 5 10 50)))] := hD
              obtain rfl := hr_340
              refine lv_aload_n hx hb dX7_haste_43 rfl (lv_at hl 0 rfl) ?_
              refine lv_iconst (v := 0) hx hb dX7_haste_44 (by decide) ?_
              refine lv_iload_n hx hb dX7_haste_45 rfl (lv_at hl 1 rfl) ?_
              skip
              refine zw_V (As := [.int 0, .int 3]) (rest := [.int 1728]) (wr := [(xr, .inl (cI, 8, .inl (fun _ => 0)))]) ⟨hx, hb, hml, hown, hts⟩ (c_casesBy_3 l D cI cJ cZ cP cS x0 xs j0 k0 w0 rd mv xr jp jc z0 0 0 wk wl wc wp q_342 q_343 q_344 (0) (9) (0) (0)  H.size) (cwV 2 hts gX7_haste_X7_casesBy rfl rfl rfl (by decide +kernel) ⟨Nat.le_of_ble_eq_true rfl, Nat.le_of_ble_eq_true rfl⟩) hK hN (hZ.kept hS) hP hD hS hA [1, 2, 3, 4, 5, 6, 7] [0] rfl rfl (by decide) (by decide) (by decide) (va_recv hK hP (ci := 7) (q0 := 1) rfl rfl) rfl hl.1 rfl (Nat.le_of_ble_eq_true rfl) dX7_haste_46 ⟨Nat.le_of_ble_eq_true rfl, Nat.le_of_ble_eq_true rfl⟩ (fun r_345 u_346 H locs hr_345 hP hD hS => ?_)
              obtain ⟨q_347, q_348, q_349⟩ := u_346
              replace hP : va_P D vwCl [(xr, .inl (cI, 8, .inl (fun _ => 0))), (x0, .inr (7, [.ref xs, .ref j0, .ref k0, .ref w0, .ref rd, .ref mv, .ref xr, .int 0, .int (-1)])), (w0, .inr (5, [.ref wk, .ref wl, .ref wc, .ref wp, .int 0, .int 0, .int 0])), (wk, .inl (cI, 125, .inl q_347)), (wl, .inl (cI, 125, .inl q_348)), (wc, .inl (cI, 3, .inl q_349)), (j0, .inr (0, [.ref z0, .ref jp, .ref jc, .int 0, .int 0, .int 0, .int 60, .int 0, .int 1])), (jc, .inl (cI, 3, .inl (zL3 5 10 50)))] H := hP
              replace hD : va_D _ [(xr, .inl (cI, 8, .inl (fun _ => 0))), (x0, .inr (7, [.ref xs, .ref j0, .ref k0, .ref w0, .ref rd, .ref mv, .ref xr, .int 0, .int (-1)])), (w0, .inr (5, [.ref wk, .ref wl, .ref wc, .ref wp, .int 0, .int 0, .int 0])), (wk, .inl (cI, 125, .inl q_347)), (wl, .inl (cI, 125, .inl q_348)), (wc, .inl (cI, 3, .inl q_349)), (j0, .inr (0, [.ref z0, .ref jp, .ref jc, .int 0, .int 0, .int 0, .int 60, .int 0, .int 1])), (jc, .inl (cI, 3, .inl (zL3 5 10 50)))] := hD
              obtain rfl := hr_345
              refine lv_icmp_ge (tgt := 56) hx hb dX7_haste_49 (by decide) (fun c_350 => ?_) (fun c_350 => ?_)
              · refine lv_iconst (v := 0) hx hb dX7_haste_56 (by decide) ?_
                exact W.iret (v := 0) hx hb hr (fun t ht hW => ⟨⟨0, (), rfl, Or.inr (Or.inr (Or.inr (Or.inr (Or.inr (Or.inr (Or.inr (Or.inr (Or.inr (Or.inr (Or.inr (Or.inl (⟨rfl, (by first | omega | decide), (by first | omega | decide), (by first | omega | decide), (by first | omega | decide), (by first | omega | decide), (by first | omega | decide)⟩)))))))))))), zP_nil, zD_nil⟩, hS.F ht⟩) hS.2.2 dX7_haste_57
              · exact absurd c_350 (by decide)
          · refine lv_iload_n hx hb dX7_haste_31 rfl (lv_at hl 2 rfl) ?_
            refine lv_iconst (v := 1) hx hb dX7_haste_32 (by decide) ?_
            refine lv_icmp_ne (tgt := 58) hx hb dX7_haste_33 (by decide) (fun c_351 => ?_) (fun c_351 => ?_)
            · have fc_351 : w.toInt ≠ 1 := zf_ne c_351 rfl (by decide)
              refine lv_iconst (v := 0) hx hb dX7_haste_58 (by decide) ?_
              refine lv_istore_n (lv' := [(3, .int 0), (0, .ref x0), (1, .int 4), (2, .int w)]) hx hb dX7_haste_59 rfl hl (by decide) rfl (fun ls hl => ?_)
              refine lv_aload_n hx hb dX7_haste_60 rfl (lv_at hl 1 rfl) ?_
              refine lv_iconst (v := 0) hx hb dX7_haste_61 (by decide) ?_
              refine lv_iload_n hx hb dX7_haste_62 rfl (lv_at hl 2 rfl) ?_
              skip
              refine zw_V (As := [.int 0, .int 4]) (rest := []) (wr := [(xr, .inl (cI, 8, .inl (fun _ => 0)))]) ⟨hx, hb, hml, hown, hts⟩ (c_casesBy_4 l D cI cJ cZ cP cS x0 xs j0 k0 w0 rd mv xr jp jc z0 0 0 wk wl wc wp fk fl fc (0) (0) (0) (0)  H.size) (cwV 2 hts gX7_haste_X7_casesBy rfl rfl rfl (by decide +kernel) ⟨Nat.le_of_ble_eq_true rfl, Nat.le_of_ble_eq_true rfl⟩) hK hN (hZ.kept hS) hP hD hS hA [0, 2, 3, 4, 5, 6, 7] [1] rfl rfl (by decide) (by decide) (by decide) (va_recv hK hP (ci := 7) (q0 := 0) rfl rfl) rfl hl.1 rfl (Nat.le_of_ble_eq_true rfl) dX7_haste_63 ⟨Nat.le_of_ble_eq_true rfl, Nat.le_of_ble_eq_true rfl⟩ (fun r_352 u_353 H locs hr_352 hP hD hS => ?_)
              obtain ⟨q_354, q_355, q_356⟩ := u_353
              replace hP : va_P D vwCl [(xr, .inl (cI, 8, .inl (fun _ => 0))), (x0, .inr (7, [.ref xs, .ref j0, .ref k0, .ref w0, .ref rd, .ref mv, .ref xr, .int 0, .int (-1)])), (w0, .inr (5, [.ref wk, .ref wl, .ref wc, .ref wp, .int 0, .int 0, .int 0])), (wk, .inl (cI, 125, .inl q_354)), (wl, .inl (cI, 125, .inl q_355)), (wc, .inl (cI, 3, .inl q_356)), (j0, .inr (0, [.ref z0, .ref jp, .ref jc, .int 0, .int 0, .int 0, .int 60, .int 0, .int 1])), (jc, .inl (cI, 3, .inl (zL3 5 10 50)))] H := hP
              replace hD : va_D _ [(xr, .inl (cI, 8, .inl (fun _ => 0))), (x0, .inr (7, [.ref xs, .ref j0, .ref k0, .ref w0, .ref rd, .ref mv, .ref xr, .int 0, .int (-1)])), (w0, .inr (5, [.ref wk, .ref wl, .ref wc, .ref wp, .int 0, .int 0, .int 0])), (wk, .inl (cI, 125, .inl q_354)), (wl, .inl (cI, 125, .inl q_355)), (wc, .inl (cI, 3, .inl q_356)), (j0, .inr (0, [.ref z0, .ref jp, .ref jc, .int 0, .int 0, .int 0, .int 60, .int 0, .int 1])), (jc, .inl (cI, 3, .inl (zL3 5 10 50)))] := hD
              obtain rfl := hr_352
              refine lv_istore (lv' := [(4, .int 20736), (3, .int 0), (0, .ref x0), (1, .int 4), (2, .int w)]) hx hb dX7_haste_66 hl (by decide) rfl (fun ls hl => ?_)
              refine lv_iconst (v := 1) hx hb dX7_haste_68 (by decide) ?_
              refine lv_istore (lv' := [(5, .int 1), (4, .int 20736), (3, .int 0), (0, .ref x0), (1, .int 4), (2, .int w)]) hx hb dX7_haste_69 hl (by decide) rfl (fun ls hl => ?_)
              refine lv_iload hx hb dX7_haste_71 (lv_at hl 0 rfl) ?_
              refine lv_bipush (v := 9) hx hb dX7_haste_73 (by decide) ?_
              refine lv_icmp_gt (tgt := 107) hx hb dX7_haste_75 (by decide) (fun c_357 => ?_) (fun c_357 => ?_)
              · exact absurd c_357 (by decide)
              · refine lv_aload_n hx hb dX7_haste_78 rfl (lv_at hl 3 rfl) ?_
                refine lv_iload hx hb dX7_haste_79 (lv_at hl 0 rfl) ?_
                refine lv_iload_n hx hb dX7_haste_81 rfl (lv_at hl 4 rfl) ?_
                skip
                refine zw_V (As := [.int 1, .int 4]) (rest := []) (wr := [(xr, .inl (cI, 8, .inl (fun _ => 0)))]) ⟨hx, hb, hml, hown, hts⟩ (c_casesBy_4 l D cI cJ cZ cP cS x0 xs j0 k0 w0 rd mv xr jp jc z0 0 0 wk wl wc wp q_354 q_355 q_356 (0) (0) (0) (1)  H.size) (cwV 2 hts gX7_haste_X7_casesBy rfl rfl rfl (by decide +kernel) ⟨Nat.le_of_ble_eq_true rfl, Nat.le_of_ble_eq_true rfl⟩) hK hN (hZ.kept hS) hP hD hS hA [1, 2, 3, 4, 5, 6, 7] [0] rfl rfl (by decide) (by decide) (by decide) (va_recv hK hP (ci := 7) (q0 := 1) rfl rfl) rfl hl.1 rfl (Nat.le_of_ble_eq_true rfl) dX7_haste_82 ⟨Nat.le_of_ble_eq_true rfl, Nat.le_of_ble_eq_true rfl⟩ (fun r_358 u_359 H locs hr_358 hP hD hS => ?_)
                obtain ⟨q_360, q_361, q_362⟩ := u_359
                replace hP : va_P D vwCl [(xr, .inl (cI, 8, .inl (fun _ => 0))), (x0, .inr (7, [.ref xs, .ref j0, .ref k0, .ref w0, .ref rd, .ref mv, .ref xr, .int 0, .int (-1)])), (w0, .inr (5, [.ref wk, .ref wl, .ref wc, .ref wp, .int 0, .int 1, .int 0])), (wk, .inl (cI, 125, .inl q_360)), (wl, .inl (cI, 125, .inl q_361)), (wc, .inl (cI, 3, .inl q_362)), (j0, .inr (0, [.ref z0, .ref jp, .ref jc, .int 0, .int 0, .int 0, .int 60, .int 0, .int 1])), (jc, .inl (cI, 3, .inl (zL3 5 10 50)))] H := hP
                replace hD : va_D _ [(xr, .inl (cI, 8, .inl (fun _ => 0))), (x0, .inr (7, [.ref xs, .ref j0, .ref k0, .ref w0, .ref rd, .ref mv, .ref xr, .int 0, .int (-1)])), (w0, .inr (5, [.ref wk, .ref wl, .ref wc, .ref wp, .int 0, .int 1, .int 0])), (wk, .inl (cI, 125, .inl q_360)), (wl, .inl (cI, 125, .inl q_361)), (wc, .inl (cI, 3, .inl q_362)), (j0, .inr (0, [.ref z0, .ref jp, .ref jc, .int 0, .int 0, .int 0, .int 60, .int 0, .int 1])), (jc, .inl (cI, 3, .inl (zL3 5 10 50)))] := hD
                obtain rfl := hr_358
                refine lv_istore (lv' := [(6, .int 20736), (5, .int 1), (4, .int 20736), (3, .int 0), (0, .ref x0), (1, .int 4), (2, .int w)]) hx hb dX7_haste_85 hl (by decide) rfl (fun ls hl => ?_)
                refine lv_iload hx hb dX7_haste_87 (lv_at hl 0 rfl) ?_
                refine lv_iload hx hb dX7_haste_89 (lv_at hl 2 rfl) ?_
                refine lv_icmp_le (tgt := 101) hx hb dX7_haste_91 (by decide) (fun c_363 => ?_) (fun c_363 => ?_)
                · refine lv_iinc (v := 2) (lv' := [(5, .int 2), (6, .int 20736), (4, .int 20736), (3, .int 0), (0, .ref x0), (1, .int 4), (2, .int w)]) hx hb dX7_haste_101 hl (k := 1) rfl (by decide) (by decide) rfl (fun ls hl => ?_)
                  refine lv_goto (tgt := 71) hx hb dX7_haste_104 (by decide) ?_
                  refine lv_iload hx hb dX7_haste_71 (lv_at hl 0 rfl) ?_
                  refine lv_bipush (v := 9) hx hb dX7_haste_73 (by decide) ?_
                  refine lv_icmp_gt (tgt := 107) hx hb dX7_haste_75 (by decide) (fun c_364 => ?_) (fun c_364 => ?_)
                  · exact absurd c_364 (by decide)
                  · refine lv_aload_n hx hb dX7_haste_78 rfl (lv_at hl 4 rfl) ?_
                    refine lv_iload hx hb dX7_haste_79 (lv_at hl 0 rfl) ?_
                    refine lv_iload_n hx hb dX7_haste_81 rfl (lv_at hl 5 rfl) ?_
                    skip
                    refine zw_V (As := [.int 2, .int 4]) (rest := []) (wr := [(xr, .inl (cI, 8, .inl (fun _ => 0)))]) ⟨hx, hb, hml, hown, hts⟩ (c_casesBy_4 l D cI cJ cZ cP cS x0 xs j0 k0 w0 rd mv xr jp jc z0 0 0 wk wl wc wp q_360 q_361 q_362 (0) (1) (0) (2)  H.size) (cwV 2 hts gX7_haste_X7_casesBy rfl rfl rfl (by decide +kernel) ⟨Nat.le_of_ble_eq_true rfl, Nat.le_of_ble_eq_true rfl⟩) hK hN (hZ.kept hS) hP hD hS hA [1, 2, 3, 4, 5, 6, 7] [0] rfl rfl (by decide) (by decide) (by decide) (va_recv hK hP (ci := 7) (q0 := 1) rfl rfl) rfl hl.1 rfl (Nat.le_of_ble_eq_true rfl) dX7_haste_82 ⟨Nat.le_of_ble_eq_true rfl, Nat.le_of_ble_eq_true rfl⟩ (fun r_365 u_366 H locs hr_365 hP hD hS => ?_)
                    obtain ⟨q_367, q_368, q_369⟩ := u_366
                    replace hP : va_P D vwCl [(xr, .inl (cI, 8, .inl (fun _ => 0))), (x0, .inr (7, [.ref xs, .ref j0, .ref k0, .ref w0, .ref rd, .ref mv, .ref xr, .int 0, .int (-1)])), (w0, .inr (5, [.ref wk, .ref wl, .ref wc, .ref wp, .int 0, .int 2, .int 0])), (wk, .inl (cI, 125, .inl q_367)), (wl, .inl (cI, 125, .inl q_368)), (wc, .inl (cI, 3, .inl q_369)), (j0, .inr (0, [.ref z0, .ref jp, .ref jc, .int 0, .int 0, .int 0, .int 60, .int 0, .int 1])), (jc, .inl (cI, 3, .inl (zL3 5 10 50)))] H := hP
                    replace hD : va_D _ [(xr, .inl (cI, 8, .inl (fun _ => 0))), (x0, .inr (7, [.ref xs, .ref j0, .ref k0, .ref w0, .ref rd, .ref mv, .ref xr, .int 0, .int (-1)])), (w0, .inr (5, [.ref wk, .ref wl, .ref wc, .ref wp, .int 0, .int 2, .int 0])), (wk, .inl (cI, 125, .inl q_367)), (wl, .inl (cI, 125, .inl q_368)), (wc, .inl (cI, 3, .inl q_369)), (j0, .inr (0, [.ref z0, .ref jp, .ref jc, .int 0, .int 0, .int 0, .int 60, .int 0, .int 1])), (jc, .inl (cI, 3, .inl (zL3 5 10 50)))] := hD
                    obtain rfl := hr_365
                    refine lv_istore (lv' := [(6, .int 20736), (5, .int 2), (4, .int 20736), (3, .int 0), (0, .ref x0), (1, .int 4), (2, .int w)]) hx hb dX7_haste_85 hl (by decide) rfl (fun ls hl => ?_)
                    refine lv_iload hx hb dX7_haste_87 (lv_at hl 0 rfl) ?_
                    refine lv_iload hx hb dX7_haste_89 (lv_at hl 2 rfl) ?_
                    refine lv_icmp_le (tgt := 101) hx hb dX7_haste_91 (by decide) (fun c_370 => ?_) (fun c_370 => ?_)
                    · refine lv_iinc (v := 3) (lv' := [(5, .int 3), (6, .int 20736), (4, .int 20736), (3, .int 0), (0, .ref x0), (1, .int 4), (2, .int w)]) hx hb dX7_haste_101 hl (k := 1) rfl (by decide) (by decide) rfl (fun ls hl => ?_)
                      refine lv_goto (tgt := 71) hx hb dX7_haste_104 (by decide) ?_
                      refine lv_iload hx hb dX7_haste_71 (lv_at hl 0 rfl) ?_
                      refine lv_bipush (v := 9) hx hb dX7_haste_73 (by decide) ?_
                      refine lv_icmp_gt (tgt := 107) hx hb dX7_haste_75 (by decide) (fun c_371 => ?_) (fun c_371 => ?_)
                      · exact absurd c_371 (by decide)
                      · refine lv_aload_n hx hb dX7_haste_78 rfl (lv_at hl 4 rfl) ?_
                        refine lv_iload hx hb dX7_haste_79 (lv_at hl 0 rfl) ?_
                        refine lv_iload_n hx hb dX7_haste_81 rfl (lv_at hl 5 rfl) ?_
                        skip
                        refine zw_V (As := [.int 3, .int 4]) (rest := []) (wr := [(xr, .inl (cI, 8, .inl (fun _ => 0)))]) ⟨hx, hb, hml, hown, hts⟩ (c_casesBy_4 l D cI cJ cZ cP cS x0 xs j0 k0 w0 rd mv xr jp jc z0 0 0 wk wl wc wp q_367 q_368 q_369 (0) (2) (0) (3)  H.size) (cwV 2 hts gX7_haste_X7_casesBy rfl rfl rfl (by decide +kernel) ⟨Nat.le_of_ble_eq_true rfl, Nat.le_of_ble_eq_true rfl⟩) hK hN (hZ.kept hS) hP hD hS hA [1, 2, 3, 4, 5, 6, 7] [0] rfl rfl (by decide) (by decide) (by decide) (va_recv hK hP (ci := 7) (q0 := 1) rfl rfl) rfl hl.1 rfl (Nat.le_of_ble_eq_true rfl) dX7_haste_82 ⟨Nat.le_of_ble_eq_true rfl, Nat.le_of_ble_eq_true rfl⟩ (fun r_372 u_373 H locs hr_372 hP hD hS => ?_)
                        obtain ⟨q_374, q_375, q_376⟩ := u_373
                        replace hP : va_P D vwCl [(xr, .inl (cI, 8, .inl (fun _ => 0))), (x0, .inr (7, [.ref xs, .ref j0, .ref k0, .ref w0, .ref rd, .ref mv, .ref xr, .int 0, .int (-1)])), (w0, .inr (5, [.ref wk, .ref wl, .ref wc, .ref wp, .int 0, .int 3, .int 0])), (wk, .inl (cI, 125, .inl q_374)), (wl, .inl (cI, 125, .inl q_375)), (wc, .inl (cI, 3, .inl q_376)), (j0, .inr (0, [.ref z0, .ref jp, .ref jc, .int 0, .int 0, .int 0, .int 60, .int 0, .int 1])), (jc, .inl (cI, 3, .inl (zL3 5 10 50)))] H := hP
                        replace hD : va_D _ [(xr, .inl (cI, 8, .inl (fun _ => 0))), (x0, .inr (7, [.ref xs, .ref j0, .ref k0, .ref w0, .ref rd, .ref mv, .ref xr, .int 0, .int (-1)])), (w0, .inr (5, [.ref wk, .ref wl, .ref wc, .ref wp, .int 0, .int 3, .int 0])), (wk, .inl (cI, 125, .inl q_374)), (wl, .inl (cI, 125, .inl q_375)), (wc, .inl (cI, 3, .inl q_376)), (j0, .inr (0, [.ref z0, .ref jp, .ref jc, .int 0, .int 0, .int 0, .int 60, .int 0, .int 1])), (jc, .inl (cI, 3, .inl (zL3 5 10 50)))] := hD
                        obtain rfl := hr_372
                        refine lv_istore (lv' := [(6, .int 20736), (5, .int 3), (4, .int 20736), (3, .int 0), (0, .ref x0), (1, .int 4), (2, .int w)]) hx hb dX7_haste_85 hl (by decide) rfl (fun ls hl => ?_)
                        refine lv_iload hx hb dX7_haste_87 (lv_at hl 0 rfl) ?_
                        refine lv_iload hx hb dX7_haste_89 (lv_at hl 2 rfl) ?_
                        refine lv_icmp_le (tgt := 101) hx hb dX7_haste_91 (by decide) (fun c_377 => ?_) (fun c_377 => ?_)
                        · refine lv_iinc (v := 4) (lv' := [(5, .int 4), (6, .int 20736), (4, .int 20736), (3, .int 0), (0, .ref x0), (1, .int 4), (2, .int w)]) hx hb dX7_haste_101 hl (k := 1) rfl (by decide) (by decide) rfl (fun ls hl => ?_)
                          refine lv_goto (tgt := 71) hx hb dX7_haste_104 (by decide) ?_
                          refine lv_iload hx hb dX7_haste_71 (lv_at hl 0 rfl) ?_
                          refine lv_bipush (v := 9) hx hb dX7_haste_73 (by decide) ?_
                          refine lv_icmp_gt (tgt := 107) hx hb dX7_haste_75 (by decide) (fun c_378 => ?_) (fun c_378 => ?_)
                          · exact absurd c_378 (by decide)
                          · refine lv_aload_n hx hb dX7_haste_78 rfl (lv_at hl 4 rfl) ?_
                            refine lv_iload hx hb dX7_haste_79 (lv_at hl 0 rfl) ?_
                            refine lv_iload_n hx hb dX7_haste_81 rfl (lv_at hl 5 rfl) ?_
                            skip
                            refine zw_V (As := [.int 4, .int 4]) (rest := []) (wr := [(xr, .inl (cI, 8, .inl (fun _ => 0)))]) ⟨hx, hb, hml, hown, hts⟩ (c_casesBy_4 l D cI cJ cZ cP cS x0 xs j0 k0 w0 rd mv xr jp jc z0 0 0 wk wl wc wp q_374 q_375 q_376 (0) (3) (0) (4)  H.size) (cwV 2 hts gX7_haste_X7_casesBy rfl rfl rfl (by decide +kernel) ⟨Nat.le_of_ble_eq_true rfl, Nat.le_of_ble_eq_true rfl⟩) hK hN (hZ.kept hS) hP hD hS hA [1, 2, 3, 4, 5, 6, 7] [0] rfl rfl (by decide) (by decide) (by decide) (va_recv hK hP (ci := 7) (q0 := 1) rfl rfl) rfl hl.1 rfl (Nat.le_of_ble_eq_true rfl) dX7_haste_82 ⟨Nat.le_of_ble_eq_true rfl, Nat.le_of_ble_eq_true rfl⟩ (fun r_379 u_380 H locs hr_379 hP hD hS => ?_)
                            obtain ⟨q_381, q_382, q_383⟩ := u_380
                            replace hP : va_P D vwCl [(xr, .inl (cI, 8, .inl (fun _ => 0))), (x0, .inr (7, [.ref xs, .ref j0, .ref k0, .ref w0, .ref rd, .ref mv, .ref xr, .int 0, .int (-1)])), (w0, .inr (5, [.ref wk, .ref wl, .ref wc, .ref wp, .int 0, .int 4, .int 0])), (wk, .inl (cI, 125, .inl q_381)), (wl, .inl (cI, 125, .inl q_382)), (wc, .inl (cI, 3, .inl q_383)), (j0, .inr (0, [.ref z0, .ref jp, .ref jc, .int 0, .int 0, .int 0, .int 60, .int 0, .int 1])), (jc, .inl (cI, 3, .inl (zL3 5 10 50)))] H := hP
                            replace hD : va_D _ [(xr, .inl (cI, 8, .inl (fun _ => 0))), (x0, .inr (7, [.ref xs, .ref j0, .ref k0, .ref w0, .ref rd, .ref mv, .ref xr, .int 0, .int (-1)])), (w0, .inr (5, [.ref wk, .ref wl, .ref wc, .ref wp, .int 0, .int 4, .int 0])), (wk, .inl (cI, 125, .inl q_381)), (wl, .inl (cI, 125, .inl q_382)), (wc, .inl (cI, 3, .inl q_383)), (j0, .inr (0, [.ref z0, .ref jp, .ref jc, .int 0, .int 0, .int 0, .int 60, .int 0, .int 1])), (jc, .inl (cI, 3, .inl (zL3 5 10 50)))] := hD
                            obtain rfl := hr_379
                            refine lv_istore (lv' := [(6, .int 20736), (5, .int 4), (4, .int 20736), (3, .int 0), (0, .ref x0), (1, .int 4), (2, .int w)]) hx hb dX7_haste_85 hl (by decide) rfl (fun ls hl => ?_)
                            refine lv_iload hx hb dX7_haste_87 (lv_at hl 0 rfl) ?_
                            refine lv_iload hx hb dX7_haste_89 (lv_at hl 2 rfl) ?_
                            refine lv_icmp_le (tgt := 101) hx hb dX7_haste_91 (by decide) (fun c_384 => ?_) (fun c_384 => ?_)
                            · refine lv_iinc (v := 5) (lv' := [(5, .int 5), (6, .int 20736), (4, .int 20736), (3, .int 0), (0, .ref x0), (1, .int 4), (2, .int w)]) hx hb dX7_haste_101 hl (k := 1) rfl (by decide) (by decide) rfl (fun ls hl => ?_)
                              refine lv_goto (tgt := 71) hx hb dX7_haste_104 (by decide) ?_
                              refine lv_iload hx hb dX7_haste_71 (lv_at hl 0 rfl) ?_
                              refine lv_bipush (v := 9) hx hb dX7_haste_73 (by decide) ?_
                              refine lv_icmp_gt (tgt := 107) hx hb dX7_haste_75 (by decide) (fun c_385 => ?_) (fun c_385 => ?_)
                              · exact absurd c_385 (by decide)
                              · refine lv_aload_n hx hb dX7_haste_78 rfl (lv_at hl 4 rfl) ?_
                                refine lv_iload hx hb dX7_haste_79 (lv_at hl 0 rfl) ?_
                                refine lv_iload_n hx hb dX7_haste_81 rfl (lv_at hl 5 rfl) ?_
                                skip
                                refine zw_V (As := [.int 5, .int 4]) (rest := []) (wr := [(xr, .inl (cI, 8, .inl (fun _ => 0)))]) ⟨hx, hb, hml, hown, hts⟩ (c_casesBy_4 l D cI cJ cZ cP cS x0 xs j0 k0 w0 rd mv xr jp jc z0 0 0 wk wl wc wp q_381 q_382 q_383 (0) (4) (0) (5)  H.size) (cwV 2 hts gX7_haste_X7_casesBy rfl rfl rfl (by decide +kernel) ⟨Nat.le_of_ble_eq_true rfl, Nat.le_of_ble_eq_true rfl⟩) hK hN (hZ.kept hS) hP hD hS hA [1, 2, 3, 4, 5, 6, 7] [0] rfl rfl (by decide) (by decide) (by decide) (va_recv hK hP (ci := 7) (q0 := 1) rfl rfl) rfl hl.1 rfl (Nat.le_of_ble_eq_true rfl) dX7_haste_82 ⟨Nat.le_of_ble_eq_true rfl, Nat.le_of_ble_eq_true rfl⟩ (fun r_386 u_387 H locs hr_386 hP hD hS => ?_)
                                obtain ⟨q_388, q_389, q_390⟩ := u_387
                                replace hP : va_P D vwCl [(xr, .inl (cI, 8, .inl (fun _ => 0))), (x0, .inr (7, [.ref xs, .ref j0, .ref k0, .ref w0, .ref rd, .ref mv, .ref xr, .int 0, .int (-1)])), (w0, .inr (5, [.ref wk, .ref wl, .ref wc, .ref wp, .int 0, .int 5, .int 0])), (wk, .inl (cI, 125, .inl q_388)), (wl, .inl (cI, 125, .inl q_389)), (wc, .inl (cI, 3, .inl q_390)), (j0, .inr (0, [.ref z0, .ref jp, .ref jc, .int 0, .int 0, .int 0, .int 60, .int 0, .int 1])), (jc, .inl (cI, 3, .inl (zL3 5 10 50)))] H := hP
                                replace hD : va_D _ [(xr, .inl (cI, 8, .inl (fun _ => 0))), (x0, .inr (7, [.ref xs, .ref j0, .ref k0, .ref w0, .ref rd, .ref mv, .ref xr, .int 0, .int (-1)])), (w0, .inr (5, [.ref wk, .ref wl, .ref wc, .ref wp, .int 0, .int 5, .int 0])), (wk, .inl (cI, 125, .inl q_388)), (wl, .inl (cI, 125, .inl q_389)), (wc, .inl (cI, 3, .inl q_390)), (j0, .inr (0, [.ref z0, .ref jp, .ref jc, .int 0, .int 0, .int 0, .int 60, .int 0, .int 1])), (jc, .inl (cI, 3, .inl (zL3 5 10 50)))] := hD
                                obtain rfl := hr_386
                                refine lv_istore (lv' := [(6, .int 20736), (5, .int 5), (4, .int 20736), (3, .int 0), (0, .ref x0), (1, .int 4), (2, .int w)]) hx hb dX7_haste_85 hl (by decide) rfl (fun ls hl => ?_)
                                refine lv_iload hx hb dX7_haste_87 (lv_at hl 0 rfl) ?_
                                refine lv_iload hx hb dX7_haste_89 (lv_at hl 2 rfl) ?_
                                refine lv_icmp_le (tgt := 101) hx hb dX7_haste_91 (by decide) (fun c_391 => ?_) (fun c_391 => ?_)
                                · refine lv_iinc (v := 6) (lv' := [(5, .int 6), (6, .int 20736), (4, .int 20736), (3, .int 0), (0, .ref x0), (1, .int 4), (2, .int w)]) hx hb dX7_haste_101 hl (k := 1) rfl (by decide) (by decide) rfl (fun ls hl => ?_)
                                  refine lv_goto (tgt := 71) hx hb dX7_haste_104 (by decide) ?_
                                  refine lv_iload hx hb dX7_haste_71 (lv_at hl 0 rfl) ?_
                                  refine lv_bipush (v := 9) hx hb dX7_haste_73 (by decide) ?_
                                  refine lv_icmp_gt (tgt := 107) hx hb dX7_haste_75 (by decide) (fun c_392 => ?_) (fun c_392 => ?_)
                                  · exact absurd c_392 (by decide)
                                  · refine lv_aload_n hx hb dX7_haste_78 rfl (lv_at hl 4 rfl) ?_
                                    refine lv_iload hx hb dX7_haste_79 (lv_at hl 0 rfl) ?_
                                    refine lv_iload_n hx hb dX7_haste_81 rfl (lv_at hl 5 rfl) ?_
                                    skip
                                    refine zw_V (As := [.int 6, .int 4]) (rest := []) (wr := [(xr, .inl (cI, 8, .inl (fun _ => 0)))]) ⟨hx, hb, hml, hown, hts⟩ (c_casesBy_4 l D cI cJ cZ cP cS x0 xs j0 k0 w0 rd mv xr jp jc z0 0 0 wk wl wc wp q_388 q_389 q_390 (0) (5) (0) (6)  H.size) (cwV 2 hts gX7_haste_X7_casesBy rfl rfl rfl (by decide +kernel) ⟨Nat.le_of_ble_eq_true rfl, Nat.le_of_ble_eq_true rfl⟩) hK hN (hZ.kept hS) hP hD hS hA [1, 2, 3, 4, 5, 6, 7] [0] rfl rfl (by decide) (by decide) (by decide) (va_recv hK hP (ci := 7) (q0 := 1) rfl rfl) rfl hl.1 rfl (Nat.le_of_ble_eq_true rfl) dX7_haste_82 ⟨Nat.le_of_ble_eq_true rfl, Nat.le_of_ble_eq_true rfl⟩ (fun r_393 u_394 H locs hr_393 hP hD hS => ?_)
                                    obtain ⟨q_395, q_396, q_397⟩ := u_394
                                    replace hP : va_P D vwCl [(xr, .inl (cI, 8, .inl (fun _ => 0))), (x0, .inr (7, [.ref xs, .ref j0, .ref k0, .ref w0, .ref rd, .ref mv, .ref xr, .int 0, .int (-1)])), (w0, .inr (5, [.ref wk, .ref wl, .ref wc, .ref wp, .int 0, .int 6, .int 0])), (wk, .inl (cI, 125, .inl q_395)), (wl, .inl (cI, 125, .inl q_396)), (wc, .inl (cI, 3, .inl q_397)), (j0, .inr (0, [.ref z0, .ref jp, .ref jc, .int 0, .int 0, .int 0, .int 60, .int 0, .int 1])), (jc, .inl (cI, 3, .inl (zL3 5 10 50)))] H := hP
                                    replace hD : va_D _ [(xr, .inl (cI, 8, .inl (fun _ => 0))), (x0, .inr (7, [.ref xs, .ref j0, .ref k0, .ref w0, .ref rd, .ref mv, .ref xr, .int 0, .int (-1)])), (w0, .inr (5, [.ref wk, .ref wl, .ref wc, .ref wp, .int 0, .int 6, .int 0])), (wk, .inl (cI, 125, .inl q_395)), (wl, .inl (cI, 125, .inl q_396)), (wc, .inl (cI, 3, .inl q_397)), (j0, .inr (0, [.ref z0, .ref jp, .ref jc, .int 0, .int 0, .int 0, .int 60, .int 0, .int 1])), (jc, .inl (cI, 3, .inl (zL3 5 10 50)))] := hD
                                    obtain rfl := hr_393
                                    refine lv_istore (lv' := [(6, .int 20736), (5, .int 6), (4, .int 20736), (3, .int 0), (0, .ref x0), (1, .int 4), (2, .int w)]) hx hb dX7_haste_85 hl (by decide) rfl (fun ls hl => ?_)
                                    refine lv_iload hx hb dX7_haste_87 (lv_at hl 0 rfl) ?_
                                    refine lv_iload hx hb dX7_haste_89 (lv_at hl 2 rfl) ?_
                                    refine lv_icmp_le (tgt := 101) hx hb dX7_haste_91 (by decide) (fun c_398 => ?_) (fun c_398 => ?_)
                                    · refine lv_iinc (v := 7) (lv' := [(5, .int 7), (6, .int 20736), (4, .int 20736), (3, .int 0), (0, .ref x0), (1, .int 4), (2, .int w)]) hx hb dX7_haste_101 hl (k := 1) rfl (by decide) (by decide) rfl (fun ls hl => ?_)
                                      refine lv_goto (tgt := 71) hx hb dX7_haste_104 (by decide) ?_
                                      refine lv_iload hx hb dX7_haste_71 (lv_at hl 0 rfl) ?_
                                      refine lv_bipush (v := 9) hx hb dX7_haste_73 (by decide) ?_
                                      refine lv_icmp_gt (tgt := 107) hx hb dX7_haste_75 (by decide) (fun c_399 => ?_) (fun c_399 => ?_)
                                      · exact absurd c_399 (by decide)
                                      · refine lv_aload_n hx hb dX7_haste_78 rfl (lv_at hl 4 rfl) ?_
                                        refine lv_iload hx hb dX7_haste_79 (lv_at hl 0 rfl) ?_
                                        refine lv_iload_n hx hb dX7_haste_81 rfl (lv_at hl 5 rfl) ?_
                                        skip
                                        refine zw_V (As := [.int 7, .int 4]) (rest := []) (wr := [(xr, .inl (cI, 8, .inl (fun _ => 0)))]) ⟨hx, hb, hml, hown, hts⟩ (c_casesBy_4 l D cI cJ cZ cP cS x0 xs j0 k0 w0 rd mv xr jp jc z0 0 0 wk wl wc wp q_395 q_396 q_397 (0) (6) (0) (7)  H.size) (cwV 2 hts gX7_haste_X7_casesBy rfl rfl rfl (by decide +kernel) ⟨Nat.le_of_ble_eq_true rfl, Nat.le_of_ble_eq_true rfl⟩) hK hN (hZ.kept hS) hP hD hS hA [1, 2, 3, 4, 5, 6, 7] [0] rfl rfl (by decide) (by decide) (by decide) (va_recv hK hP (ci := 7) (q0 := 1) rfl rfl) rfl hl.1 rfl (Nat.le_of_ble_eq_true rfl) dX7_haste_82 ⟨Nat.le_of_ble_eq_true rfl, Nat.le_of_ble_eq_true rfl⟩ (fun r_400 u_401 H locs hr_400 hP hD hS => ?_)
                                        obtain ⟨q_402, q_403, q_404⟩ := u_401
                                        replace hP : va_P D vwCl [(xr, .inl (cI, 8, .inl (fun _ => 0))), (x0, .inr (7, [.ref xs, .ref j0, .ref k0, .ref w0, .ref rd, .ref mv, .ref xr, .int 0, .int (-1)])), (w0, .inr (5, [.ref wk, .ref wl, .ref wc, .ref wp, .int 0, .int 7, .int 0])), (wk, .inl (cI, 125, .inl q_402)), (wl, .inl (cI, 125, .inl q_403)), (wc, .inl (cI, 3, .inl q_404)), (j0, .inr (0, [.ref z0, .ref jp, .ref jc, .int 0, .int 0, .int 0, .int 60, .int 0, .int 1])), (jc, .inl (cI, 3, .inl (zL3 5 10 50)))] H := hP
                                        replace hD : va_D _ [(xr, .inl (cI, 8, .inl (fun _ => 0))), (x0, .inr (7, [.ref xs, .ref j0, .ref k0, .ref w0, .ref rd, .ref mv, .ref xr, .int 0, .int (-1)])), (w0, .inr (5, [.ref wk, .ref wl, .ref wc, .ref wp, .int 0, .int 7, .int 0])), (wk, .inl (cI, 125, .inl q_402)), (wl, .inl (cI, 125, .inl q_403)), (wc, .inl (cI, 3, .inl q_404)), (j0, .inr (0, [.ref z0, .ref jp, .ref jc, .int 0, .int 0, .int 0, .int 60, .int 0, .int 1])), (jc, .inl (cI, 3, .inl (zL3 5 10 50)))] := hD
                                        obtain rfl := hr_400
                                        refine lv_istore (lv' := [(6, .int 20736), (5, .int 7), (4, .int 20736), (3, .int 0), (0, .ref x0), (1, .int 4), (2, .int w)]) hx hb dX7_haste_85 hl (by decide) rfl (fun ls hl => ?_)
                                        refine lv_iload hx hb dX7_haste_87 (lv_at hl 0 rfl) ?_
                                        refine lv_iload hx hb dX7_haste_89 (lv_at hl 2 rfl) ?_
                                        refine lv_icmp_le (tgt := 101) hx hb dX7_haste_91 (by decide) (fun c_405 => ?_) (fun c_405 => ?_)
                                        · refine lv_iinc (v := 8) (lv' := [(5, .int 8), (6, .int 20736), (4, .int 20736), (3, .int 0), (0, .ref x0), (1, .int 4), (2, .int w)]) hx hb dX7_haste_101 hl (k := 1) rfl (by decide) (by decide) rfl (fun ls hl => ?_)
                                          refine lv_goto (tgt := 71) hx hb dX7_haste_104 (by decide) ?_
                                          refine lv_iload hx hb dX7_haste_71 (lv_at hl 0 rfl) ?_
                                          refine lv_bipush (v := 9) hx hb dX7_haste_73 (by decide) ?_
                                          refine lv_icmp_gt (tgt := 107) hx hb dX7_haste_75 (by decide) (fun c_406 => ?_) (fun c_406 => ?_)
                                          · exact absurd c_406 (by decide)
                                          · refine lv_aload_n hx hb dX7_haste_78 rfl (lv_at hl 4 rfl) ?_
                                            refine lv_iload hx hb dX7_haste_79 (lv_at hl 0 rfl) ?_
                                            refine lv_iload_n hx hb dX7_haste_81 rfl (lv_at hl 5 rfl) ?_
                                            skip
                                            refine zw_V (As := [.int 8, .int 4]) (rest := []) (wr := [(xr, .inl (cI, 8, .inl (fun _ => 0)))]) ⟨hx, hb, hml, hown, hts⟩ (c_casesBy_4 l D cI cJ cZ cP cS x0 xs j0 k0 w0 rd mv xr jp jc z0 0 0 wk wl wc wp q_402 q_403 q_404 (0) (7) (0) (8)  H.size) (cwV 2 hts gX7_haste_X7_casesBy rfl rfl rfl (by decide +kernel) ⟨Nat.le_of_ble_eq_true rfl, Nat.le_of_ble_eq_true rfl⟩) hK hN (hZ.kept hS) hP hD hS hA [1, 2, 3, 4, 5, 6, 7] [0] rfl rfl (by decide) (by decide) (by decide) (va_recv hK hP (ci := 7) (q0 := 1) rfl rfl) rfl hl.1 rfl (Nat.le_of_ble_eq_true rfl) dX7_haste_82 ⟨Nat.le_of_ble_eq_true rfl, Nat.le_of_ble_eq_true rfl⟩ (fun r_407 u_408 H locs hr_407 hP hD hS => ?_)
                                            obtain ⟨q_409, q_410, q_411⟩ := u_408
                                            replace hP : va_P D vwCl [(xr, .inl (cI, 8, .inl (fun _ => 0))), (x0, .inr (7, [.ref xs, .ref j0, .ref k0, .ref w0, .ref rd, .ref mv, .ref xr, .int 0, .int (-1)])), (w0, .inr (5, [.ref wk, .ref wl, .ref wc, .ref wp, .int 0, .int 8, .int 0])), (wk, .inl (cI, 125, .inl q_409)), (wl, .inl (cI, 125, .inl q_410)), (wc, .inl (cI, 3, .inl q_411)), (j0, .inr (0, [.ref z0, .ref jp, .ref jc, .int 0, .int 0, .int 0, .int 60, .int 0, .int 1])), (jc, .inl (cI, 3, .inl (zL3 5 10 50)))] H := hP
                                            replace hD : va_D _ [(xr, .inl (cI, 8, .inl (fun _ => 0))), (x0, .inr (7, [.ref xs, .ref j0, .ref k0, .ref w0, .ref rd, .ref mv, .ref xr, .int 0, .int (-1)])), (w0, .inr (5, [.ref wk, .ref wl, .ref wc, .ref wp, .int 0, .int 8, .int 0])), (wk, .inl (cI, 125, .inl q_409)), (wl, .inl (cI, 125, .inl q_410)), (wc, .inl (cI, 3, .inl q_411)), (j0, .inr (0, [.ref z0, .ref jp, .ref jc, .int 0, .int 0, .int 0, .int 60, .int 0, .int 1])), (jc, .inl (cI, 3, .inl (zL3 5 10 50)))] := hD
                                            obtain rfl := hr_407
                                            refine lv_istore (lv' := [(6, .int 20736), (5, .int 8), (4, .int 20736), (3, .int 0), (0, .ref x0), (1, .int 4), (2, .int w)]) hx hb dX7_haste_85 hl (by decide) rfl (fun ls hl => ?_)
                                            refine lv_iload hx hb dX7_haste_87 (lv_at hl 0 rfl) ?_
                                            refine lv_iload hx hb dX7_haste_89 (lv_at hl 2 rfl) ?_
                                            refine lv_icmp_le (tgt := 101) hx hb dX7_haste_91 (by decide) (fun c_412 => ?_) (fun c_412 => ?_)
                                            · refine lv_iinc (v := 9) (lv' := [(5, .int 9), (6, .int 20736), (4, .int 20736), (3, .int 0), (0, .ref x0), (1, .int 4), (2, .int w)]) hx hb dX7_haste_101 hl (k := 1) rfl (by decide) (by decide) rfl (fun ls hl => ?_)
                                              refine lv_goto (tgt := 71) hx hb dX7_haste_104 (by decide) ?_
                                              refine lv_iload hx hb dX7_haste_71 (lv_at hl 0 rfl) ?_
                                              refine lv_bipush (v := 9) hx hb dX7_haste_73 (by decide) ?_
                                              refine lv_icmp_gt (tgt := 107) hx hb dX7_haste_75 (by decide) (fun c_413 => ?_) (fun c_413 => ?_)
                                              · exact absurd c_413 (by decide)
                                              · refine lv_aload_n hx hb dX7_haste_78 rfl (lv_at hl 4 rfl) ?_
                                                refine lv_iload hx hb dX7_haste_79 (lv_at hl 0 rfl) ?_
                                                refine lv_iload_n hx hb dX7_haste_81 rfl (lv_at hl 5 rfl) ?_
                                                skip
                                                refine zw_V (As := [.int 9, .int 4]) (rest := []) (wr := [(xr, .inl (cI, 8, .inl (fun _ => 0)))]) ⟨hx, hb, hml, hown, hts⟩ (c_casesBy_4 l D cI cJ cZ cP cS x0 xs j0 k0 w0 rd mv xr jp jc z0 0 0 wk wl wc wp q_409 q_410 q_411 (0) (8) (0) (9)  H.size) (cwV 2 hts gX7_haste_X7_casesBy rfl rfl rfl (by decide +kernel) ⟨Nat.le_of_ble_eq_true rfl, Nat.le_of_ble_eq_true rfl⟩) hK hN (hZ.kept hS) hP hD hS hA [1, 2, 3, 4, 5, 6, 7] [0] rfl rfl (by decide) (by decide) (by decide) (va_recv hK hP (ci := 7) (q0 := 1) rfl rfl) rfl hl.1 rfl (Nat.le_of_ble_eq_true rfl) dX7_haste_82 ⟨Nat.le_of_ble_eq_true rfl, Nat.le_of_ble_eq_true rfl⟩ (fun r_414 u_415 H locs hr_414 hP hD hS => ?_)
                                                obtain ⟨q_416, q_417, q_418⟩ := u_415
                                                replace hP : va_P D vwCl [(xr, .inl (cI, 8, .inl (fun _ => 0))), (x0, .inr (7, [.ref xs, .ref j0, .ref k0, .ref w0, .ref rd, .ref mv, .ref xr, .int 0, .int (-1)])), (w0, .inr (5, [.ref wk, .ref wl, .ref wc, .ref wp, .int 0, .int 9, .int 0])), (wk, .inl (cI, 125, .inl q_416)), (wl, .inl (cI, 125, .inl q_417)), (wc, .inl (cI, 3, .inl q_418)), (j0, .inr (0, [.ref z0, .ref jp, .ref jc, .int 0, .int 0, .int 0, .int 60, .int 0, .int 1])), (jc, .inl (cI, 3, .inl (zL3 5 10 50)))] H := hP
                                                replace hD : va_D _ [(xr, .inl (cI, 8, .inl (fun _ => 0))), (x0, .inr (7, [.ref xs, .ref j0, .ref k0, .ref w0, .ref rd, .ref mv, .ref xr, .int 0, .int (-1)])), (w0, .inr (5, [.ref wk, .ref wl, .ref wc, .ref wp, .int 0, .int 9, .int 0])), (wk, .inl (cI, 125, .inl q_416)), (wl, .inl (cI, 125, .inl q_417)), (wc, .inl (cI, 3, .inl q_418)), (j0, .inr (0, [.ref z0, .ref jp, .ref jc, .int 0, .int 0, .int 0, .int 60, .int 0, .int 1])), (jc, .inl (cI, 3, .inl (zL3 5 10 50)))] := hD
                                                obtain rfl := hr_414
                                                refine lv_istore (lv' := [(6, .int 20736), (5, .int 9), (4, .int 20736), (3, .int 0), (0, .ref x0), (1, .int 4), (2, .int w)]) hx hb dX7_haste_85 hl (by decide) rfl (fun ls hl => ?_)
                                                refine lv_iload hx hb dX7_haste_87 (lv_at hl 0 rfl) ?_
                                                refine lv_iload hx hb dX7_haste_89 (lv_at hl 2 rfl) ?_
                                                refine lv_icmp_le (tgt := 101) hx hb dX7_haste_91 (by decide) (fun c_419 => ?_) (fun c_419 => ?_)
                                                · refine lv_iinc (v := 10) (lv' := [(5, .int 10), (6, .int 20736), (4, .int 20736), (3, .int 0), (0, .ref x0), (1, .int 4), (2, .int w)]) hx hb dX7_haste_101 hl (k := 1) rfl (by decide) (by decide) rfl (fun ls hl => ?_)
                                                  refine lv_goto (tgt := 71) hx hb dX7_haste_104 (by decide) ?_
                                                  refine lv_iload hx hb dX7_haste_71 (lv_at hl 0 rfl) ?_
                                                  refine lv_bipush (v := 9) hx hb dX7_haste_73 (by decide) ?_
                                                  refine lv_icmp_gt (tgt := 107) hx hb dX7_haste_75 (by decide) (fun c_420 => ?_) (fun c_420 => ?_)
                                                  · refine lv_iload_n hx hb dX7_haste_107 rfl (lv_at hl 3 rfl) ?_
                                                    exact W.iret (v := 0) hx hb hr (fun t ht hW => ⟨⟨0, (), rfl, Or.inr (Or.inr (Or.inr (Or.inr (Or.inr (Or.inr (Or.inr (Or.inr (Or.inr (Or.inr (Or.inr (Or.inr (Or.inl (⟨rfl, (by first | omega | decide), (by first | omega | decide), (by first | omega | decide), (by first | omega | decide), (by first | omega | decide), (by first | omega | decide)⟩))))))))))))), zP_nil, zD_nil⟩, hS.F ht⟩) hS.2.2 dX7_haste_108
                                                  · exact absurd c_420 (by decide)
                                                · exact absurd c_419 (by decide)
                                            · exact absurd c_412 (by decide)
                                        · exact absurd c_405 (by decide)
                                    · exact absurd c_398 (by decide)
                                · exact absurd c_391 (by decide)
                            · exact absurd c_384 (by decide)
                        · exact absurd c_377 (by decide)
                    · exact absurd c_370 (by decide)
                · exact absurd c_363 (by decide)
            · have fc_351 : w.toInt = 1 := zf_eq c_351 rfl (by decide)
              refine lv_aload_n hx hb dX7_haste_36 rfl (lv_at hl 0 rfl) ?_
              refine lv_bipush (v := 9) hx hb dX7_haste_37 (by decide) ?_
              refine lv_iload_n hx hb dX7_haste_39 rfl (lv_at hl 1 rfl) ?_
              skip
              refine zw_V (As := [.int 9, .int 4]) (rest := []) (wr := [(xr, .inl (cI, 8, .inl (fun _ => 0)))]) ⟨hx, hb, hml, hown, hts⟩ (c_casesBy_4 l D cI cJ cZ cP cS x0 xs j0 k0 w0 rd mv xr jp jc z0 0 0 wk wl wc wp fk fl fc (0) (0) (0) (9)  H.size) (cwV 2 hts gX7_haste_X7_casesBy rfl rfl rfl (by decide +kernel) ⟨Nat.le_of_ble_eq_true rfl, Nat.le_of_ble_eq_true rfl⟩) hK hN (hZ.kept hS) hP hD hS hA [0, 2, 3, 4, 5, 6, 7] [1] rfl rfl (by decide) (by decide) (by decide) (va_recv hK hP (ci := 7) (q0 := 0) rfl rfl) rfl hl.1 rfl (Nat.le_of_ble_eq_true rfl) dX7_haste_40 ⟨Nat.le_of_ble_eq_true rfl, Nat.le_of_ble_eq_true rfl⟩ (fun r_421 u_422 H locs hr_421 hP hD hS => ?_)
              obtain ⟨q_423, q_424, q_425⟩ := u_422
              replace hP : va_P D vwCl [(xr, .inl (cI, 8, .inl (fun _ => 0))), (x0, .inr (7, [.ref xs, .ref j0, .ref k0, .ref w0, .ref rd, .ref mv, .ref xr, .int 0, .int (-1)])), (w0, .inr (5, [.ref wk, .ref wl, .ref wc, .ref wp, .int 0, .int 9, .int 0])), (wk, .inl (cI, 125, .inl q_423)), (wl, .inl (cI, 125, .inl q_424)), (wc, .inl (cI, 3, .inl q_425)), (j0, .inr (0, [.ref z0, .ref jp, .ref jc, .int 0, .int 0, .int 0, .int 60, .int 0, .int 1])), (jc, .inl (cI, 3, .inl (zL3 5 10 50)))] H := hP
              replace hD : va_D _ [(xr, .inl (cI, 8, .inl (fun _ => 0))), (x0, .inr (7, [.ref xs, .ref j0, .ref k0, .ref w0, .ref rd, .ref mv, .ref xr, .int 0, .int (-1)])), (w0, .inr (5, [.ref wk, .ref wl, .ref wc, .ref wp, .int 0, .int 9, .int 0])), (wk, .inl (cI, 125, .inl q_423)), (wl, .inl (cI, 125, .inl q_424)), (wc, .inl (cI, 3, .inl q_425)), (j0, .inr (0, [.ref z0, .ref jp, .ref jc, .int 0, .int 0, .int 0, .int 60, .int 0, .int 1])), (jc, .inl (cI, 3, .inl (zL3 5 10 50)))] := hD
              obtain rfl := hr_421
              refine lv_aload_n hx hb dX7_haste_43 rfl (lv_at hl 0 rfl) ?_
              refine lv_iconst (v := 0) hx hb dX7_haste_44 (by decide) ?_
              refine lv_iload_n hx hb dX7_haste_45 rfl (lv_at hl 1 rfl) ?_
              skip
              refine zw_V (As := [.int 0, .int 4]) (rest := [.int 20736]) (wr := [(xr, .inl (cI, 8, .inl (fun _ => 0)))]) ⟨hx, hb, hml, hown, hts⟩ (c_casesBy_4 l D cI cJ cZ cP cS x0 xs j0 k0 w0 rd mv xr jp jc z0 0 0 wk wl wc wp q_423 q_424 q_425 (0) (9) (0) (0)  H.size) (cwV 2 hts gX7_haste_X7_casesBy rfl rfl rfl (by decide +kernel) ⟨Nat.le_of_ble_eq_true rfl, Nat.le_of_ble_eq_true rfl⟩) hK hN (hZ.kept hS) hP hD hS hA [1, 2, 3, 4, 5, 6, 7] [0] rfl rfl (by decide) (by decide) (by decide) (va_recv hK hP (ci := 7) (q0 := 1) rfl rfl) rfl hl.1 rfl (Nat.le_of_ble_eq_true rfl) dX7_haste_46 ⟨Nat.le_of_ble_eq_true rfl, Nat.le_of_ble_eq_true rfl⟩ (fun r_426 u_427 H locs hr_426 hP hD hS => ?_)
              obtain ⟨q_428, q_429, q_430⟩ := u_427
              replace hP : va_P D vwCl [(xr, .inl (cI, 8, .inl (fun _ => 0))), (x0, .inr (7, [.ref xs, .ref j0, .ref k0, .ref w0, .ref rd, .ref mv, .ref xr, .int 0, .int (-1)])), (w0, .inr (5, [.ref wk, .ref wl, .ref wc, .ref wp, .int 0, .int 0, .int 0])), (wk, .inl (cI, 125, .inl q_428)), (wl, .inl (cI, 125, .inl q_429)), (wc, .inl (cI, 3, .inl q_430)), (j0, .inr (0, [.ref z0, .ref jp, .ref jc, .int 0, .int 0, .int 0, .int 60, .int 0, .int 1])), (jc, .inl (cI, 3, .inl (zL3 5 10 50)))] H := hP
              replace hD : va_D _ [(xr, .inl (cI, 8, .inl (fun _ => 0))), (x0, .inr (7, [.ref xs, .ref j0, .ref k0, .ref w0, .ref rd, .ref mv, .ref xr, .int 0, .int (-1)])), (w0, .inr (5, [.ref wk, .ref wl, .ref wc, .ref wp, .int 0, .int 0, .int 0])), (wk, .inl (cI, 125, .inl q_428)), (wl, .inl (cI, 125, .inl q_429)), (wc, .inl (cI, 3, .inl q_430)), (j0, .inr (0, [.ref z0, .ref jp, .ref jc, .int 0, .int 0, .int 0, .int 60, .int 0, .int 1])), (jc, .inl (cI, 3, .inl (zL3 5 10 50)))] := hD
              obtain rfl := hr_426
              refine lv_icmp_ge (tgt := 56) hx hb dX7_haste_49 (by decide) (fun c_431 => ?_) (fun c_431 => ?_)
              · refine lv_iconst (v := 0) hx hb dX7_haste_56 (by decide) ?_
                exact W.iret (v := 0) hx hb hr (fun t ht hW => ⟨⟨0, (), rfl, Or.inr (Or.inr (Or.inr (Or.inr (Or.inr (Or.inr (Or.inr (Or.inr (Or.inr (Or.inr (Or.inr (Or.inr (Or.inr (⟨rfl, (by first | omega | decide), (by first | omega | decide), (by first | omega | decide), (by first | omega | decide), (by first | omega | decide), (by first | omega | decide)⟩))))))))))))), zP_nil, zD_nil⟩, hS.F ht⟩) hS.2.2 dX7_haste_57
              · exact absurd c_431 (by decide)
        · exact absurd c_26 (by decide)
    · exact absurd c_13 (by decide)
theorem hi_X7_winter_7 : ∀ w ∈ u_ws RX7 TX7 9, w ∈ wsX7_winter := by decide +kernel
theorem hi_X7_winter_0 : ∀ w ∈ u_ws RX0 TX0 9, w ∈ wsX7_winter := by decide +kernel
set_option maxHeartbeats 4000000 in
set_option maxRecDepth 100000 in
theorem c_winter (l : Launch) (D : va_G) (cI cJ cZ cP cS : ClassId) (x0 xs j0 k0 w0 rd mv xr : Nat) (jp jc z0 zl zs : Nat) (wk wl wc wp : Nat) (fk fl fc : Nat → Int32) (n : Int32)  (sz : Nat) : Met l yX7_winter wsX7_winter ({ frames := 5, cells := 0, slots := 0, locals := 126 }) (va_Pc [.ref x0, .int n] (zW D (zKT cI cJ cZ cP cS) [(x0, .inr (7, [.ref xs, .ref j0, .ref k0, .ref w0, .ref rd, .ref mv, .ref xr, .int 0, .int (-1)])), (xr, .inl (cI, 8, .inl (fun _ => 0))), (w0, .inr (5, [.ref wk, .ref wl, .ref wc, .ref wp, .int 0, .int 0, .int 0])), (wk, .inl (cI, 125, .inl fk)), (wl, .inl (cI, 125, .inl fl)), (wc, .inl (cI, 3, .inl fc)), (j0, .inr (0, [.ref z0, .ref jp, .ref jc, .int 0, .int 0, .int 0, .int 60, .int 0, .int 1])), (jc, .inl (cI, 3, .inl (zL3 5 10 50))), (z0, .inr (6, [.ref zl, .ref zs, .int 20, .int 0, .int 3])), (zl, .inl (cZ, 40, .inl (fun _ => 0))), (zs, .inl (cI, 40, .inl (fun _ => 0)))] sz)) (va_Qi (fun (r : Int32) (_ : Unit) => (r = (-6) ∧ n.toInt < 1) ∨ (r = (-6) ∧ 1 ≤ n.toInt ∧ 60 < n.toInt) ∨ (r = n ∧ 1 ≤ n.toInt ∧ n.toInt ≤ 60)) (zB D [(x0, .inr (7, [.ref xs, .ref j0, .ref k0, .ref w0, .ref rd, .ref mv, .ref xr, .int 0, .int (-1)])), (xr, .inl (cI, 8, .inl (fun _ => 0))), (w0, .inr (5, [.ref wk, .ref wl, .ref wc, .ref wp, .int 0, .int 0, .int 0])), (wk, .inl (cI, 125, .inl fk)), (wl, .inl (cI, 125, .inl fl)), (wc, .inl (cI, 3, .inl fc)), (j0, .inr (0, [.ref z0, .ref jp, .ref jc, .int 0, .int 0, .int 0, .int 60, .int 0, .int 1])), (jc, .inl (cI, 3, .inl (zL3 5 10 50))), (z0, .inr (6, [.ref zl, .ref zs, .int 20, .int 0, .int 3])), (zl, .inl (cZ, 40, .inl (fun _ => 0))), (zs, .inl (cI, 40, .inl (fun _ => 0)))] sz (fun (_ : Unit) => ([] : va_W))) (va_A [(x0, .inr (7, [.ref xs, .ref j0, .ref k0, .ref w0, .ref rd, .ref mv, .ref xr, .int 0, .int (-1)])), (xr, .inl (cI, 8, .inl (fun _ => 0))), (w0, .inr (5, [.ref wk, .ref wl, .ref wc, .ref wp, .int 0, .int 0, .int 0])), (wk, .inl (cI, 125, .inl fk)), (wl, .inl (cI, 125, .inl fl)), (wc, .inl (cI, 3, .inl fc)), (j0, .inr (0, [.ref z0, .ref jp, .ref jc, .int 0, .int 0, .int 0, .int 60, .int 0, .int 1])), (jc, .inl (cI, 3, .inl (zL3 5 10 50))), (z0, .inr (6, [.ref zl, .ref zs, .int 20, .int 0, .int 3])), (zl, .inl (cZ, 40, .inl (fun _ => 0))), (zs, .inl (cI, 40, .inl (fun _ => 0)))] sz)) 0 0 (va_A [(x0, .inr (7, [.ref xs, .ref j0, .ref k0, .ref w0, .ref rd, .ref mv, .ref xr, .int 0, .int (-1)])), (xr, .inl (cI, 8, .inl (fun _ => 0))), (w0, .inr (5, [.ref wk, .ref wl, .ref wc, .ref wp, .int 0, .int 0, .int 0])), (wk, .inl (cI, 125, .inl fk)), (wl, .inl (cI, 125, .inl fl)), (wc, .inl (cI, 3, .inl fc)), (j0, .inr (0, [.ref z0, .ref jp, .ref jc, .int 0, .int 0, .int 0, .int 60, .int 0, .int 1])), (jc, .inl (cI, 3, .inl (zL3 5 10 50))), (z0, .inr (6, [.ref zl, .ref zs, .int 20, .int 0, .int 3])), (zl, .inl (cZ, 40, .inl (fun _ => 0))), (zs, .inl (cI, 40, .inl (fun _ => 0)))] sz) := by
  refine Met.ofW (cc := cX7_winter) (maxL := 4) (ret := (some .int)) (by decide) rfl ?_
  intro p e s m args below meth c s₁ B hml hv
  obtain ⟨rfl, hsz, hP, hK, hD0, hN, hZ⟩ := hv
  have hx := B.exec
  have hb := B.bytes
  have hr := B.returns
  have hts := atoms_spec (ws := wsX7_winter) B.pre
  have hown : s.vm.findClass RX7 = some m.cls := findClass_of_methodNamed B.named
  have hlocks := B.notSynchronized
  subst hsz
  have hD := hD0.self (sz := s.heap.size)
  have hA : ∀ q : Nat, s.heap.size ≤ q → va_A [(x0, .inr (7, [.ref xs, .ref j0, .ref k0, .ref w0, .ref rd, .ref mv, .ref xr, .int 0, .int (-1)])), (xr, .inl (cI, 8, .inl (fun _ => 0))), (w0, .inr (5, [.ref wk, .ref wl, .ref wc, .ref wp, .int 0, .int 0, .int 0])), (wk, .inl (cI, 125, .inl fk)), (wl, .inl (cI, 125, .inl fl)), (wc, .inl (cI, 3, .inl fc)), (j0, .inr (0, [.ref z0, .ref jp, .ref jc, .int 0, .int 0, .int 0, .int 60, .int 0, .int 1])), (jc, .inl (cI, 3, .inl (zL3 5 10 50))), (z0, .inr (6, [.ref zl, .ref zs, .int 20, .int 0, .int 3])), (zl, .inl (cZ, 40, .inl (fun _ => 0))), (zs, .inl (cI, 40, .inl (fun _ => 0)))] s.heap.size q := fun q h => Or.inr h
  have hS : va_S (va_A [(x0, .inr (7, [.ref xs, .ref j0, .ref k0, .ref w0, .ref rd, .ref mv, .ref xr, .int 0, .int (-1)])), (xr, .inl (cI, 8, .inl (fun _ => 0))), (w0, .inr (5, [.ref wk, .ref wl, .ref wc, .ref wp, .int 0, .int 0, .int 0])), (wk, .inl (cI, 125, .inl fk)), (wl, .inl (cI, 125, .inl fl)), (wc, .inl (cI, 3, .inl fc)), (j0, .inr (0, [.ref z0, .ref jp, .ref jc, .int 0, .int 0, .int 0, .int 60, .int 0, .int 1])), (jc, .inl (cI, 3, .inl (zL3 5 10 50))), (z0, .inr (6, [.ref zl, .ref zs, .int 20, .int 0, .int 3])), (zl, .inl (cZ, 40, .inl (fun _ => 0))), (zs, .inl (cI, 40, .inl (fun _ => 0)))] s.heap.size) s.heap s.heap [] := va_S.rf
  replace hP : va_P D vwCl _ s.heap := hP
  have hl := lv_entry ([.ref x0, .int n]) (n := 4) (Nat.le_of_ble_eq_true rfl)
  rw [lg_entry_eq]
  generalize (lg_sl ([.ref x0, .int n]) ++ List.replicate (4 - (lg_sl ([.ref x0, .int n])).length) Slot.unset).toArray = ls at hl ⊢
  replace hl : lv_has ls 4 [(0, .ref x0), (1, .int n)] := hl
  refine zw_start (fun H locs hH hL => ?_)
  replace hP : va_P D vwCl [(x0, .inr (7, [.ref xs, .ref j0, .ref k0, .ref w0, .ref rd, .ref mv, .ref xr, .int 0, .int (-1)])), (xr, .inl (cI, 8, .inl (fun _ => 0))), (w0, .inr (5, [.ref wk, .ref wl, .ref wc, .ref wp, .int 0, .int 0, .int 0])), (wk, .inl (cI, 125, .inl fk)), (wl, .inl (cI, 125, .inl fl)), (wc, .inl (cI, 3, .inl fc)), (j0, .inr (0, [.ref z0, .ref jp, .ref jc, .int 0, .int 0, .int 0, .int 60, .int 0, .int 1])), (jc, .inl (cI, 3, .inl (zL3 5 10 50))), (z0, .inr (6, [.ref zl, .ref zs, .int 20, .int 0, .int 3])), (zl, .inl (cZ, 40, .inl (fun _ => 0))), (zs, .inl (cI, 40, .inl (fun _ => 0)))] H := by rw [hH]; exact hP
  replace hS : va_S (va_A [(x0, .inr (7, [.ref xs, .ref j0, .ref k0, .ref w0, .ref rd, .ref mv, .ref xr, .int 0, .int (-1)])), (xr, .inl (cI, 8, .inl (fun _ => 0))), (w0, .inr (5, [.ref wk, .ref wl, .ref wc, .ref wp, .int 0, .int 0, .int 0])), (wk, .inl (cI, 125, .inl fk)), (wl, .inl (cI, 125, .inl fl)), (wc, .inl (cI, 3, .inl fc)), (j0, .inr (0, [.ref z0, .ref jp, .ref jc, .int 0, .int 0, .int 0, .int 60, .int 0, .int 1])), (jc, .inl (cI, 3, .inl (zL3 5 10 50))), (z0, .inr (6, [.ref zl, .ref zs, .int 20, .int 0, .int 3])), (zl, .inl (cZ, 40, .inl (fun _ => 0))), (zs, .inl (cI, 40, .inl (fun _ => 0)))] s.heap.size) s.heap H locs := by rw [hH, hL]; exact hS
  clear hH hL
  refine lv_iload_n hx hb dX7_winter_0 rfl (lv_at hl 1 rfl) ?_
  refine lv_iconst (v := 1) hx hb dX7_winter_1 (by decide) ?_
  refine lv_bipush (v := 60) hx hb dX7_winter_2 (by decide) ?_
  have kc1 : (1 : Int32).toInt = 1 := by decide
  have kc60 : (60 : Int32).toInt = 60 := by decide
  refine zc_S (As := [.int n, .int 1, .int 60]) (rest := []) ⟨hx, hb, hml, hown, hts⟩ (c_within l D cI cJ cZ cP cS (n) (1) (60) ) (va_cwS 3 hts gX7_winter_X7_within rfl rfl rfl (by decide +kernel) ⟨Nat.le_of_ble_eq_true rfl, Nat.le_of_ble_eq_true rfl⟩) hK hN (hZ.kept hS) rfl hl.1 rfl (Nat.le_of_ble_eq_true rfl) dX7_winter_4 ⟨Nat.le_of_ble_eq_true rfl, Nat.le_of_ble_eq_true rfl⟩ (fun r_1 hr_1 => ?_)
  rcases hr_1 with ⟨rfl, g_2⟩ | ⟨rfl, g_3, g_4⟩ | ⟨rfl, g_5, g_6⟩
  · refine lv_if_ne (tgt := 17) hx hb dX7_winter_7 (by decide) (fun c_7 => ?_) (fun c_7 => ?_)
    · exact absurd c_7 (by decide)
    · refine lv_aload_n hx hb dX7_winter_10 rfl (lv_at hl 0 rfl) ?_
      refine lv_bipush (v := 6) hx hb dX7_winter_11 (by decide) ?_
      skip
      refine zw_V (As := [.int 6]) (rest := []) (wr := [(w0, .inr (5, [.ref wk, .ref wl, .ref wc, .ref wp, .int 0, .int 0, .int 0])), (wk, .inl (cI, 125, .inl fk)), (wl, .inl (cI, 125, .inl fl)), (wc, .inl (cI, 3, .inl fc)), (j0, .inr (0, [.ref z0, .ref jp, .ref jc, .int 0, .int 0, .int 0, .int 60, .int 0, .int 1])), (jc, .inl (cI, 3, .inl (zL3 5 10 50))), (z0, .inr (6, [.ref zl, .ref zs, .int 20, .int 0, .int 3])), (zl, .inl (cZ, 40, .inl (fun _ => 0))), (zs, .inl (cI, 40, .inl (fun _ => 0)))]) ⟨hx, hb, hml, hown, hts⟩ (c_refuse_6 l D cI cJ cZ cP cS x0 xs j0 k0 w0 rd mv xr  H.size) (cwV 1 hts gX7_winter_X7_refuse rfl rfl rfl (by decide +kernel) ⟨Nat.le_of_ble_eq_true rfl, Nat.le_of_ble_eq_true rfl⟩) hK hN (hZ.kept hS) hP hD hS hA [0, 1] [2, 3, 4, 5, 6, 7, 8, 9, 10] rfl rfl (by decide) (by decide) (by decide) (va_recv hK hP (ci := 7) (q0 := 0) rfl rfl) rfl hl.1 rfl (Nat.le_of_ble_eq_true rfl) dX7_winter_13 ⟨Nat.le_of_ble_eq_true rfl, Nat.le_of_ble_eq_true rfl⟩ (fun r_8 u_9 H locs hr_8 hP hD hS => ?_)
      replace hP : va_P D vwCl [(w0, .inr (5, [.ref wk, .ref wl, .ref wc, .ref wp, .int 0, .int 0, .int 0])), (wk, .inl (cI, 125, .inl fk)), (wl, .inl (cI, 125, .inl fl)), (wc, .inl (cI, 3, .inl fc)), (j0, .inr (0, [.ref z0, .ref jp, .ref jc, .int 0, .int 0, .int 0, .int 60, .int 0, .int 1])), (jc, .inl (cI, 3, .inl (zL3 5 10 50))), (z0, .inr (6, [.ref zl, .ref zs, .int 20, .int 0, .int 3])), (zl, .inl (cZ, 40, .inl (fun _ => 0))), (zs, .inl (cI, 40, .inl (fun _ => 0)))] H := hP
      replace hD : va_D _ [(w0, .inr (5, [.ref wk, .ref wl, .ref wc, .ref wp, .int 0, .int 0, .int 0])), (wk, .inl (cI, 125, .inl fk)), (wl, .inl (cI, 125, .inl fl)), (wc, .inl (cI, 3, .inl fc)), (j0, .inr (0, [.ref z0, .ref jp, .ref jc, .int 0, .int 0, .int 0, .int 60, .int 0, .int 1])), (jc, .inl (cI, 3, .inl (zL3 5 10 50))), (z0, .inr (6, [.ref zl, .ref zs, .int 20, .int 0, .int 3])), (zl, .inl (cZ, 40, .inl (fun _ => 0))), (zs, .inl (cI, 40, .inl (fun _ => 0)))] := hD
      obtain rfl := hr_8
      exact W.iret (v := (-6)) hx hb hr (fun t ht hW => ⟨⟨(-6), (), rfl, Or.inl (⟨rfl, (by first | omega | decide)⟩), zP_nil, zD_nil⟩, hS.F ht⟩) hS.2.2 dX7_winter_16
  · refine lv_if_ne (tgt := 17) hx hb dX7_winter_7 (by decide) (fun c_10 => ?_) (fun c_10 => ?_)
    · exact absurd c_10 (by decide)
    · refine lv_aload_n hx hb dX7_winter_10 rfl (lv_at hl 0 rfl) ?_
      refine lv_bipush (v := 6) hx hb dX7_winter_11 (by decide) ?_
      skip
      refine zw_V (As := [.int 6]) (rest := []) (wr := [(w0, .inr (5, [.ref wk, .ref wl, .ref wc, .ref wp, .int 0, .int 0, .int 0])), (wk, .inl (cI, 125, .inl fk)), (wl, .inl (cI, 125, .inl fl)), (wc, .inl (cI, 3, .inl fc)), (j0, .inr (0, [.ref z0, .ref jp, .ref jc, .int 0, .int 0, .int 0, .int 60, .int 0, .int 1])), (jc, .inl (cI, 3, .inl (zL3 5 10 50))), (z0, .inr (6, [.ref zl, .ref zs, .int 20, .int 0, .int 3])), (zl, .inl (cZ, 40, .inl (fun _ => 0))), (zs, .inl (cI, 40, .inl (fun _ => 0)))]) ⟨hx, hb, hml, hown, hts⟩ (c_refuse_6 l D cI cJ cZ cP cS x0 xs j0 k0 w0 rd mv xr  H.size) (cwV 1 hts gX7_winter_X7_refuse rfl rfl rfl (by decide +kernel) ⟨Nat.le_of_ble_eq_true rfl, Nat.le_of_ble_eq_true rfl⟩) hK hN (hZ.kept hS) hP hD hS hA [0, 1] [2, 3, 4, 5, 6, 7, 8, 9, 10] rfl rfl (by decide) (by decide) (by decide) (va_recv hK hP (ci := 7) (q0 := 0) rfl rfl) rfl hl.1 rfl (Nat.le_of_ble_eq_true rfl) dX7_winter_13 ⟨Nat.le_of_ble_eq_true rfl, Nat.le_of_ble_eq_true rfl⟩ (fun r_11 u_12 H locs hr_11 hP hD hS => ?_)
      replace hP : va_P D vwCl [(w0, .inr (5, [.ref wk, .ref wl, .ref wc, .ref wp, .int 0, .int 0, .int 0])), (wk, .inl (cI, 125, .inl fk)), (wl, .inl (cI, 125, .inl fl)), (wc, .inl (cI, 3, .inl fc)), (j0, .inr (0, [.ref z0, .ref jp, .ref jc, .int 0, .int 0, .int 0, .int 60, .int 0, .int 1])), (jc, .inl (cI, 3, .inl (zL3 5 10 50))), (z0, .inr (6, [.ref zl, .ref zs, .int 20, .int 0, .int 3])), (zl, .inl (cZ, 40, .inl (fun _ => 0))), (zs, .inl (cI, 40, .inl (fun _ => 0)))] H := hP
      replace hD : va_D _ [(w0, .inr (5, [.ref wk, .ref wl, .ref wc, .ref wp, .int 0, .int 0, .int 0])), (wk, .inl (cI, 125, .inl fk)), (wl, .inl (cI, 125, .inl fl)), (wc, .inl (cI, 3, .inl fc)), (j0, .inr (0, [.ref z0, .ref jp, .ref jc, .int 0, .int 0, .int 0, .int 60, .int 0, .int 1])), (jc, .inl (cI, 3, .inl (zL3 5 10 50))), (z0, .inr (6, [.ref zl, .ref zs, .int 20, .int 0, .int 3])), (zl, .inl (cZ, 40, .inl (fun _ => 0))), (zs, .inl (cI, 40, .inl (fun _ => 0)))] := hD
      obtain rfl := hr_11
      exact W.iret (v := (-6)) hx hb hr (fun t ht hW => ⟨⟨(-6), (), rfl, Or.inr (Or.inl (⟨rfl, (by first | omega | decide), (by first | omega | decide)⟩)), zP_nil, zD_nil⟩, hS.F ht⟩) hS.2.2 dX7_winter_16
  · refine lv_if_ne (tgt := 17) hx hb dX7_winter_7 (by decide) (fun c_13 => ?_) (fun c_13 => ?_)
    · refine lv_aload_n hx hb dX7_winter_17 rfl (lv_at hl 0 rfl) ?_
      refine va_get (D := D) (ci := 7) (v := .ref w0) (C := RX7) (T := TX7) (N := 9) hx hb hts hi_X7_winter_7 hown hK hP 0 rfl rfl 3 (by decide) (hts (.fieldLink RX7 28 "TheLiningsInIt" "ways" "LTheLiningsInIt$Ways;") (List.mem_of_getElem? (i := 1) rfl)) (fun _ h9 => h9) rfl dX7_winter_18 ?_
      refine lv_aload_n hx hb dX7_winter_21 rfl (lv_at hl 0 rfl) ?_
      refine va_get (D := D) (ci := 7) (v := .ref j0) (C := RX7) (T := TX7) (N := 9) hx hb hts hi_X7_winter_7 hown hK hP 0 rfl rfl 1 (by decide) (hts (.fieldLink RX7 18 "TheLiningsInIt" "now" "LTheLiningsInIt$Jacket;") (List.mem_of_getElem? (i := 2) rfl)) (fun _ h9 => h9) rfl dX7_winter_22 ?_
      refine lv_aload_n hx hb dX7_winter_25 rfl (lv_at hl 0 rfl) ?_
      refine va_get (D := D) (ci := 7) (v := .ref j0) (C := RX7) (T := TX7) (N := 9) hx hb hts hi_X7_winter_7 hown hK hP 0 rfl rfl 1 (by decide) (hts (.fieldLink RX7 18 "TheLiningsInIt" "now" "LTheLiningsInIt$Jacket;") (List.mem_of_getElem? (i := 2) rfl)) (fun _ h9 => h9) rfl dX7_winter_26 ?_
      refine va_get (D := D) (ci := 0) (v := .int 0) (C := RX0) (T := TX0) (N := 9) hx hb hts hi_X7_winter_0 hown hK hP 6 rfl rfl 7 (by decide) (hts (.fieldLink RX7 116 "TheLiningsInIt$Jacket" "hurry" "I") (List.mem_of_getElem? (i := 3) rfl)) (fun _ h9 => h9) rfl dX7_winter_29 ?_
      refine lv_iconst (v := 1) hx hb dX7_winter_32 (by decide) ?_
      skip
      refine zw_Vv (As := [.ref j0, .int 0, .int 1]) (rest := []) (wr := [(x0, .inr (7, [.ref xs, .ref j0, .ref k0, .ref w0, .ref rd, .ref mv, .ref xr, .int 0, .int (-1)])), (xr, .inl (cI, 8, .inl (fun _ => 0))), (z0, .inr (6, [.ref zl, .ref zs, .int 20, .int 0, .int 3])), (zl, .inl (cZ, 40, .inl (fun _ => 0))), (zs, .inl (cI, 40, .inl (fun _ => 0)))]) ⟨hx, hb, hml, hown, hts⟩ (c_look l D cI cJ cZ cP cS w0 wk wl wc wp j0 jp jc z0 0 0 fk fl fc (0) (0) (0) (0) (1)  H.size) (cwV 3 hts gX7_winter_X5_look rfl rfl rfl (by decide +kernel) ⟨Nat.le_of_ble_eq_true rfl, Nat.le_of_ble_eq_true rfl⟩) hK hN (hZ.kept hS) hP hD hS hA [2, 3, 4, 5, 6, 7] [0, 1, 8, 9, 10] rfl rfl (by decide) (by decide) (by decide) (va_recv hK hP (ci := 5) (q0 := 2) rfl rfl) rfl hl.1 rfl (Nat.le_of_ble_eq_true rfl) dX7_winter_33 ⟨Nat.le_of_ble_eq_true rfl, Nat.le_of_ble_eq_true rfl⟩ (fun u_15 H locs hr_14 hP hD hS => ?_)
      obtain ⟨q_16, q_17, q_18⟩ := u_15
      replace hP : va_P D vwCl [(x0, .inr (7, [.ref xs, .ref j0, .ref k0, .ref w0, .ref rd, .ref mv, .ref xr, .int 0, .int (-1)])), (xr, .inl (cI, 8, .inl (fun _ => 0))), (z0, .inr (6, [.ref zl, .ref zs, .int 20, .int 0, .int 3])), (zl, .inl (cZ, 40, .inl (fun _ => 0))), (zs, .inl (cI, 40, .inl (fun _ => 0))), (w0, .inr (5, [.ref wk, .ref wl, .ref wc, .ref wp, .int 0, .int 0, .int 0])), (wk, .inl (cI, 125, .inl q_16)), (wl, .inl (cI, 125, .inl q_17)), (wc, .inl (cI, 3, .inl q_18)), (j0, .inr (0, [.ref z0, .ref jp, .ref jc, .int 0, .int 0, .int 0, .int 60, .int 0, .int 1])), (jc, .inl (cI, 3, .inl (zL3 5 10 50)))] H := hP
      replace hD : va_D _ [(x0, .inr (7, [.ref xs, .ref j0, .ref k0, .ref w0, .ref rd, .ref mv, .ref xr, .int 0, .int (-1)])), (xr, .inl (cI, 8, .inl (fun _ => 0))), (z0, .inr (6, [.ref zl, .ref zs, .int 20, .int 0, .int 3])), (zl, .inl (cZ, 40, .inl (fun _ => 0))), (zs, .inl (cI, 40, .inl (fun _ => 0))), (w0, .inr (5, [.ref wk, .ref wl, .ref wc, .ref wp, .int 0, .int 0, .int 0])), (wk, .inl (cI, 125, .inl q_16)), (wl, .inl (cI, 125, .inl q_17)), (wc, .inl (cI, 3, .inl q_18)), (j0, .inr (0, [.ref z0, .ref jp, .ref jc, .int 0, .int 0, .int 0, .int 60, .int 0, .int 1])), (jc, .inl (cI, 3, .inl (zL3 5 10 50)))] := hD
      refine lv_iconst (v := 0) hx hb dX7_winter_36 (by decide) ?_
      refine lv_istore_n (lv' := [(2, .int 0), (0, .ref x0), (1, .int n)]) hx hb dX7_winter_37 rfl hl (by decide) rfl (fun ls hl => ?_)
      refine lv_iconst (v := 0) hx hb dX7_winter_38 (by decide) ?_
      refine lv_istore_n (lv' := [(3, .int 0), (2, .int 0), (0, .ref x0), (1, .int n)]) hx hb dX7_winter_39 rfl hl (by decide) rfl (fun ls hl => ?_)
      obtain ⟨i_40, hi_40⟩ : ∃ i : Int32, i = 0 := ⟨_, rfl⟩
      replace hl : lv_has ls 4 [(3, .int i_40), (2, .int i_40), (0, .ref x0), (1, .int n)] := by rw [hi_40]; exact lv_sub hl [0, 1, 2, 3] rfl
      have h1i_40 : i_40.toInt = 0 := by rw [hi_40]; decide
      obtain ⟨nfu, hni_40⟩ : ∃ nq9 : Nat, i_40.toInt + (nq9 : Int) = n.toInt := ⟨((n.toInt : Int) - 0).toNat, by omega⟩
      have hloi_40 : 0 ≤ i_40.toInt := by omega
      clear h1i_40 hi_40
      obtain ⟨v_19, hv_19⟩ : ∃ g : Int32, g = 0 := ⟨_, rfl⟩
      replace hP : va_P D vwCl [(x0, .inr (7, [.ref xs, .ref j0, .ref k0, .ref w0, .ref rd, .ref mv, .ref xr, .int 0, .int (-1)])), (xr, .inl (cI, 8, .inl (fun _ => 0))), (z0, .inr (6, [.ref zl, .ref zs, .int 20, .int v_19, .int 3])), (zl, .inl (cZ, 40, .inl (fun _ => 0))), (zs, .inl (cI, 40, .inl (fun _ => 0))), (w0, .inr (5, [.ref wk, .ref wl, .ref wc, .ref wp, .int 0, .int 0, .int 0])), (wk, .inl (cI, 125, .inl q_16)), (wl, .inl (cI, 125, .inl q_17)), (wc, .inl (cI, 3, .inl q_18)), (j0, .inr (0, [.ref z0, .ref jp, .ref jc, .int 0, .int 0, .int 0, .int 60, .int 0, .int 1])), (jc, .inl (cI, 3, .inl (zL3 5 10 50)))] H := by rw [hv_19]; exact hP
      replace hD : va_D (va_A [(x0, .inr (7, [.ref xs, .ref j0, .ref k0, .ref w0, .ref rd, .ref mv, .ref xr, .int 0, .int (-1)])), (xr, .inl (cI, 8, .inl (fun _ => 0))), (w0, .inr (5, [.ref wk, .ref wl, .ref wc, .ref wp, .int 0, .int 0, .int 0])), (wk, .inl (cI, 125, .inl fk)), (wl, .inl (cI, 125, .inl fl)), (wc, .inl (cI, 3, .inl fc)), (j0, .inr (0, [.ref z0, .ref jp, .ref jc, .int 0, .int 0, .int 0, .int 60, .int 0, .int 1])), (jc, .inl (cI, 3, .inl (zL3 5 10 50))), (z0, .inr (6, [.ref zl, .ref zs, .int 20, .int 0, .int 3])), (zl, .inl (cZ, 40, .inl (fun _ => 0))), (zs, .inl (cI, 40, .inl (fun _ => 0)))] s.heap.size) [(x0, .inr (7, [.ref xs, .ref j0, .ref k0, .ref w0, .ref rd, .ref mv, .ref xr, .int 0, .int (-1)])), (xr, .inl (cI, 8, .inl (fun _ => 0))), (z0, .inr (6, [.ref zl, .ref zs, .int 20, .int v_19, .int 3])), (zl, .inl (cZ, 40, .inl (fun _ => 0))), (zs, .inl (cI, 40, .inl (fun _ => 0))), (w0, .inr (5, [.ref wk, .ref wl, .ref wc, .ref wp, .int 0, .int 0, .int 0])), (wk, .inl (cI, 125, .inl q_16)), (wl, .inl (cI, 125, .inl q_17)), (wc, .inl (cI, 3, .inl q_18)), (j0, .inr (0, [.ref z0, .ref jp, .ref jc, .int 0, .int 0, .int 0, .int 60, .int 0, .int 1])), (jc, .inl (cI, 3, .inl (zL3 5 10 50)))] := by rw [hv_19]; exact hD
      clear hv_19
      skip
      revert hni_40
      revert hloi_40
      revert hl
      revert hS
      revert hD
      revert hP
      revert ls
      revert locs
      revert H
      revert v_19
      revert i_40
      induction nfu with
      | zero =>
        intro i_40 v_19 H locs ls hP hD hS hl hloi_40 hni_40
        have hzi_40 : i_40.toInt = n.toInt := by omega
        refine lv_iload_n hx hb dX7_winter_40 rfl (lv_at hl 0 rfl) ?_
        refine lv_iload_n hx hb dX7_winter_41 rfl (lv_at hl 3 rfl) ?_
        refine lv_icmp_ge (tgt := 68) hx hb dX7_winter_42 (by decide) (fun c_20 => ?_) (fun c_20 => ?_)
        · have fc_20 : n.toInt ≤ i_40.toInt := zf_le c_20 rfl rfl
          refine lv_iload_n hx hb dX7_winter_68 rfl (lv_at hl 1 rfl) ?_
          have hv9 : i_40 = n := zf_val hzi_40 rfl
          rw [hv9]
          exact W.iret (v := n) hx hb hr (fun t ht hW => ⟨⟨n, (), rfl, Or.inr (Or.inr (⟨rfl, (by first | omega | decide), (by first | omega | decide)⟩)), zP_nil, zD_nil⟩, hS.F ht⟩) hS.2.2 dX7_winter_69
        · exfalso; have fc_20 : i_40.toInt < n.toInt := zf_nle c_20 rfl rfl; omega
      | succ nfu ih =>
        intro i_40 v_19 H locs ls hP hD hS hl hloi_40 hni_40
        have hzi_40 : i_40.toInt < n.toInt := by omega
        refine lv_iload_n hx hb dX7_winter_40 rfl (lv_at hl 0 rfl) ?_
        refine lv_iload_n hx hb dX7_winter_41 rfl (lv_at hl 3 rfl) ?_
        refine lv_icmp_ge (tgt := 68) hx hb dX7_winter_42 (by decide) (fun c_21 => ?_) (fun c_21 => ?_)
        · exfalso; have fc_21 : n.toInt ≤ i_40.toInt := zf_le c_21 rfl rfl; omega
        · have fc_21 : i_40.toInt < n.toInt := zf_nle c_21 rfl rfl
          refine lv_aload_n hx hb dX7_winter_45 rfl (lv_at hl 2 rfl) ?_
          refine va_get (D := D) (ci := 7) (v := .ref j0) (C := RX7) (T := TX7) (N := 9) hx hb hts hi_X7_winter_7 hown hK hP 0 rfl rfl 1 (by decide) (hts (.fieldLink RX7 18 "TheLiningsInIt" "now" "LTheLiningsInIt$Jacket;") (List.mem_of_getElem? (i := 2) rfl)) (fun _ h9 => h9) rfl dX7_winter_46 ?_
          refine lv_aload_n hx hb dX7_winter_49 rfl (lv_at hl 2 rfl) ?_
          refine va_get (D := D) (ci := 7) (v := .ref w0) (C := RX7) (T := TX7) (N := 9) hx hb hts hi_X7_winter_7 hown hK hP 0 rfl rfl 3 (by decide) (hts (.fieldLink RX7 28 "TheLiningsInIt" "ways" "LTheLiningsInIt$Ways;") (List.mem_of_getElem? (i := 1) rfl)) (fun _ h9 => h9) rfl dX7_winter_50 ?_
          skip
          refine zw_V (As := [.ref w0]) (rest := []) (wr := [(x0, .inr (7, [.ref xs, .ref j0, .ref k0, .ref w0, .ref rd, .ref mv, .ref xr, .int 0, .int (-1)])), (xr, .inl (cI, 8, .inl (fun _ => 0))), (w0, .inr (5, [.ref wk, .ref wl, .ref wc, .ref wp, .int 0, .int 0, .int 0])), (wk, .inl (cI, 125, .inl q_16)), (wl, .inl (cI, 125, .inl q_17)), (wc, .inl (cI, 3, .inl q_18)), (jc, .inl (cI, 3, .inl (zL3 5 10 50)))]) ⟨hx, hb, hml, hown, hts⟩ (c_J_dayInTruth l D cI cJ cZ cP cS j0 jp jc z0 zl zs w0 (v_19)  H.size) (cwV 1 hts gX7_winter_X0_dayInTruth rfl rfl rfl (by decide +kernel) ⟨Nat.le_of_ble_eq_true rfl, Nat.le_of_ble_eq_true rfl⟩) hK hN (hZ.kept hS) hP hD hS hA [9, 2, 3, 4] [0, 1, 5, 6, 7, 8, 10] rfl rfl (by decide) (by decide) (by decide) (va_recv hK hP (ci := 0) (q0 := 9) rfl rfl) rfl hl.1 rfl (Nat.le_of_ble_eq_true rfl) dX7_winter_53 ⟨Nat.le_of_ble_eq_true rfl, Nat.le_of_ble_eq_true rfl⟩ (fun r_22 u_23 H locs hr_22 hP hD hS => ?_)
          replace hP : va_P D vwCl [(x0, .inr (7, [.ref xs, .ref j0, .ref k0, .ref w0, .ref rd, .ref mv, .ref xr, .int 0, .int (-1)])), (xr, .inl (cI, 8, .inl (fun _ => 0))), (w0, .inr (5, [.ref wk, .ref wl, .ref wc, .ref wp, .int 0, .int 0, .int 0])), (wk, .inl (cI, 125, .inl q_16)), (wl, .inl (cI, 125, .inl q_17)), (wc, .inl (cI, 3, .inl q_18)), (jc, .inl (cI, 3, .inl (zL3 5 10 50))), (j0, .inr (0, [.ref z0, .ref jp, .ref jc, .int 0, .int 0, .int 0, .int 60, .int 0, .int 1])), (z0, .inr (6, [.ref zl, .ref zs, .int 20, .int 20, .int 3])), (zl, .inl (cZ, 40, .inl (fun _ => 0))), (zs, .inl (cI, 40, .inl (fun _ => 0)))] H := hP
          replace hD : va_D _ [(x0, .inr (7, [.ref xs, .ref j0, .ref k0, .ref w0, .ref rd, .ref mv, .ref xr, .int 0, .int (-1)])), (xr, .inl (cI, 8, .inl (fun _ => 0))), (w0, .inr (5, [.ref wk, .ref wl, .ref wc, .ref wp, .int 0, .int 0, .int 0])), (wk, .inl (cI, 125, .inl q_16)), (wl, .inl (cI, 125, .inl q_17)), (wc, .inl (cI, 3, .inl q_18)), (jc, .inl (cI, 3, .inl (zL3 5 10 50))), (j0, .inr (0, [.ref z0, .ref jp, .ref jc, .int 0, .int 0, .int 0, .int 60, .int 0, .int 1])), (z0, .inr (6, [.ref zl, .ref zs, .int 20, .int 20, .int 3])), (zl, .inl (cZ, 40, .inl (fun _ => 0))), (zs, .inl (cI, 40, .inl (fun _ => 0)))] := hD
          obtain rfl := hr_22
          refine lv_if_eq (tgt := 62) hx hb dX7_winter_56 (by decide) (fun c_24 => ?_) (fun c_24 => ?_)
          · exact absurd c_24 (by decide)
          · obtain ⟨x_25, ex_25⟩ : ∃ y : Int32, y = i_40 + 1 := ⟨_, rfl⟩
            have qx_25 : x_25.toInt = i_40.toInt + 1 := by rw [ex_25]; exact zf_add rfl (by decide) (by omega) (by omega)
            refine lv_iinc (v := x_25) (lv' := [(2, .int x_25), (3, .int i_40), (0, .ref x0), (1, .int n)]) hx hb dX7_winter_59 hl (k := 1) rfl ex_25.symm (by decide) rfl (fun ls hl => ?_)
            refine lv_iinc (v := x_25) (lv' := [(3, .int x_25), (2, .int x_25), (0, .ref x0), (1, .int n)]) hx hb dX7_winter_62 hl (k := 1) rfl ex_25.symm (by decide) rfl (fun ls hl => ?_)
            refine lv_goto (tgt := 40) hx hb dX7_winter_65 (by decide) ?_
            exact ih x_25 (20) _ _ _ (hP.sub [0, 1, 8, 9, 10, 2, 3, 4, 5, 7, 6] rfl) (hD.sub [0, 1, 8, 9, 10, 2, 3, 4, 5, 7, 6] (by decide) rfl) hS (lv_sub hl [0, 1, 2, 3] rfl) (by omega) (by omega)
    · exact absurd c_13 (by decide)
