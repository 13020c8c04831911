theorem hi_X7_pull_7 : ∀ w ∈ u_ws RX7 TX7 9, w ∈ wsX7_pull := by decide +kernel
theorem hi_X7_pull_0 : ∀ w ∈ u_ws RX0 TX0 9, w ∈ wsX7_pull := by decide +kernel
set_option maxHeartbeats 4000000 in
set_option maxRecDepth 100000 in
theorem c_pull (l : Launch) (D : va_G) (cI cJ cZ cP cS : ClassId) (x0 xs j0 k0 w0 rd mv xr : Nat) (jp jc z0 zl zs : Nat) (ki a_ ta : Int32)  (sz : Nat) : Met l yX7_pull wsX7_pull ({ frames := 3, cells := 1, slots := 3, locals := 58 }) (va_Pc [.ref x0, .int ki, .int a_, .int ta] (zW D (zKT cI cJ cZ cP cS) [(x0, .inr (7, [.ref xs, .ref j0, .ref k0, .ref w0, .ref rd, .ref mv, .ref xr, .int 0, .int (-1)])), (xr, .inl (cI, 8, .inl (fun _ => 0))), (j0, .inr (0, [.ref z0, .ref jp, .ref jc, .int 0, .int 0, .int 0, .int 60, .int 0, .int 1])), (jp, .inl (cP, 8, .inr (.inr (.inr (.inr (fun _ => none))))))] sz)) (va_Qi (fun (r : Int32) (_ : Unit) => (r = (-1) ∧ ki.toInt < 0) ∨ (r = (-1) ∧ 0 ≤ ki.toInt ∧ 6 < ki.toInt) ∨ (r = (-6) ∧ 0 ≤ ki.toInt ∧ ki.toInt ≤ 6 ∧ a_.toInt < 0) ∨ (r = (-6) ∧ 0 ≤ ki.toInt ∧ ki.toInt ≤ 6 ∧ 0 ≤ a_.toInt ∧ 9 < a_.toInt) ∨ (r = (-6) ∧ 0 ≤ ki.toInt ∧ ki.toInt ≤ 6 ∧ 0 ≤ a_.toInt ∧ a_.toInt ≤ 9 ∧ ta.toInt < 1) ∨ (r = (-6) ∧ 0 ≤ ki.toInt ∧ ki.toInt ≤ 6 ∧ 0 ≤ a_.toInt ∧ a_.toInt ≤ 9 ∧ 1 ≤ ta.toInt ∧ 60 < ta.toInt) ∨ (r = 0 ∧ 0 ≤ ki.toInt ∧ ki.toInt ≤ 6 ∧ 0 ≤ a_.toInt ∧ a_.toInt ≤ 9 ∧ 1 ≤ ta.toInt ∧ ta.toInt ≤ 60)) (zB D [(x0, .inr (7, [.ref xs, .ref j0, .ref k0, .ref w0, .ref rd, .ref mv, .ref xr, .int 0, .int (-1)])), (xr, .inl (cI, 8, .inl (fun _ => 0))), (j0, .inr (0, [.ref z0, .ref jp, .ref jc, .int 0, .int 0, .int 0, .int 60, .int 0, .int 1])), (jp, .inl (cP, 8, .inr (.inr (.inr (.inr (fun _ => none))))))] sz (fun (_ : Unit) => ([] : va_W))) (va_A [(x0, .inr (7, [.ref xs, .ref j0, .ref k0, .ref w0, .ref rd, .ref mv, .ref xr, .int 0, .int (-1)])), (xr, .inl (cI, 8, .inl (fun _ => 0))), (j0, .inr (0, [.ref z0, .ref jp, .ref jc, .int 0, .int 0, .int 0, .int 60, .int 0, .int 1])), (jp, .inl (cP, 8, .inr (.inr (.inr (.inr (fun _ => none))))))] sz)) 1 3 (va_A [(x0, .inr (7, [.ref xs, .ref j0, .ref k0, .ref w0, .ref rd, .ref mv, .ref xr, .int 0, .int (-1)])), (xr, .inl (cI, 8, .inl (fun _ => 0))), (j0, .inr (0, [.ref z0, .ref jp, .ref jc, .int 0, .int 0, .int 0, .int 60, .int 0, .int 1])), (jp, .inl (cP, 8, .inr (.inr (.inr (.inr (fun _ => none))))))] sz) := by
  refine Met.ofW (cc := cX7_pull) (maxL := 4) (ret := (some .int)) (by decide) rfl ?_
  intro p e s m args below meth c s₁ B hml hv
  obtain ⟨rfl, hsz, hP, hK, hD0, hN, hZ⟩ := hv
  have hx := B.exec
  have hb := B.bytes
  have hr := B.returns
  have hts := atoms_spec (ws := wsX7_pull) B.pre
  have hown : s.vm.findClass RX7 = some m.cls := findClass_of_methodNamed B.named
  have hlocks := B.notSynchronized
  subst hsz
  have hD := hD0.self (sz := s.heap.size)
  have hA : ∀ q : Nat, s.heap.size ≤ q → va_A [(x0, .inr (7, [.ref xs, .ref j0, .ref k0, .ref w0, .ref rd, .ref mv, .ref xr, .int 0, .int (-1)])), (xr, .inl (cI, 8, .inl (fun _ => 0))), (j0, .inr (0, [.ref z0, .ref jp, .ref jc, .int 0, .int 0, .int 0, .int 60, .int 0, .int 1])), (jp, .inl (cP, 8, .inr (.inr (.inr (.inr (fun _ => none))))))] s.heap.size q := fun q h => Or.inr h
  have hS : va_S (va_A [(x0, .inr (7, [.ref xs, .ref j0, .ref k0, .ref w0, .ref rd, .ref mv, .ref xr, .int 0, .int (-1)])), (xr, .inl (cI, 8, .inl (fun _ => 0))), (j0, .inr (0, [.ref z0, .ref jp, .ref jc, .int 0, .int 0, .int 0, .int 60, .int 0, .int 1])), (jp, .inl (cP, 8, .inr (.inr (.inr (.inr (fun _ => none))))))] s.heap.size) s.heap s.heap [] := va_S.rf
  replace hP : va_P D vwCl _ s.heap := hP
  have hl := lv_entry ([.ref x0, .int ki, .int a_, .int ta]) (n := 4) (Nat.le_of_ble_eq_true rfl)
  rw [lg_entry_eq]
  generalize (lg_sl ([.ref x0, .int ki, .int a_, .int ta]) ++ List.replicate (4 - (lg_sl ([.ref x0, .int ki, .int a_, .int ta])).length) Slot.unset).toArray = ls at hl ⊢
  replace hl : lv_has ls 4 [(0, .ref x0), (1, .int ki), (2, .int a_), (3, .int ta)] := hl
  refine zw_start (fun H locs hH hL => ?_)
  replace hP : va_P D vwCl [(x0, .inr (7, [.ref xs, .ref j0, .ref k0, .ref w0, .ref rd, .ref mv, .ref xr, .int 0, .int (-1)])), (xr, .inl (cI, 8, .inl (fun _ => 0))), (j0, .inr (0, [.ref z0, .ref jp, .ref jc, .int 0, .int 0, .int 0, .int 60, .int 0, .int 1])), (jp, .inl (cP, 8, .inr (.inr (.inr (.inr (fun _ => none))))))] H := by rw [hH]; exact hP
  replace hS : va_S (va_A [(x0, .inr (7, [.ref xs, .ref j0, .ref k0, .ref w0, .ref rd, .ref mv, .ref xr, .int 0, .int (-1)])), (xr, .inl (cI, 8, .inl (fun _ => 0))), (j0, .inr (0, [.ref z0, .ref jp, .ref jc, .int 0, .int 0, .int 0, .int 60, .int 0, .int 1])), (jp, .inl (cP, 8, .inr (.inr (.inr (.inr (fun _ => none))))))] s.heap.size) s.heap H locs := by rw [hH, hL]; exact hS
  clear hH hL
  refine lv_iload_n hx hb dX7_pull_0 rfl (lv_at hl 1 rfl) ?_
  refine lv_iconst (v := 0) hx hb dX7_pull_1 (by decide) ?_
  refine lv_bipush (v := 6) hx hb dX7_pull_2 (by decide) ?_
  have kc0 : (0 : Int32).toInt = 0 := by decide
  have kc6 : (6 : Int32).toInt = 6 := by decide
  refine zc_S (As := [.int ki, .int 0, .int 6]) (rest := []) ⟨hx, hb, hml, hown, hts⟩ (c_within l D cI cJ cZ cP cS (ki) (0) (6) ) (va_cwS 3 hts gX7_pull_X7_within rfl rfl rfl (by decide +kernel) ⟨Nat.le_of_ble_eq_true rfl, Nat.le_of_ble_eq_true rfl⟩) hK hN (hZ.kept hS) rfl hl.1 rfl (Nat.le_of_ble_eq_true rfl) dX7_pull_4 ⟨Nat.le_of_ble_eq_true rfl, Nat.le_of_ble_eq_true rfl⟩ (fun r_1 hr_1 => ?_)
  rcases hr_1 with ⟨rfl, g_2⟩ | ⟨rfl, g_3, g_4⟩ | ⟨rfl, g_5, g_6⟩
  · refine lv_if_ne (tgt := 16) hx hb dX7_pull_7 (by decide) (fun c_7 => ?_) (fun c_7 => ?_)
    · exact absurd c_7 (by decide)
    · refine lv_aload_n hx hb dX7_pull_10 rfl (lv_at hl 0 rfl) ?_
      refine lv_iconst (v := 1) hx hb dX7_pull_11 (by decide) ?_
      skip
      refine zw_V (As := [.int 1]) (rest := []) (wr := []) ⟨hx, hb, hml, hown, hts⟩ (c_refuse_1 l D cI cJ cZ cP cS x0 xs j0 k0 w0 rd mv xr  H.size) (cwV 1 hts gX7_pull_X7_refuse rfl rfl rfl (by decide +kernel) ⟨Nat.le_of_ble_eq_true rfl, Nat.le_of_ble_eq_true rfl⟩) hK hN (hZ.kept hS) hP hD hS hA [0, 1] [] rfl rfl (by decide) (by decide) (by decide) (va_recv hK hP (ci := 7) (q0 := 0) rfl rfl) rfl hl.1 rfl (Nat.le_of_ble_eq_true rfl) dX7_pull_12 ⟨Nat.le_of_ble_eq_true rfl, Nat.le_of_ble_eq_true rfl⟩ (fun r_8 u_9 H locs hr_8 hP hD hS => ?_)
      obtain rfl := hr_8
      refine W.widen (k := 1) (n := 3) (Nat.le_of_ble_eq_true rfl) (Nat.le_of_ble_eq_true rfl) ?_
      exact W.iret (v := (-1)) hx hb hr (fun t ht hW => ⟨⟨(-1), (), rfl, Or.inl (⟨rfl, (by first | omega | decide)⟩), zP_nil, zD_nil⟩, hS.F ht⟩) hS.2.2 dX7_pull_15
  · refine lv_if_ne (tgt := 16) hx hb dX7_pull_7 (by decide) (fun c_10 => ?_) (fun c_10 => ?_)
    · exact absurd c_10 (by decide)
    · refine lv_aload_n hx hb dX7_pull_10 rfl (lv_at hl 0 rfl) ?_
      refine lv_iconst (v := 1) hx hb dX7_pull_11 (by decide) ?_
      skip
      refine zw_V (As := [.int 1]) (rest := []) (wr := []) ⟨hx, hb, hml, hown, hts⟩ (c_refuse_1 l D cI cJ cZ cP cS x0 xs j0 k0 w0 rd mv xr  H.size) (cwV 1 hts gX7_pull_X7_refuse rfl rfl rfl (by decide +kernel) ⟨Nat.le_of_ble_eq_true rfl, Nat.le_of_ble_eq_true rfl⟩) hK hN (hZ.kept hS) hP hD hS hA [0, 1] [] rfl rfl (by decide) (by decide) (by decide) (va_recv hK hP (ci := 7) (q0 := 0) rfl rfl) rfl hl.1 rfl (Nat.le_of_ble_eq_true rfl) dX7_pull_12 ⟨Nat.le_of_ble_eq_true rfl, Nat.le_of_ble_eq_true rfl⟩ (fun r_11 u_12 H locs hr_11 hP hD hS => ?_)
      obtain rfl := hr_11
      refine W.widen (k := 1) (n := 3) (Nat.le_of_ble_eq_true rfl) (Nat.le_of_ble_eq_true rfl) ?_
      exact W.iret (v := (-1)) hx hb hr (fun t ht hW => ⟨⟨(-1), (), rfl, Or.inr (Or.inl (⟨rfl, (by first | omega | decide), (by first | omega | decide)⟩)), zP_nil, zD_nil⟩, hS.F ht⟩) hS.2.2 dX7_pull_15
  · refine lv_if_ne (tgt := 16) hx hb dX7_pull_7 (by decide) (fun c_13 => ?_) (fun c_13 => ?_)
    · refine lv_iload_n hx hb dX7_pull_16 rfl (lv_at hl 2 rfl) ?_
      refine lv_iconst (v := 0) hx hb dX7_pull_17 (by decide) ?_
      refine lv_bipush (v := 9) hx hb dX7_pull_18 (by decide) ?_
      have kc9 : (9 : Int32).toInt = 9 := by decide
      refine zc_S (As := [.int a_, .int 0, .int 9]) (rest := []) ⟨hx, hb, hml, hown, hts⟩ (c_within l D cI cJ cZ cP cS (a_) (0) (9) ) (va_cwS 3 hts gX7_pull_X7_within rfl rfl rfl (by decide +kernel) ⟨Nat.le_of_ble_eq_true rfl, Nat.le_of_ble_eq_true rfl⟩) hK hN (hZ.kept hS) rfl hl.1 rfl (Nat.le_of_ble_eq_true rfl) dX7_pull_20 ⟨Nat.le_of_ble_eq_true rfl, Nat.le_of_ble_eq_true rfl⟩ (fun r_14 hr_14 => ?_)
      rcases hr_14 with ⟨rfl, g_15⟩ | ⟨rfl, g_16, g_17⟩ | ⟨rfl, g_18, g_19⟩
      · refine lv_if_eq (tgt := 36) hx hb dX7_pull_23 (by decide) (fun c_20 => ?_) (fun c_20 => ?_)
        · refine lv_aload_n hx hb dX7_pull_36 rfl (lv_at hl 0 rfl) ?_
          refine lv_bipush (v := 6) hx hb dX7_pull_37 (by decide) ?_
          skip
          refine zw_V (As := [.int 6]) (rest := []) (wr := []) ⟨hx, hb, hml, hown, hts⟩ (c_refuse_6 l D cI cJ cZ cP cS x0 xs j0 k0 w0 rd mv xr  H.size) (cwV 1 hts gX7_pull_X7_refuse rfl rfl rfl (by decide +kernel) ⟨Nat.le_of_ble_eq_true rfl, Nat.le_of_ble_eq_true rfl⟩) hK hN (hZ.kept hS) hP hD hS hA [0, 1] [] rfl rfl (by decide) (by decide) (by decide) (va_recv hK hP (ci := 7) (q0 := 0) rfl rfl) rfl hl.1 rfl (Nat.le_of_ble_eq_true rfl) dX7_pull_39 ⟨Nat.le_of_ble_eq_true rfl, Nat.le_of_ble_eq_true rfl⟩ (fun r_21 u_22 H locs hr_21 hP hD hS => ?_)
          obtain rfl := hr_21
          refine W.widen (k := 1) (n := 3) (Nat.le_of_ble_eq_true rfl) (Nat.le_of_ble_eq_true rfl) ?_
          exact W.iret (v := (-6)) hx hb hr (fun t ht hW => ⟨⟨(-6), (), rfl, Or.inr (Or.inr (Or.inl (⟨rfl, (by first | omega | decide), (by first | omega | decide), (by first | omega | decide)⟩))), zP_nil, zD_nil⟩, hS.F ht⟩) hS.2.2 dX7_pull_42
        · exact absurd c_20 (by decide)
      · refine lv_if_eq (tgt := 36) hx hb dX7_pull_23 (by decide) (fun c_23 => ?_) (fun c_23 => ?_)
        · refine lv_aload_n hx hb dX7_pull_36 rfl (lv_at hl 0 rfl) ?_
          refine lv_bipush (v := 6) hx hb dX7_pull_37 (by decide) ?_
          skip
          refine zw_V (As := [.int 6]) (rest := []) (wr := []) ⟨hx, hb, hml, hown, hts⟩ (c_refuse_6 l D cI cJ cZ cP cS x0 xs j0 k0 w0 rd mv xr  H.size) (cwV 1 hts gX7_pull_X7_refuse rfl rfl rfl (by decide +kernel) ⟨Nat.le_of_ble_eq_true rfl, Nat.le_of_ble_eq_true rfl⟩) hK hN (hZ.kept hS) hP hD hS hA [0, 1] [] rfl rfl (by decide) (by decide) (by decide) (va_recv hK hP (ci := 7) (q0 := 0) rfl rfl) rfl hl.1 rfl (Nat.le_of_ble_eq_true rfl) dX7_pull_39 ⟨Nat.le_of_ble_eq_true rfl, Nat.le_of_ble_eq_true rfl⟩ (fun r_24 u_25 H locs hr_24 hP hD hS => ?_)
          obtain rfl := hr_24
          refine W.widen (k := 1) (n := 3) (Nat.le_of_ble_eq_true rfl) (Nat.le_of_ble_eq_true rfl) ?_
          exact W.iret (v := (-6)) hx hb hr (fun t ht hW => ⟨⟨(-6), (), rfl, Or.inr (Or.inr (Or.inr (Or.inl (⟨rfl, (by first | omega | decide), (by first | omega | decide), (by first | omega | decide), (by first | omega | decide)⟩)))), zP_nil, zD_nil⟩, hS.F ht⟩) hS.2.2 dX7_pull_42
        · exact absurd c_23 (by decide)
      · refine lv_if_eq (tgt := 36) hx hb dX7_pull_23 (by decide) (fun c_26 => ?_) (fun c_26 => ?_)
        · exact absurd c_26 (by decide)
        · refine lv_iload_n hx hb dX7_pull_26 rfl (lv_at hl 3 rfl) ?_
          refine lv_iconst (v := 1) hx hb dX7_pull_27 (by decide) ?_
          refine lv_bipush (v := 60) hx hb dX7_pull_28 (by decide) ?_
          have kc1 : (1 : Int32).toInt = 1 := by decide
          have kc60 : (60 : Int32).toInt = 60 := by decide
          refine zc_S (As := [.int ta, .int 1, .int 60]) (rest := []) ⟨hx, hb, hml, hown, hts⟩ (c_within l D cI cJ cZ cP cS (ta) (1) (60) ) (va_cwS 3 hts gX7_pull_X7_within rfl rfl rfl (by decide +kernel) ⟨Nat.le_of_ble_eq_true rfl, Nat.le_of_ble_eq_true rfl⟩) hK hN (hZ.kept hS) rfl hl.1 rfl (Nat.le_of_ble_eq_true rfl) dX7_pull_30 ⟨Nat.le_of_ble_eq_true rfl, Nat.le_of_ble_eq_true rfl⟩ (fun r_27 hr_27 => ?_)
          rcases hr_27 with ⟨rfl, g_28⟩ | ⟨rfl, g_29, g_30⟩ | ⟨rfl, g_31, g_32⟩
          · refine lv_if_ne (tgt := 43) hx hb dX7_pull_33 (by decide) (fun c_33 => ?_) (fun c_33 => ?_)
            · exact absurd c_33 (by decide)
            · refine lv_aload_n hx hb dX7_pull_36 rfl (lv_at hl 0 rfl) ?_
              refine lv_bipush (v := 6) hx hb dX7_pull_37 (by decide) ?_
              skip
              refine zw_V (As := [.int 6]) (rest := []) (wr := []) ⟨hx, hb, hml, hown, hts⟩ (c_refuse_6 l D cI cJ cZ cP cS x0 xs j0 k0 w0 rd mv xr  H.size) (cwV 1 hts gX7_pull_X7_refuse rfl rfl rfl (by decide +kernel) ⟨Nat.le_of_ble_eq_true rfl, Nat.le_of_ble_eq_true rfl⟩) hK hN (hZ.kept hS) hP hD hS hA [0, 1] [] rfl rfl (by decide) (by decide) (by decide) (va_recv hK hP (ci := 7) (q0 := 0) rfl rfl) rfl hl.1 rfl (Nat.le_of_ble_eq_true rfl) dX7_pull_39 ⟨Nat.le_of_ble_eq_true rfl, Nat.le_of_ble_eq_true rfl⟩ (fun r_34 u_35 H locs hr_34 hP hD hS => ?_)
              obtain rfl := hr_34
              refine W.widen (k := 1) (n := 3) (Nat.le_of_ble_eq_true rfl) (Nat.le_of_ble_eq_true rfl) ?_
              exact W.iret (v := (-6)) hx hb hr (fun t ht hW => ⟨⟨(-6), (), rfl, Or.inr (Or.inr (Or.inr (Or.inr (Or.inl (⟨rfl, (by first | omega | decide), (by first | omega | decide), (by first | omega | decide), (by first | omega | decide), (by first | omega | decide)⟩))))), zP_nil, zD_nil⟩, hS.F ht⟩) hS.2.2 dX7_pull_42
          · refine lv_if_ne (tgt := 43) hx hb dX7_pull_33 (by decide) (fun c_36 => ?_) (fun c_36 => ?_)
            · exact absurd c_36 (by decide)
            · refine lv_aload_n hx hb dX7_pull_36 rfl (lv_at hl 0 rfl) ?_
              refine lv_bipush (v := 6) hx hb dX7_pull_37 (by decide) ?_
              skip
              refine zw_V (As := [.int 6]) (rest := []) (wr := []) ⟨hx, hb, hml, hown, hts⟩ (c_refuse_6 l D cI cJ cZ cP cS x0 xs j0 k0 w0 rd mv xr  H.size) (cwV 1 hts gX7_pull_X7_refuse rfl rfl rfl (by decide +kernel) ⟨Nat.le_of_ble_eq_true rfl, Nat.le_of_ble_eq_true rfl⟩) hK hN (hZ.kept hS) hP hD hS hA [0, 1] [] rfl rfl (by decide) (by decide) (by decide) (va_recv hK hP (ci := 7) (q0 := 0) rfl rfl) rfl hl.1 rfl (Nat.le_of_ble_eq_true rfl) dX7_pull_39 ⟨Nat.le_of_ble_eq_true rfl, Nat.le_of_ble_eq_true rfl⟩ (fun r_37 u_38 H locs hr_37 hP hD hS => ?_)
              obtain rfl := hr_37
              refine W.widen (k := 1) (n := 3) (Nat.le_of_ble_eq_true rfl) (Nat.le_of_ble_eq_true rfl) ?_
              exact W.iret (v := (-6)) hx hb hr (fun t ht hW => ⟨⟨(-6), (), rfl, Or.inr (Or.inr (Or.inr (Or.inr (Or.inr (Or.inl (⟨rfl, (by first | omega | decide), (by first | omega | decide), (by first | omega | decide), (by first | omega | decide), (by first | omega | decide), (by first | omega | decide)⟩)))))), zP_nil, zD_nil⟩, hS.F ht⟩) hS.2.2 dX7_pull_42
          · refine lv_if_ne (tgt := 43) hx hb dX7_pull_33 (by decide) (fun c_39 => ?_) (fun c_39 => ?_)
            · refine lv_aload_n hx hb dX7_pull_43 rfl (lv_at hl 0 rfl) ?_
              refine va_get (D := D) (ci := 7) (v := .ref j0) (C := RX7) (T := TX7) (N := 9) hx hb hts hi_X7_pull_7 hown hK hP 0 rfl rfl 1 (by decide) (hts (.fieldLink RX7 18 "TheLiningsInIt" "now" "LTheLiningsInIt$Jacket;") (List.mem_of_getElem? (i := 1) rfl)) (fun _ h9 => h9) rfl dX7_pull_44 ?_
              refine va_get (D := D) (ci := 0) (v := .int 0) (C := RX0) (T := TX0) (N := 9) hx hb hts hi_X7_pull_0 hown hK hP 2 rfl rfl 3 (by decide) (hts (.fieldLink RX7 123 "TheLiningsInIt$Jacket" "pullCount" "I") (List.mem_of_getElem? (i := 2) rfl)) (fun _ h9 => h9) rfl dX7_pull_47 ?_
              refine lv_bipush (v := 8) hx hb dX7_pull_50 (by decide) ?_
              refine lv_icmp_lt (tgt := 62) hx hb dX7_pull_52 (by decide) (fun c_40 => ?_) (fun c_40 => ?_)
              · refine lv_aload_n hx hb dX7_pull_62 rfl (lv_at hl 0 rfl) ?_
                refine va_get (D := D) (ci := 7) (v := .ref j0) (C := RX7) (T := TX7) (N := 9) hx hb hts hi_X7_pull_7 hown hK hP 0 rfl rfl 1 (by decide) (hts (.fieldLink RX7 18 "TheLiningsInIt" "now" "LTheLiningsInIt$Jacket;") (List.mem_of_getElem? (i := 1) rfl)) (fun _ h9 => h9) rfl dX7_pull_63 ?_
                refine lv_iload_n hx hb dX7_pull_66 rfl (lv_at hl 1 rfl) ?_
                refine lv_iload_n hx hb dX7_pull_67 rfl (lv_at hl 2 rfl) ?_
                refine lv_iload_n hx hb dX7_pull_68 rfl (lv_at hl 3 rfl) ?_
                skip
                refine zw_V (As := [.int ki, .int a_, .int ta]) (rest := []) (wr := []) ⟨hx, hb, hml, hown, hts⟩ (c_J_addPull l D cI cJ cZ cP cS j0 jp jc z0 0 0 (ki) (a_) (ta)  H.size) (cwV 3 hts gX7_pull_X0_addPull rfl rfl rfl (by decide +kernel) ⟨Nat.le_of_ble_eq_true rfl, Nat.le_of_ble_eq_true rfl⟩) hK hN (hZ.kept hS) hP hD hS hA [2, 3] [] rfl rfl (by decide) (by decide) (by decide) (va_recv hK hP (ci := 0) (q0 := 2) rfl rfl) rfl hl.1 rfl (Nat.le_of_ble_eq_true rfl) dX7_pull_69 ⟨Nat.le_of_ble_eq_true rfl, Nat.le_of_ble_eq_true rfl⟩ (fun r_41 u_42 H locs hr_41 hP hD hS => ?_)
                refine W.widen (k := 1) (n := 3) (Nat.le_of_ble_eq_true rfl) (Nat.le_of_ble_eq_true rfl) ?_
                obtain rfl := hr_41
                refine W.widen (k := 1) (n := 3) (Nat.le_of_ble_eq_true rfl) (Nat.le_of_ble_eq_true rfl) ?_
                exact W.iret (v := 0) hx hb hr (fun t ht hW => ⟨⟨0, (), rfl, Or.inr (Or.inr (Or.inr (Or.inr (Or.inr (Or.inr (⟨rfl, (by first | omega | decide), (by first | omega | decide), (by first | omega | decide), (by first | omega | decide), (by first | omega | decide), (by first | omega | decide)⟩)))))), zP_nil, zD_nil⟩, hS.F ht⟩) hS.2.2 dX7_pull_72
              · exact absurd c_40 (by decide)
            · exact absurd c_39 (by decide)
    · exact absurd c_13 (by decide)
theorem hi_X7_pullOf_7 : ∀ w ∈ u_ws RX7 TX7 9, w ∈ wsX7_pullOf := by decide +kernel
set_option maxHeartbeats 4000000 in
set_option maxRecDepth 100000 in
theorem c_pullOf (l : Launch) (D : va_G) (cI cJ cZ cP cS : ClassId) (x0 xs j0 k0 w0 rd mv xr : Nat) (jp jc z0 zl zs : Nat) (p_ w : Int32)  (sz : Nat) : Met l yX7_pullOf wsX7_pullOf ({ frames := 2, cells := 0, slots := 0, locals := 43 }) (va_Pc [.ref x0, .int p_, .int w] (zW D (zKT cI cJ cZ cP cS) [(x0, .inr (7, [.ref xs, .ref j0, .ref k0, .ref w0, .ref rd, .ref mv, .ref xr, .int 0, .int (-1)])), (xr, .inl (cI, 8, .inl (fun _ => 0))), (j0, .inr (0, [.ref z0, .ref jp, .ref jc, .int 0, .int 0, .int 0, .int 60, .int 0, .int 1]))] sz)) (va_Qi (fun (r : Int32) (_ : Unit) => (r = (-5) ∧ p_.toInt < 0) ∨ (r = (-5) ∧ 0 ≤ p_.toInt)) (zB D [(x0, .inr (7, [.ref xs, .ref j0, .ref k0, .ref w0, .ref rd, .ref mv, .ref xr, .int 0, .int (-1)])), (xr, .inl (cI, 8, .inl (fun _ => 0))), (j0, .inr (0, [.ref z0, .ref jp, .ref jc, .int 0, .int 0, .int 0, .int 60, .int 0, .int 1]))] sz (fun (_ : Unit) => ([] : va_W))) (va_A [(x0, .inr (7, [.ref xs, .ref j0, .ref k0, .ref w0, .ref rd, .ref mv, .ref xr, .int 0, .int (-1)])), (xr, .inl (cI, 8, .inl (fun _ => 0))), (j0, .inr (0, [.ref z0, .ref jp, .ref jc, .int 0, .int 0, .int 0, .int 60, .int 0, .int 1]))] sz)) 0 0 (va_A [(x0, .inr (7, [.ref xs, .ref j0, .ref k0, .ref w0, .ref rd, .ref mv, .ref xr, .int 0, .int (-1)])), (xr, .inl (cI, 8, .inl (fun _ => 0))), (j0, .inr (0, [.ref z0, .ref jp, .ref jc, .int 0, .int 0, .int 0, .int 60, .int 0, .int 1]))] sz) := by
  refine Met.ofW (cc := cX7_pullOf) (maxL := 4) (ret := (some .int)) (by decide) rfl ?_
  intro p e s m args below meth c s₁ B hml hv
  obtain ⟨rfl, hsz, hP, hK, hD0, hN, hZ⟩ := hv
  have hx := B.exec
  have hb := B.bytes
  have hr := B.returns
  have hts := atoms_spec (ws := wsX7_pullOf) B.pre
  have hown : s.vm.findClass RX7 = some m.cls := findClass_of_methodNamed B.named
  have hlocks := B.notSynchronized
  subst hsz
  have hD := hD0.self (sz := s.heap.size)
  have hA : ∀ q : Nat, s.heap.size ≤ q → va_A [(x0, .inr (7, [.ref xs, .ref j0, .ref k0, .ref w0, .ref rd, .ref mv, .ref xr, .int 0, .int (-1)])), (xr, .inl (cI, 8, .inl (fun _ => 0))), (j0, .inr (0, [.ref z0, .ref jp, .ref jc, .int 0, .int 0, .int 0, .int 60, .int 0, .int 1]))] s.heap.size q := fun q h => Or.inr h
  have hS : va_S (va_A [(x0, .inr (7, [.ref xs, .ref j0, .ref k0, .ref w0, .ref rd, .ref mv, .ref xr, .int 0, .int (-1)])), (xr, .inl (cI, 8, .inl (fun _ => 0))), (j0, .inr (0, [.ref z0, .ref jp, .ref jc, .int 0, .int 0, .int 0, .int 60, .int 0, .int 1]))] s.heap.size) s.heap s.heap [] := va_S.rf
  replace hP : va_P D vwCl _ s.heap := hP
  have hl := lv_entry ([.ref x0, .int p_, .int w]) (n := 4) (Nat.le_of_ble_eq_true rfl)
  rw [lg_entry_eq]
  generalize (lg_sl ([.ref x0, .int p_, .int w]) ++ List.replicate (4 - (lg_sl ([.ref x0, .int p_, .int w])).length) Slot.unset).toArray = ls at hl ⊢
  replace hl : lv_has ls 4 [(0, .ref x0), (1, .int p_), (2, .int w)] := hl
  refine zw_start (fun H locs hH hL => ?_)
  replace hP : va_P D vwCl [(x0, .inr (7, [.ref xs, .ref j0, .ref k0, .ref w0, .ref rd, .ref mv, .ref xr, .int 0, .int (-1)])), (xr, .inl (cI, 8, .inl (fun _ => 0))), (j0, .inr (0, [.ref z0, .ref jp, .ref jc, .int 0, .int 0, .int 0, .int 60, .int 0, .int 1]))] H := by rw [hH]; exact hP
  replace hS : va_S (va_A [(x0, .inr (7, [.ref xs, .ref j0, .ref k0, .ref w0, .ref rd, .ref mv, .ref xr, .int 0, .int (-1)])), (xr, .inl (cI, 8, .inl (fun _ => 0))), (j0, .inr (0, [.ref z0, .ref jp, .ref jc, .int 0, .int 0, .int 0, .int 60, .int 0, .int 1]))] s.heap.size) s.heap H locs := by rw [hH, hL]; exact hS
  clear hH hL
  refine lv_aload_n hx hb dX7_pullOf_0 rfl (lv_at hl 0 rfl) ?_
  refine va_get (D := D) (ci := 7) (v := .ref j0) (C := RX7) (T := TX7) (N := 9) hx hb hts hi_X7_pullOf_7 hown hK hP 0 rfl rfl 1 (by decide) (hts (.fieldLink RX7 18 "TheLiningsInIt" "now" "LTheLiningsInIt$Jacket;") (List.mem_of_getElem? (i := 1) rfl)) (fun _ h9 => h9) rfl dX7_pullOf_1 ?_
  refine lv_iload_n hx hb dX7_pullOf_4 rfl (lv_at hl 1 rfl) ?_
  refine zc_Vq (As := [.int p_]) (rest := []) ⟨hx, hb, hml, hown, hts⟩ (c_J_pullAt l D cI cJ cZ cP cS j0 jp jc z0 0 0 (p_) (0) ) (cwV 1 hts gX7_pullOf_X0_pullAt rfl rfl rfl (by decide +kernel) ⟨Nat.le_of_ble_eq_true rfl, Nat.le_of_ble_eq_true rfl⟩) hK hN (hZ.kept hS) hP [2] rfl (va_recv hK hP (ci := 0) (q0 := 2) rfl rfl) rfl hl.1 rfl (Nat.le_of_ble_eq_true rfl) dX7_pullOf_5 ⟨Nat.le_of_ble_eq_true rfl, Nat.le_of_ble_eq_true rfl⟩ (fun r_1 hr_1 => ?_)
  rcases hr_1 with ⟨rfl, g_2⟩ | ⟨rfl, g_3⟩
  · refine lv_astore_nN (lv' := [(3, .null), (0, .ref x0), (1, .int p_), (2, .int w)]) hx hb dX7_pullOf_8 rfl hl (by decide) rfl (fun ls hl => ?_)
    refine lv_aload_nN hx hb dX7_pullOf_9 rfl (lv_at hl 0 rfl) ?_
    refine lv_ifnonnullN hx hb dX7_pullOf_10 ?_
    refine lv_aload_n hx hb dX7_pullOf_13 rfl (lv_at hl 1 rfl) ?_
    refine lv_iconst (v := 5) hx hb dX7_pullOf_14 (by decide) ?_
    skip
    refine zw_V (As := [.int 5]) (rest := []) (wr := []) ⟨hx, hb, hml, hown, hts⟩ (c_refuse_5 l D cI cJ cZ cP cS x0 xs j0 k0 w0 rd mv xr  H.size) (cwV 1 hts gX7_pullOf_X7_refuse rfl rfl rfl (by decide +kernel) ⟨Nat.le_of_ble_eq_true rfl, Nat.le_of_ble_eq_true rfl⟩) hK hN (hZ.kept hS) hP hD hS hA [0, 1] [] rfl rfl (by decide) (by decide) (by decide) (va_recv hK hP (ci := 7) (q0 := 0) rfl rfl) rfl hl.1 rfl (Nat.le_of_ble_eq_true rfl) dX7_pullOf_15 ⟨Nat.le_of_ble_eq_true rfl, Nat.le_of_ble_eq_true rfl⟩ (fun r_4 u_5 H locs hr_4 hP hD hS => ?_)
    obtain rfl := hr_4
    exact W.iret (v := (-5)) hx hb hr (fun t ht hW => ⟨⟨(-5), (), rfl, Or.inl (⟨rfl, (by first | omega | decide)⟩), zP_nil, zD_nil⟩, hS.F ht⟩) hS.2.2 dX7_pullOf_18
  · refine lv_astore_nN (lv' := [(3, .null), (0, .ref x0), (1, .int p_), (2, .int w)]) hx hb dX7_pullOf_8 rfl hl (by decide) rfl (fun ls hl => ?_)
    refine lv_aload_nN hx hb dX7_pullOf_9 rfl (lv_at hl 0 rfl) ?_
    refine lv_ifnonnullN hx hb dX7_pullOf_10 ?_
    refine lv_aload_n hx hb dX7_pullOf_13 rfl (lv_at hl 1 rfl) ?_
    refine lv_iconst (v := 5) hx hb dX7_pullOf_14 (by decide) ?_
    skip
    refine zw_V (As := [.int 5]) (rest := []) (wr := []) ⟨hx, hb, hml, hown, hts⟩ (c_refuse_5 l D cI cJ cZ cP cS x0 xs j0 k0 w0 rd mv xr  H.size) (cwV 1 hts gX7_pullOf_X7_refuse rfl rfl rfl (by decide +kernel) ⟨Nat.le_of_ble_eq_true rfl, Nat.le_of_ble_eq_true rfl⟩) hK hN (hZ.kept hS) hP hD hS hA [0, 1] [] rfl rfl (by decide) (by decide) (by decide) (va_recv hK hP (ci := 7) (q0 := 0) rfl rfl) rfl hl.1 rfl (Nat.le_of_ble_eq_true rfl) dX7_pullOf_15 ⟨Nat.le_of_ble_eq_true rfl, Nat.le_of_ble_eq_true rfl⟩ (fun r_6 u_7 H locs hr_6 hP hD hS => ?_)
    obtain rfl := hr_6
    exact W.iret (v := (-5)) hx hb hr (fun t ht hW => ⟨⟨(-5), (), rfl, Or.inr (⟨rfl, (by first | omega | decide)⟩), zP_nil, zD_nil⟩, hS.F ht⟩) hS.2.2 dX7_pullOf_18
theorem hi_X7_teeth_7 : ∀ w ∈ u_ws RX7 TX7 9, w ∈ wsX7_teeth := by decide +kernel
theorem hi_X7_teeth_0 : ∀ w ∈ u_ws RX0 TX0 9, w ∈ wsX7_teeth := by decide +kernel
theorem hi_X7_teeth_6 : ∀ w ∈ u_ws RX6 TX6 5, w ∈ wsX7_teeth := by decide +kernel
set_option maxHeartbeats 4000000 in
set_option maxRecDepth 100000 in
theorem c_teeth (l : Launch) (D : va_G) (cI cJ cZ cP cS : ClassId) (x0 xs j0 k0 w0 rd mv xr : Nat) (jp jc z0 zl zs : Nat) (n : Int32)  (sz : Nat) : Met l yX7_teeth wsX7_teeth ({ frames := 2, cells := 0, slots := 0, locals := 43 }) (va_Pc [.ref x0, .int n] (zW D (zKT cI cJ cZ cP cS) [(x0, .inr (7, [.ref xs, .ref j0, .ref k0, .ref w0, .ref rd, .ref mv, .ref xr, .int 0, .int (-1)])), (xr, .inl (cI, 8, .inl (fun _ => 0))), (j0, .inr (0, [.ref z0, .ref jp, .ref jc, .int 0, .int 0, .int 0, .int 60, .int 0, .int 1])), (z0, .inr (6, [.ref zl, .ref zs, .int 20, .int 0, .int 3])), (zl, .inl (cZ, 40, .inl (fun _ => 0))), (zs, .inl (cI, 40, .inl (fun _ => 0)))] sz)) (va_Qi (fun (r : Int32) (_ : Unit) => (r = (-6) ∧ n.toInt < 4) ∨ (r = (-6) ∧ 4 ≤ n.toInt ∧ 40 < n.toInt) ∨ (r = 20 ∧ 4 ≤ n.toInt ∧ n.toInt ≤ 40)) (zB D [(x0, .inr (7, [.ref xs, .ref j0, .ref k0, .ref w0, .ref rd, .ref mv, .ref xr, .int 0, .int (-1)])), (xr, .inl (cI, 8, .inl (fun _ => 0))), (j0, .inr (0, [.ref z0, .ref jp, .ref jc, .int 0, .int 0, .int 0, .int 60, .int 0, .int 1])), (z0, .inr (6, [.ref zl, .ref zs, .int 20, .int 0, .int 3])), (zl, .inl (cZ, 40, .inl (fun _ => 0))), (zs, .inl (cI, 40, .inl (fun _ => 0)))] sz (fun (_ : Unit) => ([] : va_W))) (va_A [(x0, .inr (7, [.ref xs, .ref j0, .ref k0, .ref w0, .ref rd, .ref mv, .ref xr, .int 0, .int (-1)])), (xr, .inl (cI, 8, .inl (fun _ => 0))), (j0, .inr (0, [.ref z0, .ref jp, .ref jc, .int 0, .int 0, .int 0, .int 60, .int 0, .int 1])), (z0, .inr (6, [.ref zl, .ref zs, .int 20, .int 0, .int 3])), (zl, .inl (cZ, 40, .inl (fun _ => 0))), (zs, .inl (cI, 40, .inl (fun _ => 0)))] sz)) 0 0 (va_A [(x0, .inr (7, [.ref xs, .ref j0, .ref k0, .ref w0, .ref rd, .ref mv, .ref xr, .int 0, .int (-1)])), (xr, .inl (cI, 8, .inl (fun _ => 0))), (j0, .inr (0, [.ref z0, .ref jp, .ref jc, .int 0, .int 0, .int 0, .int 60, .int 0, .int 1])), (z0, .inr (6, [.ref zl, .ref zs, .int 20, .int 0, .int 3])), (zl, .inl (cZ, 40, .inl (fun _ => 0))), (zs, .inl (cI, 40, .inl (fun _ => 0)))] sz) := by
  refine Met.ofW (cc := cX7_teeth) (maxL := 3) (ret := (some .int)) (by decide) rfl ?_
  intro p e s m args below meth c s₁ B hml hv
  obtain ⟨rfl, hsz, hP, hK, hD0, hN, hZ⟩ := hv
  have hx := B.exec
  have hb := B.bytes
  have hr := B.returns
  have hts := atoms_spec (ws := wsX7_teeth) B.pre
  have hown : s.vm.findClass RX7 = some m.cls := findClass_of_methodNamed B.named
  have hlocks := B.notSynchronized
  subst hsz
  have hD := hD0.self (sz := s.heap.size)
  have hA : ∀ q : Nat, s.heap.size ≤ q → va_A [(x0, .inr (7, [.ref xs, .ref j0, .ref k0, .ref w0, .ref rd, .ref mv, .ref xr, .int 0, .int (-1)])), (xr, .inl (cI, 8, .inl (fun _ => 0))), (j0, .inr (0, [.ref z0, .ref jp, .ref jc, .int 0, .int 0, .int 0, .int 60, .int 0, .int 1])), (z0, .inr (6, [.ref zl, .ref zs, .int 20, .int 0, .int 3])), (zl, .inl (cZ, 40, .inl (fun _ => 0))), (zs, .inl (cI, 40, .inl (fun _ => 0)))] s.heap.size q := fun q h => Or.inr h
  have hS : va_S (va_A [(x0, .inr (7, [.ref xs, .ref j0, .ref k0, .ref w0, .ref rd, .ref mv, .ref xr, .int 0, .int (-1)])), (xr, .inl (cI, 8, .inl (fun _ => 0))), (j0, .inr (0, [.ref z0, .ref jp, .ref jc, .int 0, .int 0, .int 0, .int 60, .int 0, .int 1])), (z0, .inr (6, [.ref zl, .ref zs, .int 20, .int 0, .int 3])), (zl, .inl (cZ, 40, .inl (fun _ => 0))), (zs, .inl (cI, 40, .inl (fun _ => 0)))] s.heap.size) s.heap s.heap [] := va_S.rf
  replace hP : va_P D vwCl _ s.heap := hP
  have hl := lv_entry ([.ref x0, .int n]) (n := 3) (Nat.le_of_ble_eq_true rfl)
  rw [lg_entry_eq]
  generalize (lg_sl ([.ref x0, .int n]) ++ List.replicate (3 - (lg_sl ([.ref x0, .int n])).length) Slot.unset).toArray = ls at hl ⊢
  replace hl : lv_has ls 3 [(0, .ref x0), (1, .int n)] := hl
  refine zw_start (fun H locs hH hL => ?_)
  replace hP : va_P D vwCl [(x0, .inr (7, [.ref xs, .ref j0, .ref k0, .ref w0, .ref rd, .ref mv, .ref xr, .int 0, .int (-1)])), (xr, .inl (cI, 8, .inl (fun _ => 0))), (j0, .inr (0, [.ref z0, .ref jp, .ref jc, .int 0, .int 0, .int 0, .int 60, .int 0, .int 1])), (z0, .inr (6, [.ref zl, .ref zs, .int 20, .int 0, .int 3])), (zl, .inl (cZ, 40, .inl (fun _ => 0))), (zs, .inl (cI, 40, .inl (fun _ => 0)))] H := by rw [hH]; exact hP
  replace hS : va_S (va_A [(x0, .inr (7, [.ref xs, .ref j0, .ref k0, .ref w0, .ref rd, .ref mv, .ref xr, .int 0, .int (-1)])), (xr, .inl (cI, 8, .inl (fun _ => 0))), (j0, .inr (0, [.ref z0, .ref jp, .ref jc, .int 0, .int 0, .int 0, .int 60, .int 0, .int 1])), (z0, .inr (6, [.ref zl, .ref zs, .int 20, .int 0, .int 3])), (zl, .inl (cZ, 40, .inl (fun _ => 0))), (zs, .inl (cI, 40, .inl (fun _ => 0)))] s.heap.size) s.heap H locs := by rw [hH, hL]; exact hS
  clear hH hL
  refine lv_iload_n hx hb dX7_teeth_0 rfl (lv_at hl 1 rfl) ?_
  refine lv_iconst (v := 4) hx hb dX7_teeth_1 (by decide) ?_
  refine lv_bipush (v := 40) hx hb dX7_teeth_2 (by decide) ?_
  have kc4 : (4 : Int32).toInt = 4 := by decide
  have kc40 : (40 : Int32).toInt = 40 := by decide
  refine zc_S (As := [.int n, .int 4, .int 40]) (rest := []) ⟨hx, hb, hml, hown, hts⟩ (c_within l D cI cJ cZ cP cS (n) (4) (40) ) (va_cwS 3 hts gX7_teeth_X7_within rfl rfl rfl (by decide +kernel) ⟨Nat.le_of_ble_eq_true rfl, Nat.le_of_ble_eq_true rfl⟩) hK hN (hZ.kept hS) rfl hl.1 rfl (Nat.le_of_ble_eq_true rfl) dX7_teeth_4 ⟨Nat.le_of_ble_eq_true rfl, Nat.le_of_ble_eq_true rfl⟩ (fun r_1 hr_1 => ?_)
  rcases hr_1 with ⟨rfl, g_2⟩ | ⟨rfl, g_3, g_4⟩ | ⟨rfl, g_5, g_6⟩
  · refine lv_if_ne (tgt := 17) hx hb dX7_teeth_7 (by decide) (fun c_7 => ?_) (fun c_7 => ?_)
    · exact absurd c_7 (by decide)
    · refine lv_aload_n hx hb dX7_teeth_10 rfl (lv_at hl 0 rfl) ?_
      refine lv_bipush (v := 6) hx hb dX7_teeth_11 (by decide) ?_
      skip
      refine zw_V (As := [.int 6]) (rest := []) (wr := []) ⟨hx, hb, hml, hown, hts⟩ (c_refuse_6 l D cI cJ cZ cP cS x0 xs j0 k0 w0 rd mv xr  H.size) (cwV 1 hts gX7_teeth_X7_refuse rfl rfl rfl (by decide +kernel) ⟨Nat.le_of_ble_eq_true rfl, Nat.le_of_ble_eq_true rfl⟩) hK hN (hZ.kept hS) hP hD hS hA [0, 1] [] rfl rfl (by decide) (by decide) (by decide) (va_recv hK hP (ci := 7) (q0 := 0) rfl rfl) rfl hl.1 rfl (Nat.le_of_ble_eq_true rfl) dX7_teeth_13 ⟨Nat.le_of_ble_eq_true rfl, Nat.le_of_ble_eq_true rfl⟩ (fun r_8 u_9 H locs hr_8 hP hD hS => ?_)
      obtain rfl := hr_8
      exact W.iret (v := (-6)) hx hb hr (fun t ht hW => ⟨⟨(-6), (), rfl, Or.inl (⟨rfl, (by first | omega | decide)⟩), zP_nil, zD_nil⟩, hS.F ht⟩) hS.2.2 dX7_teeth_16
  · refine lv_if_ne (tgt := 17) hx hb dX7_teeth_7 (by decide) (fun c_10 => ?_) (fun c_10 => ?_)
    · exact absurd c_10 (by decide)
    · refine lv_aload_n hx hb dX7_teeth_10 rfl (lv_at hl 0 rfl) ?_
      refine lv_bipush (v := 6) hx hb dX7_teeth_11 (by decide) ?_
      skip
      refine zw_V (As := [.int 6]) (rest := []) (wr := []) ⟨hx, hb, hml, hown, hts⟩ (c_refuse_6 l D cI cJ cZ cP cS x0 xs j0 k0 w0 rd mv xr  H.size) (cwV 1 hts gX7_teeth_X7_refuse rfl rfl rfl (by decide +kernel) ⟨Nat.le_of_ble_eq_true rfl, Nat.le_of_ble_eq_true rfl⟩) hK hN (hZ.kept hS) hP hD hS hA [0, 1] [] rfl rfl (by decide) (by decide) (by decide) (va_recv hK hP (ci := 7) (q0 := 0) rfl rfl) rfl hl.1 rfl (Nat.le_of_ble_eq_true rfl) dX7_teeth_13 ⟨Nat.le_of_ble_eq_true rfl, Nat.le_of_ble_eq_true rfl⟩ (fun r_11 u_12 H locs hr_11 hP hD hS => ?_)
      obtain rfl := hr_11
      exact W.iret (v := (-6)) hx hb hr (fun t ht hW => ⟨⟨(-6), (), rfl, Or.inr (Or.inl (⟨rfl, (by first | omega | decide), (by first | omega | decide)⟩)), zP_nil, zD_nil⟩, hS.F ht⟩) hS.2.2 dX7_teeth_16
  · refine lv_if_ne (tgt := 17) hx hb dX7_teeth_7 (by decide) (fun c_13 => ?_) (fun c_13 => ?_)
    · refine lv_aload_n hx hb dX7_teeth_17 rfl (lv_at hl 0 rfl) ?_
      refine va_get (D := D) (ci := 7) (v := .ref j0) (C := RX7) (T := TX7) (N := 9) hx hb hts hi_X7_teeth_7 hown hK hP 0 rfl rfl 1 (by decide) (hts (.fieldLink RX7 18 "TheLiningsInIt" "now" "LTheLiningsInIt$Jacket;") (List.mem_of_getElem? (i := 1) rfl)) (fun _ h9 => h9) rfl dX7_teeth_18 ?_
      refine va_get (D := D) (ci := 0) (v := .ref z0) (C := RX0) (T := TX0) (N := 9) hx hb hts hi_X7_teeth_0 hown hK hP 2 rfl rfl 0 (by decide) (hts (.fieldLink RX7 140 "TheLiningsInIt$Jacket" "zip" "LTheLiningsInIt$Zip;") (List.mem_of_getElem? (i := 2) rfl)) (fun _ h9 => h9) rfl dX7_teeth_21 ?_
      refine va_get (D := D) (ci := 6) (v := .int 20) (C := RX6) (T := TX6) (N := 5) hx hb hts hi_X7_teeth_6 hown hK hP 3 rfl rfl 2 (by decide) (hts (.fieldLink RX7 144 "TheLiningsInIt$Zip" "size" "I") (List.mem_of_getElem? (i := 3) rfl)) (fun _ h9 => h9) rfl dX7_teeth_24 ?_
      refine lv_istore_n (lv' := [(2, .int 20), (0, .ref x0), (1, .int n)]) hx hb dX7_teeth_27 rfl hl (by decide) rfl (fun ls hl => ?_)
      refine lv_aload_n hx hb dX7_teeth_28 rfl (lv_at hl 1 rfl) ?_
      refine va_get (D := D) (ci := 7) (v := .ref j0) (C := RX7) (T := TX7) (N := 9) hx hb hts hi_X7_teeth_7 hown hK hP 0 rfl rfl 1 (by decide) (hts (.fieldLink RX7 18 "TheLiningsInIt" "now" "LTheLiningsInIt$Jacket;") (List.mem_of_getElem? (i := 1) rfl)) (fun _ h9 => h9) rfl dX7_teeth_29 ?_
      refine va_get (D := D) (ci := 0) (v := .ref z0) (C := RX0) (T := TX0) (N := 9) hx hb hts hi_X7_teeth_0 hown hK hP 2 rfl rfl 0 (by decide) (hts (.fieldLink RX7 140 "TheLiningsInIt$Jacket" "zip" "LTheLiningsInIt$Zip;") (List.mem_of_getElem? (i := 2) rfl)) (fun _ h9 => h9) rfl dX7_teeth_32 ?_
      refine lv_iload_n hx hb dX7_teeth_35 rfl (lv_at hl 2 rfl) ?_
      skip
      refine zw_Vv (As := [.int n]) (rest := []) (wr := []) ⟨hx, hb, hml, hown, hts⟩ (c_Zip_renew l D cI cJ cZ cP cS z0 zl zs (n)  H.size) (cwV 1 hts gX7_teeth_X6_renew rfl rfl rfl (by decide +kernel) ⟨Nat.le_of_ble_eq_true rfl, Nat.le_of_ble_eq_true rfl⟩) hK hN (hZ.kept hS) hP hD hS hA [3, 4, 5] [] rfl rfl (by decide) (by decide) (by decide) (va_recv hK hP (ci := 6) (q0 := 3) rfl rfl) rfl hl.1 rfl (Nat.le_of_ble_eq_true rfl) dX7_teeth_36 ⟨Nat.le_of_ble_eq_true rfl, Nat.le_of_ble_eq_true rfl⟩ (fun u_15 H locs hr_14 hP hD hS => ?_)
      refine lv_iload_n hx hb dX7_teeth_39 rfl (lv_at hl 0 rfl) ?_
      exact W.iret (v := 20) hx hb hr (fun t ht hW => ⟨⟨20, (), rfl, Or.inr (Or.inr (⟨rfl, (by first | omega | decide), (by first | omega | decide)⟩)), zP_nil, zD_nil⟩, hS.F ht⟩) hS.2.2 dX7_teeth_40
    · exact absurd c_13 (by decide)
theorem hi_X7_lack_7 : ∀ w ∈ u_ws RX7 TX7 9, w ∈ wsX7_lack := by decide +kernel
theorem hi_X7_lack_0 : ∀ w ∈ u_ws RX0 TX0 9, w ∈ wsX7_lack := by decide +kernel
theorem hi_X7_lack_6 : ∀ w ∈ u_ws RX6 TX6 5, w ∈ wsX7_lack := by decide +kernel
set_option maxHeartbeats 4000000 in
set_option maxRecDepth 100000 in
theorem c_lack (l : Launch) (D : va_G) (cI cJ cZ cP cS : ClassId) (x0 xs j0 k0 w0 rd mv xr : Nat) (jp jc z0 zl zs : Nat) (t_ b_ : Int32)  (sz : Nat) : Met l yX7_lack wsX7_lack ({ frames := 2, cells := 0, slots := 0, locals := 43 }) (va_Pc [.ref x0, .int t_, .int b_] (zW D (zKT cI cJ cZ cP cS) [(x0, .inr (7, [.ref xs, .ref j0, .ref k0, .ref w0, .ref rd, .ref mv, .ref xr, .int 0, .int (-1)])), (xr, .inl (cI, 8, .inl (fun _ => 0))), (j0, .inr (0, [.ref z0, .ref jp, .ref jc, .int 0, .int 0, .int 0, .int 60, .int 0, .int 1])), (z0, .inr (6, [.ref zl, .ref zs, .int 20, .int 0, .int 3])), (zl, .inl (cZ, 40, .inl (fun _ => 0)))] sz)) (va_Qi (fun (r : Int32) (_ : Unit) => (r = (-1) ∧ t_.toInt < 0) ∨ (r = (-1) ∧ 0 ≤ t_.toInt ∧ 20 ≤ t_.toInt) ∨ (r = 0 ∧ 0 ≤ t_.toInt ∧ t_.toInt < 20)) (zB D [(x0, .inr (7, [.ref xs, .ref j0, .ref k0, .ref w0, .ref rd, .ref mv, .ref xr, .int 0, .int (-1)])), (xr, .inl (cI, 8, .inl (fun _ => 0))), (j0, .inr (0, [.ref z0, .ref jp, .ref jc, .int 0, .int 0, .int 0, .int 60, .int 0, .int 1])), (z0, .inr (6, [.ref zl, .ref zs, .int 20, .int 0, .int 3])), (zl, .inl (cZ, 40, .inl (fun _ => 0)))] sz (fun (_ : Unit) => ([] : va_W))) (va_A [(x0, .inr (7, [.ref xs, .ref j0, .ref k0, .ref w0, .ref rd, .ref mv, .ref xr, .int 0, .int (-1)])), (xr, .inl (cI, 8, .inl (fun _ => 0))), (j0, .inr (0, [.ref z0, .ref jp, .ref jc, .int 0, .int 0, .int 0, .int 60, .int 0, .int 1])), (z0, .inr (6, [.ref zl, .ref zs, .int 20, .int 0, .int 3])), (zl, .inl (cZ, 40, .inl (fun _ => 0)))] sz)) 0 0 (va_A [(x0, .inr (7, [.ref xs, .ref j0, .ref k0, .ref w0, .ref rd, .ref mv, .ref xr, .int 0, .int (-1)])), (xr, .inl (cI, 8, .inl (fun _ => 0))), (j0, .inr (0, [.ref z0, .ref jp, .ref jc, .int 0, .int 0, .int 0, .int 60, .int 0, .int 1])), (z0, .inr (6, [.ref zl, .ref zs, .int 20, .int 0, .int 3])), (zl, .inl (cZ, 40, .inl (fun _ => 0)))] sz) := by
  refine Met.ofW (cc := cX7_lack) (maxL := 4) (ret := (some .int)) (by decide) rfl ?_
  intro p e s m args below meth c s₁ B hml hv
  obtain ⟨rfl, hsz, hP, hK, hD0, hN, hZ⟩ := hv
  have hx := B.exec
  have hb := B.bytes
  have hr := B.returns
  have hts := atoms_spec (ws := wsX7_lack) B.pre
  have hown : s.vm.findClass RX7 = some m.cls := findClass_of_methodNamed B.named
  have hlocks := B.notSynchronized
  subst hsz
  have hD := hD0.self (sz := s.heap.size)
  have hA : ∀ q : Nat, s.heap.size ≤ q → va_A [(x0, .inr (7, [.ref xs, .ref j0, .ref k0, .ref w0, .ref rd, .ref mv, .ref xr, .int 0, .int (-1)])), (xr, .inl (cI, 8, .inl (fun _ => 0))), (j0, .inr (0, [.ref z0, .ref jp, .ref jc, .int 0, .int 0, .int 0, .int 60, .int 0, .int 1])), (z0, .inr (6, [.ref zl, .ref zs, .int 20, .int 0, .int 3])), (zl, .inl (cZ, 40, .inl (fun _ => 0)))] s.heap.size q := fun q h => Or.inr h
  have hS : va_S (va_A [(x0, .inr (7, [.ref xs, .ref j0, .ref k0, .ref w0, .ref rd, .ref mv, .ref xr, .int 0, .int (-1)])), (xr, .inl (cI, 8, .inl (fun _ => 0))), (j0, .inr (0, [.ref z0, .ref jp, .ref jc, .int 0, .int 0, .int 0, .int 60, .int 0, .int 1])), (z0, .inr (6, [.ref zl, .ref zs, .int 20, .int 0, .int 3])), (zl, .inl (cZ, 40, .inl (fun _ => 0)))] s.heap.size) s.heap s.heap [] := va_S.rf
  replace hP : va_P D vwCl _ s.heap := hP
  have hl := lv_entry ([.ref x0, .int t_, .int b_]) (n := 4) (Nat.le_of_ble_eq_true rfl)
  rw [lg_entry_eq]
  generalize (lg_sl ([.ref x0, .int t_, .int b_]) ++ List.replicate (4 - (lg_sl ([.ref x0, .int t_, .int b_])).length) Slot.unset).toArray = ls at hl ⊢
  replace hl : lv_has ls 4 [(0, .ref x0), (1, .int t_), (2, .int b_)] := hl
  refine zw_start (fun H locs hH hL => ?_)
  replace hP : va_P D vwCl [(x0, .inr (7, [.ref xs, .ref j0, .ref k0, .ref w0, .ref rd, .ref mv, .ref xr, .int 0, .int (-1)])), (xr, .inl (cI, 8, .inl (fun _ => 0))), (j0, .inr (0, [.ref z0, .ref jp, .ref jc, .int 0, .int 0, .int 0, .int 60, .int 0, .int 1])), (z0, .inr (6, [.ref zl, .ref zs, .int 20, .int 0, .int 3])), (zl, .inl (cZ, 40, .inl (fun _ => 0)))] H := by rw [hH]; exact hP
  replace hS : va_S (va_A [(x0, .inr (7, [.ref xs, .ref j0, .ref k0, .ref w0, .ref rd, .ref mv, .ref xr, .int 0, .int (-1)])), (xr, .inl (cI, 8, .inl (fun _ => 0))), (j0, .inr (0, [.ref z0, .ref jp, .ref jc, .int 0, .int 0, .int 0, .int 60, .int 0, .int 1])), (z0, .inr (6, [.ref zl, .ref zs, .int 20, .int 0, .int 3])), (zl, .inl (cZ, 40, .inl (fun _ => 0)))] s.heap.size) s.heap H locs := by rw [hH, hL]; exact hS
  clear hH hL
  refine lv_aload_n hx hb dX7_lack_0 rfl (lv_at hl 0 rfl) ?_
  refine va_get (D := D) (ci := 7) (v := .ref j0) (C := RX7) (T := TX7) (N := 9) hx hb hts hi_X7_lack_7 hown hK hP 0 rfl rfl 1 (by decide) (hts (.fieldLink RX7 18 "TheLiningsInIt" "now" "LTheLiningsInIt$Jacket;") (List.mem_of_getElem? (i := 1) rfl)) (fun _ h9 => h9) rfl dX7_lack_1 ?_
  refine va_get (D := D) (ci := 0) (v := .ref z0) (C := RX0) (T := TX0) (N := 9) hx hb hts hi_X7_lack_0 hown hK hP 2 rfl rfl 0 (by decide) (hts (.fieldLink RX7 140 "TheLiningsInIt$Jacket" "zip" "LTheLiningsInIt$Zip;") (List.mem_of_getElem? (i := 2) rfl)) (fun _ h9 => h9) rfl dX7_lack_4 ?_
  refine lv_iload_n hx hb dX7_lack_7 rfl (lv_at hl 1 rfl) ?_
  have kc20 : (20 : Int32).toInt = 20 := by decide
  refine zc_V (As := [.int t_]) (rest := []) ⟨hx, hb, hml, hown, hts⟩ (c_Zip_has l D cI cJ cZ cP cS z0 zl zs (20) (0) (3) (t_) ) (cwV 1 hts gX7_lack_X6_has rfl rfl rfl (by decide +kernel) ⟨Nat.le_of_ble_eq_true rfl, Nat.le_of_ble_eq_true rfl⟩) hK hN (hZ.kept hS) hP [3] rfl (va_recv hK hP (ci := 6) (q0 := 3) rfl rfl) rfl hl.1 rfl (Nat.le_of_ble_eq_true rfl) dX7_lack_8 ⟨Nat.le_of_ble_eq_true rfl, Nat.le_of_ble_eq_true rfl⟩ (fun r_1 hr_1 => ?_)
  rcases hr_1 with ⟨rfl, g_2⟩ | ⟨rfl, g_3, g_4⟩ | ⟨rfl, g_5, g_6⟩
  · refine lv_if_ne (tgt := 20) hx hb dX7_lack_11 (by decide) (fun c_7 => ?_) (fun c_7 => ?_)
    · exact absurd c_7 (by decide)
    · refine lv_aload_n hx hb dX7_lack_14 rfl (lv_at hl 0 rfl) ?_
      refine lv_iconst (v := 1) hx hb dX7_lack_15 (by decide) ?_
      skip
      refine zw_V (As := [.int 1]) (rest := []) (wr := []) ⟨hx, hb, hml, hown, hts⟩ (c_refuse_1 l D cI cJ cZ cP cS x0 xs j0 k0 w0 rd mv xr  H.size) (cwV 1 hts gX7_lack_X7_refuse rfl rfl rfl (by decide +kernel) ⟨Nat.le_of_ble_eq_true rfl, Nat.le_of_ble_eq_true rfl⟩) hK hN (hZ.kept hS) hP hD hS hA [0, 1] [] rfl rfl (by decide) (by decide) (by decide) (va_recv hK hP (ci := 7) (q0 := 0) rfl rfl) rfl hl.1 rfl (Nat.le_of_ble_eq_true rfl) dX7_lack_16 ⟨Nat.le_of_ble_eq_true rfl, Nat.le_of_ble_eq_true rfl⟩ (fun r_8 u_9 H locs hr_8 hP hD hS => ?_)
      obtain rfl := hr_8
      exact W.iret (v := (-1)) hx hb hr (fun t ht hW => ⟨⟨(-1), (), rfl, Or.inl (⟨rfl, (by first | omega | decide)⟩), zP_nil, zD_nil⟩, hS.F ht⟩) hS.2.2 dX7_lack_19
  · refine lv_if_ne (tgt := 20) hx hb dX7_lack_11 (by decide) (fun c_10 => ?_) (fun c_10 => ?_)
    · exact absurd c_10 (by decide)
    · refine lv_aload_n hx hb dX7_lack_14 rfl (lv_at hl 0 rfl) ?_
      refine lv_iconst (v := 1) hx hb dX7_lack_15 (by decide) ?_
      skip
      refine zw_V (As := [.int 1]) (rest := []) (wr := []) ⟨hx, hb, hml, hown, hts⟩ (c_refuse_1 l D cI cJ cZ cP cS x0 xs j0 k0 w0 rd mv xr  H.size) (cwV 1 hts gX7_lack_X7_refuse rfl rfl rfl (by decide +kernel) ⟨Nat.le_of_ble_eq_true rfl, Nat.le_of_ble_eq_true rfl⟩) hK hN (hZ.kept hS) hP hD hS hA [0, 1] [] rfl rfl (by decide) (by decide) (by decide) (va_recv hK hP (ci := 7) (q0 := 0) rfl rfl) rfl hl.1 rfl (Nat.le_of_ble_eq_true rfl) dX7_lack_16 ⟨Nat.le_of_ble_eq_true rfl, Nat.le_of_ble_eq_true rfl⟩ (fun r_11 u_12 H locs hr_11 hP hD hS => ?_)
      obtain rfl := hr_11
      exact W.iret (v := (-1)) hx hb hr (fun t ht hW => ⟨⟨(-1), (), rfl, Or.inr (Or.inl (⟨rfl, (by first | omega | decide), (by first | omega | decide)⟩)), zP_nil, zD_nil⟩, hS.F ht⟩) hS.2.2 dX7_lack_19
  · refine lv_if_ne (tgt := 20) hx hb dX7_lack_11 (by decide) (fun c_13 => ?_) (fun c_13 => ?_)
    · refine lv_aload_n hx hb dX7_lack_20 rfl (lv_at hl 0 rfl) ?_
      refine va_get (D := D) (ci := 7) (v := .ref j0) (C := RX7) (T := TX7) (N := 9) hx hb hts hi_X7_lack_7 hown hK hP 0 rfl rfl 1 (by decide) (hts (.fieldLink RX7 18 "TheLiningsInIt" "now" "LTheLiningsInIt$Jacket;") (List.mem_of_getElem? (i := 1) rfl)) (fun _ h9 => h9) rfl dX7_lack_21 ?_
      refine va_get (D := D) (ci := 0) (v := .ref z0) (C := RX0) (T := TX0) (N := 9) hx hb hts hi_X7_lack_0 hown hK hP 2 rfl rfl 0 (by decide) (hts (.fieldLink RX7 140 "TheLiningsInIt$Jacket" "zip" "LTheLiningsInIt$Zip;") (List.mem_of_getElem? (i := 2) rfl)) (fun _ h9 => h9) rfl dX7_lack_24 ?_
      refine va_get (D := D) (ci := 6) (v := .ref zl) (C := RX6) (T := TX6) (N := 5) hx hb hts hi_X7_lack_6 hown hK hP 3 rfl rfl 0 (by decide) (hts (.fieldLink RX7 156 "TheLiningsInIt$Zip" "lacking" "[Z") (List.mem_of_getElem? (i := 3) rfl)) (fun _ h9 => h9) rfl dX7_lack_27 ?_
      refine lv_iload_n hx hb dX7_lack_30 rfl (lv_at hl 1 rfl) ?_
      refine va_zald hx hb hK hP 4 2 rfl rfl (zf_in (by omega) (by omega)) dX7_lack_31 ?_
      refine lv_topi (fun x_14 ex_14 => ?_)
      obtain rfl : x_14 = 0 := ex_14
      refine lv_istore_n (lv' := [(3, .int 0), (0, .ref x0), (1, .int t_), (2, .int b_)]) hx hb dX7_lack_32 rfl hl (by decide) rfl (fun ls hl => ?_)
      refine lv_aload_n hx hb dX7_lack_33 rfl (lv_at hl 1 rfl) ?_
      refine va_get (D := D) (ci := 7) (v := .ref j0) (C := RX7) (T := TX7) (N := 9) hx hb hts hi_X7_lack_7 hown hK hP 0 rfl rfl 1 (by decide) (hts (.fieldLink RX7 18 "TheLiningsInIt" "now" "LTheLiningsInIt$Jacket;") (List.mem_of_getElem? (i := 1) rfl)) (fun _ h9 => h9) rfl dX7_lack_34 ?_
      refine va_get (D := D) (ci := 0) (v := .ref z0) (C := RX0) (T := TX0) (N := 9) hx hb hts hi_X7_lack_0 hown hK hP 2 rfl rfl 0 (by decide) (hts (.fieldLink RX7 140 "TheLiningsInIt$Jacket" "zip" "LTheLiningsInIt$Zip;") (List.mem_of_getElem? (i := 2) rfl)) (fun _ h9 => h9) rfl dX7_lack_37 ?_
      refine va_get (D := D) (ci := 6) (v := .ref zl) (C := RX6) (T := TX6) (N := 5) hx hb hts hi_X7_lack_6 hown hK hP 3 rfl rfl 0 (by decide) (hts (.fieldLink RX7 156 "TheLiningsInIt$Zip" "lacking" "[Z") (List.mem_of_getElem? (i := 3) rfl)) (fun _ h9 => h9) rfl dX7_lack_40 ?_
      refine lv_iload_n hx hb dX7_lack_43 rfl (lv_at hl 2 rfl) ?_
      refine lv_iload_n hx hb dX7_lack_44 rfl (lv_at hl 3 rfl) ?_
      refine va_zast hx hb hK hP hD hS 4 2 rfl rfl (zf_in (by omega) (by omega)) dX7_lack_45 (fun H locs hP hD hS => ?_)
      refine lv_iload_n hx hb dX7_lack_46 rfl (lv_at hl 0 rfl) ?_
      refine lv_if_eq (tgt := 54) hx hb dX7_lack_47 (by decide) (fun c_15 => ?_) (fun c_15 => ?_)
      · refine lv_iconst (v := 0) hx hb dX7_lack_54 (by decide) ?_
        exact W.iret (v := 0) hx hb hr (fun t ht hW => ⟨⟨0, (), rfl, Or.inr (Or.inr (⟨rfl, (by first | omega | decide), (by first | omega | decide)⟩)), zP_nil, zD_nil⟩, hS.F ht⟩) hS.2.2 dX7_lack_55
      · exact absurd c_15 (by decide)
    · exact absurd c_13 (by decide)
theorem hi_X7_slack_7 : ∀ w ∈ u_ws RX7 TX7 9, w ∈ wsX7_slack := by decide +kernel
theorem hi_X7_slack_0 : ∀ w ∈ u_ws RX0 TX0 9, w ∈ wsX7_slack := by decide +kernel
theorem hi_X7_slack_6 : ∀ w ∈ u_ws RX6 TX6 5, w ∈ wsX7_slack := by decide +kernel
set_option maxHeartbeats 4000000 in
set_option maxRecDepth 100000 in
theorem c_slack (l : Launch) (D : va_G) (cI cJ cZ cP cS : ClassId) (x0 xs j0 k0 w0 rd mv xr : Nat) (jp jc z0 zl zs : Nat) (t_ v : Int32)  (sz : Nat) : Met l yX7_slack wsX7_slack ({ frames := 2, cells := 0, slots := 0, locals := 43 }) (va_Pc [.ref x0, .int t_, .int v] (zW D (zKT cI cJ cZ cP cS) [(x0, .inr (7, [.ref xs, .ref j0, .ref k0, .ref w0, .ref rd, .ref mv, .ref xr, .int 0, .int (-1)])), (xr, .inl (cI, 8, .inl (fun _ => 0))), (j0, .inr (0, [.ref z0, .ref jp, .ref jc, .int 0, .int 0, .int 0, .int 60, .int 0, .int 1])), (z0, .inr (6, [.ref zl, .ref zs, .int 20, .int 0, .int 3])), (zs, .inl (cI, 40, .inl (fun _ => 0)))] sz)) (va_Qi (fun (r : Int32) (_ : Unit) => (r = (-1) ∧ t_.toInt < 0) ∨ (r = (-1) ∧ 0 ≤ t_.toInt ∧ 20 ≤ t_.toInt) ∨ (r = (-6) ∧ 0 ≤ t_.toInt ∧ t_.toInt < 20 ∧ v.toInt < 0) ∨ (r = (-6) ∧ 0 ≤ t_.toInt ∧ t_.toInt < 20 ∧ 0 ≤ v.toInt ∧ 9 < v.toInt) ∨ (r = 0 ∧ 0 ≤ t_.toInt ∧ t_.toInt < 20 ∧ 0 ≤ v.toInt ∧ v.toInt ≤ 9)) (zB D [(x0, .inr (7, [.ref xs, .ref j0, .ref k0, .ref w0, .ref rd, .ref mv, .ref xr, .int 0, .int (-1)])), (xr, .inl (cI, 8, .inl (fun _ => 0))), (j0, .inr (0, [.ref z0, .ref jp, .ref jc, .int 0, .int 0, .int 0, .int 60, .int 0, .int 1])), (z0, .inr (6, [.ref zl, .ref zs, .int 20, .int 0, .int 3])), (zs, .inl (cI, 40, .inl (fun _ => 0)))] sz (fun (_ : Unit) => ([] : va_W))) (va_A [(x0, .inr (7, [.ref xs, .ref j0, .ref k0, .ref w0, .ref rd, .ref mv, .ref xr, .int 0, .int (-1)])), (xr, .inl (cI, 8, .inl (fun _ => 0))), (j0, .inr (0, [.ref z0, .ref jp, .ref jc, .int 0, .int 0, .int 0, .int 60, .int 0, .int 1])), (z0, .inr (6, [.ref zl, .ref zs, .int 20, .int 0, .int 3])), (zs, .inl (cI, 40, .inl (fun _ => 0)))] sz)) 0 0 (va_A [(x0, .inr (7, [.ref xs, .ref j0, .ref k0, .ref w0, .ref rd, .ref mv, .ref xr, .int 0, .int (-1)])), (xr, .inl (cI, 8, .inl (fun _ => 0))), (j0, .inr (0, [.ref z0, .ref jp, .ref jc, .int 0, .int 0, .int 0, .int 60, .int 0, .int 1])), (z0, .inr (6, [.ref zl, .ref zs, .int 20, .int 0, .int 3])), (zs, .inl (cI, 40, .inl (fun _ => 0)))] sz) := by
  refine Met.ofW (cc := cX7_slack) (maxL := 4) (ret := (some .int)) (by decide) rfl ?_
  intro p e s m args below meth c s₁ B hml hv
  obtain ⟨rfl, hsz, hP, hK, hD0, hN, hZ⟩ := hv
  have hx := B.exec
  have hb := B.bytes
  have hr := B.returns
  have hts := atoms_spec (ws := wsX7_slack) B.pre
  have hown : s.vm.findClass RX7 = some m.cls := findClass_of_methodNamed B.named
  have hlocks := B.notSynchronized
  subst hsz
  have hD := hD0.self (sz := s.heap.size)
  have hA : ∀ q : Nat, s.heap.size ≤ q → va_A [(x0, .inr (7, [.ref xs, .ref j0, .ref k0, .ref w0, .ref rd, .ref mv, .ref xr, .int 0, .int (-1)])), (xr, .inl (cI, 8, .inl (fun _ => 0))), (j0, .inr (0, [.ref z0, .ref jp, .ref jc, .int 0, .int 0, .int 0, .int 60, .int 0, .int 1])), (z0, .inr (6, [.ref zl, .ref zs, .int 20, .int 0, .int 3])), (zs, .inl (cI, 40, .inl (fun _ => 0)))] s.heap.size q := fun q h => Or.inr h
  have hS : va_S (va_A [(x0, .inr (7, [.ref xs, .ref j0, .ref k0, .ref w0, .ref rd, .ref mv, .ref xr, .int 0, .int (-1)])), (xr, .inl (cI, 8, .inl (fun _ => 0))), (j0, .inr (0, [.ref z0, .ref jp, .ref jc, .int 0, .int 0, .int 0, .int 60, .int 0, .int 1])), (z0, .inr (6, [.ref zl, .ref zs, .int 20, .int 0, .int 3])), (zs, .inl (cI, 40, .inl (fun _ => 0)))] s.heap.size) s.heap s.heap [] := va_S.rf
  replace hP : va_P D vwCl _ s.heap := hP
  have hl := lv_entry ([.ref x0, .int t_, .int v]) (n := 4) (Nat.le_of_ble_eq_true rfl)
  rw [lg_entry_eq]
  generalize (lg_sl ([.ref x0, .int t_, .int v]) ++ List.replicate (4 - (lg_sl ([.ref x0, .int t_, .int v])).length) Slot.unset).toArray = ls at hl ⊢
  replace hl : lv_has ls 4 [(0, .ref x0), (1, .int t_), (2, .int v)] := hl
  refine zw_start (fun H locs hH hL => ?_)
  replace hP : va_P D vwCl [(x0, .inr (7, [.ref xs, .ref j0, .ref k0, .ref w0, .ref rd, .ref mv, .ref xr, .int 0, .int (-1)])), (xr, .inl (cI, 8, .inl (fun _ => 0))), (j0, .inr (0, [.ref z0, .ref jp, .ref jc, .int 0, .int 0, .int 0, .int 60, .int 0, .int 1])), (z0, .inr (6, [.ref zl, .ref zs, .int 20, .int 0, .int 3])), (zs, .inl (cI, 40, .inl (fun _ => 0)))] H := by rw [hH]; exact hP
  replace hS : va_S (va_A [(x0, .inr (7, [.ref xs, .ref j0, .ref k0, .ref w0, .ref rd, .ref mv, .ref xr, .int 0, .int (-1)])), (xr, .inl (cI, 8, .inl (fun _ => 0))), (j0, .inr (0, [.ref z0, .ref jp, .ref jc, .int 0, .int 0, .int 0, .int 60, .int 0, .int 1])), (z0, .inr (6, [.ref zl, .ref zs, .int 20, .int 0, .int 3])), (zs, .inl (cI, 40, .inl (fun _ => 0)))] s.heap.size) s.heap H locs := by rw [hH, hL]; exact hS
  clear hH hL
  refine lv_aload_n hx hb dX7_slack_0 rfl (lv_at hl 0 rfl) ?_
  refine va_get (D := D) (ci := 7) (v := .ref j0) (C := RX7) (T := TX7) (N := 9) hx hb hts hi_X7_slack_7 hown hK hP 0 rfl rfl 1 (by decide) (hts (.fieldLink RX7 18 "TheLiningsInIt" "now" "LTheLiningsInIt$Jacket;") (List.mem_of_getElem? (i := 1) rfl)) (fun _ h9 => h9) rfl dX7_slack_1 ?_
  refine va_get (D := D) (ci := 0) (v := .ref z0) (C := RX0) (T := TX0) (N := 9) hx hb hts hi_X7_slack_0 hown hK hP 2 rfl rfl 0 (by decide) (hts (.fieldLink RX7 140 "TheLiningsInIt$Jacket" "zip" "LTheLiningsInIt$Zip;") (List.mem_of_getElem? (i := 2) rfl)) (fun _ h9 => h9) rfl dX7_slack_4 ?_
  refine lv_iload_n hx hb dX7_slack_7 rfl (lv_at hl 1 rfl) ?_
  have kc20 : (20 : Int32).toInt = 20 := by decide
  refine zc_V (As := [.int t_]) (rest := []) ⟨hx, hb, hml, hown, hts⟩ (c_Zip_has l D cI cJ cZ cP cS z0 zl zs (20) (0) (3) (t_) ) (cwV 1 hts gX7_slack_X6_has rfl rfl rfl (by decide +kernel) ⟨Nat.le_of_ble_eq_true rfl, Nat.le_of_ble_eq_true rfl⟩) hK hN (hZ.kept hS) hP [3] rfl (va_recv hK hP (ci := 6) (q0 := 3) rfl rfl) rfl hl.1 rfl (Nat.le_of_ble_eq_true rfl) dX7_slack_8 ⟨Nat.le_of_ble_eq_true rfl, Nat.le_of_ble_eq_true rfl⟩ (fun r_1 hr_1 => ?_)
  rcases hr_1 with ⟨rfl, g_2⟩ | ⟨rfl, g_3, g_4⟩ | ⟨rfl, g_5, g_6⟩
  · refine lv_if_ne (tgt := 20) hx hb dX7_slack_11 (by decide) (fun c_7 => ?_) (fun c_7 => ?_)
    · exact absurd c_7 (by decide)
    · refine lv_aload_n hx hb dX7_slack_14 rfl (lv_at hl 0 rfl) ?_
      refine lv_iconst (v := 1) hx hb dX7_slack_15 (by decide) ?_
      skip
      refine zw_V (As := [.int 1]) (rest := []) (wr := []) ⟨hx, hb, hml, hown, hts⟩ (c_refuse_1 l D cI cJ cZ cP cS x0 xs j0 k0 w0 rd mv xr  H.size) (cwV 1 hts gX7_slack_X7_refuse rfl rfl rfl (by decide +kernel) ⟨Nat.le_of_ble_eq_true rfl, Nat.le_of_ble_eq_true rfl⟩) hK hN (hZ.kept hS) hP hD hS hA [0, 1] [] rfl rfl (by decide) (by decide) (by decide) (va_recv hK hP (ci := 7) (q0 := 0) rfl rfl) rfl hl.1 rfl (Nat.le_of_ble_eq_true rfl) dX7_slack_16 ⟨Nat.le_of_ble_eq_true rfl, Nat.le_of_ble_eq_true rfl⟩ (fun r_8 u_9 H locs hr_8 hP hD hS => ?_)
      obtain rfl := hr_8
      exact W.iret (v := (-1)) hx hb hr (fun t ht hW => ⟨⟨(-1), (), rfl, Or.inl (⟨rfl, (by first | omega | decide)⟩), zP_nil, zD_nil⟩, hS.F ht⟩) hS.2.2 dX7_slack_19
  · refine lv_if_ne (tgt := 20) hx hb dX7_slack_11 (by decide) (fun c_10 => ?_) (fun c_10 => ?_)
    · exact absurd c_10 (by decide)
    · refine lv_aload_n hx hb dX7_slack_14 rfl (lv_at hl 0 rfl) ?_
      refine lv_iconst (v := 1) hx hb dX7_slack_15 (by decide) ?_
      skip
      refine zw_V (As := [.int 1]) (rest := []) (wr := []) ⟨hx, hb, hml, hown, hts⟩ (c_refuse_1 l D cI cJ cZ cP cS x0 xs j0 k0 w0 rd mv xr  H.size) (cwV 1 hts gX7_slack_X7_refuse rfl rfl rfl (by decide +kernel) ⟨Nat.le_of_ble_eq_true rfl, Nat.le_of_ble_eq_true rfl⟩) hK hN (hZ.kept hS) hP hD hS hA [0, 1] [] rfl rfl (by decide) (by decide) (by decide) (va_recv hK hP (ci := 7) (q0 := 0) rfl rfl) rfl hl.1 rfl (Nat.le_of_ble_eq_true rfl) dX7_slack_16 ⟨Nat.le_of_ble_eq_true rfl, Nat.le_of_ble_eq_true rfl⟩ (fun r_11 u_12 H locs hr_11 hP hD hS => ?_)
      obtain rfl := hr_11
      exact W.iret (v := (-1)) hx hb hr (fun t ht hW => ⟨⟨(-1), (), rfl, Or.inr (Or.inl (⟨rfl, (by first | omega | decide), (by first | omega | decide)⟩)), zP_nil, zD_nil⟩, hS.F ht⟩) hS.2.2 dX7_slack_19
  · refine lv_if_ne (tgt := 20) hx hb dX7_slack_11 (by decide) (fun c_13 => ?_) (fun c_13 => ?_)
    · refine lv_iload_n hx hb dX7_slack_20 rfl (lv_at hl 2 rfl) ?_
      refine lv_iconst (v := 0) hx hb dX7_slack_21 (by decide) ?_
      refine lv_bipush (v := 9) hx hb dX7_slack_22 (by decide) ?_
      have kc0 : (0 : Int32).toInt = 0 := by decide
      have kc9 : (9 : Int32).toInt = 9 := by decide
      refine zc_S (As := [.int v, .int 0, .int 9]) (rest := []) ⟨hx, hb, hml, hown, hts⟩ (c_within l D cI cJ cZ cP cS (v) (0) (9) ) (va_cwS 3 hts gX7_slack_X7_within rfl rfl rfl (by decide +kernel) ⟨Nat.le_of_ble_eq_true rfl, Nat.le_of_ble_eq_true rfl⟩) hK hN (hZ.kept hS) rfl hl.1 rfl (Nat.le_of_ble_eq_true rfl) dX7_slack_24 ⟨Nat.le_of_ble_eq_true rfl, Nat.le_of_ble_eq_true rfl⟩ (fun r_14 hr_14 => ?_)
      rcases hr_14 with ⟨rfl, g_15⟩ | ⟨rfl, g_16, g_17⟩ | ⟨rfl, g_18, g_19⟩
      · refine lv_if_ne (tgt := 37) hx hb dX7_slack_27 (by decide) (fun c_20 => ?_) (fun c_20 => ?_)
        · exact absurd c_20 (by decide)
        · refine lv_aload_n hx hb dX7_slack_30 rfl (lv_at hl 0 rfl) ?_
          refine lv_bipush (v := 6) hx hb dX7_slack_31 (by decide) ?_
          skip
          refine zw_V (As := [.int 6]) (rest := []) (wr := []) ⟨hx, hb, hml, hown, hts⟩ (c_refuse_6 l D cI cJ cZ cP cS x0 xs j0 k0 w0 rd mv xr  H.size) (cwV 1 hts gX7_slack_X7_refuse rfl rfl rfl (by decide +kernel) ⟨Nat.le_of_ble_eq_true rfl, Nat.le_of_ble_eq_true rfl⟩) hK hN (hZ.kept hS) hP hD hS hA [0, 1] [] rfl rfl (by decide) (by decide) (by decide) (va_recv hK hP (ci := 7) (q0 := 0) rfl rfl) rfl hl.1 rfl (Nat.le_of_ble_eq_true rfl) dX7_slack_33 ⟨Nat.le_of_ble_eq_true rfl, Nat.le_of_ble_eq_true rfl⟩ (fun r_21 u_22 H locs hr_21 hP hD hS => ?_)
          obtain rfl := hr_21
          exact W.iret (v := (-6)) hx hb hr (fun t ht hW => ⟨⟨(-6), (), rfl, Or.inr (Or.inr (Or.inl (⟨rfl, (by first | omega | decide), (by first | omega | decide), (by first | omega | decide)⟩))), zP_nil, zD_nil⟩, hS.F ht⟩) hS.2.2 dX7_slack_36
      · refine lv_if_ne (tgt := 37) hx hb dX7_slack_27 (by decide) (fun c_23 => ?_) (fun c_23 => ?_)
        · exact absurd c_23 (by decide)
        · refine lv_aload_n hx hb dX7_slack_30 rfl (lv_at hl 0 rfl) ?_
          refine lv_bipush (v := 6) hx hb dX7_slack_31 (by decide) ?_
          skip
          refine zw_V (As := [.int 6]) (rest := []) (wr := []) ⟨hx, hb, hml, hown, hts⟩ (c_refuse_6 l D cI cJ cZ cP cS x0 xs j0 k0 w0 rd mv xr  H.size) (cwV 1 hts gX7_slack_X7_refuse rfl rfl rfl (by decide +kernel) ⟨Nat.le_of_ble_eq_true rfl, Nat.le_of_ble_eq_true rfl⟩) hK hN (hZ.kept hS) hP hD hS hA [0, 1] [] rfl rfl (by decide) (by decide) (by decide) (va_recv hK hP (ci := 7) (q0 := 0) rfl rfl) rfl hl.1 rfl (Nat.le_of_ble_eq_true rfl) dX7_slack_33 ⟨Nat.le_of_ble_eq_true rfl, Nat.le_of_ble_eq_true rfl⟩ (fun r_24 u_25 H locs hr_24 hP hD hS => ?_)
          obtain rfl := hr_24
          exact W.iret (v := (-6)) hx hb hr (fun t ht hW => ⟨⟨(-6), (), rfl, Or.inr (Or.inr (Or.inr (Or.inl (⟨rfl, (by first | omega | decide), (by first | omega | decide), (by first | omega | decide), (by first | omega | decide)⟩)))), zP_nil, zD_nil⟩, hS.F ht⟩) hS.2.2 dX7_slack_36
      · refine lv_if_ne (tgt := 37) hx hb dX7_slack_27 (by decide) (fun c_26 => ?_) (fun c_26 => ?_)
        · refine lv_aload_n hx hb dX7_slack_37 rfl (lv_at hl 0 rfl) ?_
          refine va_get (D := D) (ci := 7) (v := .ref j0) (C := RX7) (T := TX7) (N := 9) hx hb hts hi_X7_slack_7 hown hK hP 0 rfl rfl 1 (by decide) (hts (.fieldLink RX7 18 "TheLiningsInIt" "now" "LTheLiningsInIt$Jacket;") (List.mem_of_getElem? (i := 1) rfl)) (fun _ h9 => h9) rfl dX7_slack_38 ?_
          refine va_get (D := D) (ci := 0) (v := .ref z0) (C := RX0) (T := TX0) (N := 9) hx hb hts hi_X7_slack_0 hown hK hP 2 rfl rfl 0 (by decide) (hts (.fieldLink RX7 140 "TheLiningsInIt$Jacket" "zip" "LTheLiningsInIt$Zip;") (List.mem_of_getElem? (i := 2) rfl)) (fun _ h9 => h9) rfl dX7_slack_41 ?_
          refine va_get (D := D) (ci := 6) (v := .ref zs) (C := RX6) (T := TX6) (N := 5) hx hb hts hi_X7_slack_6 hown hK hP 3 rfl rfl 1 (by decide) (hts (.fieldLink RX7 160 "TheLiningsInIt$Zip" "slacks" "[I") (List.mem_of_getElem? (i := 3) rfl)) (fun _ h9 => h9) rfl dX7_slack_44 ?_
          refine lv_iload_n hx hb dX7_slack_47 rfl (lv_at hl 1 rfl) ?_
          refine va_iald hx hb hK hP 4 0 rfl rfl (zf_in (by omega) (by omega)) dX7_slack_48 ?_
          refine lv_topi (fun x_27 ex_27 => ?_)
          obtain rfl : x_27 = 0 := ex_27
          refine lv_istore_n (lv' := [(3, .int 0), (0, .ref x0), (1, .int t_), (2, .int v)]) hx hb dX7_slack_49 rfl hl (by decide) rfl (fun ls hl => ?_)
          refine lv_aload_n hx hb dX7_slack_50 rfl (lv_at hl 1 rfl) ?_
          refine va_get (D := D) (ci := 7) (v := .ref j0) (C := RX7) (T := TX7) (N := 9) hx hb hts hi_X7_slack_7 hown hK hP 0 rfl rfl 1 (by decide) (hts (.fieldLink RX7 18 "TheLiningsInIt" "now" "LTheLiningsInIt$Jacket;") (List.mem_of_getElem? (i := 1) rfl)) (fun _ h9 => h9) rfl dX7_slack_51 ?_
          refine va_get (D := D) (ci := 0) (v := .ref z0) (C := RX0) (T := TX0) (N := 9) hx hb hts hi_X7_slack_0 hown hK hP 2 rfl rfl 0 (by decide) (hts (.fieldLink RX7 140 "TheLiningsInIt$Jacket" "zip" "LTheLiningsInIt$Zip;") (List.mem_of_getElem? (i := 2) rfl)) (fun _ h9 => h9) rfl dX7_slack_54 ?_
          refine va_get (D := D) (ci := 6) (v := .ref zs) (C := RX6) (T := TX6) (N := 5) hx hb hts hi_X7_slack_6 hown hK hP 3 rfl rfl 1 (by decide) (hts (.fieldLink RX7 160 "TheLiningsInIt$Zip" "slacks" "[I") (List.mem_of_getElem? (i := 3) rfl)) (fun _ h9 => h9) rfl dX7_slack_57 ?_
          refine lv_iload_n hx hb dX7_slack_60 rfl (lv_at hl 2 rfl) ?_
          refine lv_iload_n hx hb dX7_slack_61 rfl (lv_at hl 3 rfl) ?_
          refine va_iast hx hb hK hP hD hS 4 0 rfl rfl (zf_in (by omega) (by omega)) dX7_slack_62 (fun H locs hP hD hS => ?_)
          refine lv_iload_n hx hb dX7_slack_63 rfl (lv_at hl 0 rfl) ?_
          exact W.iret (v := 0) hx hb hr (fun t ht hW => ⟨⟨0, (), rfl, Or.inr (Or.inr (Or.inr (Or.inr (⟨rfl, (by first | omega | decide), (by first | omega | decide), (by first | omega | decide), (by first | omega | decide)⟩)))), zP_nil, zD_nil⟩, hS.F ht⟩) hS.2.2 dX7_slack_64
        · exact absurd c_26 (by decide)
    · exact absurd c_13 (by decide)
theorem hi_X7_ask_7 : ∀ w ∈ u_ws RX7 TX7 9, w ∈ wsX7_ask := by decide +kernel
set_option maxHeartbeats 4000000 in
set_option maxRecDepth 100000 in
theorem c_ask (l : Launch) (D : va_G) (cI cJ cZ cP cS : ClassId) (x0 xs j0 k0 w0 rd mv xr : Nat) (jp jc z0 zl zs : Nat) (w v : Int32)  (sz : Nat) : Met l yX7_ask wsX7_ask ({ frames := 2, cells := 0, slots := 0, locals := 44 }) (va_Pc [.ref x0, .int w, .int v] (zW D (zKT cI cJ cZ cP cS) [(x0, .inr (7, [.ref xs, .ref j0, .ref k0, .ref w0, .ref rd, .ref mv, .ref xr, .int 0, .int (-1)])), (xr, .inl (cI, 8, .inl (fun _ => 0))), (j0, .inr (0, [.ref z0, .ref jp, .ref jc, .int 0, .int 0, .int 0, .int 60, .int 0, .int 1])), (z0, .inr (6, [.ref zl, .ref zs, .int 20, .int 0, .int 3])), (jc, .inl (cI, 3, .inl (zL3 5 10 50)))] sz)) (va_Qi (fun (r : Int32) (_ : Unit) => (r = (-6) ∧ w.toInt < 0) ∨ (r = (-6) ∧ 0 ≤ w.toInt ∧ 7 < w.toInt) ∨ (r = (-6) ∧ 0 ≤ w.toInt ∧ w.toInt ≤ 7 ∧ w.toInt ≠ 3 ∧ w.toInt = 0 ∧ v.toInt < 0) ∨ (r = (-6) ∧ 0 ≤ w.toInt ∧ w.toInt ≤ 7 ∧ w.toInt ≠ 3 ∧ w.toInt = 0 ∧ 0 ≤ v.toInt ∧ 24 < v.toInt) ∨ (r = 0 ∧ 0 ≤ w.toInt ∧ w.toInt ≤ 7 ∧ w.toInt ≠ 3 ∧ w.toInt = 0 ∧ 0 ≤ v.toInt ∧ v.toInt ≤ 24) ∨ (r = (-6) ∧ 0 ≤ w.toInt ∧ w.toInt ≤ 7 ∧ w.toInt ≠ 3 ∧ w.toInt = 1 ∧ v.toInt < 0) ∨ (r = (-6) ∧ 0 ≤ w.toInt ∧ w.toInt ≤ 7 ∧ w.toInt ≠ 3 ∧ w.toInt = 1 ∧ 0 ≤ v.toInt ∧ 300 < v.toInt) ∨ (r = 60 ∧ 0 ≤ w.toInt ∧ w.toInt ≤ 7 ∧ w.toInt ≠ 3 ∧ w.toInt = 1 ∧ 0 ≤ v.toInt ∧ v.toInt ≤ 300) ∨ (r = (-6) ∧ 0 ≤ w.toInt ∧ w.toInt ≤ 7 ∧ w.toInt ≠ 3 ∧ w.toInt = 2 ∧ v.toInt < 0) ∨ (r = (-6) ∧ 0 ≤ w.toInt ∧ w.toInt ≤ 7 ∧ w.toInt ≠ 3 ∧ w.toInt = 2 ∧ 0 ≤ v.toInt ∧ 9 < v.toInt) ∨ (r = 0 ∧ 0 ≤ w.toInt ∧ w.toInt ≤ 7 ∧ w.toInt ≠ 3 ∧ w.toInt = 2 ∧ 0 ≤ v.toInt ∧ v.toInt ≤ 9) ∨ (r = (-6) ∧ 0 ≤ w.toInt ∧ w.toInt ≤ 7 ∧ w.toInt ≠ 3 ∧ w.toInt = 3 ∧ v.toInt < 0) ∨ (r = (-6) ∧ 0 ≤ w.toInt ∧ w.toInt ≤ 7 ∧ w.toInt ≠ 3 ∧ w.toInt = 3 ∧ 0 ≤ v.toInt ∧ 9 < v.toInt) ∨ (r = 3 ∧ 0 ≤ w.toInt ∧ w.toInt ≤ 7 ∧ w.toInt ≠ 3 ∧ w.toInt = 3 ∧ 0 ≤ v.toInt ∧ v.toInt ≤ 9) ∨ (r = (-6) ∧ 0 ≤ w.toInt ∧ w.toInt ≤ 7 ∧ w.toInt ≠ 3 ∧ w.toInt = 4 ∧ v.toInt < 0) ∨ (r = (-6) ∧ 0 ≤ w.toInt ∧ w.toInt ≤ 7 ∧ w.toInt ≠ 3 ∧ w.toInt = 4 ∧ 0 ≤ v.toInt ∧ 99 < v.toInt) ∨ (r = 5 ∧ 0 ≤ w.toInt ∧ w.toInt ≤ 7 ∧ w.toInt ≠ 3 ∧ w.toInt = 4 ∧ 0 ≤ v.toInt ∧ v.toInt ≤ 99) ∨ (r = (-6) ∧ 0 ≤ w.toInt ∧ w.toInt ≤ 7 ∧ w.toInt ≠ 3 ∧ w.toInt = 5 ∧ v.toInt < 0) ∨ (r = (-6) ∧ 0 ≤ w.toInt ∧ w.toInt ≤ 7 ∧ w.toInt ≠ 3 ∧ w.toInt = 5 ∧ 0 ≤ v.toInt ∧ 99 < v.toInt) ∨ (r = 10 ∧ 0 ≤ w.toInt ∧ w.toInt ≤ 7 ∧ w.toInt ≠ 3 ∧ w.toInt = 5 ∧ 0 ≤ v.toInt ∧ v.toInt ≤ 99) ∨ (r = (-6) ∧ 0 ≤ w.toInt ∧ w.toInt ≤ 7 ∧ w.toInt ≠ 3 ∧ w.toInt = 6 ∧ v.toInt < 0) ∨ (r = (-6) ∧ 0 ≤ w.toInt ∧ w.toInt ≤ 7 ∧ w.toInt ≠ 3 ∧ w.toInt = 6 ∧ 0 ≤ v.toInt ∧ 99 < v.toInt) ∨ (r = 50 ∧ 0 ≤ w.toInt ∧ w.toInt ≤ 7 ∧ w.toInt ≠ 3 ∧ w.toInt = 6 ∧ 0 ≤ v.toInt ∧ v.toInt ≤ 99) ∨ (r = (-6) ∧ 0 ≤ w.toInt ∧ w.toInt ≤ 7 ∧ w.toInt ≠ 3 ∧ w.toInt = 7 ∧ v.toInt < 0) ∨ (r = (-6) ∧ 0 ≤ w.toInt ∧ w.toInt ≤ 7 ∧ w.toInt ≠ 3 ∧ w.toInt = 7 ∧ 0 ≤ v.toInt ∧ 20 < v.toInt) ∨ (r = 0 ∧ 0 ≤ w.toInt ∧ w.toInt ≤ 7 ∧ w.toInt ≠ 3 ∧ w.toInt = 7 ∧ 0 ≤ v.toInt ∧ v.toInt ≤ 20) ∨ (r = (-6) ∧ 0 ≤ w.toInt ∧ w.toInt ≤ 7 ∧ w.toInt = 3 ∧ v.toInt < 1) ∨ (r = (-6) ∧ 0 ≤ w.toInt ∧ w.toInt ≤ 7 ∧ w.toInt = 3 ∧ 1 ≤ v.toInt ∧ 9 < v.toInt) ∨ (r = 3 ∧ 0 ≤ w.toInt ∧ w.toInt ≤ 7 ∧ w.toInt = 3 ∧ 1 ≤ v.toInt ∧ v.toInt ≤ 9)) (zB D [(x0, .inr (7, [.ref xs, .ref j0, .ref k0, .ref w0, .ref rd, .ref mv, .ref xr, .int 0, .int (-1)])), (xr, .inl (cI, 8, .inl (fun _ => 0))), (j0, .inr (0, [.ref z0, .ref jp, .ref jc, .int 0, .int 0, .int 0, .int 60, .int 0, .int 1])), (z0, .inr (6, [.ref zl, .ref zs, .int 20, .int 0, .int 3])), (jc, .inl (cI, 3, .inl (zL3 5 10 50)))] sz (fun (_ : Unit) => ([] : va_W))) (va_A [(x0, .inr (7, [.ref xs, .ref j0, .ref k0, .ref w0, .ref rd, .ref mv, .ref xr, .int 0, .int (-1)])), (xr, .inl (cI, 8, .inl (fun _ => 0))), (j0, .inr (0, [.ref z0, .ref jp, .ref jc, .int 0, .int 0, .int 0, .int 60, .int 0, .int 1])), (z0, .inr (6, [.ref zl, .ref zs, .int 20, .int 0, .int 3])), (jc, .inl (cI, 3, .inl (zL3 5 10 50)))] sz)) 0 0 (va_A [(x0, .inr (7, [.ref xs, .ref j0, .ref k0, .ref w0, .ref rd, .ref mv, .ref xr, .int 0, .int (-1)])), (xr, .inl (cI, 8, .inl (fun _ => 0))), (j0, .inr (0, [.ref z0, .ref jp, .ref jc, .int 0, .int 0, .int 0, .int 60, .int 0, .int 1])), (z0, .inr (6, [.ref zl, .ref zs, .int 20, .int 0, .int 3])), (jc, .inl (cI, 3, .inl (zL3 5 10 50)))] sz) := by
  refine Met.ofW (cc := cX7_ask) (maxL := 4) (ret := (some .int)) (by decide) rfl ?_
  intro p e s m args below meth c s₁ B hml hv
  obtain ⟨rfl, hsz, hP, hK, hD0, hN, hZ⟩ := hv
  have hx := B.exec
  have hb := B.bytes
  have hr := B.returns
  have hts := atoms_spec (ws := wsX7_ask) B.pre
  have hown : s.vm.findClass RX7 = some m.cls := findClass_of_methodNamed B.named
  have hlocks := B.notSynchronized
  subst hsz
  have hD := hD0.self (sz := s.heap.size)
  have hA : ∀ q : Nat, s.heap.size ≤ q → va_A [(x0, .inr (7, [.ref xs, .ref j0, .ref k0, .ref w0, .ref rd, .ref mv, .ref xr, .int 0, .int (-1)])), (xr, .inl (cI, 8, .inl (fun _ => 0))), (j0, .inr (0, [.ref z0, .ref jp, .ref jc, .int 0, .int 0, .int 0, .int 60, .int 0, .int 1])), (z0, .inr (6, [.ref zl, .ref zs, .int 20, .int 0, .int 3])), (jc, .inl (cI, 3, .inl (zL3 5 10 50)))] s.heap.size q := fun q h => Or.inr h
  have hS : va_S (va_A [(x0, .inr (7, [.ref xs, .ref j0, .ref k0, .ref w0, .ref rd, .ref mv, .ref xr, .int 0, .int (-1)])), (xr, .inl (cI, 8, .inl (fun _ => 0))), (j0, .inr (0, [.ref z0, .ref jp, .ref jc, .int 0, .int 0, .int 0, .int 60, .int 0, .int 1])), (z0, .inr (6, [.ref zl, .ref zs, .int 20, .int 0, .int 3])), (jc, .inl (cI, 3, .inl (zL3 5 10 50)))] s.heap.size) s.heap s.heap [] := va_S.rf
  replace hP : va_P D vwCl _ s.heap := hP
  have hl := lv_entry ([.ref x0, .int w, .int v]) (n := 4) (Nat.le_of_ble_eq_true rfl)
  rw [lg_entry_eq]
  generalize (lg_sl ([.ref x0, .int w, .int v]) ++ List.replicate (4 - (lg_sl ([.ref x0, .int w, .int v])).length) Slot.unset).toArray = ls at hl ⊢
  replace hl : lv_has ls 4 [(0, .ref x0), (1, .int w), (2, .int v)] := hl
  refine zw_start (fun H locs hH hL => ?_)
  replace hP : va_P D vwCl [(x0, .inr (7, [.ref xs, .ref j0, .ref k0, .ref w0, .ref rd, .ref mv, .ref xr, .int 0, .int (-1)])), (xr, .inl (cI, 8, .inl (fun _ => 0))), (j0, .inr (0, [.ref z0, .ref jp, .ref jc, .int 0, .int 0, .int 0, .int 60, .int 0, .int 1])), (z0, .inr (6, [.ref zl, .ref zs, .int 20, .int 0, .int 3])), (jc, .inl (cI, 3, .inl (zL3 5 10 50)))] H := by rw [hH]; exact hP
  replace hS : va_S (va_A [(x0, .inr (7, [.ref xs, .ref j0, .ref k0, .ref w0, .ref rd, .ref mv, .ref xr, .int 0, .int (-1)])), (xr, .inl (cI, 8, .inl (fun _ => 0))), (j0, .inr (0, [.ref z0, .ref jp, .ref jc, .int 0, .int 0, .int 0, .int 60, .int 0, .int 1])), (z0, .inr (6, [.ref zl, .ref zs, .int 20, .int 0, .int 3])), (jc, .inl (cI, 3, .inl (zL3 5 10 50)))] s.heap.size) s.heap H locs := by rw [hH, hL]; exact hS
  clear hH hL
  refine lv_iload_n hx hb dX7_ask_0 rfl (lv_at hl 1 rfl) ?_
  refine lv_iconst (v := 0) hx hb dX7_ask_1 (by decide) ?_
  refine lv_bipush (v := 7) hx hb dX7_ask_2 (by decide) ?_
  have kc0 : (0 : Int32).toInt = 0 := by decide
  have kc7 : (7 : Int32).toInt = 7 := by decide
  refine zc_S (As := [.int w, .int 0, .int 7]) (rest := []) ⟨hx, hb, hml, hown, hts⟩ (c_within l D cI cJ cZ cP cS (w) (0) (7) ) (va_cwS 3 hts gX7_ask_X7_within rfl rfl rfl (by decide +kernel) ⟨Nat.le_of_ble_eq_true rfl, Nat.le_of_ble_eq_true rfl⟩) hK hN (hZ.kept hS) rfl hl.1 rfl (Nat.le_of_ble_eq_true rfl) dX7_ask_4 ⟨Nat.le_of_ble_eq_true rfl, Nat.le_of_ble_eq_true rfl⟩ (fun r_1 hr_1 => ?_)
  rcases hr_1 with ⟨rfl, g_2⟩ | ⟨rfl, g_3, g_4⟩ | ⟨rfl, g_5, g_6⟩
  · refine lv_if_eq (tgt := 29) hx hb dX7_ask_7 (by decide) (fun c_7 => ?_) (fun c_7 => ?_)
    · refine lv_aload_n hx hb dX7_ask_29 rfl (lv_at hl 0 rfl) ?_
      refine lv_bipush (v := 6) hx hb dX7_ask_30 (by decide) ?_
      skip
      refine zw_V (As := [.int 6]) (rest := []) (wr := []) ⟨hx, hb, hml, hown, hts⟩ (c_refuse_6 l D cI cJ cZ cP cS x0 xs j0 k0 w0 rd mv xr  H.size) (cwV 1 hts gX7_ask_X7_refuse rfl rfl rfl (by decide +kernel) ⟨Nat.le_of_ble_eq_true rfl, Nat.le_of_ble_eq_true rfl⟩) hK hN (hZ.kept hS) hP hD hS hA [0, 1] [] rfl rfl (by decide) (by decide) (by decide) (va_recv hK hP (ci := 7) (q0 := 0) rfl rfl) rfl hl.1 rfl (Nat.le_of_ble_eq_true rfl) dX7_ask_32 ⟨Nat.le_of_ble_eq_true rfl, Nat.le_of_ble_eq_true rfl⟩ (fun r_8 u_9 H locs hr_8 hP hD hS => ?_)
      obtain rfl := hr_8
      exact W.iret (v := (-6)) hx hb hr (fun t ht hW => ⟨⟨(-6), (), rfl, Or.inl (⟨rfl, (by first | omega | decide)⟩), zP_nil, zD_nil⟩, hS.F ht⟩) hS.2.2 dX7_ask_35
    · exact absurd c_7 (by decide)
  · refine lv_if_eq (tgt := 29) hx hb dX7_ask_7 (by decide) (fun c_10 => ?_) (fun c_10 => ?_)
    · refine lv_aload_n hx hb dX7_ask_29 rfl (lv_at hl 0 rfl) ?_
      refine lv_bipush (v := 6) hx hb dX7_ask_30 (by decide) ?_
      skip
      refine zw_V (As := [.int 6]) (rest := []) (wr := []) ⟨hx, hb, hml, hown, hts⟩ (c_refuse_6 l D cI cJ cZ cP cS x0 xs j0 k0 w0 rd mv xr  H.size) (cwV 1 hts gX7_ask_X7_refuse rfl rfl rfl (by decide +kernel) ⟨Nat.le_of_ble_eq_true rfl, Nat.le_of_ble_eq_true rfl⟩) hK hN (hZ.kept hS) hP hD hS hA [0, 1] [] rfl rfl (by decide) (by decide) (by decide) (va_recv hK hP (ci := 7) (q0 := 0) rfl rfl) rfl hl.1 rfl (Nat.le_of_ble_eq_true rfl) dX7_ask_32 ⟨Nat.le_of_ble_eq_true rfl, Nat.le_of_ble_eq_true rfl⟩ (fun r_11 u_12 H locs hr_11 hP hD hS => ?_)
      obtain rfl := hr_11
      exact W.iret (v := (-6)) hx hb hr (fun t ht hW => ⟨⟨(-6), (), rfl, Or.inr (Or.inl (⟨rfl, (by first | omega | decide), (by first | omega | decide)⟩)), zP_nil, zD_nil⟩, hS.F ht⟩) hS.2.2 dX7_ask_35
    · exact absurd c_10 (by decide)
  · refine lv_if_eq (tgt := 29) hx hb dX7_ask_7 (by decide) (fun c_13 => ?_) (fun c_13 => ?_)
    · exact absurd c_13 (by decide)
    · refine lv_iload_n hx hb dX7_ask_10 rfl (lv_at hl 2 rfl) ?_
      refine lv_iload_n hx hb dX7_ask_11 rfl (lv_at hl 1 rfl) ?_
      refine zc_S (As := [.int w]) (rest := [.int v]) ⟨hx, hb, hml, hown, hts⟩ (c_J_leastOf l D cI cJ cZ cP cS (w) (by omega) (by omega)) (va_cwS 1 hts gX7_ask_X0_leastOf rfl rfl rfl (by decide +kernel) ⟨Nat.le_of_ble_eq_true rfl, Nat.le_of_ble_eq_true rfl⟩) hK hN (hZ.kept hS) rfl hl.1 rfl (Nat.le_of_ble_eq_true rfl) dX7_ask_12 ⟨Nat.le_of_ble_eq_true rfl, Nat.le_of_ble_eq_true rfl⟩ (fun r_14 hr_14 => ?_)
      rcases hr_14 with ⟨rfl, g_15⟩ | ⟨rfl, g_16⟩
      · refine lv_aload_n hx hb dX7_ask_15 rfl (lv_at hl 0 rfl) ?_
        refine va_get (D := D) (ci := 7) (v := .ref j0) (C := RX7) (T := TX7) (N := 9) hx hb hts hi_X7_ask_7 hown hK hP 0 rfl rfl 1 (by decide) (hts (.fieldLink RX7 18 "TheLiningsInIt" "now" "LTheLiningsInIt$Jacket;") (List.mem_of_getElem? (i := 1) rfl)) (fun _ h9 => h9) rfl dX7_ask_16 ?_
        refine lv_iload_n hx hb dX7_ask_19 rfl (lv_at hl 1 rfl) ?_
        refine zc_V (As := [.int w]) (rest := [.int 0, .int v]) ⟨hx, hb, hml, hown, hts⟩ (c_J_mostOf l D cI cJ cZ cP cS j0 jp jc z0 zl zs (w) (by omega) (by omega)) (cwV 1 hts gX7_ask_X0_mostOf rfl rfl rfl (by decide +kernel) ⟨Nat.le_of_ble_eq_true rfl, Nat.le_of_ble_eq_true rfl⟩) hK hN (hZ.kept hS) hP [2, 3] rfl (va_recv hK hP (ci := 0) (q0 := 2) rfl rfl) rfl hl.1 rfl (Nat.le_of_ble_eq_true rfl) dX7_ask_20 ⟨Nat.le_of_ble_eq_true rfl, Nat.le_of_ble_eq_true rfl⟩ (fun r_17 hr_17 => ?_)
        rcases hr_17 with ⟨rfl, g_18⟩ | ⟨rfl, g_19⟩ | ⟨rfl, g_20⟩ | ⟨rfl, g_21⟩ | ⟨rfl, g_22⟩ | ⟨rfl, g_23⟩ | ⟨rfl, g_24⟩ | ⟨rfl, g_25⟩
        · have kc24 : (24 : Int32).toInt = 24 := by decide
          refine zc_S (As := [.int v, .int 0, .int 24]) (rest := []) ⟨hx, hb, hml, hown, hts⟩ (c_within l D cI cJ cZ cP cS (v) (0) (24) ) (va_cwS 3 hts gX7_ask_X7_within rfl rfl rfl (by decide +kernel) ⟨Nat.le_of_ble_eq_true rfl, Nat.le_of_ble_eq_true rfl⟩) hK hN (hZ.kept hS) rfl hl.1 rfl (Nat.le_of_ble_eq_true rfl) dX7_ask_23 ⟨Nat.le_of_ble_eq_true rfl, Nat.le_of_ble_eq_true rfl⟩ (fun r_26 hr_26 => ?_)
          rcases hr_26 with ⟨rfl, g_27⟩ | ⟨rfl, g_28, g_29⟩ | ⟨rfl, g_30, g_31⟩
          · refine lv_if_ne (tgt := 36) hx hb dX7_ask_26 (by decide) (fun c_32 => ?_) (fun c_32 => ?_)
            · exact absurd c_32 (by decide)
            · refine lv_aload_n hx hb dX7_ask_29 rfl (lv_at hl 0 rfl) ?_
              refine lv_bipush (v := 6) hx hb dX7_ask_30 (by decide) ?_
              skip
              refine zw_V (As := [.int 6]) (rest := []) (wr := []) ⟨hx, hb, hml, hown, hts⟩ (c_refuse_6 l D cI cJ cZ cP cS x0 xs j0 k0 w0 rd mv xr  H.size) (cwV 1 hts gX7_ask_X7_refuse rfl rfl rfl (by decide +kernel) ⟨Nat.le_of_ble_eq_true rfl, Nat.le_of_ble_eq_true rfl⟩) hK hN (hZ.kept hS) hP hD hS hA [0, 1] [] rfl rfl (by decide) (by decide) (by decide) (va_recv hK hP (ci := 7) (q0 := 0) rfl rfl) rfl hl.1 rfl (Nat.le_of_ble_eq_true rfl) dX7_ask_32 ⟨Nat.le_of_ble_eq_true rfl, Nat.le_of_ble_eq_true rfl⟩ (fun r_33 u_34 H locs hr_33 hP hD hS => ?_)
              obtain rfl := hr_33
              exact W.iret (v := (-6)) hx hb hr (fun t ht hW => ⟨⟨(-6), (), rfl, Or.inr (Or.inr (Or.inl (⟨rfl, (by first | omega | decide), (by first | omega | decide), (by first | omega | decide), (by first | omega | decide), (by first | omega | decide)⟩))), zP_nil, zD_nil⟩, hS.F ht⟩) hS.2.2 dX7_ask_35
          · refine lv_if_ne (tgt := 36) hx hb dX7_ask_26 (by decide) (fun c_35 => ?_) (fun c_35 => ?_)
            · exact absurd c_35 (by decide)
            · refine lv_aload_n hx hb dX7_ask_29 rfl (lv_at hl 0 rfl) ?_
              refine lv_bipush (v := 6) hx hb dX7_ask_30 (by decide) ?_
              skip
              refine zw_V (As := [.int 6]) (rest := []) (wr := []) ⟨hx, hb, hml, hown, hts⟩ (c_refuse_6 l D cI cJ cZ cP cS x0 xs j0 k0 w0 rd mv xr  H.size) (cwV 1 hts gX7_ask_X7_refuse rfl rfl rfl (by decide +kernel) ⟨Nat.le_of_ble_eq_true rfl, Nat.le_of_ble_eq_true rfl⟩) hK hN (hZ.kept hS) hP hD hS hA [0, 1] [] rfl rfl (by decide) (by decide) (by decide) (va_recv hK hP (ci := 7) (q0 := 0) rfl rfl) rfl hl.1 rfl (Nat.le_of_ble_eq_true rfl) dX7_ask_32 ⟨Nat.le_of_ble_eq_true rfl, Nat.le_of_ble_eq_true rfl⟩ (fun r_36 u_37 H locs hr_36 hP hD hS => ?_)
              obtain rfl := hr_36
              exact W.iret (v := (-6)) hx hb hr (fun t ht hW => ⟨⟨(-6), (), rfl, Or.inr (Or.inr (Or.inr (Or.inl (⟨rfl, (by first | omega | decide), (by first | omega | decide), (by first | omega | decide), (by first | omega | decide), (by first | omega | decide), (by first | omega | decide)⟩)))), zP_nil, zD_nil⟩, hS.F ht⟩) hS.2.2 dX7_ask_35
          · refine lv_if_ne (tgt := 36) hx hb dX7_ask_26 (by decide) (fun c_38 => ?_) (fun c_38 => ?_)
            · refine lv_aload_n hx hb dX7_ask_36 rfl (lv_at hl 0 rfl) ?_
              refine va_get (D := D) (ci := 7) (v := .ref j0) (C := RX7) (T := TX7) (N := 9) hx hb hts hi_X7_ask_7 hown hK hP 0 rfl rfl 1 (by decide) (hts (.fieldLink RX7 18 "TheLiningsInIt" "now" "LTheLiningsInIt$Jacket;") (List.mem_of_getElem? (i := 1) rfl)) (fun _ h9 => h9) rfl dX7_ask_37 ?_
              refine lv_iload_n hx hb dX7_ask_40 rfl (lv_at hl 1 rfl) ?_
              refine zc_V (As := [.int w]) (rest := []) ⟨hx, hb, hml, hown, hts⟩ (c_J_number l D cI cJ cZ cP cS j0 jp jc z0 zl zs (w) (by omega) (by omega)) (cwV 1 hts gX7_ask_X0_number rfl rfl rfl (by decide +kernel) ⟨Nat.le_of_ble_eq_true rfl, Nat.le_of_ble_eq_true rfl⟩) hK hN (hZ.kept hS) hP [2, 3, 4] rfl (va_recv hK hP (ci := 0) (q0 := 2) rfl rfl) rfl hl.1 rfl (Nat.le_of_ble_eq_true rfl) dX7_ask_41 ⟨Nat.le_of_ble_eq_true rfl, Nat.le_of_ble_eq_true rfl⟩ (fun r_39 hr_39 => ?_)
              rcases hr_39 with ⟨rfl, g_40⟩ | ⟨rfl, g_41⟩ | ⟨rfl, g_42⟩ | ⟨rfl, g_43⟩ | ⟨rfl, g_44⟩ | ⟨rfl, g_45⟩ | ⟨rfl, g_46⟩ | ⟨rfl, g_47⟩
              · refine lv_istore_n (lv' := [(3, .int 0), (0, .ref x0), (1, .int w), (2, .int v)]) hx hb dX7_ask_44 rfl hl (by decide) rfl (fun ls hl => ?_)
                refine lv_aload_n hx hb dX7_ask_45 rfl (lv_at hl 1 rfl) ?_
                refine va_get (D := D) (ci := 7) (v := .ref j0) (C := RX7) (T := TX7) (N := 9) hx hb hts hi_X7_ask_7 hown hK hP 0 rfl rfl 1 (by decide) (hts (.fieldLink RX7 18 "TheLiningsInIt" "now" "LTheLiningsInIt$Jacket;") (List.mem_of_getElem? (i := 1) rfl)) (fun _ h9 => h9) rfl dX7_ask_46 ?_
                refine lv_iload_n hx hb dX7_ask_49 rfl (lv_at hl 2 rfl) ?_
                refine lv_iload_n hx hb dX7_ask_50 rfl (lv_at hl 3 rfl) ?_
                skip
                refine zw_Vv (As := [.int w, .int v]) (rest := []) (wr := []) ⟨hx, hb, hml, hown, hts⟩ (c_J_setNumber l D cI cJ cZ cP cS j0 jp jc z0 zl zs (w) (v) (by omega) (by omega) H.size) (cwV 2 hts gX7_ask_X0_setNumber rfl rfl rfl (by decide +kernel) ⟨Nat.le_of_ble_eq_true rfl, Nat.le_of_ble_eq_true rfl⟩) hK hN (hZ.kept hS) hP hD hS hA [2, 3, 4] [] rfl rfl (by decide) (by decide) (by decide) (va_recv hK hP (ci := 0) (q0 := 2) rfl rfl) rfl hl.1 rfl (Nat.le_of_ble_eq_true rfl) dX7_ask_51 ⟨Nat.le_of_ble_eq_true rfl, Nat.le_of_ble_eq_true rfl⟩ (fun u_49 H locs hr_48 hP hD hS => ?_)
                rcases hr_48 with g_50 | g_51 | g_52 | g_53 | g_54 | g_55 | g_56 | g_57
                · refine lv_iload_n hx hb dX7_ask_54 rfl (lv_at hl 0 rfl) ?_
                  exact W.iret (v := 0) hx hb hr (fun t ht hW => ⟨⟨0, (), rfl, Or.inr (Or.inr (Or.inr (Or.inr (Or.inl (⟨rfl, (by first | omega | decide), (by first | omega | decide), (by first | omega | decide), (by first | omega | decide), (by first | omega | decide), (by first | omega | decide)⟩))))), zP_nil, zD_nil⟩, hS.F ht⟩) hS.2.2 dX7_ask_55
                · exfalso; omega
                · exfalso; omega
                · exfalso; omega
                · exfalso; omega
                · exfalso; omega
                · exfalso; omega
                · exfalso; omega
              · exfalso; omega
              · exfalso; omega
              · exfalso; omega
              · exfalso; omega
              · exfalso; omega
              · exfalso; omega
              · exfalso; omega
            · exact absurd c_38 (by decide)
        · have kc300 : (300 : Int32).toInt = 300 := by decide
          refine zc_S (As := [.int v, .int 0, .int 300]) (rest := []) ⟨hx, hb, hml, hown, hts⟩ (c_within l D cI cJ cZ cP cS (v) (0) (300) ) (va_cwS 3 hts gX7_ask_X7_within rfl rfl rfl (by decide +kernel) ⟨Nat.le_of_ble_eq_true rfl, Nat.le_of_ble_eq_true rfl⟩) hK hN (hZ.kept hS) rfl hl.1 rfl (Nat.le_of_ble_eq_true rfl) dX7_ask_23 ⟨Nat.le_of_ble_eq_true rfl, Nat.le_of_ble_eq_true rfl⟩ (fun r_58 hr_58 => ?_)
          rcases hr_58 with ⟨rfl, g_59⟩ | ⟨rfl, g_60, g_61⟩ | ⟨rfl, g_62, g_63⟩
          · refine lv_if_ne (tgt := 36) hx hb dX7_ask_26 (by decide) (fun c_64 => ?_) (fun c_64 => ?_)
            · exact absurd c_64 (by decide)
            · refine lv_aload_n hx hb dX7_ask_29 rfl (lv_at hl 0 rfl) ?_
              refine lv_bipush (v := 6) hx hb dX7_ask_30 (by decide) ?_
              skip
              refine zw_V (As := [.int 6]) (rest := []) (wr := []) ⟨hx, hb, hml, hown, hts⟩ (c_refuse_6 l D cI cJ cZ cP cS x0 xs j0 k0 w0 rd mv xr  H.size) (cwV 1 hts gX7_ask_X7_refuse rfl rfl rfl (by decide +kernel) ⟨Nat.le_of_ble_eq_true rfl, Nat.le_of_ble_eq_true rfl⟩) hK hN (hZ.kept hS) hP hD hS hA [0, 1] [] rfl rfl (by decide) (by decide) (by decide) (va_recv hK hP (ci := 7) (q0 := 0) rfl rfl) rfl hl.1 rfl (Nat.le_of_ble_eq_true rfl) dX7_ask_32 ⟨Nat.le_of_ble_eq_true rfl, Nat.le_of_ble_eq_true rfl⟩ (fun r_65 u_66 H locs hr_65 hP hD hS => ?_)
              obtain rfl := hr_65
              exact W.iret (v := (-6)) hx hb hr (fun t ht hW => ⟨⟨(-6), (), rfl, Or.inr (Or.inr (Or.inr (Or.inr (Or.inr (Or.inl (⟨rfl, (by first | omega | decide), (by first | omega | decide), (by first | omega | decide), (by first | omega | decide), (by first | omega | decide)⟩)))))), zP_nil, zD_nil⟩, hS.F ht⟩) hS.2.2 dX7_ask_35
          · refine lv_if_ne (tgt := 36) hx hb dX7_ask_26 (by decide) (fun c_67 => ?_) (fun c_67 => ?_)
            · exact absurd c_67 (by decide)
            · refine lv_aload_n hx hb dX7_ask_29 rfl (lv_at hl 0 rfl) ?_
              refine lv_bipush (v := 6) hx hb dX7_ask_30 (by decide) ?_
              skip
              refine zw_V (As := [.int 6]) (rest := []) (wr := []) ⟨hx, hb, hml, hown, hts⟩ (c_refuse_6 l D cI cJ cZ cP cS x0 xs j0 k0 w0 rd mv xr  H.size) (cwV 1 hts gX7_ask_X7_refuse rfl rfl rfl (by decide +kernel) ⟨Nat.le_of_ble_eq_true rfl, Nat.le_of_ble_eq_true rfl⟩) hK hN (hZ.kept hS) hP hD hS hA [0, 1] [] rfl rfl (by decide) (by decide) (by decide) (va_recv hK hP (ci := 7) (q0 := 0) rfl rfl) rfl hl.1 rfl (Nat.le_of_ble_eq_true rfl) dX7_ask_32 ⟨Nat.le_of_ble_eq_true rfl, Nat.le_of_ble_eq_true rfl⟩ (fun r_68 u_69 H locs hr_68 hP hD hS => ?_)
              obtain rfl := hr_68
              exact W.iret (v := (-6)) hx hb hr (fun t ht hW => ⟨⟨(-6), (), rfl, Or.inr (Or.inr (Or.inr (Or.inr (Or.inr (Or.inr (Or.inl (⟨rfl, (by first | omega | decide), (by first | omega | decide), (by first | omega | decide), (by first | omega | decide), (by first | omega | decide), (by first | omega | decide)⟩))))))), zP_nil, zD_nil⟩, hS.F ht⟩) hS.2.2 dX7_ask_35
          · refine lv_if_ne (tgt := 36) hx hb dX7_ask_26 (by decide) (fun c_70 => ?_) (fun c_70 => ?_)
            · refine lv_aload_n hx hb dX7_ask_36 rfl (lv_at hl 0 rfl) ?_
              refine va_get (D := D) (ci := 7) (v := .ref j0) (C := RX7) (T := TX7) (N := 9) hx hb hts hi_X7_ask_7 hown hK hP 0 rfl rfl 1 (by decide) (hts (.fieldLink RX7 18 "TheLiningsInIt" "now" "LTheLiningsInIt$Jacket;") (List.mem_of_getElem? (i := 1) rfl)) (fun _ h9 => h9) rfl dX7_ask_37 ?_
              refine lv_iload_n hx hb dX7_ask_40 rfl (lv_at hl 1 rfl) ?_
              refine zc_V (As := [.int w]) (rest := []) ⟨hx, hb, hml, hown, hts⟩ (c_J_number l D cI cJ cZ cP cS j0 jp jc z0 zl zs (w) (by omega) (by omega)) (cwV 1 hts gX7_ask_X0_number rfl rfl rfl (by decide +kernel) ⟨Nat.le_of_ble_eq_true rfl, Nat.le_of_ble_eq_true rfl⟩) hK hN (hZ.kept hS) hP [2, 3, 4] rfl (va_recv hK hP (ci := 0) (q0 := 2) rfl rfl) rfl hl.1 rfl (Nat.le_of_ble_eq_true rfl) dX7_ask_41 ⟨Nat.le_of_ble_eq_true rfl, Nat.le_of_ble_eq_true rfl⟩ (fun r_71 hr_71 => ?_)
              rcases hr_71 with ⟨rfl, g_72⟩ | ⟨rfl, g_73⟩ | ⟨rfl, g_74⟩ | ⟨rfl, g_75⟩ | ⟨rfl, g_76⟩ | ⟨rfl, g_77⟩ | ⟨rfl, g_78⟩ | ⟨rfl, g_79⟩
              · exfalso; omega
              · refine lv_istore_n (lv' := [(3, .int 60), (0, .ref x0), (1, .int w), (2, .int v)]) hx hb dX7_ask_44 rfl hl (by decide) rfl (fun ls hl => ?_)
                refine lv_aload_n hx hb dX7_ask_45 rfl (lv_at hl 1 rfl) ?_
                refine va_get (D := D) (ci := 7) (v := .ref j0) (C := RX7) (T := TX7) (N := 9) hx hb hts hi_X7_ask_7 hown hK hP 0 rfl rfl 1 (by decide) (hts (.fieldLink RX7 18 "TheLiningsInIt" "now" "LTheLiningsInIt$Jacket;") (List.mem_of_getElem? (i := 1) rfl)) (fun _ h9 => h9) rfl dX7_ask_46 ?_
                refine lv_iload_n hx hb dX7_ask_49 rfl (lv_at hl 2 rfl) ?_
                refine lv_iload_n hx hb dX7_ask_50 rfl (lv_at hl 3 rfl) ?_
                skip
                refine zw_Vv (As := [.int w, .int v]) (rest := []) (wr := []) ⟨hx, hb, hml, hown, hts⟩ (c_J_setNumber l D cI cJ cZ cP cS j0 jp jc z0 zl zs (w) (v) (by omega) (by omega) H.size) (cwV 2 hts gX7_ask_X0_setNumber rfl rfl rfl (by decide +kernel) ⟨Nat.le_of_ble_eq_true rfl, Nat.le_of_ble_eq_true rfl⟩) hK hN (hZ.kept hS) hP hD hS hA [2, 3, 4] [] rfl rfl (by decide) (by decide) (by decide) (va_recv hK hP (ci := 0) (q0 := 2) rfl rfl) rfl hl.1 rfl (Nat.le_of_ble_eq_true rfl) dX7_ask_51 ⟨Nat.le_of_ble_eq_true rfl, Nat.le_of_ble_eq_true rfl⟩ (fun u_81 H locs hr_80 hP hD hS => ?_)
                rcases hr_80 with g_82 | g_83 | g_84 | g_85 | g_86 | g_87 | g_88 | g_89
                · exfalso; omega
                · refine lv_iload_n hx hb dX7_ask_54 rfl (lv_at hl 0 rfl) ?_
                  exact W.iret (v := 60) hx hb hr (fun t ht hW => ⟨⟨60, (), rfl, Or.inr (Or.inr (Or.inr (Or.inr (Or.inr (Or.inr (Or.inr (Or.inl (⟨rfl, (by first | omega | decide), (by first | omega | decide), (by first | omega | decide), (by first | omega | decide), (by first | omega | decide), (by first | omega | decide)⟩)))))))), zP_nil, zD_nil⟩, hS.F ht⟩) hS.2.2 dX7_ask_55
                · exfalso; omega
                · exfalso; omega
                · exfalso; omega
                · exfalso; omega
                · exfalso; omega
                · exfalso; omega
              · exfalso; omega
              · exfalso; omega
              · exfalso; omega
              · exfalso; omega
              · exfalso; omega
              · exfalso; omega
            · exact absurd c_70 (by decide)
        · have kc9 : (9 : Int32).toInt = 9 := by decide
          refine zc_S (As := [.int v, .int 0, .int 9]) (rest := []) ⟨hx, hb, hml, hown, hts⟩ (c_within l D cI cJ cZ cP cS (v) (0) (9) ) (va_cwS 3 hts gX7_ask_X7_within rfl rfl rfl (by decide +kernel) ⟨Nat.le_of_ble_eq_true rfl, Nat.le_of_ble_eq_true rfl⟩) hK hN (hZ.kept hS) rfl hl.1 rfl (Nat.le_of_ble_eq_true rfl) dX7_ask_23 ⟨Nat.le_of_ble_eq_true rfl, Nat.le_of_ble_eq_true rfl⟩ (fun r_90 hr_90 => ?_)
          rcases hr_90 with ⟨rfl, g_91⟩ | ⟨rfl, g_92, g_93⟩ | ⟨rfl, g_94, g_95⟩
          · refine lv_if_ne (tgt := 36) hx hb dX7_ask_26 (by decide) (fun c_96 => ?_) (fun c_96 => ?_)
            · exact absurd c_96 (by decide)
            · refine lv_aload_n hx hb dX7_ask_29 rfl (lv_at hl 0 rfl) ?_
              refine lv_bipush (v := 6) hx hb dX7_ask_30 (by decide) ?_
              skip
              refine zw_V (As := [.int 6]) (rest := []) (wr := []) ⟨hx, hb, hml, hown, hts⟩ (c_refuse_6 l D cI cJ cZ cP cS x0 xs j0 k0 w0 rd mv xr  H.size) (cwV 1 hts gX7_ask_X7_refuse rfl rfl rfl (by decide +kernel) ⟨Nat.le_of_ble_eq_true rfl, Nat.le_of_ble_eq_true rfl⟩) hK hN (hZ.kept hS) hP hD hS hA [0, 1] [] rfl rfl (by decide) (by decide) (by decide) (va_recv hK hP (ci := 7) (q0 := 0) rfl rfl) rfl hl.1 rfl (Nat.le_of_ble_eq_true rfl) dX7_ask_32 ⟨Nat.le_of_ble_eq_true rfl, Nat.le_of_ble_eq_true rfl⟩ (fun r_97 u_98 H locs hr_97 hP hD hS => ?_)
              obtain rfl := hr_97
              exact W.iret (v := (-6)) hx hb hr (fun t ht hW => ⟨⟨(-6), (), rfl, Or.inr (Or.inr (Or.inr (Or.inr (Or.inr (Or.inr (Or.inr (Or.inr (Or.inl (⟨rfl, (by first | omega | decide), (by first | omega | decide), (by first | omega | decide), (by first | omega | decide), (by first | omega | decide)⟩))))))))), zP_nil, zD_nil⟩, hS.F ht⟩) hS.2.2 dX7_ask_35
          · refine lv_if_ne (tgt := 36) hx hb dX7_ask_26 (by decide) (fun c_99 => ?_) (fun c_99 => ?_)
            · exact absurd c_99 (by decide)
            · refine lv_aload_n hx hb dX7_ask_29 rfl (lv_at hl 0 rfl) ?_
              refine lv_bipush (v := 6) hx hb dX7_ask_30 (by decide) ?_
              skip
              refine zw_V (As := [.int 6]) (rest := []) (wr := []) ⟨hx, hb, hml, hown, hts⟩ (c_refuse_6 l D cI cJ cZ cP cS x0 xs j0 k0 w0 rd mv xr  H.size) (cwV 1 hts gX7_ask_X7_refuse rfl rfl rfl (by decide +kernel) ⟨Nat.le_of_ble_eq_true rfl, Nat.le_of_ble_eq_true rfl⟩) hK hN (hZ.kept hS) hP hD hS hA [0, 1] [] rfl rfl (by decide) (by decide) (by decide) (va_recv hK hP (ci := 7) (q0 := 0) rfl rfl) rfl hl.1 rfl (Nat.le_of_ble_eq_true rfl) dX7_ask_32 ⟨Nat.le_of_ble_eq_true rfl, Nat.le_of_ble_eq_true rfl⟩ (fun r_100 u_101 H locs hr_100 hP hD hS => ?_)
              obtain rfl := hr_100
              exact W.iret (v := (-6)) hx hb hr (fun t ht hW => ⟨⟨(-6), (), rfl, Or.inr (Or.inr (Or.inr (Or.inr (Or.inr (Or.inr (Or.inr (Or.inr (Or.inr (Or.inl (⟨rfl, (by first | omega | decide), (by first | omega | decide), (by first | omega | decide), (by first | omega | decide), (by first | omega | decide), (by first | omega | decide)⟩)))))))))), zP_nil, zD_nil⟩, hS.F ht⟩) hS.2.2 dX7_ask_35
          · refine lv_if_ne (tgt := 36) hx hb dX7_ask_26 (by decide) (fun c_102 => ?_) (fun c_102 => ?_)
            · refine lv_aload_n hx hb dX7_ask_36 rfl (lv_at hl 0 rfl) ?_
              refine va_get (D := D) (ci := 7) (v := .ref j0) (C := RX7) (T := TX7) (N := 9) hx hb hts hi_X7_ask_7 hown hK hP 0 rfl rfl 1 (by decide) (hts (.fieldLink RX7 18 "TheLiningsInIt" "now" "LTheLiningsInIt$Jacket;") (List.mem_of_getElem? (i := 1) rfl)) (fun _ h9 => h9) rfl dX7_ask_37 ?_
              refine lv_iload_n hx hb dX7_ask_40 rfl (lv_at hl 1 rfl) ?_
              refine zc_V (As := [.int w]) (rest := []) ⟨hx, hb, hml, hown, hts⟩ (c_J_number l D cI cJ cZ cP cS j0 jp jc z0 zl zs (w) (by omega) (by omega)) (cwV 1 hts gX7_ask_X0_number rfl rfl rfl (by decide +kernel) ⟨Nat.le_of_ble_eq_true rfl, Nat.le_of_ble_eq_true rfl⟩) hK hN (hZ.kept hS) hP [2, 3, 4] rfl (va_recv hK hP (ci := 0) (q0 := 2) rfl rfl) rfl hl.1 rfl (Nat.le_of_ble_eq_true rfl) dX7_ask_41 ⟨Nat.le_of_ble_eq_true rfl, Nat.le_of_ble_eq_true rfl⟩ (fun r_103 hr_103 => ?_)
              rcases hr_103 with ⟨rfl, g_104⟩ | ⟨rfl, g_105⟩ | ⟨rfl, g_106⟩ | ⟨rfl, g_107⟩ | ⟨rfl, g_108⟩ | ⟨rfl, g_109⟩ | ⟨rfl, g_110⟩ | ⟨rfl, g_111⟩
              · exfalso; omega
              · exfalso; omega
              · refine lv_istore_n (lv' := [(3, .int 0), (0, .ref x0), (1, .int w), (2, .int v)]) hx hb dX7_ask_44 rfl hl (by decide) rfl (fun ls hl => ?_)
                refine lv_aload_n hx hb dX7_ask_45 rfl (lv_at hl 1 rfl) ?_
                refine va_get (D := D) (ci := 7) (v := .ref j0) (C := RX7) (T := TX7) (N := 9) hx hb hts hi_X7_ask_7 hown hK hP 0 rfl rfl 1 (by decide) (hts (.fieldLink RX7 18 "TheLiningsInIt" "now" "LTheLiningsInIt$Jacket;") (List.mem_of_getElem? (i := 1) rfl)) (fun _ h9 => h9) rfl dX7_ask_46 ?_
                refine lv_iload_n hx hb dX7_ask_49 rfl (lv_at hl 2 rfl) ?_
                refine lv_iload_n hx hb dX7_ask_50 rfl (lv_at hl 3 rfl) ?_
                skip
                refine zw_Vv (As := [.int w, .int v]) (rest := []) (wr := []) ⟨hx, hb, hml, hown, hts⟩ (c_J_setNumber l D cI cJ cZ cP cS j0 jp jc z0 zl zs (w) (v) (by omega) (by omega) H.size) (cwV 2 hts gX7_ask_X0_setNumber rfl rfl rfl (by decide +kernel) ⟨Nat.le_of_ble_eq_true rfl, Nat.le_of_ble_eq_true rfl⟩) hK hN (hZ.kept hS) hP hD hS hA [2, 3, 4] [] rfl rfl (by decide) (by decide) (by decide) (va_recv hK hP (ci := 0) (q0 := 2) rfl rfl) rfl hl.1 rfl (Nat.le_of_ble_eq_true rfl) dX7_ask_51 ⟨Nat.le_of_ble_eq_true rfl, Nat.le_of_ble_eq_true rfl⟩ (fun u_113 H locs hr_112 hP hD hS => ?_)
                rcases hr_112 with g_114 | g_115 | g_116 | g_117 | g_118 | g_119 | g_120 | g_121
                · exfalso; omega
                · exfalso; omega
                · refine lv_iload_n hx hb dX7_ask_54 rfl (lv_at hl 0 rfl) ?_
                  exact W.iret (v := 0) hx hb hr (fun t ht hW => ⟨⟨0, (), rfl, Or.inr (Or.inr (Or.inr (Or.inr (Or.inr (Or.inr (Or.inr (Or.inr (Or.inr (Or.inr (Or.inl (⟨rfl, (by first | omega | decide), (by first | omega | decide), (by first | omega | decide), (by first | omega | decide), (by first | omega | decide), (by first | omega | decide)⟩))))))))))), zP_nil, zD_nil⟩, hS.F ht⟩) hS.2.2 dX7_ask_55
                · exfalso; omega
                · exfalso; omega
                · exfalso; omega
                · exfalso; omega
                · exfalso; omega
              · exfalso; omega
              · exfalso; omega
              · exfalso; omega
              · exfalso; omega
              · exfalso; omega
            · exact absurd c_102 (by decide)
        · have kc9 : (9 : Int32).toInt = 9 := by decide
          refine zc_S (As := [.int v, .int 0, .int 9]) (rest := []) ⟨hx, hb, hml, hown, hts⟩ (c_within l D cI cJ cZ cP cS (v) (0) (9) ) (va_cwS 3 hts gX7_ask_X7_within rfl rfl rfl (by decide +kernel) ⟨Nat.le_of_ble_eq_true rfl, Nat.le_of_ble_eq_true rfl⟩) hK hN (hZ.kept hS) rfl hl.1 rfl (Nat.le_of_ble_eq_true rfl) dX7_ask_23 ⟨Nat.le_of_ble_eq_true rfl, Nat.le_of_ble_eq_true rfl⟩ (fun r_122 hr_122 => ?_)
          rcases hr_122 with ⟨rfl, g_123⟩ | ⟨rfl, g_124, g_125⟩ | ⟨rfl, g_126, g_127⟩
          · refine lv_if_ne (tgt := 36) hx hb dX7_ask_26 (by decide) (fun c_128 => ?_) (fun c_128 => ?_)
            · exact absurd c_128 (by decide)
            · refine lv_aload_n hx hb dX7_ask_29 rfl (lv_at hl 0 rfl) ?_
              refine lv_bipush (v := 6) hx hb dX7_ask_30 (by decide) ?_
              skip
              refine zw_V (As := [.int 6]) (rest := []) (wr := []) ⟨hx, hb, hml, hown, hts⟩ (c_refuse_6 l D cI cJ cZ cP cS x0 xs j0 k0 w0 rd mv xr  H.size) (cwV 1 hts gX7_ask_X7_refuse rfl rfl rfl (by decide +kernel) ⟨Nat.le_of_ble_eq_true rfl, Nat.le_of_ble_eq_true rfl⟩) hK hN (hZ.kept hS) hP hD hS hA [0, 1] [] rfl rfl (by decide) (by decide) (by decide) (va_recv hK hP (ci := 7) (q0 := 0) rfl rfl) rfl hl.1 rfl (Nat.le_of_ble_eq_true rfl) dX7_ask_32 ⟨Nat.le_of_ble_eq_true rfl, Nat.le_of_ble_eq_true rfl⟩ (fun r_129 u_130 H locs hr_129 hP hD hS => ?_)
              obtain rfl := hr_129
              exact W.iret (v := (-6)) hx hb hr (fun t ht hW => ⟨⟨(-6), (), rfl, Or.inr (Or.inr (Or.inr (Or.inr (Or.inr (Or.inr (Or.inr (Or.inr (Or.inr (Or.inr (Or.inr (Or.inl (⟨rfl, (by first | omega | decide), (by first | omega | decide), (by first | omega | decide), (by first | omega | decide), (by first | omega | decide)⟩)))))))))))), zP_nil, zD_nil⟩, hS.F ht⟩) hS.2.2 dX7_ask_35
          · refine lv_if_ne (tgt := 36) hx hb dX7_ask_26 (by decide) (fun c_131 => ?_) (fun c_131 => ?_)
            · exact absurd c_131 (by decide)
            · refine lv_aload_n hx hb dX7_ask_29 rfl (lv_at hl 0 rfl) ?_
              refine lv_bipush (v := 6) hx hb dX7_ask_30 (by decide) ?_
              skip
              refine zw_V (As := [.int 6]) (rest := []) (wr := []) ⟨hx, hb, hml, hown, hts⟩ (c_refuse_6 l D cI cJ cZ cP cS x0 xs j0 k0 w0 rd mv xr  H.size) (cwV 1 hts gX7_ask_X7_refuse rfl rfl rfl (by decide +kernel) ⟨Nat.le_of_ble_eq_true rfl, Nat.le_of_ble_eq_true rfl⟩) hK hN (hZ.kept hS) hP hD hS hA [0, 1] [] rfl rfl (by decide) (by decide) (by decide) (va_recv hK hP (ci := 7) (q0 := 0) rfl rfl) rfl hl.1 rfl (Nat.le_of_ble_eq_true rfl) dX7_ask_32 ⟨Nat.le_of_ble_eq_true rfl, Nat.le_of_ble_eq_true rfl⟩ (fun r_132 u_133 H locs hr_132 hP hD hS => ?_)
              obtain rfl := hr_132
              exact W.iret (v := (-6)) hx hb hr (fun t ht hW => ⟨⟨(-6), (), rfl, Or.inr (Or.inr (Or.inr (Or.inr (Or.inr (Or.inr (Or.inr (Or.inr (Or.inr (Or.inr (Or.inr (Or.inr (Or.inl (⟨rfl, (by first | omega | decide), (by first | omega | decide), (by first | omega | decide), (by first | omega | decide), (by first | omega | decide), (by first | omega | decide)⟩))))))))))))), zP_nil, zD_nil⟩, hS.F ht⟩) hS.2.2 dX7_ask_35
          · refine lv_if_ne (tgt := 36) hx hb dX7_ask_26 (by decide) (fun c_134 => ?_) (fun c_134 => ?_)
            · refine lv_aload_n hx hb dX7_ask_36 rfl (lv_at hl 0 rfl) ?_
              refine va_get (D := D) (ci := 7) (v := .ref j0) (C := RX7) (T := TX7) (N := 9) hx hb hts hi_X7_ask_7 hown hK hP 0 rfl rfl 1 (by decide) (hts (.fieldLink RX7 18 "TheLiningsInIt" "now" "LTheLiningsInIt$Jacket;") (List.mem_of_getElem? (i := 1) rfl)) (fun _ h9 => h9) rfl dX7_ask_37 ?_
              refine lv_iload_n hx hb dX7_ask_40 rfl (lv_at hl 1 rfl) ?_
              refine zc_V (As := [.int w]) (rest := []) ⟨hx, hb, hml, hown, hts⟩ (c_J_number l D cI cJ cZ cP cS j0 jp jc z0 zl zs (w) (by omega) (by omega)) (cwV 1 hts gX7_ask_X0_number rfl rfl rfl (by decide +kernel) ⟨Nat.le_of_ble_eq_true rfl, Nat.le_of_ble_eq_true rfl⟩) hK hN (hZ.kept hS) hP [2, 3, 4] rfl (va_recv hK hP (ci := 0) (q0 := 2) rfl rfl) rfl hl.1 rfl (Nat.le_of_ble_eq_true rfl) dX7_ask_41 ⟨Nat.le_of_ble_eq_true rfl, Nat.le_of_ble_eq_true rfl⟩ (fun r_135 hr_135 => ?_)
              rcases hr_135 with ⟨rfl, g_136⟩ | ⟨rfl, g_137⟩ | ⟨rfl, g_138⟩ | ⟨rfl, g_139⟩ | ⟨rfl, g_140⟩ | ⟨rfl, g_141⟩ | ⟨rfl, g_142⟩ | ⟨rfl, g_143⟩
              · exfalso; omega
              · exfalso; omega
              · exfalso; omega
              · refine lv_istore_n (lv' := [(3, .int 3), (0, .ref x0), (1, .int w), (2, .int v)]) hx hb dX7_ask_44 rfl hl (by decide) rfl (fun ls hl => ?_)
                refine lv_aload_n hx hb dX7_ask_45 rfl (lv_at hl 1 rfl) ?_
                refine va_get (D := D) (ci := 7) (v := .ref j0) (C := RX7) (T := TX7) (N := 9) hx hb hts hi_X7_ask_7 hown hK hP 0 rfl rfl 1 (by decide) (hts (.fieldLink RX7 18 "TheLiningsInIt" "now" "LTheLiningsInIt$Jacket;") (List.mem_of_getElem? (i := 1) rfl)) (fun _ h9 => h9) rfl dX7_ask_46 ?_
                refine lv_iload_n hx hb dX7_ask_49 rfl (lv_at hl 2 rfl) ?_
                refine lv_iload_n hx hb dX7_ask_50 rfl (lv_at hl 3 rfl) ?_
                skip
                refine zw_Vv (As := [.int w, .int v]) (rest := []) (wr := []) ⟨hx, hb, hml, hown, hts⟩ (c_J_setNumber l D cI cJ cZ cP cS j0 jp jc z0 zl zs (w) (v) (by omega) (by omega) H.size) (cwV 2 hts gX7_ask_X0_setNumber rfl rfl rfl (by decide +kernel) ⟨Nat.le_of_ble_eq_true rfl, Nat.le_of_ble_eq_true rfl⟩) hK hN (hZ.kept hS) hP hD hS hA [2, 3, 4] [] rfl rfl (by decide) (by decide) (by decide) (va_recv hK hP (ci := 0) (q0 := 2) rfl rfl) rfl hl.1 rfl (Nat.le_of_ble_eq_true rfl) dX7_ask_51 ⟨Nat.le_of_ble_eq_true rfl, Nat.le_of_ble_eq_true rfl⟩ (fun u_145 H locs hr_144 hP hD hS => ?_)
                rcases hr_144 with g_146 | g_147 | g_148 | g_149 | g_150 | g_151 | g_152 | g_153
                · exfalso; omega
                · exfalso; omega
                · exfalso; omega
                · refine lv_iload_n hx hb dX7_ask_54 rfl (lv_at hl 0 rfl) ?_
                  exact W.iret (v := 3) hx hb hr (fun t ht hW => ⟨⟨3, (), rfl, Or.inr (Or.inr (Or.inr (Or.inr (Or.inr (Or.inr (Or.inr (Or.inr (Or.inr (Or.inr (Or.inr (Or.inr (Or.inr (Or.inl (⟨rfl, (by first | omega | decide), (by first | omega | decide), (by first | omega | decide), (by first | omega | decide), (by first | omega | decide), (by first | omega | decide)⟩)))))))))))))), zP_nil, zD_nil⟩, hS.F ht⟩) hS.2.2 dX7_ask_55
                · exfalso; omega
                · exfalso; omega
                · exfalso; omega
                · exfalso; omega
              · exfalso; omega
              · exfalso; omega
              · exfalso; omega
              · exfalso; omega
            · exact absurd c_134 (by decide)
        · have kc99 : (99 : Int32).toInt = 99 := by decide
          refine zc_S (As := [.int v, .int 0, .int 99]) (rest := []) ⟨hx, hb, hml, hown, hts⟩ (c_within l D cI cJ cZ cP cS (v) (0) (99) ) (va_cwS 3 hts gX7_ask_X7_within rfl rfl rfl (by decide +kernel) ⟨Nat.le_of_ble_eq_true rfl, Nat.le_of_ble_eq_true rfl⟩) hK hN (hZ.kept hS) rfl hl.1 rfl (Nat.le_of_ble_eq_true rfl) dX7_ask_23 ⟨Nat.le_of_ble_eq_true rfl, Nat.le_of_ble_eq_true rfl⟩ (fun r_154 hr_154 => ?_)
          rcases hr_154 with ⟨rfl, g_155⟩ | ⟨rfl, g_156, g_157⟩ | ⟨rfl, g_158, g_159⟩
          · refine lv_if_ne (tgt := 36) hx hb dX7_ask_26 (by decide) (fun c_160 => ?_) (fun c_160 => ?_)
            · exact absurd c_160 (by decide)
            · refine lv_aload_n hx hb dX7_ask_29 rfl (lv_at hl 0 rfl) ?_
              refine lv_bipush (v := 6) hx hb dX7_ask_30 (by decide) ?_
              skip
              refine zw_V (As := [.int 6]) (rest := []) (wr := []) ⟨hx, hb, hml, hown, hts⟩ (c_refuse_6 l D cI cJ cZ cP cS x0 xs j0 k0 w0 rd mv xr  H.size) (cwV 1 hts gX7_ask_X7_refuse rfl rfl rfl (by decide +kernel) ⟨Nat.le_of_ble_eq_true rfl, Nat.le_of_ble_eq_true rfl⟩) hK hN (hZ.kept hS) hP hD hS hA [0, 1] [] rfl rfl (by decide) (by decide) (by decide) (va_recv hK hP (ci := 7) (q0 := 0) rfl rfl) rfl hl.1 rfl (Nat.le_of_ble_eq_true rfl) dX7_ask_32 ⟨Nat.le_of_ble_eq_true rfl, Nat.le_of_ble_eq_true rfl⟩ (fun r_161 u_162 H locs hr_161 hP hD hS => ?_)
              obtain rfl := hr_161
              exact W.iret (v := (-6)) hx hb hr (fun t ht hW => ⟨⟨(-6), (), rfl, Or.inr (Or.inr (Or.inr (Or.inr (Or.inr (Or.inr (Or.inr (Or.inr (Or.inr (Or.inr (Or.inr (Or.inr (Or.inr (Or.inr (Or.inl (⟨rfl, (by first | omega | decide), (by first | omega | decide), (by first | omega | decide), (by first | omega | decide), (by first | omega | decide)⟩))))))))))))))), zP_nil, zD_nil⟩, hS.F ht⟩) hS.2.2 dX7_ask_35
          · refine lv_if_ne (tgt := 36) hx hb dX7_ask_26 (by decide) (fun c_163 => ?_) (fun c_163 => ?_)
            · exact absurd c_163 (by decide)
            · refine lv_aload_n hx hb dX7_ask_29 rfl (lv_at hl 0 rfl) ?_
              refine lv_bipush (v := 6) hx hb dX7_ask_30 (by decide) ?_
              skip
              refine zw_V (As := [.int 6]) (rest := []) (wr := []) ⟨hx, hb, hml, hown, hts⟩ (c_refuse_6 l D cI cJ cZ cP cS x0 xs j0 k0 w0 rd mv xr  H.size) (cwV 1 hts gX7_ask_X7_refuse rfl rfl rfl (by decide +kernel) ⟨Nat.le_of_ble_eq_true rfl, Nat.le_of_ble_eq_true rfl⟩) hK hN (hZ.kept hS) hP hD hS hA [0, 1] [] rfl rfl (by decide) (by decide) (by decide) (va_recv hK hP (ci := 7) (q0 := 0) rfl rfl) rfl hl.1 rfl (Nat.le_of_ble_eq_true rfl) dX7_ask_32 ⟨Nat.le_of_ble_eq_true rfl, Nat.le_of_ble_eq_true rfl⟩ (fun r_164 u_165 H locs hr_164 hP hD hS => ?_)
              obtain rfl := hr_164
              exact W.iret (v := (-6)) hx hb hr (fun t ht hW => ⟨⟨(-6), (), rfl, Or.inr (Or.inr (Or.inr (Or.inr (Or.inr (Or.inr (Or.inr (Or.inr (Or.inr (Or.inr (Or.inr (Or.inr (Or.inr (Or.inr (Or.inr (Or.inl (⟨rfl, (by first | omega | decide), (by first | omega | decide), (by first | omega | decide), (by first | omega | decide), (by first | omega | decide), (by first | omega | decide)⟩)))))))))))))))), zP_nil, zD_nil⟩, hS.F ht⟩) hS.2.2 dX7_ask_35
          · refine lv_if_ne (tgt := 36) hx hb dX7_ask_26 (by decide) (fun c_166 => ?_) (fun c_166 => ?_)
            · refine lv_aload_n hx hb dX7_ask_36 rfl (lv_at hl 0 rfl) ?_
              refine va_get (D := D) (ci := 7) (v := .ref j0) (C := RX7) (T := TX7) (N := 9) hx hb hts hi_X7_ask_7 hown hK hP 0 rfl rfl 1 (by decide) (hts (.fieldLink RX7 18 "TheLiningsInIt" "now" "LTheLiningsInIt$Jacket;") (List.mem_of_getElem? (i := 1) rfl)) (fun _ h9 => h9) rfl dX7_ask_37 ?_
              refine lv_iload_n hx hb dX7_ask_40 rfl (lv_at hl 1 rfl) ?_
              refine zc_V (As := [.int w]) (rest := []) ⟨hx, hb, hml, hown, hts⟩ (c_J_number l D cI cJ cZ cP cS j0 jp jc z0 zl zs (w) (by omega) (by omega)) (cwV 1 hts gX7_ask_X0_number rfl rfl rfl (by decide +kernel) ⟨Nat.le_of_ble_eq_true rfl, Nat.le_of_ble_eq_true rfl⟩) hK hN (hZ.kept hS) hP [2, 3, 4] rfl (va_recv hK hP (ci := 0) (q0 := 2) rfl rfl) rfl hl.1 rfl (Nat.le_of_ble_eq_true rfl) dX7_ask_41 ⟨Nat.le_of_ble_eq_true rfl, Nat.le_of_ble_eq_true rfl⟩ (fun r_167 hr_167 => ?_)
              rcases hr_167 with ⟨rfl, g_168⟩ | ⟨rfl, g_169⟩ | ⟨rfl, g_170⟩ | ⟨rfl, g_171⟩ | ⟨rfl, g_172⟩ | ⟨rfl, g_173⟩ | ⟨rfl, g_174⟩ | ⟨rfl, g_175⟩
              · exfalso; omega
              · exfalso; omega
              · exfalso; omega
              · exfalso; omega
              · refine lv_istore_n (lv' := [(3, .int 5), (0, .ref x0), (1, .int w), (2, .int v)]) hx hb dX7_ask_44 rfl hl (by decide) rfl (fun ls hl => ?_)
                refine lv_aload_n hx hb dX7_ask_45 rfl (lv_at hl 1 rfl) ?_
                refine va_get (D := D) (ci := 7) (v := .ref j0) (C := RX7) (T := TX7) (N := 9) hx hb hts hi_X7_ask_7 hown hK hP 0 rfl rfl 1 (by decide) (hts (.fieldLink RX7 18 "TheLiningsInIt" "now" "LTheLiningsInIt$Jacket;") (List.mem_of_getElem? (i := 1) rfl)) (fun _ h9 => h9) rfl dX7_ask_46 ?_
                refine lv_iload_n hx hb dX7_ask_49 rfl (lv_at hl 2 rfl) ?_
                refine lv_iload_n hx hb dX7_ask_50 rfl (lv_at hl 3 rfl) ?_
                skip
                refine zw_Vv (As := [.int w, .int v]) (rest := []) (wr := []) ⟨hx, hb, hml, hown, hts⟩ (c_J_setNumber l D cI cJ cZ cP cS j0 jp jc z0 zl zs (w) (v) (by omega) (by omega) H.size) (cwV 2 hts gX7_ask_X0_setNumber rfl rfl rfl (by decide +kernel) ⟨Nat.le_of_ble_eq_true rfl, Nat.le_of_ble_eq_true rfl⟩) hK hN (hZ.kept hS) hP hD hS hA [2, 3, 4] [] rfl rfl (by decide) (by decide) (by decide) (va_recv hK hP (ci := 0) (q0 := 2) rfl rfl) rfl hl.1 rfl (Nat.le_of_ble_eq_true rfl) dX7_ask_51 ⟨Nat.le_of_ble_eq_true rfl, Nat.le_of_ble_eq_true rfl⟩ (fun u_177 H locs hr_176 hP hD hS => ?_)
                rcases hr_176 with g_178 | g_179 | g_180 | g_181 | g_182 | g_183 | g_184 | g_185
                · exfalso; omega
                · exfalso; omega
                · exfalso; omega
                · exfalso; omega
                · refine lv_iload_n hx hb dX7_ask_54 rfl (lv_at hl 0 rfl) ?_
                  exact W.iret (v := 5) hx hb hr (fun t ht hW => ⟨⟨5, (), rfl, Or.inr (Or.inr (Or.inr (Or.inr (Or.inr (Or.inr (Or.inr (Or.inr (Or.inr (Or.inr (Or.inr (Or.inr (Or.inr (Or.inr (Or.inr (Or.inr (Or.inl (⟨rfl, (by first | omega | decide), (by first | omega | decide), (by first | omega | decide), (by first | omega | decide), (by first | omega | decide), (by first | omega | decide)⟩))))))))))))))))), zP_nil, zD_nil⟩, hS.F ht⟩) hS.2.2 dX7_ask_55
                · exfalso; omega
                · exfalso; omega
                · exfalso; omega
              · exfalso; omega
              · exfalso; omega
              · exfalso; omega
            · exact absurd c_166 (by decide)
        · have kc99 : (99 : Int32).toInt = 99 := by decide
          refine zc_S (As := [.int v, .int 0, .int 99]) (rest := []) ⟨hx, hb, hml, hown, hts⟩ (c_within l D cI cJ cZ cP cS (v) (0) (99) ) (va_cwS 3 hts gX7_ask_X7_within rfl rfl rfl (by decide +kernel) ⟨Nat.le_of_ble_eq_true rfl, Nat.le_of_ble_eq_true rfl⟩) hK hN (hZ.kept hS) rfl hl.1 rfl (Nat.le_of_ble_eq_true rfl) dX7_ask_23 ⟨Nat.le_of_ble_eq_true rfl, Nat.le_of_ble_eq_true rfl⟩ (fun r_186 hr_186 => ?_)
          rcases hr_186 with ⟨rfl, g_187⟩ | ⟨rfl, g_188, g_189⟩ | ⟨rfl, g_190, g_191⟩
          · refine lv_if_ne (tgt := 36) hx hb dX7_ask_26 (by decide) (fun c_192 => ?_) (fun c_192 => ?_)
            · exact absurd c_192 (by decide)
            · refine lv_aload_n hx hb dX7_ask_29 rfl (lv_at hl 0 rfl) ?_
              refine lv_bipush (v := 6) hx hb dX7_ask_30 (by decide) ?_
              skip
              refine zw_V (As := [.int 6]) (rest := []) (wr := []) ⟨hx, hb, hml, hown, hts⟩ (c_refuse_6 l D cI cJ cZ cP cS x0 xs j0 k0 w0 rd mv xr  H.size) (cwV 1 hts gX7_ask_X7_refuse rfl rfl rfl (by decide +kernel) ⟨Nat.le_of_ble_eq_true rfl, Nat.le_of_ble_eq_true rfl⟩) hK hN (hZ.kept hS) hP hD hS hA [0, 1] [] rfl rfl (by decide) (by decide) (by decide) (va_recv hK hP (ci := 7) (q0 := 0) rfl rfl) rfl hl.1 rfl (Nat.le_of_ble_eq_true rfl) dX7_ask_32 ⟨Nat.le_of_ble_eq_true rfl, Nat.le_of_ble_eq_true rfl⟩ (fun r_193 u_194 H locs hr_193 hP hD hS => ?_)
              obtain rfl := hr_193
              exact W.iret (v := (-6)) hx hb hr (fun t ht hW => ⟨⟨(-6), (), rfl, Or.inr (Or.inr (Or.inr (Or.inr (Or.inr (Or.inr (Or.inr (Or.inr (Or.inr (Or.inr (Or.inr (Or.inr (Or.inr (Or.inr (Or.inr (Or.inr (Or.inr (Or.inl (⟨rfl, (by first | omega | decide), (by first | omega | decide), (by first | omega | decide), (by first | omega | decide), (by first | omega | decide)⟩)))))))))))))))))), zP_nil, zD_nil⟩, hS.F ht⟩) hS.2.2 dX7_ask_35
          · refine lv_if_ne (tgt := 36) hx hb dX7_ask_26 (by decide) (fun c_195 => ?_) (fun c_195 => ?_)
            · exact absurd c_195 (by decide)
            · refine lv_aload_n hx hb dX7_ask_29 rfl (lv_at hl 0 rfl) ?_
              refine lv_bipush (v := 6) hx hb dX7_ask_30 (by decide) ?_
              skip
              refine zw_V (As := [.int 6]) (rest := []) (wr := []) ⟨hx, hb, hml, hown, hts⟩ (c_refuse_6 l D cI cJ cZ cP cS x0 xs j0 k0 w0 rd mv xr  H.size) (cwV 1 hts gX7_ask_X7_refuse rfl rfl rfl (by decide +kernel) ⟨Nat.le_of_ble_eq_true rfl, Nat.le_of_ble_eq_true rfl⟩) hK hN (hZ.kept hS) hP hD hS hA [0, 1] [] rfl rfl (by decide) (by decide) (by decide) (va_recv hK hP (ci := 7) (q0 := 0) rfl rfl) rfl hl.1 rfl (Nat.le_of_ble_eq_true rfl) dX7_ask_32 ⟨Nat.le_of_ble_eq_true rfl, Nat.le_of_ble_eq_true rfl⟩ (fun r_196 u_197 H locs hr_196 hP hD hS => ?_)
              obtain rfl := hr_196
              exact W.iret (v := (-6)) hx hb hr (fun t ht hW => ⟨⟨(-6), (), rfl, Or.inr (Or.inr (Or.inr (Or.inr (Or.inr (Or.inr (Or.inr (Or.inr (Or.inr (Or.inr (Or.inr (Or.inr (Or.inr (Or.inr (Or.inr (Or.inr (Or.inr (Or.inr (Or.inl (⟨rfl, (by first | omega | decide), (by first | omega | decide), (by first | omega | decide), (by first | omega | decide), (by first | omega | decide), (by first | omega | decide)⟩))))))))))))))))))), zP_nil, zD_nil⟩, hS.F ht⟩) hS.2.2 dX7_ask_35
          · refine lv_if_ne (tgt := 36) hx hb dX7_ask_26 (by decide) (fun c_198 => ?_) (fun c_198 => ?_)
            · refine lv_aload_n hx hb dX7_ask_36 rfl (lv_at hl 0 rfl) ?_
              refine va_get (D := D) (ci := 7) (v := .ref j0) (C := RX7) (T := TX7) (N := 9) hx hb hts hi_X7_ask_7 hown hK hP 0 rfl rfl 1 (by decide) (hts (.fieldLink RX7 18 "TheLiningsInIt" "now" "LTheLiningsInIt$Jacket;") (List.mem_of_getElem? (i := 1) rfl)) (fun _ h9 => h9) rfl dX7_ask_37 ?_
              refine lv_iload_n hx hb dX7_ask_40 rfl (lv_at hl 1 rfl) ?_
              refine zc_V (As := [.int w]) (rest := []) ⟨hx, hb, hml, hown, hts⟩ (c_J_number l D cI cJ cZ cP cS j0 jp jc z0 zl zs (w) (by omega) (by omega)) (cwV 1 hts gX7_ask_X0_number rfl rfl rfl (by decide +kernel) ⟨Nat.le_of_ble_eq_true rfl, Nat.le_of_ble_eq_true rfl⟩) hK hN (hZ.kept hS) hP [2, 3, 4] rfl (va_recv hK hP (ci := 0) (q0 := 2) rfl rfl) rfl hl.1 rfl (Nat.le_of_ble_eq_true rfl) dX7_ask_41 ⟨Nat.le_of_ble_eq_true rfl, Nat.le_of_ble_eq_true rfl⟩ (fun r_199 hr_199 => ?_)
              rcases hr_199 with ⟨rfl, g_200⟩ | ⟨rfl, g_201⟩ | ⟨rfl, g_202⟩ | ⟨rfl, g_203⟩ | ⟨rfl, g_204⟩ | ⟨rfl, g_205⟩ | ⟨rfl, g_206⟩ | ⟨rfl, g_207⟩
              · exfalso; omega
              · exfalso; omega
              · exfalso; omega
              · exfalso; omega
              · exfalso; omega
              · refine lv_istore_n (lv' := [(3, .int 10), (0, .ref x0), (1, .int w), (2, .int v)]) hx hb dX7_ask_44 rfl hl (by decide) rfl (fun ls hl => ?_)
                refine lv_aload_n hx hb dX7_ask_45 rfl (lv_at hl 1 rfl) ?_
                refine va_get (D := D) (ci := 7) (v := .ref j0) (C := RX7) (T := TX7) (N := 9) hx hb hts hi_X7_ask_7 hown hK hP 0 rfl rfl 1 (by decide) (hts (.fieldLink RX7 18 "TheLiningsInIt" "now" "LTheLiningsInIt$Jacket;") (List.mem_of_getElem? (i := 1) rfl)) (fun _ h9 => h9) rfl dX7_ask_46 ?_
                refine lv_iload_n hx hb dX7_ask_49 rfl (lv_at hl 2 rfl) ?_
                refine lv_iload_n hx hb dX7_ask_50 rfl (lv_at hl 3 rfl) ?_
                skip
                refine zw_Vv (As := [.int w, .int v]) (rest := []) (wr := []) ⟨hx, hb, hml, hown, hts⟩ (c_J_setNumber l D cI cJ cZ cP cS j0 jp jc z0 zl zs (w) (v) (by omega) (by omega) H.size) (cwV 2 hts gX7_ask_X0_setNumber rfl rfl rfl (by decide +kernel) ⟨Nat.le_of_ble_eq_true rfl, Nat.le_of_ble_eq_true rfl⟩) hK hN (hZ.kept hS) hP hD hS hA [2, 3, 4] [] rfl rfl (by decide) (by decide) (by decide) (va_recv hK hP (ci := 0) (q0 := 2) rfl rfl) rfl hl.1 rfl (Nat.le_of_ble_eq_true rfl) dX7_ask_51 ⟨Nat.le_of_ble_eq_true rfl, Nat.le_of_ble_eq_true rfl⟩ (fun u_209 H locs hr_208 hP hD hS => ?_)
                rcases hr_208 with g_210 | g_211 | g_212 | g_213 | g_214 | g_215 | g_216 | g_217
                · exfalso; omega
                · exfalso; omega
                · exfalso; omega
                · exfalso; omega
                · exfalso; omega
                · refine lv_iload_n hx hb dX7_ask_54 rfl (lv_at hl 0 rfl) ?_
                  exact W.iret (v := 10) hx hb hr (fun t ht hW => ⟨⟨10, (), rfl, Or.inr (Or.inr (Or.inr (Or.inr (Or.inr (Or.inr (Or.inr (Or.inr (Or.inr (Or.inr (Or.inr (Or.inr (Or.inr (Or.inr (Or.inr (Or.inr (Or.inr (Or.inr (Or.inr (Or.inl (⟨rfl, (by first | omega | decide), (by first | omega | decide), (by first | omega | decide), (by first | omega | decide), (by first | omega | decide), (by first | omega | decide)⟩)))))))))))))))))))), zP_nil, zD_nil⟩, hS.F ht⟩) hS.2.2 dX7_ask_55
                · exfalso; omega
                · exfalso; omega
              · exfalso; omega
              · exfalso; omega
            · exact absurd c_198 (by decide)
        · have kc99 : (99 : Int32).toInt = 99 := by decide
          refine zc_S (As := [.int v, .int 0, .int 99]) (rest := []) ⟨hx, hb, hml, hown, hts⟩ (c_within l D cI cJ cZ cP cS (v) (0) (99) ) (va_cwS 3 hts gX7_ask_X7_within rfl rfl rfl (by decide +kernel) ⟨Nat.le_of_ble_eq_true rfl, Nat.le_of_ble_eq_true rfl⟩) hK hN (hZ.kept hS) rfl hl.1 rfl (Nat.le_of_ble_eq_true rfl) dX7_ask_23 ⟨Nat.le_of_ble_eq_true rfl, Nat.le_of_ble_eq_true rfl⟩ (fun r_218 hr_218 => ?_)
          rcases hr_218 with ⟨rfl, g_219⟩ | ⟨rfl, g_220, g_221⟩ | ⟨rfl, g_222, g_223⟩
          · refine lv_if_ne (tgt := 36) hx hb dX7_ask_26 (by decide) (fun c_224 => ?_) (fun c_224 => ?_)
            · exact absurd c_224 (by decide)
            · refine lv_aload_n hx hb dX7_ask_29 rfl (lv_at hl 0 rfl) ?_
              refine lv_bipush (v := 6) hx hb dX7_ask_30 (by decide) ?_
              skip
              refine zw_V (As := [.int 6]) (rest := []) (wr := []) ⟨hx, hb, hml, hown, hts⟩ (c_refuse_6 l D cI cJ cZ cP cS x0 xs j0 k0 w0 rd mv xr  H.size) (cwV 1 hts gX7_ask_X7_refuse rfl rfl rfl (by decide +kernel) ⟨Nat.le_of_ble_eq_true rfl, Nat.le_of_ble_eq_true rfl⟩) hK hN (hZ.kept hS) hP hD hS hA [0, 1] [] rfl rfl (by decide) (by decide) (by decide) (va_recv hK hP (ci := 7) (q0 := 0) rfl rfl) rfl hl.1 rfl (Nat.le_of_ble_eq_true rfl) dX7_ask_32 ⟨Nat.le_of_ble_eq_true rfl, Nat.le_of_ble_eq_true rfl⟩ (fun r_225 u_226 H locs hr_225 hP hD hS => ?_)
              obtain rfl := hr_225
              exact W.iret (v := (-6)) hx hb hr (fun t ht hW => ⟨⟨(-6), (), rfl, Or.inr (Or.inr (Or.inr (Or.inr (Or.inr (Or.inr (Or.inr (Or.inr (Or.inr (Or.inr (Or.inr (Or.inr (Or.inr (Or.inr (Or.inr (Or.inr (Or.inr (Or.inr (Or.inr (Or.inr (Or.inl (⟨rfl, (by first | omega | decide), (by first | omega | decide), (by first | omega | decide), (by first | omega | decide), (by first | omega | decide)⟩))))))))))))))))))))), zP_nil, zD_nil⟩, hS.F ht⟩) hS.2.2 dX7_ask_35
          · refine lv_if_ne (tgt := 36) hx hb dX7_ask_26 (by decide) (fun c_227 => ?_) (fun c_227 => ?_)
            · exact absurd c_227 (by decide)
            · refine lv_aload_n hx hb dX7_ask_29 rfl (lv_at hl 0 rfl) ?_
              refine lv_bipush (v := 6) hx hb dX7_ask_30 (by decide) ?_
              skip
              refine zw_V (As := [.int 6]) (rest := []) (wr := []) ⟨hx, hb, hml, hown, hts⟩ (c_refuse_6 l D cI cJ cZ cP cS x0 xs j0 k0 w0 rd mv xr  H.size) (cwV 1 hts gX7_ask_X7_refuse rfl rfl rfl (by decide +kernel) ⟨Nat.le_of_ble_eq_true rfl, Nat.le_of_ble_eq_true rfl⟩) hK hN (hZ.kept hS) hP hD hS hA [0, 1] [] rfl rfl (by decide) (by decide) (by decide) (va_recv hK hP (ci := 7) (q0 := 0) rfl rfl) rfl hl.1 rfl (Nat.le_of_ble_eq_true rfl) dX7_ask_32 ⟨Nat.le_of_ble_eq_true rfl, Nat.le_of_ble_eq_true rfl⟩ (fun r_228 u_229 H locs hr_228 hP hD hS => ?_)
              obtain rfl := hr_228
              exact W.iret (v := (-6)) hx hb hr (fun t ht hW => ⟨⟨(-6), (), rfl, Or.inr (Or.inr (Or.inr (Or.inr (Or.inr (Or.inr (Or.inr (Or.inr (Or.inr (Or.inr (Or.inr (Or.inr (Or.inr (Or.inr (Or.inr (Or.inr (Or.inr (Or.inr (Or.inr (Or.inr (Or.inr (Or.inl (⟨rfl, (by first | omega | decide), (by first | omega | decide), (by first | omega | decide), (by first | omega | decide), (by first | omega | decide), (by first | omega | decide)⟩)))))))))))))))))))))), zP_nil, zD_nil⟩, hS.F ht⟩) hS.2.2 dX7_ask_35
          · refine lv_if_ne (tgt := 36) hx hb dX7_ask_26 (by decide) (fun c_230 => ?_) (fun c_230 => ?_)
            · refine lv_aload_n hx hb dX7_ask_36 rfl (lv_at hl 0 rfl) ?_
              refine va_get (D := D) (ci := 7) (v := .ref j0) (C := RX7) (T := TX7) (N := 9) hx hb hts hi_X7_ask_7 hown hK hP 0 rfl rfl 1 (by decide) (hts (.fieldLink RX7 18 "TheLiningsInIt" "now" "LTheLiningsInIt$Jacket;") (List.mem_of_getElem? (i := 1) rfl)) (fun _ h9 => h9) rfl dX7_ask_37 ?_
              refine lv_iload_n hx hb dX7_ask_40 rfl (lv_at hl 1 rfl) ?_
              refine zc_V (As := [.int w]) (rest := []) ⟨hx, hb, hml, hown, hts⟩ (c_J_number l D cI cJ cZ cP cS j0 jp jc z0 zl zs (w) (by omega) (by omega)) (cwV 1 hts gX7_ask_X0_number rfl rfl rfl (by decide +kernel) ⟨Nat.le_of_ble_eq_true rfl, Nat.le_of_ble_eq_true rfl⟩) hK hN (hZ.kept hS) hP [2, 3, 4] rfl (va_recv hK hP (ci := 0) (q0 := 2) rfl rfl) rfl hl.1 rfl (Nat.le_of_ble_eq_true rfl) dX7_ask_41 ⟨Nat.le_of_ble_eq_true rfl, Nat.le_of_ble_eq_true rfl⟩ (fun r_231 hr_231 => ?_)
              rcases hr_231 with ⟨rfl, g_232⟩ | ⟨rfl, g_233⟩ | ⟨rfl, g_234⟩ | ⟨rfl, g_235⟩ | ⟨rfl, g_236⟩ | ⟨rfl, g_237⟩ | ⟨rfl, g_238⟩ | ⟨rfl, g_239⟩
              · exfalso; omega
              · exfalso; omega
              · exfalso; omega
              · exfalso; omega
              · exfalso; omega
              · exfalso; omega
              · refine lv_istore_n (lv' := [(3, .int 50), (0, .ref x0), (1, .int w), (2, .int v)]) hx hb dX7_ask_44 rfl hl (by decide) rfl (fun ls hl => ?_)
                refine lv_aload_n hx hb dX7_ask_45 rfl (lv_at hl 1 rfl) ?_
                refine va_get (D := D) (ci := 7) (v := .ref j0) (C := RX7) (T := TX7) (N := 9) hx hb hts hi_X7_ask_7 hown hK hP 0 rfl rfl 1 (by decide) (hts (.fieldLink RX7 18 "TheLiningsInIt" "now" "LTheLiningsInIt$Jacket;") (List.mem_of_getElem? (i := 1) rfl)) (fun _ h9 => h9) rfl dX7_ask_46 ?_
                refine lv_iload_n hx hb dX7_ask_49 rfl (lv_at hl 2 rfl) ?_
                refine lv_iload_n hx hb dX7_ask_50 rfl (lv_at hl 3 rfl) ?_
                skip
                refine zw_Vv (As := [.int w, .int v]) (rest := []) (wr := []) ⟨hx, hb, hml, hown, hts⟩ (c_J_setNumber l D cI cJ cZ cP cS j0 jp jc z0 zl zs (w) (v) (by omega) (by omega) H.size) (cwV 2 hts gX7_ask_X0_setNumber rfl rfl rfl (by decide +kernel) ⟨Nat.le_of_ble_eq_true rfl, Nat.le_of_ble_eq_true rfl⟩) hK hN (hZ.kept hS) hP hD hS hA [2, 3, 4] [] rfl rfl (by decide) (by decide) (by decide) (va_recv hK hP (ci := 0) (q0 := 2) rfl rfl) rfl hl.1 rfl (Nat.le_of_ble_eq_true rfl) dX7_ask_51 ⟨Nat.le_of_ble_eq_true rfl, Nat.le_of_ble_eq_true rfl⟩ (fun u_241 H locs hr_240 hP hD hS => ?_)
                rcases hr_240 with g_242 | g_243 | g_244 | g_245 | g_246 | g_247 | g_248 | g_249
                · exfalso; omega
                · exfalso; omega
                · exfalso; omega
                · exfalso; omega
                · exfalso; omega
                · exfalso; omega
                · refine lv_iload_n hx hb dX7_ask_54 rfl (lv_at hl 0 rfl) ?_
                  exact W.iret (v := 50) hx hb hr (fun t ht hW => ⟨⟨50, (), rfl, Or.inr (Or.inr (Or.inr (Or.inr (Or.inr (Or.inr (Or.inr (Or.inr (Or.inr (Or.inr (Or.inr (Or.inr (Or.inr (Or.inr (Or.inr (Or.inr (Or.inr (Or.inr (Or.inr (Or.inr (Or.inr (Or.inr (Or.inl (⟨rfl, (by first | omega | decide), (by first | omega | decide), (by first | omega | decide), (by first | omega | decide), (by first | omega | decide), (by first | omega | decide)⟩))))))))))))))))))))))), zP_nil, zD_nil⟩, hS.F ht⟩) hS.2.2 dX7_ask_55
                · exfalso; omega
              · exfalso; omega
            · exact absurd c_230 (by decide)
        · have kc20 : (20 : Int32).toInt = 20 := by decide
          refine zc_S (As := [.int v, .int 0, .int 20]) (rest := []) ⟨hx, hb, hml, hown, hts⟩ (c_within l D cI cJ cZ cP cS (v) (0) (20) ) (va_cwS 3 hts gX7_ask_X7_within rfl rfl rfl (by decide +kernel) ⟨Nat.le_of_ble_eq_true rfl, Nat.le_of_ble_eq_true rfl⟩) hK hN (hZ.kept hS) rfl hl.1 rfl (Nat.le_of_ble_eq_true rfl) dX7_ask_23 ⟨Nat.le_of_ble_eq_true rfl, Nat.le_of_ble_eq_true rfl⟩ (fun r_250 hr_250 => ?_)
          rcases hr_250 with ⟨rfl, g_251⟩ | ⟨rfl, g_252, g_253⟩ | ⟨rfl, g_254, g_255⟩
          · refine lv_if_ne (tgt := 36) hx hb dX7_ask_26 (by decide) (fun c_256 => ?_) (fun c_256 => ?_)
            · exact absurd c_256 (by decide)
            · refine lv_aload_n hx hb dX7_ask_29 rfl (lv_at hl 0 rfl) ?_
              refine lv_bipush (v := 6) hx hb dX7_ask_30 (by decide) ?_
              skip
              refine zw_V (As := [.int 6]) (rest := []) (wr := []) ⟨hx, hb, hml, hown, hts⟩ (c_refuse_6 l D cI cJ cZ cP cS x0 xs j0 k0 w0 rd mv xr  H.size) (cwV 1 hts gX7_ask_X7_refuse rfl rfl rfl (by decide +kernel) ⟨Nat.le_of_ble_eq_true rfl, Nat.le_of_ble_eq_true rfl⟩) hK hN (hZ.kept hS) hP hD hS hA [0, 1] [] rfl rfl (by decide) (by decide) (by decide) (va_recv hK hP (ci := 7) (q0 := 0) rfl rfl) rfl hl.1 rfl (Nat.le_of_ble_eq_true rfl) dX7_ask_32 ⟨Nat.le_of_ble_eq_true rfl, Nat.le_of_ble_eq_true rfl⟩ (fun r_257 u_258 H locs hr_257 hP hD hS => ?_)
              obtain rfl := hr_257
              exact W.iret (v := (-6)) hx hb hr (fun t ht hW => ⟨⟨(-6), (), rfl, Or.inr (Or.inr (Or.inr (Or.inr (Or.inr (Or.inr (Or.inr (Or.inr (Or.inr (Or.inr (Or.inr (Or.inr (Or.inr (Or.inr (Or.inr (Or.inr (Or.inr (Or.inr (Or.inr (Or.inr (Or.inr (Or.inr (Or.inr (Or.inl (⟨rfl, (by first | omega | decide), (by first | omega | decide), (by first | omega | decide), (by first | omega | decide), (by first | omega | decide)⟩)))))))))))))))))))))))), zP_nil, zD_nil⟩, hS.F ht⟩) hS.2.2 dX7_ask_35
          · refine lv_if_ne (tgt := 36) hx hb dX7_ask_26 (by decide) (fun c_259 => ?_) (fun c_259 => ?_)
            · exact absurd c_259 (by decide)
            · refine lv_aload_n hx hb dX7_ask_29 rfl (lv_at hl 0 rfl) ?_
              refine lv_bipush (v := 6) hx hb dX7_ask_30 (by decide) ?_
              skip
              refine zw_V (As := [.int 6]) (rest := []) (wr := []) ⟨hx, hb, hml, hown, hts⟩ (c_refuse_6 l D cI cJ cZ cP cS x0 xs j0 k0 w0 rd mv xr  H.size) (cwV 1 hts gX7_ask_X7_refuse rfl rfl rfl (by decide +kernel) ⟨Nat.le_of_ble_eq_true rfl, Nat.le_of_ble_eq_true rfl⟩) hK hN (hZ.kept hS) hP hD hS hA [0, 1] [] rfl rfl (by decide) (by decide) (by decide) (va_recv hK hP (ci := 7) (q0 := 0) rfl rfl) rfl hl.1 rfl (Nat.le_of_ble_eq_true rfl) dX7_ask_32 ⟨Nat.le_of_ble_eq_true rfl, Nat.le_of_ble_eq_true rfl⟩ (fun r_260 u_261 H locs hr_260 hP hD hS => ?_)
              obtain rfl := hr_260
              exact W.iret (v := (-6)) hx hb hr (fun t ht hW => ⟨⟨(-6), (), rfl, Or.inr (Or.inr (Or.inr (Or.inr (Or.inr (Or.inr (Or.inr (Or.inr (Or.inr (Or.inr (Or.inr (Or.inr (Or.inr (Or.inr (Or.inr (Or.inr (Or.inr (Or.inr (Or.inr (Or.inr (Or.inr (Or.inr (Or.inr (Or.inr (Or.inl (⟨rfl, (by first | omega | decide), (by first | omega | decide), (by first | omega | decide), (by first | omega | decide), (by first | omega | decide), (by first | omega | decide)⟩))))))))))))))))))))))))), zP_nil, zD_nil⟩, hS.F ht⟩) hS.2.2 dX7_ask_35
          · refine lv_if_ne (tgt := 36) hx hb dX7_ask_26 (by decide) (fun c_262 => ?_) (fun c_262 => ?_)
            · refine lv_aload_n hx hb dX7_ask_36 rfl (lv_at hl 0 rfl) ?_
              refine va_get (D := D) (ci := 7) (v := .ref j0) (C := RX7) (T := TX7) (N := 9) hx hb hts hi_X7_ask_7 hown hK hP 0 rfl rfl 1 (by decide) (hts (.fieldLink RX7 18 "TheLiningsInIt" "now" "LTheLiningsInIt$Jacket;") (List.mem_of_getElem? (i := 1) rfl)) (fun _ h9 => h9) rfl dX7_ask_37 ?_
              refine lv_iload_n hx hb dX7_ask_40 rfl (lv_at hl 1 rfl) ?_
              refine zc_V (As := [.int w]) (rest := []) ⟨hx, hb, hml, hown, hts⟩ (c_J_number l D cI cJ cZ cP cS j0 jp jc z0 zl zs (w) (by omega) (by omega)) (cwV 1 hts gX7_ask_X0_number rfl rfl rfl (by decide +kernel) ⟨Nat.le_of_ble_eq_true rfl, Nat.le_of_ble_eq_true rfl⟩) hK hN (hZ.kept hS) hP [2, 3, 4] rfl (va_recv hK hP (ci := 0) (q0 := 2) rfl rfl) rfl hl.1 rfl (Nat.le_of_ble_eq_true rfl) dX7_ask_41 ⟨Nat.le_of_ble_eq_true rfl, Nat.le_of_ble_eq_true rfl⟩ (fun r_263 hr_263 => ?_)
              rcases hr_263 with ⟨rfl, g_264⟩ | ⟨rfl, g_265⟩ | ⟨rfl, g_266⟩ | ⟨rfl, g_267⟩ | ⟨rfl, g_268⟩ | ⟨rfl, g_269⟩ | ⟨rfl, g_270⟩ | ⟨rfl, g_271⟩
              · exfalso; omega
              · exfalso; omega
              · exfalso; omega
              · exfalso; omega
              · exfalso; omega
              · exfalso; omega
              · exfalso; omega
              · refine lv_istore_n (lv' := [(3, .int 0), (0, .ref x0), (1, .int w), (2, .int v)]) hx hb dX7_ask_44 rfl hl (by decide) rfl (fun ls hl => ?_)
                refine lv_aload_n hx hb dX7_ask_45 rfl (lv_at hl 1 rfl) ?_
                refine va_get (D := D) (ci := 7) (v := .ref j0) (C := RX7) (T := TX7) (N := 9) hx hb hts hi_X7_ask_7 hown hK hP 0 rfl rfl 1 (by decide) (hts (.fieldLink RX7 18 "TheLiningsInIt" "now" "LTheLiningsInIt$Jacket;") (List.mem_of_getElem? (i := 1) rfl)) (fun _ h9 => h9) rfl dX7_ask_46 ?_
                refine lv_iload_n hx hb dX7_ask_49 rfl (lv_at hl 2 rfl) ?_
                refine lv_iload_n hx hb dX7_ask_50 rfl (lv_at hl 3 rfl) ?_
                skip
                refine zw_Vv (As := [.int w, .int v]) (rest := []) (wr := []) ⟨hx, hb, hml, hown, hts⟩ (c_J_setNumber l D cI cJ cZ cP cS j0 jp jc z0 zl zs (w) (v) (by omega) (by omega) H.size) (cwV 2 hts gX7_ask_X0_setNumber rfl rfl rfl (by decide +kernel) ⟨Nat.le_of_ble_eq_true rfl, Nat.le_of_ble_eq_true rfl⟩) hK hN (hZ.kept hS) hP hD hS hA [2, 3, 4] [] rfl rfl (by decide) (by decide) (by decide) (va_recv hK hP (ci := 0) (q0 := 2) rfl rfl) rfl hl.1 rfl (Nat.le_of_ble_eq_true rfl) dX7_ask_51 ⟨Nat.le_of_ble_eq_true rfl, Nat.le_of_ble_eq_true rfl⟩ (fun u_273 H locs hr_272 hP hD hS => ?_)
                rcases hr_272 with g_274 | g_275 | g_276 | g_277 | g_278 | g_279 | g_280 | g_281
                · exfalso; omega
                · exfalso; omega
                · exfalso; omega
                · exfalso; omega
                · exfalso; omega
                · exfalso; omega
                · exfalso; omega
                · refine lv_iload_n hx hb dX7_ask_54 rfl (lv_at hl 0 rfl) ?_
                  exact W.iret (v := 0) hx hb hr (fun t ht hW => ⟨⟨0, (), rfl, Or.inr (Or.inr (Or.inr (Or.inr (Or.inr (Or.inr (Or.inr (Or.inr (Or.inr (Or.inr (Or.inr (Or.inr (Or.inr (Or.inr (Or.inr (Or.inr (Or.inr (Or.inr (Or.inr (Or.inr (Or.inr (Or.inr (Or.inr (Or.inr (Or.inr (Or.inl (⟨rfl, (by first | omega | decide), (by first | omega | decide), (by first | omega | decide), (by first | omega | decide), (by first | omega | decide), (by first | omega | decide)⟩)))))))))))))))))))))))))), zP_nil, zD_nil⟩, hS.F ht⟩) hS.2.2 dX7_ask_55
            · exact absurd c_262 (by decide)
      · refine lv_aload_n hx hb dX7_ask_15 rfl (lv_at hl 0 rfl) ?_
        refine va_get (D := D) (ci := 7) (v := .ref j0) (C := RX7) (T := TX7) (N := 9) hx hb hts hi_X7_ask_7 hown hK hP 0 rfl rfl 1 (by decide) (hts (.fieldLink RX7 18 "TheLiningsInIt" "now" "LTheLiningsInIt$Jacket;") (List.mem_of_getElem? (i := 1) rfl)) (fun _ h9 => h9) rfl dX7_ask_16 ?_
        refine lv_iload_n hx hb dX7_ask_19 rfl (lv_at hl 1 rfl) ?_
        refine zc_V (As := [.int w]) (rest := [.int 1, .int v]) ⟨hx, hb, hml, hown, hts⟩ (c_J_mostOf l D cI cJ cZ cP cS j0 jp jc z0 zl zs (w) (by omega) (by omega)) (cwV 1 hts gX7_ask_X0_mostOf rfl rfl rfl (by decide +kernel) ⟨Nat.le_of_ble_eq_true rfl, Nat.le_of_ble_eq_true rfl⟩) hK hN (hZ.kept hS) hP [2, 3] rfl (va_recv hK hP (ci := 0) (q0 := 2) rfl rfl) rfl hl.1 rfl (Nat.le_of_ble_eq_true rfl) dX7_ask_20 ⟨Nat.le_of_ble_eq_true rfl, Nat.le_of_ble_eq_true rfl⟩ (fun r_282 hr_282 => ?_)
        rcases hr_282 with ⟨rfl, g_283⟩ | ⟨rfl, g_284⟩ | ⟨rfl, g_285⟩ | ⟨rfl, g_286⟩ | ⟨rfl, g_287⟩ | ⟨rfl, g_288⟩ | ⟨rfl, g_289⟩ | ⟨rfl, g_290⟩
        · exfalso; omega
        · exfalso; omega
        · exfalso; omega
        · have kc1 : (1 : Int32).toInt = 1 := by decide
          have kc9 : (9 : Int32).toInt = 9 := by decide
          refine zc_S (As := [.int v, .int 1, .int 9]) (rest := []) ⟨hx, hb, hml, hown, hts⟩ (c_within l D cI cJ cZ cP cS (v) (1) (9) ) (va_cwS 3 hts gX7_ask_X7_within rfl rfl rfl (by decide +kernel) ⟨Nat.le_of_ble_eq_true rfl, Nat.le_of_ble_eq_true rfl⟩) hK hN (hZ.kept hS) rfl hl.1 rfl (Nat.le_of_ble_eq_true rfl) dX7_ask_23 ⟨Nat.le_of_ble_eq_true rfl, Nat.le_of_ble_eq_true rfl⟩ (fun r_291 hr_291 => ?_)
          rcases hr_291 with ⟨rfl, g_292⟩ | ⟨rfl, g_293, g_294⟩ | ⟨rfl, g_295, g_296⟩
          · refine lv_if_ne (tgt := 36) hx hb dX7_ask_26 (by decide) (fun c_297 => ?_) (fun c_297 => ?_)
            · exact absurd c_297 (by decide)
            · refine lv_aload_n hx hb dX7_ask_29 rfl (lv_at hl 0 rfl) ?_
              refine lv_bipush (v := 6) hx hb dX7_ask_30 (by decide) ?_
              skip
              refine zw_V (As := [.int 6]) (rest := []) (wr := []) ⟨hx, hb, hml, hown, hts⟩ (c_refuse_6 l D cI cJ cZ cP cS x0 xs j0 k0 w0 rd mv xr  H.size) (cwV 1 hts gX7_ask_X7_refuse rfl rfl rfl (by decide +kernel) ⟨Nat.le_of_ble_eq_true rfl, Nat.le_of_ble_eq_true rfl⟩) hK hN (hZ.kept hS) hP hD hS hA [0, 1] [] rfl rfl (by decide) (by decide) (by decide) (va_recv hK hP (ci := 7) (q0 := 0) rfl rfl) rfl hl.1 rfl (Nat.le_of_ble_eq_true rfl) dX7_ask_32 ⟨Nat.le_of_ble_eq_true rfl, Nat.le_of_ble_eq_true rfl⟩ (fun r_298 u_299 H locs hr_298 hP hD hS => ?_)
              obtain rfl := hr_298
              exact W.iret (v := (-6)) hx hb hr (fun t ht hW => ⟨⟨(-6), (), rfl, Or.inr (Or.inr (Or.inr (Or.inr (Or.inr (Or.inr (Or.inr (Or.inr (Or.inr (Or.inr (Or.inr (Or.inr (Or.inr (Or.inr (Or.inr (Or.inr (Or.inr (Or.inr (Or.inr (Or.inr (Or.inr (Or.inr (Or.inr (Or.inr (Or.inr (Or.inr (Or.inl (⟨rfl, (by first | omega | decide), (by first | omega | decide), (by first | omega | decide), (by first | omega | decide)⟩))))))))))))))))))))))))))), zP_nil, zD_nil⟩, hS.F ht⟩) hS.2.2 dX7_ask_35
          · refine lv_if_ne (tgt := 36) hx hb dX7_ask_26 (by decide) (fun c_300 => ?_) (fun c_300 => ?_)
            · exact absurd c_300 (by decide)
            · refine lv_aload_n hx hb dX7_ask_29 rfl (lv_at hl 0 rfl) ?_
              refine lv_bipush (v := 6) hx hb dX7_ask_30 (by decide) ?_
              skip
              refine zw_V (As := [.int 6]) (rest := []) (wr := []) ⟨hx, hb, hml, hown, hts⟩ (c_refuse_6 l D cI cJ cZ cP cS x0 xs j0 k0 w0 rd mv xr  H.size) (cwV 1 hts gX7_ask_X7_refuse rfl rfl rfl (by decide +kernel) ⟨Nat.le_of_ble_eq_true rfl, Nat.le_of_ble_eq_true rfl⟩) hK hN (hZ.kept hS) hP hD hS hA [0, 1] [] rfl rfl (by decide) (by decide) (by decide) (va_recv hK hP (ci := 7) (q0 := 0) rfl rfl) rfl hl.1 rfl (Nat.le_of_ble_eq_true rfl) dX7_ask_32 ⟨Nat.le_of_ble_eq_true rfl, Nat.le_of_ble_eq_true rfl⟩ (fun r_301 u_302 H locs hr_301 hP hD hS => ?_)
              obtain rfl := hr_301
              exact W.iret (v := (-6)) hx hb hr (fun t ht hW => ⟨⟨(-6), (), rfl, Or.inr (Or.inr (Or.inr (Or.inr (Or.inr (Or.inr (Or.inr (Or.inr (Or.inr (Or.inr (Or.inr (Or.inr (Or.inr (Or.inr (Or.inr (Or.inr (Or.inr (Or.inr (Or.inr (Or.inr (Or.inr (Or.inr (Or.inr (Or.inr (Or.inr (Or.inr (Or.inr (Or.inl (⟨rfl, (by first | omega | decide), (by first | omega | decide), (by first | omega | decide), (by first | omega | decide), (by first | omega | decide)⟩)))))))))))))))))))))))))))), zP_nil, zD_nil⟩, hS.F ht⟩) hS.2.2 dX7_ask_35
          · refine lv_if_ne (tgt := 36) hx hb dX7_ask_26 (by decide) (fun c_303 => ?_) (fun c_303 => ?_)
            · refine lv_aload_n hx hb dX7_ask_36 rfl (lv_at hl 0 rfl) ?_
              refine va_get (D := D) (ci := 7) (v := .ref j0) (C := RX7) (T := TX7) (N := 9) hx hb hts hi_X7_ask_7 hown hK hP 0 rfl rfl 1 (by decide) (hts (.fieldLink RX7 18 "TheLiningsInIt" "now" "LTheLiningsInIt$Jacket;") (List.mem_of_getElem? (i := 1) rfl)) (fun _ h9 => h9) rfl dX7_ask_37 ?_
              refine lv_iload_n hx hb dX7_ask_40 rfl (lv_at hl 1 rfl) ?_
              refine zc_V (As := [.int w]) (rest := []) ⟨hx, hb, hml, hown, hts⟩ (c_J_number l D cI cJ cZ cP cS j0 jp jc z0 zl zs (w) (by omega) (by omega)) (cwV 1 hts gX7_ask_X0_number rfl rfl rfl (by decide +kernel) ⟨Nat.le_of_ble_eq_true rfl, Nat.le_of_ble_eq_true rfl⟩) hK hN (hZ.kept hS) hP [2, 3, 4] rfl (va_recv hK hP (ci := 0) (q0 := 2) rfl rfl) rfl hl.1 rfl (Nat.le_of_ble_eq_true rfl) dX7_ask_41 ⟨Nat.le_of_ble_eq_true rfl, Nat.le_of_ble_eq_true rfl⟩ (fun r_304 hr_304 => ?_)
              rcases hr_304 with ⟨rfl, g_305⟩ | ⟨rfl, g_306⟩ | ⟨rfl, g_307⟩ | ⟨rfl, g_308⟩ | ⟨rfl, g_309⟩ | ⟨rfl, g_310⟩ | ⟨rfl, g_311⟩ | ⟨rfl, g_312⟩
              · exfalso; omega
              · exfalso; omega
              · exfalso; omega
              · refine lv_istore_n (lv' := [(3, .int 3), (0, .ref x0), (1, .int w), (2, .int v)]) hx hb dX7_ask_44 rfl hl (by decide) rfl (fun ls hl => ?_)
                refine lv_aload_n hx hb dX7_ask_45 rfl (lv_at hl 1 rfl) ?_
                refine va_get (D := D) (ci := 7) (v := .ref j0) (C := RX7) (T := TX7) (N := 9) hx hb hts hi_X7_ask_7 hown hK hP 0 rfl rfl 1 (by decide) (hts (.fieldLink RX7 18 "TheLiningsInIt" "now" "LTheLiningsInIt$Jacket;") (List.mem_of_getElem? (i := 1) rfl)) (fun _ h9 => h9) rfl dX7_ask_46 ?_
                refine lv_iload_n hx hb dX7_ask_49 rfl (lv_at hl 2 rfl) ?_
                refine lv_iload_n hx hb dX7_ask_50 rfl (lv_at hl 3 rfl) ?_
                skip
                refine zw_Vv (As := [.int w, .int v]) (rest := []) (wr := []) ⟨hx, hb, hml, hown, hts⟩ (c_J_setNumber l D cI cJ cZ cP cS j0 jp jc z0 zl zs (w) (v) (by omega) (by omega) H.size) (cwV 2 hts gX7_ask_X0_setNumber rfl rfl rfl (by decide +kernel) ⟨Nat.le_of_ble_eq_true rfl, Nat.le_of_ble_eq_true rfl⟩) hK hN (hZ.kept hS) hP hD hS hA [2, 3, 4] [] rfl rfl (by decide) (by decide) (by decide) (va_recv hK hP (ci := 0) (q0 := 2) rfl rfl) rfl hl.1 rfl (Nat.le_of_ble_eq_true rfl) dX7_ask_51 ⟨Nat.le_of_ble_eq_true rfl, Nat.le_of_ble_eq_true rfl⟩ (fun u_314 H locs hr_313 hP hD hS => ?_)
                rcases hr_313 with g_315 | g_316 | g_317 | g_318 | g_319 | g_320 | g_321 | g_322
                · exfalso; omega
                · exfalso; omega
                · exfalso; omega
                · refine lv_iload_n hx hb dX7_ask_54 rfl (lv_at hl 0 rfl) ?_
                  exact W.iret (v := 3) hx hb hr (fun t ht hW => ⟨⟨3, (), rfl, Or.inr (Or.inr (Or.inr (Or.inr (Or.inr (Or.inr (Or.inr (Or.inr (Or.inr (Or.inr (Or.inr (Or.inr (Or.inr (Or.inr (Or.inr (Or.inr (Or.inr (Or.inr (Or.inr (Or.inr (Or.inr (Or.inr (Or.inr (Or.inr (Or.inr (Or.inr (Or.inr (Or.inr (⟨rfl, (by first | omega | decide), (by first | omega | decide), (by first | omega | decide), (by first | omega | decide), (by first | omega | decide)⟩)))))))))))))))))))))))))))), zP_nil, zD_nil⟩, hS.F ht⟩) hS.2.2 dX7_ask_55
                · exfalso; omega
                · exfalso; omega
                · exfalso; omega
                · exfalso; omega
              · exfalso; omega
              · exfalso; omega
              · exfalso; omega
              · exfalso; omega
            · exact absurd c_303 (by decide)
        · exfalso; omega
        · exfalso; omega
        · exfalso; omega
        · exfalso; omega
set_option maxHeartbeats 4000000 in
set_option maxRecDepth 100000 in
theorem c_jacket (l : Launch) (D : va_G) (cI cJ cZ cP cS : ClassId) (x0 xs j0 k0 w0 rd mv xr : Nat)(sh el : Nat → Nat) (jp jc z0 zl zs : Nat) (s_ : Int32)  (sz : Nat) : Met l yX7_jacket wsX7_jacket ({ frames := 2, cells := 0, slots := 0, locals := 43 }) (va_Pc [.ref x0, .int s_] (zW D (zKT cI cJ cZ cP cS) [(x0, .inr (7, [.ref xs, .ref j0, .ref k0, .ref w0, .ref rd, .ref mv, .ref xr, .int 0, .int (-1)])), (xr, .inl (cI, 8, .inl (fun _ => 0))), (xs, .inl (cS, 8, .inr (.inr (.inr (.inr (zS sh)))))), ((sh 0), .inr (4, [.ref (el 0), .int (-1), .int 0])), ((sh 1), .inr (4, [.ref (el 1), .int (-1), .int 0])), ((sh 2), .inr (4, [.ref (el 2), .int (-1), .int 0])), ((sh 3), .inr (4, [.ref (el 3), .int (-1), .int 0])), ((sh 4), .inr (4, [.ref (el 4), .int (-1), .int 0])), ((sh 5), .inr (4, [.ref (el 5), .int (-1), .int 0])), ((sh 6), .inr (4, [.ref (el 6), .int (-1), .int 0])), ((sh 7), .inr (4, [.ref (el 7), .int (-1), .int 0])), (j0, .inr (0, [.ref z0, .ref jp, .ref jc, .int 0, .int 0, .int 0, .int 60, .int 0, .int 1])), (z0, .inr (6, [.ref zl, .ref zs, .int 20, .int 0, .int 3]))] sz)) (va_Qi (fun (r : Int32) (_ : Unit) => (r = (-1) ∧ s_.toInt < 0) ∨ (r = (-1) ∧ 0 ≤ s_.toInt ∧ 7 < s_.toInt) ∨ (r = (-3) ∧ 0 ≤ s_.toInt ∧ s_.toInt ≤ 7)) (zB D [(x0, .inr (7, [.ref xs, .ref j0, .ref k0, .ref w0, .ref rd, .ref mv, .ref xr, .int 0, .int (-1)])), (xr, .inl (cI, 8, .inl (fun _ => 0))), (xs, .inl (cS, 8, .inr (.inr (.inr (.inr (zS sh)))))), ((sh 0), .inr (4, [.ref (el 0), .int (-1), .int 0])), ((sh 1), .inr (4, [.ref (el 1), .int (-1), .int 0])), ((sh 2), .inr (4, [.ref (el 2), .int (-1), .int 0])), ((sh 3), .inr (4, [.ref (el 3), .int (-1), .int 0])), ((sh 4), .inr (4, [.ref (el 4), .int (-1), .int 0])), ((sh 5), .inr (4, [.ref (el 5), .int (-1), .int 0])), ((sh 6), .inr (4, [.ref (el 6), .int (-1), .int 0])), ((sh 7), .inr (4, [.ref (el 7), .int (-1), .int 0])), (j0, .inr (0, [.ref z0, .ref jp, .ref jc, .int 0, .int 0, .int 0, .int 60, .int 0, .int 1])), (z0, .inr (6, [.ref zl, .ref zs, .int 20, .int 0, .int 3]))] sz (fun (_ : Unit) => ([] : va_W))) (va_A [(x0, .inr (7, [.ref xs, .ref j0, .ref k0, .ref w0, .ref rd, .ref mv, .ref xr, .int 0, .int (-1)])), (xr, .inl (cI, 8, .inl (fun _ => 0))), (xs, .inl (cS, 8, .inr (.inr (.inr (.inr (zS sh)))))), ((sh 0), .inr (4, [.ref (el 0), .int (-1), .int 0])), ((sh 1), .inr (4, [.ref (el 1), .int (-1), .int 0])), ((sh 2), .inr (4, [.ref (el 2), .int (-1), .int 0])), ((sh 3), .inr (4, [.ref (el 3), .int (-1), .int 0])), ((sh 4), .inr (4, [.ref (el 4), .int (-1), .int 0])), ((sh 5), .inr (4, [.ref (el 5), .int (-1), .int 0])), ((sh 6), .inr (4, [.ref (el 6), .int (-1), .int 0])), ((sh 7), .inr (4, [.ref (el 7), .int (-1), .int 0])), (j0, .inr (0, [.ref z0, .ref jp, .ref jc, .int 0, .int 0, .int 0, .int 60, .int 0, .int 1])), (z0, .inr (6, [.ref zl, .ref zs, .int 20, .int 0, .int 3]))] sz)) 0 0 (va_A [(x0, .inr (7, [.ref xs, .ref j0, .ref k0, .ref w0, .ref rd, .ref mv, .ref xr, .int 0, .int (-1)])), (xr, .inl (cI, 8, .inl (fun _ => 0))), (xs, .inl (cS, 8, .inr (.inr (.inr (.inr (zS sh)))))), ((sh 0), .inr (4, [.ref (el 0), .int (-1), .int 0])), ((sh 1), .inr (4, [.ref (el 1), .int (-1), .int 0])), ((sh 2), .inr (4, [.ref (el 2), .int (-1), .int 0])), ((sh 3), .inr (4, [.ref (el 3), .int (-1), .int 0])), ((sh 4), .inr (4, [.ref (el 4), .int (-1), .int 0])), ((sh 5), .inr (4, [.ref (el 5), .int (-1), .int 0])), ((sh 6), .inr (4, [.ref (el 6), .int (-1), .int 0])), ((sh 7), .inr (4, [.ref (el 7), .int (-1), .int 0])), (j0, .inr (0, [.ref z0, .ref jp, .ref jc, .int 0, .int 0, .int 0, .int 60, .int 0, .int 1])), (z0, .inr (6, [.ref zl, .ref zs, .int 20, .int 0, .int 3]))] sz) := by
  refine Met.ofW (cc := cX7_jacket) (maxL := 4) (ret := (some .int)) (by decide) rfl ?_
  intro p e s m args below meth c s₁ B hml hv
  obtain ⟨rfl, hsz, hP, hK, hD0, hN, hZ⟩ := hv
  have hx := B.exec
  have hb := B.bytes
  have hr := B.returns
  have hts := atoms_spec (ws := wsX7_jacket) B.pre
  have hown : s.vm.findClass RX7 = some m.cls := findClass_of_methodNamed B.named
  have hlocks := B.notSynchronized
  subst hsz
  have hD := hD0.self (sz := s.heap.size)
  have hA : ∀ q : Nat, s.heap.size ≤ q → va_A [(x0, .inr (7, [.ref xs, .ref j0, .ref k0, .ref w0, .ref rd, .ref mv, .ref xr, .int 0, .int (-1)])), (xr, .inl (cI, 8, .inl (fun _ => 0))), (xs, .inl (cS, 8, .inr (.inr (.inr (.inr (zS sh)))))), ((sh 0), .inr (4, [.ref (el 0), .int (-1), .int 0])), ((sh 1), .inr (4, [.ref (el 1), .int (-1), .int 0])), ((sh 2), .inr (4, [.ref (el 2), .int (-1), .int 0])), ((sh 3), .inr (4, [.ref (el 3), .int (-1), .int 0])), ((sh 4), .inr (4, [.ref (el 4), .int (-1), .int 0])), ((sh 5), .inr (4, [.ref (el 5), .int (-1), .int 0])), ((sh 6), .inr (4, [.ref (el 6), .int (-1), .int 0])), ((sh 7), .inr (4, [.ref (el 7), .int (-1), .int 0])), (j0, .inr (0, [.ref z0, .ref jp, .ref jc, .int 0, .int 0, .int 0, .int 60, .int 0, .int 1])), (z0, .inr (6, [.ref zl, .ref zs, .int 20, .int 0, .int 3]))] s.heap.size q := fun q h => Or.inr h
  have hS : va_S (va_A [(x0, .inr (7, [.ref xs, .ref j0, .ref k0, .ref w0, .ref rd, .ref mv, .ref xr, .int 0, .int (-1)])), (xr, .inl (cI, 8, .inl (fun _ => 0))), (xs, .inl (cS, 8, .inr (.inr (.inr (.inr (zS sh)))))), ((sh 0), .inr (4, [.ref (el 0), .int (-1), .int 0])), ((sh 1), .inr (4, [.ref (el 1), .int (-1), .int 0])), ((sh 2), .inr (4, [.ref (el 2), .int (-1), .int 0])), ((sh 3), .inr (4, [.ref (el 3), .int (-1), .int 0])), ((sh 4), .inr (4, [.ref (el 4), .int (-1), .int 0])), ((sh 5), .inr (4, [.ref (el 5), .int (-1), .int 0])), ((sh 6), .inr (4, [.ref (el 6), .int (-1), .int 0])), ((sh 7), .inr (4, [.ref (el 7), .int (-1), .int 0])), (j0, .inr (0, [.ref z0, .ref jp, .ref jc, .int 0, .int 0, .int 0, .int 60, .int 0, .int 1])), (z0, .inr (6, [.ref zl, .ref zs, .int 20, .int 0, .int 3]))] s.heap.size) s.heap s.heap [] := va_S.rf
  replace hP : va_P D vwCl _ s.heap := hP
  have hl := lv_entry ([.ref x0, .int s_]) (n := 4) (Nat.le_of_ble_eq_true rfl)
  rw [lg_entry_eq]
  generalize (lg_sl ([.ref x0, .int s_]) ++ List.replicate (4 - (lg_sl ([.ref x0, .int s_])).length) Slot.unset).toArray = ls at hl ⊢
  replace hl : lv_has ls 4 [(0, .ref x0), (1, .int s_)] := hl
  refine zw_start (fun H locs hH hL => ?_)
  replace hP : va_P D vwCl [(x0, .inr (7, [.ref xs, .ref j0, .ref k0, .ref w0, .ref rd, .ref mv, .ref xr, .int 0, .int (-1)])), (xr, .inl (cI, 8, .inl (fun _ => 0))), (xs, .inl (cS, 8, .inr (.inr (.inr (.inr (zS sh)))))), ((sh 0), .inr (4, [.ref (el 0), .int (-1), .int 0])), ((sh 1), .inr (4, [.ref (el 1), .int (-1), .int 0])), ((sh 2), .inr (4, [.ref (el 2), .int (-1), .int 0])), ((sh 3), .inr (4, [.ref (el 3), .int (-1), .int 0])), ((sh 4), .inr (4, [.ref (el 4), .int (-1), .int 0])), ((sh 5), .inr (4, [.ref (el 5), .int (-1), .int 0])), ((sh 6), .inr (4, [.ref (el 6), .int (-1), .int 0])), ((sh 7), .inr (4, [.ref (el 7), .int (-1), .int 0])), (j0, .inr (0, [.ref z0, .ref jp, .ref jc, .int 0, .int 0, .int 0, .int 60, .int 0, .int 1])), (z0, .inr (6, [.ref zl, .ref zs, .int 20, .int 0, .int 3]))] H := by rw [hH]; exact hP
  replace hS : va_S (va_A [(x0, .inr (7, [.ref xs, .ref j0, .ref k0, .ref w0, .ref rd, .ref mv, .ref xr, .int 0, .int (-1)])), (xr, .inl (cI, 8, .inl (fun _ => 0))), (xs, .inl (cS, 8, .inr (.inr (.inr (.inr (zS sh)))))), ((sh 0), .inr (4, [.ref (el 0), .int (-1), .int 0])), ((sh 1), .inr (4, [.ref (el 1), .int (-1), .int 0])), ((sh 2), .inr (4, [.ref (el 2), .int (-1), .int 0])), ((sh 3), .inr (4, [.ref (el 3), .int (-1), .int 0])), ((sh 4), .inr (4, [.ref (el 4), .int (-1), .int 0])), ((sh 5), .inr (4, [.ref (el 5), .int (-1), .int 0])), ((sh 6), .inr (4, [.ref (el 6), .int (-1), .int 0])), ((sh 7), .inr (4, [.ref (el 7), .int (-1), .int 0])), (j0, .inr (0, [.ref z0, .ref jp, .ref jc, .int 0, .int 0, .int 0, .int 60, .int 0, .int 1])), (z0, .inr (6, [.ref zl, .ref zs, .int 20, .int 0, .int 3]))] s.heap.size) s.heap H locs := by rw [hH, hL]; exact hS
  clear hH hL
  refine lv_aload_n hx hb dX7_jacket_0 rfl (lv_at hl 0 rfl) ?_
  refine lv_iload_n hx hb dX7_jacket_1 rfl (lv_at hl 1 rfl) ?_
  refine zc_Vq (As := [.int s_]) (rest := []) ⟨hx, hb, hml, hown, hts⟩ (c_shelfAt l D cI cJ cZ cP cS x0 xs j0 k0 w0 rd mv xr ((zS sh)) (s_) ) (cwV 1 hts gX7_jacket_X7_shelfAt rfl rfl rfl (by decide +kernel) ⟨Nat.le_of_ble_eq_true rfl, Nat.le_of_ble_eq_true rfl⟩) hK hN (hZ.kept hS) hP [0, 2] rfl (va_recv hK hP (ci := 7) (q0 := 0) rfl rfl) rfl hl.1 rfl (Nat.le_of_ble_eq_true rfl) dX7_jacket_2 ⟨Nat.le_of_ble_eq_true rfl, Nat.le_of_ble_eq_true rfl⟩ (fun r_1 hr_1 => ?_)
  rcases hr_1 with ⟨rfl, g_2⟩ | ⟨rfl, g_3, g_4⟩ | ⟨rfl, g_5, g_6⟩
  · refine lv_astore_nN (lv' := [(2, .null), (0, .ref x0), (1, .int s_)]) hx hb dX7_jacket_5 rfl hl (by decide) rfl (fun ls hl => ?_)
    refine lv_aload_nN hx hb dX7_jacket_6 rfl (lv_at hl 0 rfl) ?_
    refine lv_ifnonnullN hx hb dX7_jacket_7 ?_
    refine lv_aload_n hx hb dX7_jacket_10 rfl (lv_at hl 1 rfl) ?_
    refine lv_iconst (v := 1) hx hb dX7_jacket_11 (by decide) ?_
    skip
    refine zw_V (As := [.int 1]) (rest := []) (wr := []) ⟨hx, hb, hml, hown, hts⟩ (c_refuse_1 l D cI cJ cZ cP cS x0 xs j0 k0 w0 rd mv xr  H.size) (cwV 1 hts gX7_jacket_X7_refuse rfl rfl rfl (by decide +kernel) ⟨Nat.le_of_ble_eq_true rfl, Nat.le_of_ble_eq_true rfl⟩) hK hN (hZ.kept hS) hP hD hS hA [0, 1] [] rfl rfl (by decide) (by decide) (by decide) (va_recv hK hP (ci := 7) (q0 := 0) rfl rfl) rfl hl.1 rfl (Nat.le_of_ble_eq_true rfl) dX7_jacket_12 ⟨Nat.le_of_ble_eq_true rfl, Nat.le_of_ble_eq_true rfl⟩ (fun r_7 u_8 H locs hr_7 hP hD hS => ?_)
    obtain rfl := hr_7
    exact W.iret (v := (-1)) hx hb hr (fun t ht hW => ⟨⟨(-1), (), rfl, Or.inl (⟨rfl, (by first | omega | decide)⟩), zP_nil, zD_nil⟩, hS.F ht⟩) hS.2.2 dX7_jacket_15
  · refine lv_astore_nN (lv' := [(2, .null), (0, .ref x0), (1, .int s_)]) hx hb dX7_jacket_5 rfl hl (by decide) rfl (fun ls hl => ?_)
    refine lv_aload_nN hx hb dX7_jacket_6 rfl (lv_at hl 0 rfl) ?_
    refine lv_ifnonnullN hx hb dX7_jacket_7 ?_
    refine lv_aload_n hx hb dX7_jacket_10 rfl (lv_at hl 1 rfl) ?_
    refine lv_iconst (v := 1) hx hb dX7_jacket_11 (by decide) ?_
    skip
    refine zw_V (As := [.int 1]) (rest := []) (wr := []) ⟨hx, hb, hml, hown, hts⟩ (c_refuse_1 l D cI cJ cZ cP cS x0 xs j0 k0 w0 rd mv xr  H.size) (cwV 1 hts gX7_jacket_X7_refuse rfl rfl rfl (by decide +kernel) ⟨Nat.le_of_ble_eq_true rfl, Nat.le_of_ble_eq_true rfl⟩) hK hN (hZ.kept hS) hP hD hS hA [0, 1] [] rfl rfl (by decide) (by decide) (by decide) (va_recv hK hP (ci := 7) (q0 := 0) rfl rfl) rfl hl.1 rfl (Nat.le_of_ble_eq_true rfl) dX7_jacket_12 ⟨Nat.le_of_ble_eq_true rfl, Nat.le_of_ble_eq_true rfl⟩ (fun r_9 u_10 H locs hr_9 hP hD hS => ?_)
    obtain rfl := hr_9
    exact W.iret (v := (-1)) hx hb hr (fun t ht hW => ⟨⟨(-1), (), rfl, Or.inr (Or.inl (⟨rfl, (by first | omega | decide), (by first | omega | decide)⟩)), zP_nil, zD_nil⟩, hS.F ht⟩) hS.2.2 dX7_jacket_15
  · obtain ⟨j2, hj2, hfs⟩ := zS_at sh (s := s_) (by omega) (by omega)
    rw [hfs]
    refine W.eq (g2 := F0 m 5 ls (.ref (sh j2) :: [])) rfl ?_
    have hqj2 : ([(x0, .inr (7, [.ref xs, .ref j0, .ref k0, .ref w0, .ref rd, .ref mv, .ref xr, .int 0, .int (-1)])), (xr, .inl (cI, 8, .inl (fun _ => 0))), (xs, .inl (cS, 8, .inr (.inr (.inr (.inr (zS sh)))))), ((sh 0), .inr (4, [.ref (el 0), .int (-1), .int 0])), ((sh 1), .inr (4, [.ref (el 1), .int (-1), .int 0])), ((sh 2), .inr (4, [.ref (el 2), .int (-1), .int 0])), ((sh 3), .inr (4, [.ref (el 3), .int (-1), .int 0])), ((sh 4), .inr (4, [.ref (el 4), .int (-1), .int 0])), ((sh 5), .inr (4, [.ref (el 5), .int (-1), .int 0])), ((sh 6), .inr (4, [.ref (el 6), .int (-1), .int 0])), ((sh 7), .inr (4, [.ref (el 7), .int (-1), .int 0])), (j0, .inr (0, [.ref z0, .ref jp, .ref jc, .int 0, .int 0, .int 0, .int 60, .int 0, .int 1])), (z0, .inr (6, [.ref zl, .ref zs, .int 20, .int 0, .int 3]))] : va_W)[3 + j2]? = some ((sh j2), .inr (4, [.ref (el j2), .int (-1), .int 0])) := by rcases zj8 hj2 with rfl | rfl | rfl | rfl | rfl | rfl | rfl | rfl <;> rfl
    refine lv_astore_n (lv' := [(2, .ref (sh j2)), (0, .ref x0), (1, .int s_)]) hx hb dX7_jacket_5 rfl hl (by decide) rfl (fun ls hl => ?_)
    refine lv_aload_n hx hb dX7_jacket_6 rfl (lv_at hl 0 rfl) ?_
    refine lv_ifnonnull (tgt := 16) hx hb dX7_jacket_7 (by decide) ?_
    refine lv_aload_n hx hb dX7_jacket_16 rfl (lv_at hl 0 rfl) ?_
    refine zc_V (As := []) (rest := []) ⟨hx, hb, hml, hown, hts⟩ (c_Shelf_noRow l D cI cJ cZ cP cS ((sh j2)) ((el j2)) ) (cwV 0 hts gX7_jacket_X4_noRow rfl rfl rfl (by decide +kernel) ⟨Nat.le_of_ble_eq_true rfl, Nat.le_of_ble_eq_true rfl⟩) hK hN (hZ.kept hS) hP [(3 + j2)] (by simp only [List.filterMap_cons, List.filterMap_nil, hqj2]) (va_recv hK hP (ci := 4) (q0 := (3 + j2)) rfl hqj2) rfl hl.1 rfl (Nat.le_of_ble_eq_true rfl) dX7_jacket_17 ⟨Nat.le_of_ble_eq_true rfl, Nat.le_of_ble_eq_true rfl⟩ (fun r_11 hr_11 => ?_)
    obtain rfl := hr_11
    refine lv_istore_n (lv' := [(3, .int 3), (2, .ref (sh j2)), (0, .ref x0), (1, .int s_)]) hx hb dX7_jacket_20 rfl hl (by decide) rfl (fun ls hl => ?_)
    refine lv_iload_n hx hb dX7_jacket_21 rfl (lv_at hl 0 rfl) ?_
    refine lv_if_eq (tgt := 31) hx hb dX7_jacket_22 (by decide) (fun c_12 => ?_) (fun c_12 => ?_)
    · exact absurd c_12 (by decide)
    · refine lv_aload_n hx hb dX7_jacket_25 rfl (lv_at hl 2 rfl) ?_
      refine lv_iload_n hx hb dX7_jacket_26 rfl (lv_at hl 0 rfl) ?_
      skip
      refine zw_V (As := [.int 3]) (rest := []) (wr := []) ⟨hx, hb, hml, hown, hts⟩ (c_refuse_3 l D cI cJ cZ cP cS x0 xs j0 k0 w0 rd mv xr  H.size) (cwV 1 hts gX7_jacket_X7_refuse rfl rfl rfl (by decide +kernel) ⟨Nat.le_of_ble_eq_true rfl, Nat.le_of_ble_eq_true rfl⟩) hK hN (hZ.kept hS) hP hD hS hA [0, 1] [] rfl rfl (by decide) (by decide) (by decide) (va_recv hK hP (ci := 7) (q0 := 0) rfl rfl) rfl hl.1 rfl (Nat.le_of_ble_eq_true rfl) dX7_jacket_27 ⟨Nat.le_of_ble_eq_true rfl, Nat.le_of_ble_eq_true rfl⟩ (fun r_13 u_14 H locs hr_13 hP hD hS => ?_)
      obtain rfl := hr_13
      exact W.iret (v := (-3)) hx hb hr (fun t ht hW => ⟨⟨(-3), (), rfl, Or.inr (Or.inr (⟨rfl, (by first | omega | decide), (by first | omega | decide)⟩)), zP_nil, zD_nil⟩, hS.F ht⟩) hS.2.2 dX7_jacket_30
theorem hi_X7_fault_7 : ∀ w ∈ u_ws RX7 TX7 9, w ∈ wsX7_fault := by decide +kernel
set_option maxHeartbeats 4000000 in
set_option maxRecDepth 100000 in
theorem c_fault (l : Launch) (D : va_G) (cI cJ cZ cP cS : ClassId) (x0 xs j0 k0 w0 rd mv xr : Nat)  (sz : Nat) : Met l yX7_fault wsX7_fault ({ frames := 0, cells := 0, slots := 0, locals := 0 }) (va_Pc [.ref x0] (zW D (zKT cI cJ cZ cP cS) [(x0, .inr (7, [.ref xs, .ref j0, .ref k0, .ref w0, .ref rd, .ref mv, .ref xr, .int 0, .int (-1)]))] sz)) (va_Qi (fun (r : Int32) (_ : Unit) => r = (-1)) (zB D [(x0, .inr (7, [.ref xs, .ref j0, .ref k0, .ref w0, .ref rd, .ref mv, .ref xr, .int 0, .int (-1)]))] sz (fun (_ : Unit) => ([] : va_W))) (va_A [(x0, .inr (7, [.ref xs, .ref j0, .ref k0, .ref w0, .ref rd, .ref mv, .ref xr, .int 0, .int (-1)]))] sz)) 0 0 (va_A [(x0, .inr (7, [.ref xs, .ref j0, .ref k0, .ref w0, .ref rd, .ref mv, .ref xr, .int 0, .int (-1)]))] sz) := by
  refine Met.ofW (cc := cX7_fault) (maxL := 1) (ret := (some .int)) (by decide) rfl ?_
  intro p e s m args below meth c s₁ B hml hv
  obtain ⟨rfl, hsz, hP, hK, hD0, hN, hZ⟩ := hv
  have hx := B.exec
  have hb := B.bytes
  have hr := B.returns
  have hts := atoms_spec (ws := wsX7_fault) B.pre
  have hown : s.vm.findClass RX7 = some m.cls := findClass_of_methodNamed B.named
  have hlocks := B.notSynchronized
  subst hsz
  have hD := hD0.self (sz := s.heap.size)
  have hA : ∀ q : Nat, s.heap.size ≤ q → va_A [(x0, .inr (7, [.ref xs, .ref j0, .ref k0, .ref w0, .ref rd, .ref mv, .ref xr, .int 0, .int (-1)]))] s.heap.size q := fun q h => Or.inr h
  have hS : va_S (va_A [(x0, .inr (7, [.ref xs, .ref j0, .ref k0, .ref w0, .ref rd, .ref mv, .ref xr, .int 0, .int (-1)]))] s.heap.size) s.heap s.heap [] := va_S.rf
  replace hP : va_P D vwCl _ s.heap := hP
  have hl := lv_entry ([.ref x0]) (n := 1) (Nat.le_of_ble_eq_true rfl)
  rw [lg_entry_eq]
  generalize (lg_sl ([.ref x0]) ++ List.replicate (1 - (lg_sl ([.ref x0])).length) Slot.unset).toArray = ls at hl ⊢
  replace hl : lv_has ls 1 [(0, .ref x0)] := hl
  refine zw_start (fun H locs hH hL => ?_)
  replace hP : va_P D vwCl [(x0, .inr (7, [.ref xs, .ref j0, .ref k0, .ref w0, .ref rd, .ref mv, .ref xr, .int 0, .int (-1)]))] H := by rw [hH]; exact hP
  replace hS : va_S (va_A [(x0, .inr (7, [.ref xs, .ref j0, .ref k0, .ref w0, .ref rd, .ref mv, .ref xr, .int 0, .int (-1)]))] s.heap.size) s.heap H locs := by rw [hH, hL]; exact hS
  clear hH hL
  refine lv_aload_n hx hb dX7_fault_0 rfl (lv_at hl 0 rfl) ?_
  refine va_get (D := D) (ci := 7) (v := .int (-1)) (C := RX7) (T := TX7) (N := 9) hx hb hts hi_X7_fault_7 hown hK hP 0 rfl rfl 8 (by decide) (hts (.fieldLink RX7 54 "TheLiningsInIt" "latestFault" "I") (List.mem_of_getElem? (i := 1) rfl)) (fun _ h9 => h9) rfl dX7_fault_1 ?_
  exact W.iret (v := (-1)) hx hb hr (fun t ht hW => ⟨⟨(-1), (), rfl, rfl, zP_nil, zD_nil⟩, hS.F ht⟩) hS.2.2 dX7_fault_4
theorem hi_X7_frees_7 : ∀ w ∈ u_ws RX7 TX7 9, w ∈ wsX7_frees := by decide +kernel
set_option maxHeartbeats 4000000 in
set_option maxRecDepth 100000 in
theorem c_frees (l : Launch) (D : va_G) (cI cJ cZ cP cS : ClassId) (x0 xs j0 k0 w0 rd mv xr : Nat) (jp jc z0 zl zs : Nat) (p_ d w : Int32)  (sz : Nat) : Met l yX7_frees wsX7_frees ({ frames := 2, cells := 0, slots := 0, locals := 43 }) (va_Pc [.ref x0, .int p_, .int d, .int w] (zW D (zKT cI cJ cZ cP cS) [(x0, .inr (7, [.ref xs, .ref j0, .ref k0, .ref w0, .ref rd, .ref mv, .ref xr, .int 0, .int (-1)])), (xr, .inl (cI, 8, .inl (fun _ => 0))), (j0, .inr (0, [.ref z0, .ref jp, .ref jc, .int 0, .int 0, .int 0, .int 60, .int 0, .int 1]))] sz)) (va_Qi (fun (r : Int32) (_ : Unit) => (r = (-1) ∧ p_.toInt < 0) ∨ (r = (-1) ∧ 0 ≤ p_.toInt)) (zB D [(x0, .inr (7, [.ref xs, .ref j0, .ref k0, .ref w0, .ref rd, .ref mv, .ref xr, .int 0, .int (-1)])), (xr, .inl (cI, 8, .inl (fun _ => 0))), (j0, .inr (0, [.ref z0, .ref jp, .ref jc, .int 0, .int 0, .int 0, .int 60, .int 0, .int 1]))] sz (fun (_ : Unit) => ([] : va_W))) (va_A [(x0, .inr (7, [.ref xs, .ref j0, .ref k0, .ref w0, .ref rd, .ref mv, .ref xr, .int 0, .int (-1)])), (xr, .inl (cI, 8, .inl (fun _ => 0))), (j0, .inr (0, [.ref z0, .ref jp, .ref jc, .int 0, .int 0, .int 0, .int 60, .int 0, .int 1]))] sz)) 0 0 (va_A [(x0, .inr (7, [.ref xs, .ref j0, .ref k0, .ref w0, .ref rd, .ref mv, .ref xr, .int 0, .int (-1)])), (xr, .inl (cI, 8, .inl (fun _ => 0))), (j0, .inr (0, [.ref z0, .ref jp, .ref jc, .int 0, .int 0, .int 0, .int 60, .int 0, .int 1]))] sz) := by
  refine Met.ofW (cc := cX7_frees) (maxL := 5) (ret := (some .int)) (by decide) rfl ?_
  intro p e s m args below meth c s₁ B hml hv
  obtain ⟨rfl, hsz, hP, hK, hD0, hN, hZ⟩ := hv
  have hx := B.exec
  have hb := B.bytes
  have hr := B.returns
  have hts := atoms_spec (ws := wsX7_frees) B.pre
  have hown : s.vm.findClass RX7 = some m.cls := findClass_of_methodNamed B.named
  have hlocks := B.notSynchronized
  subst hsz
  have hD := hD0.self (sz := s.heap.size)
  have hA : ∀ q : Nat, s.heap.size ≤ q → va_A [(x0, .inr (7, [.ref xs, .ref j0, .ref k0, .ref w0, .ref rd, .ref mv, .ref xr, .int 0, .int (-1)])), (xr, .inl (cI, 8, .inl (fun _ => 0))), (j0, .inr (0, [.ref z0, .ref jp, .ref jc, .int 0, .int 0, .int 0, .int 60, .int 0, .int 1]))] s.heap.size q := fun q h => Or.inr h
  have hS : va_S (va_A [(x0, .inr (7, [.ref xs, .ref j0, .ref k0, .ref w0, .ref rd, .ref mv, .ref xr, .int 0, .int (-1)])), (xr, .inl (cI, 8, .inl (fun _ => 0))), (j0, .inr (0, [.ref z0, .ref jp, .ref jc, .int 0, .int 0, .int 0, .int 60, .int 0, .int 1]))] s.heap.size) s.heap s.heap [] := va_S.rf
  replace hP : va_P D vwCl _ s.heap := hP
  have hl := lv_entry ([.ref x0, .int p_, .int d, .int w]) (n := 5) (Nat.le_of_ble_eq_true rfl)
  rw [lg_entry_eq]
  generalize (lg_sl ([.ref x0, .int p_, .int d, .int w]) ++ List.replicate (5 - (lg_sl ([.ref x0, .int p_, .int d, .int w])).length) Slot.unset).toArray = ls at hl ⊢
  replace hl : lv_has ls 5 [(0, .ref x0), (1, .int p_), (2, .int d), (3, .int w)] := hl
  refine zw_start (fun H locs hH hL => ?_)
  replace hP : va_P D vwCl [(x0, .inr (7, [.ref xs, .ref j0, .ref k0, .ref w0, .ref rd, .ref mv, .ref xr, .int 0, .int (-1)])), (xr, .inl (cI, 8, .inl (fun _ => 0))), (j0, .inr (0, [.ref z0, .ref jp, .ref jc, .int 0, .int 0, .int 0, .int 60, .int 0, .int 1]))] H := by rw [hH]; exact hP
  replace hS : va_S (va_A [(x0, .inr (7, [.ref xs, .ref j0, .ref k0, .ref w0, .ref rd, .ref mv, .ref xr, .int 0, .int (-1)])), (xr, .inl (cI, 8, .inl (fun _ => 0))), (j0, .inr (0, [.ref z0, .ref jp, .ref jc, .int 0, .int 0, .int 0, .int 60, .int 0, .int 1]))] s.heap.size) s.heap H locs := by rw [hH, hL]; exact hS
  clear hH hL
  refine lv_aload_n hx hb dX7_frees_0 rfl (lv_at hl 0 rfl) ?_
  refine va_get (D := D) (ci := 7) (v := .ref j0) (C := RX7) (T := TX7) (N := 9) hx hb hts hi_X7_frees_7 hown hK hP 0 rfl rfl 1 (by decide) (hts (.fieldLink RX7 18 "TheLiningsInIt" "now" "LTheLiningsInIt$Jacket;") (List.mem_of_getElem? (i := 1) rfl)) (fun _ h9 => h9) rfl dX7_frees_1 ?_
  refine lv_iload_n hx hb dX7_frees_4 rfl (lv_at hl 1 rfl) ?_
  refine zc_Vq (As := [.int p_]) (rest := []) ⟨hx, hb, hml, hown, hts⟩ (c_J_pullAt l D cI cJ cZ cP cS j0 jp jc z0 0 0 (p_) (0) ) (cwV 1 hts gX7_frees_X0_pullAt rfl rfl rfl (by decide +kernel) ⟨Nat.le_of_ble_eq_true rfl, Nat.le_of_ble_eq_true rfl⟩) hK hN (hZ.kept hS) hP [2] rfl (va_recv hK hP (ci := 0) (q0 := 2) rfl rfl) rfl hl.1 rfl (Nat.le_of_ble_eq_true rfl) dX7_frees_5 ⟨Nat.le_of_ble_eq_true rfl, Nat.le_of_ble_eq_true rfl⟩ (fun r_1 hr_1 => ?_)
  rcases hr_1 with ⟨rfl, g_2⟩ | ⟨rfl, g_3⟩
  · refine lv_astoreN (lv' := [(4, .null), (0, .ref x0), (1, .int p_), (2, .int d), (3, .int w)]) hx hb dX7_frees_8 hl (by decide) rfl (fun ls hl => ?_)
    refine lv_aloadN hx hb dX7_frees_10 (lv_at hl 0 rfl) ?_
    refine lv_ifnonnullN hx hb dX7_frees_12 ?_
    refine lv_aload_n hx hb dX7_frees_15 rfl (lv_at hl 1 rfl) ?_
    refine lv_iconst (v := 1) hx hb dX7_frees_16 (by decide) ?_
    skip
    refine zw_V (As := [.int 1]) (rest := []) (wr := []) ⟨hx, hb, hml, hown, hts⟩ (c_refuse_1 l D cI cJ cZ cP cS x0 xs j0 k0 w0 rd mv xr  H.size) (cwV 1 hts gX7_frees_X7_refuse rfl rfl rfl (by decide +kernel) ⟨Nat.le_of_ble_eq_true rfl, Nat.le_of_ble_eq_true rfl⟩) hK hN (hZ.kept hS) hP hD hS hA [0, 1] [] rfl rfl (by decide) (by decide) (by decide) (va_recv hK hP (ci := 7) (q0 := 0) rfl rfl) rfl hl.1 rfl (Nat.le_of_ble_eq_true rfl) dX7_frees_17 ⟨Nat.le_of_ble_eq_true rfl, Nat.le_of_ble_eq_true rfl⟩ (fun r_4 u_5 H locs hr_4 hP hD hS => ?_)
    obtain rfl := hr_4
    exact W.iret (v := (-1)) hx hb hr (fun t ht hW => ⟨⟨(-1), (), rfl, Or.inl (⟨rfl, (by first | omega | decide)⟩), zP_nil, zD_nil⟩, hS.F ht⟩) hS.2.2 dX7_frees_20
  · refine lv_astoreN (lv' := [(4, .null), (0, .ref x0), (1, .int p_), (2, .int d), (3, .int w)]) hx hb dX7_frees_8 hl (by decide) rfl (fun ls hl => ?_)
    refine lv_aloadN hx hb dX7_frees_10 (lv_at hl 0 rfl) ?_
    refine lv_ifnonnullN hx hb dX7_frees_12 ?_
    refine lv_aload_n hx hb dX7_frees_15 rfl (lv_at hl 1 rfl) ?_
    refine lv_iconst (v := 1) hx hb dX7_frees_16 (by decide) ?_
    skip
    refine zw_V (As := [.int 1]) (rest := []) (wr := []) ⟨hx, hb, hml, hown, hts⟩ (c_refuse_1 l D cI cJ cZ cP cS x0 xs j0 k0 w0 rd mv xr  H.size) (cwV 1 hts gX7_frees_X7_refuse rfl rfl rfl (by decide +kernel) ⟨Nat.le_of_ble_eq_true rfl, Nat.le_of_ble_eq_true rfl⟩) hK hN (hZ.kept hS) hP hD hS hA [0, 1] [] rfl rfl (by decide) (by decide) (by decide) (va_recv hK hP (ci := 7) (q0 := 0) rfl rfl) rfl hl.1 rfl (Nat.le_of_ble_eq_true rfl) dX7_frees_17 ⟨Nat.le_of_ble_eq_true rfl, Nat.le_of_ble_eq_true rfl⟩ (fun r_6 u_7 H locs hr_6 hP hD hS => ?_)
    obtain rfl := hr_6
    exact W.iret (v := (-1)) hx hb hr (fun t ht hW => ⟨⟨(-1), (), rfl, Or.inr (⟨rfl, (by first | omega | decide)⟩), zP_nil, zD_nil⟩, hS.F ht⟩) hS.2.2 dX7_frees_20
theorem hi_X7_freed_7 : ∀ w ∈ u_ws RX7 TX7 9, w ∈ wsX7_freed := by decide +kernel
set_option maxHeartbeats 4000000 in
set_option maxRecDepth 100000 in
theorem c_freed (l : Launch) (D : va_G) (cI cJ cZ cP cS : ClassId) (x0 xs j0 k0 w0 rd mv xr : Nat)(sh el : Nat → Nat) (jp jc z0 zl zs : Nat) (s_ p_ : Int32)  (sz : Nat) : Met l yX7_freed wsX7_freed ({ frames := 2, cells := 0, slots := 0, locals := 43 }) (va_Pc [.ref x0, .int s_, .int p_] (zW D (zKT cI cJ cZ cP cS) [(x0, .inr (7, [.ref xs, .ref j0, .ref k0, .ref w0, .ref rd, .ref mv, .ref xr, .int 0, .int (-1)])), (xr, .inl (cI, 8, .inl (fun _ => 0))), (xs, .inl (cS, 8, .inr (.inr (.inr (.inr (zS sh)))))), ((sh 0), .inr (4, [.ref (el 0), .int (-1), .int 0])), ((sh 1), .inr (4, [.ref (el 1), .int (-1), .int 0])), ((sh 2), .inr (4, [.ref (el 2), .int (-1), .int 0])), ((sh 3), .inr (4, [.ref (el 3), .int (-1), .int 0])), ((sh 4), .inr (4, [.ref (el 4), .int (-1), .int 0])), ((sh 5), .inr (4, [.ref (el 5), .int (-1), .int 0])), ((sh 6), .inr (4, [.ref (el 6), .int (-1), .int 0])), ((sh 7), .inr (4, [.ref (el 7), .int (-1), .int 0])), (j0, .inr (0, [.ref z0, .ref jp, .ref jc, .int 0, .int 0, .int 0, .int 60, .int 0, .int 1]))] sz)) (va_Qi (fun (r : Int32) (_ : Unit) => (r = (-1) ∧ s_.toInt < 0 ∧ p_.toInt < 0) ∨ (r = (-1) ∧ s_.toInt < 0 ∧ 0 ≤ p_.toInt) ∨ (r = (-1) ∧ 0 ≤ s_.toInt ∧ 7 < s_.toInt ∧ p_.toInt < 0) ∨ (r = (-1) ∧ 0 ≤ s_.toInt ∧ 7 < s_.toInt ∧ 0 ≤ p_.toInt) ∨ (r = (-1) ∧ 0 ≤ s_.toInt ∧ s_.toInt ≤ 7 ∧ p_.toInt < 0) ∨ (r = (-1) ∧ 0 ≤ s_.toInt ∧ s_.toInt ≤ 7 ∧ 0 ≤ p_.toInt)) (zB D [(x0, .inr (7, [.ref xs, .ref j0, .ref k0, .ref w0, .ref rd, .ref mv, .ref xr, .int 0, .int (-1)])), (xr, .inl (cI, 8, .inl (fun _ => 0))), (xs, .inl (cS, 8, .inr (.inr (.inr (.inr (zS sh)))))), ((sh 0), .inr (4, [.ref (el 0), .int (-1), .int 0])), ((sh 1), .inr (4, [.ref (el 1), .int (-1), .int 0])), ((sh 2), .inr (4, [.ref (el 2), .int (-1), .int 0])), ((sh 3), .inr (4, [.ref (el 3), .int (-1), .int 0])), ((sh 4), .inr (4, [.ref (el 4), .int (-1), .int 0])), ((sh 5), .inr (4, [.ref (el 5), .int (-1), .int 0])), ((sh 6), .inr (4, [.ref (el 6), .int (-1), .int 0])), ((sh 7), .inr (4, [.ref (el 7), .int (-1), .int 0])), (j0, .inr (0, [.ref z0, .ref jp, .ref jc, .int 0, .int 0, .int 0, .int 60, .int 0, .int 1]))] sz (fun (_ : Unit) => ([] : va_W))) (va_A [(x0, .inr (7, [.ref xs, .ref j0, .ref k0, .ref w0, .ref rd, .ref mv, .ref xr, .int 0, .int (-1)])), (xr, .inl (cI, 8, .inl (fun _ => 0))), (xs, .inl (cS, 8, .inr (.inr (.inr (.inr (zS sh)))))), ((sh 0), .inr (4, [.ref (el 0), .int (-1), .int 0])), ((sh 1), .inr (4, [.ref (el 1), .int (-1), .int 0])), ((sh 2), .inr (4, [.ref (el 2), .int (-1), .int 0])), ((sh 3), .inr (4, [.ref (el 3), .int (-1), .int 0])), ((sh 4), .inr (4, [.ref (el 4), .int (-1), .int 0])), ((sh 5), .inr (4, [.ref (el 5), .int (-1), .int 0])), ((sh 6), .inr (4, [.ref (el 6), .int (-1), .int 0])), ((sh 7), .inr (4, [.ref (el 7), .int (-1), .int 0])), (j0, .inr (0, [.ref z0, .ref jp, .ref jc, .int 0, .int 0, .int 0, .int 60, .int 0, .int 1]))] sz)) 0 0 (va_A [(x0, .inr (7, [.ref xs, .ref j0, .ref k0, .ref w0, .ref rd, .ref mv, .ref xr, .int 0, .int (-1)])), (xr, .inl (cI, 8, .inl (fun _ => 0))), (xs, .inl (cS, 8, .inr (.inr (.inr (.inr (zS sh)))))), ((sh 0), .inr (4, [.ref (el 0), .int (-1), .int 0])), ((sh 1), .inr (4, [.ref (el 1), .int (-1), .int 0])), ((sh 2), .inr (4, [.ref (el 2), .int (-1), .int 0])), ((sh 3), .inr (4, [.ref (el 3), .int (-1), .int 0])), ((sh 4), .inr (4, [.ref (el 4), .int (-1), .int 0])), ((sh 5), .inr (4, [.ref (el 5), .int (-1), .int 0])), ((sh 6), .inr (4, [.ref (el 6), .int (-1), .int 0])), ((sh 7), .inr (4, [.ref (el 7), .int (-1), .int 0])), (j0, .inr (0, [.ref z0, .ref jp, .ref jc, .int 0, .int 0, .int 0, .int 60, .int 0, .int 1]))] sz) := by
  refine Met.ofW (cc := cX7_freed) (maxL := 6) (ret := (some .int)) (by decide) rfl ?_
  intro p e s m args below meth c s₁ B hml hv
  obtain ⟨rfl, hsz, hP, hK, hD0, hN, hZ⟩ := hv
  have hx := B.exec
  have hb := B.bytes
  have hr := B.returns
  have hts := atoms_spec (ws := wsX7_freed) B.pre
  have hown : s.vm.findClass RX7 = some m.cls := findClass_of_methodNamed B.named
  have hlocks := B.notSynchronized
  subst hsz
  have hD := hD0.self (sz := s.heap.size)
  have hA : ∀ q : Nat, s.heap.size ≤ q → va_A [(x0, .inr (7, [.ref xs, .ref j0, .ref k0, .ref w0, .ref rd, .ref mv, .ref xr, .int 0, .int (-1)])), (xr, .inl (cI, 8, .inl (fun _ => 0))), (xs, .inl (cS, 8, .inr (.inr (.inr (.inr (zS sh)))))), ((sh 0), .inr (4, [.ref (el 0), .int (-1), .int 0])), ((sh 1), .inr (4, [.ref (el 1), .int (-1), .int 0])), ((sh 2), .inr (4, [.ref (el 2), .int (-1), .int 0])), ((sh 3), .inr (4, [.ref (el 3), .int (-1), .int 0])), ((sh 4), .inr (4, [.ref (el 4), .int (-1), .int 0])), ((sh 5), .inr (4, [.ref (el 5), .int (-1), .int 0])), ((sh 6), .inr (4, [.ref (el 6), .int (-1), .int 0])), ((sh 7), .inr (4, [.ref (el 7), .int (-1), .int 0])), (j0, .inr (0, [.ref z0, .ref jp, .ref jc, .int 0, .int 0, .int 0, .int 60, .int 0, .int 1]))] s.heap.size q := fun q h => Or.inr h
  have hS : va_S (va_A [(x0, .inr (7, [.ref xs, .ref j0, .ref k0, .ref w0, .ref rd, .ref mv, .ref xr, .int 0, .int (-1)])), (xr, .inl (cI, 8, .inl (fun _ => 0))), (xs, .inl (cS, 8, .inr (.inr (.inr (.inr (zS sh)))))), ((sh 0), .inr (4, [.ref (el 0), .int (-1), .int 0])), ((sh 1), .inr (4, [.ref (el 1), .int (-1), .int 0])), ((sh 2), .inr (4, [.ref (el 2), .int (-1), .int 0])), ((sh 3), .inr (4, [.ref (el 3), .int (-1), .int 0])), ((sh 4), .inr (4, [.ref (el 4), .int (-1), .int 0])), ((sh 5), .inr (4, [.ref (el 5), .int (-1), .int 0])), ((sh 6), .inr (4, [.ref (el 6), .int (-1), .int 0])), ((sh 7), .inr (4, [.ref (el 7), .int (-1), .int 0])), (j0, .inr (0, [.ref z0, .ref jp, .ref jc, .int 0, .int 0, .int 0, .int 60, .int 0, .int 1]))] s.heap.size) s.heap s.heap [] := va_S.rf
  replace hP : va_P D vwCl _ s.heap := hP
  have hl := lv_entry ([.ref x0, .int s_, .int p_]) (n := 6) (Nat.le_of_ble_eq_true rfl)
  rw [lg_entry_eq]
  generalize (lg_sl ([.ref x0, .int s_, .int p_]) ++ List.replicate (6 - (lg_sl ([.ref x0, .int s_, .int p_])).length) Slot.unset).toArray = ls at hl ⊢
  replace hl : lv_has ls 6 [(0, .ref x0), (1, .int s_), (2, .int p_)] := hl
  refine zw_start (fun H locs hH hL => ?_)
  replace hP : va_P D vwCl [(x0, .inr (7, [.ref xs, .ref j0, .ref k0, .ref w0, .ref rd, .ref mv, .ref xr, .int 0, .int (-1)])), (xr, .inl (cI, 8, .inl (fun _ => 0))), (xs, .inl (cS, 8, .inr (.inr (.inr (.inr (zS sh)))))), ((sh 0), .inr (4, [.ref (el 0), .int (-1), .int 0])), ((sh 1), .inr (4, [.ref (el 1), .int (-1), .int 0])), ((sh 2), .inr (4, [.ref (el 2), .int (-1), .int 0])), ((sh 3), .inr (4, [.ref (el 3), .int (-1), .int 0])), ((sh 4), .inr (4, [.ref (el 4), .int (-1), .int 0])), ((sh 5), .inr (4, [.ref (el 5), .int (-1), .int 0])), ((sh 6), .inr (4, [.ref (el 6), .int (-1), .int 0])), ((sh 7), .inr (4, [.ref (el 7), .int (-1), .int 0])), (j0, .inr (0, [.ref z0, .ref jp, .ref jc, .int 0, .int 0, .int 0, .int 60, .int 0, .int 1]))] H := by rw [hH]; exact hP
  replace hS : va_S (va_A [(x0, .inr (7, [.ref xs, .ref j0, .ref k0, .ref w0, .ref rd, .ref mv, .ref xr, .int 0, .int (-1)])), (xr, .inl (cI, 8, .inl (fun _ => 0))), (xs, .inl (cS, 8, .inr (.inr (.inr (.inr (zS sh)))))), ((sh 0), .inr (4, [.ref (el 0), .int (-1), .int 0])), ((sh 1), .inr (4, [.ref (el 1), .int (-1), .int 0])), ((sh 2), .inr (4, [.ref (el 2), .int (-1), .int 0])), ((sh 3), .inr (4, [.ref (el 3), .int (-1), .int 0])), ((sh 4), .inr (4, [.ref (el 4), .int (-1), .int 0])), ((sh 5), .inr (4, [.ref (el 5), .int (-1), .int 0])), ((sh 6), .inr (4, [.ref (el 6), .int (-1), .int 0])), ((sh 7), .inr (4, [.ref (el 7), .int (-1), .int 0])), (j0, .inr (0, [.ref z0, .ref jp, .ref jc, .int 0, .int 0, .int 0, .int 60, .int 0, .int 1]))] s.heap.size) s.heap H locs := by rw [hH, hL]; exact hS
  clear hH hL
  refine lv_aload_n hx hb dX7_freed_0 rfl (lv_at hl 0 rfl) ?_
  refine lv_iload_n hx hb dX7_freed_1 rfl (lv_at hl 1 rfl) ?_
  refine zc_Vq (As := [.int s_]) (rest := []) ⟨hx, hb, hml, hown, hts⟩ (c_shelfAt l D cI cJ cZ cP cS x0 xs j0 k0 w0 rd mv xr ((zS sh)) (s_) ) (cwV 1 hts gX7_freed_X7_shelfAt rfl rfl rfl (by decide +kernel) ⟨Nat.le_of_ble_eq_true rfl, Nat.le_of_ble_eq_true rfl⟩) hK hN (hZ.kept hS) hP [0, 2] rfl (va_recv hK hP (ci := 7) (q0 := 0) rfl rfl) rfl hl.1 rfl (Nat.le_of_ble_eq_true rfl) dX7_freed_2 ⟨Nat.le_of_ble_eq_true rfl, Nat.le_of_ble_eq_true rfl⟩ (fun r_1 hr_1 => ?_)
  rcases hr_1 with ⟨rfl, g_2⟩ | ⟨rfl, g_3, g_4⟩ | ⟨rfl, g_5, g_6⟩
  · refine lv_astore_nN (lv' := [(3, .null), (0, .ref x0), (1, .int s_), (2, .int p_)]) hx hb dX7_freed_5 rfl hl (by decide) rfl (fun ls hl => ?_)
    refine lv_aload_n hx hb dX7_freed_6 rfl (lv_at hl 1 rfl) ?_
    refine va_get (D := D) (ci := 7) (v := .ref j0) (C := RX7) (T := TX7) (N := 9) hx hb hts hi_X7_freed_7 hown hK hP 0 rfl rfl 1 (by decide) (hts (.fieldLink RX7 18 "TheLiningsInIt" "now" "LTheLiningsInIt$Jacket;") (List.mem_of_getElem? (i := 1) rfl)) (fun _ h9 => h9) rfl dX7_freed_7 ?_
    refine lv_iload_n hx hb dX7_freed_10 rfl (lv_at hl 3 rfl) ?_
    refine zc_Vq (As := [.int p_]) (rest := []) ⟨hx, hb, hml, hown, hts⟩ (c_J_pullAt l D cI cJ cZ cP cS j0 jp jc z0 0 0 (p_) (0) ) (cwV 1 hts gX7_freed_X0_pullAt rfl rfl rfl (by decide +kernel) ⟨Nat.le_of_ble_eq_true rfl, Nat.le_of_ble_eq_true rfl⟩) hK hN (hZ.kept hS) hP [11] rfl (va_recv hK hP (ci := 0) (q0 := 11) rfl rfl) rfl hl.1 rfl (Nat.le_of_ble_eq_true rfl) dX7_freed_11 ⟨Nat.le_of_ble_eq_true rfl, Nat.le_of_ble_eq_true rfl⟩ (fun r_7 hr_7 => ?_)
    rcases hr_7 with ⟨rfl, g_8⟩ | ⟨rfl, g_9⟩
    · refine lv_astoreN (lv' := [(4, .null), (3, .null), (0, .ref x0), (1, .int s_), (2, .int p_)]) hx hb dX7_freed_14 hl (by decide) rfl (fun ls hl => ?_)
      refine lv_aload_nN hx hb dX7_freed_16 rfl (lv_at hl 1 rfl) ?_
      refine lv_ifnullN (tgt := 25) hx hb dX7_freed_17 (by decide) ?_
      refine lv_aload_n hx hb dX7_freed_25 rfl (lv_at hl 2 rfl) ?_
      refine lv_iconst (v := 1) hx hb dX7_freed_26 (by decide) ?_
      skip
      refine zw_V (As := [.int 1]) (rest := []) (wr := []) ⟨hx, hb, hml, hown, hts⟩ (c_refuse_1 l D cI cJ cZ cP cS x0 xs j0 k0 w0 rd mv xr  H.size) (cwV 1 hts gX7_freed_X7_refuse rfl rfl rfl (by decide +kernel) ⟨Nat.le_of_ble_eq_true rfl, Nat.le_of_ble_eq_true rfl⟩) hK hN (hZ.kept hS) hP hD hS hA [0, 1] [] rfl rfl (by decide) (by decide) (by decide) (va_recv hK hP (ci := 7) (q0 := 0) rfl rfl) rfl hl.1 rfl (Nat.le_of_ble_eq_true rfl) dX7_freed_27 ⟨Nat.le_of_ble_eq_true rfl, Nat.le_of_ble_eq_true rfl⟩ (fun r_10 u_11 H locs hr_10 hP hD hS => ?_)
      obtain rfl := hr_10
      exact W.iret (v := (-1)) hx hb hr (fun t ht hW => ⟨⟨(-1), (), rfl, Or.inl (⟨rfl, (by first | omega | decide), (by first | omega | decide)⟩), zP_nil, zD_nil⟩, hS.F ht⟩) hS.2.2 dX7_freed_30
    · refine lv_astoreN (lv' := [(4, .null), (3, .null), (0, .ref x0), (1, .int s_), (2, .int p_)]) hx hb dX7_freed_14 hl (by decide) rfl (fun ls hl => ?_)
      refine lv_aload_nN hx hb dX7_freed_16 rfl (lv_at hl 1 rfl) ?_
      refine lv_ifnullN (tgt := 25) hx hb dX7_freed_17 (by decide) ?_
      refine lv_aload_n hx hb dX7_freed_25 rfl (lv_at hl 2 rfl) ?_
      refine lv_iconst (v := 1) hx hb dX7_freed_26 (by decide) ?_
      skip
      refine zw_V (As := [.int 1]) (rest := []) (wr := []) ⟨hx, hb, hml, hown, hts⟩ (c_refuse_1 l D cI cJ cZ cP cS x0 xs j0 k0 w0 rd mv xr  H.size) (cwV 1 hts gX7_freed_X7_refuse rfl rfl rfl (by decide +kernel) ⟨Nat.le_of_ble_eq_true rfl, Nat.le_of_ble_eq_true rfl⟩) hK hN (hZ.kept hS) hP hD hS hA [0, 1] [] rfl rfl (by decide) (by decide) (by decide) (va_recv hK hP (ci := 7) (q0 := 0) rfl rfl) rfl hl.1 rfl (Nat.le_of_ble_eq_true rfl) dX7_freed_27 ⟨Nat.le_of_ble_eq_true rfl, Nat.le_of_ble_eq_true rfl⟩ (fun r_12 u_13 H locs hr_12 hP hD hS => ?_)
      obtain rfl := hr_12
      exact W.iret (v := (-1)) hx hb hr (fun t ht hW => ⟨⟨(-1), (), rfl, Or.inr (Or.inl (⟨rfl, (by first | omega | decide), (by first | omega | decide)⟩)), zP_nil, zD_nil⟩, hS.F ht⟩) hS.2.2 dX7_freed_30
  · refine lv_astore_nN (lv' := [(3, .null), (0, .ref x0), (1, .int s_), (2, .int p_)]) hx hb dX7_freed_5 rfl hl (by decide) rfl (fun ls hl => ?_)
    refine lv_aload_n hx hb dX7_freed_6 rfl (lv_at hl 1 rfl) ?_
    refine va_get (D := D) (ci := 7) (v := .ref j0) (C := RX7) (T := TX7) (N := 9) hx hb hts hi_X7_freed_7 hown hK hP 0 rfl rfl 1 (by decide) (hts (.fieldLink RX7 18 "TheLiningsInIt" "now" "LTheLiningsInIt$Jacket;") (List.mem_of_getElem? (i := 1) rfl)) (fun _ h9 => h9) rfl dX7_freed_7 ?_
    refine lv_iload_n hx hb dX7_freed_10 rfl (lv_at hl 3 rfl) ?_
    refine zc_Vq (As := [.int p_]) (rest := []) ⟨hx, hb, hml, hown, hts⟩ (c_J_pullAt l D cI cJ cZ cP cS j0 jp jc z0 0 0 (p_) (0) ) (cwV 1 hts gX7_freed_X0_pullAt rfl rfl rfl (by decide +kernel) ⟨Nat.le_of_ble_eq_true rfl, Nat.le_of_ble_eq_true rfl⟩) hK hN (hZ.kept hS) hP [11] rfl (va_recv hK hP (ci := 0) (q0 := 11) rfl rfl) rfl hl.1 rfl (Nat.le_of_ble_eq_true rfl) dX7_freed_11 ⟨Nat.le_of_ble_eq_true rfl, Nat.le_of_ble_eq_true rfl⟩ (fun r_14 hr_14 => ?_)
    rcases hr_14 with ⟨rfl, g_15⟩ | ⟨rfl, g_16⟩
    · refine lv_astoreN (lv' := [(4, .null), (3, .null), (0, .ref x0), (1, .int s_), (2, .int p_)]) hx hb dX7_freed_14 hl (by decide) rfl (fun ls hl => ?_)
      refine lv_aload_nN hx hb dX7_freed_16 rfl (lv_at hl 1 rfl) ?_
      refine lv_ifnullN (tgt := 25) hx hb dX7_freed_17 (by decide) ?_
      refine lv_aload_n hx hb dX7_freed_25 rfl (lv_at hl 2 rfl) ?_
      refine lv_iconst (v := 1) hx hb dX7_freed_26 (by decide) ?_
      skip
      refine zw_V (As := [.int 1]) (rest := []) (wr := []) ⟨hx, hb, hml, hown, hts⟩ (c_refuse_1 l D cI cJ cZ cP cS x0 xs j0 k0 w0 rd mv xr  H.size) (cwV 1 hts gX7_freed_X7_refuse rfl rfl rfl (by decide +kernel) ⟨Nat.le_of_ble_eq_true rfl, Nat.le_of_ble_eq_true rfl⟩) hK hN (hZ.kept hS) hP hD hS hA [0, 1] [] rfl rfl (by decide) (by decide) (by decide) (va_recv hK hP (ci := 7) (q0 := 0) rfl rfl) rfl hl.1 rfl (Nat.le_of_ble_eq_true rfl) dX7_freed_27 ⟨Nat.le_of_ble_eq_true rfl, Nat.le_of_ble_eq_true rfl⟩ (fun r_17 u_18 H locs hr_17 hP hD hS => ?_)
      obtain rfl := hr_17
      exact W.iret (v := (-1)) hx hb hr (fun t ht hW => ⟨⟨(-1), (), rfl, Or.inr (Or.inr (Or.inl (⟨rfl, (by first | omega | decide), (by first | omega | decide), (by first | omega | decide)⟩))), zP_nil, zD_nil⟩, hS.F ht⟩) hS.2.2 dX7_freed_30
    · refine lv_astoreN (lv' := [(4, .null), (3, .null), (0, .ref x0), (1, .int s_), (2, .int p_)]) hx hb dX7_freed_14 hl (by decide) rfl (fun ls hl => ?_)
      refine lv_aload_nN hx hb dX7_freed_16 rfl (lv_at hl 1 rfl) ?_
      refine lv_ifnullN (tgt := 25) hx hb dX7_freed_17 (by decide) ?_
      refine lv_aload_n hx hb dX7_freed_25 rfl (lv_at hl 2 rfl) ?_
      refine lv_iconst (v := 1) hx hb dX7_freed_26 (by decide) ?_
      skip
      refine zw_V (As := [.int 1]) (rest := []) (wr := []) ⟨hx, hb, hml, hown, hts⟩ (c_refuse_1 l D cI cJ cZ cP cS x0 xs j0 k0 w0 rd mv xr  H.size) (cwV 1 hts gX7_freed_X7_refuse rfl rfl rfl (by decide +kernel) ⟨Nat.le_of_ble_eq_true rfl, Nat.le_of_ble_eq_true rfl⟩) hK hN (hZ.kept hS) hP hD hS hA [0, 1] [] rfl rfl (by decide) (by decide) (by decide) (va_recv hK hP (ci := 7) (q0 := 0) rfl rfl) rfl hl.1 rfl (Nat.le_of_ble_eq_true rfl) dX7_freed_27 ⟨Nat.le_of_ble_eq_true rfl, Nat.le_of_ble_eq_true rfl⟩ (fun r_19 u_20 H locs hr_19 hP hD hS => ?_)
      obtain rfl := hr_19
      exact W.iret (v := (-1)) hx hb hr (fun t ht hW => ⟨⟨(-1), (), rfl, Or.inr (Or.inr (Or.inr (Or.inl (⟨rfl, (by first | omega | decide), (by first | omega | decide), (by first | omega | decide)⟩)))), zP_nil, zD_nil⟩, hS.F ht⟩) hS.2.2 dX7_freed_30
  · obtain ⟨j2, hj2, hfs⟩ := zS_at sh (s := s_) (by omega) (by omega)
    rw [hfs]
    refine W.eq (g2 := F0 m 5 ls (.ref (sh j2) :: [])) rfl ?_
    have hqj2 : ([(x0, .inr (7, [.ref xs, .ref j0, .ref k0, .ref w0, .ref rd, .ref mv, .ref xr, .int 0, .int (-1)])), (xr, .inl (cI, 8, .inl (fun _ => 0))), (xs, .inl (cS, 8, .inr (.inr (.inr (.inr (zS sh)))))), ((sh 0), .inr (4, [.ref (el 0), .int (-1), .int 0])), ((sh 1), .inr (4, [.ref (el 1), .int (-1), .int 0])), ((sh 2), .inr (4, [.ref (el 2), .int (-1), .int 0])), ((sh 3), .inr (4, [.ref (el 3), .int (-1), .int 0])), ((sh 4), .inr (4, [.ref (el 4), .int (-1), .int 0])), ((sh 5), .inr (4, [.ref (el 5), .int (-1), .int 0])), ((sh 6), .inr (4, [.ref (el 6), .int (-1), .int 0])), ((sh 7), .inr (4, [.ref (el 7), .int (-1), .int 0])), (j0, .inr (0, [.ref z0, .ref jp, .ref jc, .int 0, .int 0, .int 0, .int 60, .int 0, .int 1]))] : va_W)[3 + j2]? = some ((sh j2), .inr (4, [.ref (el j2), .int (-1), .int 0])) := by rcases zj8 hj2 with rfl | rfl | rfl | rfl | rfl | rfl | rfl | rfl <;> rfl
    refine lv_astore_n (lv' := [(3, .ref (sh j2)), (0, .ref x0), (1, .int s_), (2, .int p_)]) hx hb dX7_freed_5 rfl hl (by decide) rfl (fun ls hl => ?_)
    refine lv_aload_n hx hb dX7_freed_6 rfl (lv_at hl 1 rfl) ?_
    refine va_get (D := D) (ci := 7) (v := .ref j0) (C := RX7) (T := TX7) (N := 9) hx hb hts hi_X7_freed_7 hown hK hP 0 rfl rfl 1 (by decide) (hts (.fieldLink RX7 18 "TheLiningsInIt" "now" "LTheLiningsInIt$Jacket;") (List.mem_of_getElem? (i := 1) rfl)) (fun _ h9 => h9) rfl dX7_freed_7 ?_
    refine lv_iload_n hx hb dX7_freed_10 rfl (lv_at hl 3 rfl) ?_
    refine zc_Vq (As := [.int p_]) (rest := []) ⟨hx, hb, hml, hown, hts⟩ (c_J_pullAt l D cI cJ cZ cP cS j0 jp jc z0 0 0 (p_) (0) ) (cwV 1 hts gX7_freed_X0_pullAt rfl rfl rfl (by decide +kernel) ⟨Nat.le_of_ble_eq_true rfl, Nat.le_of_ble_eq_true rfl⟩) hK hN (hZ.kept hS) hP [11] rfl (va_recv hK hP (ci := 0) (q0 := 11) rfl rfl) rfl hl.1 rfl (Nat.le_of_ble_eq_true rfl) dX7_freed_11 ⟨Nat.le_of_ble_eq_true rfl, Nat.le_of_ble_eq_true rfl⟩ (fun r_21 hr_21 => ?_)
    rcases hr_21 with ⟨rfl, g_22⟩ | ⟨rfl, g_23⟩
    · refine lv_astoreN (lv' := [(4, .null), (3, .ref (sh j2)), (0, .ref x0), (1, .int s_), (2, .int p_)]) hx hb dX7_freed_14 hl (by decide) rfl (fun ls hl => ?_)
      refine lv_aload_n hx hb dX7_freed_16 rfl (lv_at hl 1 rfl) ?_
      refine lv_ifnull hx hb dX7_freed_17 ?_
      refine lv_aloadN hx hb dX7_freed_20 (lv_at hl 0 rfl) ?_
      refine lv_ifnonnullN hx hb dX7_freed_22 ?_
      refine lv_aload_n hx hb dX7_freed_25 rfl (lv_at hl 2 rfl) ?_
      refine lv_iconst (v := 1) hx hb dX7_freed_26 (by decide) ?_
      skip
      refine zw_V (As := [.int 1]) (rest := []) (wr := []) ⟨hx, hb, hml, hown, hts⟩ (c_refuse_1 l D cI cJ cZ cP cS x0 xs j0 k0 w0 rd mv xr  H.size) (cwV 1 hts gX7_freed_X7_refuse rfl rfl rfl (by decide +kernel) ⟨Nat.le_of_ble_eq_true rfl, Nat.le_of_ble_eq_true rfl⟩) hK hN (hZ.kept hS) hP hD hS hA [0, 1] [] rfl rfl (by decide) (by decide) (by decide) (va_recv hK hP (ci := 7) (q0 := 0) rfl rfl) rfl hl.1 rfl (Nat.le_of_ble_eq_true rfl) dX7_freed_27 ⟨Nat.le_of_ble_eq_true rfl, Nat.le_of_ble_eq_true rfl⟩ (fun r_24 u_25 H locs hr_24 hP hD hS => ?_)
      obtain rfl := hr_24
      exact W.iret (v := (-1)) hx hb hr (fun t ht hW => ⟨⟨(-1), (), rfl, Or.inr (Or.inr (Or.inr (Or.inr (Or.inl (⟨rfl, (by first | omega | decide), (by first | omega | decide), (by first | omega | decide)⟩))))), zP_nil, zD_nil⟩, hS.F ht⟩) hS.2.2 dX7_freed_30
    · refine lv_astoreN (lv' := [(4, .null), (3, .ref (sh j2)), (0, .ref x0), (1, .int s_), (2, .int p_)]) hx hb dX7_freed_14 hl (by decide) rfl (fun ls hl => ?_)
      refine lv_aload_n hx hb dX7_freed_16 rfl (lv_at hl 1 rfl) ?_
      refine lv_ifnull hx hb dX7_freed_17 ?_
      refine lv_aloadN hx hb dX7_freed_20 (lv_at hl 0 rfl) ?_
      refine lv_ifnonnullN hx hb dX7_freed_22 ?_
      refine lv_aload_n hx hb dX7_freed_25 rfl (lv_at hl 2 rfl) ?_
      refine lv_iconst (v := 1) hx hb dX7_freed_26 (by decide) ?_
      skip
      refine zw_V (As := [.int 1]) (rest := []) (wr := []) ⟨hx, hb, hml, hown, hts⟩ (c_refuse_1 l D cI cJ cZ cP cS x0 xs j0 k0 w0 rd mv xr  H.size) (cwV 1 hts gX7_freed_X7_refuse rfl rfl rfl (by decide +kernel) ⟨Nat.le_of_ble_eq_true rfl, Nat.le_of_ble_eq_true rfl⟩) hK hN (hZ.kept hS) hP hD hS hA [0, 1] [] rfl rfl (by decide) (by decide) (by decide) (va_recv hK hP (ci := 7) (q0 := 0) rfl rfl) rfl hl.1 rfl (Nat.le_of_ble_eq_true rfl) dX7_freed_27 ⟨Nat.le_of_ble_eq_true rfl, Nat.le_of_ble_eq_true rfl⟩ (fun r_26 u_27 H locs hr_26 hP hD hS => ?_)
      obtain rfl := hr_26
      exact W.iret (v := (-1)) hx hb hr (fun t ht hW => ⟨⟨(-1), (), rfl, Or.inr (Or.inr (Or.inr (Or.inr (Or.inr (⟨rfl, (by first | omega | decide), (by first | omega | decide), (by first | omega | decide)⟩))))), zP_nil, zD_nil⟩, hS.F ht⟩) hS.2.2 dX7_freed_30
set_option maxHeartbeats 4000000 in
set_option maxRecDepth 100000 in
theorem c_best (l : Launch) (D : va_G) (cI cJ cZ cP cS : ClassId) (x0 xs j0 k0 w0 rd mv xr : Nat)(sh el : Nat → Nat) (jp jc z0 zl zs : Nat) (s_ : Int32)  (sz : Nat) : Met l yX7_best wsX7_best ({ frames := 3, cells := 0, slots := 0, locals := 64 }) (va_Pc [.ref x0, .int s_] (zW D (zKT cI cJ cZ cP cS) [(x0, .inr (7, [.ref xs, .ref j0, .ref k0, .ref w0, .ref rd, .ref mv, .ref xr, .int 0, .int (-1)])), (xr, .inl (cI, 8, .inl (fun _ => 0))), (xs, .inl (cS, 8, .inr (.inr (.inr (.inr (zS sh)))))), ((sh 0), .inr (4, [.ref (el 0), .int (-1), .int 0])), ((sh 1), .inr (4, [.ref (el 1), .int (-1), .int 0])), ((sh 2), .inr (4, [.ref (el 2), .int (-1), .int 0])), ((sh 3), .inr (4, [.ref (el 3), .int (-1), .int 0])), ((sh 4), .inr (4, [.ref (el 4), .int (-1), .int 0])), ((sh 5), .inr (4, [.ref (el 5), .int (-1), .int 0])), ((sh 6), .inr (4, [.ref (el 6), .int (-1), .int 0])), ((sh 7), .inr (4, [.ref (el 7), .int (-1), .int 0])), (j0, .inr (0, [.ref z0, .ref jp, .ref jc, .int 0, .int 0, .int 0, .int 60, .int 0, .int 1]))] sz)) (va_Qi (fun (r : Int32) (_ : Unit) => (r = (-11) ∧ s_.toInt < 0) ∨ (r = (-11) ∧ 0 ≤ s_.toInt ∧ 7 < s_.toInt) ∨ (r = (-13) ∧ 0 ≤ s_.toInt ∧ s_.toInt ≤ 7)) (zB D [(x0, .inr (7, [.ref xs, .ref j0, .ref k0, .ref w0, .ref rd, .ref mv, .ref xr, .int 0, .int (-1)])), (xr, .inl (cI, 8, .inl (fun _ => 0))), (xs, .inl (cS, 8, .inr (.inr (.inr (.inr (zS sh)))))), ((sh 0), .inr (4, [.ref (el 0), .int (-1), .int 0])), ((sh 1), .inr (4, [.ref (el 1), .int (-1), .int 0])), ((sh 2), .inr (4, [.ref (el 2), .int (-1), .int 0])), ((sh 3), .inr (4, [.ref (el 3), .int (-1), .int 0])), ((sh 4), .inr (4, [.ref (el 4), .int (-1), .int 0])), ((sh 5), .inr (4, [.ref (el 5), .int (-1), .int 0])), ((sh 6), .inr (4, [.ref (el 6), .int (-1), .int 0])), ((sh 7), .inr (4, [.ref (el 7), .int (-1), .int 0])), (j0, .inr (0, [.ref z0, .ref jp, .ref jc, .int 0, .int 0, .int 0, .int 60, .int 0, .int 1]))] sz (fun (_ : Unit) => ([] : va_W))) (va_A [(x0, .inr (7, [.ref xs, .ref j0, .ref k0, .ref w0, .ref rd, .ref mv, .ref xr, .int 0, .int (-1)])), (xr, .inl (cI, 8, .inl (fun _ => 0))), (xs, .inl (cS, 8, .inr (.inr (.inr (.inr (zS sh)))))), ((sh 0), .inr (4, [.ref (el 0), .int (-1), .int 0])), ((sh 1), .inr (4, [.ref (el 1), .int (-1), .int 0])), ((sh 2), .inr (4, [.ref (el 2), .int (-1), .int 0])), ((sh 3), .inr (4, [.ref (el 3), .int (-1), .int 0])), ((sh 4), .inr (4, [.ref (el 4), .int (-1), .int 0])), ((sh 5), .inr (4, [.ref (el 5), .int (-1), .int 0])), ((sh 6), .inr (4, [.ref (el 6), .int (-1), .int 0])), ((sh 7), .inr (4, [.ref (el 7), .int (-1), .int 0])), (j0, .inr (0, [.ref z0, .ref jp, .ref jc, .int 0, .int 0, .int 0, .int 60, .int 0, .int 1]))] sz)) 0 0 (va_A [(x0, .inr (7, [.ref xs, .ref j0, .ref k0, .ref w0, .ref rd, .ref mv, .ref xr, .int 0, .int (-1)])), (xr, .inl (cI, 8, .inl (fun _ => 0))), (xs, .inl (cS, 8, .inr (.inr (.inr (.inr (zS sh)))))), ((sh 0), .inr (4, [.ref (el 0), .int (-1), .int 0])), ((sh 1), .inr (4, [.ref (el 1), .int (-1), .int 0])), ((sh 2), .inr (4, [.ref (el 2), .int (-1), .int 0])), ((sh 3), .inr (4, [.ref (el 3), .int (-1), .int 0])), ((sh 4), .inr (4, [.ref (el 4), .int (-1), .int 0])), ((sh 5), .inr (4, [.ref (el 5), .int (-1), .int 0])), ((sh 6), .inr (4, [.ref (el 6), .int (-1), .int 0])), ((sh 7), .inr (4, [.ref (el 7), .int (-1), .int 0])), (j0, .inr (0, [.ref z0, .ref jp, .ref jc, .int 0, .int 0, .int 0, .int 60, .int 0, .int 1]))] sz) := by
  refine Met.ofW (cc := cX7_best) (maxL := 9) (ret := (some .int)) (by decide) rfl ?_
  intro p e s m args below meth c s₁ B hml hv
  obtain ⟨rfl, hsz, hP, hK, hD0, hN, hZ⟩ := hv
  have hx := B.exec
  have hb := B.bytes
  have hr := B.returns
  have hts := atoms_spec (ws := wsX7_best) B.pre
  have hown : s.vm.findClass RX7 = some m.cls := findClass_of_methodNamed B.named
  have hlocks := B.notSynchronized
  subst hsz
  have hD := hD0.self (sz := s.heap.size)
  have hA : ∀ q : Nat, s.heap.size ≤ q → va_A [(x0, .inr (7, [.ref xs, .ref j0, .ref k0, .ref w0, .ref rd, .ref mv, .ref xr, .int 0, .int (-1)])), (xr, .inl (cI, 8, .inl (fun _ => 0))), (xs, .inl (cS, 8, .inr (.inr (.inr (.inr (zS sh)))))), ((sh 0), .inr (4, [.ref (el 0), .int (-1), .int 0])), ((sh 1), .inr (4, [.ref (el 1), .int (-1), .int 0])), ((sh 2), .inr (4, [.ref (el 2), .int (-1), .int 0])), ((sh 3), .inr (4, [.ref (el 3), .int (-1), .int 0])), ((sh 4), .inr (4, [.ref (el 4), .int (-1), .int 0])), ((sh 5), .inr (4, [.ref (el 5), .int (-1), .int 0])), ((sh 6), .inr (4, [.ref (el 6), .int (-1), .int 0])), ((sh 7), .inr (4, [.ref (el 7), .int (-1), .int 0])), (j0, .inr (0, [.ref z0, .ref jp, .ref jc, .int 0, .int 0, .int 0, .int 60, .int 0, .int 1]))] s.heap.size q := fun q h => Or.inr h
  have hS : va_S (va_A [(x0, .inr (7, [.ref xs, .ref j0, .ref k0, .ref w0, .ref rd, .ref mv, .ref xr, .int 0, .int (-1)])), (xr, .inl (cI, 8, .inl (fun _ => 0))), (xs, .inl (cS, 8, .inr (.inr (.inr (.inr (zS sh)))))), ((sh 0), .inr (4, [.ref (el 0), .int (-1), .int 0])), ((sh 1), .inr (4, [.ref (el 1), .int (-1), .int 0])), ((sh 2), .inr (4, [.ref (el 2), .int (-1), .int 0])), ((sh 3), .inr (4, [.ref (el 3), .int (-1), .int 0])), ((sh 4), .inr (4, [.ref (el 4), .int (-1), .int 0])), ((sh 5), .inr (4, [.ref (el 5), .int (-1), .int 0])), ((sh 6), .inr (4, [.ref (el 6), .int (-1), .int 0])), ((sh 7), .inr (4, [.ref (el 7), .int (-1), .int 0])), (j0, .inr (0, [.ref z0, .ref jp, .ref jc, .int 0, .int 0, .int 0, .int 60, .int 0, .int 1]))] s.heap.size) s.heap s.heap [] := va_S.rf
  replace hP : va_P D vwCl _ s.heap := hP
  have hl := lv_entry ([.ref x0, .int s_]) (n := 9) (Nat.le_of_ble_eq_true rfl)
  rw [lg_entry_eq]
  generalize (lg_sl ([.ref x0, .int s_]) ++ List.replicate (9 - (lg_sl ([.ref x0, .int s_])).length) Slot.unset).toArray = ls at hl ⊢
  replace hl : lv_has ls 9 [(0, .ref x0), (1, .int s_)] := hl
  refine zw_start (fun H locs hH hL => ?_)
  replace hP : va_P D vwCl [(x0, .inr (7, [.ref xs, .ref j0, .ref k0, .ref w0, .ref rd, .ref mv, .ref xr, .int 0, .int (-1)])), (xr, .inl (cI, 8, .inl (fun _ => 0))), (xs, .inl (cS, 8, .inr (.inr (.inr (.inr (zS sh)))))), ((sh 0), .inr (4, [.ref (el 0), .int (-1), .int 0])), ((sh 1), .inr (4, [.ref (el 1), .int (-1), .int 0])), ((sh 2), .inr (4, [.ref (el 2), .int (-1), .int 0])), ((sh 3), .inr (4, [.ref (el 3), .int (-1), .int 0])), ((sh 4), .inr (4, [.ref (el 4), .int (-1), .int 0])), ((sh 5), .inr (4, [.ref (el 5), .int (-1), .int 0])), ((sh 6), .inr (4, [.ref (el 6), .int (-1), .int 0])), ((sh 7), .inr (4, [.ref (el 7), .int (-1), .int 0])), (j0, .inr (0, [.ref z0, .ref jp, .ref jc, .int 0, .int 0, .int 0, .int 60, .int 0, .int 1]))] H := by rw [hH]; exact hP
  replace hS : va_S (va_A [(x0, .inr (7, [.ref xs, .ref j0, .ref k0, .ref w0, .ref rd, .ref mv, .ref xr, .int 0, .int (-1)])), (xr, .inl (cI, 8, .inl (fun _ => 0))), (xs, .inl (cS, 8, .inr (.inr (.inr (.inr (zS sh)))))), ((sh 0), .inr (4, [.ref (el 0), .int (-1), .int 0])), ((sh 1), .inr (4, [.ref (el 1), .int (-1), .int 0])), ((sh 2), .inr (4, [.ref (el 2), .int (-1), .int 0])), ((sh 3), .inr (4, [.ref (el 3), .int (-1), .int 0])), ((sh 4), .inr (4, [.ref (el 4), .int (-1), .int 0])), ((sh 5), .inr (4, [.ref (el 5), .int (-1), .int 0])), ((sh 6), .inr (4, [.ref (el 6), .int (-1), .int 0])), ((sh 7), .inr (4, [.ref (el 7), .int (-1), .int 0])), (j0, .inr (0, [.ref z0, .ref jp, .ref jc, .int 0, .int 0, .int 0, .int 60, .int 0, .int 1]))] s.heap.size) s.heap H locs := by rw [hH, hL]; exact hS
  clear hH hL
  refine lv_aload_n hx hb dX7_best_0 rfl (lv_at hl 0 rfl) ?_
  refine lv_iload_n hx hb dX7_best_1 rfl (lv_at hl 1 rfl) ?_
  refine zc_Vq (As := [.int s_]) (rest := []) ⟨hx, hb, hml, hown, hts⟩ (c_shelfAt l D cI cJ cZ cP cS x0 xs j0 k0 w0 rd mv xr ((zS sh)) (s_) ) (cwV 1 hts gX7_best_X7_shelfAt rfl rfl rfl (by decide +kernel) ⟨Nat.le_of_ble_eq_true rfl, Nat.le_of_ble_eq_true rfl⟩) hK hN (hZ.kept hS) hP [0, 2] rfl (va_recv hK hP (ci := 7) (q0 := 0) rfl rfl) rfl hl.1 rfl (Nat.le_of_ble_eq_true rfl) dX7_best_2 ⟨Nat.le_of_ble_eq_true rfl, Nat.le_of_ble_eq_true rfl⟩ (fun r_1 hr_1 => ?_)
  rcases hr_1 with ⟨rfl, g_2⟩ | ⟨rfl, g_3, g_4⟩ | ⟨rfl, g_5, g_6⟩
  · refine lv_astore_nN (lv' := [(2, .null), (0, .ref x0), (1, .int s_)]) hx hb dX7_best_5 rfl hl (by decide) rfl (fun ls hl => ?_)
    refine lv_aload_nN hx hb dX7_best_6 rfl (lv_at hl 0 rfl) ?_
    refine lv_ifnonnullN hx hb dX7_best_7 ?_
    refine lv_aload_n hx hb dX7_best_10 rfl (lv_at hl 1 rfl) ?_
    refine lv_iconst (v := 1) hx hb dX7_best_11 (by decide) ?_
    skip
    refine zw_V (As := [.int 1]) (rest := []) (wr := []) ⟨hx, hb, hml, hown, hts⟩ (c_refuseLower_1 l D cI cJ cZ cP cS x0 xs j0 k0 w0 rd mv xr  H.size) (cwV 1 hts gX7_best_X7_refuseLower rfl rfl rfl (by decide +kernel) ⟨Nat.le_of_ble_eq_true rfl, Nat.le_of_ble_eq_true rfl⟩) hK hN (hZ.kept hS) hP hD hS hA [0, 1] [] rfl rfl (by decide) (by decide) (by decide) (va_recv hK hP (ci := 7) (q0 := 0) rfl rfl) rfl hl.1 rfl (Nat.le_of_ble_eq_true rfl) dX7_best_12 ⟨Nat.le_of_ble_eq_true rfl, Nat.le_of_ble_eq_true rfl⟩ (fun r_7 u_8 H locs hr_7 hP hD hS => ?_)
    obtain rfl := hr_7
    exact W.iret (v := (-11)) hx hb hr (fun t ht hW => ⟨⟨(-11), (), rfl, Or.inl (⟨rfl, (by first | omega | decide)⟩), zP_nil, zD_nil⟩, hS.F ht⟩) hS.2.2 dX7_best_15
  · refine lv_astore_nN (lv' := [(2, .null), (0, .ref x0), (1, .int s_)]) hx hb dX7_best_5 rfl hl (by decide) rfl (fun ls hl => ?_)
    refine lv_aload_nN hx hb dX7_best_6 rfl (lv_at hl 0 rfl) ?_
    refine lv_ifnonnullN hx hb dX7_best_7 ?_
    refine lv_aload_n hx hb dX7_best_10 rfl (lv_at hl 1 rfl) ?_
    refine lv_iconst (v := 1) hx hb dX7_best_11 (by decide) ?_
    skip
    refine zw_V (As := [.int 1]) (rest := []) (wr := []) ⟨hx, hb, hml, hown, hts⟩ (c_refuseLower_1 l D cI cJ cZ cP cS x0 xs j0 k0 w0 rd mv xr  H.size) (cwV 1 hts gX7_best_X7_refuseLower rfl rfl rfl (by decide +kernel) ⟨Nat.le_of_ble_eq_true rfl, Nat.le_of_ble_eq_true rfl⟩) hK hN (hZ.kept hS) hP hD hS hA [0, 1] [] rfl rfl (by decide) (by decide) (by decide) (va_recv hK hP (ci := 7) (q0 := 0) rfl rfl) rfl hl.1 rfl (Nat.le_of_ble_eq_true rfl) dX7_best_12 ⟨Nat.le_of_ble_eq_true rfl, Nat.le_of_ble_eq_true rfl⟩ (fun r_9 u_10 H locs hr_9 hP hD hS => ?_)
    obtain rfl := hr_9
    exact W.iret (v := (-11)) hx hb hr (fun t ht hW => ⟨⟨(-11), (), rfl, Or.inr (Or.inl (⟨rfl, (by first | omega | decide), (by first | omega | decide)⟩)), zP_nil, zD_nil⟩, hS.F ht⟩) hS.2.2 dX7_best_15
  · obtain ⟨j2, hj2, hfs⟩ := zS_at sh (s := s_) (by omega) (by omega)
    rw [hfs]
    refine W.eq (g2 := F0 m 5 ls (.ref (sh j2) :: [])) rfl ?_
    have hqj2 : ([(x0, .inr (7, [.ref xs, .ref j0, .ref k0, .ref w0, .ref rd, .ref mv, .ref xr, .int 0, .int (-1)])), (xr, .inl (cI, 8, .inl (fun _ => 0))), (xs, .inl (cS, 8, .inr (.inr (.inr (.inr (zS sh)))))), ((sh 0), .inr (4, [.ref (el 0), .int (-1), .int 0])), ((sh 1), .inr (4, [.ref (el 1), .int (-1), .int 0])), ((sh 2), .inr (4, [.ref (el 2), .int (-1), .int 0])), ((sh 3), .inr (4, [.ref (el 3), .int (-1), .int 0])), ((sh 4), .inr (4, [.ref (el 4), .int (-1), .int 0])), ((sh 5), .inr (4, [.ref (el 5), .int (-1), .int 0])), ((sh 6), .inr (4, [.ref (el 6), .int (-1), .int 0])), ((sh 7), .inr (4, [.ref (el 7), .int (-1), .int 0])), (j0, .inr (0, [.ref z0, .ref jp, .ref jc, .int 0, .int 0, .int 0, .int 60, .int 0, .int 1]))] : va_W)[3 + j2]? = some ((sh j2), .inr (4, [.ref (el j2), .int (-1), .int 0])) := by rcases zj8 hj2 with rfl | rfl | rfl | rfl | rfl | rfl | rfl | rfl <;> rfl
    refine lv_astore_n (lv' := [(2, .ref (sh j2)), (0, .ref x0), (1, .int s_)]) hx hb dX7_best_5 rfl hl (by decide) rfl (fun ls hl => ?_)
    refine lv_aload_n hx hb dX7_best_6 rfl (lv_at hl 0 rfl) ?_
    refine lv_ifnonnull (tgt := 16) hx hb dX7_best_7 (by decide) ?_
    refine lv_aload_n hx hb dX7_best_16 rfl (lv_at hl 0 rfl) ?_
    refine zc_V (As := []) (rest := []) ⟨hx, hb, hml, hown, hts⟩ (c_Shelf_noBelief l D cI cJ cZ cP cS ((sh j2)) ((el j2)) ) (cwV 0 hts gX7_best_X4_noBelief rfl rfl rfl (by decide +kernel) ⟨Nat.le_of_ble_eq_true rfl, Nat.le_of_ble_eq_true rfl⟩) hK hN (hZ.kept hS) hP [(3 + j2)] (by simp only [List.filterMap_cons, List.filterMap_nil, hqj2]) (va_recv hK hP (ci := 4) (q0 := (3 + j2)) rfl hqj2) rfl hl.1 rfl (Nat.le_of_ble_eq_true rfl) dX7_best_17 ⟨Nat.le_of_ble_eq_true rfl, Nat.le_of_ble_eq_true rfl⟩ (fun r_11 hr_11 => ?_)
    obtain rfl := hr_11
    refine lv_istore_n (lv' := [(3, .int 3), (2, .ref (sh j2)), (0, .ref x0), (1, .int s_)]) hx hb dX7_best_20 rfl hl (by decide) rfl (fun ls hl => ?_)
    refine lv_iload_n hx hb dX7_best_21 rfl (lv_at hl 0 rfl) ?_
    refine lv_if_eq (tgt := 31) hx hb dX7_best_22 (by decide) (fun c_12 => ?_) (fun c_12 => ?_)
    · exact absurd c_12 (by decide)
    · refine lv_aload_n hx hb dX7_best_25 rfl (lv_at hl 2 rfl) ?_
      refine lv_iload_n hx hb dX7_best_26 rfl (lv_at hl 0 rfl) ?_
      skip
      refine zw_V (As := [.int 3]) (rest := []) (wr := []) ⟨hx, hb, hml, hown, hts⟩ (c_refuseLower_3 l D cI cJ cZ cP cS x0 xs j0 k0 w0 rd mv xr  H.size) (cwV 1 hts gX7_best_X7_refuseLower rfl rfl rfl (by decide +kernel) ⟨Nat.le_of_ble_eq_true rfl, Nat.le_of_ble_eq_true rfl⟩) hK hN (hZ.kept hS) hP hD hS hA [0, 1] [] rfl rfl (by decide) (by decide) (by decide) (va_recv hK hP (ci := 7) (q0 := 0) rfl rfl) rfl hl.1 rfl (Nat.le_of_ble_eq_true rfl) dX7_best_27 ⟨Nat.le_of_ble_eq_true rfl, Nat.le_of_ble_eq_true rfl⟩ (fun r_13 u_14 H locs hr_13 hP hD hS => ?_)
      obtain rfl := hr_13
      exact W.iret (v := (-13)) hx hb hr (fun t ht hW => ⟨⟨(-13), (), rfl, Or.inr (Or.inr (⟨rfl, (by first | omega | decide), (by first | omega | decide)⟩)), zP_nil, zD_nil⟩, hS.F ht⟩) hS.2.2 dX7_best_30
theorem hi_X7_behind_7 : ∀ w ∈ u_ws RX7 TX7 9, w ∈ wsX7_behind := by decide +kernel
set_option maxHeartbeats 4000000 in
set_option maxRecDepth 100000 in
theorem c_behind (l : Launch) (D : va_G) (cI cJ cZ cP cS : ClassId) (x0 xs j0 k0 w0 rd mv xr : Nat)(sh el : Nat → Nat) (jp jc z0 zl zs : Nat) (s_ p_ d : Int32)  (sz : Nat) : Met l yX7_behind wsX7_behind ({ frames := 2, cells := 0, slots := 0, locals := 43 }) (va_Pc [.ref x0, .int s_, .int p_, .int d] (zW D (zKT cI cJ cZ cP cS) [(x0, .inr (7, [.ref xs, .ref j0, .ref k0, .ref w0, .ref rd, .ref mv, .ref xr, .int 0, .int (-1)])), (xr, .inl (cI, 8, .inl (fun _ => 0))), (xs, .inl (cS, 8, .inr (.inr (.inr (.inr (zS sh)))))), ((sh 0), .inr (4, [.ref (el 0), .int (-1), .int 0])), ((sh 1), .inr (4, [.ref (el 1), .int (-1), .int 0])), ((sh 2), .inr (4, [.ref (el 2), .int (-1), .int 0])), ((sh 3), .inr (4, [.ref (el 3), .int (-1), .int 0])), ((sh 4), .inr (4, [.ref (el 4), .int (-1), .int 0])), ((sh 5), .inr (4, [.ref (el 5), .int (-1), .int 0])), ((sh 6), .inr (4, [.ref (el 6), .int (-1), .int 0])), ((sh 7), .inr (4, [.ref (el 7), .int (-1), .int 0])), (j0, .inr (0, [.ref z0, .ref jp, .ref jc, .int 0, .int 0, .int 0, .int 60, .int 0, .int 1]))] sz)) (va_Qi (fun (r : Int32) (_ : Unit) => (r = (-1) ∧ s_.toInt < 0 ∧ p_.toInt < 0) ∨ (r = (-1) ∧ s_.toInt < 0 ∧ 0 ≤ p_.toInt) ∨ (r = (-1) ∧ 0 ≤ s_.toInt ∧ 7 < s_.toInt ∧ p_.toInt < 0) ∨ (r = (-1) ∧ 0 ≤ s_.toInt ∧ 7 < s_.toInt ∧ 0 ≤ p_.toInt) ∨ (r = (-1) ∧ 0 ≤ s_.toInt ∧ s_.toInt ≤ 7 ∧ p_.toInt < 0) ∨ (r = (-1) ∧ 0 ≤ s_.toInt ∧ s_.toInt ≤ 7 ∧ 0 ≤ p_.toInt)) (zB D [(x0, .inr (7, [.ref xs, .ref j0, .ref k0, .ref w0, .ref rd, .ref mv, .ref xr, .int 0, .int (-1)])), (xr, .inl (cI, 8, .inl (fun _ => 0))), (xs, .inl (cS, 8, .inr (.inr (.inr (.inr (zS sh)))))), ((sh 0), .inr (4, [.ref (el 0), .int (-1), .int 0])), ((sh 1), .inr (4, [.ref (el 1), .int (-1), .int 0])), ((sh 2), .inr (4, [.ref (el 2), .int (-1), .int 0])), ((sh 3), .inr (4, [.ref (el 3), .int (-1), .int 0])), ((sh 4), .inr (4, [.ref (el 4), .int (-1), .int 0])), ((sh 5), .inr (4, [.ref (el 5), .int (-1), .int 0])), ((sh 6), .inr (4, [.ref (el 6), .int (-1), .int 0])), ((sh 7), .inr (4, [.ref (el 7), .int (-1), .int 0])), (j0, .inr (0, [.ref z0, .ref jp, .ref jc, .int 0, .int 0, .int 0, .int 60, .int 0, .int 1]))] sz (fun (_ : Unit) => ([] : va_W))) (va_A [(x0, .inr (7, [.ref xs, .ref j0, .ref k0, .ref w0, .ref rd, .ref mv, .ref xr, .int 0, .int (-1)])), (xr, .inl (cI, 8, .inl (fun _ => 0))), (xs, .inl (cS, 8, .inr (.inr (.inr (.inr (zS sh)))))), ((sh 0), .inr (4, [.ref (el 0), .int (-1), .int 0])), ((sh 1), .inr (4, [.ref (el 1), .int (-1), .int 0])), ((sh 2), .inr (4, [.ref (el 2), .int (-1), .int 0])), ((sh 3), .inr (4, [.ref (el 3), .int (-1), .int 0])), ((sh 4), .inr (4, [.ref (el 4), .int (-1), .int 0])), ((sh 5), .inr (4, [.ref (el 5), .int (-1), .int 0])), ((sh 6), .inr (4, [.ref (el 6), .int (-1), .int 0])), ((sh 7), .inr (4, [.ref (el 7), .int (-1), .int 0])), (j0, .inr (0, [.ref z0, .ref jp, .ref jc, .int 0, .int 0, .int 0, .int 60, .int 0, .int 1]))] sz)) 0 0 (va_A [(x0, .inr (7, [.ref xs, .ref j0, .ref k0, .ref w0, .ref rd, .ref mv, .ref xr, .int 0, .int (-1)])), (xr, .inl (cI, 8, .inl (fun _ => 0))), (xs, .inl (cS, 8, .inr (.inr (.inr (.inr (zS sh)))))), ((sh 0), .inr (4, [.ref (el 0), .int (-1), .int 0])), ((sh 1), .inr (4, [.ref (el 1), .int (-1), .int 0])), ((sh 2), .inr (4, [.ref (el 2), .int (-1), .int 0])), ((sh 3), .inr (4, [.ref (el 3), .int (-1), .int 0])), ((sh 4), .inr (4, [.ref (el 4), .int (-1), .int 0])), ((sh 5), .inr (4, [.ref (el 5), .int (-1), .int 0])), ((sh 6), .inr (4, [.ref (el 6), .int (-1), .int 0])), ((sh 7), .inr (4, [.ref (el 7), .int (-1), .int 0])), (j0, .inr (0, [.ref z0, .ref jp, .ref jc, .int 0, .int 0, .int 0, .int 60, .int 0, .int 1]))] sz) := by
  refine Met.ofW (cc := cX7_behind) (maxL := 10) (ret := (some .int)) (by decide) rfl ?_
  intro p e s m args below meth c s₁ B hml hv
  obtain ⟨rfl, hsz, hP, hK, hD0, hN, hZ⟩ := hv
  have hx := B.exec
  have hb := B.bytes
  have hr := B.returns
  have hts := atoms_spec (ws := wsX7_behind) B.pre
  have hown : s.vm.findClass RX7 = some m.cls := findClass_of_methodNamed B.named
  have hlocks := B.notSynchronized
  subst hsz
  have hD := hD0.self (sz := s.heap.size)
  have hA : ∀ q : Nat, s.heap.size ≤ q → va_A [(x0, .inr (7, [.ref xs, .ref j0, .ref k0, .ref w0, .ref rd, .ref mv, .ref xr, .int 0, .int (-1)])), (xr, .inl (cI, 8, .inl (fun _ => 0))), (xs, .inl (cS, 8, .inr (.inr (.inr (.inr (zS sh)))))), ((sh 0), .inr (4, [.ref (el 0), .int (-1), .int 0])), ((sh 1), .inr (4, [.ref (el 1), .int (-1), .int 0])), ((sh 2), .inr (4, [.ref (el 2), .int (-1), .int 0])), ((sh 3), .inr (4, [.ref (el 3), .int (-1), .int 0])), ((sh 4), .inr (4, [.ref (el 4), .int (-1), .int 0])), ((sh 5), .inr (4, [.ref (el 5), .int (-1), .int 0])), ((sh 6), .inr (4, [.ref (el 6), .int (-1), .int 0])), ((sh 7), .inr (4, [.ref (el 7), .int (-1), .int 0])), (j0, .inr (0, [.ref z0, .ref jp, .ref jc, .int 0, .int 0, .int 0, .int 60, .int 0, .int 1]))] s.heap.size q := fun q h => Or.inr h
  have hS : va_S (va_A [(x0, .inr (7, [.ref xs, .ref j0, .ref k0, .ref w0, .ref rd, .ref mv, .ref xr, .int 0, .int (-1)])), (xr, .inl (cI, 8, .inl (fun _ => 0))), (xs, .inl (cS, 8, .inr (.inr (.inr (.inr (zS sh)))))), ((sh 0), .inr (4, [.ref (el 0), .int (-1), .int 0])), ((sh 1), .inr (4, [.ref (el 1), .int (-1), .int 0])), ((sh 2), .inr (4, [.ref (el 2), .int (-1), .int 0])), ((sh 3), .inr (4, [.ref (el 3), .int (-1), .int 0])), ((sh 4), .inr (4, [.ref (el 4), .int (-1), .int 0])), ((sh 5), .inr (4, [.ref (el 5), .int (-1), .int 0])), ((sh 6), .inr (4, [.ref (el 6), .int (-1), .int 0])), ((sh 7), .inr (4, [.ref (el 7), .int (-1), .int 0])), (j0, .inr (0, [.ref z0, .ref jp, .ref jc, .int 0, .int 0, .int 0, .int 60, .int 0, .int 1]))] s.heap.size) s.heap s.heap [] := va_S.rf
  replace hP : va_P D vwCl _ s.heap := hP
  have hl := lv_entry ([.ref x0, .int s_, .int p_, .int d]) (n := 10) (Nat.le_of_ble_eq_true rfl)
  rw [lg_entry_eq]
  generalize (lg_sl ([.ref x0, .int s_, .int p_, .int d]) ++ List.replicate (10 - (lg_sl ([.ref x0, .int s_, .int p_, .int d])).length) Slot.unset).toArray = ls at hl ⊢
  replace hl : lv_has ls 10 [(0, .ref x0), (1, .int s_), (2, .int p_), (3, .int d)] := hl
  refine zw_start (fun H locs hH hL => ?_)
  replace hP : va_P D vwCl [(x0, .inr (7, [.ref xs, .ref j0, .ref k0, .ref w0, .ref rd, .ref mv, .ref xr, .int 0, .int (-1)])), (xr, .inl (cI, 8, .inl (fun _ => 0))), (xs, .inl (cS, 8, .inr (.inr (.inr (.inr (zS sh)))))), ((sh 0), .inr (4, [.ref (el 0), .int (-1), .int 0])), ((sh 1), .inr (4, [.ref (el 1), .int (-1), .int 0])), ((sh 2), .inr (4, [.ref (el 2), .int (-1), .int 0])), ((sh 3), .inr (4, [.ref (el 3), .int (-1), .int 0])), ((sh 4), .inr (4, [.ref (el 4), .int (-1), .int 0])), ((sh 5), .inr (4, [.ref (el 5), .int (-1), .int 0])), ((sh 6), .inr (4, [.ref (el 6), .int (-1), .int 0])), ((sh 7), .inr (4, [.ref (el 7), .int (-1), .int 0])), (j0, .inr (0, [.ref z0, .ref jp, .ref jc, .int 0, .int 0, .int 0, .int 60, .int 0, .int 1]))] H := by rw [hH]; exact hP
  replace hS : va_S (va_A [(x0, .inr (7, [.ref xs, .ref j0, .ref k0, .ref w0, .ref rd, .ref mv, .ref xr, .int 0, .int (-1)])), (xr, .inl (cI, 8, .inl (fun _ => 0))), (xs, .inl (cS, 8, .inr (.inr (.inr (.inr (zS sh)))))), ((sh 0), .inr (4, [.ref (el 0), .int (-1), .int 0])), ((sh 1), .inr (4, [.ref (el 1), .int (-1), .int 0])), ((sh 2), .inr (4, [.ref (el 2), .int (-1), .int 0])), ((sh 3), .inr (4, [.ref (el 3), .int (-1), .int 0])), ((sh 4), .inr (4, [.ref (el 4), .int (-1), .int 0])), ((sh 5), .inr (4, [.ref (el 5), .int (-1), .int 0])), ((sh 6), .inr (4, [.ref (el 6), .int (-1), .int 0])), ((sh 7), .inr (4, [.ref (el 7), .int (-1), .int 0])), (j0, .inr (0, [.ref z0, .ref jp, .ref jc, .int 0, .int 0, .int 0, .int 60, .int 0, .int 1]))] s.heap.size) s.heap H locs := by rw [hH, hL]; exact hS
  clear hH hL
  refine lv_aload_n hx hb dX7_behind_0 rfl (lv_at hl 0 rfl) ?_
  refine lv_iload_n hx hb dX7_behind_1 rfl (lv_at hl 1 rfl) ?_
  refine zc_Vq (As := [.int s_]) (rest := []) ⟨hx, hb, hml, hown, hts⟩ (c_shelfAt l D cI cJ cZ cP cS x0 xs j0 k0 w0 rd mv xr ((zS sh)) (s_) ) (cwV 1 hts gX7_behind_X7_shelfAt rfl rfl rfl (by decide +kernel) ⟨Nat.le_of_ble_eq_true rfl, Nat.le_of_ble_eq_true rfl⟩) hK hN (hZ.kept hS) hP [0, 2] rfl (va_recv hK hP (ci := 7) (q0 := 0) rfl rfl) rfl hl.1 rfl (Nat.le_of_ble_eq_true rfl) dX7_behind_2 ⟨Nat.le_of_ble_eq_true rfl, Nat.le_of_ble_eq_true rfl⟩ (fun r_1 hr_1 => ?_)
  rcases hr_1 with ⟨rfl, g_2⟩ | ⟨rfl, g_3, g_4⟩ | ⟨rfl, g_5, g_6⟩
  · refine lv_astoreN (lv' := [(4, .null), (0, .ref x0), (1, .int s_), (2, .int p_), (3, .int d)]) hx hb dX7_behind_5 hl (by decide) rfl (fun ls hl => ?_)
    refine lv_aload_n hx hb dX7_behind_7 rfl (lv_at hl 1 rfl) ?_
    refine va_get (D := D) (ci := 7) (v := .ref j0) (C := RX7) (T := TX7) (N := 9) hx hb hts hi_X7_behind_7 hown hK hP 0 rfl rfl 1 (by decide) (hts (.fieldLink RX7 18 "TheLiningsInIt" "now" "LTheLiningsInIt$Jacket;") (List.mem_of_getElem? (i := 1) rfl)) (fun _ h9 => h9) rfl dX7_behind_8 ?_
    refine lv_iload_n hx hb dX7_behind_11 rfl (lv_at hl 3 rfl) ?_
    refine zc_Vq (As := [.int p_]) (rest := []) ⟨hx, hb, hml, hown, hts⟩ (c_J_pullAt l D cI cJ cZ cP cS j0 jp jc z0 0 0 (p_) (0) ) (cwV 1 hts gX7_behind_X0_pullAt rfl rfl rfl (by decide +kernel) ⟨Nat.le_of_ble_eq_true rfl, Nat.le_of_ble_eq_true rfl⟩) hK hN (hZ.kept hS) hP [11] rfl (va_recv hK hP (ci := 0) (q0 := 11) rfl rfl) rfl hl.1 rfl (Nat.le_of_ble_eq_true rfl) dX7_behind_12 ⟨Nat.le_of_ble_eq_true rfl, Nat.le_of_ble_eq_true rfl⟩ (fun r_7 hr_7 => ?_)
    rcases hr_7 with ⟨rfl, g_8⟩ | ⟨rfl, g_9⟩
    · refine lv_astoreN (lv' := [(5, .null), (4, .null), (0, .ref x0), (1, .int s_), (2, .int p_), (3, .int d)]) hx hb dX7_behind_15 hl (by decide) rfl (fun ls hl => ?_)
      refine lv_aloadN hx hb dX7_behind_17 (lv_at hl 1 rfl) ?_
      refine lv_ifnullN (tgt := 27) hx hb dX7_behind_19 (by decide) ?_
      refine lv_aload_n hx hb dX7_behind_27 rfl (lv_at hl 2 rfl) ?_
      refine lv_iconst (v := 1) hx hb dX7_behind_28 (by decide) ?_
      skip
      refine zw_V (As := [.int 1]) (rest := []) (wr := []) ⟨hx, hb, hml, hown, hts⟩ (c_refuse_1 l D cI cJ cZ cP cS x0 xs j0 k0 w0 rd mv xr  H.size) (cwV 1 hts gX7_behind_X7_refuse rfl rfl rfl (by decide +kernel) ⟨Nat.le_of_ble_eq_true rfl, Nat.le_of_ble_eq_true rfl⟩) hK hN (hZ.kept hS) hP hD hS hA [0, 1] [] rfl rfl (by decide) (by decide) (by decide) (va_recv hK hP (ci := 7) (q0 := 0) rfl rfl) rfl hl.1 rfl (Nat.le_of_ble_eq_true rfl) dX7_behind_29 ⟨Nat.le_of_ble_eq_true rfl, Nat.le_of_ble_eq_true rfl⟩ (fun r_10 u_11 H locs hr_10 hP hD hS => ?_)
      obtain rfl := hr_10
      exact W.iret (v := (-1)) hx hb hr (fun t ht hW => ⟨⟨(-1), (), rfl, Or.inl (⟨rfl, (by first | omega | decide), (by first | omega | decide)⟩), zP_nil, zD_nil⟩, hS.F ht⟩) hS.2.2 dX7_behind_32
    · refine lv_astoreN (lv' := [(5, .null), (4, .null), (0, .ref x0), (1, .int s_), (2, .int p_), (3, .int d)]) hx hb dX7_behind_15 hl (by decide) rfl (fun ls hl => ?_)
      refine lv_aloadN hx hb dX7_behind_17 (lv_at hl 1 rfl) ?_
      refine lv_ifnullN (tgt := 27) hx hb dX7_behind_19 (by decide) ?_
      refine lv_aload_n hx hb dX7_behind_27 rfl (lv_at hl 2 rfl) ?_
      refine lv_iconst (v := 1) hx hb dX7_behind_28 (by decide) ?_
      skip
      refine zw_V (As := [.int 1]) (rest := []) (wr := []) ⟨hx, hb, hml, hown, hts⟩ (c_refuse_1 l D cI cJ cZ cP cS x0 xs j0 k0 w0 rd mv xr  H.size) (cwV 1 hts gX7_behind_X7_refuse rfl rfl rfl (by decide +kernel) ⟨Nat.le_of_ble_eq_true rfl, Nat.le_of_ble_eq_true rfl⟩) hK hN (hZ.kept hS) hP hD hS hA [0, 1] [] rfl rfl (by decide) (by decide) (by decide) (va_recv hK hP (ci := 7) (q0 := 0) rfl rfl) rfl hl.1 rfl (Nat.le_of_ble_eq_true rfl) dX7_behind_29 ⟨Nat.le_of_ble_eq_true rfl, Nat.le_of_ble_eq_true rfl⟩ (fun r_12 u_13 H locs hr_12 hP hD hS => ?_)
      obtain rfl := hr_12
      exact W.iret (v := (-1)) hx hb hr (fun t ht hW => ⟨⟨(-1), (), rfl, Or.inr (Or.inl (⟨rfl, (by first | omega | decide), (by first | omega | decide)⟩)), zP_nil, zD_nil⟩, hS.F ht⟩) hS.2.2 dX7_behind_32
  · refine lv_astoreN (lv' := [(4, .null), (0, .ref x0), (1, .int s_), (2, .int p_), (3, .int d)]) hx hb dX7_behind_5 hl (by decide) rfl (fun ls hl => ?_)
    refine lv_aload_n hx hb dX7_behind_7 rfl (lv_at hl 1 rfl) ?_
    refine va_get (D := D) (ci := 7) (v := .ref j0) (C := RX7) (T := TX7) (N := 9) hx hb hts hi_X7_behind_7 hown hK hP 0 rfl rfl 1 (by decide) (hts (.fieldLink RX7 18 "TheLiningsInIt" "now" "LTheLiningsInIt$Jacket;") (List.mem_of_getElem? (i := 1) rfl)) (fun _ h9 => h9) rfl dX7_behind_8 ?_
    refine lv_iload_n hx hb dX7_behind_11 rfl (lv_at hl 3 rfl) ?_
    refine zc_Vq (As := [.int p_]) (rest := []) ⟨hx, hb, hml, hown, hts⟩ (c_J_pullAt l D cI cJ cZ cP cS j0 jp jc z0 0 0 (p_) (0) ) (cwV 1 hts gX7_behind_X0_pullAt rfl rfl rfl (by decide +kernel) ⟨Nat.le_of_ble_eq_true rfl, Nat.le_of_ble_eq_true rfl⟩) hK hN (hZ.kept hS) hP [11] rfl (va_recv hK hP (ci := 0) (q0 := 11) rfl rfl) rfl hl.1 rfl (Nat.le_of_ble_eq_true rfl) dX7_behind_12 ⟨Nat.le_of_ble_eq_true rfl, Nat.le_of_ble_eq_true rfl⟩ (fun r_14 hr_14 => ?_)
    rcases hr_14 with ⟨rfl, g_15⟩ | ⟨rfl, g_16⟩
    · refine lv_astoreN (lv' := [(5, .null), (4, .null), (0, .ref x0), (1, .int s_), (2, .int p_), (3, .int d)]) hx hb dX7_behind_15 hl (by decide) rfl (fun ls hl => ?_)
      refine lv_aloadN hx hb dX7_behind_17 (lv_at hl 1 rfl) ?_
      refine lv_ifnullN (tgt := 27) hx hb dX7_behind_19 (by decide) ?_
      refine lv_aload_n hx hb dX7_behind_27 rfl (lv_at hl 2 rfl) ?_
      refine lv_iconst (v := 1) hx hb dX7_behind_28 (by decide) ?_
      skip
      refine zw_V (As := [.int 1]) (rest := []) (wr := []) ⟨hx, hb, hml, hown, hts⟩ (c_refuse_1 l D cI cJ cZ cP cS x0 xs j0 k0 w0 rd mv xr  H.size) (cwV 1 hts gX7_behind_X7_refuse rfl rfl rfl (by decide +kernel) ⟨Nat.le_of_ble_eq_true rfl, Nat.le_of_ble_eq_true rfl⟩) hK hN (hZ.kept hS) hP hD hS hA [0, 1] [] rfl rfl (by decide) (by decide) (by decide) (va_recv hK hP (ci := 7) (q0 := 0) rfl rfl) rfl hl.1 rfl (Nat.le_of_ble_eq_true rfl) dX7_behind_29 ⟨Nat.le_of_ble_eq_true rfl, Nat.le_of_ble_eq_true rfl⟩ (fun r_17 u_18 H locs hr_17 hP hD hS => ?_)
      obtain rfl := hr_17
      exact W.iret (v := (-1)) hx hb hr (fun t ht hW => ⟨⟨(-1), (), rfl, Or.inr (Or.inr (Or.inl (⟨rfl, (by first | omega | decide), (by first | omega | decide), (by first | omega | decide)⟩))), zP_nil, zD_nil⟩, hS.F ht⟩) hS.2.2 dX7_behind_32
    · refine lv_astoreN (lv' := [(5, .null), (4, .null), (0, .ref x0), (1, .int s_), (2, .int p_), (3, .int d)]) hx hb dX7_behind_15 hl (by decide) rfl (fun ls hl => ?_)
      refine lv_aloadN hx hb dX7_behind_17 (lv_at hl 1 rfl) ?_
      refine lv_ifnullN (tgt := 27) hx hb dX7_behind_19 (by decide) ?_
      refine lv_aload_n hx hb dX7_behind_27 rfl (lv_at hl 2 rfl) ?_
      refine lv_iconst (v := 1) hx hb dX7_behind_28 (by decide) ?_
      skip
      refine zw_V (As := [.int 1]) (rest := []) (wr := []) ⟨hx, hb, hml, hown, hts⟩ (c_refuse_1 l D cI cJ cZ cP cS x0 xs j0 k0 w0 rd mv xr  H.size) (cwV 1 hts gX7_behind_X7_refuse rfl rfl rfl (by decide +kernel) ⟨Nat.le_of_ble_eq_true rfl, Nat.le_of_ble_eq_true rfl⟩) hK hN (hZ.kept hS) hP hD hS hA [0, 1] [] rfl rfl (by decide) (by decide) (by decide) (va_recv hK hP (ci := 7) (q0 := 0) rfl rfl) rfl hl.1 rfl (Nat.le_of_ble_eq_true rfl) dX7_behind_29 ⟨Nat.le_of_ble_eq_true rfl, Nat.le_of_ble_eq_true rfl⟩ (fun r_19 u_20 H locs hr_19 hP hD hS => ?_)
      obtain rfl := hr_19
      exact W.iret (v := (-1)) hx hb hr (fun t ht hW => ⟨⟨(-1), (), rfl, Or.inr (Or.inr (Or.inr (Or.inl (⟨rfl, (by first | omega | decide), (by first | omega | decide), (by first | omega | decide)⟩)))), zP_nil, zD_nil⟩, hS.F ht⟩) hS.2.2 dX7_behind_32
  · obtain ⟨j2, hj2, hfs⟩ := zS_at sh (s := s_) (by omega) (by omega)
    rw [hfs]
    refine W.eq (g2 := F0 m 5 ls (.ref (sh j2) :: [])) rfl ?_
    have hqj2 : ([(x0, .inr (7, [.ref xs, .ref j0, .ref k0, .ref w0, .ref rd, .ref mv, .ref xr, .int 0, .int (-1)])), (xr, .inl (cI, 8, .inl (fun _ => 0))), (xs, .inl (cS, 8, .inr (.inr (.inr (.inr (zS sh)))))), ((sh 0), .inr (4, [.ref (el 0), .int (-1), .int 0])), ((sh 1), .inr (4, [.ref (el 1), .int (-1), .int 0])), ((sh 2), .inr (4, [.ref (el 2), .int (-1), .int 0])), ((sh 3), .inr (4, [.ref (el 3), .int (-1), .int 0])), ((sh 4), .inr (4, [.ref (el 4), .int (-1), .int 0])), ((sh 5), .inr (4, [.ref (el 5), .int (-1), .int 0])), ((sh 6), .inr (4, [.ref (el 6), .int (-1), .int 0])), ((sh 7), .inr (4, [.ref (el 7), .int (-1), .int 0])), (j0, .inr (0, [.ref z0, .ref jp, .ref jc, .int 0, .int 0, .int 0, .int 60, .int 0, .int 1]))] : va_W)[3 + j2]? = some ((sh j2), .inr (4, [.ref (el j2), .int (-1), .int 0])) := by rcases zj8 hj2 with rfl | rfl | rfl | rfl | rfl | rfl | rfl | rfl <;> rfl
    refine lv_astore (lv' := [(4, .ref (sh j2)), (0, .ref x0), (1, .int s_), (2, .int p_), (3, .int d)]) hx hb dX7_behind_5 hl (by decide) rfl (fun ls hl => ?_)
    refine lv_aload_n hx hb dX7_behind_7 rfl (lv_at hl 1 rfl) ?_
    refine va_get (D := D) (ci := 7) (v := .ref j0) (C := RX7) (T := TX7) (N := 9) hx hb hts hi_X7_behind_7 hown hK hP 0 rfl rfl 1 (by decide) (hts (.fieldLink RX7 18 "TheLiningsInIt" "now" "LTheLiningsInIt$Jacket;") (List.mem_of_getElem? (i := 1) rfl)) (fun _ h9 => h9) rfl dX7_behind_8 ?_
    refine lv_iload_n hx hb dX7_behind_11 rfl (lv_at hl 3 rfl) ?_
    refine zc_Vq (As := [.int p_]) (rest := []) ⟨hx, hb, hml, hown, hts⟩ (c_J_pullAt l D cI cJ cZ cP cS j0 jp jc z0 0 0 (p_) (0) ) (cwV 1 hts gX7_behind_X0_pullAt rfl rfl rfl (by decide +kernel) ⟨Nat.le_of_ble_eq_true rfl, Nat.le_of_ble_eq_true rfl⟩) hK hN (hZ.kept hS) hP [11] rfl (va_recv hK hP (ci := 0) (q0 := 11) rfl rfl) rfl hl.1 rfl (Nat.le_of_ble_eq_true rfl) dX7_behind_12 ⟨Nat.le_of_ble_eq_true rfl, Nat.le_of_ble_eq_true rfl⟩ (fun r_21 hr_21 => ?_)
    rcases hr_21 with ⟨rfl, g_22⟩ | ⟨rfl, g_23⟩
    · refine lv_astoreN (lv' := [(5, .null), (4, .ref (sh j2)), (0, .ref x0), (1, .int s_), (2, .int p_), (3, .int d)]) hx hb dX7_behind_15 hl (by decide) rfl (fun ls hl => ?_)
      refine lv_aload hx hb dX7_behind_17 (lv_at hl 1 rfl) ?_
      refine lv_ifnull hx hb dX7_behind_19 ?_
      refine lv_aloadN hx hb dX7_behind_22 (lv_at hl 0 rfl) ?_
      refine lv_ifnonnullN hx hb dX7_behind_24 ?_
      refine lv_aload_n hx hb dX7_behind_27 rfl (lv_at hl 2 rfl) ?_
      refine lv_iconst (v := 1) hx hb dX7_behind_28 (by decide) ?_
      skip
      refine zw_V (As := [.int 1]) (rest := []) (wr := []) ⟨hx, hb, hml, hown, hts⟩ (c_refuse_1 l D cI cJ cZ cP cS x0 xs j0 k0 w0 rd mv xr  H.size) (cwV 1 hts gX7_behind_X7_refuse rfl rfl rfl (by decide +kernel) ⟨Nat.le_of_ble_eq_true rfl, Nat.le_of_ble_eq_true rfl⟩) hK hN (hZ.kept hS) hP hD hS hA [0, 1] [] rfl rfl (by decide) (by decide) (by decide) (va_recv hK hP (ci := 7) (q0 := 0) rfl rfl) rfl hl.1 rfl (Nat.le_of_ble_eq_true rfl) dX7_behind_29 ⟨Nat.le_of_ble_eq_true rfl, Nat.le_of_ble_eq_true rfl⟩ (fun r_24 u_25 H locs hr_24 hP hD hS => ?_)
      obtain rfl := hr_24
      exact W.iret (v := (-1)) hx hb hr (fun t ht hW => ⟨⟨(-1), (), rfl, Or.inr (Or.inr (Or.inr (Or.inr (Or.inl (⟨rfl, (by first | omega | decide), (by first | omega | decide), (by first | omega | decide)⟩))))), zP_nil, zD_nil⟩, hS.F ht⟩) hS.2.2 dX7_behind_32
    · refine lv_astoreN (lv' := [(5, .null), (4, .ref (sh j2)), (0, .ref x0), (1, .int s_), (2, .int p_), (3, .int d)]) hx hb dX7_behind_15 hl (by decide) rfl (fun ls hl => ?_)
      refine lv_aload hx hb dX7_behind_17 (lv_at hl 1 rfl) ?_
      refine lv_ifnull hx hb dX7_behind_19 ?_
      refine lv_aloadN hx hb dX7_behind_22 (lv_at hl 0 rfl) ?_
      refine lv_ifnonnullN hx hb dX7_behind_24 ?_
      refine lv_aload_n hx hb dX7_behind_27 rfl (lv_at hl 2 rfl) ?_
      refine lv_iconst (v := 1) hx hb dX7_behind_28 (by decide) ?_
      skip
      refine zw_V (As := [.int 1]) (rest := []) (wr := []) ⟨hx, hb, hml, hown, hts⟩ (c_refuse_1 l D cI cJ cZ cP cS x0 xs j0 k0 w0 rd mv xr  H.size) (cwV 1 hts gX7_behind_X7_refuse rfl rfl rfl (by decide +kernel) ⟨Nat.le_of_ble_eq_true rfl, Nat.le_of_ble_eq_true rfl⟩) hK hN (hZ.kept hS) hP hD hS hA [0, 1] [] rfl rfl (by decide) (by decide) (by decide) (va_recv hK hP (ci := 7) (q0 := 0) rfl rfl) rfl hl.1 rfl (Nat.le_of_ble_eq_true rfl) dX7_behind_29 ⟨Nat.le_of_ble_eq_true rfl, Nat.le_of_ble_eq_true rfl⟩ (fun r_26 u_27 H locs hr_26 hP hD hS => ?_)
      obtain rfl := hr_26
      exact W.iret (v := (-1)) hx hb hr (fun t ht hW => ⟨⟨(-1), (), rfl, Or.inr (Or.inr (Or.inr (Or.inr (Or.inr (⟨rfl, (by first | omega | decide), (by first | omega | decide), (by first | omega | decide)⟩))))), zP_nil, zD_nil⟩, hS.F ht⟩) hS.2.2 dX7_behind_32
theorem hi_X7_strong_7 : ∀ w ∈ u_ws RX7 TX7 9, w ∈ wsX7_strong := by decide +kernel
theorem hi_X7_strong_0 : ∀ w ∈ u_ws RX0 TX0 9, w ∈ wsX7_strong := by decide +kernel
set_option maxHeartbeats 4000000 in
set_option maxRecDepth 100000 in
theorem c_strong (l : Launch) (D : va_G) (cI cJ cZ cP cS : ClassId) (x0 xs j0 k0 w0 rd mv xr : Nat) (jp jc z0 zl zs : Nat) (w : Int32)  (sz : Nat) : Met l yX7_strong wsX7_strong ({ frames := 5, cells := 0, slots := 0, locals := 111 }) (va_Pc [.ref x0, .int w] (zW D (zKT cI cJ cZ cP cS) [(x0, .inr (7, [.ref xs, .ref j0, .ref k0, .ref w0, .ref rd, .ref mv, .ref xr, .int 0, .int (-1)])), (xr, .inl (cI, 8, .inl (fun _ => 0))), (j0, .inr (0, [.ref z0, .ref jp, .ref jc, .int 0, .int 0, .int 0, .int 60, .int 0, .int 1])), (z0, .inr (6, [.ref zl, .ref zs, .int 20, .int 0, .int 3])), (zl, .inl (cZ, 40, .inl (fun _ => 0)))] sz)) (va_Qi (fun (r : Int32) (_ : Unit) => (r = (-5) ∧ (w.toInt < 0 ∨ 3 < w.toInt)) ∨ (r = 1 ∧ w.toInt = 0) ∨ (r = 0 ∧ w.toInt = 1) ∨ (r = 14 ∧ w.toInt = 2) ∨ (r = 0 ∧ w.toInt = 3)) (zB D [(x0, .inr (7, [.ref xs, .ref j0, .ref k0, .ref w0, .ref rd, .ref mv, .ref xr, .int 0, .int (-1)])), (xr, .inl (cI, 8, .inl (fun _ => 0))), (j0, .inr (0, [.ref z0, .ref jp, .ref jc, .int 0, .int 0, .int 0, .int 60, .int 0, .int 1])), (z0, .inr (6, [.ref zl, .ref zs, .int 20, .int 0, .int 3])), (zl, .inl (cZ, 40, .inl (fun _ => 0)))] sz (fun (_ : Unit) => ([] : va_W))) (va_A [(x0, .inr (7, [.ref xs, .ref j0, .ref k0, .ref w0, .ref rd, .ref mv, .ref xr, .int 0, .int (-1)])), (xr, .inl (cI, 8, .inl (fun _ => 0))), (j0, .inr (0, [.ref z0, .ref jp, .ref jc, .int 0, .int 0, .int 0, .int 60, .int 0, .int 1])), (z0, .inr (6, [.ref zl, .ref zs, .int 20, .int 0, .int 3])), (zl, .inl (cZ, 40, .inl (fun _ => 0)))] sz)) 0 0 (va_A [(x0, .inr (7, [.ref xs, .ref j0, .ref k0, .ref w0, .ref rd, .ref mv, .ref xr, .int 0, .int (-1)])), (xr, .inl (cI, 8, .inl (fun _ => 0))), (j0, .inr (0, [.ref z0, .ref jp, .ref jc, .int 0, .int 0, .int 0, .int 60, .int 0, .int 1])), (z0, .inr (6, [.ref zl, .ref zs, .int 20, .int 0, .int 3])), (zl, .inl (cZ, 40, .inl (fun _ => 0)))] sz) := by
  refine Met.ofW (cc := cX7_strong) (maxL := 2) (ret := (some .int)) (by decide) rfl ?_
  intro p e s m args below meth c s₁ B hml hv
  obtain ⟨rfl, hsz, hP, hK, hD0, hN, hZ⟩ := hv
  have hx := B.exec
  have hb := B.bytes
  have hr := B.returns
  have hts := atoms_spec (ws := wsX7_strong) B.pre
  have hown : s.vm.findClass RX7 = some m.cls := findClass_of_methodNamed B.named
  have hlocks := B.notSynchronized
  subst hsz
  have hD := hD0.self (sz := s.heap.size)
  have hA : ∀ q : Nat, s.heap.size ≤ q → va_A [(x0, .inr (7, [.ref xs, .ref j0, .ref k0, .ref w0, .ref rd, .ref mv, .ref xr, .int 0, .int (-1)])), (xr, .inl (cI, 8, .inl (fun _ => 0))), (j0, .inr (0, [.ref z0, .ref jp, .ref jc, .int 0, .int 0, .int 0, .int 60, .int 0, .int 1])), (z0, .inr (6, [.ref zl, .ref zs, .int 20, .int 0, .int 3])), (zl, .inl (cZ, 40, .inl (fun _ => 0)))] s.heap.size q := fun q h => Or.inr h
  have hS : va_S (va_A [(x0, .inr (7, [.ref xs, .ref j0, .ref k0, .ref w0, .ref rd, .ref mv, .ref xr, .int 0, .int (-1)])), (xr, .inl (cI, 8, .inl (fun _ => 0))), (j0, .inr (0, [.ref z0, .ref jp, .ref jc, .int 0, .int 0, .int 0, .int 60, .int 0, .int 1])), (z0, .inr (6, [.ref zl, .ref zs, .int 20, .int 0, .int 3])), (zl, .inl (cZ, 40, .inl (fun _ => 0)))] s.heap.size) s.heap s.heap [] := va_S.rf
  replace hP : va_P D vwCl _ s.heap := hP
  have hl := lv_entry ([.ref x0, .int w]) (n := 2) (Nat.le_of_ble_eq_true rfl)
  rw [lg_entry_eq]
  generalize (lg_sl ([.ref x0, .int w]) ++ List.replicate (2 - (lg_sl ([.ref x0, .int w])).length) Slot.unset).toArray = ls at hl ⊢
  replace hl : lv_has ls 2 [(0, .ref x0), (1, .int w)] := hl
  refine zw_start (fun H locs hH hL => ?_)
  replace hP : va_P D vwCl [(x0, .inr (7, [.ref xs, .ref j0, .ref k0, .ref w0, .ref rd, .ref mv, .ref xr, .int 0, .int (-1)])), (xr, .inl (cI, 8, .inl (fun _ => 0))), (j0, .inr (0, [.ref z0, .ref jp, .ref jc, .int 0, .int 0, .int 0, .int 60, .int 0, .int 1])), (z0, .inr (6, [.ref zl, .ref zs, .int 20, .int 0, .int 3])), (zl, .inl (cZ, 40, .inl (fun _ => 0)))] H := by rw [hH]; exact hP
  replace hS : va_S (va_A [(x0, .inr (7, [.ref xs, .ref j0, .ref k0, .ref w0, .ref rd, .ref mv, .ref xr, .int 0, .int (-1)])), (xr, .inl (cI, 8, .inl (fun _ => 0))), (j0, .inr (0, [.ref z0, .ref jp, .ref jc, .int 0, .int 0, .int 0, .int 60, .int 0, .int 1])), (z0, .inr (6, [.ref zl, .ref zs, .int 20, .int 0, .int 3])), (zl, .inl (cZ, 40, .inl (fun _ => 0)))] s.heap.size) s.heap H locs := by rw [hH, hL]; exact hS
  clear hH hL
  refine lv_iload_n hx hb dX7_strong_0 rfl (lv_at hl 1 rfl) ?_
  by_cases hsp : w.toInt < 0 ∨ 3 < w.toInt
  · refine lv_tableOut (tgt := 84) hx hb dX7_strong_1 hsp (by decide) ?_
    refine lv_aload_n hx hb dX7_strong_84 rfl (lv_at hl 0 rfl) ?_
    refine lv_iconst (v := 5) hx hb dX7_strong_85 (by decide) ?_
    skip
    refine zw_V (As := [.int 5]) (rest := []) (wr := []) ⟨hx, hb, hml, hown, hts⟩ (c_refuse_5 l D cI cJ cZ cP cS x0 xs j0 k0 w0 rd mv xr  H.size) (cwV 1 hts gX7_strong_X7_refuse rfl rfl rfl (by decide +kernel) ⟨Nat.le_of_ble_eq_true rfl, Nat.le_of_ble_eq_true rfl⟩) hK hN (hZ.kept hS) hP hD hS hA [0, 1] [] rfl rfl (by decide) (by decide) (by decide) (va_recv hK hP (ci := 7) (q0 := 0) rfl rfl) rfl hl.1 rfl (Nat.le_of_ble_eq_true rfl) dX7_strong_86 ⟨Nat.le_of_ble_eq_true rfl, Nat.le_of_ble_eq_true rfl⟩ (fun r_1 u_2 H locs hr_1 hP hD hS => ?_)
    obtain rfl := hr_1
    exact W.iret (v := (-5)) hx hb hr (fun t ht hW => ⟨⟨(-5), (), rfl, Or.inl (⟨rfl, (by first | omega | decide)⟩), zP_nil, zD_nil⟩, hS.F ht⟩) hS.2.2 dX7_strong_89
  · have hsp : w = 0 ∨ w = 1 ∨ w = 2 ∨ w = 3 := by
      rcases (show w.toInt = 0 ∨ w.toInt = 1 ∨ w.toInt = 2 ∨ w.toInt = 3 by omega) with h9 | h9 | h9 | h9
      · refine Or.inl ?_; exact zf_val h9 (by decide)
      · refine Or.inr (Or.inl ?_); exact zf_val h9 (by decide)
      · refine Or.inr (Or.inr (Or.inl ?_)); exact zf_val h9 (by decide)
      · refine Or.inr (Or.inr (Or.inr (?_))); exact zf_val h9 (by decide)
    rcases hsp with rfl | rfl | rfl | rfl
    · refine lv_tableIn (tgt := 32) hx hb dX7_strong_1 (by decide) (by decide) rfl (by decide) ?_
      refine lv_aload_n hx hb dX7_strong_32 rfl (lv_at hl 0 rfl) ?_
      refine va_get (D := D) (ci := 7) (v := .ref j0) (C := RX7) (T := TX7) (N := 9) hx hb hts hi_X7_strong_7 hown hK hP 0 rfl rfl 1 (by decide) (hts (.fieldLink RX7 18 "TheLiningsInIt" "now" "LTheLiningsInIt$Jacket;") (List.mem_of_getElem? (i := 1) rfl)) (fun _ h9 => h9) rfl dX7_strong_33 ?_
      refine va_get (D := D) (ci := 0) (v := .ref z0) (C := RX0) (T := TX0) (N := 9) hx hb hts hi_X7_strong_0 hown hK hP 2 rfl rfl 0 (by decide) (hts (.fieldLink RX7 140 "TheLiningsInIt$Jacket" "zip" "LTheLiningsInIt$Zip;") (List.mem_of_getElem? (i := 2) rfl)) (fun _ h9 => h9) rfl dX7_strong_36 ?_
      refine zc_V (As := []) (rest := []) ⟨hx, hb, hml, hown, hts⟩ (c_Zip_isStrong l D cI cJ cZ cP cS z0 zl zs ) (cwV 0 hts gX7_strong_X6_isStrong rfl rfl rfl (by decide +kernel) ⟨Nat.le_of_ble_eq_true rfl, Nat.le_of_ble_eq_true rfl⟩) hK hN (hZ.kept hS) hP [3, 4] rfl (va_recv hK hP (ci := 6) (q0 := 3) rfl rfl) rfl hl.1 rfl (Nat.le_of_ble_eq_true rfl) dX7_strong_39 ⟨Nat.le_of_ble_eq_true rfl, Nat.le_of_ble_eq_true rfl⟩ (fun r_3 hr_3 => ?_)
      obtain rfl := hr_3
      refine lv_if_eq (tgt := 49) hx hb dX7_strong_42 (by decide) (fun c_4 => ?_) (fun c_4 => ?_)
      · exact absurd c_4 (by decide)
      · refine lv_iconst (v := 1) hx hb dX7_strong_45 (by decide) ?_
        refine lv_goto (tgt := 50) hx hb dX7_strong_46 (by decide) ?_
        exact W.iret (v := 1) hx hb hr (fun t ht hW => ⟨⟨1, (), rfl, Or.inr (Or.inl (⟨rfl, (by first | omega | decide)⟩)), zP_nil, zD_nil⟩, hS.F ht⟩) hS.2.2 dX7_strong_50
    · refine lv_tableIn (tgt := 51) hx hb dX7_strong_1 (by decide) (by decide) rfl (by decide) ?_
      refine lv_aload_n hx hb dX7_strong_51 rfl (lv_at hl 0 rfl) ?_
      refine va_get (D := D) (ci := 7) (v := .ref j0) (C := RX7) (T := TX7) (N := 9) hx hb hts hi_X7_strong_7 hown hK hP 0 rfl rfl 1 (by decide) (hts (.fieldLink RX7 18 "TheLiningsInIt" "now" "LTheLiningsInIt$Jacket;") (List.mem_of_getElem? (i := 1) rfl)) (fun _ h9 => h9) rfl dX7_strong_52 ?_
      refine va_get (D := D) (ci := 0) (v := .ref z0) (C := RX0) (T := TX0) (N := 9) hx hb hts hi_X7_strong_0 hown hK hP 2 rfl rfl 0 (by decide) (hts (.fieldLink RX7 140 "TheLiningsInIt$Jacket" "zip" "LTheLiningsInIt$Zip;") (List.mem_of_getElem? (i := 2) rfl)) (fun _ h9 => h9) rfl dX7_strong_55 ?_
      refine zc_V (As := []) (rest := []) ⟨hx, hb, hml, hown, hts⟩ (c_Zip_frailTeeth l D cI cJ cZ cP cS z0 zl zs ) (cwV 0 hts gX7_strong_X6_frailTeeth rfl rfl rfl (by decide +kernel) ⟨Nat.le_of_ble_eq_true rfl, Nat.le_of_ble_eq_true rfl⟩) hK hN (hZ.kept hS) hP [3, 4] rfl (va_recv hK hP (ci := 6) (q0 := 3) rfl rfl) rfl hl.1 rfl (Nat.le_of_ble_eq_true rfl) dX7_strong_58 ⟨Nat.le_of_ble_eq_true rfl, Nat.le_of_ble_eq_true rfl⟩ (fun r_5 hr_5 => ?_)
      obtain rfl := hr_5
      exact W.iret (v := 0) hx hb hr (fun t ht hW => ⟨⟨0, (), rfl, Or.inr (Or.inr (Or.inl (⟨rfl, (by first | omega | decide)⟩))), zP_nil, zD_nil⟩, hS.F ht⟩) hS.2.2 dX7_strong_61
    · refine lv_tableIn (tgt := 62) hx hb dX7_strong_1 (by decide) (by decide) rfl (by decide) ?_
      refine lv_aload_n hx hb dX7_strong_62 rfl (lv_at hl 0 rfl) ?_
      refine va_get (D := D) (ci := 7) (v := .ref j0) (C := RX7) (T := TX7) (N := 9) hx hb hts hi_X7_strong_7 hown hK hP 0 rfl rfl 1 (by decide) (hts (.fieldLink RX7 18 "TheLiningsInIt" "now" "LTheLiningsInIt$Jacket;") (List.mem_of_getElem? (i := 1) rfl)) (fun _ h9 => h9) rfl dX7_strong_63 ?_
      refine va_get (D := D) (ci := 0) (v := .ref z0) (C := RX0) (T := TX0) (N := 9) hx hb hts hi_X7_strong_0 hown hK hP 2 rfl rfl 0 (by decide) (hts (.fieldLink RX7 140 "TheLiningsInIt$Jacket" "zip" "LTheLiningsInIt$Zip;") (List.mem_of_getElem? (i := 2) rfl)) (fun _ h9 => h9) rfl dX7_strong_66 ?_
      refine zc_V (As := []) (rest := []) ⟨hx, hb, hml, hown, hts⟩ (c_Zip_spareTeeth l D cI cJ cZ cP cS z0 zl zs ) (cwV 0 hts gX7_strong_X6_spareTeeth rfl rfl rfl (by decide +kernel) ⟨Nat.le_of_ble_eq_true rfl, Nat.le_of_ble_eq_true rfl⟩) hK hN (hZ.kept hS) hP [3, 4] rfl (va_recv hK hP (ci := 6) (q0 := 3) rfl rfl) rfl hl.1 rfl (Nat.le_of_ble_eq_true rfl) dX7_strong_69 ⟨Nat.le_of_ble_eq_true rfl, Nat.le_of_ble_eq_true rfl⟩ (fun r_6 hr_6 => ?_)
      obtain rfl := hr_6
      exact W.iret (v := 14) hx hb hr (fun t ht hW => ⟨⟨14, (), rfl, Or.inr (Or.inr (Or.inr (Or.inl (⟨rfl, (by first | omega | decide)⟩)))), zP_nil, zD_nil⟩, hS.F ht⟩) hS.2.2 dX7_strong_72
    · refine lv_tableIn (tgt := 73) hx hb dX7_strong_1 (by decide) (by decide) rfl (by decide) ?_
      refine lv_aload_n hx hb dX7_strong_73 rfl (lv_at hl 0 rfl) ?_
      refine va_get (D := D) (ci := 7) (v := .ref j0) (C := RX7) (T := TX7) (N := 9) hx hb hts hi_X7_strong_7 hown hK hP 0 rfl rfl 1 (by decide) (hts (.fieldLink RX7 18 "TheLiningsInIt" "now" "LTheLiningsInIt$Jacket;") (List.mem_of_getElem? (i := 1) rfl)) (fun _ h9 => h9) rfl dX7_strong_74 ?_
      refine va_get (D := D) (ci := 0) (v := .ref z0) (C := RX0) (T := TX0) (N := 9) hx hb hts hi_X7_strong_0 hown hK hP 2 rfl rfl 0 (by decide) (hts (.fieldLink RX7 140 "TheLiningsInIt$Jacket" "zip" "LTheLiningsInIt$Zip;") (List.mem_of_getElem? (i := 2) rfl)) (fun _ h9 => h9) rfl dX7_strong_77 ?_
      refine zc_V (As := []) (rest := []) ⟨hx, hb, hml, hown, hts⟩ (c_Zip_lackingTeeth l D cI cJ cZ cP cS z0 zl zs ) (cwV 0 hts gX7_strong_X6_lackingTeeth rfl rfl rfl (by decide +kernel) ⟨Nat.le_of_ble_eq_true rfl, Nat.le_of_ble_eq_true rfl⟩) hK hN (hZ.kept hS) hP [3, 4] rfl (va_recv hK hP (ci := 6) (q0 := 3) rfl rfl) rfl hl.1 rfl (Nat.le_of_ble_eq_true rfl) dX7_strong_80 ⟨Nat.le_of_ble_eq_true rfl, Nat.le_of_ble_eq_true rfl⟩ (fun r_7 hr_7 => ?_)
      obtain rfl := hr_7
      exact W.iret (v := 0) hx hb hr (fun t ht hW => ⟨⟨0, (), rfl, Or.inr (Or.inr (Or.inr (Or.inr (⟨rfl, (by first | omega | decide)⟩)))), zP_nil, zD_nil⟩, hS.F ht⟩) hS.2.2 dX7_strong_83
theorem hi_X7_catches_7 : ∀ w ∈ u_ws RX7 TX7 9, w ∈ wsX7_catches := by decide +kernel
theorem hi_X7_catches_0 : ∀ w ∈ u_ws RX0 TX0 9, w ∈ wsX7_catches := by decide +kernel
set_option maxHeartbeats 4000000 in
set_option maxRecDepth 100000 in
theorem c_catches (l : Launch) (D : va_G) (cI cJ cZ cP cS : ClassId) (x0 xs j0 k0 w0 rd mv xr : Nat) (jp jc z0 zl zs : Nat) (i : Int32)  (sz : Nat) : Met l yX7_catches wsX7_catches ({ frames := 3, cells := 0, slots := 0, locals := 65 }) (va_Pc [.ref x0, .int i] (zW D (zKT cI cJ cZ cP cS) [(x0, .inr (7, [.ref xs, .ref j0, .ref k0, .ref w0, .ref rd, .ref mv, .ref xr, .int 0, .int (-1)])), (xr, .inl (cI, 8, .inl (fun _ => 0))), (j0, .inr (0, [.ref z0, .ref jp, .ref jc, .int 0, .int 0, .int 0, .int 60, .int 0, .int 1])), (z0, .inr (6, [.ref zl, .ref zs, .int 20, .int 0, .int 3])), (zl, .inl (cZ, 40, .inl (fun _ => 0))), (zs, .inl (cI, 40, .inl (fun _ => 0)))] sz)) (va_Qi (fun (r : Int32) (_ : Unit) => (r = (-5) ∧ i.toInt ≠ (-1)) ∨ (r = 0 ∧ i.toInt = (-1))) (zB D [(x0, .inr (7, [.ref xs, .ref j0, .ref k0, .ref w0, .ref rd, .ref mv, .ref xr, .int 0, .int (-1)])), (xr, .inl (cI, 8, .inl (fun _ => 0))), (j0, .inr (0, [.ref z0, .ref jp, .ref jc, .int 0, .int 0, .int 0, .int 60, .int 0, .int 1])), (z0, .inr (6, [.ref zl, .ref zs, .int 20, .int 0, .int 3])), (zl, .inl (cZ, 40, .inl (fun _ => 0))), (zs, .inl (cI, 40, .inl (fun _ => 0)))] sz (fun (_ : Unit) => ([] : va_W))) (va_A [(x0, .inr (7, [.ref xs, .ref j0, .ref k0, .ref w0, .ref rd, .ref mv, .ref xr, .int 0, .int (-1)])), (xr, .inl (cI, 8, .inl (fun _ => 0))), (j0, .inr (0, [.ref z0, .ref jp, .ref jc, .int 0, .int 0, .int 0, .int 60, .int 0, .int 1])), (z0, .inr (6, [.ref zl, .ref zs, .int 20, .int 0, .int 3])), (zl, .inl (cZ, 40, .inl (fun _ => 0))), (zs, .inl (cI, 40, .inl (fun _ => 0)))] sz)) 0 0 (va_A [(x0, .inr (7, [.ref xs, .ref j0, .ref k0, .ref w0, .ref rd, .ref mv, .ref xr, .int 0, .int (-1)])), (xr, .inl (cI, 8, .inl (fun _ => 0))), (j0, .inr (0, [.ref z0, .ref jp, .ref jc, .int 0, .int 0, .int 0, .int 60, .int 0, .int 1])), (z0, .inr (6, [.ref zl, .ref zs, .int 20, .int 0, .int 3])), (zl, .inl (cZ, 40, .inl (fun _ => 0))), (zs, .inl (cI, 40, .inl (fun _ => 0)))] sz) := by
  refine Met.ofW (cc := cX7_catches) (maxL := 3) (ret := (some .int)) (by decide) rfl ?_
  intro p e s m args below meth c s₁ B hml hv
  obtain ⟨rfl, hsz, hP, hK, hD0, hN, hZ⟩ := hv
  have hx := B.exec
  have hb := B.bytes
  have hr := B.returns
  have hts := atoms_spec (ws := wsX7_catches) B.pre
  have hown : s.vm.findClass RX7 = some m.cls := findClass_of_methodNamed B.named
  have hlocks := B.notSynchronized
  subst hsz
  have hD := hD0.self (sz := s.heap.size)
  have hA : ∀ q : Nat, s.heap.size ≤ q → va_A [(x0, .inr (7, [.ref xs, .ref j0, .ref k0, .ref w0, .ref rd, .ref mv, .ref xr, .int 0, .int (-1)])), (xr, .inl (cI, 8, .inl (fun _ => 0))), (j0, .inr (0, [.ref z0, .ref jp, .ref jc, .int 0, .int 0, .int 0, .int 60, .int 0, .int 1])), (z0, .inr (6, [.ref zl, .ref zs, .int 20, .int 0, .int 3])), (zl, .inl (cZ, 40, .inl (fun _ => 0))), (zs, .inl (cI, 40, .inl (fun _ => 0)))] s.heap.size q := fun q h => Or.inr h
  have hS : va_S (va_A [(x0, .inr (7, [.ref xs, .ref j0, .ref k0, .ref w0, .ref rd, .ref mv, .ref xr, .int 0, .int (-1)])), (xr, .inl (cI, 8, .inl (fun _ => 0))), (j0, .inr (0, [.ref z0, .ref jp, .ref jc, .int 0, .int 0, .int 0, .int 60, .int 0, .int 1])), (z0, .inr (6, [.ref zl, .ref zs, .int 20, .int 0, .int 3])), (zl, .inl (cZ, 40, .inl (fun _ => 0))), (zs, .inl (cI, 40, .inl (fun _ => 0)))] s.heap.size) s.heap s.heap [] := va_S.rf
  replace hP : va_P D vwCl _ s.heap := hP
  have hl := lv_entry ([.ref x0, .int i]) (n := 3) (Nat.le_of_ble_eq_true rfl)
  rw [lg_entry_eq]
  generalize (lg_sl ([.ref x0, .int i]) ++ List.replicate (3 - (lg_sl ([.ref x0, .int i])).length) Slot.unset).toArray = ls at hl ⊢
  replace hl : lv_has ls 3 [(0, .ref x0), (1, .int i)] := hl
  refine zw_start (fun H locs hH hL => ?_)
  replace hP : va_P D vwCl [(x0, .inr (7, [.ref xs, .ref j0, .ref k0, .ref w0, .ref rd, .ref mv, .ref xr, .int 0, .int (-1)])), (xr, .inl (cI, 8, .inl (fun _ => 0))), (j0, .inr (0, [.ref z0, .ref jp, .ref jc, .int 0, .int 0, .int 0, .int 60, .int 0, .int 1])), (z0, .inr (6, [.ref zl, .ref zs, .int 20, .int 0, .int 3])), (zl, .inl (cZ, 40, .inl (fun _ => 0))), (zs, .inl (cI, 40, .inl (fun _ => 0)))] H := by rw [hH]; exact hP
  replace hS : va_S (va_A [(x0, .inr (7, [.ref xs, .ref j0, .ref k0, .ref w0, .ref rd, .ref mv, .ref xr, .int 0, .int (-1)])), (xr, .inl (cI, 8, .inl (fun _ => 0))), (j0, .inr (0, [.ref z0, .ref jp, .ref jc, .int 0, .int 0, .int 0, .int 60, .int 0, .int 1])), (z0, .inr (6, [.ref zl, .ref zs, .int 20, .int 0, .int 3])), (zl, .inl (cZ, 40, .inl (fun _ => 0))), (zs, .inl (cI, 40, .inl (fun _ => 0)))] s.heap.size) s.heap H locs := by rw [hH, hL]; exact hS
  clear hH hL
  refine lv_aload_n hx hb dX7_catches_0 rfl (lv_at hl 0 rfl) ?_
  refine va_get (D := D) (ci := 7) (v := .ref j0) (C := RX7) (T := TX7) (N := 9) hx hb hts hi_X7_catches_7 hown hK hP 0 rfl rfl 1 (by decide) (hts (.fieldLink RX7 18 "TheLiningsInIt" "now" "LTheLiningsInIt$Jacket;") (List.mem_of_getElem? (i := 1) rfl)) (fun _ h9 => h9) rfl dX7_catches_1 ?_
  refine va_get (D := D) (ci := 0) (v := .ref z0) (C := RX0) (T := TX0) (N := 9) hx hb hts hi_X7_catches_0 hown hK hP 2 rfl rfl 0 (by decide) (hts (.fieldLink RX7 140 "TheLiningsInIt$Jacket" "zip" "LTheLiningsInIt$Zip;") (List.mem_of_getElem? (i := 2) rfl)) (fun _ h9 => h9) rfl dX7_catches_4 ?_
  refine lv_iload_n hx hb dX7_catches_7 rfl (lv_at hl 1 rfl) ?_
  refine zc_V (As := [.int i]) (rest := []) ⟨hx, hb, hml, hown, hts⟩ (c_Zip_catchingTeeth l D cI cJ cZ cP cS z0 zl zs (i) ) (cwV 1 hts gX7_catches_X6_catchingTeeth rfl rfl rfl (by decide +kernel) ⟨Nat.le_of_ble_eq_true rfl, Nat.le_of_ble_eq_true rfl⟩) hK hN (hZ.kept hS) hP [3, 4, 5] rfl (va_recv hK hP (ci := 6) (q0 := 3) rfl rfl) rfl hl.1 rfl (Nat.le_of_ble_eq_true rfl) dX7_catches_8 ⟨Nat.le_of_ble_eq_true rfl, Nat.le_of_ble_eq_true rfl⟩ (fun r_1 hr_1 => ?_)
  rcases hr_1 with ⟨rfl, g_2⟩ | ⟨rfl, g_3⟩
  · refine lv_istore_n (lv' := [(2, .int (-1)), (0, .ref x0), (1, .int i)]) hx hb dX7_catches_11 rfl hl (by decide) rfl (fun ls hl => ?_)
    refine lv_iload_n hx hb dX7_catches_12 rfl (lv_at hl 0 rfl) ?_
    refine lv_iconst (v := (-1)) hx hb dX7_catches_13 (by decide) ?_
    refine lv_icmp_ne (tgt := 25) hx hb dX7_catches_14 (by decide) (fun c_4 => ?_) (fun c_4 => ?_)
    · exact absurd c_4 (by decide)
    · refine lv_aload_n hx hb dX7_catches_17 rfl (lv_at hl 1 rfl) ?_
      refine lv_iconst (v := 5) hx hb dX7_catches_18 (by decide) ?_
      skip
      refine zw_V (As := [.int 5]) (rest := []) (wr := []) ⟨hx, hb, hml, hown, hts⟩ (c_refuse_5 l D cI cJ cZ cP cS x0 xs j0 k0 w0 rd mv xr  H.size) (cwV 1 hts gX7_catches_X7_refuse rfl rfl rfl (by decide +kernel) ⟨Nat.le_of_ble_eq_true rfl, Nat.le_of_ble_eq_true rfl⟩) hK hN (hZ.kept hS) hP hD hS hA [0, 1] [] rfl rfl (by decide) (by decide) (by decide) (va_recv hK hP (ci := 7) (q0 := 0) rfl rfl) rfl hl.1 rfl (Nat.le_of_ble_eq_true rfl) dX7_catches_19 ⟨Nat.le_of_ble_eq_true rfl, Nat.le_of_ble_eq_true rfl⟩ (fun r_5 u_6 H locs hr_5 hP hD hS => ?_)
      obtain rfl := hr_5
      refine lv_goto (tgt := 26) hx hb dX7_catches_22 (by decide) ?_
      exact W.iret (v := (-5)) hx hb hr (fun t ht hW => ⟨⟨(-5), (), rfl, Or.inl (⟨rfl, (by first | omega | decide)⟩), zP_nil, zD_nil⟩, hS.F ht⟩) hS.2.2 dX7_catches_26
  · refine lv_istore_n (lv' := [(2, .int 0), (0, .ref x0), (1, .int i)]) hx hb dX7_catches_11 rfl hl (by decide) rfl (fun ls hl => ?_)
    refine lv_iload_n hx hb dX7_catches_12 rfl (lv_at hl 0 rfl) ?_
    refine lv_iconst (v := (-1)) hx hb dX7_catches_13 (by decide) ?_
    refine lv_icmp_ne (tgt := 25) hx hb dX7_catches_14 (by decide) (fun c_7 => ?_) (fun c_7 => ?_)
    · refine lv_iload_n hx hb dX7_catches_25 rfl (lv_at hl 0 rfl) ?_
      exact W.iret (v := 0) hx hb hr (fun t ht hW => ⟨⟨0, (), rfl, Or.inr (⟨rfl, (by first | omega | decide)⟩), zP_nil, zD_nil⟩, hS.F ht⟩) hS.2.2 dX7_catches_26
    · exact absurd c_7 (by decide)
theorem hi_X7_stitches_7 : ∀ w ∈ u_ws RX7 TX7 9, w ∈ wsX7_stitches := by decide +kernel
theorem hi_X7_stitches_0 : ∀ w ∈ u_ws RX0 TX0 9, w ∈ wsX7_stitches := by decide +kernel
set_option maxHeartbeats 4000000 in
set_option maxRecDepth 100000 in
theorem c_stitches (l : Launch) (D : va_G) (cI cJ cZ cP cS : ClassId) (x0 xs j0 k0 w0 rd mv xr : Nat) (jp jc z0 zl zs : Nat) (i : Int32)  (sz : Nat) : Met l yX7_stitches wsX7_stitches ({ frames := 3, cells := 0, slots := 0, locals := 67 }) (va_Pc [.ref x0, .int i] (zW D (zKT cI cJ cZ cP cS) [(x0, .inr (7, [.ref xs, .ref j0, .ref k0, .ref w0, .ref rd, .ref mv, .ref xr, .int 0, .int (-1)])), (xr, .inl (cI, 8, .inl (fun _ => 0))), (j0, .inr (0, [.ref z0, .ref jp, .ref jc, .int 0, .int 0, .int 0, .int 60, .int 0, .int 1])), (z0, .inr (6, [.ref zl, .ref zs, .int 20, .int 0, .int 3])), (zl, .inl (cZ, 40, .inl (fun _ => 0))), (zs, .inl (cI, 40, .inl (fun _ => 0)))] sz)) (va_Qi (fun (r : Int32) (_ : Unit) => (r = (-5) ∧ i.toInt ≠ (-1)) ∨ (r = 0 ∧ i.toInt = (-1))) (zB D [(x0, .inr (7, [.ref xs, .ref j0, .ref k0, .ref w0, .ref rd, .ref mv, .ref xr, .int 0, .int (-1)])), (xr, .inl (cI, 8, .inl (fun _ => 0))), (j0, .inr (0, [.ref z0, .ref jp, .ref jc, .int 0, .int 0, .int 0, .int 60, .int 0, .int 1])), (z0, .inr (6, [.ref zl, .ref zs, .int 20, .int 0, .int 3])), (zl, .inl (cZ, 40, .inl (fun _ => 0))), (zs, .inl (cI, 40, .inl (fun _ => 0)))] sz (fun (_ : Unit) => ([] : va_W))) (va_A [(x0, .inr (7, [.ref xs, .ref j0, .ref k0, .ref w0, .ref rd, .ref mv, .ref xr, .int 0, .int (-1)])), (xr, .inl (cI, 8, .inl (fun _ => 0))), (j0, .inr (0, [.ref z0, .ref jp, .ref jc, .int 0, .int 0, .int 0, .int 60, .int 0, .int 1])), (z0, .inr (6, [.ref zl, .ref zs, .int 20, .int 0, .int 3])), (zl, .inl (cZ, 40, .inl (fun _ => 0))), (zs, .inl (cI, 40, .inl (fun _ => 0)))] sz)) 0 0 (va_A [(x0, .inr (7, [.ref xs, .ref j0, .ref k0, .ref w0, .ref rd, .ref mv, .ref xr, .int 0, .int (-1)])), (xr, .inl (cI, 8, .inl (fun _ => 0))), (j0, .inr (0, [.ref z0, .ref jp, .ref jc, .int 0, .int 0, .int 0, .int 60, .int 0, .int 1])), (z0, .inr (6, [.ref zl, .ref zs, .int 20, .int 0, .int 3])), (zl, .inl (cZ, 40, .inl (fun _ => 0))), (zs, .inl (cI, 40, .inl (fun _ => 0)))] sz) := by
  refine Met.ofW (cc := cX7_stitches) (maxL := 3) (ret := (some .int)) (by decide) rfl ?_
  intro p e s m args below meth c s₁ B hml hv
  obtain ⟨rfl, hsz, hP, hK, hD0, hN, hZ⟩ := hv
  have hx := B.exec
  have hb := B.bytes
  have hr := B.returns
  have hts := atoms_spec (ws := wsX7_stitches) B.pre
  have hown : s.vm.findClass RX7 = some m.cls := findClass_of_methodNamed B.named
  have hlocks := B.notSynchronized
  subst hsz
  have hD := hD0.self (sz := s.heap.size)
  have hA : ∀ q : Nat, s.heap.size ≤ q → va_A [(x0, .inr (7, [.ref xs, .ref j0, .ref k0, .ref w0, .ref rd, .ref mv, .ref xr, .int 0, .int (-1)])), (xr, .inl (cI, 8, .inl (fun _ => 0))), (j0, .inr (0, [.ref z0, .ref jp, .ref jc, .int 0, .int 0, .int 0, .int 60, .int 0, .int 1])), (z0, .inr (6, [.ref zl, .ref zs, .int 20, .int 0, .int 3])), (zl, .inl (cZ, 40, .inl (fun _ => 0))), (zs, .inl (cI, 40, .inl (fun _ => 0)))] s.heap.size q := fun q h => Or.inr h
  have hS : va_S (va_A [(x0, .inr (7, [.ref xs, .ref j0, .ref k0, .ref w0, .ref rd, .ref mv, .ref xr, .int 0, .int (-1)])), (xr, .inl (cI, 8, .inl (fun _ => 0))), (j0, .inr (0, [.ref z0, .ref jp, .ref jc, .int 0, .int 0, .int 0, .int 60, .int 0, .int 1])), (z0, .inr (6, [.ref zl, .ref zs, .int 20, .int 0, .int 3])), (zl, .inl (cZ, 40, .inl (fun _ => 0))), (zs, .inl (cI, 40, .inl (fun _ => 0)))] s.heap.size) s.heap s.heap [] := va_S.rf
  replace hP : va_P D vwCl _ s.heap := hP
  have hl := lv_entry ([.ref x0, .int i]) (n := 3) (Nat.le_of_ble_eq_true rfl)
  rw [lg_entry_eq]
  generalize (lg_sl ([.ref x0, .int i]) ++ List.replicate (3 - (lg_sl ([.ref x0, .int i])).length) Slot.unset).toArray = ls at hl ⊢
  replace hl : lv_has ls 3 [(0, .ref x0), (1, .int i)] := hl
  refine zw_start (fun H locs hH hL => ?_)
  replace hP : va_P D vwCl [(x0, .inr (7, [.ref xs, .ref j0, .ref k0, .ref w0, .ref rd, .ref mv, .ref xr, .int 0, .int (-1)])), (xr, .inl (cI, 8, .inl (fun _ => 0))), (j0, .inr (0, [.ref z0, .ref jp, .ref jc, .int 0, .int 0, .int 0, .int 60, .int 0, .int 1])), (z0, .inr (6, [.ref zl, .ref zs, .int 20, .int 0, .int 3])), (zl, .inl (cZ, 40, .inl (fun _ => 0))), (zs, .inl (cI, 40, .inl (fun _ => 0)))] H := by rw [hH]; exact hP
  replace hS : va_S (va_A [(x0, .inr (7, [.ref xs, .ref j0, .ref k0, .ref w0, .ref rd, .ref mv, .ref xr, .int 0, .int (-1)])), (xr, .inl (cI, 8, .inl (fun _ => 0))), (j0, .inr (0, [.ref z0, .ref jp, .ref jc, .int 0, .int 0, .int 0, .int 60, .int 0, .int 1])), (z0, .inr (6, [.ref zl, .ref zs, .int 20, .int 0, .int 3])), (zl, .inl (cZ, 40, .inl (fun _ => 0))), (zs, .inl (cI, 40, .inl (fun _ => 0)))] s.heap.size) s.heap H locs := by rw [hH, hL]; exact hS
  clear hH hL
  refine lv_aload_n hx hb dX7_stitches_0 rfl (lv_at hl 0 rfl) ?_
  refine va_get (D := D) (ci := 7) (v := .ref j0) (C := RX7) (T := TX7) (N := 9) hx hb hts hi_X7_stitches_7 hown hK hP 0 rfl rfl 1 (by decide) (hts (.fieldLink RX7 18 "TheLiningsInIt" "now" "LTheLiningsInIt$Jacket;") (List.mem_of_getElem? (i := 1) rfl)) (fun _ h9 => h9) rfl dX7_stitches_1 ?_
  refine va_get (D := D) (ci := 0) (v := .ref z0) (C := RX0) (T := TX0) (N := 9) hx hb hts hi_X7_stitches_0 hown hK hP 2 rfl rfl 0 (by decide) (hts (.fieldLink RX7 140 "TheLiningsInIt$Jacket" "zip" "LTheLiningsInIt$Zip;") (List.mem_of_getElem? (i := 2) rfl)) (fun _ h9 => h9) rfl dX7_stitches_4 ?_
  refine lv_iload_n hx hb dX7_stitches_7 rfl (lv_at hl 1 rfl) ?_
  refine zc_V (As := [.int i]) (rest := []) ⟨hx, hb, hml, hown, hts⟩ (c_Zip_stitchesNeeded l D cI cJ cZ cP cS z0 zl zs (i) ) (cwV 1 hts gX7_stitches_X6_stitchesNeeded rfl rfl rfl (by decide +kernel) ⟨Nat.le_of_ble_eq_true rfl, Nat.le_of_ble_eq_true rfl⟩) hK hN (hZ.kept hS) hP [3, 4, 5] rfl (va_recv hK hP (ci := 6) (q0 := 3) rfl rfl) rfl hl.1 rfl (Nat.le_of_ble_eq_true rfl) dX7_stitches_8 ⟨Nat.le_of_ble_eq_true rfl, Nat.le_of_ble_eq_true rfl⟩ (fun r_1 hr_1 => ?_)
  rcases hr_1 with ⟨rfl, g_2⟩ | ⟨rfl, g_3⟩
  · refine lv_istore_n (lv' := [(2, .int (-1)), (0, .ref x0), (1, .int i)]) hx hb dX7_stitches_11 rfl hl (by decide) rfl (fun ls hl => ?_)
    refine lv_iload_n hx hb dX7_stitches_12 rfl (lv_at hl 0 rfl) ?_
    refine lv_iconst (v := (-1)) hx hb dX7_stitches_13 (by decide) ?_
    refine lv_icmp_ne (tgt := 25) hx hb dX7_stitches_14 (by decide) (fun c_4 => ?_) (fun c_4 => ?_)
    · exact absurd c_4 (by decide)
    · refine lv_aload_n hx hb dX7_stitches_17 rfl (lv_at hl 1 rfl) ?_
      refine lv_iconst (v := 5) hx hb dX7_stitches_18 (by decide) ?_
      skip
      refine zw_V (As := [.int 5]) (rest := []) (wr := []) ⟨hx, hb, hml, hown, hts⟩ (c_refuse_5 l D cI cJ cZ cP cS x0 xs j0 k0 w0 rd mv xr  H.size) (cwV 1 hts gX7_stitches_X7_refuse rfl rfl rfl (by decide +kernel) ⟨Nat.le_of_ble_eq_true rfl, Nat.le_of_ble_eq_true rfl⟩) hK hN (hZ.kept hS) hP hD hS hA [0, 1] [] rfl rfl (by decide) (by decide) (by decide) (va_recv hK hP (ci := 7) (q0 := 0) rfl rfl) rfl hl.1 rfl (Nat.le_of_ble_eq_true rfl) dX7_stitches_19 ⟨Nat.le_of_ble_eq_true rfl, Nat.le_of_ble_eq_true rfl⟩ (fun r_5 u_6 H locs hr_5 hP hD hS => ?_)
      obtain rfl := hr_5
      refine lv_goto (tgt := 26) hx hb dX7_stitches_22 (by decide) ?_
      exact W.iret (v := (-5)) hx hb hr (fun t ht hW => ⟨⟨(-5), (), rfl, Or.inl (⟨rfl, (by first | omega | decide)⟩), zP_nil, zD_nil⟩, hS.F ht⟩) hS.2.2 dX7_stitches_26
  · refine lv_istore_n (lv' := [(2, .int 0), (0, .ref x0), (1, .int i)]) hx hb dX7_stitches_11 rfl hl (by decide) rfl (fun ls hl => ?_)
    refine lv_iload_n hx hb dX7_stitches_12 rfl (lv_at hl 0 rfl) ?_
    refine lv_iconst (v := (-1)) hx hb dX7_stitches_13 (by decide) ?_
    refine lv_icmp_ne (tgt := 25) hx hb dX7_stitches_14 (by decide) (fun c_7 => ?_) (fun c_7 => ?_)
    · refine lv_iload_n hx hb dX7_stitches_25 rfl (lv_at hl 0 rfl) ?_
      exact W.iret (v := 0) hx hb hr (fun t ht hW => ⟨⟨0, (), rfl, Or.inr (⟨rfl, (by first | omega | decide)⟩), zP_nil, zD_nil⟩, hS.F ht⟩) hS.2.2 dX7_stitches_26
    · exact absurd c_7 (by decide)
set_option maxHeartbeats 4000000 in
set_option maxRecDepth 100000 in
theorem c_judge (l : Launch) (D : va_G) (cI cJ cZ cP cS : ClassId) (x0 xs j0 k0 w0 rd mv xr : Nat)(sh el : Nat → Nat) (jp jc z0 zl zs : Nat) (s_ n : Int32)  (sz : Nat) : Met l yX7_judge wsX7_judge ({ frames := 3, cells := 0, slots := 0, locals := 64 }) (va_Pc [.ref x0, .int s_, .int n] (zW D (zKT cI cJ cZ cP cS) [(x0, .inr (7, [.ref xs, .ref j0, .ref k0, .ref w0, .ref rd, .ref mv, .ref xr, .int 0, .int (-1)])), (xr, .inl (cI, 8, .inl (fun _ => 0))), (xs, .inl (cS, 8, .inr (.inr (.inr (.inr (zS sh)))))), ((sh 0), .inr (4, [.ref (el 0), .int (-1), .int 0])), ((sh 1), .inr (4, [.ref (el 1), .int (-1), .int 0])), ((sh 2), .inr (4, [.ref (el 2), .int (-1), .int 0])), ((sh 3), .inr (4, [.ref (el 3), .int (-1), .int 0])), ((sh 4), .inr (4, [.ref (el 4), .int (-1), .int 0])), ((sh 5), .inr (4, [.ref (el 5), .int (-1), .int 0])), ((sh 6), .inr (4, [.ref (el 6), .int (-1), .int 0])), ((sh 7), .inr (4, [.ref (el 7), .int (-1), .int 0])), (j0, .inr (0, [.ref z0, .ref jp, .ref jc, .int 0, .int 0, .int 0, .int 60, .int 0, .int 1]))] sz)) (va_Qi (fun (r : Int32) (_ : Unit) => (r = (-11) ∧ s_.toInt < 0) ∨ (r = (-11) ∧ 0 ≤ s_.toInt ∧ 7 < s_.toInt) ∨ (r = (-13) ∧ 0 ≤ s_.toInt ∧ s_.toInt ≤ 7)) (zB D [(x0, .inr (7, [.ref xs, .ref j0, .ref k0, .ref w0, .ref rd, .ref mv, .ref xr, .int 0, .int (-1)])), (xr, .inl (cI, 8, .inl (fun _ => 0))), (xs, .inl (cS, 8, .inr (.inr (.inr (.inr (zS sh)))))), ((sh 0), .inr (4, [.ref (el 0), .int (-1), .int 0])), ((sh 1), .inr (4, [.ref (el 1), .int (-1), .int 0])), ((sh 2), .inr (4, [.ref (el 2), .int (-1), .int 0])), ((sh 3), .inr (4, [.ref (el 3), .int (-1), .int 0])), ((sh 4), .inr (4, [.ref (el 4), .int (-1), .int 0])), ((sh 5), .inr (4, [.ref (el 5), .int (-1), .int 0])), ((sh 6), .inr (4, [.ref (el 6), .int (-1), .int 0])), ((sh 7), .inr (4, [.ref (el 7), .int (-1), .int 0])), (j0, .inr (0, [.ref z0, .ref jp, .ref jc, .int 0, .int 0, .int 0, .int 60, .int 0, .int 1]))] sz (fun (_ : Unit) => ([] : va_W))) (va_A [(x0, .inr (7, [.ref xs, .ref j0, .ref k0, .ref w0, .ref rd, .ref mv, .ref xr, .int 0, .int (-1)])), (xr, .inl (cI, 8, .inl (fun _ => 0))), (xs, .inl (cS, 8, .inr (.inr (.inr (.inr (zS sh)))))), ((sh 0), .inr (4, [.ref (el 0), .int (-1), .int 0])), ((sh 1), .inr (4, [.ref (el 1), .int (-1), .int 0])), ((sh 2), .inr (4, [.ref (el 2), .int (-1), .int 0])), ((sh 3), .inr (4, [.ref (el 3), .int (-1), .int 0])), ((sh 4), .inr (4, [.ref (el 4), .int (-1), .int 0])), ((sh 5), .inr (4, [.ref (el 5), .int (-1), .int 0])), ((sh 6), .inr (4, [.ref (el 6), .int (-1), .int 0])), ((sh 7), .inr (4, [.ref (el 7), .int (-1), .int 0])), (j0, .inr (0, [.ref z0, .ref jp, .ref jc, .int 0, .int 0, .int 0, .int 60, .int 0, .int 1]))] sz)) 0 0 (va_A [(x0, .inr (7, [.ref xs, .ref j0, .ref k0, .ref w0, .ref rd, .ref mv, .ref xr, .int 0, .int (-1)])), (xr, .inl (cI, 8, .inl (fun _ => 0))), (xs, .inl (cS, 8, .inr (.inr (.inr (.inr (zS sh)))))), ((sh 0), .inr (4, [.ref (el 0), .int (-1), .int 0])), ((sh 1), .inr (4, [.ref (el 1), .int (-1), .int 0])), ((sh 2), .inr (4, [.ref (el 2), .int (-1), .int 0])), ((sh 3), .inr (4, [.ref (el 3), .int (-1), .int 0])), ((sh 4), .inr (4, [.ref (el 4), .int (-1), .int 0])), ((sh 5), .inr (4, [.ref (el 5), .int (-1), .int 0])), ((sh 6), .inr (4, [.ref (el 6), .int (-1), .int 0])), ((sh 7), .inr (4, [.ref (el 7), .int (-1), .int 0])), (j0, .inr (0, [.ref z0, .ref jp, .ref jc, .int 0, .int 0, .int 0, .int 60, .int 0, .int 1]))] sz) := by
  refine Met.ofW (cc := cX7_judge) (maxL := 5) (ret := (some .int)) (by decide) rfl ?_
  intro p e s m args below meth c s₁ B hml hv
  obtain ⟨rfl, hsz, hP, hK, hD0, hN, hZ⟩ := hv
  have hx := B.exec
  have hb := B.bytes
  have hr := B.returns
  have hts := atoms_spec (ws := wsX7_judge) B.pre
  have hown : s.vm.findClass RX7 = some m.cls := findClass_of_methodNamed B.named
  have hlocks := B.notSynchronized
  subst hsz
  have hD := hD0.self (sz := s.heap.size)
  have hA : ∀ q : Nat, s.heap.size ≤ q → va_A [(x0, .inr (7, [.ref xs, .ref j0, .ref k0, .ref w0, .ref rd, .ref mv, .ref xr, .int 0, .int (-1)])), (xr, .inl (cI, 8, .inl (fun _ => 0))), (xs, .inl (cS, 8, .inr (.inr (.inr (.inr (zS sh)))))), ((sh 0), .inr (4, [.ref (el 0), .int (-1), .int 0])), ((sh 1), .inr (4, [.ref (el 1), .int (-1), .int 0])), ((sh 2), .inr (4, [.ref (el 2), .int (-1), .int 0])), ((sh 3), .inr (4, [.ref (el 3), .int (-1), .int 0])), ((sh 4), .inr (4, [.ref (el 4), .int (-1), .int 0])), ((sh 5), .inr (4, [.ref (el 5), .int (-1), .int 0])), ((sh 6), .inr (4, [.ref (el 6), .int (-1), .int 0])), ((sh 7), .inr (4, [.ref (el 7), .int (-1), .int 0])), (j0, .inr (0, [.ref z0, .ref jp, .ref jc, .int 0, .int 0, .int 0, .int 60, .int 0, .int 1]))] s.heap.size q := fun q h => Or.inr h
  have hS : va_S (va_A [(x0, .inr (7, [.ref xs, .ref j0, .ref k0, .ref w0, .ref rd, .ref mv, .ref xr, .int 0, .int (-1)])), (xr, .inl (cI, 8, .inl (fun _ => 0))), (xs, .inl (cS, 8, .inr (.inr (.inr (.inr (zS sh)))))), ((sh 0), .inr (4, [.ref (el 0), .int (-1), .int 0])), ((sh 1), .inr (4, [.ref (el 1), .int (-1), .int 0])), ((sh 2), .inr (4, [.ref (el 2), .int (-1), .int 0])), ((sh 3), .inr (4, [.ref (el 3), .int (-1), .int 0])), ((sh 4), .inr (4, [.ref (el 4), .int (-1), .int 0])), ((sh 5), .inr (4, [.ref (el 5), .int (-1), .int 0])), ((sh 6), .inr (4, [.ref (el 6), .int (-1), .int 0])), ((sh 7), .inr (4, [.ref (el 7), .int (-1), .int 0])), (j0, .inr (0, [.ref z0, .ref jp, .ref jc, .int 0, .int 0, .int 0, .int 60, .int 0, .int 1]))] s.heap.size) s.heap s.heap [] := va_S.rf
  replace hP : va_P D vwCl _ s.heap := hP
  have hl := lv_entry ([.ref x0, .int s_, .int n]) (n := 5) (Nat.le_of_ble_eq_true rfl)
  rw [lg_entry_eq]
  generalize (lg_sl ([.ref x0, .int s_, .int n]) ++ List.replicate (5 - (lg_sl ([.ref x0, .int s_, .int n])).length) Slot.unset).toArray = ls at hl ⊢
  replace hl : lv_has ls 5 [(0, .ref x0), (1, .int s_), (2, .int n)] := hl
  refine zw_start (fun H locs hH hL => ?_)
  replace hP : va_P D vwCl [(x0, .inr (7, [.ref xs, .ref j0, .ref k0, .ref w0, .ref rd, .ref mv, .ref xr, .int 0, .int (-1)])), (xr, .inl (cI, 8, .inl (fun _ => 0))), (xs, .inl (cS, 8, .inr (.inr (.inr (.inr (zS sh)))))), ((sh 0), .inr (4, [.ref (el 0), .int (-1), .int 0])), ((sh 1), .inr (4, [.ref (el 1), .int (-1), .int 0])), ((sh 2), .inr (4, [.ref (el 2), .int (-1), .int 0])), ((sh 3), .inr (4, [.ref (el 3), .int (-1), .int 0])), ((sh 4), .inr (4, [.ref (el 4), .int (-1), .int 0])), ((sh 5), .inr (4, [.ref (el 5), .int (-1), .int 0])), ((sh 6), .inr (4, [.ref (el 6), .int (-1), .int 0])), ((sh 7), .inr (4, [.ref (el 7), .int (-1), .int 0])), (j0, .inr (0, [.ref z0, .ref jp, .ref jc, .int 0, .int 0, .int 0, .int 60, .int 0, .int 1]))] H := by rw [hH]; exact hP
  replace hS : va_S (va_A [(x0, .inr (7, [.ref xs, .ref j0, .ref k0, .ref w0, .ref rd, .ref mv, .ref xr, .int 0, .int (-1)])), (xr, .inl (cI, 8, .inl (fun _ => 0))), (xs, .inl (cS, 8, .inr (.inr (.inr (.inr (zS sh)))))), ((sh 0), .inr (4, [.ref (el 0), .int (-1), .int 0])), ((sh 1), .inr (4, [.ref (el 1), .int (-1), .int 0])), ((sh 2), .inr (4, [.ref (el 2), .int (-1), .int 0])), ((sh 3), .inr (4, [.ref (el 3), .int (-1), .int 0])), ((sh 4), .inr (4, [.ref (el 4), .int (-1), .int 0])), ((sh 5), .inr (4, [.ref (el 5), .int (-1), .int 0])), ((sh 6), .inr (4, [.ref (el 6), .int (-1), .int 0])), ((sh 7), .inr (4, [.ref (el 7), .int (-1), .int 0])), (j0, .inr (0, [.ref z0, .ref jp, .ref jc, .int 0, .int 0, .int 0, .int 60, .int 0, .int 1]))] s.heap.size) s.heap H locs := by rw [hH, hL]; exact hS
  clear hH hL
  refine lv_aload_n hx hb dX7_judge_0 rfl (lv_at hl 0 rfl) ?_
  refine lv_iload_n hx hb dX7_judge_1 rfl (lv_at hl 1 rfl) ?_
  refine zc_Vq (As := [.int s_]) (rest := []) ⟨hx, hb, hml, hown, hts⟩ (c_shelfAt l D cI cJ cZ cP cS x0 xs j0 k0 w0 rd mv xr ((zS sh)) (s_) ) (cwV 1 hts gX7_judge_X7_shelfAt rfl rfl rfl (by decide +kernel) ⟨Nat.le_of_ble_eq_true rfl, Nat.le_of_ble_eq_true rfl⟩) hK hN (hZ.kept hS) hP [0, 2] rfl (va_recv hK hP (ci := 7) (q0 := 0) rfl rfl) rfl hl.1 rfl (Nat.le_of_ble_eq_true rfl) dX7_judge_2 ⟨Nat.le_of_ble_eq_true rfl, Nat.le_of_ble_eq_true rfl⟩ (fun r_1 hr_1 => ?_)
  rcases hr_1 with ⟨rfl, g_2⟩ | ⟨rfl, g_3, g_4⟩ | ⟨rfl, g_5, g_6⟩
  · refine lv_astore_nN (lv' := [(3, .null), (0, .ref x0), (1, .int s_), (2, .int n)]) hx hb dX7_judge_5 rfl hl (by decide) rfl (fun ls hl => ?_)
    refine lv_aload_nN hx hb dX7_judge_6 rfl (lv_at hl 0 rfl) ?_
    refine lv_ifnonnullN hx hb dX7_judge_7 ?_
    refine lv_aload_n hx hb dX7_judge_10 rfl (lv_at hl 1 rfl) ?_
    refine lv_iconst (v := 1) hx hb dX7_judge_11 (by decide) ?_
    skip
    refine zw_V (As := [.int 1]) (rest := []) (wr := []) ⟨hx, hb, hml, hown, hts⟩ (c_refuseLower_1 l D cI cJ cZ cP cS x0 xs j0 k0 w0 rd mv xr  H.size) (cwV 1 hts gX7_judge_X7_refuseLower rfl rfl rfl (by decide +kernel) ⟨Nat.le_of_ble_eq_true rfl, Nat.le_of_ble_eq_true rfl⟩) hK hN (hZ.kept hS) hP hD hS hA [0, 1] [] rfl rfl (by decide) (by decide) (by decide) (va_recv hK hP (ci := 7) (q0 := 0) rfl rfl) rfl hl.1 rfl (Nat.le_of_ble_eq_true rfl) dX7_judge_12 ⟨Nat.le_of_ble_eq_true rfl, Nat.le_of_ble_eq_true rfl⟩ (fun r_7 u_8 H locs hr_7 hP hD hS => ?_)
    obtain rfl := hr_7
    exact W.iret (v := (-11)) hx hb hr (fun t ht hW => ⟨⟨(-11), (), rfl, Or.inl (⟨rfl, (by first | omega | decide)⟩), zP_nil, zD_nil⟩, hS.F ht⟩) hS.2.2 dX7_judge_15
  · refine lv_astore_nN (lv' := [(3, .null), (0, .ref x0), (1, .int s_), (2, .int n)]) hx hb dX7_judge_5 rfl hl (by decide) rfl (fun ls hl => ?_)
    refine lv_aload_nN hx hb dX7_judge_6 rfl (lv_at hl 0 rfl) ?_
    refine lv_ifnonnullN hx hb dX7_judge_7 ?_
    refine lv_aload_n hx hb dX7_judge_10 rfl (lv_at hl 1 rfl) ?_
    refine lv_iconst (v := 1) hx hb dX7_judge_11 (by decide) ?_
    skip
    refine zw_V (As := [.int 1]) (rest := []) (wr := []) ⟨hx, hb, hml, hown, hts⟩ (c_refuseLower_1 l D cI cJ cZ cP cS x0 xs j0 k0 w0 rd mv xr  H.size) (cwV 1 hts gX7_judge_X7_refuseLower rfl rfl rfl (by decide +kernel) ⟨Nat.le_of_ble_eq_true rfl, Nat.le_of_ble_eq_true rfl⟩) hK hN (hZ.kept hS) hP hD hS hA [0, 1] [] rfl rfl (by decide) (by decide) (by decide) (va_recv hK hP (ci := 7) (q0 := 0) rfl rfl) rfl hl.1 rfl (Nat.le_of_ble_eq_true rfl) dX7_judge_12 ⟨Nat.le_of_ble_eq_true rfl, Nat.le_of_ble_eq_true rfl⟩ (fun r_9 u_10 H locs hr_9 hP hD hS => ?_)
    obtain rfl := hr_9
    exact W.iret (v := (-11)) hx hb hr (fun t ht hW => ⟨⟨(-11), (), rfl, Or.inr (Or.inl (⟨rfl, (by first | omega | decide), (by first | omega | decide)⟩)), zP_nil, zD_nil⟩, hS.F ht⟩) hS.2.2 dX7_judge_15
  · obtain ⟨j2, hj2, hfs⟩ := zS_at sh (s := s_) (by omega) (by omega)
    rw [hfs]
    refine W.eq (g2 := F0 m 5 ls (.ref (sh j2) :: [])) rfl ?_
    have hqj2 : ([(x0, .inr (7, [.ref xs, .ref j0, .ref k0, .ref w0, .ref rd, .ref mv, .ref xr, .int 0, .int (-1)])), (xr, .inl (cI, 8, .inl (fun _ => 0))), (xs, .inl (cS, 8, .inr (.inr (.inr (.inr (zS sh)))))), ((sh 0), .inr (4, [.ref (el 0), .int (-1), .int 0])), ((sh 1), .inr (4, [.ref (el 1), .int (-1), .int 0])), ((sh 2), .inr (4, [.ref (el 2), .int (-1), .int 0])), ((sh 3), .inr (4, [.ref (el 3), .int (-1), .int 0])), ((sh 4), .inr (4, [.ref (el 4), .int (-1), .int 0])), ((sh 5), .inr (4, [.ref (el 5), .int (-1), .int 0])), ((sh 6), .inr (4, [.ref (el 6), .int (-1), .int 0])), ((sh 7), .inr (4, [.ref (el 7), .int (-1), .int 0])), (j0, .inr (0, [.ref z0, .ref jp, .ref jc, .int 0, .int 0, .int 0, .int 60, .int 0, .int 1]))] : va_W)[3 + j2]? = some ((sh j2), .inr (4, [.ref (el j2), .int (-1), .int 0])) := by rcases zj8 hj2 with rfl | rfl | rfl | rfl | rfl | rfl | rfl | rfl <;> rfl
    refine lv_astore_n (lv' := [(3, .ref (sh j2)), (0, .ref x0), (1, .int s_), (2, .int n)]) hx hb dX7_judge_5 rfl hl (by decide) rfl (fun ls hl => ?_)
    refine lv_aload_n hx hb dX7_judge_6 rfl (lv_at hl 0 rfl) ?_
    refine lv_ifnonnull (tgt := 16) hx hb dX7_judge_7 (by decide) ?_
    refine lv_aload_n hx hb dX7_judge_16 rfl (lv_at hl 0 rfl) ?_
    refine lv_iload_n hx hb dX7_judge_17 rfl (lv_at hl 3 rfl) ?_
    refine zc_V (As := [.int n]) (rest := []) ⟨hx, hb, hml, hown, hts⟩ (c_Shelf_noTelling l D cI cJ cZ cP cS ((sh j2)) ((el j2)) (n) ) (cwV 1 hts gX7_judge_X4_noTelling rfl rfl rfl (by decide +kernel) ⟨Nat.le_of_ble_eq_true rfl, Nat.le_of_ble_eq_true rfl⟩) hK hN (hZ.kept hS) hP [(3 + j2)] (by simp only [List.filterMap_cons, List.filterMap_nil, hqj2]) (va_recv hK hP (ci := 4) (q0 := (3 + j2)) rfl hqj2) rfl hl.1 rfl (Nat.le_of_ble_eq_true rfl) dX7_judge_18 ⟨Nat.le_of_ble_eq_true rfl, Nat.le_of_ble_eq_true rfl⟩ (fun r_11 hr_11 => ?_)
    obtain rfl := hr_11
    refine lv_istore (lv' := [(4, .int 3), (3, .ref (sh j2)), (0, .ref x0), (1, .int s_), (2, .int n)]) hx hb dX7_judge_21 hl (by decide) rfl (fun ls hl => ?_)
    refine lv_iload hx hb dX7_judge_23 (lv_at hl 0 rfl) ?_
    refine lv_if_eq (tgt := 35) hx hb dX7_judge_25 (by decide) (fun c_12 => ?_) (fun c_12 => ?_)
    · exact absurd c_12 (by decide)
    · refine lv_aload_n hx hb dX7_judge_28 rfl (lv_at hl 2 rfl) ?_
      refine lv_iload hx hb dX7_judge_29 (lv_at hl 0 rfl) ?_
      skip
      refine zw_V (As := [.int 3]) (rest := []) (wr := []) ⟨hx, hb, hml, hown, hts⟩ (c_refuseLower_3 l D cI cJ cZ cP cS x0 xs j0 k0 w0 rd mv xr  H.size) (cwV 1 hts gX7_judge_X7_refuseLower rfl rfl rfl (by decide +kernel) ⟨Nat.le_of_ble_eq_true rfl, Nat.le_of_ble_eq_true rfl⟩) hK hN (hZ.kept hS) hP hD hS hA [0, 1] [] rfl rfl (by decide) (by decide) (by decide) (va_recv hK hP (ci := 7) (q0 := 0) rfl rfl) rfl hl.1 rfl (Nat.le_of_ble_eq_true rfl) dX7_judge_31 ⟨Nat.le_of_ble_eq_true rfl, Nat.le_of_ble_eq_true rfl⟩ (fun r_13 u_14 H locs hr_13 hP hD hS => ?_)
      obtain rfl := hr_13
      exact W.iret (v := (-13)) hx hb hr (fun t ht hW => ⟨⟨(-13), (), rfl, Or.inr (Or.inr (⟨rfl, (by first | omega | decide), (by first | omega | decide)⟩)), zP_nil, zD_nil⟩, hS.F ht⟩) hS.2.2 dX7_judge_34
set_option maxHeartbeats 4000000 in
set_option maxRecDepth 100000 in
theorem c_meant (l : Launch) (D : va_G) (cI cJ cZ cP cS : ClassId) (x0 xs j0 k0 w0 rd mv xr : Nat)(sh el : Nat → Nat) (jp jc z0 zl zs : Nat) (s_ n i : Int32)  (sz : Nat) : Met l yX7_meant wsX7_meant ({ frames := 2, cells := 0, slots := 0, locals := 43 }) (va_Pc [.ref x0, .int s_, .int n, .int i] (zW D (zKT cI cJ cZ cP cS) [(x0, .inr (7, [.ref xs, .ref j0, .ref k0, .ref w0, .ref rd, .ref mv, .ref xr, .int 0, .int (-1)])), (xr, .inl (cI, 8, .inl (fun _ => 0))), (xs, .inl (cS, 8, .inr (.inr (.inr (.inr (zS sh)))))), ((sh 0), .inr (4, [.ref (el 0), .int (-1), .int 0])), ((sh 1), .inr (4, [.ref (el 1), .int (-1), .int 0])), ((sh 2), .inr (4, [.ref (el 2), .int (-1), .int 0])), ((sh 3), .inr (4, [.ref (el 3), .int (-1), .int 0])), ((sh 4), .inr (4, [.ref (el 4), .int (-1), .int 0])), ((sh 5), .inr (4, [.ref (el 5), .int (-1), .int 0])), ((sh 6), .inr (4, [.ref (el 6), .int (-1), .int 0])), ((sh 7), .inr (4, [.ref (el 7), .int (-1), .int 0])), (j0, .inr (0, [.ref z0, .ref jp, .ref jc, .int 0, .int 0, .int 0, .int 60, .int 0, .int 1]))] sz)) (va_Qi (fun (r : Int32) (_ : Unit) => (r = (-1) ∧ s_.toInt < 0) ∨ (r = (-1) ∧ 0 ≤ s_.toInt ∧ 7 < s_.toInt) ∨ (r = (-3) ∧ 0 ≤ s_.toInt ∧ s_.toInt ≤ 7)) (zB D [(x0, .inr (7, [.ref xs, .ref j0, .ref k0, .ref w0, .ref rd, .ref mv, .ref xr, .int 0, .int (-1)])), (xr, .inl (cI, 8, .inl (fun _ => 0))), (xs, .inl (cS, 8, .inr (.inr (.inr (.inr (zS sh)))))), ((sh 0), .inr (4, [.ref (el 0), .int (-1), .int 0])), ((sh 1), .inr (4, [.ref (el 1), .int (-1), .int 0])), ((sh 2), .inr (4, [.ref (el 2), .int (-1), .int 0])), ((sh 3), .inr (4, [.ref (el 3), .int (-1), .int 0])), ((sh 4), .inr (4, [.ref (el 4), .int (-1), .int 0])), ((sh 5), .inr (4, [.ref (el 5), .int (-1), .int 0])), ((sh 6), .inr (4, [.ref (el 6), .int (-1), .int 0])), ((sh 7), .inr (4, [.ref (el 7), .int (-1), .int 0])), (j0, .inr (0, [.ref z0, .ref jp, .ref jc, .int 0, .int 0, .int 0, .int 60, .int 0, .int 1]))] sz (fun (_ : Unit) => ([] : va_W))) (va_A [(x0, .inr (7, [.ref xs, .ref j0, .ref k0, .ref w0, .ref rd, .ref mv, .ref xr, .int 0, .int (-1)])), (xr, .inl (cI, 8, .inl (fun _ => 0))), (xs, .inl (cS, 8, .inr (.inr (.inr (.inr (zS sh)))))), ((sh 0), .inr (4, [.ref (el 0), .int (-1), .int 0])), ((sh 1), .inr (4, [.ref (el 1), .int (-1), .int 0])), ((sh 2), .inr (4, [.ref (el 2), .int (-1), .int 0])), ((sh 3), .inr (4, [.ref (el 3), .int (-1), .int 0])), ((sh 4), .inr (4, [.ref (el 4), .int (-1), .int 0])), ((sh 5), .inr (4, [.ref (el 5), .int (-1), .int 0])), ((sh 6), .inr (4, [.ref (el 6), .int (-1), .int 0])), ((sh 7), .inr (4, [.ref (el 7), .int (-1), .int 0])), (j0, .inr (0, [.ref z0, .ref jp, .ref jc, .int 0, .int 0, .int 0, .int 60, .int 0, .int 1]))] sz)) 0 0 (va_A [(x0, .inr (7, [.ref xs, .ref j0, .ref k0, .ref w0, .ref rd, .ref mv, .ref xr, .int 0, .int (-1)])), (xr, .inl (cI, 8, .inl (fun _ => 0))), (xs, .inl (cS, 8, .inr (.inr (.inr (.inr (zS sh)))))), ((sh 0), .inr (4, [.ref (el 0), .int (-1), .int 0])), ((sh 1), .inr (4, [.ref (el 1), .int (-1), .int 0])), ((sh 2), .inr (4, [.ref (el 2), .int (-1), .int 0])), ((sh 3), .inr (4, [.ref (el 3), .int (-1), .int 0])), ((sh 4), .inr (4, [.ref (el 4), .int (-1), .int 0])), ((sh 5), .inr (4, [.ref (el 5), .int (-1), .int 0])), ((sh 6), .inr (4, [.ref (el 6), .int (-1), .int 0])), ((sh 7), .inr (4, [.ref (el 7), .int (-1), .int 0])), (j0, .inr (0, [.ref z0, .ref jp, .ref jc, .int 0, .int 0, .int 0, .int 60, .int 0, .int 1]))] sz) := by
  refine Met.ofW (cc := cX7_meant) (maxL := 8) (ret := (some .int)) (by decide) rfl ?_
  intro p e s m args below meth c s₁ B hml hv
  obtain ⟨rfl, hsz, hP, hK, hD0, hN, hZ⟩ := hv
  have hx := B.exec
  have hb := B.bytes
  have hr := B.returns
  have hts := atoms_spec (ws := wsX7_meant) B.pre
  have hown : s.vm.findClass RX7 = some m.cls := findClass_of_methodNamed B.named
  have hlocks := B.notSynchronized
  subst hsz
  have hD := hD0.self (sz := s.heap.size)
  have hA : ∀ q : Nat, s.heap.size ≤ q → va_A [(x0, .inr (7, [.ref xs, .ref j0, .ref k0, .ref w0, .ref rd, .ref mv, .ref xr, .int 0, .int (-1)])), (xr, .inl (cI, 8, .inl (fun _ => 0))), (xs, .inl (cS, 8, .inr (.inr (.inr (.inr (zS sh)))))), ((sh 0), .inr (4, [.ref (el 0), .int (-1), .int 0])), ((sh 1), .inr (4, [.ref (el 1), .int (-1), .int 0])), ((sh 2), .inr (4, [.ref (el 2), .int (-1), .int 0])), ((sh 3), .inr (4, [.ref (el 3), .int (-1), .int 0])), ((sh 4), .inr (4, [.ref (el 4), .int (-1), .int 0])), ((sh 5), .inr (4, [.ref (el 5), .int (-1), .int 0])), ((sh 6), .inr (4, [.ref (el 6), .int (-1), .int 0])), ((sh 7), .inr (4, [.ref (el 7), .int (-1), .int 0])), (j0, .inr (0, [.ref z0, .ref jp, .ref jc, .int 0, .int 0, .int 0, .int 60, .int 0, .int 1]))] s.heap.size q := fun q h => Or.inr h
  have hS : va_S (va_A [(x0, .inr (7, [.ref xs, .ref j0, .ref k0, .ref w0, .ref rd, .ref mv, .ref xr, .int 0, .int (-1)])), (xr, .inl (cI, 8, .inl (fun _ => 0))), (xs, .inl (cS, 8, .inr (.inr (.inr (.inr (zS sh)))))), ((sh 0), .inr (4, [.ref (el 0), .int (-1), .int 0])), ((sh 1), .inr (4, [.ref (el 1), .int (-1), .int 0])), ((sh 2), .inr (4, [.ref (el 2), .int (-1), .int 0])), ((sh 3), .inr (4, [.ref (el 3), .int (-1), .int 0])), ((sh 4), .inr (4, [.ref (el 4), .int (-1), .int 0])), ((sh 5), .inr (4, [.ref (el 5), .int (-1), .int 0])), ((sh 6), .inr (4, [.ref (el 6), .int (-1), .int 0])), ((sh 7), .inr (4, [.ref (el 7), .int (-1), .int 0])), (j0, .inr (0, [.ref z0, .ref jp, .ref jc, .int 0, .int 0, .int 0, .int 60, .int 0, .int 1]))] s.heap.size) s.heap s.heap [] := va_S.rf
  replace hP : va_P D vwCl _ s.heap := hP
  have hl := lv_entry ([.ref x0, .int s_, .int n, .int i]) (n := 8) (Nat.le_of_ble_eq_true rfl)
  rw [lg_entry_eq]
  generalize (lg_sl ([.ref x0, .int s_, .int n, .int i]) ++ List.replicate (8 - (lg_sl ([.ref x0, .int s_, .int n, .int i])).length) Slot.unset).toArray = ls at hl ⊢
  replace hl : lv_has ls 8 [(0, .ref x0), (1, .int s_), (2, .int n), (3, .int i)] := hl
  refine zw_start (fun H locs hH hL => ?_)
  replace hP : va_P D vwCl [(x0, .inr (7, [.ref xs, .ref j0, .ref k0, .ref w0, .ref rd, .ref mv, .ref xr, .int 0, .int (-1)])), (xr, .inl (cI, 8, .inl (fun _ => 0))), (xs, .inl (cS, 8, .inr (.inr (.inr (.inr (zS sh)))))), ((sh 0), .inr (4, [.ref (el 0), .int (-1), .int 0])), ((sh 1), .inr (4, [.ref (el 1), .int (-1), .int 0])), ((sh 2), .inr (4, [.ref (el 2), .int (-1), .int 0])), ((sh 3), .inr (4, [.ref (el 3), .int (-1), .int 0])), ((sh 4), .inr (4, [.ref (el 4), .int (-1), .int 0])), ((sh 5), .inr (4, [.ref (el 5), .int (-1), .int 0])), ((sh 6), .inr (4, [.ref (el 6), .int (-1), .int 0])), ((sh 7), .inr (4, [.ref (el 7), .int (-1), .int 0])), (j0, .inr (0, [.ref z0, .ref jp, .ref jc, .int 0, .int 0, .int 0, .int 60, .int 0, .int 1]))] H := by rw [hH]; exact hP
  replace hS : va_S (va_A [(x0, .inr (7, [.ref xs, .ref j0, .ref k0, .ref w0, .ref rd, .ref mv, .ref xr, .int 0, .int (-1)])), (xr, .inl (cI, 8, .inl (fun _ => 0))), (xs, .inl (cS, 8, .inr (.inr (.inr (.inr (zS sh)))))), ((sh 0), .inr (4, [.ref (el 0), .int (-1), .int 0])), ((sh 1), .inr (4, [.ref (el 1), .int (-1), .int 0])), ((sh 2), .inr (4, [.ref (el 2), .int (-1), .int 0])), ((sh 3), .inr (4, [.ref (el 3), .int (-1), .int 0])), ((sh 4), .inr (4, [.ref (el 4), .int (-1), .int 0])), ((sh 5), .inr (4, [.ref (el 5), .int (-1), .int 0])), ((sh 6), .inr (4, [.ref (el 6), .int (-1), .int 0])), ((sh 7), .inr (4, [.ref (el 7), .int (-1), .int 0])), (j0, .inr (0, [.ref z0, .ref jp, .ref jc, .int 0, .int 0, .int 0, .int 60, .int 0, .int 1]))] s.heap.size) s.heap H locs := by rw [hH, hL]; exact hS
  clear hH hL
  refine lv_aload_n hx hb dX7_meant_0 rfl (lv_at hl 0 rfl) ?_
  refine lv_iload_n hx hb dX7_meant_1 rfl (lv_at hl 1 rfl) ?_
  refine zc_Vq (As := [.int s_]) (rest := []) ⟨hx, hb, hml, hown, hts⟩ (c_shelfAt l D cI cJ cZ cP cS x0 xs j0 k0 w0 rd mv xr ((zS sh)) (s_) ) (cwV 1 hts gX7_meant_X7_shelfAt rfl rfl rfl (by decide +kernel) ⟨Nat.le_of_ble_eq_true rfl, Nat.le_of_ble_eq_true rfl⟩) hK hN (hZ.kept hS) hP [0, 2] rfl (va_recv hK hP (ci := 7) (q0 := 0) rfl rfl) rfl hl.1 rfl (Nat.le_of_ble_eq_true rfl) dX7_meant_2 ⟨Nat.le_of_ble_eq_true rfl, Nat.le_of_ble_eq_true rfl⟩ (fun r_1 hr_1 => ?_)
  rcases hr_1 with ⟨rfl, g_2⟩ | ⟨rfl, g_3, g_4⟩ | ⟨rfl, g_5, g_6⟩
  · refine lv_astoreN (lv' := [(4, .null), (0, .ref x0), (1, .int s_), (2, .int n), (3, .int i)]) hx hb dX7_meant_5 hl (by decide) rfl (fun ls hl => ?_)
    refine lv_aloadN hx hb dX7_meant_7 (lv_at hl 0 rfl) ?_
    refine lv_ifnonnullN hx hb dX7_meant_9 ?_
    refine lv_aload_n hx hb dX7_meant_12 rfl (lv_at hl 1 rfl) ?_
    refine lv_iconst (v := 1) hx hb dX7_meant_13 (by decide) ?_
    skip
    refine zw_V (As := [.int 1]) (rest := []) (wr := []) ⟨hx, hb, hml, hown, hts⟩ (c_refuse_1 l D cI cJ cZ cP cS x0 xs j0 k0 w0 rd mv xr  H.size) (cwV 1 hts gX7_meant_X7_refuse rfl rfl rfl (by decide +kernel) ⟨Nat.le_of_ble_eq_true rfl, Nat.le_of_ble_eq_true rfl⟩) hK hN (hZ.kept hS) hP hD hS hA [0, 1] [] rfl rfl (by decide) (by decide) (by decide) (va_recv hK hP (ci := 7) (q0 := 0) rfl rfl) rfl hl.1 rfl (Nat.le_of_ble_eq_true rfl) dX7_meant_14 ⟨Nat.le_of_ble_eq_true rfl, Nat.le_of_ble_eq_true rfl⟩ (fun r_7 u_8 H locs hr_7 hP hD hS => ?_)
    obtain rfl := hr_7
    exact W.iret (v := (-1)) hx hb hr (fun t ht hW => ⟨⟨(-1), (), rfl, Or.inl (⟨rfl, (by first | omega | decide)⟩), zP_nil, zD_nil⟩, hS.F ht⟩) hS.2.2 dX7_meant_17
  · refine lv_astoreN (lv' := [(4, .null), (0, .ref x0), (1, .int s_), (2, .int n), (3, .int i)]) hx hb dX7_meant_5 hl (by decide) rfl (fun ls hl => ?_)
    refine lv_aloadN hx hb dX7_meant_7 (lv_at hl 0 rfl) ?_
    refine lv_ifnonnullN hx hb dX7_meant_9 ?_
    refine lv_aload_n hx hb dX7_meant_12 rfl (lv_at hl 1 rfl) ?_
    refine lv_iconst (v := 1) hx hb dX7_meant_13 (by decide) ?_
    skip
    refine zw_V (As := [.int 1]) (rest := []) (wr := []) ⟨hx, hb, hml, hown, hts⟩ (c_refuse_1 l D cI cJ cZ cP cS x0 xs j0 k0 w0 rd mv xr  H.size) (cwV 1 hts gX7_meant_X7_refuse rfl rfl rfl (by decide +kernel) ⟨Nat.le_of_ble_eq_true rfl, Nat.le_of_ble_eq_true rfl⟩) hK hN (hZ.kept hS) hP hD hS hA [0, 1] [] rfl rfl (by decide) (by decide) (by decide) (va_recv hK hP (ci := 7) (q0 := 0) rfl rfl) rfl hl.1 rfl (Nat.le_of_ble_eq_true rfl) dX7_meant_14 ⟨Nat.le_of_ble_eq_true rfl, Nat.le_of_ble_eq_true rfl⟩ (fun r_9 u_10 H locs hr_9 hP hD hS => ?_)
    obtain rfl := hr_9
    exact W.iret (v := (-1)) hx hb hr (fun t ht hW => ⟨⟨(-1), (), rfl, Or.inr (Or.inl (⟨rfl, (by first | omega | decide), (by first | omega | decide)⟩)), zP_nil, zD_nil⟩, hS.F ht⟩) hS.2.2 dX7_meant_17
  · obtain ⟨j2, hj2, hfs⟩ := zS_at sh (s := s_) (by omega) (by omega)
    rw [hfs]
    refine W.eq (g2 := F0 m 5 ls (.ref (sh j2) :: [])) rfl ?_
    have hqj2 : ([(x0, .inr (7, [.ref xs, .ref j0, .ref k0, .ref w0, .ref rd, .ref mv, .ref xr, .int 0, .int (-1)])), (xr, .inl (cI, 8, .inl (fun _ => 0))), (xs, .inl (cS, 8, .inr (.inr (.inr (.inr (zS sh)))))), ((sh 0), .inr (4, [.ref (el 0), .int (-1), .int 0])), ((sh 1), .inr (4, [.ref (el 1), .int (-1), .int 0])), ((sh 2), .inr (4, [.ref (el 2), .int (-1), .int 0])), ((sh 3), .inr (4, [.ref (el 3), .int (-1), .int 0])), ((sh 4), .inr (4, [.ref (el 4), .int (-1), .int 0])), ((sh 5), .inr (4, [.ref (el 5), .int (-1), .int 0])), ((sh 6), .inr (4, [.ref (el 6), .int (-1), .int 0])), ((sh 7), .inr (4, [.ref (el 7), .int (-1), .int 0])), (j0, .inr (0, [.ref z0, .ref jp, .ref jc, .int 0, .int 0, .int 0, .int 60, .int 0, .int 1]))] : va_W)[3 + j2]? = some ((sh j2), .inr (4, [.ref (el j2), .int (-1), .int 0])) := by rcases zj8 hj2 with rfl | rfl | rfl | rfl | rfl | rfl | rfl | rfl <;> rfl
    refine lv_astore (lv' := [(4, .ref (sh j2)), (0, .ref x0), (1, .int s_), (2, .int n), (3, .int i)]) hx hb dX7_meant_5 hl (by decide) rfl (fun ls hl => ?_)
    refine lv_aload hx hb dX7_meant_7 (lv_at hl 0 rfl) ?_
    refine lv_ifnonnull (tgt := 18) hx hb dX7_meant_9 (by decide) ?_
    refine lv_aload hx hb dX7_meant_18 (lv_at hl 0 rfl) ?_
    refine lv_iload_n hx hb dX7_meant_20 rfl (lv_at hl 3 rfl) ?_
    refine zc_V (As := [.int n]) (rest := []) ⟨hx, hb, hml, hown, hts⟩ (c_Shelf_noTelling l D cI cJ cZ cP cS ((sh j2)) ((el j2)) (n) ) (cwV 1 hts gX7_meant_X4_noTelling rfl rfl rfl (by decide +kernel) ⟨Nat.le_of_ble_eq_true rfl, Nat.le_of_ble_eq_true rfl⟩) hK hN (hZ.kept hS) hP [(3 + j2)] (by simp only [List.filterMap_cons, List.filterMap_nil, hqj2]) (va_recv hK hP (ci := 4) (q0 := (3 + j2)) rfl hqj2) rfl hl.1 rfl (Nat.le_of_ble_eq_true rfl) dX7_meant_21 ⟨Nat.le_of_ble_eq_true rfl, Nat.le_of_ble_eq_true rfl⟩ (fun r_11 hr_11 => ?_)
    obtain rfl := hr_11
    refine lv_istore (lv' := [(5, .int 3), (4, .ref (sh j2)), (0, .ref x0), (1, .int s_), (2, .int n), (3, .int i)]) hx hb dX7_meant_24 hl (by decide) rfl (fun ls hl => ?_)
    refine lv_iload hx hb dX7_meant_26 (lv_at hl 0 rfl) ?_
    refine lv_if_eq (tgt := 38) hx hb dX7_meant_28 (by decide) (fun c_12 => ?_) (fun c_12 => ?_)
    · exact absurd c_12 (by decide)
    · refine lv_aload_n hx hb dX7_meant_31 rfl (lv_at hl 2 rfl) ?_
      refine lv_iload hx hb dX7_meant_32 (lv_at hl 0 rfl) ?_
      skip
      refine zw_V (As := [.int 3]) (rest := []) (wr := []) ⟨hx, hb, hml, hown, hts⟩ (c_refuse_3 l D cI cJ cZ cP cS x0 xs j0 k0 w0 rd mv xr  H.size) (cwV 1 hts gX7_meant_X7_refuse rfl rfl rfl (by decide +kernel) ⟨Nat.le_of_ble_eq_true rfl, Nat.le_of_ble_eq_true rfl⟩) hK hN (hZ.kept hS) hP hD hS hA [0, 1] [] rfl rfl (by decide) (by decide) (by decide) (va_recv hK hP (ci := 7) (q0 := 0) rfl rfl) rfl hl.1 rfl (Nat.le_of_ble_eq_true rfl) dX7_meant_34 ⟨Nat.le_of_ble_eq_true rfl, Nat.le_of_ble_eq_true rfl⟩ (fun r_13 u_14 H locs hr_13 hP hD hS => ?_)
      obtain rfl := hr_13
      exact W.iret (v := (-3)) hx hb hr (fun t ht hW => ⟨⟨(-3), (), rfl, Or.inr (Or.inr (⟨rfl, (by first | omega | decide), (by first | omega | decide)⟩)), zP_nil, zD_nil⟩, hS.F ht⟩) hS.2.2 dX7_meant_37
theorem hi_X7_closed_7 : ∀ w ∈ u_ws RX7 TX7 9, w ∈ wsX7_closed := by decide +kernel
theorem hi_X7_closed_0 : ∀ w ∈ u_ws RX0 TX0 9, w ∈ wsX7_closed := by decide +kernel
set_option maxHeartbeats 4000000 in
set_option maxRecDepth 100000 in
theorem c_closed (l : Launch) (D : va_G) (cI cJ cZ cP cS : ClassId) (x0 xs j0 k0 w0 rd mv xr : Nat) (jp jc z0 zl zs : Nat)   (sz : Nat) : Met l yX7_closed wsX7_closed ({ frames := 4, cells := 0, slots := 0, locals := 84 }) (va_Pc [.ref x0] (zW D (zKT cI cJ cZ cP cS) [(x0, .inr (7, [.ref xs, .ref j0, .ref k0, .ref w0, .ref rd, .ref mv, .ref xr, .int 0, .int (-1)])), (j0, .inr (0, [.ref z0, .ref jp, .ref jc, .int 0, .int 0, .int 0, .int 60, .int 0, .int 1])), (z0, .inr (6, [.ref zl, .ref zs, .int 20, .int 0, .int 3])), (zl, .inl (cZ, 40, .inl (fun _ => 0))), (zs, .inl (cI, 40, .inl (fun _ => 0)))] sz)) (va_Qi (fun (r : Int32) (_ : Unit) => r = 20) (zB D [(x0, .inr (7, [.ref xs, .ref j0, .ref k0, .ref w0, .ref rd, .ref mv, .ref xr, .int 0, .int (-1)])), (j0, .inr (0, [.ref z0, .ref jp, .ref jc, .int 0, .int 0, .int 0, .int 60, .int 0, .int 1])), (z0, .inr (6, [.ref zl, .ref zs, .int 20, .int 0, .int 3])), (zl, .inl (cZ, 40, .inl (fun _ => 0))), (zs, .inl (cI, 40, .inl (fun _ => 0)))] sz (fun (_ : Unit) => ([] : va_W))) (va_A [(x0, .inr (7, [.ref xs, .ref j0, .ref k0, .ref w0, .ref rd, .ref mv, .ref xr, .int 0, .int (-1)])), (j0, .inr (0, [.ref z0, .ref jp, .ref jc, .int 0, .int 0, .int 0, .int 60, .int 0, .int 1])), (z0, .inr (6, [.ref zl, .ref zs, .int 20, .int 0, .int 3])), (zl, .inl (cZ, 40, .inl (fun _ => 0))), (zs, .inl (cI, 40, .inl (fun _ => 0)))] sz)) 0 0 (va_A [(x0, .inr (7, [.ref xs, .ref j0, .ref k0, .ref w0, .ref rd, .ref mv, .ref xr, .int 0, .int (-1)])), (j0, .inr (0, [.ref z0, .ref jp, .ref jc, .int 0, .int 0, .int 0, .int 60, .int 0, .int 1])), (z0, .inr (6, [.ref zl, .ref zs, .int 20, .int 0, .int 3])), (zl, .inl (cZ, 40, .inl (fun _ => 0))), (zs, .inl (cI, 40, .inl (fun _ => 0)))] sz) := by
  refine Met.ofW (cc := cX7_closed) (maxL := 1) (ret := (some .int)) (by decide) rfl ?_
  intro p e s m args below meth c s₁ B hml hv
  obtain ⟨rfl, hsz, hP, hK, hD0, hN, hZ⟩ := hv
  have hx := B.exec
  have hb := B.bytes
  have hr := B.returns
  have hts := atoms_spec (ws := wsX7_closed) B.pre
  have hown : s.vm.findClass RX7 = some m.cls := findClass_of_methodNamed B.named
  have hlocks := B.notSynchronized
  subst hsz
  have hD := hD0.self (sz := s.heap.size)
  have hA : ∀ q : Nat, s.heap.size ≤ q → va_A [(x0, .inr (7, [.ref xs, .ref j0, .ref k0, .ref w0, .ref rd, .ref mv, .ref xr, .int 0, .int (-1)])), (j0, .inr (0, [.ref z0, .ref jp, .ref jc, .int 0, .int 0, .int 0, .int 60, .int 0, .int 1])), (z0, .inr (6, [.ref zl, .ref zs, .int 20, .int 0, .int 3])), (zl, .inl (cZ, 40, .inl (fun _ => 0))), (zs, .inl (cI, 40, .inl (fun _ => 0)))] s.heap.size q := fun q h => Or.inr h
  have hS : va_S (va_A [(x0, .inr (7, [.ref xs, .ref j0, .ref k0, .ref w0, .ref rd, .ref mv, .ref xr, .int 0, .int (-1)])), (j0, .inr (0, [.ref z0, .ref jp, .ref jc, .int 0, .int 0, .int 0, .int 60, .int 0, .int 1])), (z0, .inr (6, [.ref zl, .ref zs, .int 20, .int 0, .int 3])), (zl, .inl (cZ, 40, .inl (fun _ => 0))), (zs, .inl (cI, 40, .inl (fun _ => 0)))] s.heap.size) s.heap s.heap [] := va_S.rf
  replace hP : va_P D vwCl _ s.heap := hP
  have hl := lv_entry ([.ref x0]) (n := 1) (Nat.le_of_ble_eq_true rfl)
  rw [lg_entry_eq]
  generalize (lg_sl ([.ref x0]) ++ List.replicate (1 - (lg_sl ([.ref x0])).length) Slot.unset).toArray = ls at hl ⊢
  replace hl : lv_has ls 1 [(0, .ref x0)] := hl
  refine zw_start (fun H locs hH hL => ?_)
  replace hP : va_P D vwCl [(x0, .inr (7, [.ref xs, .ref j0, .ref k0, .ref w0, .ref rd, .ref mv, .ref xr, .int 0, .int (-1)])), (j0, .inr (0, [.ref z0, .ref jp, .ref jc, .int 0, .int 0, .int 0, .int 60, .int 0, .int 1])), (z0, .inr (6, [.ref zl, .ref zs, .int 20, .int 0, .int 3])), (zl, .inl (cZ, 40, .inl (fun _ => 0))), (zs, .inl (cI, 40, .inl (fun _ => 0)))] H := by rw [hH]; exact hP
  replace hS : va_S (va_A [(x0, .inr (7, [.ref xs, .ref j0, .ref k0, .ref w0, .ref rd, .ref mv, .ref xr, .int 0, .int (-1)])), (j0, .inr (0, [.ref z0, .ref jp, .ref jc, .int 0, .int 0, .int 0, .int 60, .int 0, .int 1])), (z0, .inr (6, [.ref zl, .ref zs, .int 20, .int 0, .int 3])), (zl, .inl (cZ, 40, .inl (fun _ => 0))), (zs, .inl (cI, 40, .inl (fun _ => 0)))] s.heap.size) s.heap H locs := by rw [hH, hL]; exact hS
  clear hH hL
  refine lv_aload_n hx hb dX7_closed_0 rfl (lv_at hl 0 rfl) ?_
  refine va_get (D := D) (ci := 7) (v := .ref j0) (C := RX7) (T := TX7) (N := 9) hx hb hts hi_X7_closed_7 hown hK hP 0 rfl rfl 1 (by decide) (hts (.fieldLink RX7 18 "TheLiningsInIt" "now" "LTheLiningsInIt$Jacket;") (List.mem_of_getElem? (i := 1) rfl)) (fun _ h9 => h9) rfl dX7_closed_1 ?_
  refine va_get (D := D) (ci := 0) (v := .ref z0) (C := RX0) (T := TX0) (N := 9) hx hb hts hi_X7_closed_0 hown hK hP 1 rfl rfl 0 (by decide) (hts (.fieldLink RX7 140 "TheLiningsInIt$Jacket" "zip" "LTheLiningsInIt$Zip;") (List.mem_of_getElem? (i := 2) rfl)) (fun _ h9 => h9) rfl dX7_closed_4 ?_
  refine zc_V (As := []) (rest := []) ⟨hx, hb, hml, hown, hts⟩ (c_Zip_runsTo l D cI cJ cZ cP cS z0 zl zs ) (cwV 0 hts gX7_closed_X6_runsTo rfl rfl rfl (by decide +kernel) ⟨Nat.le_of_ble_eq_true rfl, Nat.le_of_ble_eq_true rfl⟩) hK hN (hZ.kept hS) hP [2, 3, 4] rfl (va_recv hK hP (ci := 6) (q0 := 2) rfl rfl) rfl hl.1 rfl (Nat.le_of_ble_eq_true rfl) dX7_closed_7 ⟨Nat.le_of_ble_eq_true rfl, Nat.le_of_ble_eq_true rfl⟩ (fun r_1 hr_1 => ?_)
  obtain rfl := hr_1
  exact W.iret (v := 20) hx hb hr (fun t ht hW => ⟨⟨20, (), rfl, rfl, zP_nil, zD_nil⟩, hS.F ht⟩) hS.2.2 dX7_closed_10
theorem hi_X7_pulls_7 : ∀ w ∈ u_ws RX7 TX7 9, w ∈ wsX7_pulls := by decide +kernel
set_option maxHeartbeats 4000000 in
set_option maxRecDepth 100000 in
theorem c_pulls (l : Launch) (D : va_G) (cI cJ cZ cP cS : ClassId) (x0 xs j0 k0 w0 rd mv xr : Nat) (jp jc z0 zl zs : Nat) (p_ : Int32)  (sz : Nat) : Met l yX7_pulls wsX7_pulls ({ frames := 2, cells := 0, slots := 0, locals := 43 }) (va_Pc [.ref x0, .int p_] (zW D (zKT cI cJ cZ cP cS) [(x0, .inr (7, [.ref xs, .ref j0, .ref k0, .ref w0, .ref rd, .ref mv, .ref xr, .int 0, .int (-1)])), (xr, .inl (cI, 8, .inl (fun _ => 0))), (j0, .inr (0, [.ref z0, .ref jp, .ref jc, .int 0, .int 0, .int 0, .int 60, .int 0, .int 1]))] sz)) (va_Qi (fun (r : Int32) (_ : Unit) => (r = (-1) ∧ p_.toInt < 0) ∨ (r = (-1) ∧ 0 ≤ p_.toInt)) (zB D [(x0, .inr (7, [.ref xs, .ref j0, .ref k0, .ref w0, .ref rd, .ref mv, .ref xr, .int 0, .int (-1)])), (xr, .inl (cI, 8, .inl (fun _ => 0))), (j0, .inr (0, [.ref z0, .ref jp, .ref jc, .int 0, .int 0, .int 0, .int 60, .int 0, .int 1]))] sz (fun (_ : Unit) => ([] : va_W))) (va_A [(x0, .inr (7, [.ref xs, .ref j0, .ref k0, .ref w0, .ref rd, .ref mv, .ref xr, .int 0, .int (-1)])), (xr, .inl (cI, 8, .inl (fun _ => 0))), (j0, .inr (0, [.ref z0, .ref jp, .ref jc, .int 0, .int 0, .int 0, .int 60, .int 0, .int 1]))] sz)) 0 0 (va_A [(x0, .inr (7, [.ref xs, .ref j0, .ref k0, .ref w0, .ref rd, .ref mv, .ref xr, .int 0, .int (-1)])), (xr, .inl (cI, 8, .inl (fun _ => 0))), (j0, .inr (0, [.ref z0, .ref jp, .ref jc, .int 0, .int 0, .int 0, .int 60, .int 0, .int 1]))] sz) := by
  refine Met.ofW (cc := cX7_pulls) (maxL := 3) (ret := (some .int)) (by decide) rfl ?_
  intro p e s m args below meth c s₁ B hml hv
  obtain ⟨rfl, hsz, hP, hK, hD0, hN, hZ⟩ := hv
  have hx := B.exec
  have hb := B.bytes
  have hr := B.returns
  have hts := atoms_spec (ws := wsX7_pulls) B.pre
  have hown : s.vm.findClass RX7 = some m.cls := findClass_of_methodNamed B.named
  have hlocks := B.notSynchronized
  subst hsz
  have hD := hD0.self (sz := s.heap.size)
  have hA : ∀ q : Nat, s.heap.size ≤ q → va_A [(x0, .inr (7, [.ref xs, .ref j0, .ref k0, .ref w0, .ref rd, .ref mv, .ref xr, .int 0, .int (-1)])), (xr, .inl (cI, 8, .inl (fun _ => 0))), (j0, .inr (0, [.ref z0, .ref jp, .ref jc, .int 0, .int 0, .int 0, .int 60, .int 0, .int 1]))] s.heap.size q := fun q h => Or.inr h
  have hS : va_S (va_A [(x0, .inr (7, [.ref xs, .ref j0, .ref k0, .ref w0, .ref rd, .ref mv, .ref xr, .int 0, .int (-1)])), (xr, .inl (cI, 8, .inl (fun _ => 0))), (j0, .inr (0, [.ref z0, .ref jp, .ref jc, .int 0, .int 0, .int 0, .int 60, .int 0, .int 1]))] s.heap.size) s.heap s.heap [] := va_S.rf
  replace hP : va_P D vwCl _ s.heap := hP
  have hl := lv_entry ([.ref x0, .int p_]) (n := 3) (Nat.le_of_ble_eq_true rfl)
  rw [lg_entry_eq]
  generalize (lg_sl ([.ref x0, .int p_]) ++ List.replicate (3 - (lg_sl ([.ref x0, .int p_])).length) Slot.unset).toArray = ls at hl ⊢
  replace hl : lv_has ls 3 [(0, .ref x0), (1, .int p_)] := hl
  refine zw_start (fun H locs hH hL => ?_)
  replace hP : va_P D vwCl [(x0, .inr (7, [.ref xs, .ref j0, .ref k0, .ref w0, .ref rd, .ref mv, .ref xr, .int 0, .int (-1)])), (xr, .inl (cI, 8, .inl (fun _ => 0))), (j0, .inr (0, [.ref z0, .ref jp, .ref jc, .int 0, .int 0, .int 0, .int 60, .int 0, .int 1]))] H := by rw [hH]; exact hP
  replace hS : va_S (va_A [(x0, .inr (7, [.ref xs, .ref j0, .ref k0, .ref w0, .ref rd, .ref mv, .ref xr, .int 0, .int (-1)])), (xr, .inl (cI, 8, .inl (fun _ => 0))), (j0, .inr (0, [.ref z0, .ref jp, .ref jc, .int 0, .int 0, .int 0, .int 60, .int 0, .int 1]))] s.heap.size) s.heap H locs := by rw [hH, hL]; exact hS
  clear hH hL
  refine lv_aload_n hx hb dX7_pulls_0 rfl (lv_at hl 0 rfl) ?_
  refine va_get (D := D) (ci := 7) (v := .ref j0) (C := RX7) (T := TX7) (N := 9) hx hb hts hi_X7_pulls_7 hown hK hP 0 rfl rfl 1 (by decide) (hts (.fieldLink RX7 18 "TheLiningsInIt" "now" "LTheLiningsInIt$Jacket;") (List.mem_of_getElem? (i := 1) rfl)) (fun _ h9 => h9) rfl dX7_pulls_1 ?_
  refine lv_iload_n hx hb dX7_pulls_4 rfl (lv_at hl 1 rfl) ?_
  refine zc_Vq (As := [.int p_]) (rest := []) ⟨hx, hb, hml, hown, hts⟩ (c_J_pullAt l D cI cJ cZ cP cS j0 jp jc z0 0 0 (p_) (0) ) (cwV 1 hts gX7_pulls_X0_pullAt rfl rfl rfl (by decide +kernel) ⟨Nat.le_of_ble_eq_true rfl, Nat.le_of_ble_eq_true rfl⟩) hK hN (hZ.kept hS) hP [2] rfl (va_recv hK hP (ci := 0) (q0 := 2) rfl rfl) rfl hl.1 rfl (Nat.le_of_ble_eq_true rfl) dX7_pulls_5 ⟨Nat.le_of_ble_eq_true rfl, Nat.le_of_ble_eq_true rfl⟩ (fun r_1 hr_1 => ?_)
  rcases hr_1 with ⟨rfl, g_2⟩ | ⟨rfl, g_3⟩
  · refine lv_astore_nN (lv' := [(2, .null), (0, .ref x0), (1, .int p_)]) hx hb dX7_pulls_8 rfl hl (by decide) rfl (fun ls hl => ?_)
    refine lv_aload_nN hx hb dX7_pulls_9 rfl (lv_at hl 0 rfl) ?_
    refine lv_ifnonnullN hx hb dX7_pulls_10 ?_
    refine lv_aload_n hx hb dX7_pulls_13 rfl (lv_at hl 1 rfl) ?_
    refine lv_iconst (v := 1) hx hb dX7_pulls_14 (by decide) ?_
    skip
    refine zw_V (As := [.int 1]) (rest := []) (wr := []) ⟨hx, hb, hml, hown, hts⟩ (c_refuse_1 l D cI cJ cZ cP cS x0 xs j0 k0 w0 rd mv xr  H.size) (cwV 1 hts gX7_pulls_X7_refuse rfl rfl rfl (by decide +kernel) ⟨Nat.le_of_ble_eq_true rfl, Nat.le_of_ble_eq_true rfl⟩) hK hN (hZ.kept hS) hP hD hS hA [0, 1] [] rfl rfl (by decide) (by decide) (by decide) (va_recv hK hP (ci := 7) (q0 := 0) rfl rfl) rfl hl.1 rfl (Nat.le_of_ble_eq_true rfl) dX7_pulls_15 ⟨Nat.le_of_ble_eq_true rfl, Nat.le_of_ble_eq_true rfl⟩ (fun r_4 u_5 H locs hr_4 hP hD hS => ?_)
    obtain rfl := hr_4
    exact W.iret (v := (-1)) hx hb hr (fun t ht hW => ⟨⟨(-1), (), rfl, Or.inl (⟨rfl, (by first | omega | decide)⟩), zP_nil, zD_nil⟩, hS.F ht⟩) hS.2.2 dX7_pulls_18
  · refine lv_astore_nN (lv' := [(2, .null), (0, .ref x0), (1, .int p_)]) hx hb dX7_pulls_8 rfl hl (by decide) rfl (fun ls hl => ?_)
    refine lv_aload_nN hx hb dX7_pulls_9 rfl (lv_at hl 0 rfl) ?_
    refine lv_ifnonnullN hx hb dX7_pulls_10 ?_
    refine lv_aload_n hx hb dX7_pulls_13 rfl (lv_at hl 1 rfl) ?_
    refine lv_iconst (v := 1) hx hb dX7_pulls_14 (by decide) ?_
    skip
    refine zw_V (As := [.int 1]) (rest := []) (wr := []) ⟨hx, hb, hml, hown, hts⟩ (c_refuse_1 l D cI cJ cZ cP cS x0 xs j0 k0 w0 rd mv xr  H.size) (cwV 1 hts gX7_pulls_X7_refuse rfl rfl rfl (by decide +kernel) ⟨Nat.le_of_ble_eq_true rfl, Nat.le_of_ble_eq_true rfl⟩) hK hN (hZ.kept hS) hP hD hS hA [0, 1] [] rfl rfl (by decide) (by decide) (by decide) (va_recv hK hP (ci := 7) (q0 := 0) rfl rfl) rfl hl.1 rfl (Nat.le_of_ble_eq_true rfl) dX7_pulls_15 ⟨Nat.le_of_ble_eq_true rfl, Nat.le_of_ble_eq_true rfl⟩ (fun r_6 u_7 H locs hr_6 hP hD hS => ?_)
    obtain rfl := hr_6
    exact W.iret (v := (-1)) hx hb hr (fun t ht hW => ⟨⟨(-1), (), rfl, Or.inr (⟨rfl, (by first | omega | decide)⟩), zP_nil, zD_nil⟩, hS.F ht⟩) hS.2.2 dX7_pulls_18
theorem hi_X7_close_7 : ∀ w ∈ u_ws RX7 TX7 9, w ∈ wsX7_close := by decide +kernel
theorem hi_X7_close_0 : ∀ w ∈ u_ws RX0 TX0 9, w ∈ wsX7_close := by decide +kernel
theorem hi_X7_close_6 : ∀ w ∈ u_ws RX6 TX6 5, w ∈ wsX7_close := by decide +kernel
set_option maxHeartbeats 4000000 in
set_option maxRecDepth 100000 in
theorem c_close (l : Launch) (D : va_G) (cI cJ cZ cP cS : ClassId) (x0 xs j0 k0 w0 rd mv xr : Nat) (jp jc z0 zl zs : Nat)   (sz : Nat) : Met l yX7_close wsX7_close ({ frames := 4, cells := 0, slots := 0, locals := 84 }) (va_Pc [.ref x0] (zW D (zKT cI cJ cZ cP cS) [(x0, .inr (7, [.ref xs, .ref j0, .ref k0, .ref w0, .ref rd, .ref mv, .ref xr, .int 0, .int (-1)])), (xr, .inl (cI, 8, .inl (fun _ => 0))), (j0, .inr (0, [.ref z0, .ref jp, .ref jc, .int 0, .int 0, .int 0, .int 60, .int 0, .int 1])), (z0, .inr (6, [.ref zl, .ref zs, .int 20, .int 0, .int 3])), (zl, .inl (cZ, 40, .inl (fun _ => 0))), (zs, .inl (cI, 40, .inl (fun _ => 0)))] sz)) (va_Qi (fun (r : Int32) (_ : Unit) => r = 20) (zB D [(x0, .inr (7, [.ref xs, .ref j0, .ref k0, .ref w0, .ref rd, .ref mv, .ref xr, .int 0, .int (-1)])), (xr, .inl (cI, 8, .inl (fun _ => 0))), (j0, .inr (0, [.ref z0, .ref jp, .ref jc, .int 0, .int 0, .int 0, .int 60, .int 0, .int 1])), (z0, .inr (6, [.ref zl, .ref zs, .int 20, .int 0, .int 3])), (zl, .inl (cZ, 40, .inl (fun _ => 0))), (zs, .inl (cI, 40, .inl (fun _ => 0)))] sz (fun (_ : Unit) => ([] : va_W))) (va_A [(x0, .inr (7, [.ref xs, .ref j0, .ref k0, .ref w0, .ref rd, .ref mv, .ref xr, .int 0, .int (-1)])), (xr, .inl (cI, 8, .inl (fun _ => 0))), (j0, .inr (0, [.ref z0, .ref jp, .ref jc, .int 0, .int 0, .int 0, .int 60, .int 0, .int 1])), (z0, .inr (6, [.ref zl, .ref zs, .int 20, .int 0, .int 3])), (zl, .inl (cZ, 40, .inl (fun _ => 0))), (zs, .inl (cI, 40, .inl (fun _ => 0)))] sz)) 0 0 (va_A [(x0, .inr (7, [.ref xs, .ref j0, .ref k0, .ref w0, .ref rd, .ref mv, .ref xr, .int 0, .int (-1)])), (xr, .inl (cI, 8, .inl (fun _ => 0))), (j0, .inr (0, [.ref z0, .ref jp, .ref jc, .int 0, .int 0, .int 0, .int 60, .int 0, .int 1])), (z0, .inr (6, [.ref zl, .ref zs, .int 20, .int 0, .int 3])), (zl, .inl (cZ, 40, .inl (fun _ => 0))), (zs, .inl (cI, 40, .inl (fun _ => 0)))] sz) := by
  refine Met.ofW (cc := cX7_close) (maxL := 1) (ret := (some .int)) (by decide) rfl ?_
  intro p e s m args below meth c s₁ B hml hv
  obtain ⟨rfl, hsz, hP, hK, hD0, hN, hZ⟩ := hv
  have hx := B.exec
  have hb := B.bytes
  have hr := B.returns
  have hts := atoms_spec (ws := wsX7_close) B.pre
  have hown : s.vm.findClass RX7 = some m.cls := findClass_of_methodNamed B.named
  have hlocks := B.notSynchronized
  subst hsz
  have hD := hD0.self (sz := s.heap.size)
  have hA : ∀ q : Nat, s.heap.size ≤ q → va_A [(x0, .inr (7, [.ref xs, .ref j0, .ref k0, .ref w0, .ref rd, .ref mv, .ref xr, .int 0, .int (-1)])), (xr, .inl (cI, 8, .inl (fun _ => 0))), (j0, .inr (0, [.ref z0, .ref jp, .ref jc, .int 0, .int 0, .int 0, .int 60, .int 0, .int 1])), (z0, .inr (6, [.ref zl, .ref zs, .int 20, .int 0, .int 3])), (zl, .inl (cZ, 40, .inl (fun _ => 0))), (zs, .inl (cI, 40, .inl (fun _ => 0)))] s.heap.size q := fun q h => Or.inr h
  have hS : va_S (va_A [(x0, .inr (7, [.ref xs, .ref j0, .ref k0, .ref w0, .ref rd, .ref mv, .ref xr, .int 0, .int (-1)])), (xr, .inl (cI, 8, .inl (fun _ => 0))), (j0, .inr (0, [.ref z0, .ref jp, .ref jc, .int 0, .int 0, .int 0, .int 60, .int 0, .int 1])), (z0, .inr (6, [.ref zl, .ref zs, .int 20, .int 0, .int 3])), (zl, .inl (cZ, 40, .inl (fun _ => 0))), (zs, .inl (cI, 40, .inl (fun _ => 0)))] s.heap.size) s.heap s.heap [] := va_S.rf
  replace hP : va_P D vwCl _ s.heap := hP
  have hl := lv_entry ([.ref x0]) (n := 1) (Nat.le_of_ble_eq_true rfl)
  rw [lg_entry_eq]
  generalize (lg_sl ([.ref x0]) ++ List.replicate (1 - (lg_sl ([.ref x0])).length) Slot.unset).toArray = ls at hl ⊢
  replace hl : lv_has ls 1 [(0, .ref x0)] := hl
  refine zw_start (fun H locs hH hL => ?_)
  replace hP : va_P D vwCl [(x0, .inr (7, [.ref xs, .ref j0, .ref k0, .ref w0, .ref rd, .ref mv, .ref xr, .int 0, .int (-1)])), (xr, .inl (cI, 8, .inl (fun _ => 0))), (j0, .inr (0, [.ref z0, .ref jp, .ref jc, .int 0, .int 0, .int 0, .int 60, .int 0, .int 1])), (z0, .inr (6, [.ref zl, .ref zs, .int 20, .int 0, .int 3])), (zl, .inl (cZ, 40, .inl (fun _ => 0))), (zs, .inl (cI, 40, .inl (fun _ => 0)))] H := by rw [hH]; exact hP
  replace hS : va_S (va_A [(x0, .inr (7, [.ref xs, .ref j0, .ref k0, .ref w0, .ref rd, .ref mv, .ref xr, .int 0, .int (-1)])), (xr, .inl (cI, 8, .inl (fun _ => 0))), (j0, .inr (0, [.ref z0, .ref jp, .ref jc, .int 0, .int 0, .int 0, .int 60, .int 0, .int 1])), (z0, .inr (6, [.ref zl, .ref zs, .int 20, .int 0, .int 3])), (zl, .inl (cZ, 40, .inl (fun _ => 0))), (zs, .inl (cI, 40, .inl (fun _ => 0)))] s.heap.size) s.heap H locs := by rw [hH, hL]; exact hS
  clear hH hL
  refine lv_aload_n hx hb dX7_close_0 rfl (lv_at hl 0 rfl) ?_
  refine va_get (D := D) (ci := 7) (v := .ref j0) (C := RX7) (T := TX7) (N := 9) hx hb hts hi_X7_close_7 hown hK hP 0 rfl rfl 1 (by decide) (hts (.fieldLink RX7 18 "TheLiningsInIt" "now" "LTheLiningsInIt$Jacket;") (List.mem_of_getElem? (i := 1) rfl)) (fun _ h9 => h9) rfl dX7_close_1 ?_
  refine va_get (D := D) (ci := 0) (v := .int 0) (C := RX0) (T := TX0) (N := 9) hx hb hts hi_X7_close_0 hown hK hP 2 rfl rfl 4 (by decide) (hts (.fieldLink RX7 199 "TheLiningsInIt$Jacket" "depth" "I") (List.mem_of_getElem? (i := 2) rfl)) (fun _ h9 => h9) rfl dX7_close_4 ?_
  refine lv_if_eq (tgt := 17) hx hb dX7_close_7 (by decide) (fun c_1 => ?_) (fun c_1 => ?_)
  · refine lv_aload_n hx hb dX7_close_17 rfl (lv_at hl 0 rfl) ?_
    refine va_get (D := D) (ci := 7) (v := .ref j0) (C := RX7) (T := TX7) (N := 9) hx hb hts hi_X7_close_7 hown hK hP 0 rfl rfl 1 (by decide) (hts (.fieldLink RX7 18 "TheLiningsInIt" "now" "LTheLiningsInIt$Jacket;") (List.mem_of_getElem? (i := 1) rfl)) (fun _ h9 => h9) rfl dX7_close_18 ?_
    skip
    refine zw_Vv (As := []) (rest := []) (wr := [(x0, .inr (7, [.ref xs, .ref j0, .ref k0, .ref w0, .ref rd, .ref mv, .ref xr, .int 0, .int (-1)])), (xr, .inl (cI, 8, .inl (fun _ => 0)))]) ⟨hx, hb, hml, hown, hts⟩ (c_J_closeInTruth l D cI cJ cZ cP cS j0 jp jc z0 zl zs  H.size) (cwV 0 hts gX7_close_X0_closeInTruth rfl rfl rfl (by decide +kernel) ⟨Nat.le_of_ble_eq_true rfl, Nat.le_of_ble_eq_true rfl⟩) hK hN (hZ.kept hS) hP hD hS hA [2, 3, 4, 5] [0, 1] rfl rfl (by decide) (by decide) (by decide) (va_recv hK hP (ci := 0) (q0 := 2) rfl rfl) rfl hl.1 rfl (Nat.le_of_ble_eq_true rfl) dX7_close_21 ⟨Nat.le_of_ble_eq_true rfl, Nat.le_of_ble_eq_true rfl⟩ (fun u_3 H locs hr_2 hP hD hS => ?_)
    replace hP : va_P D vwCl [(x0, .inr (7, [.ref xs, .ref j0, .ref k0, .ref w0, .ref rd, .ref mv, .ref xr, .int 0, .int (-1)])), (xr, .inl (cI, 8, .inl (fun _ => 0))), (j0, .inr (0, [.ref z0, .ref jp, .ref jc, .int 0, .int 0, .int 0, .int 60, .int 0, .int 1])), (z0, .inr (6, [.ref zl, .ref zs, .int 20, .int 20, .int 3])), (zl, .inl (cZ, 40, .inl (fun _ => 0))), (zs, .inl (cI, 40, .inl (fun _ => 0)))] H := hP
    replace hD : va_D _ [(x0, .inr (7, [.ref xs, .ref j0, .ref k0, .ref w0, .ref rd, .ref mv, .ref xr, .int 0, .int (-1)])), (xr, .inl (cI, 8, .inl (fun _ => 0))), (j0, .inr (0, [.ref z0, .ref jp, .ref jc, .int 0, .int 0, .int 0, .int 60, .int 0, .int 1])), (z0, .inr (6, [.ref zl, .ref zs, .int 20, .int 20, .int 3])), (zl, .inl (cZ, 40, .inl (fun _ => 0))), (zs, .inl (cI, 40, .inl (fun _ => 0)))] := hD
    refine lv_aload_n hx hb dX7_close_24 rfl (lv_at hl 0 rfl) ?_
    refine va_get (D := D) (ci := 7) (v := .ref j0) (C := RX7) (T := TX7) (N := 9) hx hb hts hi_X7_close_7 hown hK hP 0 rfl rfl 1 (by decide) (hts (.fieldLink RX7 18 "TheLiningsInIt" "now" "LTheLiningsInIt$Jacket;") (List.mem_of_getElem? (i := 1) rfl)) (fun _ h9 => h9) rfl dX7_close_25 ?_
    refine va_get (D := D) (ci := 0) (v := .ref z0) (C := RX0) (T := TX0) (N := 9) hx hb hts hi_X7_close_0 hown hK hP 2 rfl rfl 0 (by decide) (hts (.fieldLink RX7 140 "TheLiningsInIt$Jacket" "zip" "LTheLiningsInIt$Zip;") (List.mem_of_getElem? (i := 3) rfl)) (fun _ h9 => h9) rfl dX7_close_28 ?_
    refine va_get (D := D) (ci := 6) (v := .int 20) (C := RX6) (T := TX6) (N := 5) hx hb hts hi_X7_close_6 hown hK hP 3 rfl rfl 3 (by decide) (hts (.fieldLink RX7 275 "TheLiningsInIt$Zip" "at" "I") (List.mem_of_getElem? (i := 4) rfl)) (fun _ h9 => h9) rfl dX7_close_31 ?_
    exact W.iret (v := 20) hx hb hr (fun t ht hW => ⟨⟨20, (), rfl, rfl, zP_nil, zD_nil⟩, hS.F ht⟩) hS.2.2 dX7_close_34
  · exact absurd c_1 (by decide)
theorem hi_X7_stitch_7 : ∀ w ∈ u_ws RX7 TX7 9, w ∈ wsX7_stitch := by decide +kernel
theorem hi_X7_stitch_0 : ∀ w ∈ u_ws RX0 TX0 9, w ∈ wsX7_stitch := by decide +kernel
set_option maxHeartbeats 4000000 in
set_option maxRecDepth 100000 in
theorem c_stitch (l : Launch) (D : va_G) (cI cJ cZ cP cS : ClassId) (x0 xs j0 k0 w0 rd mv xr : Nat) (jp jc z0 zl zs : Nat) (t_ : Int32)  (sz : Nat) : Met l yX7_stitch wsX7_stitch ({ frames := 2, cells := 0, slots := 0, locals := 44 }) (va_Pc [.ref x0, .int t_] (zW D (zKT cI cJ cZ cP cS) [(x0, .inr (7, [.ref xs, .ref j0, .ref k0, .ref w0, .ref rd, .ref mv, .ref xr, .int 0, .int (-1)])), (xr, .inl (cI, 8, .inl (fun _ => 0))), (j0, .inr (0, [.ref z0, .ref jp, .ref jc, .int 0, .int 0, .int 0, .int 60, .int 0, .int 1])), (z0, .inr (6, [.ref zl, .ref zs, .int 20, .int 0, .int 3])), (zs, .inl (cI, 40, .inl (fun _ => 0)))] sz)) (va_Qi (fun (r : Int32) (_ : Unit) => (r = (-1) ∧ t_.toInt < 0) ∨ (r = (-1) ∧ 0 ≤ t_.toInt ∧ 20 ≤ t_.toInt) ∨ (r = 0 ∧ 0 ≤ t_.toInt ∧ t_.toInt < 20)) (zB D [(x0, .inr (7, [.ref xs, .ref j0, .ref k0, .ref w0, .ref rd, .ref mv, .ref xr, .int 0, .int (-1)])), (xr, .inl (cI, 8, .inl (fun _ => 0))), (j0, .inr (0, [.ref z0, .ref jp, .ref jc, .int 0, .int 0, .int 0, .int 60, .int 0, .int 1])), (z0, .inr (6, [.ref zl, .ref zs, .int 20, .int 0, .int 3])), (zs, .inl (cI, 40, .inl (fun _ => 0)))] sz (fun (_ : Unit) => ([] : va_W))) (va_A [(x0, .inr (7, [.ref xs, .ref j0, .ref k0, .ref w0, .ref rd, .ref mv, .ref xr, .int 0, .int (-1)])), (xr, .inl (cI, 8, .inl (fun _ => 0))), (j0, .inr (0, [.ref z0, .ref jp, .ref jc, .int 0, .int 0, .int 0, .int 60, .int 0, .int 1])), (z0, .inr (6, [.ref zl, .ref zs, .int 20, .int 0, .int 3])), (zs, .inl (cI, 40, .inl (fun _ => 0)))] sz)) 0 0 (va_A [(x0, .inr (7, [.ref xs, .ref j0, .ref k0, .ref w0, .ref rd, .ref mv, .ref xr, .int 0, .int (-1)])), (xr, .inl (cI, 8, .inl (fun _ => 0))), (j0, .inr (0, [.ref z0, .ref jp, .ref jc, .int 0, .int 0, .int 0, .int 60, .int 0, .int 1])), (z0, .inr (6, [.ref zl, .ref zs, .int 20, .int 0, .int 3])), (zs, .inl (cI, 40, .inl (fun _ => 0)))] sz) := by
  refine Met.ofW (cc := cX7_stitch) (maxL := 2) (ret := (some .int)) (by decide) rfl ?_
  intro p e s m args below meth c s₁ B hml hv
  obtain ⟨rfl, hsz, hP, hK, hD0, hN, hZ⟩ := hv
  have hx := B.exec
  have hb := B.bytes
  have hr := B.returns
  have hts := atoms_spec (ws := wsX7_stitch) B.pre
  have hown : s.vm.findClass RX7 = some m.cls := findClass_of_methodNamed B.named
  have hlocks := B.notSynchronized
  subst hsz
  have hD := hD0.self (sz := s.heap.size)
  have hA : ∀ q : Nat, s.heap.size ≤ q → va_A [(x0, .inr (7, [.ref xs, .ref j0, .ref k0, .ref w0, .ref rd, .ref mv, .ref xr, .int 0, .int (-1)])), (xr, .inl (cI, 8, .inl (fun _ => 0))), (j0, .inr (0, [.ref z0, .ref jp, .ref jc, .int 0, .int 0, .int 0, .int 60, .int 0, .int 1])), (z0, .inr (6, [.ref zl, .ref zs, .int 20, .int 0, .int 3])), (zs, .inl (cI, 40, .inl (fun _ => 0)))] s.heap.size q := fun q h => Or.inr h
  have hS : va_S (va_A [(x0, .inr (7, [.ref xs, .ref j0, .ref k0, .ref w0, .ref rd, .ref mv, .ref xr, .int 0, .int (-1)])), (xr, .inl (cI, 8, .inl (fun _ => 0))), (j0, .inr (0, [.ref z0, .ref jp, .ref jc, .int 0, .int 0, .int 0, .int 60, .int 0, .int 1])), (z0, .inr (6, [.ref zl, .ref zs, .int 20, .int 0, .int 3])), (zs, .inl (cI, 40, .inl (fun _ => 0)))] s.heap.size) s.heap s.heap [] := va_S.rf
  replace hP : va_P D vwCl _ s.heap := hP
  have hl := lv_entry ([.ref x0, .int t_]) (n := 2) (Nat.le_of_ble_eq_true rfl)
  rw [lg_entry_eq]
  generalize (lg_sl ([.ref x0, .int t_]) ++ List.replicate (2 - (lg_sl ([.ref x0, .int t_])).length) Slot.unset).toArray = ls at hl ⊢
  replace hl : lv_has ls 2 [(0, .ref x0), (1, .int t_)] := hl
  refine zw_start (fun H locs hH hL => ?_)
  replace hP : va_P D vwCl [(x0, .inr (7, [.ref xs, .ref j0, .ref k0, .ref w0, .ref rd, .ref mv, .ref xr, .int 0, .int (-1)])), (xr, .inl (cI, 8, .inl (fun _ => 0))), (j0, .inr (0, [.ref z0, .ref jp, .ref jc, .int 0, .int 0, .int 0, .int 60, .int 0, .int 1])), (z0, .inr (6, [.ref zl, .ref zs, .int 20, .int 0, .int 3])), (zs, .inl (cI, 40, .inl (fun _ => 0)))] H := by rw [hH]; exact hP
  replace hS : va_S (va_A [(x0, .inr (7, [.ref xs, .ref j0, .ref k0, .ref w0, .ref rd, .ref mv, .ref xr, .int 0, .int (-1)])), (xr, .inl (cI, 8, .inl (fun _ => 0))), (j0, .inr (0, [.ref z0, .ref jp, .ref jc, .int 0, .int 0, .int 0, .int 60, .int 0, .int 1])), (z0, .inr (6, [.ref zl, .ref zs, .int 20, .int 0, .int 3])), (zs, .inl (cI, 40, .inl (fun _ => 0)))] s.heap.size) s.heap H locs := by rw [hH, hL]; exact hS
  clear hH hL
  refine lv_aload_n hx hb dX7_stitch_0 rfl (lv_at hl 0 rfl) ?_
  refine va_get (D := D) (ci := 7) (v := .ref j0) (C := RX7) (T := TX7) (N := 9) hx hb hts hi_X7_stitch_7 hown hK hP 0 rfl rfl 1 (by decide) (hts (.fieldLink RX7 18 "TheLiningsInIt" "now" "LTheLiningsInIt$Jacket;") (List.mem_of_getElem? (i := 1) rfl)) (fun _ h9 => h9) rfl dX7_stitch_1 ?_
  refine va_get (D := D) (ci := 0) (v := .ref z0) (C := RX0) (T := TX0) (N := 9) hx hb hts hi_X7_stitch_0 hown hK hP 2 rfl rfl 0 (by decide) (hts (.fieldLink RX7 140 "TheLiningsInIt$Jacket" "zip" "LTheLiningsInIt$Zip;") (List.mem_of_getElem? (i := 2) rfl)) (fun _ h9 => h9) rfl dX7_stitch_4 ?_
  refine lv_iload_n hx hb dX7_stitch_7 rfl (lv_at hl 1 rfl) ?_
  have kc20 : (20 : Int32).toInt = 20 := by decide
  refine zc_V (As := [.int t_]) (rest := []) ⟨hx, hb, hml, hown, hts⟩ (c_Zip_has l D cI cJ cZ cP cS z0 zl zs (20) (0) (3) (t_) ) (cwV 1 hts gX7_stitch_X6_has rfl rfl rfl (by decide +kernel) ⟨Nat.le_of_ble_eq_true rfl, Nat.le_of_ble_eq_true rfl⟩) hK hN (hZ.kept hS) hP [3] rfl (va_recv hK hP (ci := 6) (q0 := 3) rfl rfl) rfl hl.1 rfl (Nat.le_of_ble_eq_true rfl) dX7_stitch_8 ⟨Nat.le_of_ble_eq_true rfl, Nat.le_of_ble_eq_true rfl⟩ (fun r_1 hr_1 => ?_)
  rcases hr_1 with ⟨rfl, g_2⟩ | ⟨rfl, g_3, g_4⟩ | ⟨rfl, g_5, g_6⟩
  · refine lv_if_ne (tgt := 20) hx hb dX7_stitch_11 (by decide) (fun c_7 => ?_) (fun c_7 => ?_)
    · exact absurd c_7 (by decide)
    · refine lv_aload_n hx hb dX7_stitch_14 rfl (lv_at hl 0 rfl) ?_
      refine lv_iconst (v := 1) hx hb dX7_stitch_15 (by decide) ?_
      skip
      refine zw_V (As := [.int 1]) (rest := []) (wr := []) ⟨hx, hb, hml, hown, hts⟩ (c_refuse_1 l D cI cJ cZ cP cS x0 xs j0 k0 w0 rd mv xr  H.size) (cwV 1 hts gX7_stitch_X7_refuse rfl rfl rfl (by decide +kernel) ⟨Nat.le_of_ble_eq_true rfl, Nat.le_of_ble_eq_true rfl⟩) hK hN (hZ.kept hS) hP hD hS hA [0, 1] [] rfl rfl (by decide) (by decide) (by decide) (va_recv hK hP (ci := 7) (q0 := 0) rfl rfl) rfl hl.1 rfl (Nat.le_of_ble_eq_true rfl) dX7_stitch_16 ⟨Nat.le_of_ble_eq_true rfl, Nat.le_of_ble_eq_true rfl⟩ (fun r_8 u_9 H locs hr_8 hP hD hS => ?_)
      obtain rfl := hr_8
      exact W.iret (v := (-1)) hx hb hr (fun t ht hW => ⟨⟨(-1), (), rfl, Or.inl (⟨rfl, (by first | omega | decide)⟩), zP_nil, zD_nil⟩, hS.F ht⟩) hS.2.2 dX7_stitch_19
  · refine lv_if_ne (tgt := 20) hx hb dX7_stitch_11 (by decide) (fun c_10 => ?_) (fun c_10 => ?_)
    · exact absurd c_10 (by decide)
    · refine lv_aload_n hx hb dX7_stitch_14 rfl (lv_at hl 0 rfl) ?_
      refine lv_iconst (v := 1) hx hb dX7_stitch_15 (by decide) ?_
      skip
      refine zw_V (As := [.int 1]) (rest := []) (wr := []) ⟨hx, hb, hml, hown, hts⟩ (c_refuse_1 l D cI cJ cZ cP cS x0 xs j0 k0 w0 rd mv xr  H.size) (cwV 1 hts gX7_stitch_X7_refuse rfl rfl rfl (by decide +kernel) ⟨Nat.le_of_ble_eq_true rfl, Nat.le_of_ble_eq_true rfl⟩) hK hN (hZ.kept hS) hP hD hS hA [0, 1] [] rfl rfl (by decide) (by decide) (by decide) (va_recv hK hP (ci := 7) (q0 := 0) rfl rfl) rfl hl.1 rfl (Nat.le_of_ble_eq_true rfl) dX7_stitch_16 ⟨Nat.le_of_ble_eq_true rfl, Nat.le_of_ble_eq_true rfl⟩ (fun r_11 u_12 H locs hr_11 hP hD hS => ?_)
      obtain rfl := hr_11
      exact W.iret (v := (-1)) hx hb hr (fun t ht hW => ⟨⟨(-1), (), rfl, Or.inr (Or.inl (⟨rfl, (by first | omega | decide), (by first | omega | decide)⟩)), zP_nil, zD_nil⟩, hS.F ht⟩) hS.2.2 dX7_stitch_19
  · refine lv_if_ne (tgt := 20) hx hb dX7_stitch_11 (by decide) (fun c_13 => ?_) (fun c_13 => ?_)
    · refine lv_aload_n hx hb dX7_stitch_20 rfl (lv_at hl 0 rfl) ?_
      refine va_get (D := D) (ci := 7) (v := .ref j0) (C := RX7) (T := TX7) (N := 9) hx hb hts hi_X7_stitch_7 hown hK hP 0 rfl rfl 1 (by decide) (hts (.fieldLink RX7 18 "TheLiningsInIt" "now" "LTheLiningsInIt$Jacket;") (List.mem_of_getElem? (i := 1) rfl)) (fun _ h9 => h9) rfl dX7_stitch_21 ?_
      refine va_get (D := D) (ci := 0) (v := .ref z0) (C := RX0) (T := TX0) (N := 9) hx hb hts hi_X7_stitch_0 hown hK hP 2 rfl rfl 0 (by decide) (hts (.fieldLink RX7 140 "TheLiningsInIt$Jacket" "zip" "LTheLiningsInIt$Zip;") (List.mem_of_getElem? (i := 2) rfl)) (fun _ h9 => h9) rfl dX7_stitch_24 ?_
      refine lv_iload_n hx hb dX7_stitch_27 rfl (lv_at hl 1 rfl) ?_
      skip
      refine zw_V (As := [.int t_]) (rest := []) (wr := []) ⟨hx, hb, hml, hown, hts⟩ (c_Zip_takeSlack l D cI cJ cZ cP cS z0 zl zs (t_) (by omega) (by omega) H.size) (cwV 1 hts gX7_stitch_X6_takeSlack rfl rfl rfl (by decide +kernel) ⟨Nat.le_of_ble_eq_true rfl, Nat.le_of_ble_eq_true rfl⟩) hK hN (hZ.kept hS) hP hD hS hA [3, 4] [] rfl rfl (by decide) (by decide) (by decide) (va_recv hK hP (ci := 6) (q0 := 3) rfl rfl) rfl hl.1 rfl (Nat.le_of_ble_eq_true rfl) dX7_stitch_28 ⟨Nat.le_of_ble_eq_true rfl, Nat.le_of_ble_eq_true rfl⟩ (fun r_14 u_15 H locs hr_14 hP hD hS => ?_)
      obtain rfl := hr_14
      exact W.iret (v := 0) hx hb hr (fun t ht hW => ⟨⟨0, (), rfl, Or.inr (Or.inr (⟨rfl, (by first | omega | decide), (by first | omega | decide)⟩)), zP_nil, zD_nil⟩, hS.F ht⟩) hS.2.2 dX7_stitch_31
    · exact absurd c_13 (by decide)
theorem hi_X7_seed_7 : ∀ w ∈ u_ws RX7 TX7 9, w ∈ wsX7_seed := by decide +kernel
theorem hi_X7_seed_0 : ∀ w ∈ u_ws RX0 TX0 9, w ∈ wsX7_seed := by decide +kernel
set_option maxHeartbeats 4000000 in
set_option maxRecDepth 100000 in
theorem c_seed (l : Launch) (D : va_G) (cI cJ cZ cP cS : ClassId) (x0 xs j0 k0 w0 rd mv xr : Nat) (jp jc z0 zl zs : Nat) (v : Int32)  (sz : Nat) : Met l yX7_seed wsX7_seed ({ frames := 0, cells := 0, slots := 0, locals := 0 }) (va_Pc [.ref x0, .int v] (zW D (zKT cI cJ cZ cP cS) [(x0, .inr (7, [.ref xs, .ref j0, .ref k0, .ref w0, .ref rd, .ref mv, .ref xr, .int 0, .int (-1)])), (j0, .inr (0, [.ref z0, .ref jp, .ref jc, .int 0, .int 0, .int 0, .int 60, .int 0, .int 1]))] sz)) (va_Qi (fun (r : Int32) (_ : Unit) => r = 1) (zB D [(x0, .inr (7, [.ref xs, .ref j0, .ref k0, .ref w0, .ref rd, .ref mv, .ref xr, .int 0, .int (-1)])), (j0, .inr (0, [.ref z0, .ref jp, .ref jc, .int 0, .int 0, .int 0, .int 60, .int 0, .int 1]))] sz (fun (_ : Unit) => ([] : va_W))) (va_A [(x0, .inr (7, [.ref xs, .ref j0, .ref k0, .ref w0, .ref rd, .ref mv, .ref xr, .int 0, .int (-1)])), (j0, .inr (0, [.ref z0, .ref jp, .ref jc, .int 0, .int 0, .int 0, .int 60, .int 0, .int 1]))] sz)) 0 0 (va_A [(x0, .inr (7, [.ref xs, .ref j0, .ref k0, .ref w0, .ref rd, .ref mv, .ref xr, .int 0, .int (-1)])), (j0, .inr (0, [.ref z0, .ref jp, .ref jc, .int 0, .int 0, .int 0, .int 60, .int 0, .int 1]))] sz) := by
  refine Met.ofW (cc := cX7_seed) (maxL := 3) (ret := (some .int)) (by decide) rfl ?_
  intro p e s m args below meth c s₁ B hml hv
  obtain ⟨rfl, hsz, hP, hK, hD0, hN, hZ⟩ := hv
  have hx := B.exec
  have hb := B.bytes
  have hr := B.returns
  have hts := atoms_spec (ws := wsX7_seed) B.pre
  have hown : s.vm.findClass RX7 = some m.cls := findClass_of_methodNamed B.named
  have hlocks := B.notSynchronized
  subst hsz
  have hD := hD0.self (sz := s.heap.size)
  have hA : ∀ q : Nat, s.heap.size ≤ q → va_A [(x0, .inr (7, [.ref xs, .ref j0, .ref k0, .ref w0, .ref rd, .ref mv, .ref xr, .int 0, .int (-1)])), (j0, .inr (0, [.ref z0, .ref jp, .ref jc, .int 0, .int 0, .int 0, .int 60, .int 0, .int 1]))] s.heap.size q := fun q h => Or.inr h
  have hS : va_S (va_A [(x0, .inr (7, [.ref xs, .ref j0, .ref k0, .ref w0, .ref rd, .ref mv, .ref xr, .int 0, .int (-1)])), (j0, .inr (0, [.ref z0, .ref jp, .ref jc, .int 0, .int 0, .int 0, .int 60, .int 0, .int 1]))] s.heap.size) s.heap s.heap [] := va_S.rf
  replace hP : va_P D vwCl _ s.heap := hP
  have hl := lv_entry ([.ref x0, .int v]) (n := 3) (Nat.le_of_ble_eq_true rfl)
  rw [lg_entry_eq]
  generalize (lg_sl ([.ref x0, .int v]) ++ List.replicate (3 - (lg_sl ([.ref x0, .int v])).length) Slot.unset).toArray = ls at hl ⊢
  replace hl : lv_has ls 3 [(0, .ref x0), (1, .int v)] := hl
  refine zw_start (fun H locs hH hL => ?_)
  replace hP : va_P D vwCl [(x0, .inr (7, [.ref xs, .ref j0, .ref k0, .ref w0, .ref rd, .ref mv, .ref xr, .int 0, .int (-1)])), (j0, .inr (0, [.ref z0, .ref jp, .ref jc, .int 0, .int 0, .int 0, .int 60, .int 0, .int 1]))] H := by rw [hH]; exact hP
  replace hS : va_S (va_A [(x0, .inr (7, [.ref xs, .ref j0, .ref k0, .ref w0, .ref rd, .ref mv, .ref xr, .int 0, .int (-1)])), (j0, .inr (0, [.ref z0, .ref jp, .ref jc, .int 0, .int 0, .int 0, .int 60, .int 0, .int 1]))] s.heap.size) s.heap H locs := by rw [hH, hL]; exact hS
  clear hH hL
  refine lv_aload_n hx hb dX7_seed_0 rfl (lv_at hl 0 rfl) ?_
  refine va_get (D := D) (ci := 7) (v := .ref j0) (C := RX7) (T := TX7) (N := 9) hx hb hts hi_X7_seed_7 hown hK hP 0 rfl rfl 1 (by decide) (hts (.fieldLink RX7 18 "TheLiningsInIt" "now" "LTheLiningsInIt$Jacket;") (List.mem_of_getElem? (i := 1) rfl)) (fun _ h9 => h9) rfl dX7_seed_1 ?_
  refine va_get (D := D) (ci := 0) (v := .int 1) (C := RX0) (T := TX0) (N := 9) hx hb hts hi_X7_seed_0 hown hK hP 1 rfl rfl 8 (by decide) (hts (.fieldLink RX7 285 "TheLiningsInIt$Jacket" "seedNow" "I") (List.mem_of_getElem? (i := 2) rfl)) (fun _ h9 => h9) rfl dX7_seed_4 ?_
  refine lv_istore_n (lv' := [(2, .int 1), (0, .ref x0), (1, .int v)]) hx hb dX7_seed_7 rfl hl (by decide) rfl (fun ls hl => ?_)
  refine lv_aload_n hx hb dX7_seed_8 rfl (lv_at hl 1 rfl) ?_
  refine va_get (D := D) (ci := 7) (v := .ref j0) (C := RX7) (T := TX7) (N := 9) hx hb hts hi_X7_seed_7 hown hK hP 0 rfl rfl 1 (by decide) (hts (.fieldLink RX7 18 "TheLiningsInIt" "now" "LTheLiningsInIt$Jacket;") (List.mem_of_getElem? (i := 1) rfl)) (fun _ h9 => h9) rfl dX7_seed_9 ?_
  refine lv_iload_n hx hb dX7_seed_12 rfl (lv_at hl 2 rfl) ?_
  refine va_put (D := D) (ci := 0) (v := .int v) (ty := .int) (C := RX0) (T := TX0) (N := 9) hx hb hts hi_X7_seed_0 tyX0 tyX0_ok nmX0 hown hK hP hD hS 1 rfl rfl 8 (by decide) (hts (.fieldLink RX7 285 "TheLiningsInIt$Jacket" "seedNow" "I") (List.mem_of_getElem? (i := 2) rfl)) (fun _ h9 => h9) rfl (by decide +kernel) rfl rfl (Nat.le_of_ble_eq_true rfl) dX7_seed_13 (fun H locs hP hD hS => ?_)
  refine lv_iload_n hx hb dX7_seed_16 rfl (lv_at hl 0 rfl) ?_
  exact W.iret (v := 1) hx hb hr (fun t ht hW => ⟨⟨1, (), rfl, rfl, zP_nil, zD_nil⟩, hS.F ht⟩) hS.2.2 dX7_seed_17
theorem hi_X7_act_7 : ∀ w ∈ u_ws RX7 TX7 9, w ∈ wsX7_act := by decide +kernel
theorem hi_X7_act_1 : ∀ w ∈ u_ws RX1 TX1 5, w ∈ wsX7_act := by decide +kernel
set_option maxHeartbeats 4000000 in
set_option maxRecDepth 100000 in
theorem c_act (l : Launch) (D : va_G) (cI cJ cZ cP cS : ClassId) (x0 xs j0 k0 w0 rd mv xr : Nat) (jp jc z0 zl zs : Nat) (mb : Nat) (p_ mo v : Int32)  (sz : Nat) : Met l yX7_act wsX7_act ({ frames := 2, cells := 0, slots := 0, locals := 43 }) (va_Pc [.ref x0, .int p_, .int mo, .int v] (zW D (zKT cI cJ cZ cP cS) [(x0, .inr (7, [.ref xs, .ref j0, .ref k0, .ref w0, .ref rd, .ref mv, .ref xr, .int 0, .int (-1)])), (j0, .inr (0, [.ref z0, .ref jp, .ref jc, .int 0, .int 0, .int 0, .int 60, .int 0, .int 1])), (mv, .inr (1, [.ref mb, .int 0, .int 0, .int 0, .int 0]))] sz)) (va_Qi (fun (r : Int32) (_ : Unit) => (r = 0 ∧ p_.toInt < 0) ∨ (r = 0 ∧ 0 ≤ p_.toInt)) (zB D [(x0, .inr (7, [.ref xs, .ref j0, .ref k0, .ref w0, .ref rd, .ref mv, .ref xr, .int 0, .int (-1)])), (j0, .inr (0, [.ref z0, .ref jp, .ref jc, .int 0, .int 0, .int 0, .int 60, .int 0, .int 1])), (mv, .inr (1, [.ref mb, .int 0, .int 0, .int 0, .int 0]))] sz (fun (_ : Unit) => ([] : va_W))) (va_A [(x0, .inr (7, [.ref xs, .ref j0, .ref k0, .ref w0, .ref rd, .ref mv, .ref xr, .int 0, .int (-1)])), (j0, .inr (0, [.ref z0, .ref jp, .ref jc, .int 0, .int 0, .int 0, .int 60, .int 0, .int 1])), (mv, .inr (1, [.ref mb, .int 0, .int 0, .int 0, .int 0]))] sz)) 0 0 (va_A [(x0, .inr (7, [.ref xs, .ref j0, .ref k0, .ref w0, .ref rd, .ref mv, .ref xr, .int 0, .int (-1)])), (j0, .inr (0, [.ref z0, .ref jp, .ref jc, .int 0, .int 0, .int 0, .int 60, .int 0, .int 1])), (mv, .inr (1, [.ref mb, .int 0, .int 0, .int 0, .int 0]))] sz) := by
  refine Met.ofW (cc := cX7_act) (maxL := 5) (ret := (some .int)) (by decide) rfl ?_
  intro p e s m args below meth c s₁ B hml hv
  obtain ⟨rfl, hsz, hP, hK, hD0, hN, hZ⟩ := hv
  have hx := B.exec
  have hb := B.bytes
  have hr := B.returns
  have hts := atoms_spec (ws := wsX7_act) B.pre
  have hown : s.vm.findClass RX7 = some m.cls := findClass_of_methodNamed B.named
  have hlocks := B.notSynchronized
  subst hsz
  have hD := hD0.self (sz := s.heap.size)
  have hA : ∀ q : Nat, s.heap.size ≤ q → va_A [(x0, .inr (7, [.ref xs, .ref j0, .ref k0, .ref w0, .ref rd, .ref mv, .ref xr, .int 0, .int (-1)])), (j0, .inr (0, [.ref z0, .ref jp, .ref jc, .int 0, .int 0, .int 0, .int 60, .int 0, .int 1])), (mv, .inr (1, [.ref mb, .int 0, .int 0, .int 0, .int 0]))] s.heap.size q := fun q h => Or.inr h
  have hS : va_S (va_A [(x0, .inr (7, [.ref xs, .ref j0, .ref k0, .ref w0, .ref rd, .ref mv, .ref xr, .int 0, .int (-1)])), (j0, .inr (0, [.ref z0, .ref jp, .ref jc, .int 0, .int 0, .int 0, .int 60, .int 0, .int 1])), (mv, .inr (1, [.ref mb, .int 0, .int 0, .int 0, .int 0]))] s.heap.size) s.heap s.heap [] := va_S.rf
  replace hP : va_P D vwCl _ s.heap := hP
  have hl := lv_entry ([.ref x0, .int p_, .int mo, .int v]) (n := 5) (Nat.le_of_ble_eq_true rfl)
  rw [lg_entry_eq]
  generalize (lg_sl ([.ref x0, .int p_, .int mo, .int v]) ++ List.replicate (5 - (lg_sl ([.ref x0, .int p_, .int mo, .int v])).length) Slot.unset).toArray = ls at hl ⊢
  replace hl : lv_has ls 5 [(0, .ref x0), (1, .int p_), (2, .int mo), (3, .int v)] := hl
  refine zw_start (fun H locs hH hL => ?_)
  replace hP : va_P D vwCl [(x0, .inr (7, [.ref xs, .ref j0, .ref k0, .ref w0, .ref rd, .ref mv, .ref xr, .int 0, .int (-1)])), (j0, .inr (0, [.ref z0, .ref jp, .ref jc, .int 0, .int 0, .int 0, .int 60, .int 0, .int 1])), (mv, .inr (1, [.ref mb, .int 0, .int 0, .int 0, .int 0]))] H := by rw [hH]; exact hP
  replace hS : va_S (va_A [(x0, .inr (7, [.ref xs, .ref j0, .ref k0, .ref w0, .ref rd, .ref mv, .ref xr, .int 0, .int (-1)])), (j0, .inr (0, [.ref z0, .ref jp, .ref jc, .int 0, .int 0, .int 0, .int 60, .int 0, .int 1])), (mv, .inr (1, [.ref mb, .int 0, .int 0, .int 0, .int 0]))] s.heap.size) s.heap H locs := by rw [hH, hL]; exact hS
  clear hH hL
  refine lv_aload_n hx hb dX7_act_0 rfl (lv_at hl 0 rfl) ?_
  refine va_get (D := D) (ci := 7) (v := .ref mv) (C := RX7) (T := TX7) (N := 9) hx hb hts hi_X7_act_7 hown hK hP 0 rfl rfl 5 (by decide) (hts (.fieldLink RX7 42 "TheLiningsInIt" "moves" "LTheLiningsInIt$Moves;") (List.mem_of_getElem? (i := 1) rfl)) (fun _ h9 => h9) rfl dX7_act_1 ?_
  refine lv_iconst (v := 0) hx hb dX7_act_4 (by decide) ?_
  refine va_put (D := D) (ci := 1) (v := .int 0) (ty := .int) (C := RX1) (T := TX1) (N := 5) hx hb hts hi_X7_act_1 tyX1 tyX1_ok nmX1 hown hK hP hD hS 2 rfl rfl 1 (by decide) (hts (.fieldLink RX7 288 "TheLiningsInIt$Moves" "ran" "I") (List.mem_of_getElem? (i := 2) rfl)) (fun _ h9 => h9) rfl (by decide +kernel) rfl rfl (Nat.le_of_ble_eq_true rfl) dX7_act_5 (fun H locs hP hD hS => ?_)
  refine lv_aload_n hx hb dX7_act_8 rfl (lv_at hl 0 rfl) ?_
  refine va_get (D := D) (ci := 7) (v := .ref j0) (C := RX7) (T := TX7) (N := 9) hx hb hts hi_X7_act_7 hown hK hP 0 rfl rfl 1 (by decide) (hts (.fieldLink RX7 18 "TheLiningsInIt" "now" "LTheLiningsInIt$Jacket;") (List.mem_of_getElem? (i := 3) rfl)) (fun _ h9 => h9) rfl dX7_act_9 ?_
  refine lv_iload_n hx hb dX7_act_12 rfl (lv_at hl 1 rfl) ?_
  refine zc_Vq (As := [.int p_]) (rest := []) ⟨hx, hb, hml, hown, hts⟩ (c_J_pullAt l D cI cJ cZ cP cS j0 jp jc z0 0 0 (p_) (0) ) (cwV 1 hts gX7_act_X0_pullAt rfl rfl rfl (by decide +kernel) ⟨Nat.le_of_ble_eq_true rfl, Nat.le_of_ble_eq_true rfl⟩) hK hN (hZ.kept hS) hP [1] rfl (va_recv hK hP (ci := 0) (q0 := 1) rfl rfl) rfl hl.1 rfl (Nat.le_of_ble_eq_true rfl) dX7_act_13 ⟨Nat.le_of_ble_eq_true rfl, Nat.le_of_ble_eq_true rfl⟩ (fun r_1 hr_1 => ?_)
  rcases hr_1 with ⟨rfl, g_2⟩ | ⟨rfl, g_3⟩
  · refine lv_astoreN (lv' := [(4, .null), (0, .ref x0), (1, .int p_), (2, .int mo), (3, .int v)]) hx hb dX7_act_16 hl (by decide) rfl (fun ls hl => ?_)
    refine lv_aloadN hx hb dX7_act_18 (lv_at hl 0 rfl) ?_
    refine lv_ifnullN (tgt := 32) hx hb dX7_act_20 (by decide) ?_
    refine lv_iconst (v := 0) hx hb dX7_act_32 (by decide) ?_
    exact W.iret (v := 0) hx hb hr (fun t ht hW => ⟨⟨0, (), rfl, Or.inl (⟨rfl, (by first | omega | decide)⟩), zP_nil, zD_nil⟩, hS.F ht⟩) hS.2.2 dX7_act_33
  · refine lv_astoreN (lv' := [(4, .null), (0, .ref x0), (1, .int p_), (2, .int mo), (3, .int v)]) hx hb dX7_act_16 hl (by decide) rfl (fun ls hl => ?_)
    refine lv_aloadN hx hb dX7_act_18 (lv_at hl 0 rfl) ?_
    refine lv_ifnullN (tgt := 32) hx hb dX7_act_20 (by decide) ?_
    refine lv_iconst (v := 0) hx hb dX7_act_32 (by decide) ?_
    exact W.iret (v := 0) hx hb hr (fun t ht hW => ⟨⟨0, (), rfl, Or.inr (⟨rfl, (by first | omega | decide)⟩), zP_nil, zD_nil⟩, hS.F ht⟩) hS.2.2 dX7_act_33
theorem hi_X7_trace_7 : ∀ w ∈ u_ws RX7 TX7 9, w ∈ wsX7_trace := by decide +kernel
set_option maxHeartbeats 4000000 in
set_option maxRecDepth 100000 in
theorem c_trace (l : Launch) (D : va_G) (cI cJ cZ cP cS : ClassId) (x0 xs j0 k0 w0 rd mv xr : Nat) (mb : Nat) (i : Int32)  (sz : Nat) : Met l yX7_trace wsX7_trace ({ frames := 2, cells := 0, slots := 0, locals := 43 }) (va_Pc [.ref x0, .int i] (zW D (zKT cI cJ cZ cP cS) [(x0, .inr (7, [.ref xs, .ref j0, .ref k0, .ref w0, .ref rd, .ref mv, .ref xr, .int 0, .int (-1)])), (mv, .inr (1, [.ref mb, .int 0, .int 0, .int 0, .int 0]))] sz)) (va_Qi (fun (r : Int32) (_ : Unit) => (r = (-1) ∧ i.toInt < 0) ∨ (r = (-1) ∧ 0 ≤ i.toInt)) (zB D [(x0, .inr (7, [.ref xs, .ref j0, .ref k0, .ref w0, .ref rd, .ref mv, .ref xr, .int 0, .int (-1)])), (mv, .inr (1, [.ref mb, .int 0, .int 0, .int 0, .int 0]))] sz (fun (_ : Unit) => ([] : va_W))) (va_A [(x0, .inr (7, [.ref xs, .ref j0, .ref k0, .ref w0, .ref rd, .ref mv, .ref xr, .int 0, .int (-1)])), (mv, .inr (1, [.ref mb, .int 0, .int 0, .int 0, .int 0]))] sz)) 0 0 (va_A [(x0, .inr (7, [.ref xs, .ref j0, .ref k0, .ref w0, .ref rd, .ref mv, .ref xr, .int 0, .int (-1)])), (mv, .inr (1, [.ref mb, .int 0, .int 0, .int 0, .int 0]))] sz) := by
  refine Met.ofW (cc := cX7_trace) (maxL := 2) (ret := (some .int)) (by decide) rfl ?_
  intro p e s m args below meth c s₁ B hml hv
  obtain ⟨rfl, hsz, hP, hK, hD0, hN, hZ⟩ := hv
  have hx := B.exec
  have hb := B.bytes
  have hr := B.returns
  have hts := atoms_spec (ws := wsX7_trace) B.pre
  have hown : s.vm.findClass RX7 = some m.cls := findClass_of_methodNamed B.named
  have hlocks := B.notSynchronized
  subst hsz
  have hD := hD0.self (sz := s.heap.size)
  have hA : ∀ q : Nat, s.heap.size ≤ q → va_A [(x0, .inr (7, [.ref xs, .ref j0, .ref k0, .ref w0, .ref rd, .ref mv, .ref xr, .int 0, .int (-1)])), (mv, .inr (1, [.ref mb, .int 0, .int 0, .int 0, .int 0]))] s.heap.size q := fun q h => Or.inr h
  have hS : va_S (va_A [(x0, .inr (7, [.ref xs, .ref j0, .ref k0, .ref w0, .ref rd, .ref mv, .ref xr, .int 0, .int (-1)])), (mv, .inr (1, [.ref mb, .int 0, .int 0, .int 0, .int 0]))] s.heap.size) s.heap s.heap [] := va_S.rf
  replace hP : va_P D vwCl _ s.heap := hP
  have hl := lv_entry ([.ref x0, .int i]) (n := 2) (Nat.le_of_ble_eq_true rfl)
  rw [lg_entry_eq]
  generalize (lg_sl ([.ref x0, .int i]) ++ List.replicate (2 - (lg_sl ([.ref x0, .int i])).length) Slot.unset).toArray = ls at hl ⊢
  replace hl : lv_has ls 2 [(0, .ref x0), (1, .int i)] := hl
  refine zw_start (fun H locs hH hL => ?_)
  replace hP : va_P D vwCl [(x0, .inr (7, [.ref xs, .ref j0, .ref k0, .ref w0, .ref rd, .ref mv, .ref xr, .int 0, .int (-1)])), (mv, .inr (1, [.ref mb, .int 0, .int 0, .int 0, .int 0]))] H := by rw [hH]; exact hP
  replace hS : va_S (va_A [(x0, .inr (7, [.ref xs, .ref j0, .ref k0, .ref w0, .ref rd, .ref mv, .ref xr, .int 0, .int (-1)])), (mv, .inr (1, [.ref mb, .int 0, .int 0, .int 0, .int 0]))] s.heap.size) s.heap H locs := by rw [hH, hL]; exact hS
  clear hH hL
  refine lv_aload_n hx hb dX7_trace_0 rfl (lv_at hl 0 rfl) ?_
  refine va_get (D := D) (ci := 7) (v := .ref mv) (C := RX7) (T := TX7) (N := 9) hx hb hts hi_X7_trace_7 hown hK hP 0 rfl rfl 5 (by decide) (hts (.fieldLink RX7 42 "TheLiningsInIt" "moves" "LTheLiningsInIt$Moves;") (List.mem_of_getElem? (i := 1) rfl)) (fun _ h9 => h9) rfl dX7_trace_1 ?_
  refine lv_iload_n hx hb dX7_trace_4 rfl (lv_at hl 1 rfl) ?_
  refine zc_V (As := [.int i]) (rest := []) ⟨hx, hb, hml, hown, hts⟩ (c_bodyAt l D cI cJ cZ cP cS mv mb (i) ) (cwV 1 hts gX7_trace_X1_bodyAt rfl rfl rfl (by decide +kernel) ⟨Nat.le_of_ble_eq_true rfl, Nat.le_of_ble_eq_true rfl⟩) hK hN (hZ.kept hS) hP [1] rfl (va_recv hK hP (ci := 1) (q0 := 1) rfl rfl) rfl hl.1 rfl (Nat.le_of_ble_eq_true rfl) dX7_trace_5 ⟨Nat.le_of_ble_eq_true rfl, Nat.le_of_ble_eq_true rfl⟩ (fun r_1 hr_1 => ?_)
  rcases hr_1 with ⟨rfl, g_2⟩ | ⟨rfl, g_3⟩
  · exact W.iret (v := (-1)) hx hb hr (fun t ht hW => ⟨⟨(-1), (), rfl, Or.inl (⟨rfl, (by first | omega | decide)⟩), zP_nil, zD_nil⟩, hS.F ht⟩) hS.2.2 dX7_trace_8
  · exact W.iret (v := (-1)) hx hb hr (fun t ht hW => ⟨⟨(-1), (), rfl, Or.inr (⟨rfl, (by first | omega | decide)⟩), zP_nil, zD_nil⟩, hS.F ht⟩) hS.2.2 dX7_trace_8
theorem hi_X7_image_7 : ∀ w ∈ u_ws RX7 TX7 9, w ∈ wsX7_image := by decide +kernel
theorem hi_X7_image_0 : ∀ w ∈ u_ws RX0 TX0 9, w ∈ wsX7_image := by decide +kernel
set_option maxHeartbeats 4000000 in
set_option maxRecDepth 100000 in
theorem c_image (l : Launch) (D : va_G) (cI cJ cZ cP cS : ClassId) (x0 xs j0 k0 w0 rd mv xr : Nat) (jp jc z0 zl zs : Nat) (kz kp kc kzl kzs : Nat)  (sz : Nat) : Met l yX7_image wsX7_image ({ frames := 2, cells := 0, slots := 0, locals := 122 }) (va_Pc [.ref x0] (zW D (zKT cI cJ cZ cP cS) [(x0, .inr (7, [.ref xs, .ref j0, .ref k0, .ref w0, .ref rd, .ref mv, .ref xr, .int 0, .int (-1)])), (k0, .inr (0, [.ref kz, .ref kp, .ref kc, .int 0, .int 0, .int 0, .int 60, .int 0, .int 1])), (kz, .inr (6, [.ref kzl, .ref kzs, .int 20, .int 0, .int 3])), (kzl, .inl (cZ, 40, .inl (fun _ => 0))), (kzs, .inl (cI, 40, .inl (fun _ => 0))), (kp, .inl (cP, 8, .inr (.inr (.inr (.inr (fun _ => none)))))), (kc, .inl (cI, 3, .inl (zL3 5 10 50))), (j0, .inr (0, [.ref z0, .ref jp, .ref jc, .int 0, .int 0, .int 0, .int 60, .int 0, .int 1])), (z0, .inr (6, [.ref zl, .ref zs, .int 20, .int 0, .int 3])), (zl, .inl (cZ, 40, .inl (fun _ => 0))), (zs, .inl (cI, 40, .inl (fun _ => 0))), (jp, .inl (cP, 8, .inr (.inr (.inr (.inr (fun _ => none)))))), (jc, .inl (cI, 3, .inl (zL3 5 10 50)))] sz)) (va_Qi (fun (r : Int32) (_ : Unit) => r = 0) (zB D [(x0, .inr (7, [.ref xs, .ref j0, .ref k0, .ref w0, .ref rd, .ref mv, .ref xr, .int 0, .int (-1)])), (k0, .inr (0, [.ref kz, .ref kp, .ref kc, .int 0, .int 0, .int 0, .int 60, .int 0, .int 1])), (kz, .inr (6, [.ref kzl, .ref kzs, .int 20, .int 0, .int 3])), (kzl, .inl (cZ, 40, .inl (fun _ => 0))), (kzs, .inl (cI, 40, .inl (fun _ => 0))), (kp, .inl (cP, 8, .inr (.inr (.inr (.inr (fun _ => none)))))), (kc, .inl (cI, 3, .inl (zL3 5 10 50))), (j0, .inr (0, [.ref z0, .ref jp, .ref jc, .int 0, .int 0, .int 0, .int 60, .int 0, .int 1])), (z0, .inr (6, [.ref zl, .ref zs, .int 20, .int 0, .int 3])), (zl, .inl (cZ, 40, .inl (fun _ => 0))), (zs, .inl (cI, 40, .inl (fun _ => 0))), (jp, .inl (cP, 8, .inr (.inr (.inr (.inr (fun _ => none)))))), (jc, .inl (cI, 3, .inl (zL3 5 10 50)))] sz (fun (_ : Unit) => ([] : va_W))) (va_A [(x0, .inr (7, [.ref xs, .ref j0, .ref k0, .ref w0, .ref rd, .ref mv, .ref xr, .int 0, .int (-1)])), (k0, .inr (0, [.ref kz, .ref kp, .ref kc, .int 0, .int 0, .int 0, .int 60, .int 0, .int 1])), (kz, .inr (6, [.ref kzl, .ref kzs, .int 20, .int 0, .int 3])), (kzl, .inl (cZ, 40, .inl (fun _ => 0))), (kzs, .inl (cI, 40, .inl (fun _ => 0))), (kp, .inl (cP, 8, .inr (.inr (.inr (.inr (fun _ => none)))))), (kc, .inl (cI, 3, .inl (zL3 5 10 50))), (j0, .inr (0, [.ref z0, .ref jp, .ref jc, .int 0, .int 0, .int 0, .int 60, .int 0, .int 1])), (z0, .inr (6, [.ref zl, .ref zs, .int 20, .int 0, .int 3])), (zl, .inl (cZ, 40, .inl (fun _ => 0))), (zs, .inl (cI, 40, .inl (fun _ => 0))), (jp, .inl (cP, 8, .inr (.inr (.inr (.inr (fun _ => none)))))), (jc, .inl (cI, 3, .inl (zL3 5 10 50)))] sz)) 0 0 (va_A [(x0, .inr (7, [.ref xs, .ref j0, .ref k0, .ref w0, .ref rd, .ref mv, .ref xr, .int 0, .int (-1)])), (k0, .inr (0, [.ref kz, .ref kp, .ref kc, .int 0, .int 0, .int 0, .int 60, .int 0, .int 1])), (kz, .inr (6, [.ref kzl, .ref kzs, .int 20, .int 0, .int 3])), (kzl, .inl (cZ, 40, .inl (fun _ => 0))), (kzs, .inl (cI, 40, .inl (fun _ => 0))), (kp, .inl (cP, 8, .inr (.inr (.inr (.inr (fun _ => none)))))), (kc, .inl (cI, 3, .inl (zL3 5 10 50))), (j0, .inr (0, [.ref z0, .ref jp, .ref jc, .int 0, .int 0, .int 0, .int 60, .int 0, .int 1])), (z0, .inr (6, [.ref zl, .ref zs, .int 20, .int 0, .int 3])), (zl, .inl (cZ, 40, .inl (fun _ => 0))), (zs, .inl (cI, 40, .inl (fun _ => 0))), (jp, .inl (cP, 8, .inr (.inr (.inr (.inr (fun _ => none)))))), (jc, .inl (cI, 3, .inl (zL3 5 10 50)))] sz) := by
  refine Met.ofW (cc := cX7_image) (maxL := 1) (ret := (some .int)) (by decide) rfl ?_
  intro p e s m args below meth c s₁ B hml hv
  obtain ⟨rfl, hsz, hP, hK, hD0, hN, hZ⟩ := hv
  have hx := B.exec
  have hb := B.bytes
  have hr := B.returns
  have hts := atoms_spec (ws := wsX7_image) B.pre
  have hown : s.vm.findClass RX7 = some m.cls := findClass_of_methodNamed B.named
  have hlocks := B.notSynchronized
  subst hsz
  have hD := hD0.self (sz := s.heap.size)
  have hA : ∀ q : Nat, s.heap.size ≤ q → va_A [(x0, .inr (7, [.ref xs, .ref j0, .ref k0, .ref w0, .ref rd, .ref mv, .ref xr, .int 0, .int (-1)])), (k0, .inr (0, [.ref kz, .ref kp, .ref kc, .int 0, .int 0, .int 0, .int 60, .int 0, .int 1])), (kz, .inr (6, [.ref kzl, .ref kzs, .int 20, .int 0, .int 3])), (kzl, .inl (cZ, 40, .inl (fun _ => 0))), (kzs, .inl (cI, 40, .inl (fun _ => 0))), (kp, .inl (cP, 8, .inr (.inr (.inr (.inr (fun _ => none)))))), (kc, .inl (cI, 3, .inl (zL3 5 10 50))), (j0, .inr (0, [.ref z0, .ref jp, .ref jc, .int 0, .int 0, .int 0, .int 60, .int 0, .int 1])), (z0, .inr (6, [.ref zl, .ref zs, .int 20, .int 0, .int 3])), (zl, .inl (cZ, 40, .inl (fun _ => 0))), (zs, .inl (cI, 40, .inl (fun _ => 0))), (jp, .inl (cP, 8, .inr (.inr (.inr (.inr (fun _ => none)))))), (jc, .inl (cI, 3, .inl (zL3 5 10 50)))] s.heap.size q := fun q h => Or.inr h
  have hS : va_S (va_A [(x0, .inr (7, [.ref xs, .ref j0, .ref k0, .ref w0, .ref rd, .ref mv, .ref xr, .int 0, .int (-1)])), (k0, .inr (0, [.ref kz, .ref kp, .ref kc, .int 0, .int 0, .int 0, .int 60, .int 0, .int 1])), (kz, .inr (6, [.ref kzl, .ref kzs, .int 20, .int 0, .int 3])), (kzl, .inl (cZ, 40, .inl (fun _ => 0))), (kzs, .inl (cI, 40, .inl (fun _ => 0))), (kp, .inl (cP, 8, .inr (.inr (.inr (.inr (fun _ => none)))))), (kc, .inl (cI, 3, .inl (zL3 5 10 50))), (j0, .inr (0, [.ref z0, .ref jp, .ref jc, .int 0, .int 0, .int 0, .int 60, .int 0, .int 1])), (z0, .inr (6, [.ref zl, .ref zs, .int 20, .int 0, .int 3])), (zl, .inl (cZ, 40, .inl (fun _ => 0))), (zs, .inl (cI, 40, .inl (fun _ => 0))), (jp, .inl (cP, 8, .inr (.inr (.inr (.inr (fun _ => none)))))), (jc, .inl (cI, 3, .inl (zL3 5 10 50)))] s.heap.size) s.heap s.heap [] := va_S.rf
  replace hP : va_P D vwCl _ s.heap := hP
  have hl := lv_entry ([.ref x0]) (n := 1) (Nat.le_of_ble_eq_true rfl)
  rw [lg_entry_eq]
  generalize (lg_sl ([.ref x0]) ++ List.replicate (1 - (lg_sl ([.ref x0])).length) Slot.unset).toArray = ls at hl ⊢
  replace hl : lv_has ls 1 [(0, .ref x0)] := hl
  refine zw_start (fun H locs hH hL => ?_)
  replace hP : va_P D vwCl [(x0, .inr (7, [.ref xs, .ref j0, .ref k0, .ref w0, .ref rd, .ref mv, .ref xr, .int 0, .int (-1)])), (k0, .inr (0, [.ref kz, .ref kp, .ref kc, .int 0, .int 0, .int 0, .int 60, .int 0, .int 1])), (kz, .inr (6, [.ref kzl, .ref kzs, .int 20, .int 0, .int 3])), (kzl, .inl (cZ, 40, .inl (fun _ => 0))), (kzs, .inl (cI, 40, .inl (fun _ => 0))), (kp, .inl (cP, 8, .inr (.inr (.inr (.inr (fun _ => none)))))), (kc, .inl (cI, 3, .inl (zL3 5 10 50))), (j0, .inr (0, [.ref z0, .ref jp, .ref jc, .int 0, .int 0, .int 0, .int 60, .int 0, .int 1])), (z0, .inr (6, [.ref zl, .ref zs, .int 20, .int 0, .int 3])), (zl, .inl (cZ, 40, .inl (fun _ => 0))), (zs, .inl (cI, 40, .inl (fun _ => 0))), (jp, .inl (cP, 8, .inr (.inr (.inr (.inr (fun _ => none)))))), (jc, .inl (cI, 3, .inl (zL3 5 10 50)))] H := by rw [hH]; exact hP
  replace hS : va_S (va_A [(x0, .inr (7, [.ref xs, .ref j0, .ref k0, .ref w0, .ref rd, .ref mv, .ref xr, .int 0, .int (-1)])), (k0, .inr (0, [.ref kz, .ref kp, .ref kc, .int 0, .int 0, .int 0, .int 60, .int 0, .int 1])), (kz, .inr (6, [.ref kzl, .ref kzs, .int 20, .int 0, .int 3])), (kzl, .inl (cZ, 40, .inl (fun _ => 0))), (kzs, .inl (cI, 40, .inl (fun _ => 0))), (kp, .inl (cP, 8, .inr (.inr (.inr (.inr (fun _ => none)))))), (kc, .inl (cI, 3, .inl (zL3 5 10 50))), (j0, .inr (0, [.ref z0, .ref jp, .ref jc, .int 0, .int 0, .int 0, .int 60, .int 0, .int 1])), (z0, .inr (6, [.ref zl, .ref zs, .int 20, .int 0, .int 3])), (zl, .inl (cZ, 40, .inl (fun _ => 0))), (zs, .inl (cI, 40, .inl (fun _ => 0))), (jp, .inl (cP, 8, .inr (.inr (.inr (.inr (fun _ => none)))))), (jc, .inl (cI, 3, .inl (zL3 5 10 50)))] s.heap.size) s.heap H locs := by rw [hH, hL]; exact hS
  clear hH hL
  refine lv_aload_n hx hb dX7_image_0 rfl (lv_at hl 0 rfl) ?_
  refine va_get (D := D) (ci := 7) (v := .ref k0) (C := RX7) (T := TX7) (N := 9) hx hb hts hi_X7_image_7 hown hK hP 0 rfl rfl 2 (by decide) (hts (.fieldLink RX7 22 "TheLiningsInIt" "kept" "LTheLiningsInIt$Jacket;") (List.mem_of_getElem? (i := 1) rfl)) (fun _ h9 => h9) rfl dX7_image_1 ?_
  refine lv_aload_n hx hb dX7_image_4 rfl (lv_at hl 0 rfl) ?_
  refine va_get (D := D) (ci := 7) (v := .ref j0) (C := RX7) (T := TX7) (N := 9) hx hb hts hi_X7_image_7 hown hK hP 0 rfl rfl 1 (by decide) (hts (.fieldLink RX7 18 "TheLiningsInIt" "now" "LTheLiningsInIt$Jacket;") (List.mem_of_getElem? (i := 2) rfl)) (fun _ h9 => h9) rfl dX7_image_5 ?_
  skip
  refine zw_Vv (As := [.ref j0]) (rest := []) (wr := [(x0, .inr (7, [.ref xs, .ref j0, .ref k0, .ref w0, .ref rd, .ref mv, .ref xr, .int 0, .int (-1)]))]) ⟨hx, hb, hml, hown, hts⟩ (c_J_become l D cI cJ cZ cP cS k0 kz kp kc kzl kzs j0 jp jc z0 zl zs  H.size) (cwV 1 hts gX7_image_X0_become rfl rfl rfl (by decide +kernel) ⟨Nat.le_of_ble_eq_true rfl, Nat.le_of_ble_eq_true rfl⟩) hK hN (hZ.kept hS) hP hD hS hA [1, 2, 3, 4, 5, 6, 7, 8, 9, 10, 11, 12] [0] rfl rfl (by decide) (by decide) (by decide) (va_recv hK hP (ci := 0) (q0 := 1) rfl rfl) rfl hl.1 rfl (Nat.le_of_ble_eq_true rfl) dX7_image_8 ⟨Nat.le_of_ble_eq_true rfl, Nat.le_of_ble_eq_true rfl⟩ (fun u_2 H locs hr_1 hP hD hS => ?_)
  replace hP : va_P D vwCl [(x0, .inr (7, [.ref xs, .ref j0, .ref k0, .ref w0, .ref rd, .ref mv, .ref xr, .int 0, .int (-1)])), (k0, .inr (0, [.ref kz, .ref kp, .ref kc, .int 0, .int 0, .int 0, .int 60, .int 0, .int 1])), (kz, .inr (6, [.ref kzl, .ref kzs, .int 20, .int 0, .int 3])), (kzl, .inl (cZ, 40, .inl (fun _ => 0))), (kzs, .inl (cI, 40, .inl (fun _ => 0))), (kp, .inl (cP, 8, .inr (.inr (.inr (.inr (fun _ => none)))))), (kc, .inl (cI, 3, .inl (va_cpy (zL3 5 10 50) (zL3 5 10 50) (0 : Int32).toNatClampNeg (0 : Int32).toNatClampNeg (3 : Int32).toNatClampNeg))), (j0, .inr (0, [.ref z0, .ref jp, .ref jc, .int 0, .int 0, .int 0, .int 60, .int 0, .int 1])), (z0, .inr (6, [.ref zl, .ref zs, .int 20, .int 0, .int 3])), (zl, .inl (cZ, 40, .inl (fun _ => 0))), (zs, .inl (cI, 40, .inl (fun _ => 0))), (jp, .inl (cP, 8, .inr (.inr (.inr (.inr (fun _ => none)))))), (jc, .inl (cI, 3, .inl (zL3 5 10 50)))] H := hP
  replace hD : va_D _ [(x0, .inr (7, [.ref xs, .ref j0, .ref k0, .ref w0, .ref rd, .ref mv, .ref xr, .int 0, .int (-1)])), (k0, .inr (0, [.ref kz, .ref kp, .ref kc, .int 0, .int 0, .int 0, .int 60, .int 0, .int 1])), (kz, .inr (6, [.ref kzl, .ref kzs, .int 20, .int 0, .int 3])), (kzl, .inl (cZ, 40, .inl (fun _ => 0))), (kzs, .inl (cI, 40, .inl (fun _ => 0))), (kp, .inl (cP, 8, .inr (.inr (.inr (.inr (fun _ => none)))))), (kc, .inl (cI, 3, .inl (va_cpy (zL3 5 10 50) (zL3 5 10 50) (0 : Int32).toNatClampNeg (0 : Int32).toNatClampNeg (3 : Int32).toNatClampNeg))), (j0, .inr (0, [.ref z0, .ref jp, .ref jc, .int 0, .int 0, .int 0, .int 60, .int 0, .int 1])), (z0, .inr (6, [.ref zl, .ref zs, .int 20, .int 0, .int 3])), (zl, .inl (cZ, 40, .inl (fun _ => 0))), (zs, .inl (cI, 40, .inl (fun _ => 0))), (jp, .inl (cP, 8, .inr (.inr (.inr (.inr (fun _ => none)))))), (jc, .inl (cI, 3, .inl (zL3 5 10 50)))] := hD
  refine lv_aload_n hx hb dX7_image_11 rfl (lv_at hl 0 rfl) ?_
  refine lv_iconst (v := 1) hx hb dX7_image_12 (by decide) ?_
  refine va_put (D := D) (ci := 7) (v := .int 1) (ty := .boolean) (C := RX7) (T := TX7) (N := 9) hx hb hts hi_X7_image_7 tyX7 tyX7_ok nmX7 hown hK hP hD hS 0 rfl rfl 7 (by decide) (hts (.fieldLink RX7 50 "TheLiningsInIt" "imaged" "Z") (List.mem_of_getElem? (i := 3) rfl)) (fun _ h9 => h9) rfl (by decide +kernel) rfl rfl (Nat.le_of_ble_eq_true rfl) dX7_image_13 (fun H locs hP hD hS => ?_)
  replace hP : va_P D vwCl [(x0, .inr (7, [.ref xs, .ref j0, .ref k0, .ref w0, .ref rd, .ref mv, .ref xr, .int 1, .int (-1)])), (k0, .inr (0, [.ref kz, .ref kp, .ref kc, .int 0, .int 0, .int 0, .int 60, .int 0, .int 1])), (kz, .inr (6, [.ref kzl, .ref kzs, .int 20, .int 0, .int 3])), (kzl, .inl (cZ, 40, .inl (fun _ => 0))), (kzs, .inl (cI, 40, .inl (fun _ => 0))), (kp, .inl (cP, 8, .inr (.inr (.inr (.inr (fun _ => none)))))), (kc, .inl (cI, 3, .inl (va_cpy (zL3 5 10 50) (zL3 5 10 50) (0 : Int32).toNatClampNeg (0 : Int32).toNatClampNeg (3 : Int32).toNatClampNeg))), (j0, .inr (0, [.ref z0, .ref jp, .ref jc, .int 0, .int 0, .int 0, .int 60, .int 0, .int 1])), (z0, .inr (6, [.ref zl, .ref zs, .int 20, .int 0, .int 3])), (zl, .inl (cZ, 40, .inl (fun _ => 0))), (zs, .inl (cI, 40, .inl (fun _ => 0))), (jp, .inl (cP, 8, .inr (.inr (.inr (.inr (fun _ => none)))))), (jc, .inl (cI, 3, .inl (zL3 5 10 50)))] H := hP
  replace hD : va_D _ [(x0, .inr (7, [.ref xs, .ref j0, .ref k0, .ref w0, .ref rd, .ref mv, .ref xr, .int 1, .int (-1)])), (k0, .inr (0, [.ref kz, .ref kp, .ref kc, .int 0, .int 0, .int 0, .int 60, .int 0, .int 1])), (kz, .inr (6, [.ref kzl, .ref kzs, .int 20, .int 0, .int 3])), (kzl, .inl (cZ, 40, .inl (fun _ => 0))), (kzs, .inl (cI, 40, .inl (fun _ => 0))), (kp, .inl (cP, 8, .inr (.inr (.inr (.inr (fun _ => none)))))), (kc, .inl (cI, 3, .inl (va_cpy (zL3 5 10 50) (zL3 5 10 50) (0 : Int32).toNatClampNeg (0 : Int32).toNatClampNeg (3 : Int32).toNatClampNeg))), (j0, .inr (0, [.ref z0, .ref jp, .ref jc, .int 0, .int 0, .int 0, .int 60, .int 0, .int 1])), (z0, .inr (6, [.ref zl, .ref zs, .int 20, .int 0, .int 3])), (zl, .inl (cZ, 40, .inl (fun _ => 0))), (zs, .inl (cI, 40, .inl (fun _ => 0))), (jp, .inl (cP, 8, .inr (.inr (.inr (.inr (fun _ => none)))))), (jc, .inl (cI, 3, .inl (zL3 5 10 50)))] := hD
  refine lv_aload_n hx hb dX7_image_16 rfl (lv_at hl 0 rfl) ?_
  refine va_get (D := D) (ci := 7) (v := .ref k0) (C := RX7) (T := TX7) (N := 9) hx hb hts hi_X7_image_7 hown hK hP 0 rfl rfl 2 (by decide) (hts (.fieldLink RX7 22 "TheLiningsInIt" "kept" "LTheLiningsInIt$Jacket;") (List.mem_of_getElem? (i := 1) rfl)) (fun _ h9 => h9) rfl dX7_image_17 ?_
  refine va_get (D := D) (ci := 0) (v := .int 0) (C := RX0) (T := TX0) (N := 9) hx hb hts hi_X7_image_0 hown hK hP 1 rfl rfl 3 (by decide) (hts (.fieldLink RX7 123 "TheLiningsInIt$Jacket" "pullCount" "I") (List.mem_of_getElem? (i := 4) rfl)) (fun _ h9 => h9) rfl dX7_image_20 ?_
  exact W.iret (v := 0) hx hb hr (fun t ht hW => ⟨⟨0, (), rfl, rfl, zP_nil, zD_nil⟩, hS.F ht⟩) hS.2.2 dX7_image_23
theorem hi_X7_restore_7 : ∀ w ∈ u_ws RX7 TX7 9, w ∈ wsX7_restore := by decide +kernel
set_option maxHeartbeats 4000000 in
set_option maxRecDepth 100000 in
theorem c_restore (l : Launch) (D : va_G) (cI cJ cZ cP cS : ClassId) (x0 xs j0 k0 w0 rd mv xr : Nat)  (sz : Nat) : Met l yX7_restore wsX7_restore ({ frames := 2, cells := 0, slots := 0, locals := 43 }) (va_Pc [.ref x0] (zW D (zKT cI cJ cZ cP cS) [(x0, .inr (7, [.ref xs, .ref j0, .ref k0, .ref w0, .ref rd, .ref mv, .ref xr, .int 0, .int (-1)])), (xr, .inl (cI, 8, .inl (fun _ => 0)))] sz)) (va_Qi (fun (r : Int32) (_ : Unit) => r = (-6)) (zB D [(x0, .inr (7, [.ref xs, .ref j0, .ref k0, .ref w0, .ref rd, .ref mv, .ref xr, .int 0, .int (-1)])), (xr, .inl (cI, 8, .inl (fun _ => 0)))] sz (fun (_ : Unit) => ([] : va_W))) (va_A [(x0, .inr (7, [.ref xs, .ref j0, .ref k0, .ref w0, .ref rd, .ref mv, .ref xr, .int 0, .int (-1)])), (xr, .inl (cI, 8, .inl (fun _ => 0)))] sz)) 0 0 (va_A [(x0, .inr (7, [.ref xs, .ref j0, .ref k0, .ref w0, .ref rd, .ref mv, .ref xr, .int 0, .int (-1)])), (xr, .inl (cI, 8, .inl (fun _ => 0)))] sz) := by
  refine Met.ofW (cc := cX7_restore) (maxL := 2) (ret := (some .int)) (by decide) rfl ?_
  intro p e s m args below meth c s₁ B hml hv
  obtain ⟨rfl, hsz, hP, hK, hD0, hN, hZ⟩ := hv
  have hx := B.exec
  have hb := B.bytes
  have hr := B.returns
  have hts := atoms_spec (ws := wsX7_restore) B.pre
  have hown : s.vm.findClass RX7 = some m.cls := findClass_of_methodNamed B.named
  have hlocks := B.notSynchronized
  subst hsz
  have hD := hD0.self (sz := s.heap.size)
  have hA : ∀ q : Nat, s.heap.size ≤ q → va_A [(x0, .inr (7, [.ref xs, .ref j0, .ref k0, .ref w0, .ref rd, .ref mv, .ref xr, .int 0, .int (-1)])), (xr, .inl (cI, 8, .inl (fun _ => 0)))] s.heap.size q := fun q h => Or.inr h
  have hS : va_S (va_A [(x0, .inr (7, [.ref xs, .ref j0, .ref k0, .ref w0, .ref rd, .ref mv, .ref xr, .int 0, .int (-1)])), (xr, .inl (cI, 8, .inl (fun _ => 0)))] s.heap.size) s.heap s.heap [] := va_S.rf
  replace hP : va_P D vwCl _ s.heap := hP
  have hl := lv_entry ([.ref x0]) (n := 2) (Nat.le_of_ble_eq_true rfl)
  rw [lg_entry_eq]
  generalize (lg_sl ([.ref x0]) ++ List.replicate (2 - (lg_sl ([.ref x0])).length) Slot.unset).toArray = ls at hl ⊢
  replace hl : lv_has ls 2 [(0, .ref x0)] := hl
  refine zw_start (fun H locs hH hL => ?_)
  replace hP : va_P D vwCl [(x0, .inr (7, [.ref xs, .ref j0, .ref k0, .ref w0, .ref rd, .ref mv, .ref xr, .int 0, .int (-1)])), (xr, .inl (cI, 8, .inl (fun _ => 0)))] H := by rw [hH]; exact hP
  replace hS : va_S (va_A [(x0, .inr (7, [.ref xs, .ref j0, .ref k0, .ref w0, .ref rd, .ref mv, .ref xr, .int 0, .int (-1)])), (xr, .inl (cI, 8, .inl (fun _ => 0)))] s.heap.size) s.heap H locs := by rw [hH, hL]; exact hS
  clear hH hL
  refine lv_aload_n hx hb dX7_restore_0 rfl (lv_at hl 0 rfl) ?_
  refine va_get (D := D) (ci := 7) (v := .int 0) (C := RX7) (T := TX7) (N := 9) hx hb hts hi_X7_restore_7 hown hK hP 0 rfl rfl 7 (by decide) (hts (.fieldLink RX7 50 "TheLiningsInIt" "imaged" "Z") (List.mem_of_getElem? (i := 1) rfl)) (fun _ h9 => h9) rfl dX7_restore_1 ?_
  refine lv_if_ne (tgt := 14) hx hb dX7_restore_4 (by decide) (fun c_1 => ?_) (fun c_1 => ?_)
  · exact absurd c_1 (by decide)
  · refine lv_aload_n hx hb dX7_restore_7 rfl (lv_at hl 0 rfl) ?_
    refine lv_bipush (v := 6) hx hb dX7_restore_8 (by decide) ?_
    skip
    refine zw_V (As := [.int 6]) (rest := []) (wr := []) ⟨hx, hb, hml, hown, hts⟩ (c_refuse_6 l D cI cJ cZ cP cS x0 xs j0 k0 w0 rd mv xr  H.size) (cwV 1 hts gX7_restore_X7_refuse rfl rfl rfl (by decide +kernel) ⟨Nat.le_of_ble_eq_true rfl, Nat.le_of_ble_eq_true rfl⟩) hK hN (hZ.kept hS) hP hD hS hA [0, 1] [] rfl rfl (by decide) (by decide) (by decide) (va_recv hK hP (ci := 7) (q0 := 0) rfl rfl) rfl hl.1 rfl (Nat.le_of_ble_eq_true rfl) dX7_restore_10 ⟨Nat.le_of_ble_eq_true rfl, Nat.le_of_ble_eq_true rfl⟩ (fun r_2 u_3 H locs hr_2 hP hD hS => ?_)
    obtain rfl := hr_2
    exact W.iret (v := (-6)) hx hb hr (fun t ht hW => ⟨⟨(-6), (), rfl, rfl, zP_nil, zD_nil⟩, hS.F ht⟩) hS.2.2 dX7_restore_13
theorem hi_X7_status_7 : ∀ w ∈ u_ws RX7 TX7 9, w ∈ wsX7_status := by decide +kernel
theorem hi_X7_status_0 : ∀ w ∈ u_ws RX0 TX0 9, w ∈ wsX7_status := by decide +kernel
theorem hi_X7_status_6 : ∀ w ∈ u_ws RX6 TX6 5, w ∈ wsX7_status := by decide +kernel
theorem hi_X7_status_1 : ∀ w ∈ u_ws RX1 TX1 5, w ∈ wsX7_status := by decide +kernel
set_option maxHeartbeats 4000000 in
set_option maxRecDepth 100000 in
theorem c_status (l : Launch) (D : va_G) (cI cJ cZ cP cS : ClassId) (x0 xs j0 k0 w0 rd mv xr : Nat) (jp jc z0 zl zs : Nat) (mb : Nat) (w : Int32)  (sz : Nat) : Met l yX7_status wsX7_status ({ frames := 1, cells := 0, slots := 0, locals := 22 }) (va_Pc [.ref x0, .int w] (zW D (zKT cI cJ cZ cP cS) [(x0, .inr (7, [.ref xs, .ref j0, .ref k0, .ref w0, .ref rd, .ref mv, .ref xr, .int 0, .int (-1)])), (xr, .inl (cI, 8, .inl (fun _ => 0))), (j0, .inr (0, [.ref z0, .ref jp, .ref jc, .int 0, .int 0, .int 0, .int 60, .int 0, .int 1])), (z0, .inr (6, [.ref zl, .ref zs, .int 20, .int 0, .int 3])), (mv, .inr (1, [.ref mb, .int 0, .int 0, .int 0, .int 0]))] sz)) (va_Qi (fun (r : Int32) (_ : Unit) => (r = (-1) ∧ w.toInt < 11 ∧ (w.toInt < 0 ∨ 9 < w.toInt)) ∨ (r = 0 ∧ w.toInt < 11 ∧ w.toInt = 0) ∨ (r = 20 ∧ w.toInt < 11 ∧ w.toInt = 1) ∨ (r = 0 ∧ w.toInt < 11 ∧ w.toInt = 2) ∨ (r = 0 ∧ w.toInt < 11 ∧ w.toInt = 3) ∨ (r = 0 ∧ w.toInt < 11 ∧ w.toInt = 4) ∨ (r = 60 ∧ w.toInt < 11 ∧ w.toInt = 5) ∨ (r = 0 ∧ w.toInt < 11 ∧ w.toInt = 6) ∨ (r = 3 ∧ w.toInt < 11 ∧ w.toInt = 7) ∨ (r = 1 ∧ w.toInt < 11 ∧ w.toInt = 8) ∨ (r = 0 ∧ w.toInt < 11 ∧ w.toInt = 9) ∨ (r = (-1) ∧ 11 ≤ w.toInt ∧ 17 < w.toInt ∧ (w.toInt < 0 ∨ 9 < w.toInt)) ∨ (r = 0 ∧ 11 ≤ w.toInt ∧ w.toInt ≤ 17)) (zB D [(x0, .inr (7, [.ref xs, .ref j0, .ref k0, .ref w0, .ref rd, .ref mv, .ref xr, .int 0, .int (-1)])), (xr, .inl (cI, 8, .inl (fun _ => 0))), (j0, .inr (0, [.ref z0, .ref jp, .ref jc, .int 0, .int 0, .int 0, .int 60, .int 0, .int 1])), (z0, .inr (6, [.ref zl, .ref zs, .int 20, .int 0, .int 3])), (mv, .inr (1, [.ref mb, .int 0, .int 0, .int 0, .int 0]))] sz (fun (_ : Unit) => ([] : va_W))) (va_A [(x0, .inr (7, [.ref xs, .ref j0, .ref k0, .ref w0, .ref rd, .ref mv, .ref xr, .int 0, .int (-1)])), (xr, .inl (cI, 8, .inl (fun _ => 0))), (j0, .inr (0, [.ref z0, .ref jp, .ref jc, .int 0, .int 0, .int 0, .int 60, .int 0, .int 1])), (z0, .inr (6, [.ref zl, .ref zs, .int 20, .int 0, .int 3])), (mv, .inr (1, [.ref mb, .int 0, .int 0, .int 0, .int 0]))] sz)) 0 0 (va_A [(x0, .inr (7, [.ref xs, .ref j0, .ref k0, .ref w0, .ref rd, .ref mv, .ref xr, .int 0, .int (-1)])), (xr, .inl (cI, 8, .inl (fun _ => 0))), (j0, .inr (0, [.ref z0, .ref jp, .ref jc, .int 0, .int 0, .int 0, .int 60, .int 0, .int 1])), (z0, .inr (6, [.ref zl, .ref zs, .int 20, .int 0, .int 3])), (mv, .inr (1, [.ref mb, .int 0, .int 0, .int 0, .int 0]))] sz) := by
  refine Met.ofW (cc := cX7_status) (maxL := 2) (ret := (some .int)) (by decide) rfl ?_
  intro p e s m args below meth c s₁ B hml hv
  obtain ⟨rfl, hsz, hP, hK, hD0, hN, hZ⟩ := hv
  have hx := B.exec
  have hb := B.bytes
  have hr := B.returns
  have hts := atoms_spec (ws := wsX7_status) B.pre
  have hown : s.vm.findClass RX7 = some m.cls := findClass_of_methodNamed B.named
  have hlocks := B.notSynchronized
  subst hsz
  have hD := hD0.self (sz := s.heap.size)
  have hA : ∀ q : Nat, s.heap.size ≤ q → va_A [(x0, .inr (7, [.ref xs, .ref j0, .ref k0, .ref w0, .ref rd, .ref mv, .ref xr, .int 0, .int (-1)])), (xr, .inl (cI, 8, .inl (fun _ => 0))), (j0, .inr (0, [.ref z0, .ref jp, .ref jc, .int 0, .int 0, .int 0, .int 60, .int 0, .int 1])), (z0, .inr (6, [.ref zl, .ref zs, .int 20, .int 0, .int 3])), (mv, .inr (1, [.ref mb, .int 0, .int 0, .int 0, .int 0]))] s.heap.size q := fun q h => Or.inr h
  have hS : va_S (va_A [(x0, .inr (7, [.ref xs, .ref j0, .ref k0, .ref w0, .ref rd, .ref mv, .ref xr, .int 0, .int (-1)])), (xr, .inl (cI, 8, .inl (fun _ => 0))), (j0, .inr (0, [.ref z0, .ref jp, .ref jc, .int 0, .int 0, .int 0, .int 60, .int 0, .int 1])), (z0, .inr (6, [.ref zl, .ref zs, .int 20, .int 0, .int 3])), (mv, .inr (1, [.ref mb, .int 0, .int 0, .int 0, .int 0]))] s.heap.size) s.heap s.heap [] := va_S.rf
  replace hP : va_P D vwCl _ s.heap := hP
  have hl := lv_entry ([.ref x0, .int w]) (n := 2) (Nat.le_of_ble_eq_true rfl)
  rw [lg_entry_eq]
  generalize (lg_sl ([.ref x0, .int w]) ++ List.replicate (2 - (lg_sl ([.ref x0, .int w])).length) Slot.unset).toArray = ls at hl ⊢
  replace hl : lv_has ls 2 [(0, .ref x0), (1, .int w)] := hl
  refine zw_start (fun H locs hH hL => ?_)
  replace hP : va_P D vwCl [(x0, .inr (7, [.ref xs, .ref j0, .ref k0, .ref w0, .ref rd, .ref mv, .ref xr, .int 0, .int (-1)])), (xr, .inl (cI, 8, .inl (fun _ => 0))), (j0, .inr (0, [.ref z0, .ref jp, .ref jc, .int 0, .int 0, .int 0, .int 60, .int 0, .int 1])), (z0, .inr (6, [.ref zl, .ref zs, .int 20, .int 0, .int 3])), (mv, .inr (1, [.ref mb, .int 0, .int 0, .int 0, .int 0]))] H := by rw [hH]; exact hP
  replace hS : va_S (va_A [(x0, .inr (7, [.ref xs, .ref j0, .ref k0, .ref w0, .ref rd, .ref mv, .ref xr, .int 0, .int (-1)])), (xr, .inl (cI, 8, .inl (fun _ => 0))), (j0, .inr (0, [.ref z0, .ref jp, .ref jc, .int 0, .int 0, .int 0, .int 60, .int 0, .int 1])), (z0, .inr (6, [.ref zl, .ref zs, .int 20, .int 0, .int 3])), (mv, .inr (1, [.ref mb, .int 0, .int 0, .int 0, .int 0]))] s.heap.size) s.heap H locs := by rw [hH, hL]; exact hS
  clear hH hL
  refine lv_iload_n hx hb dX7_status_0 rfl (lv_at hl 1 rfl) ?_
  refine lv_bipush (v := 11) hx hb dX7_status_1 (by decide) ?_
  refine lv_bipush (v := 17) hx hb dX7_status_3 (by decide) ?_
  have kc11 : (11 : Int32).toInt = 11 := by decide
  have kc17 : (17 : Int32).toInt = 17 := by decide
  refine zc_S (As := [.int w, .int 11, .int 17]) (rest := []) ⟨hx, hb, hml, hown, hts⟩ (c_within l D cI cJ cZ cP cS (w) (11) (17) ) (va_cwS 3 hts gX7_status_X7_within rfl rfl rfl (by decide +kernel) ⟨Nat.le_of_ble_eq_true rfl, Nat.le_of_ble_eq_true rfl⟩) hK hN (hZ.kept hS) rfl hl.1 rfl (Nat.le_of_ble_eq_true rfl) dX7_status_5 ⟨Nat.le_of_ble_eq_true rfl, Nat.le_of_ble_eq_true rfl⟩ (fun r_1 hr_1 => ?_)
  rcases hr_1 with ⟨rfl, g_2⟩ | ⟨rfl, g_3, g_4⟩ | ⟨rfl, g_5, g_6⟩
  · refine lv_if_eq (tgt := 21) hx hb dX7_status_8 (by decide) (fun c_7 => ?_) (fun c_7 => ?_)
    · refine lv_iload_n hx hb dX7_status_21 rfl (lv_at hl 1 rfl) ?_
      by_cases hsp : w.toInt < 0 ∨ 9 < w.toInt
      · refine lv_tableOut (tgt := 165) hx hb dX7_status_22 hsp (by decide) ?_
        refine lv_iconst (v := (-1)) hx hb dX7_status_165 (by decide) ?_
        exact W.iret (v := (-1)) hx hb hr (fun t ht hW => ⟨⟨(-1), (), rfl, Or.inl (⟨rfl, (by first | omega | decide), (by first | omega | decide)⟩), zP_nil, zD_nil⟩, hS.F ht⟩) hS.2.2 dX7_status_166
      · have hsp : w = 0 ∨ w = 1 ∨ w = 2 ∨ w = 3 ∨ w = 4 ∨ w = 5 ∨ w = 6 ∨ w = 7 ∨ w = 8 ∨ w = 9 := by
          rcases (show w.toInt = 0 ∨ w.toInt = 1 ∨ w.toInt = 2 ∨ w.toInt = 3 ∨ w.toInt = 4 ∨ w.toInt = 5 ∨ w.toInt = 6 ∨ w.toInt = 7 ∨ w.toInt = 8 ∨ w.toInt = 9 by omega) with h9 | h9 | h9 | h9 | h9 | h9 | h9 | h9 | h9 | h9
          · refine Or.inl ?_; exact zf_val h9 (by decide)
          · refine Or.inr (Or.inl ?_); exact zf_val h9 (by decide)
          · refine Or.inr (Or.inr (Or.inl ?_)); exact zf_val h9 (by decide)
          · refine Or.inr (Or.inr (Or.inr (Or.inl ?_))); exact zf_val h9 (by decide)
          · refine Or.inr (Or.inr (Or.inr (Or.inr (Or.inl ?_)))); exact zf_val h9 (by decide)
          · refine Or.inr (Or.inr (Or.inr (Or.inr (Or.inr (Or.inl ?_))))); exact zf_val h9 (by decide)
          · refine Or.inr (Or.inr (Or.inr (Or.inr (Or.inr (Or.inr (Or.inl ?_)))))); exact zf_val h9 (by decide)
          · refine Or.inr (Or.inr (Or.inr (Or.inr (Or.inr (Or.inr (Or.inr (Or.inl ?_))))))); exact zf_val h9 (by decide)
          · refine Or.inr (Or.inr (Or.inr (Or.inr (Or.inr (Or.inr (Or.inr (Or.inr (Or.inl ?_)))))))); exact zf_val h9 (by decide)
          · refine Or.inr (Or.inr (Or.inr (Or.inr (Or.inr (Or.inr (Or.inr (Or.inr (Or.inr (?_))))))))); exact zf_val h9 (by decide)
        rcases hsp with rfl | rfl | rfl | rfl | rfl | rfl | rfl | rfl | rfl | rfl
        · refine lv_tableIn (tgt := 76) hx hb dX7_status_22 (by decide) (by decide) rfl (by decide) ?_
          refine lv_aload_n hx hb dX7_status_76 rfl (lv_at hl 0 rfl) ?_
          refine va_get (D := D) (ci := 7) (v := .ref j0) (C := RX7) (T := TX7) (N := 9) hx hb hts hi_X7_status_7 hown hK hP 0 rfl rfl 1 (by decide) (hts (.fieldLink RX7 18 "TheLiningsInIt" "now" "LTheLiningsInIt$Jacket;") (List.mem_of_getElem? (i := 2) rfl)) (fun _ h9 => h9) rfl dX7_status_77 ?_
          refine va_get (D := D) (ci := 0) (v := .int 0) (C := RX0) (T := TX0) (N := 9) hx hb hts hi_X7_status_0 hown hK hP 2 rfl rfl 3 (by decide) (hts (.fieldLink RX7 123 "TheLiningsInIt$Jacket" "pullCount" "I") (List.mem_of_getElem? (i := 3) rfl)) (fun _ h9 => h9) rfl dX7_status_80 ?_
          exact W.iret (v := 0) hx hb hr (fun t ht hW => ⟨⟨0, (), rfl, Or.inr (Or.inl (⟨rfl, (by first | omega | decide), (by first | omega | decide)⟩)), zP_nil, zD_nil⟩, hS.F ht⟩) hS.2.2 dX7_status_83
        · refine lv_tableIn (tgt := 84) hx hb dX7_status_22 (by decide) (by decide) rfl (by decide) ?_
          refine lv_aload_n hx hb dX7_status_84 rfl (lv_at hl 0 rfl) ?_
          refine va_get (D := D) (ci := 7) (v := .ref j0) (C := RX7) (T := TX7) (N := 9) hx hb hts hi_X7_status_7 hown hK hP 0 rfl rfl 1 (by decide) (hts (.fieldLink RX7 18 "TheLiningsInIt" "now" "LTheLiningsInIt$Jacket;") (List.mem_of_getElem? (i := 2) rfl)) (fun _ h9 => h9) rfl dX7_status_85 ?_
          refine va_get (D := D) (ci := 0) (v := .ref z0) (C := RX0) (T := TX0) (N := 9) hx hb hts hi_X7_status_0 hown hK hP 2 rfl rfl 0 (by decide) (hts (.fieldLink RX7 140 "TheLiningsInIt$Jacket" "zip" "LTheLiningsInIt$Zip;") (List.mem_of_getElem? (i := 4) rfl)) (fun _ h9 => h9) rfl dX7_status_88 ?_
          refine va_get (D := D) (ci := 6) (v := .int 20) (C := RX6) (T := TX6) (N := 5) hx hb hts hi_X7_status_6 hown hK hP 3 rfl rfl 2 (by decide) (hts (.fieldLink RX7 144 "TheLiningsInIt$Zip" "size" "I") (List.mem_of_getElem? (i := 5) rfl)) (fun _ h9 => h9) rfl dX7_status_91 ?_
          exact W.iret (v := 20) hx hb hr (fun t ht hW => ⟨⟨20, (), rfl, Or.inr (Or.inr (Or.inl (⟨rfl, (by first | omega | decide), (by first | omega | decide)⟩))), zP_nil, zD_nil⟩, hS.F ht⟩) hS.2.2 dX7_status_94
        · refine lv_tableIn (tgt := 95) hx hb dX7_status_22 (by decide) (by decide) rfl (by decide) ?_
          refine lv_aload_n hx hb dX7_status_95 rfl (lv_at hl 0 rfl) ?_
          refine va_get (D := D) (ci := 7) (v := .ref j0) (C := RX7) (T := TX7) (N := 9) hx hb hts hi_X7_status_7 hown hK hP 0 rfl rfl 1 (by decide) (hts (.fieldLink RX7 18 "TheLiningsInIt" "now" "LTheLiningsInIt$Jacket;") (List.mem_of_getElem? (i := 2) rfl)) (fun _ h9 => h9) rfl dX7_status_96 ?_
          refine va_get (D := D) (ci := 0) (v := .ref z0) (C := RX0) (T := TX0) (N := 9) hx hb hts hi_X7_status_0 hown hK hP 2 rfl rfl 0 (by decide) (hts (.fieldLink RX7 140 "TheLiningsInIt$Jacket" "zip" "LTheLiningsInIt$Zip;") (List.mem_of_getElem? (i := 4) rfl)) (fun _ h9 => h9) rfl dX7_status_99 ?_
          refine va_get (D := D) (ci := 6) (v := .int 0) (C := RX6) (T := TX6) (N := 5) hx hb hts hi_X7_status_6 hown hK hP 3 rfl rfl 3 (by decide) (hts (.fieldLink RX7 275 "TheLiningsInIt$Zip" "at" "I") (List.mem_of_getElem? (i := 6) rfl)) (fun _ h9 => h9) rfl dX7_status_102 ?_
          exact W.iret (v := 0) hx hb hr (fun t ht hW => ⟨⟨0, (), rfl, Or.inr (Or.inr (Or.inr (Or.inl (⟨rfl, (by first | omega | decide), (by first | omega | decide)⟩)))), zP_nil, zD_nil⟩, hS.F ht⟩) hS.2.2 dX7_status_105
        · refine lv_tableIn (tgt := 106) hx hb dX7_status_22 (by decide) (by decide) rfl (by decide) ?_
          refine lv_aload_n hx hb dX7_status_106 rfl (lv_at hl 0 rfl) ?_
          refine va_get (D := D) (ci := 7) (v := .ref j0) (C := RX7) (T := TX7) (N := 9) hx hb hts hi_X7_status_7 hown hK hP 0 rfl rfl 1 (by decide) (hts (.fieldLink RX7 18 "TheLiningsInIt" "now" "LTheLiningsInIt$Jacket;") (List.mem_of_getElem? (i := 2) rfl)) (fun _ h9 => h9) rfl dX7_status_107 ?_
          refine va_get (D := D) (ci := 0) (v := .int 0) (C := RX0) (T := TX0) (N := 9) hx hb hts hi_X7_status_0 hown hK hP 2 rfl rfl 4 (by decide) (hts (.fieldLink RX7 199 "TheLiningsInIt$Jacket" "depth" "I") (List.mem_of_getElem? (i := 7) rfl)) (fun _ h9 => h9) rfl dX7_status_110 ?_
          exact W.iret (v := 0) hx hb hr (fun t ht hW => ⟨⟨0, (), rfl, Or.inr (Or.inr (Or.inr (Or.inr (Or.inl (⟨rfl, (by first | omega | decide), (by first | omega | decide)⟩))))), zP_nil, zD_nil⟩, hS.F ht⟩) hS.2.2 dX7_status_113
        · refine lv_tableIn (tgt := 114) hx hb dX7_status_22 (by decide) (by decide) rfl (by decide) ?_
          refine lv_aload_n hx hb dX7_status_114 rfl (lv_at hl 0 rfl) ?_
          refine va_get (D := D) (ci := 7) (v := .ref j0) (C := RX7) (T := TX7) (N := 9) hx hb hts hi_X7_status_7 hown hK hP 0 rfl rfl 1 (by decide) (hts (.fieldLink RX7 18 "TheLiningsInIt" "now" "LTheLiningsInIt$Jacket;") (List.mem_of_getElem? (i := 2) rfl)) (fun _ h9 => h9) rfl dX7_status_115 ?_
          refine va_get (D := D) (ci := 0) (v := .int 0) (C := RX0) (T := TX0) (N := 9) hx hb hts hi_X7_status_0 hown hK hP 2 rfl rfl 5 (by decide) (hts (.fieldLink RX7 304 "TheLiningsInIt$Jacket" "torn" "I") (List.mem_of_getElem? (i := 8) rfl)) (fun _ h9 => h9) rfl dX7_status_118 ?_
          exact W.iret (v := 0) hx hb hr (fun t ht hW => ⟨⟨0, (), rfl, Or.inr (Or.inr (Or.inr (Or.inr (Or.inr (Or.inl (⟨rfl, (by first | omega | decide), (by first | omega | decide)⟩)))))), zP_nil, zD_nil⟩, hS.F ht⟩) hS.2.2 dX7_status_121
        · refine lv_tableIn (tgt := 122) hx hb dX7_status_22 (by decide) (by decide) rfl (by decide) ?_
          refine lv_aload_n hx hb dX7_status_122 rfl (lv_at hl 0 rfl) ?_
          refine va_get (D := D) (ci := 7) (v := .ref j0) (C := RX7) (T := TX7) (N := 9) hx hb hts hi_X7_status_7 hown hK hP 0 rfl rfl 1 (by decide) (hts (.fieldLink RX7 18 "TheLiningsInIt" "now" "LTheLiningsInIt$Jacket;") (List.mem_of_getElem? (i := 2) rfl)) (fun _ h9 => h9) rfl dX7_status_123 ?_
          refine va_get (D := D) (ci := 0) (v := .int 60) (C := RX0) (T := TX0) (N := 9) hx hb hts hi_X7_status_0 hown hK hP 2 rfl rfl 6 (by decide) (hts (.fieldLink RX7 202 "TheLiningsInIt$Jacket" "seconds" "I") (List.mem_of_getElem? (i := 9) rfl)) (fun _ h9 => h9) rfl dX7_status_126 ?_
          exact W.iret (v := 60) hx hb hr (fun t ht hW => ⟨⟨60, (), rfl, Or.inr (Or.inr (Or.inr (Or.inr (Or.inr (Or.inr (Or.inl (⟨rfl, (by first | omega | decide), (by first | omega | decide)⟩))))))), zP_nil, zD_nil⟩, hS.F ht⟩) hS.2.2 dX7_status_129
        · refine lv_tableIn (tgt := 130) hx hb dX7_status_22 (by decide) (by decide) rfl (by decide) ?_
          refine lv_aload_n hx hb dX7_status_130 rfl (lv_at hl 0 rfl) ?_
          refine va_get (D := D) (ci := 7) (v := .ref j0) (C := RX7) (T := TX7) (N := 9) hx hb hts hi_X7_status_7 hown hK hP 0 rfl rfl 1 (by decide) (hts (.fieldLink RX7 18 "TheLiningsInIt" "now" "LTheLiningsInIt$Jacket;") (List.mem_of_getElem? (i := 2) rfl)) (fun _ h9 => h9) rfl dX7_status_131 ?_
          refine va_get (D := D) (ci := 0) (v := .int 0) (C := RX0) (T := TX0) (N := 9) hx hb hts hi_X7_status_0 hown hK hP 2 rfl rfl 7 (by decide) (hts (.fieldLink RX7 116 "TheLiningsInIt$Jacket" "hurry" "I") (List.mem_of_getElem? (i := 10) rfl)) (fun _ h9 => h9) rfl dX7_status_134 ?_
          exact W.iret (v := 0) hx hb hr (fun t ht hW => ⟨⟨0, (), rfl, Or.inr (Or.inr (Or.inr (Or.inr (Or.inr (Or.inr (Or.inr (Or.inl (⟨rfl, (by first | omega | decide), (by first | omega | decide)⟩)))))))), zP_nil, zD_nil⟩, hS.F ht⟩) hS.2.2 dX7_status_137
        · refine lv_tableIn (tgt := 138) hx hb dX7_status_22 (by decide) (by decide) rfl (by decide) ?_
          refine lv_aload_n hx hb dX7_status_138 rfl (lv_at hl 0 rfl) ?_
          refine va_get (D := D) (ci := 7) (v := .ref j0) (C := RX7) (T := TX7) (N := 9) hx hb hts hi_X7_status_7 hown hK hP 0 rfl rfl 1 (by decide) (hts (.fieldLink RX7 18 "TheLiningsInIt" "now" "LTheLiningsInIt$Jacket;") (List.mem_of_getElem? (i := 2) rfl)) (fun _ h9 => h9) rfl dX7_status_139 ?_
          refine va_get (D := D) (ci := 0) (v := .ref z0) (C := RX0) (T := TX0) (N := 9) hx hb hts hi_X7_status_0 hown hK hP 2 rfl rfl 0 (by decide) (hts (.fieldLink RX7 140 "TheLiningsInIt$Jacket" "zip" "LTheLiningsInIt$Zip;") (List.mem_of_getElem? (i := 4) rfl)) (fun _ h9 => h9) rfl dX7_status_142 ?_
          refine va_get (D := D) (ci := 6) (v := .int 3) (C := RX6) (T := TX6) (N := 5) hx hb hts hi_X7_status_6 hown hK hP 3 rfl rfl 4 (by decide) (hts (.fieldLink RX7 307 "TheLiningsInIt$Zip" "gap" "I") (List.mem_of_getElem? (i := 11) rfl)) (fun _ h9 => h9) rfl dX7_status_145 ?_
          exact W.iret (v := 3) hx hb hr (fun t ht hW => ⟨⟨3, (), rfl, Or.inr (Or.inr (Or.inr (Or.inr (Or.inr (Or.inr (Or.inr (Or.inr (Or.inl (⟨rfl, (by first | omega | decide), (by first | omega | decide)⟩))))))))), zP_nil, zD_nil⟩, hS.F ht⟩) hS.2.2 dX7_status_148
        · refine lv_tableIn (tgt := 149) hx hb dX7_status_22 (by decide) (by decide) rfl (by decide) ?_
          refine lv_aload_n hx hb dX7_status_149 rfl (lv_at hl 0 rfl) ?_
          refine va_get (D := D) (ci := 7) (v := .ref j0) (C := RX7) (T := TX7) (N := 9) hx hb hts hi_X7_status_7 hown hK hP 0 rfl rfl 1 (by decide) (hts (.fieldLink RX7 18 "TheLiningsInIt" "now" "LTheLiningsInIt$Jacket;") (List.mem_of_getElem? (i := 2) rfl)) (fun _ h9 => h9) rfl dX7_status_150 ?_
          refine va_get (D := D) (ci := 0) (v := .int 1) (C := RX0) (T := TX0) (N := 9) hx hb hts hi_X7_status_0 hown hK hP 2 rfl rfl 8 (by decide) (hts (.fieldLink RX7 285 "TheLiningsInIt$Jacket" "seedNow" "I") (List.mem_of_getElem? (i := 12) rfl)) (fun _ h9 => h9) rfl dX7_status_153 ?_
          exact W.iret (v := 1) hx hb hr (fun t ht hW => ⟨⟨1, (), rfl, Or.inr (Or.inr (Or.inr (Or.inr (Or.inr (Or.inr (Or.inr (Or.inr (Or.inr (Or.inl (⟨rfl, (by first | omega | decide), (by first | omega | decide)⟩)))))))))), zP_nil, zD_nil⟩, hS.F ht⟩) hS.2.2 dX7_status_156
        · refine lv_tableIn (tgt := 157) hx hb dX7_status_22 (by decide) (by decide) rfl (by decide) ?_
          refine lv_aload_n hx hb dX7_status_157 rfl (lv_at hl 0 rfl) ?_
          refine va_get (D := D) (ci := 7) (v := .ref mv) (C := RX7) (T := TX7) (N := 9) hx hb hts hi_X7_status_7 hown hK hP 0 rfl rfl 5 (by decide) (hts (.fieldLink RX7 42 "TheLiningsInIt" "moves" "LTheLiningsInIt$Moves;") (List.mem_of_getElem? (i := 13) rfl)) (fun _ h9 => h9) rfl dX7_status_158 ?_
          refine va_get (D := D) (ci := 1) (v := .int 0) (C := RX1) (T := TX1) (N := 5) hx hb hts hi_X7_status_1 hown hK hP 4 rfl rfl 1 (by decide) (hts (.fieldLink RX7 288 "TheLiningsInIt$Moves" "ran" "I") (List.mem_of_getElem? (i := 14) rfl)) (fun _ h9 => h9) rfl dX7_status_161 ?_
          exact W.iret (v := 0) hx hb hr (fun t ht hW => ⟨⟨0, (), rfl, Or.inr (Or.inr (Or.inr (Or.inr (Or.inr (Or.inr (Or.inr (Or.inr (Or.inr (Or.inr (Or.inl (⟨rfl, (by first | omega | decide), (by first | omega | decide)⟩))))))))))), zP_nil, zD_nil⟩, hS.F ht⟩) hS.2.2 dX7_status_164
    · exact absurd c_7 (by decide)
  · refine lv_if_eq (tgt := 21) hx hb dX7_status_8 (by decide) (fun c_8 => ?_) (fun c_8 => ?_)
    · refine lv_iload_n hx hb dX7_status_21 rfl (lv_at hl 1 rfl) ?_
      by_cases hsp : w.toInt < 0 ∨ 9 < w.toInt
      · refine lv_tableOut (tgt := 165) hx hb dX7_status_22 hsp (by decide) ?_
        refine lv_iconst (v := (-1)) hx hb dX7_status_165 (by decide) ?_
        exact W.iret (v := (-1)) hx hb hr (fun t ht hW => ⟨⟨(-1), (), rfl, Or.inr (Or.inr (Or.inr (Or.inr (Or.inr (Or.inr (Or.inr (Or.inr (Or.inr (Or.inr (Or.inr (Or.inl (⟨rfl, (by first | omega | decide), (by first | omega | decide), (by first | omega | decide)⟩)))))))))))), zP_nil, zD_nil⟩, hS.F ht⟩) hS.2.2 dX7_status_166
      · exfalso; omega
    · exact absurd c_8 (by decide)
  · refine lv_if_eq (tgt := 21) hx hb dX7_status_8 (by decide) (fun c_9 => ?_) (fun c_9 => ?_)
    · exact absurd c_9 (by decide)
    · refine lv_aload_n hx hb dX7_status_11 rfl (lv_at hl 0 rfl) ?_
      refine va_get (D := D) (ci := 7) (v := .ref xr) (C := RX7) (T := TX7) (N := 9) hx hb hts hi_X7_status_7 hown hK hP 0 rfl rfl 6 (by decide) (hts (.fieldLink RX7 46 "TheLiningsInIt" "refusals" "[I") (List.mem_of_getElem? (i := 1) rfl)) (fun _ h9 => h9) rfl dX7_status_12 ?_
      refine lv_iload_n hx hb dX7_status_15 rfl (lv_at hl 1 rfl) ?_
      refine lv_bipush (v := 10) hx hb dX7_status_16 (by decide) ?_
      refine lv_isub hx hb dX7_status_18 ?_
      refine lv_topi (fun x_10 ex_10 => ?_)
      have qx_10 : x_10.toInt = w.toInt - 10 := by rw [ex_10]; exact zf_sub rfl (by decide) (by omega) (by omega)
      refine va_iald hx hb hK hP 1 0 rfl rfl (zf_in (by omega) (by omega)) dX7_status_19 ?_
      refine lv_topi (fun x_11 ex_11 => ?_)
      obtain rfl : x_11 = 0 := ex_11
      exact W.iret (v := 0) hx hb hr (fun t ht hW => ⟨⟨0, (), rfl, Or.inr (Or.inr (Or.inr (Or.inr (Or.inr (Or.inr (Or.inr (Or.inr (Or.inr (Or.inr (Or.inr (Or.inr (⟨rfl, (by first | omega | decide), (by first | omega | decide)⟩)))))))))))), zP_nil, zD_nil⟩, hS.F ht⟩) hS.2.2 dX7_status_20
