section
theorem hi_X1_run_1 : ∀ w ∈ u_ws RX1 TX1 5, w ∈ wsX1_run := fun w h => (gl_X1_run_X10 w h).1
set_option maxHeartbeats 4000000 in
set_option maxRecDepth 100000 in
theorem c_M_run_0_0_0_0 (l : Launch) (D : va_G) (cI cJ cZ cP cS : ClassId) (po : zPool) (mv mb : Nat) (mr mm mq : Int32) (fb : Nat → Int32) (x : Int32) (hy0 : 0 ≤ mr.toInt) (hy1 : mr.toInt ≤ 1000) (hpz : Nat) : Met l yX1_run wsX1_run ({ frames := 2, cells := 0, slots := 0, locals := 46 }) (va_Pc [.ref mv, .int 0, .int 0, .int x, .int 0] (zW D (zKT cI cJ cZ cP cS) po [(mv, .inr (1, [.ref mb, .int mr, .int 0, .int mm, .int mq])), (mb, .inl (cI, 20, .inl fb))] hpz)) (va_Qi (fun (r : Int32) (u : (Int32) × (Nat → Int32)) => u.1.toInt = mr.toInt + 1 ∧ (True)) (zB D [(mv, .inr (1, [.ref mb, .int mr, .int 0, .int mm, .int mq])), (mb, .inl (cI, 20, .inl fb))] hpz (fun (u : (Int32) × (Nat → Int32)) => [(mv, .inr (1, [.ref mb, .int u.1, .int 0, .int mm, .int mq])), (mb, .inl (cI, 20, .inl u.2))])) (va_A [(mv, .inr (1, [.ref mb, .int mr, .int 0, .int mm, .int mq])), (mb, .inl (cI, 20, .inl fb))] hpz)) 0 0 (va_A [(mv, .inr (1, [.ref mb, .int mr, .int 0, .int mm, .int mq])), (mb, .inl (cI, 20, .inl fb))] hpz) := by
  refine Met.ofW (cc := cX1_run) (maxL := 7) (ret := (some .int)) (by decide) rfl ?_
  intro p e s m args below meth c s₁ B hml hv
  obtain ⟨rfl, hsz, hP, hK, hD0, hN, hZ⟩ := hv
  have hx := B.exec
  have hb := B.bytes
  have hr := B.returns
  have hts := atoms_spec (ws := wsX1_run) B.pre
  have hown : s.vm.findClass RX1 = some m.cls := findClass_of_methodNamed B.named
  have hlocks := B.notSynchronized
  subst hsz
  have hD := hD0.self (sz := s.heap.size)
  have hA := zA_of hD
  have hl := lv_entry ([.ref mv, .int 0, .int 0, .int x, .int 0]) (n := 7) (Nat.le_of_ble_eq_true rfl)
  rw [lg_entry_eq]
  generalize (lg_sl ([.ref mv, .int 0, .int 0, .int x, .int 0]) ++ List.replicate (7 - (lg_sl ([.ref mv, .int 0, .int 0, .int x, .int 0])).length) Slot.unset).toArray = ls at hl ⊢
  replace hl : lv_has ls 7 [(0, .ref mv), (1, .int 0), (2, .int 0), (3, .int x), (4, .int 0)] := hl
  refine zw_begin hP hD (fun H locs hP1 hS => ?_)
  clear hP
  have hP := hP1
  clear hP1
  refine lv_iload_n hx hb dX1_run_0 rfl (lv_at hl 1 rfl) ?_
  refine lv_iload_n hx hb dX1_run_1 rfl (lv_at hl 2 rfl) ?_
  refine zc_S (As := [.int 0, .int 0]) (rest := []) ⟨hx, hb, hml, hown, hts⟩ (c_M_bodyFor_0_0 l D cI cJ cZ cP cS po  ) (va_cwS 2 hts gX1_run_X1_bodyFor rfl rfl rfl dh_X1_bodyFor ⟨Nat.le_of_ble_eq_true rfl, Nat.le_of_ble_eq_true rfl⟩) hK hN (hZ.kept hS) rfl hl.1 rfl (Nat.le_of_ble_eq_true rfl) dX1_run_2 ⟨Nat.le_of_ble_eq_true rfl, Nat.le_of_ble_eq_true rfl⟩ (fun r_1 hr_1 => ?_)
  obtain rfl := hr_1
  refine lv_istore (lv' := [(5, .int 10), (0, .ref mv), (1, .int 0), (2, .int 0), (3, .int x), (4, .int 0)]) hx hb dX1_run_5 hl (by decide) rfl (fun ls hl => ?_)
  refine lv_iload hx hb dX1_run_7 (lv_at hl 0 rfl) ?_
  refine lv_iconst (v := (-1)) hx hb dX1_run_9 (by decide) ?_
  refine lv_icmp_eq (tgt := 20) hx hb dX1_run_10 (by decide) (fun c_2 => ?_) (fun c_2 => ?_)
  · exact absurd c_2 (by decide)
  · refine lv_iload hx hb dX1_run_13 (lv_at hl 5 rfl) ?_
    refine lv_bipush (v := 40) hx hb dX1_run_15 (by decide) ?_
    refine lv_icmp_lt (tgt := 22) hx hb dX1_run_17 (by decide) (fun c_3 => ?_) (fun c_3 => ?_)
    · refine lv_aload_n hx hb dX1_run_22 rfl (lv_at hl 1 rfl) ?_
      refine lv_iload hx hb dX1_run_23 (lv_at hl 0 rfl) ?_
      skip
      refine zw_Vv (As := [.int 10]) (rest := []) (wr := []) ⟨hx, hb, hml, hown, hts⟩ (c_M_note l D cI cJ cZ cP cS po mv mb (mr) (0) (mm) (mq) fb (10) hy0 (by omega) H.size) (cwV 1 hts gX1_run_X1_note rfl rfl rfl ⟨rfl, dh_X1_note⟩ ⟨Nat.le_of_ble_eq_true rfl, Nat.le_of_ble_eq_true rfl⟩) hK hN (hZ.kept hS) hP hD hS hA [0, 1] [] rfl rfl (by decide) (by decide) (by decide) (va_recv (q := (RX1, TX1, 5)) hK hP (ci := 1) (q0 := 0) rfl rfl) rfl hl.1 rfl (Nat.le_of_ble_eq_true rfl) dX1_run_25 ⟨Nat.le_of_ble_eq_true rfl, Nat.le_of_ble_eq_true rfl⟩ (fun u_5 H locs hr_4 hP hD hS => ?_)
      obtain ⟨q_6, q_7⟩ := u_5
      try dsimp only at hr_4
      obtain ⟨hbq_6, hr_4⟩ := hr_4
      have h9R := zRe (ws' := [(mv, .inr (1, [.ref mb, .int q_6, .int 0, .int mm, .int mq])), (mb, .inl (cI, 20, .inl q_7))]) hP hD rfl
      clear hP hD
      obtain ⟨hP, hD⟩ := h9R
      refine lv_iload hx hb dX1_run_28 (lv_at hl 5 rfl) ?_
      refine lv_iconst (v := 1) hx hb dX1_run_30 (by decide) ?_
      refine lv_iadd hx hb dX1_run_31 ?_
      refine lv_topi (fun y_8 ey_8 => ?_)
      obtain rfl : y_8 = 1 := ey_8.trans (by decide)
      refine lv_istore (lv' := [(6, .int 1), (5, .int 10), (0, .ref mv), (1, .int 0), (2, .int 0), (3, .int x), (4, .int 0)]) hx hb dX1_run_32 hl (by decide) rfl (fun ls hl => ?_)
      refine lv_iload hx hb dX1_run_34 (lv_at hl 1 rfl) ?_
      refine lv_lookup (off := 92) (tgt := 128) hx hb dX1_run_36 (by decide) (by decide) (by decide) ?_
      refine lv_iload_n hx hb dX1_run_128 rfl (lv_at hl 5 rfl) ?_
      refine lv_aload_n hx hb dX1_run_129 rfl (lv_at hl 2 rfl) ?_
      refine va_get (D := D) (ci := 1) (v := .int mm) (C := RX1) (T := TX1) (N := 5) hx hb hts hi_X1_run_1 hown hK hP 0 rfl rfl 3 (by decide) (hts (.fieldLink RX1 22 "TheLiningsInIt$Moves" "m" "I") (List.mem_of_getElem? (i := 1) rfl)) (fun _ h9 => h9) rfl dX1_run_130 ?_
      refine lv_iadd hx hb dX1_run_133 ?_
      refine lv_topi (fun x_9 ex_9 => ?_)
      exact W.iret (v := x_9) hx hb hr (fun t ht hW => ⟨⟨x_9, (q_6, q_7), rfl, ⟨(show q_6.toInt = mr.toInt + 1 from by omega), trivial⟩, zRet ht hP hD [0, 1] (by decide) rfl⟩, hS.F ht⟩) hS.2.2 dX1_run_134
    · exact absurd c_3 (by decide)
set_option maxHeartbeats 4000000 in
set_option maxRecDepth 100000 in
theorem c_M_run_0_0_0_1 (l : Launch) (D : va_G) (cI cJ cZ cP cS : ClassId) (po : zPool) (mv mb : Nat) (mr mm mq : Int32) (fb : Nat → Int32) (x : Int32) (hy0 : 0 ≤ mr.toInt) (hy1 : mr.toInt ≤ 1100) (hpz : Nat) : Met l yX1_run wsX1_run ({ frames := 2, cells := 0, slots := 0, locals := 46 }) (va_Pc [.ref mv, .int 0, .int 0, .int x, .int 1] (zW D (zKT cI cJ cZ cP cS) po [(mv, .inr (1, [.ref mb, .int mr, .int 0, .int mm, .int mq])), (mb, .inl (cI, 20, .inl fb))] hpz)) (va_Qi (fun (r : Int32) (u : (Int32) × (Nat → Int32)) => u.1.toInt = mr.toInt + 1 ∧ (True)) (zB D [(mv, .inr (1, [.ref mb, .int mr, .int 0, .int mm, .int mq])), (mb, .inl (cI, 20, .inl fb))] hpz (fun (u : (Int32) × (Nat → Int32)) => [(mv, .inr (1, [.ref mb, .int u.1, .int 0, .int mm, .int mq])), (mb, .inl (cI, 20, .inl u.2))])) (va_A [(mv, .inr (1, [.ref mb, .int mr, .int 0, .int mm, .int mq])), (mb, .inl (cI, 20, .inl fb))] hpz)) 0 0 (va_A [(mv, .inr (1, [.ref mb, .int mr, .int 0, .int mm, .int mq])), (mb, .inl (cI, 20, .inl fb))] hpz) := by
  refine Met.ofW (cc := cX1_run) (maxL := 7) (ret := (some .int)) (by decide) rfl ?_
  intro p e s m args below meth c s₁ B hml hv
  obtain ⟨rfl, hsz, hP, hK, hD0, hN, hZ⟩ := hv
  have hx := B.exec
  have hb := B.bytes
  have hr := B.returns
  have hts := atoms_spec (ws := wsX1_run) B.pre
  have hown : s.vm.findClass RX1 = some m.cls := findClass_of_methodNamed B.named
  have hlocks := B.notSynchronized
  subst hsz
  have hD := hD0.self (sz := s.heap.size)
  have hA := zA_of hD
  have hl := lv_entry ([.ref mv, .int 0, .int 0, .int x, .int 1]) (n := 7) (Nat.le_of_ble_eq_true rfl)
  rw [lg_entry_eq]
  generalize (lg_sl ([.ref mv, .int 0, .int 0, .int x, .int 1]) ++ List.replicate (7 - (lg_sl ([.ref mv, .int 0, .int 0, .int x, .int 1])).length) Slot.unset).toArray = ls at hl ⊢
  replace hl : lv_has ls 7 [(0, .ref mv), (1, .int 0), (2, .int 0), (3, .int x), (4, .int 1)] := hl
  refine zw_begin hP hD (fun H locs hP1 hS => ?_)
  clear hP
  have hP := hP1
  clear hP1
  refine lv_iload_n hx hb dX1_run_0 rfl (lv_at hl 1 rfl) ?_
  refine lv_iload_n hx hb dX1_run_1 rfl (lv_at hl 2 rfl) ?_
  refine zc_S (As := [.int 0, .int 0]) (rest := []) ⟨hx, hb, hml, hown, hts⟩ (c_M_bodyFor_0_0 l D cI cJ cZ cP cS po  ) (va_cwS 2 hts gX1_run_X1_bodyFor rfl rfl rfl dh_X1_bodyFor ⟨Nat.le_of_ble_eq_true rfl, Nat.le_of_ble_eq_true rfl⟩) hK hN (hZ.kept hS) rfl hl.1 rfl (Nat.le_of_ble_eq_true rfl) dX1_run_2 ⟨Nat.le_of_ble_eq_true rfl, Nat.le_of_ble_eq_true rfl⟩ (fun r_1 hr_1 => ?_)
  obtain rfl := hr_1
  refine lv_istore (lv' := [(5, .int 10), (0, .ref mv), (1, .int 0), (2, .int 0), (3, .int x), (4, .int 1)]) hx hb dX1_run_5 hl (by decide) rfl (fun ls hl => ?_)
  refine lv_iload hx hb dX1_run_7 (lv_at hl 0 rfl) ?_
  refine lv_iconst (v := (-1)) hx hb dX1_run_9 (by decide) ?_
  refine lv_icmp_eq (tgt := 20) hx hb dX1_run_10 (by decide) (fun c_2 => ?_) (fun c_2 => ?_)
  · exact absurd c_2 (by decide)
  · refine lv_iload hx hb dX1_run_13 (lv_at hl 5 rfl) ?_
    refine lv_bipush (v := 40) hx hb dX1_run_15 (by decide) ?_
    refine lv_icmp_lt (tgt := 22) hx hb dX1_run_17 (by decide) (fun c_3 => ?_) (fun c_3 => ?_)
    · refine lv_aload_n hx hb dX1_run_22 rfl (lv_at hl 1 rfl) ?_
      refine lv_iload hx hb dX1_run_23 (lv_at hl 0 rfl) ?_
      skip
      refine zw_Vv (As := [.int 10]) (rest := []) (wr := []) ⟨hx, hb, hml, hown, hts⟩ (c_M_note l D cI cJ cZ cP cS po mv mb (mr) (0) (mm) (mq) fb (10) hy0 (by omega) H.size) (cwV 1 hts gX1_run_X1_note rfl rfl rfl ⟨rfl, dh_X1_note⟩ ⟨Nat.le_of_ble_eq_true rfl, Nat.le_of_ble_eq_true rfl⟩) hK hN (hZ.kept hS) hP hD hS hA [0, 1] [] rfl rfl (by decide) (by decide) (by decide) (va_recv (q := (RX1, TX1, 5)) hK hP (ci := 1) (q0 := 0) rfl rfl) rfl hl.1 rfl (Nat.le_of_ble_eq_true rfl) dX1_run_25 ⟨Nat.le_of_ble_eq_true rfl, Nat.le_of_ble_eq_true rfl⟩ (fun u_5 H locs hr_4 hP hD hS => ?_)
      obtain ⟨q_6, q_7⟩ := u_5
      try dsimp only at hr_4
      obtain ⟨hbq_6, hr_4⟩ := hr_4
      have h9R := zRe (ws' := [(mv, .inr (1, [.ref mb, .int q_6, .int 0, .int mm, .int mq])), (mb, .inl (cI, 20, .inl q_7))]) hP hD rfl
      clear hP hD
      obtain ⟨hP, hD⟩ := h9R
      refine lv_iload hx hb dX1_run_28 (lv_at hl 5 rfl) ?_
      refine lv_iconst (v := 1) hx hb dX1_run_30 (by decide) ?_
      refine lv_iadd hx hb dX1_run_31 ?_
      refine lv_topi (fun y_8 ey_8 => ?_)
      obtain rfl : y_8 = 2 := ey_8.trans (by decide)
      refine lv_istore (lv' := [(6, .int 2), (5, .int 10), (0, .ref mv), (1, .int 0), (2, .int 0), (3, .int x), (4, .int 1)]) hx hb dX1_run_32 hl (by decide) rfl (fun ls hl => ?_)
      refine lv_iload hx hb dX1_run_34 (lv_at hl 1 rfl) ?_
      refine lv_lookup (off := 92) (tgt := 128) hx hb dX1_run_36 (by decide) (by decide) (by decide) ?_
      refine lv_iload_n hx hb dX1_run_128 rfl (lv_at hl 5 rfl) ?_
      refine lv_aload_n hx hb dX1_run_129 rfl (lv_at hl 2 rfl) ?_
      refine va_get (D := D) (ci := 1) (v := .int mm) (C := RX1) (T := TX1) (N := 5) hx hb hts hi_X1_run_1 hown hK hP 0 rfl rfl 3 (by decide) (hts (.fieldLink RX1 22 "TheLiningsInIt$Moves" "m" "I") (List.mem_of_getElem? (i := 1) rfl)) (fun _ h9 => h9) rfl dX1_run_130 ?_
      refine lv_iadd hx hb dX1_run_133 ?_
      refine lv_topi (fun x_9 ex_9 => ?_)
      exact W.iret (v := x_9) hx hb hr (fun t ht hW => ⟨⟨x_9, (q_6, q_7), rfl, ⟨(show q_6.toInt = mr.toInt + 1 from by omega), trivial⟩, zRet ht hP hD [0, 1] (by decide) rfl⟩, hS.F ht⟩) hS.2.2 dX1_run_134
    · exact absurd c_3 (by decide)
set_option maxHeartbeats 4000000 in
set_option maxRecDepth 100000 in
theorem c_M_run_0_0_1_0 (l : Launch) (D : va_G) (cI cJ cZ cP cS : ClassId) (po : zPool) (mv mb : Nat) (mr mm mq : Int32) (fb : Nat → Int32) (x : Int32) (hy0 : 0 ≤ mr.toInt) (hy1 : mr.toInt ≤ 1000) (hpz : Nat) : Met l yX1_run wsX1_run ({ frames := 3, cells := 0, slots := 0, locals := 72 }) (va_Pc [.ref mv, .int 0, .int 1, .int x, .int 0] (zW D (zKT cI cJ cZ cP cS) po [(mv, .inr (1, [.ref mb, .int mr, .int 0, .int mm, .int mq])), (mb, .inl (cI, 20, .inl fb))] hpz)) (va_Qi (fun (r : Int32) (u : (Int32) × (Nat → Int32)) => u.1.toInt = mr.toInt + 2 ∧ (True)) (zB D [(mv, .inr (1, [.ref mb, .int mr, .int 0, .int mm, .int mq])), (mb, .inl (cI, 20, .inl fb))] hpz (fun (u : (Int32) × (Nat → Int32)) => [(mv, .inr (1, [.ref mb, .int u.1, .int 0, .int mm, .int mq])), (mb, .inl (cI, 20, .inl u.2))])) (va_A [(mv, .inr (1, [.ref mb, .int mr, .int 0, .int mm, .int mq])), (mb, .inl (cI, 20, .inl fb))] hpz)) 0 0 (va_A [(mv, .inr (1, [.ref mb, .int mr, .int 0, .int mm, .int mq])), (mb, .inl (cI, 20, .inl fb))] hpz) := by
  refine Met.ofW (cc := cX1_run) (maxL := 7) (ret := (some .int)) (by decide) rfl ?_
  intro p e s m args below meth c s₁ B hml hv
  obtain ⟨rfl, hsz, hP, hK, hD0, hN, hZ⟩ := hv
  have hx := B.exec
  have hb := B.bytes
  have hr := B.returns
  have hts := atoms_spec (ws := wsX1_run) B.pre
  have hown : s.vm.findClass RX1 = some m.cls := findClass_of_methodNamed B.named
  have hlocks := B.notSynchronized
  subst hsz
  have hD := hD0.self (sz := s.heap.size)
  have hA := zA_of hD
  have hl := lv_entry ([.ref mv, .int 0, .int 1, .int x, .int 0]) (n := 7) (Nat.le_of_ble_eq_true rfl)
  rw [lg_entry_eq]
  generalize (lg_sl ([.ref mv, .int 0, .int 1, .int x, .int 0]) ++ List.replicate (7 - (lg_sl ([.ref mv, .int 0, .int 1, .int x, .int 0])).length) Slot.unset).toArray = ls at hl ⊢
  replace hl : lv_has ls 7 [(0, .ref mv), (1, .int 0), (2, .int 1), (3, .int x), (4, .int 0)] := hl
  refine zw_begin hP hD (fun H locs hP1 hS => ?_)
  clear hP
  have hP := hP1
  clear hP1
  refine lv_iload_n hx hb dX1_run_0 rfl (lv_at hl 1 rfl) ?_
  refine lv_iload_n hx hb dX1_run_1 rfl (lv_at hl 2 rfl) ?_
  refine zc_S (As := [.int 0, .int 1]) (rest := []) ⟨hx, hb, hml, hown, hts⟩ (c_M_bodyFor_0_1 l D cI cJ cZ cP cS po  ) (va_cwS 2 hts gX1_run_X1_bodyFor rfl rfl rfl dh_X1_bodyFor ⟨Nat.le_of_ble_eq_true rfl, Nat.le_of_ble_eq_true rfl⟩) hK hN (hZ.kept hS) rfl hl.1 rfl (Nat.le_of_ble_eq_true rfl) dX1_run_2 ⟨Nat.le_of_ble_eq_true rfl, Nat.le_of_ble_eq_true rfl⟩ (fun r_1 hr_1 => ?_)
  obtain rfl := hr_1
  refine lv_istore (lv' := [(5, .int 11), (0, .ref mv), (1, .int 0), (2, .int 1), (3, .int x), (4, .int 0)]) hx hb dX1_run_5 hl (by decide) rfl (fun ls hl => ?_)
  refine lv_iload hx hb dX1_run_7 (lv_at hl 0 rfl) ?_
  refine lv_iconst (v := (-1)) hx hb dX1_run_9 (by decide) ?_
  refine lv_icmp_eq (tgt := 20) hx hb dX1_run_10 (by decide) (fun c_2 => ?_) (fun c_2 => ?_)
  · exact absurd c_2 (by decide)
  · refine lv_iload hx hb dX1_run_13 (lv_at hl 5 rfl) ?_
    refine lv_bipush (v := 40) hx hb dX1_run_15 (by decide) ?_
    refine lv_icmp_lt (tgt := 22) hx hb dX1_run_17 (by decide) (fun c_3 => ?_) (fun c_3 => ?_)
    · refine lv_aload_n hx hb dX1_run_22 rfl (lv_at hl 1 rfl) ?_
      refine lv_iload hx hb dX1_run_23 (lv_at hl 0 rfl) ?_
      skip
      refine zw_Vv (As := [.int 11]) (rest := []) (wr := []) ⟨hx, hb, hml, hown, hts⟩ (c_M_note l D cI cJ cZ cP cS po mv mb (mr) (0) (mm) (mq) fb (11) hy0 (by omega) H.size) (cwV 1 hts gX1_run_X1_note rfl rfl rfl ⟨rfl, dh_X1_note⟩ ⟨Nat.le_of_ble_eq_true rfl, Nat.le_of_ble_eq_true rfl⟩) hK hN (hZ.kept hS) hP hD hS hA [0, 1] [] rfl rfl (by decide) (by decide) (by decide) (va_recv (q := (RX1, TX1, 5)) hK hP (ci := 1) (q0 := 0) rfl rfl) rfl hl.1 rfl (Nat.le_of_ble_eq_true rfl) dX1_run_25 ⟨Nat.le_of_ble_eq_true rfl, Nat.le_of_ble_eq_true rfl⟩ (fun u_5 H locs hr_4 hP hD hS => ?_)
      obtain ⟨q_6, q_7⟩ := u_5
      try dsimp only at hr_4
      obtain ⟨hbq_6, hr_4⟩ := hr_4
      have h9R := zRe (ws' := [(mv, .inr (1, [.ref mb, .int q_6, .int 0, .int mm, .int mq])), (mb, .inl (cI, 20, .inl q_7))]) hP hD rfl
      clear hP hD
      obtain ⟨hP, hD⟩ := h9R
      refine lv_iload hx hb dX1_run_28 (lv_at hl 5 rfl) ?_
      refine lv_iconst (v := 1) hx hb dX1_run_30 (by decide) ?_
      refine lv_iadd hx hb dX1_run_31 ?_
      refine lv_topi (fun y_8 ey_8 => ?_)
      obtain rfl : y_8 = 1 := ey_8.trans (by decide)
      refine lv_istore (lv' := [(6, .int 1), (5, .int 11), (0, .ref mv), (1, .int 0), (2, .int 1), (3, .int x), (4, .int 0)]) hx hb dX1_run_32 hl (by decide) rfl (fun ls hl => ?_)
      refine lv_iload hx hb dX1_run_34 (lv_at hl 1 rfl) ?_
      refine lv_lookup (off := 99) (tgt := 135) hx hb dX1_run_36 (by decide) (by decide) (by decide) ?_
      refine lv_aload_n hx hb dX1_run_135 rfl (lv_at hl 2 rfl) ?_
      refine lv_aload_n hx hb dX1_run_136 rfl (lv_at hl 2 rfl) ?_
      refine va_get (D := D) (ci := 1) (v := .int 0) (C := RX1) (T := TX1) (N := 5) hx hb hts hi_X1_run_1 hown hK hP 0 rfl rfl 2 (by decide) (hts (.fieldLink RX1 19 "TheLiningsInIt$Moves" "kind" "I") (List.mem_of_getElem? (i := 2) rfl)) (fun _ h9 => h9) rfl dX1_run_137 ?_
      refine lv_iconst (v := 0) hx hb dX1_run_140 (by decide) ?_
      refine lv_iload_n hx hb dX1_run_141 rfl (lv_at hl 5 rfl) ?_
      refine lv_iload hx hb dX1_run_142 (lv_at hl 0 rfl) ?_
      skip
      refine zw_V (As := [.int 0, .int 0, .int x, .int 1]) (rest := []) (wr := []) ⟨hx, hb, hml, hown, hts⟩ (c_M_run_0_0_0_1 l D cI cJ cZ cP cS po mv mb (q_6) (mm) (mq) q_7 (x) (by omega) (by omega) H.size) (cwV 4 hts gX1_run_X1_run rfl rfl rfl ⟨rfl, dh_X1_run⟩ ⟨Nat.le_of_ble_eq_true rfl, Nat.le_of_ble_eq_true rfl⟩) hK hN (hZ.kept hS) hP hD hS hA [0, 1] [] rfl rfl (by decide) (by decide) (by decide) (va_recv (q := (RX1, TX1, 5)) hK hP (ci := 1) (q0 := 0) rfl rfl) rfl hl.1 rfl (Nat.le_of_ble_eq_true rfl) dX1_run_144 ⟨Nat.le_of_ble_eq_true rfl, Nat.le_of_ble_eq_true rfl⟩ (fun r_9 u_10 H locs hr_9 hP hD hS => ?_)
      obtain ⟨q_11, q_12⟩ := u_10
      try dsimp only at hr_9
      obtain ⟨hbq_11, hr_9⟩ := hr_9
      have h9R := zRe (ws' := [(mv, .inr (1, [.ref mb, .int q_11, .int 0, .int mm, .int mq])), (mb, .inl (cI, 20, .inl q_12))]) hP hD rfl
      clear hP hD
      obtain ⟨hP, hD⟩ := h9R
      refine lv_iconst (v := 2) hx hb dX1_run_147 (by decide) ?_
      refine lv_imul hx hb dX1_run_148 ?_
      refine lv_topi (fun x_13 ex_13 => ?_)
      exact W.iret (v := x_13) hx hb hr (fun t ht hW => ⟨⟨x_13, (q_11, q_12), rfl, ⟨(show q_11.toInt = mr.toInt + 2 from by omega), trivial⟩, zRet ht hP hD [0, 1] (by decide) rfl⟩, hS.F ht⟩) hS.2.2 dX1_run_149
    · exact absurd c_3 (by decide)
set_option maxHeartbeats 4000000 in
set_option maxRecDepth 100000 in
theorem c_M_run_0_0_0_2 (l : Launch) (D : va_G) (cI cJ cZ cP cS : ClassId) (po : zPool) (mv mb : Nat) (mr mm mq : Int32) (fb : Nat → Int32) (x : Int32) (hy0 : 0 ≤ mr.toInt) (hy1 : mr.toInt ≤ 1200) (hpz : Nat) : Met l yX1_run wsX1_run ({ frames := 2, cells := 0, slots := 0, locals := 46 }) (va_Pc [.ref mv, .int 0, .int 0, .int x, .int 2] (zW D (zKT cI cJ cZ cP cS) po [(mv, .inr (1, [.ref mb, .int mr, .int 0, .int mm, .int mq])), (mb, .inl (cI, 20, .inl fb))] hpz)) (va_Qi (fun (r : Int32) (u : (Int32) × (Nat → Int32)) => u.1.toInt = mr.toInt + 1 ∧ (True)) (zB D [(mv, .inr (1, [.ref mb, .int mr, .int 0, .int mm, .int mq])), (mb, .inl (cI, 20, .inl fb))] hpz (fun (u : (Int32) × (Nat → Int32)) => [(mv, .inr (1, [.ref mb, .int u.1, .int 0, .int mm, .int mq])), (mb, .inl (cI, 20, .inl u.2))])) (va_A [(mv, .inr (1, [.ref mb, .int mr, .int 0, .int mm, .int mq])), (mb, .inl (cI, 20, .inl fb))] hpz)) 0 0 (va_A [(mv, .inr (1, [.ref mb, .int mr, .int 0, .int mm, .int mq])), (mb, .inl (cI, 20, .inl fb))] hpz) := by
  refine Met.ofW (cc := cX1_run) (maxL := 7) (ret := (some .int)) (by decide) rfl ?_
  intro p e s m args below meth c s₁ B hml hv
  obtain ⟨rfl, hsz, hP, hK, hD0, hN, hZ⟩ := hv
  have hx := B.exec
  have hb := B.bytes
  have hr := B.returns
  have hts := atoms_spec (ws := wsX1_run) B.pre
  have hown : s.vm.findClass RX1 = some m.cls := findClass_of_methodNamed B.named
  have hlocks := B.notSynchronized
  subst hsz
  have hD := hD0.self (sz := s.heap.size)
  have hA := zA_of hD
  have hl := lv_entry ([.ref mv, .int 0, .int 0, .int x, .int 2]) (n := 7) (Nat.le_of_ble_eq_true rfl)
  rw [lg_entry_eq]
  generalize (lg_sl ([.ref mv, .int 0, .int 0, .int x, .int 2]) ++ List.replicate (7 - (lg_sl ([.ref mv, .int 0, .int 0, .int x, .int 2])).length) Slot.unset).toArray = ls at hl ⊢
  replace hl : lv_has ls 7 [(0, .ref mv), (1, .int 0), (2, .int 0), (3, .int x), (4, .int 2)] := hl
  refine zw_begin hP hD (fun H locs hP1 hS => ?_)
  clear hP
  have hP := hP1
  clear hP1
  refine lv_iload_n hx hb dX1_run_0 rfl (lv_at hl 1 rfl) ?_
  refine lv_iload_n hx hb dX1_run_1 rfl (lv_at hl 2 rfl) ?_
  refine zc_S (As := [.int 0, .int 0]) (rest := []) ⟨hx, hb, hml, hown, hts⟩ (c_M_bodyFor_0_0 l D cI cJ cZ cP cS po  ) (va_cwS 2 hts gX1_run_X1_bodyFor rfl rfl rfl dh_X1_bodyFor ⟨Nat.le_of_ble_eq_true rfl, Nat.le_of_ble_eq_true rfl⟩) hK hN (hZ.kept hS) rfl hl.1 rfl (Nat.le_of_ble_eq_true rfl) dX1_run_2 ⟨Nat.le_of_ble_eq_true rfl, Nat.le_of_ble_eq_true rfl⟩ (fun r_1 hr_1 => ?_)
  obtain rfl := hr_1
  refine lv_istore (lv' := [(5, .int 10), (0, .ref mv), (1, .int 0), (2, .int 0), (3, .int x), (4, .int 2)]) hx hb dX1_run_5 hl (by decide) rfl (fun ls hl => ?_)
  refine lv_iload hx hb dX1_run_7 (lv_at hl 0 rfl) ?_
  refine lv_iconst (v := (-1)) hx hb dX1_run_9 (by decide) ?_
  refine lv_icmp_eq (tgt := 20) hx hb dX1_run_10 (by decide) (fun c_2 => ?_) (fun c_2 => ?_)
  · exact absurd c_2 (by decide)
  · refine lv_iload hx hb dX1_run_13 (lv_at hl 5 rfl) ?_
    refine lv_bipush (v := 40) hx hb dX1_run_15 (by decide) ?_
    refine lv_icmp_lt (tgt := 22) hx hb dX1_run_17 (by decide) (fun c_3 => ?_) (fun c_3 => ?_)
    · refine lv_aload_n hx hb dX1_run_22 rfl (lv_at hl 1 rfl) ?_
      refine lv_iload hx hb dX1_run_23 (lv_at hl 0 rfl) ?_
      skip
      refine zw_Vv (As := [.int 10]) (rest := []) (wr := []) ⟨hx, hb, hml, hown, hts⟩ (c_M_note l D cI cJ cZ cP cS po mv mb (mr) (0) (mm) (mq) fb (10) hy0 (by omega) H.size) (cwV 1 hts gX1_run_X1_note rfl rfl rfl ⟨rfl, dh_X1_note⟩ ⟨Nat.le_of_ble_eq_true rfl, Nat.le_of_ble_eq_true rfl⟩) hK hN (hZ.kept hS) hP hD hS hA [0, 1] [] rfl rfl (by decide) (by decide) (by decide) (va_recv (q := (RX1, TX1, 5)) hK hP (ci := 1) (q0 := 0) rfl rfl) rfl hl.1 rfl (Nat.le_of_ble_eq_true rfl) dX1_run_25 ⟨Nat.le_of_ble_eq_true rfl, Nat.le_of_ble_eq_true rfl⟩ (fun u_5 H locs hr_4 hP hD hS => ?_)
      obtain ⟨q_6, q_7⟩ := u_5
      try dsimp only at hr_4
      obtain ⟨hbq_6, hr_4⟩ := hr_4
      have h9R := zRe (ws' := [(mv, .inr (1, [.ref mb, .int q_6, .int 0, .int mm, .int mq])), (mb, .inl (cI, 20, .inl q_7))]) hP hD rfl
      clear hP hD
      obtain ⟨hP, hD⟩ := h9R
      refine lv_iload hx hb dX1_run_28 (lv_at hl 5 rfl) ?_
      refine lv_iconst (v := 1) hx hb dX1_run_30 (by decide) ?_
      refine lv_iadd hx hb dX1_run_31 ?_
      refine lv_topi (fun y_8 ey_8 => ?_)
      obtain rfl : y_8 = 3 := ey_8.trans (by decide)
      refine lv_istore (lv' := [(6, .int 3), (5, .int 10), (0, .ref mv), (1, .int 0), (2, .int 0), (3, .int x), (4, .int 2)]) hx hb dX1_run_32 hl (by decide) rfl (fun ls hl => ?_)
      refine lv_iload hx hb dX1_run_34 (lv_at hl 1 rfl) ?_
      refine lv_lookup (off := 92) (tgt := 128) hx hb dX1_run_36 (by decide) (by decide) (by decide) ?_
      refine lv_iload_n hx hb dX1_run_128 rfl (lv_at hl 5 rfl) ?_
      refine lv_aload_n hx hb dX1_run_129 rfl (lv_at hl 2 rfl) ?_
      refine va_get (D := D) (ci := 1) (v := .int mm) (C := RX1) (T := TX1) (N := 5) hx hb hts hi_X1_run_1 hown hK hP 0 rfl rfl 3 (by decide) (hts (.fieldLink RX1 22 "TheLiningsInIt$Moves" "m" "I") (List.mem_of_getElem? (i := 1) rfl)) (fun _ h9 => h9) rfl dX1_run_130 ?_
      refine lv_iadd hx hb dX1_run_133 ?_
      refine lv_topi (fun x_9 ex_9 => ?_)
      exact W.iret (v := x_9) hx hb hr (fun t ht hW => ⟨⟨x_9, (q_6, q_7), rfl, ⟨(show q_6.toInt = mr.toInt + 1 from by omega), trivial⟩, zRet ht hP hD [0, 1] (by decide) rfl⟩, hS.F ht⟩) hS.2.2 dX1_run_134
    · exact absurd c_3 (by decide)
set_option maxHeartbeats 4000000 in
set_option maxRecDepth 100000 in
theorem c_M_run_0_0_1_1 (l : Launch) (D : va_G) (cI cJ cZ cP cS : ClassId) (po : zPool) (mv mb : Nat) (mr mm mq : Int32) (fb : Nat → Int32) (x : Int32) (hy0 : 0 ≤ mr.toInt) (hy1 : mr.toInt ≤ 1100) (hpz : Nat) : Met l yX1_run wsX1_run ({ frames := 3, cells := 0, slots := 0, locals := 72 }) (va_Pc [.ref mv, .int 0, .int 1, .int x, .int 1] (zW D (zKT cI cJ cZ cP cS) po [(mv, .inr (1, [.ref mb, .int mr, .int 0, .int mm, .int mq])), (mb, .inl (cI, 20, .inl fb))] hpz)) (va_Qi (fun (r : Int32) (u : (Int32) × (Nat → Int32)) => u.1.toInt = mr.toInt + 2 ∧ (True)) (zB D [(mv, .inr (1, [.ref mb, .int mr, .int 0, .int mm, .int mq])), (mb, .inl (cI, 20, .inl fb))] hpz (fun (u : (Int32) × (Nat → Int32)) => [(mv, .inr (1, [.ref mb, .int u.1, .int 0, .int mm, .int mq])), (mb, .inl (cI, 20, .inl u.2))])) (va_A [(mv, .inr (1, [.ref mb, .int mr, .int 0, .int mm, .int mq])), (mb, .inl (cI, 20, .inl fb))] hpz)) 0 0 (va_A [(mv, .inr (1, [.ref mb, .int mr, .int 0, .int mm, .int mq])), (mb, .inl (cI, 20, .inl fb))] hpz) := by
  refine Met.ofW (cc := cX1_run) (maxL := 7) (ret := (some .int)) (by decide) rfl ?_
  intro p e s m args below meth c s₁ B hml hv
  obtain ⟨rfl, hsz, hP, hK, hD0, hN, hZ⟩ := hv
  have hx := B.exec
  have hb := B.bytes
  have hr := B.returns
  have hts := atoms_spec (ws := wsX1_run) B.pre
  have hown : s.vm.findClass RX1 = some m.cls := findClass_of_methodNamed B.named
  have hlocks := B.notSynchronized
  subst hsz
  have hD := hD0.self (sz := s.heap.size)
  have hA := zA_of hD
  have hl := lv_entry ([.ref mv, .int 0, .int 1, .int x, .int 1]) (n := 7) (Nat.le_of_ble_eq_true rfl)
  rw [lg_entry_eq]
  generalize (lg_sl ([.ref mv, .int 0, .int 1, .int x, .int 1]) ++ List.replicate (7 - (lg_sl ([.ref mv, .int 0, .int 1, .int x, .int 1])).length) Slot.unset).toArray = ls at hl ⊢
  replace hl : lv_has ls 7 [(0, .ref mv), (1, .int 0), (2, .int 1), (3, .int x), (4, .int 1)] := hl
  refine zw_begin hP hD (fun H locs hP1 hS => ?_)
  clear hP
  have hP := hP1
  clear hP1
  refine lv_iload_n hx hb dX1_run_0 rfl (lv_at hl 1 rfl) ?_
  refine lv_iload_n hx hb dX1_run_1 rfl (lv_at hl 2 rfl) ?_
  refine zc_S (As := [.int 0, .int 1]) (rest := []) ⟨hx, hb, hml, hown, hts⟩ (c_M_bodyFor_0_1 l D cI cJ cZ cP cS po  ) (va_cwS 2 hts gX1_run_X1_bodyFor rfl rfl rfl dh_X1_bodyFor ⟨Nat.le_of_ble_eq_true rfl, Nat.le_of_ble_eq_true rfl⟩) hK hN (hZ.kept hS) rfl hl.1 rfl (Nat.le_of_ble_eq_true rfl) dX1_run_2 ⟨Nat.le_of_ble_eq_true rfl, Nat.le_of_ble_eq_true rfl⟩ (fun r_1 hr_1 => ?_)
  obtain rfl := hr_1
  refine lv_istore (lv' := [(5, .int 11), (0, .ref mv), (1, .int 0), (2, .int 1), (3, .int x), (4, .int 1)]) hx hb dX1_run_5 hl (by decide) rfl (fun ls hl => ?_)
  refine lv_iload hx hb dX1_run_7 (lv_at hl 0 rfl) ?_
  refine lv_iconst (v := (-1)) hx hb dX1_run_9 (by decide) ?_
  refine lv_icmp_eq (tgt := 20) hx hb dX1_run_10 (by decide) (fun c_2 => ?_) (fun c_2 => ?_)
  · exact absurd c_2 (by decide)
  · refine lv_iload hx hb dX1_run_13 (lv_at hl 5 rfl) ?_
    refine lv_bipush (v := 40) hx hb dX1_run_15 (by decide) ?_
    refine lv_icmp_lt (tgt := 22) hx hb dX1_run_17 (by decide) (fun c_3 => ?_) (fun c_3 => ?_)
    · refine lv_aload_n hx hb dX1_run_22 rfl (lv_at hl 1 rfl) ?_
      refine lv_iload hx hb dX1_run_23 (lv_at hl 0 rfl) ?_
      skip
      refine zw_Vv (As := [.int 11]) (rest := []) (wr := []) ⟨hx, hb, hml, hown, hts⟩ (c_M_note l D cI cJ cZ cP cS po mv mb (mr) (0) (mm) (mq) fb (11) hy0 (by omega) H.size) (cwV 1 hts gX1_run_X1_note rfl rfl rfl ⟨rfl, dh_X1_note⟩ ⟨Nat.le_of_ble_eq_true rfl, Nat.le_of_ble_eq_true rfl⟩) hK hN (hZ.kept hS) hP hD hS hA [0, 1] [] rfl rfl (by decide) (by decide) (by decide) (va_recv (q := (RX1, TX1, 5)) hK hP (ci := 1) (q0 := 0) rfl rfl) rfl hl.1 rfl (Nat.le_of_ble_eq_true rfl) dX1_run_25 ⟨Nat.le_of_ble_eq_true rfl, Nat.le_of_ble_eq_true rfl⟩ (fun u_5 H locs hr_4 hP hD hS => ?_)
      obtain ⟨q_6, q_7⟩ := u_5
      try dsimp only at hr_4
      obtain ⟨hbq_6, hr_4⟩ := hr_4
      have h9R := zRe (ws' := [(mv, .inr (1, [.ref mb, .int q_6, .int 0, .int mm, .int mq])), (mb, .inl (cI, 20, .inl q_7))]) hP hD rfl
      clear hP hD
      obtain ⟨hP, hD⟩ := h9R
      refine lv_iload hx hb dX1_run_28 (lv_at hl 5 rfl) ?_
      refine lv_iconst (v := 1) hx hb dX1_run_30 (by decide) ?_
      refine lv_iadd hx hb dX1_run_31 ?_
      refine lv_topi (fun y_8 ey_8 => ?_)
      obtain rfl : y_8 = 2 := ey_8.trans (by decide)
      refine lv_istore (lv' := [(6, .int 2), (5, .int 11), (0, .ref mv), (1, .int 0), (2, .int 1), (3, .int x), (4, .int 1)]) hx hb dX1_run_32 hl (by decide) rfl (fun ls hl => ?_)
      refine lv_iload hx hb dX1_run_34 (lv_at hl 1 rfl) ?_
      refine lv_lookup (off := 99) (tgt := 135) hx hb dX1_run_36 (by decide) (by decide) (by decide) ?_
      refine lv_aload_n hx hb dX1_run_135 rfl (lv_at hl 2 rfl) ?_
      refine lv_aload_n hx hb dX1_run_136 rfl (lv_at hl 2 rfl) ?_
      refine va_get (D := D) (ci := 1) (v := .int 0) (C := RX1) (T := TX1) (N := 5) hx hb hts hi_X1_run_1 hown hK hP 0 rfl rfl 2 (by decide) (hts (.fieldLink RX1 19 "TheLiningsInIt$Moves" "kind" "I") (List.mem_of_getElem? (i := 2) rfl)) (fun _ h9 => h9) rfl dX1_run_137 ?_
      refine lv_iconst (v := 0) hx hb dX1_run_140 (by decide) ?_
      refine lv_iload_n hx hb dX1_run_141 rfl (lv_at hl 5 rfl) ?_
      refine lv_iload hx hb dX1_run_142 (lv_at hl 0 rfl) ?_
      skip
      refine zw_V (As := [.int 0, .int 0, .int x, .int 2]) (rest := []) (wr := []) ⟨hx, hb, hml, hown, hts⟩ (c_M_run_0_0_0_2 l D cI cJ cZ cP cS po mv mb (q_6) (mm) (mq) q_7 (x) (by omega) (by omega) H.size) (cwV 4 hts gX1_run_X1_run rfl rfl rfl ⟨rfl, dh_X1_run⟩ ⟨Nat.le_of_ble_eq_true rfl, Nat.le_of_ble_eq_true rfl⟩) hK hN (hZ.kept hS) hP hD hS hA [0, 1] [] rfl rfl (by decide) (by decide) (by decide) (va_recv (q := (RX1, TX1, 5)) hK hP (ci := 1) (q0 := 0) rfl rfl) rfl hl.1 rfl (Nat.le_of_ble_eq_true rfl) dX1_run_144 ⟨Nat.le_of_ble_eq_true rfl, Nat.le_of_ble_eq_true rfl⟩ (fun r_9 u_10 H locs hr_9 hP hD hS => ?_)
      obtain ⟨q_11, q_12⟩ := u_10
      try dsimp only at hr_9
      obtain ⟨hbq_11, hr_9⟩ := hr_9
      have h9R := zRe (ws' := [(mv, .inr (1, [.ref mb, .int q_11, .int 0, .int mm, .int mq])), (mb, .inl (cI, 20, .inl q_12))]) hP hD rfl
      clear hP hD
      obtain ⟨hP, hD⟩ := h9R
      refine lv_iconst (v := 2) hx hb dX1_run_147 (by decide) ?_
      refine lv_imul hx hb dX1_run_148 ?_
      refine lv_topi (fun x_13 ex_13 => ?_)
      exact W.iret (v := x_13) hx hb hr (fun t ht hW => ⟨⟨x_13, (q_11, q_12), rfl, ⟨(show q_11.toInt = mr.toInt + 2 from by omega), trivial⟩, zRet ht hP hD [0, 1] (by decide) rfl⟩, hS.F ht⟩) hS.2.2 dX1_run_149
    · exact absurd c_3 (by decide)
set_option maxHeartbeats 4000000 in
set_option maxRecDepth 100000 in
theorem c_M_run_0_0_2_0 (l : Launch) (D : va_G) (cI cJ cZ cP cS : ClassId) (po : zPool) (mv mb : Nat) (mr mm mq : Int32) (fb : Nat → Int32) (x : Int32) (hy0 : 0 ≤ mr.toInt) (hy1 : mr.toInt ≤ 1000) (hpz : Nat) : Met l yX1_run wsX1_run ({ frames := 4, cells := 0, slots := 0, locals := 98 }) (va_Pc [.ref mv, .int 0, .int 2, .int x, .int 0] (zW D (zKT cI cJ cZ cP cS) po [(mv, .inr (1, [.ref mb, .int mr, .int 0, .int mm, .int mq])), (mb, .inl (cI, 20, .inl fb))] hpz)) (va_Qi (fun (r : Int32) (u : (Int32) × (Nat → Int32)) => u.1.toInt = mr.toInt + 4 ∧ (True)) (zB D [(mv, .inr (1, [.ref mb, .int mr, .int 0, .int mm, .int mq])), (mb, .inl (cI, 20, .inl fb))] hpz (fun (u : (Int32) × (Nat → Int32)) => [(mv, .inr (1, [.ref mb, .int u.1, .int 0, .int mm, .int mq])), (mb, .inl (cI, 20, .inl u.2))])) (va_A [(mv, .inr (1, [.ref mb, .int mr, .int 0, .int mm, .int mq])), (mb, .inl (cI, 20, .inl fb))] hpz)) 0 0 (va_A [(mv, .inr (1, [.ref mb, .int mr, .int 0, .int mm, .int mq])), (mb, .inl (cI, 20, .inl fb))] hpz) := by
  refine Met.ofW (cc := cX1_run) (maxL := 7) (ret := (some .int)) (by decide) rfl ?_
  intro p e s m args below meth c s₁ B hml hv
  obtain ⟨rfl, hsz, hP, hK, hD0, hN, hZ⟩ := hv
  have hx := B.exec
  have hb := B.bytes
  have hr := B.returns
  have hts := atoms_spec (ws := wsX1_run) B.pre
  have hown : s.vm.findClass RX1 = some m.cls := findClass_of_methodNamed B.named
  have hlocks := B.notSynchronized
  subst hsz
  have hD := hD0.self (sz := s.heap.size)
  have hA := zA_of hD
  have hl := lv_entry ([.ref mv, .int 0, .int 2, .int x, .int 0]) (n := 7) (Nat.le_of_ble_eq_true rfl)
  rw [lg_entry_eq]
  generalize (lg_sl ([.ref mv, .int 0, .int 2, .int x, .int 0]) ++ List.replicate (7 - (lg_sl ([.ref mv, .int 0, .int 2, .int x, .int 0])).length) Slot.unset).toArray = ls at hl ⊢
  replace hl : lv_has ls 7 [(0, .ref mv), (1, .int 0), (2, .int 2), (3, .int x), (4, .int 0)] := hl
  refine zw_begin hP hD (fun H locs hP1 hS => ?_)
  clear hP
  have hP := hP1
  clear hP1
  refine lv_iload_n hx hb dX1_run_0 rfl (lv_at hl 1 rfl) ?_
  refine lv_iload_n hx hb dX1_run_1 rfl (lv_at hl 2 rfl) ?_
  refine zc_S (As := [.int 0, .int 2]) (rest := []) ⟨hx, hb, hml, hown, hts⟩ (c_M_bodyFor_0_2 l D cI cJ cZ cP cS po  ) (va_cwS 2 hts gX1_run_X1_bodyFor rfl rfl rfl dh_X1_bodyFor ⟨Nat.le_of_ble_eq_true rfl, Nat.le_of_ble_eq_true rfl⟩) hK hN (hZ.kept hS) rfl hl.1 rfl (Nat.le_of_ble_eq_true rfl) dX1_run_2 ⟨Nat.le_of_ble_eq_true rfl, Nat.le_of_ble_eq_true rfl⟩ (fun r_1 hr_1 => ?_)
  obtain rfl := hr_1
  refine lv_istore (lv' := [(5, .int 12), (0, .ref mv), (1, .int 0), (2, .int 2), (3, .int x), (4, .int 0)]) hx hb dX1_run_5 hl (by decide) rfl (fun ls hl => ?_)
  refine lv_iload hx hb dX1_run_7 (lv_at hl 0 rfl) ?_
  refine lv_iconst (v := (-1)) hx hb dX1_run_9 (by decide) ?_
  refine lv_icmp_eq (tgt := 20) hx hb dX1_run_10 (by decide) (fun c_2 => ?_) (fun c_2 => ?_)
  · exact absurd c_2 (by decide)
  · refine lv_iload hx hb dX1_run_13 (lv_at hl 5 rfl) ?_
    refine lv_bipush (v := 40) hx hb dX1_run_15 (by decide) ?_
    refine lv_icmp_lt (tgt := 22) hx hb dX1_run_17 (by decide) (fun c_3 => ?_) (fun c_3 => ?_)
    · refine lv_aload_n hx hb dX1_run_22 rfl (lv_at hl 1 rfl) ?_
      refine lv_iload hx hb dX1_run_23 (lv_at hl 0 rfl) ?_
      skip
      refine zw_Vv (As := [.int 12]) (rest := []) (wr := []) ⟨hx, hb, hml, hown, hts⟩ (c_M_note l D cI cJ cZ cP cS po mv mb (mr) (0) (mm) (mq) fb (12) hy0 (by omega) H.size) (cwV 1 hts gX1_run_X1_note rfl rfl rfl ⟨rfl, dh_X1_note⟩ ⟨Nat.le_of_ble_eq_true rfl, Nat.le_of_ble_eq_true rfl⟩) hK hN (hZ.kept hS) hP hD hS hA [0, 1] [] rfl rfl (by decide) (by decide) (by decide) (va_recv (q := (RX1, TX1, 5)) hK hP (ci := 1) (q0 := 0) rfl rfl) rfl hl.1 rfl (Nat.le_of_ble_eq_true rfl) dX1_run_25 ⟨Nat.le_of_ble_eq_true rfl, Nat.le_of_ble_eq_true rfl⟩ (fun u_5 H locs hr_4 hP hD hS => ?_)
      obtain ⟨q_6, q_7⟩ := u_5
      try dsimp only at hr_4
      obtain ⟨hbq_6, hr_4⟩ := hr_4
      have h9R := zRe (ws' := [(mv, .inr (1, [.ref mb, .int q_6, .int 0, .int mm, .int mq])), (mb, .inl (cI, 20, .inl q_7))]) hP hD rfl
      clear hP hD
      obtain ⟨hP, hD⟩ := h9R
      refine lv_iload hx hb dX1_run_28 (lv_at hl 5 rfl) ?_
      refine lv_iconst (v := 1) hx hb dX1_run_30 (by decide) ?_
      refine lv_iadd hx hb dX1_run_31 ?_
      refine lv_topi (fun y_8 ey_8 => ?_)
      obtain rfl : y_8 = 1 := ey_8.trans (by decide)
      refine lv_istore (lv' := [(6, .int 1), (5, .int 12), (0, .ref mv), (1, .int 0), (2, .int 2), (3, .int x), (4, .int 0)]) hx hb dX1_run_32 hl (by decide) rfl (fun ls hl => ?_)
      refine lv_iload hx hb dX1_run_34 (lv_at hl 1 rfl) ?_
      refine lv_lookup (off := 114) (tgt := 150) hx hb dX1_run_36 (by decide) (by decide) (by decide) ?_
      refine lv_aload_n hx hb dX1_run_150 rfl (lv_at hl 2 rfl) ?_
      refine lv_aload_n hx hb dX1_run_151 rfl (lv_at hl 2 rfl) ?_
      refine va_get (D := D) (ci := 1) (v := .int 0) (C := RX1) (T := TX1) (N := 5) hx hb hts hi_X1_run_1 hown hK hP 0 rfl rfl 2 (by decide) (hts (.fieldLink RX1 19 "TheLiningsInIt$Moves" "kind" "I") (List.mem_of_getElem? (i := 2) rfl)) (fun _ h9 => h9) rfl dX1_run_152 ?_
      refine lv_iconst (v := 1) hx hb dX1_run_155 (by decide) ?_
      refine lv_iload_n hx hb dX1_run_156 rfl (lv_at hl 5 rfl) ?_
      refine lv_iload hx hb dX1_run_157 (lv_at hl 0 rfl) ?_
      skip
      refine zw_V (As := [.int 0, .int 1, .int x, .int 1]) (rest := []) (wr := []) ⟨hx, hb, hml, hown, hts⟩ (c_M_run_0_0_1_1 l D cI cJ cZ cP cS po mv mb (q_6) (mm) (mq) q_7 (x) (by omega) (by omega) H.size) (cwV 4 hts gX1_run_X1_run rfl rfl rfl ⟨rfl, dh_X1_run⟩ ⟨Nat.le_of_ble_eq_true rfl, Nat.le_of_ble_eq_true rfl⟩) hK hN (hZ.kept hS) hP hD hS hA [0, 1] [] rfl rfl (by decide) (by decide) (by decide) (va_recv (q := (RX1, TX1, 5)) hK hP (ci := 1) (q0 := 0) rfl rfl) rfl hl.1 rfl (Nat.le_of_ble_eq_true rfl) dX1_run_159 ⟨Nat.le_of_ble_eq_true rfl, Nat.le_of_ble_eq_true rfl⟩ (fun r_9 u_10 H locs hr_9 hP hD hS => ?_)
      obtain ⟨q_11, q_12⟩ := u_10
      try dsimp only at hr_9
      obtain ⟨hbq_11, hr_9⟩ := hr_9
      have h9R := zRe (ws' := [(mv, .inr (1, [.ref mb, .int q_11, .int 0, .int mm, .int mq])), (mb, .inl (cI, 20, .inl q_12))]) hP hD rfl
      clear hP hD
      obtain ⟨hP, hD⟩ := h9R
      refine lv_aload_n hx hb dX1_run_162 rfl (lv_at hl 2 rfl) ?_
      refine lv_aload_n hx hb dX1_run_163 rfl (lv_at hl 2 rfl) ?_
      refine va_get (D := D) (ci := 1) (v := .int 0) (C := RX1) (T := TX1) (N := 5) hx hb hts hi_X1_run_1 hown hK hP 0 rfl rfl 2 (by decide) (hts (.fieldLink RX1 19 "TheLiningsInIt$Moves" "kind" "I") (List.mem_of_getElem? (i := 2) rfl)) (fun _ h9 => h9) rfl dX1_run_164 ?_
      refine lv_iconst (v := 0) hx hb dX1_run_167 (by decide) ?_
      refine lv_iload_n hx hb dX1_run_168 rfl (lv_at hl 5 rfl) ?_
      refine lv_aload_n hx hb dX1_run_169 rfl (lv_at hl 2 rfl) ?_
      refine va_get (D := D) (ci := 1) (v := .int mq) (C := RX1) (T := TX1) (N := 5) hx hb hts hi_X1_run_1 hown hK hP 0 rfl rfl 4 (by decide) (hts (.fieldLink RX1 25 "TheLiningsInIt$Moves" "k" "I") (List.mem_of_getElem? (i := 3) rfl)) (fun _ h9 => h9) rfl dX1_run_170 ?_
      refine lv_isub hx hb dX1_run_173 ?_
      refine lv_topi (fun x_13 ex_13 => ?_)
      refine lv_iload hx hb dX1_run_174 (lv_at hl 0 rfl) ?_
      skip
      refine zw_V (As := [.int 0, .int 0, .int x_13, .int 1]) (rest := [.int r_9]) (wr := []) ⟨hx, hb, hml, hown, hts⟩ (c_M_run_0_0_0_1 l D cI cJ cZ cP cS po mv mb (q_11) (mm) (mq) q_12 (x_13) (by omega) (by omega) H.size) (cwV 4 hts gX1_run_X1_run rfl rfl rfl ⟨rfl, dh_X1_run⟩ ⟨Nat.le_of_ble_eq_true rfl, Nat.le_of_ble_eq_true rfl⟩) hK hN (hZ.kept hS) hP hD hS hA [0, 1] [] rfl rfl (by decide) (by decide) (by decide) (va_recv (q := (RX1, TX1, 5)) hK hP (ci := 1) (q0 := 0) rfl rfl) rfl hl.1 rfl (Nat.le_of_ble_eq_true rfl) dX1_run_176 ⟨Nat.le_of_ble_eq_true rfl, Nat.le_of_ble_eq_true rfl⟩ (fun r_14 u_15 H locs hr_14 hP hD hS => ?_)
      obtain ⟨q_16, q_17⟩ := u_15
      try dsimp only at hr_14
      obtain ⟨hbq_16, hr_14⟩ := hr_14
      have h9R := zRe (ws' := [(mv, .inr (1, [.ref mb, .int q_16, .int 0, .int mm, .int mq])), (mb, .inl (cI, 20, .inl q_17))]) hP hD rfl
      clear hP hD
      obtain ⟨hP, hD⟩ := h9R
      refine lv_ixor hx hb dX1_run_179 ?_
      refine lv_topi (fun x_18 ex_18 => ?_)
      exact W.iret (v := x_18) hx hb hr (fun t ht hW => ⟨⟨x_18, (q_16, q_17), rfl, ⟨(show q_16.toInt = mr.toInt + 4 from by omega), trivial⟩, zRet ht hP hD [0, 1] (by decide) rfl⟩, hS.F ht⟩) hS.2.2 dX1_run_180
    · exact absurd c_3 (by decide)
set_option maxHeartbeats 4000000 in
set_option maxRecDepth 100000 in
theorem c_M_run_1_0_0_1 (l : Launch) (D : va_G) (cI cJ cZ cP cS : ClassId) (po : zPool) (mv mb : Nat) (mr mm mq : Int32) (fb : Nat → Int32) (x : Int32) (hy0 : 0 ≤ mr.toInt) (hy1 : mr.toInt ≤ 1100) (hpz : Nat) : Met l yX1_run wsX1_run ({ frames := 2, cells := 0, slots := 0, locals := 46 }) (va_Pc [.ref mv, .int 0, .int 0, .int x, .int 1] (zW D (zKT cI cJ cZ cP cS) po [(mv, .inr (1, [.ref mb, .int mr, .int 1, .int mm, .int mq])), (mb, .inl (cI, 20, .inl fb))] hpz)) (va_Qi (fun (r : Int32) (u : (Int32) × (Nat → Int32)) => u.1.toInt = mr.toInt + 1 ∧ (True)) (zB D [(mv, .inr (1, [.ref mb, .int mr, .int 1, .int mm, .int mq])), (mb, .inl (cI, 20, .inl fb))] hpz (fun (u : (Int32) × (Nat → Int32)) => [(mv, .inr (1, [.ref mb, .int u.1, .int 1, .int mm, .int mq])), (mb, .inl (cI, 20, .inl u.2))])) (va_A [(mv, .inr (1, [.ref mb, .int mr, .int 1, .int mm, .int mq])), (mb, .inl (cI, 20, .inl fb))] hpz)) 0 0 (va_A [(mv, .inr (1, [.ref mb, .int mr, .int 1, .int mm, .int mq])), (mb, .inl (cI, 20, .inl fb))] hpz) := by
  refine Met.ofW (cc := cX1_run) (maxL := 7) (ret := (some .int)) (by decide) rfl ?_
  intro p e s m args below meth c s₁ B hml hv
  obtain ⟨rfl, hsz, hP, hK, hD0, hN, hZ⟩ := hv
  have hx := B.exec
  have hb := B.bytes
  have hr := B.returns
  have hts := atoms_spec (ws := wsX1_run) B.pre
  have hown : s.vm.findClass RX1 = some m.cls := findClass_of_methodNamed B.named
  have hlocks := B.notSynchronized
  subst hsz
  have hD := hD0.self (sz := s.heap.size)
  have hA := zA_of hD
  have hl := lv_entry ([.ref mv, .int 0, .int 0, .int x, .int 1]) (n := 7) (Nat.le_of_ble_eq_true rfl)
  rw [lg_entry_eq]
  generalize (lg_sl ([.ref mv, .int 0, .int 0, .int x, .int 1]) ++ List.replicate (7 - (lg_sl ([.ref mv, .int 0, .int 0, .int x, .int 1])).length) Slot.unset).toArray = ls at hl ⊢
  replace hl : lv_has ls 7 [(0, .ref mv), (1, .int 0), (2, .int 0), (3, .int x), (4, .int 1)] := hl
  refine zw_begin hP hD (fun H locs hP1 hS => ?_)
  clear hP
  have hP := hP1
  clear hP1
  refine lv_iload_n hx hb dX1_run_0 rfl (lv_at hl 1 rfl) ?_
  refine lv_iload_n hx hb dX1_run_1 rfl (lv_at hl 2 rfl) ?_
  refine zc_S (As := [.int 0, .int 0]) (rest := []) ⟨hx, hb, hml, hown, hts⟩ (c_M_bodyFor_0_0 l D cI cJ cZ cP cS po  ) (va_cwS 2 hts gX1_run_X1_bodyFor rfl rfl rfl dh_X1_bodyFor ⟨Nat.le_of_ble_eq_true rfl, Nat.le_of_ble_eq_true rfl⟩) hK hN (hZ.kept hS) rfl hl.1 rfl (Nat.le_of_ble_eq_true rfl) dX1_run_2 ⟨Nat.le_of_ble_eq_true rfl, Nat.le_of_ble_eq_true rfl⟩ (fun r_1 hr_1 => ?_)
  obtain rfl := hr_1
  refine lv_istore (lv' := [(5, .int 10), (0, .ref mv), (1, .int 0), (2, .int 0), (3, .int x), (4, .int 1)]) hx hb dX1_run_5 hl (by decide) rfl (fun ls hl => ?_)
  refine lv_iload hx hb dX1_run_7 (lv_at hl 0 rfl) ?_
  refine lv_iconst (v := (-1)) hx hb dX1_run_9 (by decide) ?_
  refine lv_icmp_eq (tgt := 20) hx hb dX1_run_10 (by decide) (fun c_2 => ?_) (fun c_2 => ?_)
  · exact absurd c_2 (by decide)
  · refine lv_iload hx hb dX1_run_13 (lv_at hl 5 rfl) ?_
    refine lv_bipush (v := 40) hx hb dX1_run_15 (by decide) ?_
    refine lv_icmp_lt (tgt := 22) hx hb dX1_run_17 (by decide) (fun c_3 => ?_) (fun c_3 => ?_)
    · refine lv_aload_n hx hb dX1_run_22 rfl (lv_at hl 1 rfl) ?_
      refine lv_iload hx hb dX1_run_23 (lv_at hl 0 rfl) ?_
      skip
      refine zw_Vv (As := [.int 10]) (rest := []) (wr := []) ⟨hx, hb, hml, hown, hts⟩ (c_M_note l D cI cJ cZ cP cS po mv mb (mr) (1) (mm) (mq) fb (10) hy0 (by omega) H.size) (cwV 1 hts gX1_run_X1_note rfl rfl rfl ⟨rfl, dh_X1_note⟩ ⟨Nat.le_of_ble_eq_true rfl, Nat.le_of_ble_eq_true rfl⟩) hK hN (hZ.kept hS) hP hD hS hA [0, 1] [] rfl rfl (by decide) (by decide) (by decide) (va_recv (q := (RX1, TX1, 5)) hK hP (ci := 1) (q0 := 0) rfl rfl) rfl hl.1 rfl (Nat.le_of_ble_eq_true rfl) dX1_run_25 ⟨Nat.le_of_ble_eq_true rfl, Nat.le_of_ble_eq_true rfl⟩ (fun u_5 H locs hr_4 hP hD hS => ?_)
      obtain ⟨q_6, q_7⟩ := u_5
      try dsimp only at hr_4
      obtain ⟨hbq_6, hr_4⟩ := hr_4
      have h9R := zRe (ws' := [(mv, .inr (1, [.ref mb, .int q_6, .int 1, .int mm, .int mq])), (mb, .inl (cI, 20, .inl q_7))]) hP hD rfl
      clear hP hD
      obtain ⟨hP, hD⟩ := h9R
      refine lv_iload hx hb dX1_run_28 (lv_at hl 5 rfl) ?_
      refine lv_iconst (v := 1) hx hb dX1_run_30 (by decide) ?_
      refine lv_iadd hx hb dX1_run_31 ?_
      refine lv_topi (fun y_8 ey_8 => ?_)
      obtain rfl : y_8 = 2 := ey_8.trans (by decide)
      refine lv_istore (lv' := [(6, .int 2), (5, .int 10), (0, .ref mv), (1, .int 0), (2, .int 0), (3, .int x), (4, .int 1)]) hx hb dX1_run_32 hl (by decide) rfl (fun ls hl => ?_)
      refine lv_iload hx hb dX1_run_34 (lv_at hl 1 rfl) ?_
      refine lv_lookup (off := 92) (tgt := 128) hx hb dX1_run_36 (by decide) (by decide) (by decide) ?_
      refine lv_iload_n hx hb dX1_run_128 rfl (lv_at hl 5 rfl) ?_
      refine lv_aload_n hx hb dX1_run_129 rfl (lv_at hl 2 rfl) ?_
      refine va_get (D := D) (ci := 1) (v := .int mm) (C := RX1) (T := TX1) (N := 5) hx hb hts hi_X1_run_1 hown hK hP 0 rfl rfl 3 (by decide) (hts (.fieldLink RX1 22 "TheLiningsInIt$Moves" "m" "I") (List.mem_of_getElem? (i := 1) rfl)) (fun _ h9 => h9) rfl dX1_run_130 ?_
      refine lv_iadd hx hb dX1_run_133 ?_
      refine lv_topi (fun x_9 ex_9 => ?_)
      exact W.iret (v := x_9) hx hb hr (fun t ht hW => ⟨⟨x_9, (q_6, q_7), rfl, ⟨(show q_6.toInt = mr.toInt + 1 from by omega), trivial⟩, zRet ht hP hD [0, 1] (by decide) rfl⟩, hS.F ht⟩) hS.2.2 dX1_run_134
    · exact absurd c_3 (by decide)
set_option maxHeartbeats 4000000 in
set_option maxRecDepth 100000 in
theorem c_M_run_1_1_0_0 (l : Launch) (D : va_G) (cI cJ cZ cP cS : ClassId) (po : zPool) (mv mb : Nat) (mr mm mq : Int32) (fb : Nat → Int32) (x : Int32) (hy0 : 0 ≤ mr.toInt) (hy1 : mr.toInt ≤ 1000) (hpz : Nat) : Met l yX1_run wsX1_run ({ frames := 3, cells := 0, slots := 0, locals := 72 }) (va_Pc [.ref mv, .int 1, .int 0, .int x, .int 0] (zW D (zKT cI cJ cZ cP cS) po [(mv, .inr (1, [.ref mb, .int mr, .int 1, .int mm, .int mq])), (mb, .inl (cI, 20, .inl fb))] hpz)) (va_Qi (fun (r : Int32) (u : (Int32) × (Nat → Int32)) => u.1.toInt = mr.toInt + 2 ∧ (True)) (zB D [(mv, .inr (1, [.ref mb, .int mr, .int 1, .int mm, .int mq])), (mb, .inl (cI, 20, .inl fb))] hpz (fun (u : (Int32) × (Nat → Int32)) => [(mv, .inr (1, [.ref mb, .int u.1, .int 1, .int mm, .int mq])), (mb, .inl (cI, 20, .inl u.2))])) (va_A [(mv, .inr (1, [.ref mb, .int mr, .int 1, .int mm, .int mq])), (mb, .inl (cI, 20, .inl fb))] hpz)) 0 0 (va_A [(mv, .inr (1, [.ref mb, .int mr, .int 1, .int mm, .int mq])), (mb, .inl (cI, 20, .inl fb))] hpz) := by
  refine Met.ofW (cc := cX1_run) (maxL := 7) (ret := (some .int)) (by decide) rfl ?_
  intro p e s m args below meth c s₁ B hml hv
  obtain ⟨rfl, hsz, hP, hK, hD0, hN, hZ⟩ := hv
  have hx := B.exec
  have hb := B.bytes
  have hr := B.returns
  have hts := atoms_spec (ws := wsX1_run) B.pre
  have hown : s.vm.findClass RX1 = some m.cls := findClass_of_methodNamed B.named
  have hlocks := B.notSynchronized
  subst hsz
  have hD := hD0.self (sz := s.heap.size)
  have hA := zA_of hD
  have hl := lv_entry ([.ref mv, .int 1, .int 0, .int x, .int 0]) (n := 7) (Nat.le_of_ble_eq_true rfl)
  rw [lg_entry_eq]
  generalize (lg_sl ([.ref mv, .int 1, .int 0, .int x, .int 0]) ++ List.replicate (7 - (lg_sl ([.ref mv, .int 1, .int 0, .int x, .int 0])).length) Slot.unset).toArray = ls at hl ⊢
  replace hl : lv_has ls 7 [(0, .ref mv), (1, .int 1), (2, .int 0), (3, .int x), (4, .int 0)] := hl
  refine zw_begin hP hD (fun H locs hP1 hS => ?_)
  clear hP
  have hP := hP1
  clear hP1
  refine lv_iload_n hx hb dX1_run_0 rfl (lv_at hl 1 rfl) ?_
  refine lv_iload_n hx hb dX1_run_1 rfl (lv_at hl 2 rfl) ?_
  refine zc_S (As := [.int 1, .int 0]) (rest := []) ⟨hx, hb, hml, hown, hts⟩ (c_M_bodyFor_1_0 l D cI cJ cZ cP cS po  ) (va_cwS 2 hts gX1_run_X1_bodyFor rfl rfl rfl dh_X1_bodyFor ⟨Nat.le_of_ble_eq_true rfl, Nat.le_of_ble_eq_true rfl⟩) hK hN (hZ.kept hS) rfl hl.1 rfl (Nat.le_of_ble_eq_true rfl) dX1_run_2 ⟨Nat.le_of_ble_eq_true rfl, Nat.le_of_ble_eq_true rfl⟩ (fun r_1 hr_1 => ?_)
  obtain rfl := hr_1
  refine lv_istore (lv' := [(5, .int 20), (0, .ref mv), (1, .int 1), (2, .int 0), (3, .int x), (4, .int 0)]) hx hb dX1_run_5 hl (by decide) rfl (fun ls hl => ?_)
  refine lv_iload hx hb dX1_run_7 (lv_at hl 0 rfl) ?_
  refine lv_iconst (v := (-1)) hx hb dX1_run_9 (by decide) ?_
  refine lv_icmp_eq (tgt := 20) hx hb dX1_run_10 (by decide) (fun c_2 => ?_) (fun c_2 => ?_)
  · exact absurd c_2 (by decide)
  · refine lv_iload hx hb dX1_run_13 (lv_at hl 5 rfl) ?_
    refine lv_bipush (v := 40) hx hb dX1_run_15 (by decide) ?_
    refine lv_icmp_lt (tgt := 22) hx hb dX1_run_17 (by decide) (fun c_3 => ?_) (fun c_3 => ?_)
    · refine lv_aload_n hx hb dX1_run_22 rfl (lv_at hl 1 rfl) ?_
      refine lv_iload hx hb dX1_run_23 (lv_at hl 0 rfl) ?_
      skip
      refine zw_Vv (As := [.int 20]) (rest := []) (wr := []) ⟨hx, hb, hml, hown, hts⟩ (c_M_note l D cI cJ cZ cP cS po mv mb (mr) (1) (mm) (mq) fb (20) hy0 (by omega) H.size) (cwV 1 hts gX1_run_X1_note rfl rfl rfl ⟨rfl, dh_X1_note⟩ ⟨Nat.le_of_ble_eq_true rfl, Nat.le_of_ble_eq_true rfl⟩) hK hN (hZ.kept hS) hP hD hS hA [0, 1] [] rfl rfl (by decide) (by decide) (by decide) (va_recv (q := (RX1, TX1, 5)) hK hP (ci := 1) (q0 := 0) rfl rfl) rfl hl.1 rfl (Nat.le_of_ble_eq_true rfl) dX1_run_25 ⟨Nat.le_of_ble_eq_true rfl, Nat.le_of_ble_eq_true rfl⟩ (fun u_5 H locs hr_4 hP hD hS => ?_)
      obtain ⟨q_6, q_7⟩ := u_5
      try dsimp only at hr_4
      obtain ⟨hbq_6, hr_4⟩ := hr_4
      have h9R := zRe (ws' := [(mv, .inr (1, [.ref mb, .int q_6, .int 1, .int mm, .int mq])), (mb, .inl (cI, 20, .inl q_7))]) hP hD rfl
      clear hP hD
      obtain ⟨hP, hD⟩ := h9R
      refine lv_iload hx hb dX1_run_28 (lv_at hl 5 rfl) ?_
      refine lv_iconst (v := 1) hx hb dX1_run_30 (by decide) ?_
      refine lv_iadd hx hb dX1_run_31 ?_
      refine lv_topi (fun y_8 ey_8 => ?_)
      obtain rfl : y_8 = 1 := ey_8.trans (by decide)
      refine lv_istore (lv' := [(6, .int 1), (5, .int 20), (0, .ref mv), (1, .int 1), (2, .int 0), (3, .int x), (4, .int 0)]) hx hb dX1_run_32 hl (by decide) rfl (fun ls hl => ?_)
      refine lv_iload hx hb dX1_run_34 (lv_at hl 1 rfl) ?_
      refine lv_lookup (off := 145) (tgt := 181) hx hb dX1_run_36 (by decide) (by decide) (by decide) ?_
      refine lv_aload_n hx hb dX1_run_181 rfl (lv_at hl 2 rfl) ?_
      refine lv_iconst (v := 0) hx hb dX1_run_182 (by decide) ?_
      refine lv_iconst (v := 0) hx hb dX1_run_183 (by decide) ?_
      refine lv_iload_n hx hb dX1_run_184 rfl (lv_at hl 5 rfl) ?_
      refine lv_iload hx hb dX1_run_185 (lv_at hl 0 rfl) ?_
      skip
      refine zw_V (As := [.int 0, .int 0, .int x, .int 1]) (rest := []) (wr := []) ⟨hx, hb, hml, hown, hts⟩ (c_M_run_1_0_0_1 l D cI cJ cZ cP cS po mv mb (q_6) (mm) (mq) q_7 (x) (by omega) (by omega) H.size) (cwV 4 hts gX1_run_X1_run rfl rfl rfl ⟨rfl, dh_X1_run⟩ ⟨Nat.le_of_ble_eq_true rfl, Nat.le_of_ble_eq_true rfl⟩) hK hN (hZ.kept hS) hP hD hS hA [0, 1] [] rfl rfl (by decide) (by decide) (by decide) (va_recv (q := (RX1, TX1, 5)) hK hP (ci := 1) (q0 := 0) rfl rfl) rfl hl.1 rfl (Nat.le_of_ble_eq_true rfl) dX1_run_187 ⟨Nat.le_of_ble_eq_true rfl, Nat.le_of_ble_eq_true rfl⟩ (fun r_9 u_10 H locs hr_9 hP hD hS => ?_)
      obtain ⟨q_11, q_12⟩ := u_10
      try dsimp only at hr_9
      obtain ⟨hbq_11, hr_9⟩ := hr_9
      have h9R := zRe (ws' := [(mv, .inr (1, [.ref mb, .int q_11, .int 1, .int mm, .int mq])), (mb, .inl (cI, 20, .inl q_12))]) hP hD rfl
      clear hP hD
      obtain ⟨hP, hD⟩ := h9R
      refine lv_aload_n hx hb dX1_run_190 rfl (lv_at hl 2 rfl) ?_
      refine va_get (D := D) (ci := 1) (v := .int mq) (C := RX1) (T := TX1) (N := 5) hx hb hts hi_X1_run_1 hown hK hP 0 rfl rfl 4 (by decide) (hts (.fieldLink RX1 25 "TheLiningsInIt$Moves" "k" "I") (List.mem_of_getElem? (i := 3) rfl)) (fun _ h9 => h9) rfl dX1_run_191 ?_
      refine lv_iadd hx hb dX1_run_194 ?_
      refine lv_topi (fun x_13 ex_13 => ?_)
      exact W.iret (v := x_13) hx hb hr (fun t ht hW => ⟨⟨x_13, (q_11, q_12), rfl, ⟨(show q_11.toInt = mr.toInt + 2 from by omega), trivial⟩, zRet ht hP hD [0, 1] (by decide) rfl⟩, hS.F ht⟩) hS.2.2 dX1_run_195
    · exact absurd c_3 (by decide)
set_option maxHeartbeats 4000000 in
set_option maxRecDepth 100000 in
theorem c_M_run_1_0_0_2 (l : Launch) (D : va_G) (cI cJ cZ cP cS : ClassId) (po : zPool) (mv mb : Nat) (mr mm mq : Int32) (fb : Nat → Int32) (x : Int32) (hy0 : 0 ≤ mr.toInt) (hy1 : mr.toInt ≤ 1200) (hpz : Nat) : Met l yX1_run wsX1_run ({ frames := 2, cells := 0, slots := 0, locals := 46 }) (va_Pc [.ref mv, .int 0, .int 0, .int x, .int 2] (zW D (zKT cI cJ cZ cP cS) po [(mv, .inr (1, [.ref mb, .int mr, .int 1, .int mm, .int mq])), (mb, .inl (cI, 20, .inl fb))] hpz)) (va_Qi (fun (r : Int32) (u : (Int32) × (Nat → Int32)) => u.1.toInt = mr.toInt + 1 ∧ (True)) (zB D [(mv, .inr (1, [.ref mb, .int mr, .int 1, .int mm, .int mq])), (mb, .inl (cI, 20, .inl fb))] hpz (fun (u : (Int32) × (Nat → Int32)) => [(mv, .inr (1, [.ref mb, .int u.1, .int 1, .int mm, .int mq])), (mb, .inl (cI, 20, .inl u.2))])) (va_A [(mv, .inr (1, [.ref mb, .int mr, .int 1, .int mm, .int mq])), (mb, .inl (cI, 20, .inl fb))] hpz)) 0 0 (va_A [(mv, .inr (1, [.ref mb, .int mr, .int 1, .int mm, .int mq])), (mb, .inl (cI, 20, .inl fb))] hpz) := by
  refine Met.ofW (cc := cX1_run) (maxL := 7) (ret := (some .int)) (by decide) rfl ?_
  intro p e s m args below meth c s₁ B hml hv
  obtain ⟨rfl, hsz, hP, hK, hD0, hN, hZ⟩ := hv
  have hx := B.exec
  have hb := B.bytes
  have hr := B.returns
  have hts := atoms_spec (ws := wsX1_run) B.pre
  have hown : s.vm.findClass RX1 = some m.cls := findClass_of_methodNamed B.named
  have hlocks := B.notSynchronized
  subst hsz
  have hD := hD0.self (sz := s.heap.size)
  have hA := zA_of hD
  have hl := lv_entry ([.ref mv, .int 0, .int 0, .int x, .int 2]) (n := 7) (Nat.le_of_ble_eq_true rfl)
  rw [lg_entry_eq]
  generalize (lg_sl ([.ref mv, .int 0, .int 0, .int x, .int 2]) ++ List.replicate (7 - (lg_sl ([.ref mv, .int 0, .int 0, .int x, .int 2])).length) Slot.unset).toArray = ls at hl ⊢
  replace hl : lv_has ls 7 [(0, .ref mv), (1, .int 0), (2, .int 0), (3, .int x), (4, .int 2)] := hl
  refine zw_begin hP hD (fun H locs hP1 hS => ?_)
  clear hP
  have hP := hP1
  clear hP1
  refine lv_iload_n hx hb dX1_run_0 rfl (lv_at hl 1 rfl) ?_
  refine lv_iload_n hx hb dX1_run_1 rfl (lv_at hl 2 rfl) ?_
  refine zc_S (As := [.int 0, .int 0]) (rest := []) ⟨hx, hb, hml, hown, hts⟩ (c_M_bodyFor_0_0 l D cI cJ cZ cP cS po  ) (va_cwS 2 hts gX1_run_X1_bodyFor rfl rfl rfl dh_X1_bodyFor ⟨Nat.le_of_ble_eq_true rfl, Nat.le_of_ble_eq_true rfl⟩) hK hN (hZ.kept hS) rfl hl.1 rfl (Nat.le_of_ble_eq_true rfl) dX1_run_2 ⟨Nat.le_of_ble_eq_true rfl, Nat.le_of_ble_eq_true rfl⟩ (fun r_1 hr_1 => ?_)
  obtain rfl := hr_1
  refine lv_istore (lv' := [(5, .int 10), (0, .ref mv), (1, .int 0), (2, .int 0), (3, .int x), (4, .int 2)]) hx hb dX1_run_5 hl (by decide) rfl (fun ls hl => ?_)
  refine lv_iload hx hb dX1_run_7 (lv_at hl 0 rfl) ?_
  refine lv_iconst (v := (-1)) hx hb dX1_run_9 (by decide) ?_
  refine lv_icmp_eq (tgt := 20) hx hb dX1_run_10 (by decide) (fun c_2 => ?_) (fun c_2 => ?_)
  · exact absurd c_2 (by decide)
  · refine lv_iload hx hb dX1_run_13 (lv_at hl 5 rfl) ?_
    refine lv_bipush (v := 40) hx hb dX1_run_15 (by decide) ?_
    refine lv_icmp_lt (tgt := 22) hx hb dX1_run_17 (by decide) (fun c_3 => ?_) (fun c_3 => ?_)
    · refine lv_aload_n hx hb dX1_run_22 rfl (lv_at hl 1 rfl) ?_
      refine lv_iload hx hb dX1_run_23 (lv_at hl 0 rfl) ?_
      skip
      refine zw_Vv (As := [.int 10]) (rest := []) (wr := []) ⟨hx, hb, hml, hown, hts⟩ (c_M_note l D cI cJ cZ cP cS po mv mb (mr) (1) (mm) (mq) fb (10) hy0 (by omega) H.size) (cwV 1 hts gX1_run_X1_note rfl rfl rfl ⟨rfl, dh_X1_note⟩ ⟨Nat.le_of_ble_eq_true rfl, Nat.le_of_ble_eq_true rfl⟩) hK hN (hZ.kept hS) hP hD hS hA [0, 1] [] rfl rfl (by decide) (by decide) (by decide) (va_recv (q := (RX1, TX1, 5)) hK hP (ci := 1) (q0 := 0) rfl rfl) rfl hl.1 rfl (Nat.le_of_ble_eq_true rfl) dX1_run_25 ⟨Nat.le_of_ble_eq_true rfl, Nat.le_of_ble_eq_true rfl⟩ (fun u_5 H locs hr_4 hP hD hS => ?_)
      obtain ⟨q_6, q_7⟩ := u_5
      try dsimp only at hr_4
      obtain ⟨hbq_6, hr_4⟩ := hr_4
      have h9R := zRe (ws' := [(mv, .inr (1, [.ref mb, .int q_6, .int 1, .int mm, .int mq])), (mb, .inl (cI, 20, .inl q_7))]) hP hD rfl
      clear hP hD
      obtain ⟨hP, hD⟩ := h9R
      refine lv_iload hx hb dX1_run_28 (lv_at hl 5 rfl) ?_
      refine lv_iconst (v := 1) hx hb dX1_run_30 (by decide) ?_
      refine lv_iadd hx hb dX1_run_31 ?_
      refine lv_topi (fun y_8 ey_8 => ?_)
      obtain rfl : y_8 = 3 := ey_8.trans (by decide)
      refine lv_istore (lv' := [(6, .int 3), (5, .int 10), (0, .ref mv), (1, .int 0), (2, .int 0), (3, .int x), (4, .int 2)]) hx hb dX1_run_32 hl (by decide) rfl (fun ls hl => ?_)
      refine lv_iload hx hb dX1_run_34 (lv_at hl 1 rfl) ?_
      refine lv_lookup (off := 92) (tgt := 128) hx hb dX1_run_36 (by decide) (by decide) (by decide) ?_
      refine lv_iload_n hx hb dX1_run_128 rfl (lv_at hl 5 rfl) ?_
      refine lv_aload_n hx hb dX1_run_129 rfl (lv_at hl 2 rfl) ?_
      refine va_get (D := D) (ci := 1) (v := .int mm) (C := RX1) (T := TX1) (N := 5) hx hb hts hi_X1_run_1 hown hK hP 0 rfl rfl 3 (by decide) (hts (.fieldLink RX1 22 "TheLiningsInIt$Moves" "m" "I") (List.mem_of_getElem? (i := 1) rfl)) (fun _ h9 => h9) rfl dX1_run_130 ?_
      refine lv_iadd hx hb dX1_run_133 ?_
      refine lv_topi (fun x_9 ex_9 => ?_)
      exact W.iret (v := x_9) hx hb hr (fun t ht hW => ⟨⟨x_9, (q_6, q_7), rfl, ⟨(show q_6.toInt = mr.toInt + 1 from by omega), trivial⟩, zRet ht hP hD [0, 1] (by decide) rfl⟩, hS.F ht⟩) hS.2.2 dX1_run_134
    · exact absurd c_3 (by decide)
set_option maxHeartbeats 4000000 in
set_option maxRecDepth 100000 in
theorem c_M_run_1_1_0_1 (l : Launch) (D : va_G) (cI cJ cZ cP cS : ClassId) (po : zPool) (mv mb : Nat) (mr mm mq : Int32) (fb : Nat → Int32) (x : Int32) (hy0 : 0 ≤ mr.toInt) (hy1 : mr.toInt ≤ 1100) (hpz : Nat) : Met l yX1_run wsX1_run ({ frames := 3, cells := 0, slots := 0, locals := 72 }) (va_Pc [.ref mv, .int 1, .int 0, .int x, .int 1] (zW D (zKT cI cJ cZ cP cS) po [(mv, .inr (1, [.ref mb, .int mr, .int 1, .int mm, .int mq])), (mb, .inl (cI, 20, .inl fb))] hpz)) (va_Qi (fun (r : Int32) (u : (Int32) × (Nat → Int32)) => u.1.toInt = mr.toInt + 2 ∧ (True)) (zB D [(mv, .inr (1, [.ref mb, .int mr, .int 1, .int mm, .int mq])), (mb, .inl (cI, 20, .inl fb))] hpz (fun (u : (Int32) × (Nat → Int32)) => [(mv, .inr (1, [.ref mb, .int u.1, .int 1, .int mm, .int mq])), (mb, .inl (cI, 20, .inl u.2))])) (va_A [(mv, .inr (1, [.ref mb, .int mr, .int 1, .int mm, .int mq])), (mb, .inl (cI, 20, .inl fb))] hpz)) 0 0 (va_A [(mv, .inr (1, [.ref mb, .int mr, .int 1, .int mm, .int mq])), (mb, .inl (cI, 20, .inl fb))] hpz) := by
  refine Met.ofW (cc := cX1_run) (maxL := 7) (ret := (some .int)) (by decide) rfl ?_
  intro p e s m args below meth c s₁ B hml hv
  obtain ⟨rfl, hsz, hP, hK, hD0, hN, hZ⟩ := hv
  have hx := B.exec
  have hb := B.bytes
  have hr := B.returns
  have hts := atoms_spec (ws := wsX1_run) B.pre
  have hown : s.vm.findClass RX1 = some m.cls := findClass_of_methodNamed B.named
  have hlocks := B.notSynchronized
  subst hsz
  have hD := hD0.self (sz := s.heap.size)
  have hA := zA_of hD
  have hl := lv_entry ([.ref mv, .int 1, .int 0, .int x, .int 1]) (n := 7) (Nat.le_of_ble_eq_true rfl)
  rw [lg_entry_eq]
  generalize (lg_sl ([.ref mv, .int 1, .int 0, .int x, .int 1]) ++ List.replicate (7 - (lg_sl ([.ref mv, .int 1, .int 0, .int x, .int 1])).length) Slot.unset).toArray = ls at hl ⊢
  replace hl : lv_has ls 7 [(0, .ref mv), (1, .int 1), (2, .int 0), (3, .int x), (4, .int 1)] := hl
  refine zw_begin hP hD (fun H locs hP1 hS => ?_)
  clear hP
  have hP := hP1
  clear hP1
  refine lv_iload_n hx hb dX1_run_0 rfl (lv_at hl 1 rfl) ?_
  refine lv_iload_n hx hb dX1_run_1 rfl (lv_at hl 2 rfl) ?_
  refine zc_S (As := [.int 1, .int 0]) (rest := []) ⟨hx, hb, hml, hown, hts⟩ (c_M_bodyFor_1_0 l D cI cJ cZ cP cS po  ) (va_cwS 2 hts gX1_run_X1_bodyFor rfl rfl rfl dh_X1_bodyFor ⟨Nat.le_of_ble_eq_true rfl, Nat.le_of_ble_eq_true rfl⟩) hK hN (hZ.kept hS) rfl hl.1 rfl (Nat.le_of_ble_eq_true rfl) dX1_run_2 ⟨Nat.le_of_ble_eq_true rfl, Nat.le_of_ble_eq_true rfl⟩ (fun r_1 hr_1 => ?_)
  obtain rfl := hr_1
  refine lv_istore (lv' := [(5, .int 20), (0, .ref mv), (1, .int 1), (2, .int 0), (3, .int x), (4, .int 1)]) hx hb dX1_run_5 hl (by decide) rfl (fun ls hl => ?_)
  refine lv_iload hx hb dX1_run_7 (lv_at hl 0 rfl) ?_
  refine lv_iconst (v := (-1)) hx hb dX1_run_9 (by decide) ?_
  refine lv_icmp_eq (tgt := 20) hx hb dX1_run_10 (by decide) (fun c_2 => ?_) (fun c_2 => ?_)
  · exact absurd c_2 (by decide)
  · refine lv_iload hx hb dX1_run_13 (lv_at hl 5 rfl) ?_
    refine lv_bipush (v := 40) hx hb dX1_run_15 (by decide) ?_
    refine lv_icmp_lt (tgt := 22) hx hb dX1_run_17 (by decide) (fun c_3 => ?_) (fun c_3 => ?_)
    · refine lv_aload_n hx hb dX1_run_22 rfl (lv_at hl 1 rfl) ?_
      refine lv_iload hx hb dX1_run_23 (lv_at hl 0 rfl) ?_
      skip
      refine zw_Vv (As := [.int 20]) (rest := []) (wr := []) ⟨hx, hb, hml, hown, hts⟩ (c_M_note l D cI cJ cZ cP cS po mv mb (mr) (1) (mm) (mq) fb (20) hy0 (by omega) H.size) (cwV 1 hts gX1_run_X1_note rfl rfl rfl ⟨rfl, dh_X1_note⟩ ⟨Nat.le_of_ble_eq_true rfl, Nat.le_of_ble_eq_true rfl⟩) hK hN (hZ.kept hS) hP hD hS hA [0, 1] [] rfl rfl (by decide) (by decide) (by decide) (va_recv (q := (RX1, TX1, 5)) hK hP (ci := 1) (q0 := 0) rfl rfl) rfl hl.1 rfl (Nat.le_of_ble_eq_true rfl) dX1_run_25 ⟨Nat.le_of_ble_eq_true rfl, Nat.le_of_ble_eq_true rfl⟩ (fun u_5 H locs hr_4 hP hD hS => ?_)
      obtain ⟨q_6, q_7⟩ := u_5
      try dsimp only at hr_4
      obtain ⟨hbq_6, hr_4⟩ := hr_4
      have h9R := zRe (ws' := [(mv, .inr (1, [.ref mb, .int q_6, .int 1, .int mm, .int mq])), (mb, .inl (cI, 20, .inl q_7))]) hP hD rfl
      clear hP hD
      obtain ⟨hP, hD⟩ := h9R
      refine lv_iload hx hb dX1_run_28 (lv_at hl 5 rfl) ?_
      refine lv_iconst (v := 1) hx hb dX1_run_30 (by decide) ?_
      refine lv_iadd hx hb dX1_run_31 ?_
      refine lv_topi (fun y_8 ey_8 => ?_)
      obtain rfl : y_8 = 2 := ey_8.trans (by decide)
      refine lv_istore (lv' := [(6, .int 2), (5, .int 20), (0, .ref mv), (1, .int 1), (2, .int 0), (3, .int x), (4, .int 1)]) hx hb dX1_run_32 hl (by decide) rfl (fun ls hl => ?_)
      refine lv_iload hx hb dX1_run_34 (lv_at hl 1 rfl) ?_
      refine lv_lookup (off := 145) (tgt := 181) hx hb dX1_run_36 (by decide) (by decide) (by decide) ?_
      refine lv_aload_n hx hb dX1_run_181 rfl (lv_at hl 2 rfl) ?_
      refine lv_iconst (v := 0) hx hb dX1_run_182 (by decide) ?_
      refine lv_iconst (v := 0) hx hb dX1_run_183 (by decide) ?_
      refine lv_iload_n hx hb dX1_run_184 rfl (lv_at hl 5 rfl) ?_
      refine lv_iload hx hb dX1_run_185 (lv_at hl 0 rfl) ?_
      skip
      refine zw_V (As := [.int 0, .int 0, .int x, .int 2]) (rest := []) (wr := []) ⟨hx, hb, hml, hown, hts⟩ (c_M_run_1_0_0_2 l D cI cJ cZ cP cS po mv mb (q_6) (mm) (mq) q_7 (x) (by omega) (by omega) H.size) (cwV 4 hts gX1_run_X1_run rfl rfl rfl ⟨rfl, dh_X1_run⟩ ⟨Nat.le_of_ble_eq_true rfl, Nat.le_of_ble_eq_true rfl⟩) hK hN (hZ.kept hS) hP hD hS hA [0, 1] [] rfl rfl (by decide) (by decide) (by decide) (va_recv (q := (RX1, TX1, 5)) hK hP (ci := 1) (q0 := 0) rfl rfl) rfl hl.1 rfl (Nat.le_of_ble_eq_true rfl) dX1_run_187 ⟨Nat.le_of_ble_eq_true rfl, Nat.le_of_ble_eq_true rfl⟩ (fun r_9 u_10 H locs hr_9 hP hD hS => ?_)
      obtain ⟨q_11, q_12⟩ := u_10
      try dsimp only at hr_9
      obtain ⟨hbq_11, hr_9⟩ := hr_9
      have h9R := zRe (ws' := [(mv, .inr (1, [.ref mb, .int q_11, .int 1, .int mm, .int mq])), (mb, .inl (cI, 20, .inl q_12))]) hP hD rfl
      clear hP hD
      obtain ⟨hP, hD⟩ := h9R
      refine lv_aload_n hx hb dX1_run_190 rfl (lv_at hl 2 rfl) ?_
      refine va_get (D := D) (ci := 1) (v := .int mq) (C := RX1) (T := TX1) (N := 5) hx hb hts hi_X1_run_1 hown hK hP 0 rfl rfl 4 (by decide) (hts (.fieldLink RX1 25 "TheLiningsInIt$Moves" "k" "I") (List.mem_of_getElem? (i := 3) rfl)) (fun _ h9 => h9) rfl dX1_run_191 ?_
      refine lv_iadd hx hb dX1_run_194 ?_
      refine lv_topi (fun x_13 ex_13 => ?_)
      exact W.iret (v := x_13) hx hb hr (fun t ht hW => ⟨⟨x_13, (q_11, q_12), rfl, ⟨(show q_11.toInt = mr.toInt + 2 from by omega), trivial⟩, zRet ht hP hD [0, 1] (by decide) rfl⟩, hS.F ht⟩) hS.2.2 dX1_run_195
    · exact absurd c_3 (by decide)
set_option maxHeartbeats 4000000 in
set_option maxRecDepth 100000 in
theorem c_M_run_1_1_1_0 (l : Launch) (D : va_G) (cI cJ cZ cP cS : ClassId) (po : zPool) (mv mb : Nat) (mr mm mq : Int32) (fb : Nat → Int32) (x : Int32) (hy0 : 0 ≤ mr.toInt) (hy1 : mr.toInt ≤ 1000) (hpz : Nat) : Met l yX1_run wsX1_run ({ frames := 4, cells := 0, slots := 0, locals := 98 }) (va_Pc [.ref mv, .int 1, .int 1, .int x, .int 0] (zW D (zKT cI cJ cZ cP cS) po [(mv, .inr (1, [.ref mb, .int mr, .int 1, .int mm, .int mq])), (mb, .inl (cI, 20, .inl fb))] hpz)) (va_Qi (fun (r : Int32) (u : (Int32) × (Nat → Int32)) => u.1.toInt = mr.toInt + 3 ∧ (True)) (zB D [(mv, .inr (1, [.ref mb, .int mr, .int 1, .int mm, .int mq])), (mb, .inl (cI, 20, .inl fb))] hpz (fun (u : (Int32) × (Nat → Int32)) => [(mv, .inr (1, [.ref mb, .int u.1, .int 1, .int mm, .int mq])), (mb, .inl (cI, 20, .inl u.2))])) (va_A [(mv, .inr (1, [.ref mb, .int mr, .int 1, .int mm, .int mq])), (mb, .inl (cI, 20, .inl fb))] hpz)) 0 0 (va_A [(mv, .inr (1, [.ref mb, .int mr, .int 1, .int mm, .int mq])), (mb, .inl (cI, 20, .inl fb))] hpz) := by
  refine Met.ofW (cc := cX1_run) (maxL := 7) (ret := (some .int)) (by decide) rfl ?_
  intro p e s m args below meth c s₁ B hml hv
  obtain ⟨rfl, hsz, hP, hK, hD0, hN, hZ⟩ := hv
  have hx := B.exec
  have hb := B.bytes
  have hr := B.returns
  have hts := atoms_spec (ws := wsX1_run) B.pre
  have hown : s.vm.findClass RX1 = some m.cls := findClass_of_methodNamed B.named
  have hlocks := B.notSynchronized
  subst hsz
  have hD := hD0.self (sz := s.heap.size)
  have hA := zA_of hD
  have hl := lv_entry ([.ref mv, .int 1, .int 1, .int x, .int 0]) (n := 7) (Nat.le_of_ble_eq_true rfl)
  rw [lg_entry_eq]
  generalize (lg_sl ([.ref mv, .int 1, .int 1, .int x, .int 0]) ++ List.replicate (7 - (lg_sl ([.ref mv, .int 1, .int 1, .int x, .int 0])).length) Slot.unset).toArray = ls at hl ⊢
  replace hl : lv_has ls 7 [(0, .ref mv), (1, .int 1), (2, .int 1), (3, .int x), (4, .int 0)] := hl
  refine zw_begin hP hD (fun H locs hP1 hS => ?_)
  clear hP
  have hP := hP1
  clear hP1
  refine lv_iload_n hx hb dX1_run_0 rfl (lv_at hl 1 rfl) ?_
  refine lv_iload_n hx hb dX1_run_1 rfl (lv_at hl 2 rfl) ?_
  refine zc_S (As := [.int 1, .int 1]) (rest := []) ⟨hx, hb, hml, hown, hts⟩ (c_M_bodyFor_1_1 l D cI cJ cZ cP cS po  ) (va_cwS 2 hts gX1_run_X1_bodyFor rfl rfl rfl dh_X1_bodyFor ⟨Nat.le_of_ble_eq_true rfl, Nat.le_of_ble_eq_true rfl⟩) hK hN (hZ.kept hS) rfl hl.1 rfl (Nat.le_of_ble_eq_true rfl) dX1_run_2 ⟨Nat.le_of_ble_eq_true rfl, Nat.le_of_ble_eq_true rfl⟩ (fun r_1 hr_1 => ?_)
  obtain rfl := hr_1
  refine lv_istore (lv' := [(5, .int 11), (0, .ref mv), (1, .int 1), (2, .int 1), (3, .int x), (4, .int 0)]) hx hb dX1_run_5 hl (by decide) rfl (fun ls hl => ?_)
  refine lv_iload hx hb dX1_run_7 (lv_at hl 0 rfl) ?_
  refine lv_iconst (v := (-1)) hx hb dX1_run_9 (by decide) ?_
  refine lv_icmp_eq (tgt := 20) hx hb dX1_run_10 (by decide) (fun c_2 => ?_) (fun c_2 => ?_)
  · exact absurd c_2 (by decide)
  · refine lv_iload hx hb dX1_run_13 (lv_at hl 5 rfl) ?_
    refine lv_bipush (v := 40) hx hb dX1_run_15 (by decide) ?_
    refine lv_icmp_lt (tgt := 22) hx hb dX1_run_17 (by decide) (fun c_3 => ?_) (fun c_3 => ?_)
    · refine lv_aload_n hx hb dX1_run_22 rfl (lv_at hl 1 rfl) ?_
      refine lv_iload hx hb dX1_run_23 (lv_at hl 0 rfl) ?_
      skip
      refine zw_Vv (As := [.int 11]) (rest := []) (wr := []) ⟨hx, hb, hml, hown, hts⟩ (c_M_note l D cI cJ cZ cP cS po mv mb (mr) (1) (mm) (mq) fb (11) hy0 (by omega) H.size) (cwV 1 hts gX1_run_X1_note rfl rfl rfl ⟨rfl, dh_X1_note⟩ ⟨Nat.le_of_ble_eq_true rfl, Nat.le_of_ble_eq_true rfl⟩) hK hN (hZ.kept hS) hP hD hS hA [0, 1] [] rfl rfl (by decide) (by decide) (by decide) (va_recv (q := (RX1, TX1, 5)) hK hP (ci := 1) (q0 := 0) rfl rfl) rfl hl.1 rfl (Nat.le_of_ble_eq_true rfl) dX1_run_25 ⟨Nat.le_of_ble_eq_true rfl, Nat.le_of_ble_eq_true rfl⟩ (fun u_5 H locs hr_4 hP hD hS => ?_)
      obtain ⟨q_6, q_7⟩ := u_5
      try dsimp only at hr_4
      obtain ⟨hbq_6, hr_4⟩ := hr_4
      have h9R := zRe (ws' := [(mv, .inr (1, [.ref mb, .int q_6, .int 1, .int mm, .int mq])), (mb, .inl (cI, 20, .inl q_7))]) hP hD rfl
      clear hP hD
      obtain ⟨hP, hD⟩ := h9R
      refine lv_iload hx hb dX1_run_28 (lv_at hl 5 rfl) ?_
      refine lv_iconst (v := 1) hx hb dX1_run_30 (by decide) ?_
      refine lv_iadd hx hb dX1_run_31 ?_
      refine lv_topi (fun y_8 ey_8 => ?_)
      obtain rfl : y_8 = 1 := ey_8.trans (by decide)
      refine lv_istore (lv' := [(6, .int 1), (5, .int 11), (0, .ref mv), (1, .int 1), (2, .int 1), (3, .int x), (4, .int 0)]) hx hb dX1_run_32 hl (by decide) rfl (fun ls hl => ?_)
      refine lv_iload hx hb dX1_run_34 (lv_at hl 1 rfl) ?_
      refine lv_lookup (off := 99) (tgt := 135) hx hb dX1_run_36 (by decide) (by decide) (by decide) ?_
      refine lv_aload_n hx hb dX1_run_135 rfl (lv_at hl 2 rfl) ?_
      refine lv_aload_n hx hb dX1_run_136 rfl (lv_at hl 2 rfl) ?_
      refine va_get (D := D) (ci := 1) (v := .int 1) (C := RX1) (T := TX1) (N := 5) hx hb hts hi_X1_run_1 hown hK hP 0 rfl rfl 2 (by decide) (hts (.fieldLink RX1 19 "TheLiningsInIt$Moves" "kind" "I") (List.mem_of_getElem? (i := 2) rfl)) (fun _ h9 => h9) rfl dX1_run_137 ?_
      refine lv_iconst (v := 0) hx hb dX1_run_140 (by decide) ?_
      refine lv_iload_n hx hb dX1_run_141 rfl (lv_at hl 5 rfl) ?_
      refine lv_iload hx hb dX1_run_142 (lv_at hl 0 rfl) ?_
      skip
      refine zw_V (As := [.int 1, .int 0, .int x, .int 1]) (rest := []) (wr := []) ⟨hx, hb, hml, hown, hts⟩ (c_M_run_1_1_0_1 l D cI cJ cZ cP cS po mv mb (q_6) (mm) (mq) q_7 (x) (by omega) (by omega) H.size) (cwV 4 hts gX1_run_X1_run rfl rfl rfl ⟨rfl, dh_X1_run⟩ ⟨Nat.le_of_ble_eq_true rfl, Nat.le_of_ble_eq_true rfl⟩) hK hN (hZ.kept hS) hP hD hS hA [0, 1] [] rfl rfl (by decide) (by decide) (by decide) (va_recv (q := (RX1, TX1, 5)) hK hP (ci := 1) (q0 := 0) rfl rfl) rfl hl.1 rfl (Nat.le_of_ble_eq_true rfl) dX1_run_144 ⟨Nat.le_of_ble_eq_true rfl, Nat.le_of_ble_eq_true rfl⟩ (fun r_9 u_10 H locs hr_9 hP hD hS => ?_)
      obtain ⟨q_11, q_12⟩ := u_10
      try dsimp only at hr_9
      obtain ⟨hbq_11, hr_9⟩ := hr_9
      have h9R := zRe (ws' := [(mv, .inr (1, [.ref mb, .int q_11, .int 1, .int mm, .int mq])), (mb, .inl (cI, 20, .inl q_12))]) hP hD rfl
      clear hP hD
      obtain ⟨hP, hD⟩ := h9R
      refine lv_iconst (v := 2) hx hb dX1_run_147 (by decide) ?_
      refine lv_imul hx hb dX1_run_148 ?_
      refine lv_topi (fun x_13 ex_13 => ?_)
      exact W.iret (v := x_13) hx hb hr (fun t ht hW => ⟨⟨x_13, (q_11, q_12), rfl, ⟨(show q_11.toInt = mr.toInt + 3 from by omega), trivial⟩, zRet ht hP hD [0, 1] (by decide) rfl⟩, hS.F ht⟩) hS.2.2 dX1_run_149
    · exact absurd c_3 (by decide)
set_option maxHeartbeats 4000000 in
set_option maxRecDepth 100000 in
theorem c_M_run_1_0_0_3 (l : Launch) (D : va_G) (cI cJ cZ cP cS : ClassId) (po : zPool) (mv mb : Nat) (mr mm mq : Int32) (fb : Nat → Int32) (x : Int32) (hy0 : 0 ≤ mr.toInt) (hy1 : mr.toInt ≤ 1300) (hpz : Nat) : Met l yX1_run wsX1_run ({ frames := 2, cells := 0, slots := 0, locals := 46 }) (va_Pc [.ref mv, .int 0, .int 0, .int x, .int 3] (zW D (zKT cI cJ cZ cP cS) po [(mv, .inr (1, [.ref mb, .int mr, .int 1, .int mm, .int mq])), (mb, .inl (cI, 20, .inl fb))] hpz)) (va_Qi (fun (r : Int32) (u : (Int32) × (Nat → Int32)) => u.1.toInt = mr.toInt + 1 ∧ (True)) (zB D [(mv, .inr (1, [.ref mb, .int mr, .int 1, .int mm, .int mq])), (mb, .inl (cI, 20, .inl fb))] hpz (fun (u : (Int32) × (Nat → Int32)) => [(mv, .inr (1, [.ref mb, .int u.1, .int 1, .int mm, .int mq])), (mb, .inl (cI, 20, .inl u.2))])) (va_A [(mv, .inr (1, [.ref mb, .int mr, .int 1, .int mm, .int mq])), (mb, .inl (cI, 20, .inl fb))] hpz)) 0 0 (va_A [(mv, .inr (1, [.ref mb, .int mr, .int 1, .int mm, .int mq])), (mb, .inl (cI, 20, .inl fb))] hpz) := by
  refine Met.ofW (cc := cX1_run) (maxL := 7) (ret := (some .int)) (by decide) rfl ?_
  intro p e s m args below meth c s₁ B hml hv
  obtain ⟨rfl, hsz, hP, hK, hD0, hN, hZ⟩ := hv
  have hx := B.exec
  have hb := B.bytes
  have hr := B.returns
  have hts := atoms_spec (ws := wsX1_run) B.pre
  have hown : s.vm.findClass RX1 = some m.cls := findClass_of_methodNamed B.named
  have hlocks := B.notSynchronized
  subst hsz
  have hD := hD0.self (sz := s.heap.size)
  have hA := zA_of hD
  have hl := lv_entry ([.ref mv, .int 0, .int 0, .int x, .int 3]) (n := 7) (Nat.le_of_ble_eq_true rfl)
  rw [lg_entry_eq]
  generalize (lg_sl ([.ref mv, .int 0, .int 0, .int x, .int 3]) ++ List.replicate (7 - (lg_sl ([.ref mv, .int 0, .int 0, .int x, .int 3])).length) Slot.unset).toArray = ls at hl ⊢
  replace hl : lv_has ls 7 [(0, .ref mv), (1, .int 0), (2, .int 0), (3, .int x), (4, .int 3)] := hl
  refine zw_begin hP hD (fun H locs hP1 hS => ?_)
  clear hP
  have hP := hP1
  clear hP1
  refine lv_iload_n hx hb dX1_run_0 rfl (lv_at hl 1 rfl) ?_
  refine lv_iload_n hx hb dX1_run_1 rfl (lv_at hl 2 rfl) ?_
  refine zc_S (As := [.int 0, .int 0]) (rest := []) ⟨hx, hb, hml, hown, hts⟩ (c_M_bodyFor_0_0 l D cI cJ cZ cP cS po  ) (va_cwS 2 hts gX1_run_X1_bodyFor rfl rfl rfl dh_X1_bodyFor ⟨Nat.le_of_ble_eq_true rfl, Nat.le_of_ble_eq_true rfl⟩) hK hN (hZ.kept hS) rfl hl.1 rfl (Nat.le_of_ble_eq_true rfl) dX1_run_2 ⟨Nat.le_of_ble_eq_true rfl, Nat.le_of_ble_eq_true rfl⟩ (fun r_1 hr_1 => ?_)
  obtain rfl := hr_1
  refine lv_istore (lv' := [(5, .int 10), (0, .ref mv), (1, .int 0), (2, .int 0), (3, .int x), (4, .int 3)]) hx hb dX1_run_5 hl (by decide) rfl (fun ls hl => ?_)
  refine lv_iload hx hb dX1_run_7 (lv_at hl 0 rfl) ?_
  refine lv_iconst (v := (-1)) hx hb dX1_run_9 (by decide) ?_
  refine lv_icmp_eq (tgt := 20) hx hb dX1_run_10 (by decide) (fun c_2 => ?_) (fun c_2 => ?_)
  · exact absurd c_2 (by decide)
  · refine lv_iload hx hb dX1_run_13 (lv_at hl 5 rfl) ?_
    refine lv_bipush (v := 40) hx hb dX1_run_15 (by decide) ?_
    refine lv_icmp_lt (tgt := 22) hx hb dX1_run_17 (by decide) (fun c_3 => ?_) (fun c_3 => ?_)
    · refine lv_aload_n hx hb dX1_run_22 rfl (lv_at hl 1 rfl) ?_
      refine lv_iload hx hb dX1_run_23 (lv_at hl 0 rfl) ?_
      skip
      refine zw_Vv (As := [.int 10]) (rest := []) (wr := []) ⟨hx, hb, hml, hown, hts⟩ (c_M_note l D cI cJ cZ cP cS po mv mb (mr) (1) (mm) (mq) fb (10) hy0 (by omega) H.size) (cwV 1 hts gX1_run_X1_note rfl rfl rfl ⟨rfl, dh_X1_note⟩ ⟨Nat.le_of_ble_eq_true rfl, Nat.le_of_ble_eq_true rfl⟩) hK hN (hZ.kept hS) hP hD hS hA [0, 1] [] rfl rfl (by decide) (by decide) (by decide) (va_recv (q := (RX1, TX1, 5)) hK hP (ci := 1) (q0 := 0) rfl rfl) rfl hl.1 rfl (Nat.le_of_ble_eq_true rfl) dX1_run_25 ⟨Nat.le_of_ble_eq_true rfl, Nat.le_of_ble_eq_true rfl⟩ (fun u_5 H locs hr_4 hP hD hS => ?_)
      obtain ⟨q_6, q_7⟩ := u_5
      try dsimp only at hr_4
      obtain ⟨hbq_6, hr_4⟩ := hr_4
      have h9R := zRe (ws' := [(mv, .inr (1, [.ref mb, .int q_6, .int 1, .int mm, .int mq])), (mb, .inl (cI, 20, .inl q_7))]) hP hD rfl
      clear hP hD
      obtain ⟨hP, hD⟩ := h9R
      refine lv_iload hx hb dX1_run_28 (lv_at hl 5 rfl) ?_
      refine lv_iconst (v := 1) hx hb dX1_run_30 (by decide) ?_
      refine lv_iadd hx hb dX1_run_31 ?_
      refine lv_topi (fun y_8 ey_8 => ?_)
      obtain rfl : y_8 = 4 := ey_8.trans (by decide)
      refine lv_istore (lv' := [(6, .int 4), (5, .int 10), (0, .ref mv), (1, .int 0), (2, .int 0), (3, .int x), (4, .int 3)]) hx hb dX1_run_32 hl (by decide) rfl (fun ls hl => ?_)
      refine lv_iload hx hb dX1_run_34 (lv_at hl 1 rfl) ?_
      refine lv_lookup (off := 92) (tgt := 128) hx hb dX1_run_36 (by decide) (by decide) (by decide) ?_
      refine lv_iload_n hx hb dX1_run_128 rfl (lv_at hl 5 rfl) ?_
      refine lv_aload_n hx hb dX1_run_129 rfl (lv_at hl 2 rfl) ?_
      refine va_get (D := D) (ci := 1) (v := .int mm) (C := RX1) (T := TX1) (N := 5) hx hb hts hi_X1_run_1 hown hK hP 0 rfl rfl 3 (by decide) (hts (.fieldLink RX1 22 "TheLiningsInIt$Moves" "m" "I") (List.mem_of_getElem? (i := 1) rfl)) (fun _ h9 => h9) rfl dX1_run_130 ?_
      refine lv_iadd hx hb dX1_run_133 ?_
      refine lv_topi (fun x_9 ex_9 => ?_)
      exact W.iret (v := x_9) hx hb hr (fun t ht hW => ⟨⟨x_9, (q_6, q_7), rfl, ⟨(show q_6.toInt = mr.toInt + 1 from by omega), trivial⟩, zRet ht hP hD [0, 1] (by decide) rfl⟩, hS.F ht⟩) hS.2.2 dX1_run_134
    · exact absurd c_3 (by decide)
set_option maxHeartbeats 4000000 in
set_option maxRecDepth 100000 in
theorem c_M_run_1_1_0_2 (l : Launch) (D : va_G) (cI cJ cZ cP cS : ClassId) (po : zPool) (mv mb : Nat) (mr mm mq : Int32) (fb : Nat → Int32) (x : Int32) (hy0 : 0 ≤ mr.toInt) (hy1 : mr.toInt ≤ 1200) (hpz : Nat) : Met l yX1_run wsX1_run ({ frames := 3, cells := 0, slots := 0, locals := 72 }) (va_Pc [.ref mv, .int 1, .int 0, .int x, .int 2] (zW D (zKT cI cJ cZ cP cS) po [(mv, .inr (1, [.ref mb, .int mr, .int 1, .int mm, .int mq])), (mb, .inl (cI, 20, .inl fb))] hpz)) (va_Qi (fun (r : Int32) (u : (Int32) × (Nat → Int32)) => u.1.toInt = mr.toInt + 2 ∧ (True)) (zB D [(mv, .inr (1, [.ref mb, .int mr, .int 1, .int mm, .int mq])), (mb, .inl (cI, 20, .inl fb))] hpz (fun (u : (Int32) × (Nat → Int32)) => [(mv, .inr (1, [.ref mb, .int u.1, .int 1, .int mm, .int mq])), (mb, .inl (cI, 20, .inl u.2))])) (va_A [(mv, .inr (1, [.ref mb, .int mr, .int 1, .int mm, .int mq])), (mb, .inl (cI, 20, .inl fb))] hpz)) 0 0 (va_A [(mv, .inr (1, [.ref mb, .int mr, .int 1, .int mm, .int mq])), (mb, .inl (cI, 20, .inl fb))] hpz) := by
  refine Met.ofW (cc := cX1_run) (maxL := 7) (ret := (some .int)) (by decide) rfl ?_
  intro p e s m args below meth c s₁ B hml hv
  obtain ⟨rfl, hsz, hP, hK, hD0, hN, hZ⟩ := hv
  have hx := B.exec
  have hb := B.bytes
  have hr := B.returns
  have hts := atoms_spec (ws := wsX1_run) B.pre
  have hown : s.vm.findClass RX1 = some m.cls := findClass_of_methodNamed B.named
  have hlocks := B.notSynchronized
  subst hsz
  have hD := hD0.self (sz := s.heap.size)
  have hA := zA_of hD
  have hl := lv_entry ([.ref mv, .int 1, .int 0, .int x, .int 2]) (n := 7) (Nat.le_of_ble_eq_true rfl)
  rw [lg_entry_eq]
  generalize (lg_sl ([.ref mv, .int 1, .int 0, .int x, .int 2]) ++ List.replicate (7 - (lg_sl ([.ref mv, .int 1, .int 0, .int x, .int 2])).length) Slot.unset).toArray = ls at hl ⊢
  replace hl : lv_has ls 7 [(0, .ref mv), (1, .int 1), (2, .int 0), (3, .int x), (4, .int 2)] := hl
  refine zw_begin hP hD (fun H locs hP1 hS => ?_)
  clear hP
  have hP := hP1
  clear hP1
  refine lv_iload_n hx hb dX1_run_0 rfl (lv_at hl 1 rfl) ?_
  refine lv_iload_n hx hb dX1_run_1 rfl (lv_at hl 2 rfl) ?_
  refine zc_S (As := [.int 1, .int 0]) (rest := []) ⟨hx, hb, hml, hown, hts⟩ (c_M_bodyFor_1_0 l D cI cJ cZ cP cS po  ) (va_cwS 2 hts gX1_run_X1_bodyFor rfl rfl rfl dh_X1_bodyFor ⟨Nat.le_of_ble_eq_true rfl, Nat.le_of_ble_eq_true rfl⟩) hK hN (hZ.kept hS) rfl hl.1 rfl (Nat.le_of_ble_eq_true rfl) dX1_run_2 ⟨Nat.le_of_ble_eq_true rfl, Nat.le_of_ble_eq_true rfl⟩ (fun r_1 hr_1 => ?_)
  obtain rfl := hr_1
  refine lv_istore (lv' := [(5, .int 20), (0, .ref mv), (1, .int 1), (2, .int 0), (3, .int x), (4, .int 2)]) hx hb dX1_run_5 hl (by decide) rfl (fun ls hl => ?_)
  refine lv_iload hx hb dX1_run_7 (lv_at hl 0 rfl) ?_
  refine lv_iconst (v := (-1)) hx hb dX1_run_9 (by decide) ?_
  refine lv_icmp_eq (tgt := 20) hx hb dX1_run_10 (by decide) (fun c_2 => ?_) (fun c_2 => ?_)
  · exact absurd c_2 (by decide)
  · refine lv_iload hx hb dX1_run_13 (lv_at hl 5 rfl) ?_
    refine lv_bipush (v := 40) hx hb dX1_run_15 (by decide) ?_
    refine lv_icmp_lt (tgt := 22) hx hb dX1_run_17 (by decide) (fun c_3 => ?_) (fun c_3 => ?_)
    · refine lv_aload_n hx hb dX1_run_22 rfl (lv_at hl 1 rfl) ?_
      refine lv_iload hx hb dX1_run_23 (lv_at hl 0 rfl) ?_
      skip
      refine zw_Vv (As := [.int 20]) (rest := []) (wr := []) ⟨hx, hb, hml, hown, hts⟩ (c_M_note l D cI cJ cZ cP cS po mv mb (mr) (1) (mm) (mq) fb (20) hy0 (by omega) H.size) (cwV 1 hts gX1_run_X1_note rfl rfl rfl ⟨rfl, dh_X1_note⟩ ⟨Nat.le_of_ble_eq_true rfl, Nat.le_of_ble_eq_true rfl⟩) hK hN (hZ.kept hS) hP hD hS hA [0, 1] [] rfl rfl (by decide) (by decide) (by decide) (va_recv (q := (RX1, TX1, 5)) hK hP (ci := 1) (q0 := 0) rfl rfl) rfl hl.1 rfl (Nat.le_of_ble_eq_true rfl) dX1_run_25 ⟨Nat.le_of_ble_eq_true rfl, Nat.le_of_ble_eq_true rfl⟩ (fun u_5 H locs hr_4 hP hD hS => ?_)
      obtain ⟨q_6, q_7⟩ := u_5
      try dsimp only at hr_4
      obtain ⟨hbq_6, hr_4⟩ := hr_4
      have h9R := zRe (ws' := [(mv, .inr (1, [.ref mb, .int q_6, .int 1, .int mm, .int mq])), (mb, .inl (cI, 20, .inl q_7))]) hP hD rfl
      clear hP hD
      obtain ⟨hP, hD⟩ := h9R
      refine lv_iload hx hb dX1_run_28 (lv_at hl 5 rfl) ?_
      refine lv_iconst (v := 1) hx hb dX1_run_30 (by decide) ?_
      refine lv_iadd hx hb dX1_run_31 ?_
      refine lv_topi (fun y_8 ey_8 => ?_)
      obtain rfl : y_8 = 3 := ey_8.trans (by decide)
      refine lv_istore (lv' := [(6, .int 3), (5, .int 20), (0, .ref mv), (1, .int 1), (2, .int 0), (3, .int x), (4, .int 2)]) hx hb dX1_run_32 hl (by decide) rfl (fun ls hl => ?_)
      refine lv_iload hx hb dX1_run_34 (lv_at hl 1 rfl) ?_
      refine lv_lookup (off := 145) (tgt := 181) hx hb dX1_run_36 (by decide) (by decide) (by decide) ?_
      refine lv_aload_n hx hb dX1_run_181 rfl (lv_at hl 2 rfl) ?_
      refine lv_iconst (v := 0) hx hb dX1_run_182 (by decide) ?_
      refine lv_iconst (v := 0) hx hb dX1_run_183 (by decide) ?_
      refine lv_iload_n hx hb dX1_run_184 rfl (lv_at hl 5 rfl) ?_
      refine lv_iload hx hb dX1_run_185 (lv_at hl 0 rfl) ?_
      skip
      refine zw_V (As := [.int 0, .int 0, .int x, .int 3]) (rest := []) (wr := []) ⟨hx, hb, hml, hown, hts⟩ (c_M_run_1_0_0_3 l D cI cJ cZ cP cS po mv mb (q_6) (mm) (mq) q_7 (x) (by omega) (by omega) H.size) (cwV 4 hts gX1_run_X1_run rfl rfl rfl ⟨rfl, dh_X1_run⟩ ⟨Nat.le_of_ble_eq_true rfl, Nat.le_of_ble_eq_true rfl⟩) hK hN (hZ.kept hS) hP hD hS hA [0, 1] [] rfl rfl (by decide) (by decide) (by decide) (va_recv (q := (RX1, TX1, 5)) hK hP (ci := 1) (q0 := 0) rfl rfl) rfl hl.1 rfl (Nat.le_of_ble_eq_true rfl) dX1_run_187 ⟨Nat.le_of_ble_eq_true rfl, Nat.le_of_ble_eq_true rfl⟩ (fun r_9 u_10 H locs hr_9 hP hD hS => ?_)
      obtain ⟨q_11, q_12⟩ := u_10
      try dsimp only at hr_9
      obtain ⟨hbq_11, hr_9⟩ := hr_9
      have h9R := zRe (ws' := [(mv, .inr (1, [.ref mb, .int q_11, .int 1, .int mm, .int mq])), (mb, .inl (cI, 20, .inl q_12))]) hP hD rfl
      clear hP hD
      obtain ⟨hP, hD⟩ := h9R
      refine lv_aload_n hx hb dX1_run_190 rfl (lv_at hl 2 rfl) ?_
      refine va_get (D := D) (ci := 1) (v := .int mq) (C := RX1) (T := TX1) (N := 5) hx hb hts hi_X1_run_1 hown hK hP 0 rfl rfl 4 (by decide) (hts (.fieldLink RX1 25 "TheLiningsInIt$Moves" "k" "I") (List.mem_of_getElem? (i := 3) rfl)) (fun _ h9 => h9) rfl dX1_run_191 ?_
      refine lv_iadd hx hb dX1_run_194 ?_
      refine lv_topi (fun x_13 ex_13 => ?_)
      exact W.iret (v := x_13) hx hb hr (fun t ht hW => ⟨⟨x_13, (q_11, q_12), rfl, ⟨(show q_11.toInt = mr.toInt + 2 from by omega), trivial⟩, zRet ht hP hD [0, 1] (by decide) rfl⟩, hS.F ht⟩) hS.2.2 dX1_run_195
    · exact absurd c_3 (by decide)
set_option maxHeartbeats 4000000 in
set_option maxRecDepth 100000 in
theorem c_M_run_1_1_1_1 (l : Launch) (D : va_G) (cI cJ cZ cP cS : ClassId) (po : zPool) (mv mb : Nat) (mr mm mq : Int32) (fb : Nat → Int32) (x : Int32) (hy0 : 0 ≤ mr.toInt) (hy1 : mr.toInt ≤ 1100) (hpz : Nat) : Met l yX1_run wsX1_run ({ frames := 4, cells := 0, slots := 0, locals := 98 }) (va_Pc [.ref mv, .int 1, .int 1, .int x, .int 1] (zW D (zKT cI cJ cZ cP cS) po [(mv, .inr (1, [.ref mb, .int mr, .int 1, .int mm, .int mq])), (mb, .inl (cI, 20, .inl fb))] hpz)) (va_Qi (fun (r : Int32) (u : (Int32) × (Nat → Int32)) => u.1.toInt = mr.toInt + 3 ∧ (True)) (zB D [(mv, .inr (1, [.ref mb, .int mr, .int 1, .int mm, .int mq])), (mb, .inl (cI, 20, .inl fb))] hpz (fun (u : (Int32) × (Nat → Int32)) => [(mv, .inr (1, [.ref mb, .int u.1, .int 1, .int mm, .int mq])), (mb, .inl (cI, 20, .inl u.2))])) (va_A [(mv, .inr (1, [.ref mb, .int mr, .int 1, .int mm, .int mq])), (mb, .inl (cI, 20, .inl fb))] hpz)) 0 0 (va_A [(mv, .inr (1, [.ref mb, .int mr, .int 1, .int mm, .int mq])), (mb, .inl (cI, 20, .inl fb))] hpz) := by
  refine Met.ofW (cc := cX1_run) (maxL := 7) (ret := (some .int)) (by decide) rfl ?_
  intro p e s m args below meth c s₁ B hml hv
  obtain ⟨rfl, hsz, hP, hK, hD0, hN, hZ⟩ := hv
  have hx := B.exec
  have hb := B.bytes
  have hr := B.returns
  have hts := atoms_spec (ws := wsX1_run) B.pre
  have hown : s.vm.findClass RX1 = some m.cls := findClass_of_methodNamed B.named
  have hlocks := B.notSynchronized
  subst hsz
  have hD := hD0.self (sz := s.heap.size)
  have hA := zA_of hD
  have hl := lv_entry ([.ref mv, .int 1, .int 1, .int x, .int 1]) (n := 7) (Nat.le_of_ble_eq_true rfl)
  rw [lg_entry_eq]
  generalize (lg_sl ([.ref mv, .int 1, .int 1, .int x, .int 1]) ++ List.replicate (7 - (lg_sl ([.ref mv, .int 1, .int 1, .int x, .int 1])).length) Slot.unset).toArray = ls at hl ⊢
  replace hl : lv_has ls 7 [(0, .ref mv), (1, .int 1), (2, .int 1), (3, .int x), (4, .int 1)] := hl
  refine zw_begin hP hD (fun H locs hP1 hS => ?_)
  clear hP
  have hP := hP1
  clear hP1
  refine lv_iload_n hx hb dX1_run_0 rfl (lv_at hl 1 rfl) ?_
  refine lv_iload_n hx hb dX1_run_1 rfl (lv_at hl 2 rfl) ?_
  refine zc_S (As := [.int 1, .int 1]) (rest := []) ⟨hx, hb, hml, hown, hts⟩ (c_M_bodyFor_1_1 l D cI cJ cZ cP cS po  ) (va_cwS 2 hts gX1_run_X1_bodyFor rfl rfl rfl dh_X1_bodyFor ⟨Nat.le_of_ble_eq_true rfl, Nat.le_of_ble_eq_true rfl⟩) hK hN (hZ.kept hS) rfl hl.1 rfl (Nat.le_of_ble_eq_true rfl) dX1_run_2 ⟨Nat.le_of_ble_eq_true rfl, Nat.le_of_ble_eq_true rfl⟩ (fun r_1 hr_1 => ?_)
  obtain rfl := hr_1
  refine lv_istore (lv' := [(5, .int 11), (0, .ref mv), (1, .int 1), (2, .int 1), (3, .int x), (4, .int 1)]) hx hb dX1_run_5 hl (by decide) rfl (fun ls hl => ?_)
  refine lv_iload hx hb dX1_run_7 (lv_at hl 0 rfl) ?_
  refine lv_iconst (v := (-1)) hx hb dX1_run_9 (by decide) ?_
  refine lv_icmp_eq (tgt := 20) hx hb dX1_run_10 (by decide) (fun c_2 => ?_) (fun c_2 => ?_)
  · exact absurd c_2 (by decide)
  · refine lv_iload hx hb dX1_run_13 (lv_at hl 5 rfl) ?_
    refine lv_bipush (v := 40) hx hb dX1_run_15 (by decide) ?_
    refine lv_icmp_lt (tgt := 22) hx hb dX1_run_17 (by decide) (fun c_3 => ?_) (fun c_3 => ?_)
    · refine lv_aload_n hx hb dX1_run_22 rfl (lv_at hl 1 rfl) ?_
      refine lv_iload hx hb dX1_run_23 (lv_at hl 0 rfl) ?_
      skip
      refine zw_Vv (As := [.int 11]) (rest := []) (wr := []) ⟨hx, hb, hml, hown, hts⟩ (c_M_note l D cI cJ cZ cP cS po mv mb (mr) (1) (mm) (mq) fb (11) hy0 (by omega) H.size) (cwV 1 hts gX1_run_X1_note rfl rfl rfl ⟨rfl, dh_X1_note⟩ ⟨Nat.le_of_ble_eq_true rfl, Nat.le_of_ble_eq_true rfl⟩) hK hN (hZ.kept hS) hP hD hS hA [0, 1] [] rfl rfl (by decide) (by decide) (by decide) (va_recv (q := (RX1, TX1, 5)) hK hP (ci := 1) (q0 := 0) rfl rfl) rfl hl.1 rfl (Nat.le_of_ble_eq_true rfl) dX1_run_25 ⟨Nat.le_of_ble_eq_true rfl, Nat.le_of_ble_eq_true rfl⟩ (fun u_5 H locs hr_4 hP hD hS => ?_)
      obtain ⟨q_6, q_7⟩ := u_5
      try dsimp only at hr_4
      obtain ⟨hbq_6, hr_4⟩ := hr_4
      have h9R := zRe (ws' := [(mv, .inr (1, [.ref mb, .int q_6, .int 1, .int mm, .int mq])), (mb, .inl (cI, 20, .inl q_7))]) hP hD rfl
      clear hP hD
      obtain ⟨hP, hD⟩ := h9R
      refine lv_iload hx hb dX1_run_28 (lv_at hl 5 rfl) ?_
      refine lv_iconst (v := 1) hx hb dX1_run_30 (by decide) ?_
      refine lv_iadd hx hb dX1_run_31 ?_
      refine lv_topi (fun y_8 ey_8 => ?_)
      obtain rfl : y_8 = 2 := ey_8.trans (by decide)
      refine lv_istore (lv' := [(6, .int 2), (5, .int 11), (0, .ref mv), (1, .int 1), (2, .int 1), (3, .int x), (4, .int 1)]) hx hb dX1_run_32 hl (by decide) rfl (fun ls hl => ?_)
      refine lv_iload hx hb dX1_run_34 (lv_at hl 1 rfl) ?_
      refine lv_lookup (off := 99) (tgt := 135) hx hb dX1_run_36 (by decide) (by decide) (by decide) ?_
      refine lv_aload_n hx hb dX1_run_135 rfl (lv_at hl 2 rfl) ?_
      refine lv_aload_n hx hb dX1_run_136 rfl (lv_at hl 2 rfl) ?_
      refine va_get (D := D) (ci := 1) (v := .int 1) (C := RX1) (T := TX1) (N := 5) hx hb hts hi_X1_run_1 hown hK hP 0 rfl rfl 2 (by decide) (hts (.fieldLink RX1 19 "TheLiningsInIt$Moves" "kind" "I") (List.mem_of_getElem? (i := 2) rfl)) (fun _ h9 => h9) rfl dX1_run_137 ?_
      refine lv_iconst (v := 0) hx hb dX1_run_140 (by decide) ?_
      refine lv_iload_n hx hb dX1_run_141 rfl (lv_at hl 5 rfl) ?_
      refine lv_iload hx hb dX1_run_142 (lv_at hl 0 rfl) ?_
      skip
      refine zw_V (As := [.int 1, .int 0, .int x, .int 2]) (rest := []) (wr := []) ⟨hx, hb, hml, hown, hts⟩ (c_M_run_1_1_0_2 l D cI cJ cZ cP cS po mv mb (q_6) (mm) (mq) q_7 (x) (by omega) (by omega) H.size) (cwV 4 hts gX1_run_X1_run rfl rfl rfl ⟨rfl, dh_X1_run⟩ ⟨Nat.le_of_ble_eq_true rfl, Nat.le_of_ble_eq_true rfl⟩) hK hN (hZ.kept hS) hP hD hS hA [0, 1] [] rfl rfl (by decide) (by decide) (by decide) (va_recv (q := (RX1, TX1, 5)) hK hP (ci := 1) (q0 := 0) rfl rfl) rfl hl.1 rfl (Nat.le_of_ble_eq_true rfl) dX1_run_144 ⟨Nat.le_of_ble_eq_true rfl, Nat.le_of_ble_eq_true rfl⟩ (fun r_9 u_10 H locs hr_9 hP hD hS => ?_)
      obtain ⟨q_11, q_12⟩ := u_10
      try dsimp only at hr_9
      obtain ⟨hbq_11, hr_9⟩ := hr_9
      have h9R := zRe (ws' := [(mv, .inr (1, [.ref mb, .int q_11, .int 1, .int mm, .int mq])), (mb, .inl (cI, 20, .inl q_12))]) hP hD rfl
      clear hP hD
      obtain ⟨hP, hD⟩ := h9R
      refine lv_iconst (v := 2) hx hb dX1_run_147 (by decide) ?_
      refine lv_imul hx hb dX1_run_148 ?_
      refine lv_topi (fun x_13 ex_13 => ?_)
      exact W.iret (v := x_13) hx hb hr (fun t ht hW => ⟨⟨x_13, (q_11, q_12), rfl, ⟨(show q_11.toInt = mr.toInt + 3 from by omega), trivial⟩, zRet ht hP hD [0, 1] (by decide) rfl⟩, hS.F ht⟩) hS.2.2 dX1_run_149
    · exact absurd c_3 (by decide)
set_option maxHeartbeats 4000000 in
set_option maxRecDepth 100000 in
theorem c_M_run_1_1_2_0 (l : Launch) (D : va_G) (cI cJ cZ cP cS : ClassId) (po : zPool) (mv mb : Nat) (mr mm mq : Int32) (fb : Nat → Int32) (x : Int32) (hy0 : 0 ≤ mr.toInt) (hy1 : mr.toInt ≤ 1000) (hpz : Nat) : Met l yX1_run wsX1_run ({ frames := 5, cells := 0, slots := 0, locals := 124 }) (va_Pc [.ref mv, .int 1, .int 2, .int x, .int 0] (zW D (zKT cI cJ cZ cP cS) po [(mv, .inr (1, [.ref mb, .int mr, .int 1, .int mm, .int mq])), (mb, .inl (cI, 20, .inl fb))] hpz)) (va_Qi (fun (r : Int32) (u : (Int32) × (Nat → Int32)) => u.1.toInt = mr.toInt + 6 ∧ (True)) (zB D [(mv, .inr (1, [.ref mb, .int mr, .int 1, .int mm, .int mq])), (mb, .inl (cI, 20, .inl fb))] hpz (fun (u : (Int32) × (Nat → Int32)) => [(mv, .inr (1, [.ref mb, .int u.1, .int 1, .int mm, .int mq])), (mb, .inl (cI, 20, .inl u.2))])) (va_A [(mv, .inr (1, [.ref mb, .int mr, .int 1, .int mm, .int mq])), (mb, .inl (cI, 20, .inl fb))] hpz)) 0 0 (va_A [(mv, .inr (1, [.ref mb, .int mr, .int 1, .int mm, .int mq])), (mb, .inl (cI, 20, .inl fb))] hpz) := by
  refine Met.ofW (cc := cX1_run) (maxL := 7) (ret := (some .int)) (by decide) rfl ?_
  intro p e s m args below meth c s₁ B hml hv
  obtain ⟨rfl, hsz, hP, hK, hD0, hN, hZ⟩ := hv
  have hx := B.exec
  have hb := B.bytes
  have hr := B.returns
  have hts := atoms_spec (ws := wsX1_run) B.pre
  have hown : s.vm.findClass RX1 = some m.cls := findClass_of_methodNamed B.named
  have hlocks := B.notSynchronized
  subst hsz
  have hD := hD0.self (sz := s.heap.size)
  have hA := zA_of hD
  have hl := lv_entry ([.ref mv, .int 1, .int 2, .int x, .int 0]) (n := 7) (Nat.le_of_ble_eq_true rfl)
  rw [lg_entry_eq]
  generalize (lg_sl ([.ref mv, .int 1, .int 2, .int x, .int 0]) ++ List.replicate (7 - (lg_sl ([.ref mv, .int 1, .int 2, .int x, .int 0])).length) Slot.unset).toArray = ls at hl ⊢
  replace hl : lv_has ls 7 [(0, .ref mv), (1, .int 1), (2, .int 2), (3, .int x), (4, .int 0)] := hl
  refine zw_begin hP hD (fun H locs hP1 hS => ?_)
  clear hP
  have hP := hP1
  clear hP1
  refine lv_iload_n hx hb dX1_run_0 rfl (lv_at hl 1 rfl) ?_
  refine lv_iload_n hx hb dX1_run_1 rfl (lv_at hl 2 rfl) ?_
  refine zc_S (As := [.int 1, .int 2]) (rest := []) ⟨hx, hb, hml, hown, hts⟩ (c_M_bodyFor_1_2 l D cI cJ cZ cP cS po  ) (va_cwS 2 hts gX1_run_X1_bodyFor rfl rfl rfl dh_X1_bodyFor ⟨Nat.le_of_ble_eq_true rfl, Nat.le_of_ble_eq_true rfl⟩) hK hN (hZ.kept hS) rfl hl.1 rfl (Nat.le_of_ble_eq_true rfl) dX1_run_2 ⟨Nat.le_of_ble_eq_true rfl, Nat.le_of_ble_eq_true rfl⟩ (fun r_1 hr_1 => ?_)
  obtain rfl := hr_1
  refine lv_istore (lv' := [(5, .int 12), (0, .ref mv), (1, .int 1), (2, .int 2), (3, .int x), (4, .int 0)]) hx hb dX1_run_5 hl (by decide) rfl (fun ls hl => ?_)
  refine lv_iload hx hb dX1_run_7 (lv_at hl 0 rfl) ?_
  refine lv_iconst (v := (-1)) hx hb dX1_run_9 (by decide) ?_
  refine lv_icmp_eq (tgt := 20) hx hb dX1_run_10 (by decide) (fun c_2 => ?_) (fun c_2 => ?_)
  · exact absurd c_2 (by decide)
  · refine lv_iload hx hb dX1_run_13 (lv_at hl 5 rfl) ?_
    refine lv_bipush (v := 40) hx hb dX1_run_15 (by decide) ?_
    refine lv_icmp_lt (tgt := 22) hx hb dX1_run_17 (by decide) (fun c_3 => ?_) (fun c_3 => ?_)
    · refine lv_aload_n hx hb dX1_run_22 rfl (lv_at hl 1 rfl) ?_
      refine lv_iload hx hb dX1_run_23 (lv_at hl 0 rfl) ?_
      skip
      refine zw_Vv (As := [.int 12]) (rest := []) (wr := []) ⟨hx, hb, hml, hown, hts⟩ (c_M_note l D cI cJ cZ cP cS po mv mb (mr) (1) (mm) (mq) fb (12) hy0 (by omega) H.size) (cwV 1 hts gX1_run_X1_note rfl rfl rfl ⟨rfl, dh_X1_note⟩ ⟨Nat.le_of_ble_eq_true rfl, Nat.le_of_ble_eq_true rfl⟩) hK hN (hZ.kept hS) hP hD hS hA [0, 1] [] rfl rfl (by decide) (by decide) (by decide) (va_recv (q := (RX1, TX1, 5)) hK hP (ci := 1) (q0 := 0) rfl rfl) rfl hl.1 rfl (Nat.le_of_ble_eq_true rfl) dX1_run_25 ⟨Nat.le_of_ble_eq_true rfl, Nat.le_of_ble_eq_true rfl⟩ (fun u_5 H locs hr_4 hP hD hS => ?_)
      obtain ⟨q_6, q_7⟩ := u_5
      try dsimp only at hr_4
      obtain ⟨hbq_6, hr_4⟩ := hr_4
      have h9R := zRe (ws' := [(mv, .inr (1, [.ref mb, .int q_6, .int 1, .int mm, .int mq])), (mb, .inl (cI, 20, .inl q_7))]) hP hD rfl
      clear hP hD
      obtain ⟨hP, hD⟩ := h9R
      refine lv_iload hx hb dX1_run_28 (lv_at hl 5 rfl) ?_
      refine lv_iconst (v := 1) hx hb dX1_run_30 (by decide) ?_
      refine lv_iadd hx hb dX1_run_31 ?_
      refine lv_topi (fun y_8 ey_8 => ?_)
      obtain rfl : y_8 = 1 := ey_8.trans (by decide)
      refine lv_istore (lv' := [(6, .int 1), (5, .int 12), (0, .ref mv), (1, .int 1), (2, .int 2), (3, .int x), (4, .int 0)]) hx hb dX1_run_32 hl (by decide) rfl (fun ls hl => ?_)
      refine lv_iload hx hb dX1_run_34 (lv_at hl 1 rfl) ?_
      refine lv_lookup (off := 114) (tgt := 150) hx hb dX1_run_36 (by decide) (by decide) (by decide) ?_
      refine lv_aload_n hx hb dX1_run_150 rfl (lv_at hl 2 rfl) ?_
      refine lv_aload_n hx hb dX1_run_151 rfl (lv_at hl 2 rfl) ?_
      refine va_get (D := D) (ci := 1) (v := .int 1) (C := RX1) (T := TX1) (N := 5) hx hb hts hi_X1_run_1 hown hK hP 0 rfl rfl 2 (by decide) (hts (.fieldLink RX1 19 "TheLiningsInIt$Moves" "kind" "I") (List.mem_of_getElem? (i := 2) rfl)) (fun _ h9 => h9) rfl dX1_run_152 ?_
      refine lv_iconst (v := 1) hx hb dX1_run_155 (by decide) ?_
      refine lv_iload_n hx hb dX1_run_156 rfl (lv_at hl 5 rfl) ?_
      refine lv_iload hx hb dX1_run_157 (lv_at hl 0 rfl) ?_
      skip
      refine zw_V (As := [.int 1, .int 1, .int x, .int 1]) (rest := []) (wr := []) ⟨hx, hb, hml, hown, hts⟩ (c_M_run_1_1_1_1 l D cI cJ cZ cP cS po mv mb (q_6) (mm) (mq) q_7 (x) (by omega) (by omega) H.size) (cwV 4 hts gX1_run_X1_run rfl rfl rfl ⟨rfl, dh_X1_run⟩ ⟨Nat.le_of_ble_eq_true rfl, Nat.le_of_ble_eq_true rfl⟩) hK hN (hZ.kept hS) hP hD hS hA [0, 1] [] rfl rfl (by decide) (by decide) (by decide) (va_recv (q := (RX1, TX1, 5)) hK hP (ci := 1) (q0 := 0) rfl rfl) rfl hl.1 rfl (Nat.le_of_ble_eq_true rfl) dX1_run_159 ⟨Nat.le_of_ble_eq_true rfl, Nat.le_of_ble_eq_true rfl⟩ (fun r_9 u_10 H locs hr_9 hP hD hS => ?_)
      obtain ⟨q_11, q_12⟩ := u_10
      try dsimp only at hr_9
      obtain ⟨hbq_11, hr_9⟩ := hr_9
      have h9R := zRe (ws' := [(mv, .inr (1, [.ref mb, .int q_11, .int 1, .int mm, .int mq])), (mb, .inl (cI, 20, .inl q_12))]) hP hD rfl
      clear hP hD
      obtain ⟨hP, hD⟩ := h9R
      refine lv_aload_n hx hb dX1_run_162 rfl (lv_at hl 2 rfl) ?_
      refine lv_aload_n hx hb dX1_run_163 rfl (lv_at hl 2 rfl) ?_
      refine va_get (D := D) (ci := 1) (v := .int 1) (C := RX1) (T := TX1) (N := 5) hx hb hts hi_X1_run_1 hown hK hP 0 rfl rfl 2 (by decide) (hts (.fieldLink RX1 19 "TheLiningsInIt$Moves" "kind" "I") (List.mem_of_getElem? (i := 2) rfl)) (fun _ h9 => h9) rfl dX1_run_164 ?_
      refine lv_iconst (v := 0) hx hb dX1_run_167 (by decide) ?_
      refine lv_iload_n hx hb dX1_run_168 rfl (lv_at hl 5 rfl) ?_
      refine lv_aload_n hx hb dX1_run_169 rfl (lv_at hl 2 rfl) ?_
      refine va_get (D := D) (ci := 1) (v := .int mq) (C := RX1) (T := TX1) (N := 5) hx hb hts hi_X1_run_1 hown hK hP 0 rfl rfl 4 (by decide) (hts (.fieldLink RX1 25 "TheLiningsInIt$Moves" "k" "I") (List.mem_of_getElem? (i := 3) rfl)) (fun _ h9 => h9) rfl dX1_run_170 ?_
      refine lv_isub hx hb dX1_run_173 ?_
      refine lv_topi (fun x_13 ex_13 => ?_)
      refine lv_iload hx hb dX1_run_174 (lv_at hl 0 rfl) ?_
      skip
      refine zw_V (As := [.int 1, .int 0, .int x_13, .int 1]) (rest := [.int r_9]) (wr := []) ⟨hx, hb, hml, hown, hts⟩ (c_M_run_1_1_0_1 l D cI cJ cZ cP cS po mv mb (q_11) (mm) (mq) q_12 (x_13) (by omega) (by omega) H.size) (cwV 4 hts gX1_run_X1_run rfl rfl rfl ⟨rfl, dh_X1_run⟩ ⟨Nat.le_of_ble_eq_true rfl, Nat.le_of_ble_eq_true rfl⟩) hK hN (hZ.kept hS) hP hD hS hA [0, 1] [] rfl rfl (by decide) (by decide) (by decide) (va_recv (q := (RX1, TX1, 5)) hK hP (ci := 1) (q0 := 0) rfl rfl) rfl hl.1 rfl (Nat.le_of_ble_eq_true rfl) dX1_run_176 ⟨Nat.le_of_ble_eq_true rfl, Nat.le_of_ble_eq_true rfl⟩ (fun r_14 u_15 H locs hr_14 hP hD hS => ?_)
      obtain ⟨q_16, q_17⟩ := u_15
      try dsimp only at hr_14
      obtain ⟨hbq_16, hr_14⟩ := hr_14
      have h9R := zRe (ws' := [(mv, .inr (1, [.ref mb, .int q_16, .int 1, .int mm, .int mq])), (mb, .inl (cI, 20, .inl q_17))]) hP hD rfl
      clear hP hD
      obtain ⟨hP, hD⟩ := h9R
      refine lv_ixor hx hb dX1_run_179 ?_
      refine lv_topi (fun x_18 ex_18 => ?_)
      exact W.iret (v := x_18) hx hb hr (fun t ht hW => ⟨⟨x_18, (q_16, q_17), rfl, ⟨(show q_16.toInt = mr.toInt + 6 from by omega), trivial⟩, zRet ht hP hD [0, 1] (by decide) rfl⟩, hS.F ht⟩) hS.2.2 dX1_run_180
    · exact absurd c_3 (by decide)
set_option maxHeartbeats 4000000 in
set_option maxRecDepth 100000 in
theorem c_M_run_2_2_0_0 (l : Launch) (D : va_G) (cI cJ cZ cP cS : ClassId) (po : zPool) (mv mb : Nat) (mr mm mq : Int32) (fb : Nat → Int32) (x : Int32) (hy0 : 0 ≤ mr.toInt) (hy1 : mr.toInt ≤ 1000) (hpz : Nat) : Met l yX1_run wsX1_run ({ frames := 2, cells := 0, slots := 0, locals := 46 }) (va_Pc [.ref mv, .int 2, .int 0, .int x, .int 0] (zW D (zKT cI cJ cZ cP cS) po [(mv, .inr (1, [.ref mb, .int mr, .int 2, .int mm, .int mq])), (mb, .inl (cI, 20, .inl fb))] hpz)) (va_Qi (fun (r : Int32) (u : (Int32) × (Nat → Int32)) => u.1.toInt = mr.toInt + 1 ∧ (True)) (zB D [(mv, .inr (1, [.ref mb, .int mr, .int 2, .int mm, .int mq])), (mb, .inl (cI, 20, .inl fb))] hpz (fun (u : (Int32) × (Nat → Int32)) => [(mv, .inr (1, [.ref mb, .int u.1, .int 2, .int mm, .int mq])), (mb, .inl (cI, 20, .inl u.2))])) (va_A [(mv, .inr (1, [.ref mb, .int mr, .int 2, .int mm, .int mq])), (mb, .inl (cI, 20, .inl fb))] hpz)) 0 0 (va_A [(mv, .inr (1, [.ref mb, .int mr, .int 2, .int mm, .int mq])), (mb, .inl (cI, 20, .inl fb))] hpz) := by
  refine Met.ofW (cc := cX1_run) (maxL := 7) (ret := (some .int)) (by decide) rfl ?_
  intro p e s m args below meth c s₁ B hml hv
  obtain ⟨rfl, hsz, hP, hK, hD0, hN, hZ⟩ := hv
  have hx := B.exec
  have hb := B.bytes
  have hr := B.returns
  have hts := atoms_spec (ws := wsX1_run) B.pre
  have hown : s.vm.findClass RX1 = some m.cls := findClass_of_methodNamed B.named
  have hlocks := B.notSynchronized
  subst hsz
  have hD := hD0.self (sz := s.heap.size)
  have hA := zA_of hD
  have hl := lv_entry ([.ref mv, .int 2, .int 0, .int x, .int 0]) (n := 7) (Nat.le_of_ble_eq_true rfl)
  rw [lg_entry_eq]
  generalize (lg_sl ([.ref mv, .int 2, .int 0, .int x, .int 0]) ++ List.replicate (7 - (lg_sl ([.ref mv, .int 2, .int 0, .int x, .int 0])).length) Slot.unset).toArray = ls at hl ⊢
  replace hl : lv_has ls 7 [(0, .ref mv), (1, .int 2), (2, .int 0), (3, .int x), (4, .int 0)] := hl
  refine zw_begin hP hD (fun H locs hP1 hS => ?_)
  clear hP
  have hP := hP1
  clear hP1
  refine lv_iload_n hx hb dX1_run_0 rfl (lv_at hl 1 rfl) ?_
  refine lv_iload_n hx hb dX1_run_1 rfl (lv_at hl 2 rfl) ?_
  refine zc_S (As := [.int 2, .int 0]) (rest := []) ⟨hx, hb, hml, hown, hts⟩ (c_M_bodyFor_2_0 l D cI cJ cZ cP cS po  ) (va_cwS 2 hts gX1_run_X1_bodyFor rfl rfl rfl dh_X1_bodyFor ⟨Nat.le_of_ble_eq_true rfl, Nat.le_of_ble_eq_true rfl⟩) hK hN (hZ.kept hS) rfl hl.1 rfl (Nat.le_of_ble_eq_true rfl) dX1_run_2 ⟨Nat.le_of_ble_eq_true rfl, Nat.le_of_ble_eq_true rfl⟩ (fun r_1 hr_1 => ?_)
  obtain rfl := hr_1
  refine lv_istore (lv' := [(5, .int 10), (0, .ref mv), (1, .int 2), (2, .int 0), (3, .int x), (4, .int 0)]) hx hb dX1_run_5 hl (by decide) rfl (fun ls hl => ?_)
  refine lv_iload hx hb dX1_run_7 (lv_at hl 0 rfl) ?_
  refine lv_iconst (v := (-1)) hx hb dX1_run_9 (by decide) ?_
  refine lv_icmp_eq (tgt := 20) hx hb dX1_run_10 (by decide) (fun c_2 => ?_) (fun c_2 => ?_)
  · exact absurd c_2 (by decide)
  · refine lv_iload hx hb dX1_run_13 (lv_at hl 5 rfl) ?_
    refine lv_bipush (v := 40) hx hb dX1_run_15 (by decide) ?_
    refine lv_icmp_lt (tgt := 22) hx hb dX1_run_17 (by decide) (fun c_3 => ?_) (fun c_3 => ?_)
    · refine lv_aload_n hx hb dX1_run_22 rfl (lv_at hl 1 rfl) ?_
      refine lv_iload hx hb dX1_run_23 (lv_at hl 0 rfl) ?_
      skip
      refine zw_Vv (As := [.int 10]) (rest := []) (wr := []) ⟨hx, hb, hml, hown, hts⟩ (c_M_note l D cI cJ cZ cP cS po mv mb (mr) (2) (mm) (mq) fb (10) hy0 (by omega) H.size) (cwV 1 hts gX1_run_X1_note rfl rfl rfl ⟨rfl, dh_X1_note⟩ ⟨Nat.le_of_ble_eq_true rfl, Nat.le_of_ble_eq_true rfl⟩) hK hN (hZ.kept hS) hP hD hS hA [0, 1] [] rfl rfl (by decide) (by decide) (by decide) (va_recv (q := (RX1, TX1, 5)) hK hP (ci := 1) (q0 := 0) rfl rfl) rfl hl.1 rfl (Nat.le_of_ble_eq_true rfl) dX1_run_25 ⟨Nat.le_of_ble_eq_true rfl, Nat.le_of_ble_eq_true rfl⟩ (fun u_5 H locs hr_4 hP hD hS => ?_)
      obtain ⟨q_6, q_7⟩ := u_5
      try dsimp only at hr_4
      obtain ⟨hbq_6, hr_4⟩ := hr_4
      have h9R := zRe (ws' := [(mv, .inr (1, [.ref mb, .int q_6, .int 2, .int mm, .int mq])), (mb, .inl (cI, 20, .inl q_7))]) hP hD rfl
      clear hP hD
      obtain ⟨hP, hD⟩ := h9R
      refine lv_iload hx hb dX1_run_28 (lv_at hl 5 rfl) ?_
      refine lv_iconst (v := 1) hx hb dX1_run_30 (by decide) ?_
      refine lv_iadd hx hb dX1_run_31 ?_
      refine lv_topi (fun y_8 ey_8 => ?_)
      obtain rfl : y_8 = 1 := ey_8.trans (by decide)
      refine lv_istore (lv' := [(6, .int 1), (5, .int 10), (0, .ref mv), (1, .int 2), (2, .int 0), (3, .int x), (4, .int 0)]) hx hb dX1_run_32 hl (by decide) rfl (fun ls hl => ?_)
      refine lv_iload hx hb dX1_run_34 (lv_at hl 1 rfl) ?_
      refine lv_lookup (off := 92) (tgt := 128) hx hb dX1_run_36 (by decide) (by decide) (by decide) ?_
      refine lv_iload_n hx hb dX1_run_128 rfl (lv_at hl 5 rfl) ?_
      refine lv_aload_n hx hb dX1_run_129 rfl (lv_at hl 2 rfl) ?_
      refine va_get (D := D) (ci := 1) (v := .int mm) (C := RX1) (T := TX1) (N := 5) hx hb hts hi_X1_run_1 hown hK hP 0 rfl rfl 3 (by decide) (hts (.fieldLink RX1 22 "TheLiningsInIt$Moves" "m" "I") (List.mem_of_getElem? (i := 1) rfl)) (fun _ h9 => h9) rfl dX1_run_130 ?_
      refine lv_iadd hx hb dX1_run_133 ?_
      refine lv_topi (fun x_9 ex_9 => ?_)
      exact W.iret (v := x_9) hx hb hr (fun t ht hW => ⟨⟨x_9, (q_6, q_7), rfl, ⟨(show q_6.toInt = mr.toInt + 1 from by omega), trivial⟩, zRet ht hP hD [0, 1] (by decide) rfl⟩, hS.F ht⟩) hS.2.2 dX1_run_134
    · exact absurd c_3 (by decide)
set_option maxHeartbeats 4000000 in
set_option maxRecDepth 100000 in
theorem c_M_run_2_2_0_2 (l : Launch) (D : va_G) (cI cJ cZ cP cS : ClassId) (po : zPool) (mv mb : Nat) (mr mm mq : Int32) (fb : Nat → Int32) (x : Int32) (hy0 : 0 ≤ mr.toInt) (hy1 : mr.toInt ≤ 1200) (hpz : Nat) : Met l yX1_run wsX1_run ({ frames := 2, cells := 0, slots := 0, locals := 46 }) (va_Pc [.ref mv, .int 2, .int 0, .int x, .int 2] (zW D (zKT cI cJ cZ cP cS) po [(mv, .inr (1, [.ref mb, .int mr, .int 2, .int mm, .int mq])), (mb, .inl (cI, 20, .inl fb))] hpz)) (va_Qi (fun (r : Int32) (u : (Int32) × (Nat → Int32)) => u.1.toInt = mr.toInt + 1 ∧ (True)) (zB D [(mv, .inr (1, [.ref mb, .int mr, .int 2, .int mm, .int mq])), (mb, .inl (cI, 20, .inl fb))] hpz (fun (u : (Int32) × (Nat → Int32)) => [(mv, .inr (1, [.ref mb, .int u.1, .int 2, .int mm, .int mq])), (mb, .inl (cI, 20, .inl u.2))])) (va_A [(mv, .inr (1, [.ref mb, .int mr, .int 2, .int mm, .int mq])), (mb, .inl (cI, 20, .inl fb))] hpz)) 0 0 (va_A [(mv, .inr (1, [.ref mb, .int mr, .int 2, .int mm, .int mq])), (mb, .inl (cI, 20, .inl fb))] hpz) := by
  refine Met.ofW (cc := cX1_run) (maxL := 7) (ret := (some .int)) (by decide) rfl ?_
  intro p e s m args below meth c s₁ B hml hv
  obtain ⟨rfl, hsz, hP, hK, hD0, hN, hZ⟩ := hv
  have hx := B.exec
  have hb := B.bytes
  have hr := B.returns
  have hts := atoms_spec (ws := wsX1_run) B.pre
  have hown : s.vm.findClass RX1 = some m.cls := findClass_of_methodNamed B.named
  have hlocks := B.notSynchronized
  subst hsz
  have hD := hD0.self (sz := s.heap.size)
  have hA := zA_of hD
  have hl := lv_entry ([.ref mv, .int 2, .int 0, .int x, .int 2]) (n := 7) (Nat.le_of_ble_eq_true rfl)
  rw [lg_entry_eq]
  generalize (lg_sl ([.ref mv, .int 2, .int 0, .int x, .int 2]) ++ List.replicate (7 - (lg_sl ([.ref mv, .int 2, .int 0, .int x, .int 2])).length) Slot.unset).toArray = ls at hl ⊢
  replace hl : lv_has ls 7 [(0, .ref mv), (1, .int 2), (2, .int 0), (3, .int x), (4, .int 2)] := hl
  refine zw_begin hP hD (fun H locs hP1 hS => ?_)
  clear hP
  have hP := hP1
  clear hP1
  refine lv_iload_n hx hb dX1_run_0 rfl (lv_at hl 1 rfl) ?_
  refine lv_iload_n hx hb dX1_run_1 rfl (lv_at hl 2 rfl) ?_
  refine zc_S (As := [.int 2, .int 0]) (rest := []) ⟨hx, hb, hml, hown, hts⟩ (c_M_bodyFor_2_0 l D cI cJ cZ cP cS po  ) (va_cwS 2 hts gX1_run_X1_bodyFor rfl rfl rfl dh_X1_bodyFor ⟨Nat.le_of_ble_eq_true rfl, Nat.le_of_ble_eq_true rfl⟩) hK hN (hZ.kept hS) rfl hl.1 rfl (Nat.le_of_ble_eq_true rfl) dX1_run_2 ⟨Nat.le_of_ble_eq_true rfl, Nat.le_of_ble_eq_true rfl⟩ (fun r_1 hr_1 => ?_)
  obtain rfl := hr_1
  refine lv_istore (lv' := [(5, .int 10), (0, .ref mv), (1, .int 2), (2, .int 0), (3, .int x), (4, .int 2)]) hx hb dX1_run_5 hl (by decide) rfl (fun ls hl => ?_)
  refine lv_iload hx hb dX1_run_7 (lv_at hl 0 rfl) ?_
  refine lv_iconst (v := (-1)) hx hb dX1_run_9 (by decide) ?_
  refine lv_icmp_eq (tgt := 20) hx hb dX1_run_10 (by decide) (fun c_2 => ?_) (fun c_2 => ?_)
  · exact absurd c_2 (by decide)
  · refine lv_iload hx hb dX1_run_13 (lv_at hl 5 rfl) ?_
    refine lv_bipush (v := 40) hx hb dX1_run_15 (by decide) ?_
    refine lv_icmp_lt (tgt := 22) hx hb dX1_run_17 (by decide) (fun c_3 => ?_) (fun c_3 => ?_)
    · refine lv_aload_n hx hb dX1_run_22 rfl (lv_at hl 1 rfl) ?_
      refine lv_iload hx hb dX1_run_23 (lv_at hl 0 rfl) ?_
      skip
      refine zw_Vv (As := [.int 10]) (rest := []) (wr := []) ⟨hx, hb, hml, hown, hts⟩ (c_M_note l D cI cJ cZ cP cS po mv mb (mr) (2) (mm) (mq) fb (10) hy0 (by omega) H.size) (cwV 1 hts gX1_run_X1_note rfl rfl rfl ⟨rfl, dh_X1_note⟩ ⟨Nat.le_of_ble_eq_true rfl, Nat.le_of_ble_eq_true rfl⟩) hK hN (hZ.kept hS) hP hD hS hA [0, 1] [] rfl rfl (by decide) (by decide) (by decide) (va_recv (q := (RX1, TX1, 5)) hK hP (ci := 1) (q0 := 0) rfl rfl) rfl hl.1 rfl (Nat.le_of_ble_eq_true rfl) dX1_run_25 ⟨Nat.le_of_ble_eq_true rfl, Nat.le_of_ble_eq_true rfl⟩ (fun u_5 H locs hr_4 hP hD hS => ?_)
      obtain ⟨q_6, q_7⟩ := u_5
      try dsimp only at hr_4
      obtain ⟨hbq_6, hr_4⟩ := hr_4
      have h9R := zRe (ws' := [(mv, .inr (1, [.ref mb, .int q_6, .int 2, .int mm, .int mq])), (mb, .inl (cI, 20, .inl q_7))]) hP hD rfl
      clear hP hD
      obtain ⟨hP, hD⟩ := h9R
      refine lv_iload hx hb dX1_run_28 (lv_at hl 5 rfl) ?_
      refine lv_iconst (v := 1) hx hb dX1_run_30 (by decide) ?_
      refine lv_iadd hx hb dX1_run_31 ?_
      refine lv_topi (fun y_8 ey_8 => ?_)
      obtain rfl : y_8 = 3 := ey_8.trans (by decide)
      refine lv_istore (lv' := [(6, .int 3), (5, .int 10), (0, .ref mv), (1, .int 2), (2, .int 0), (3, .int x), (4, .int 2)]) hx hb dX1_run_32 hl (by decide) rfl (fun ls hl => ?_)
      refine lv_iload hx hb dX1_run_34 (lv_at hl 1 rfl) ?_
      refine lv_lookup (off := 92) (tgt := 128) hx hb dX1_run_36 (by decide) (by decide) (by decide) ?_
      refine lv_iload_n hx hb dX1_run_128 rfl (lv_at hl 5 rfl) ?_
      refine lv_aload_n hx hb dX1_run_129 rfl (lv_at hl 2 rfl) ?_
      refine va_get (D := D) (ci := 1) (v := .int mm) (C := RX1) (T := TX1) (N := 5) hx hb hts hi_X1_run_1 hown hK hP 0 rfl rfl 3 (by decide) (hts (.fieldLink RX1 22 "TheLiningsInIt$Moves" "m" "I") (List.mem_of_getElem? (i := 1) rfl)) (fun _ h9 => h9) rfl dX1_run_130 ?_
      refine lv_iadd hx hb dX1_run_133 ?_
      refine lv_topi (fun x_9 ex_9 => ?_)
      exact W.iret (v := x_9) hx hb hr (fun t ht hW => ⟨⟨x_9, (q_6, q_7), rfl, ⟨(show q_6.toInt = mr.toInt + 1 from by omega), trivial⟩, zRet ht hP hD [0, 1] (by decide) rfl⟩, hS.F ht⟩) hS.2.2 dX1_run_134
    · exact absurd c_3 (by decide)
set_option maxHeartbeats 4000000 in
set_option maxRecDepth 100000 in
theorem c_M_run_2_0_1_1 (l : Launch) (D : va_G) (cI cJ cZ cP cS : ClassId) (po : zPool) (mv mb : Nat) (mr mm mq : Int32) (fb : Nat → Int32) (x : Int32) (hy0 : 0 ≤ mr.toInt) (hy1 : mr.toInt ≤ 1100) (hpz : Nat) : Met l yX1_run wsX1_run ({ frames := 3, cells := 0, slots := 0, locals := 72 }) (va_Pc [.ref mv, .int 0, .int 1, .int x, .int 1] (zW D (zKT cI cJ cZ cP cS) po [(mv, .inr (1, [.ref mb, .int mr, .int 2, .int mm, .int mq])), (mb, .inl (cI, 20, .inl fb))] hpz)) (va_Qi (fun (r : Int32) (u : (Int32) × (Nat → Int32)) => u.1.toInt = mr.toInt + 2 ∧ (True)) (zB D [(mv, .inr (1, [.ref mb, .int mr, .int 2, .int mm, .int mq])), (mb, .inl (cI, 20, .inl fb))] hpz (fun (u : (Int32) × (Nat → Int32)) => [(mv, .inr (1, [.ref mb, .int u.1, .int 2, .int mm, .int mq])), (mb, .inl (cI, 20, .inl u.2))])) (va_A [(mv, .inr (1, [.ref mb, .int mr, .int 2, .int mm, .int mq])), (mb, .inl (cI, 20, .inl fb))] hpz)) 0 0 (va_A [(mv, .inr (1, [.ref mb, .int mr, .int 2, .int mm, .int mq])), (mb, .inl (cI, 20, .inl fb))] hpz) := by
  refine Met.ofW (cc := cX1_run) (maxL := 7) (ret := (some .int)) (by decide) rfl ?_
  intro p e s m args below meth c s₁ B hml hv
  obtain ⟨rfl, hsz, hP, hK, hD0, hN, hZ⟩ := hv
  have hx := B.exec
  have hb := B.bytes
  have hr := B.returns
  have hts := atoms_spec (ws := wsX1_run) B.pre
  have hown : s.vm.findClass RX1 = some m.cls := findClass_of_methodNamed B.named
  have hlocks := B.notSynchronized
  subst hsz
  have hD := hD0.self (sz := s.heap.size)
  have hA := zA_of hD
  have hl := lv_entry ([.ref mv, .int 0, .int 1, .int x, .int 1]) (n := 7) (Nat.le_of_ble_eq_true rfl)
  rw [lg_entry_eq]
  generalize (lg_sl ([.ref mv, .int 0, .int 1, .int x, .int 1]) ++ List.replicate (7 - (lg_sl ([.ref mv, .int 0, .int 1, .int x, .int 1])).length) Slot.unset).toArray = ls at hl ⊢
  replace hl : lv_has ls 7 [(0, .ref mv), (1, .int 0), (2, .int 1), (3, .int x), (4, .int 1)] := hl
  refine zw_begin hP hD (fun H locs hP1 hS => ?_)
  clear hP
  have hP := hP1
  clear hP1
  refine lv_iload_n hx hb dX1_run_0 rfl (lv_at hl 1 rfl) ?_
  refine lv_iload_n hx hb dX1_run_1 rfl (lv_at hl 2 rfl) ?_
  refine zc_S (As := [.int 0, .int 1]) (rest := []) ⟨hx, hb, hml, hown, hts⟩ (c_M_bodyFor_0_1 l D cI cJ cZ cP cS po  ) (va_cwS 2 hts gX1_run_X1_bodyFor rfl rfl rfl dh_X1_bodyFor ⟨Nat.le_of_ble_eq_true rfl, Nat.le_of_ble_eq_true rfl⟩) hK hN (hZ.kept hS) rfl hl.1 rfl (Nat.le_of_ble_eq_true rfl) dX1_run_2 ⟨Nat.le_of_ble_eq_true rfl, Nat.le_of_ble_eq_true rfl⟩ (fun r_1 hr_1 => ?_)
  obtain rfl := hr_1
  refine lv_istore (lv' := [(5, .int 11), (0, .ref mv), (1, .int 0), (2, .int 1), (3, .int x), (4, .int 1)]) hx hb dX1_run_5 hl (by decide) rfl (fun ls hl => ?_)
  refine lv_iload hx hb dX1_run_7 (lv_at hl 0 rfl) ?_
  refine lv_iconst (v := (-1)) hx hb dX1_run_9 (by decide) ?_
  refine lv_icmp_eq (tgt := 20) hx hb dX1_run_10 (by decide) (fun c_2 => ?_) (fun c_2 => ?_)
  · exact absurd c_2 (by decide)
  · refine lv_iload hx hb dX1_run_13 (lv_at hl 5 rfl) ?_
    refine lv_bipush (v := 40) hx hb dX1_run_15 (by decide) ?_
    refine lv_icmp_lt (tgt := 22) hx hb dX1_run_17 (by decide) (fun c_3 => ?_) (fun c_3 => ?_)
    · refine lv_aload_n hx hb dX1_run_22 rfl (lv_at hl 1 rfl) ?_
      refine lv_iload hx hb dX1_run_23 (lv_at hl 0 rfl) ?_
      skip
      refine zw_Vv (As := [.int 11]) (rest := []) (wr := []) ⟨hx, hb, hml, hown, hts⟩ (c_M_note l D cI cJ cZ cP cS po mv mb (mr) (2) (mm) (mq) fb (11) hy0 (by omega) H.size) (cwV 1 hts gX1_run_X1_note rfl rfl rfl ⟨rfl, dh_X1_note⟩ ⟨Nat.le_of_ble_eq_true rfl, Nat.le_of_ble_eq_true rfl⟩) hK hN (hZ.kept hS) hP hD hS hA [0, 1] [] rfl rfl (by decide) (by decide) (by decide) (va_recv (q := (RX1, TX1, 5)) hK hP (ci := 1) (q0 := 0) rfl rfl) rfl hl.1 rfl (Nat.le_of_ble_eq_true rfl) dX1_run_25 ⟨Nat.le_of_ble_eq_true rfl, Nat.le_of_ble_eq_true rfl⟩ (fun u_5 H locs hr_4 hP hD hS => ?_)
      obtain ⟨q_6, q_7⟩ := u_5
      try dsimp only at hr_4
      obtain ⟨hbq_6, hr_4⟩ := hr_4
      have h9R := zRe (ws' := [(mv, .inr (1, [.ref mb, .int q_6, .int 2, .int mm, .int mq])), (mb, .inl (cI, 20, .inl q_7))]) hP hD rfl
      clear hP hD
      obtain ⟨hP, hD⟩ := h9R
      refine lv_iload hx hb dX1_run_28 (lv_at hl 5 rfl) ?_
      refine lv_iconst (v := 1) hx hb dX1_run_30 (by decide) ?_
      refine lv_iadd hx hb dX1_run_31 ?_
      refine lv_topi (fun y_8 ey_8 => ?_)
      obtain rfl : y_8 = 2 := ey_8.trans (by decide)
      refine lv_istore (lv' := [(6, .int 2), (5, .int 11), (0, .ref mv), (1, .int 0), (2, .int 1), (3, .int x), (4, .int 1)]) hx hb dX1_run_32 hl (by decide) rfl (fun ls hl => ?_)
      refine lv_iload hx hb dX1_run_34 (lv_at hl 1 rfl) ?_
      refine lv_lookup (off := 99) (tgt := 135) hx hb dX1_run_36 (by decide) (by decide) (by decide) ?_
      refine lv_aload_n hx hb dX1_run_135 rfl (lv_at hl 2 rfl) ?_
      refine lv_aload_n hx hb dX1_run_136 rfl (lv_at hl 2 rfl) ?_
      refine va_get (D := D) (ci := 1) (v := .int 2) (C := RX1) (T := TX1) (N := 5) hx hb hts hi_X1_run_1 hown hK hP 0 rfl rfl 2 (by decide) (hts (.fieldLink RX1 19 "TheLiningsInIt$Moves" "kind" "I") (List.mem_of_getElem? (i := 2) rfl)) (fun _ h9 => h9) rfl dX1_run_137 ?_
      refine lv_iconst (v := 0) hx hb dX1_run_140 (by decide) ?_
      refine lv_iload_n hx hb dX1_run_141 rfl (lv_at hl 5 rfl) ?_
      refine lv_iload hx hb dX1_run_142 (lv_at hl 0 rfl) ?_
      skip
      refine zw_V (As := [.int 2, .int 0, .int x, .int 2]) (rest := []) (wr := []) ⟨hx, hb, hml, hown, hts⟩ (c_M_run_2_2_0_2 l D cI cJ cZ cP cS po mv mb (q_6) (mm) (mq) q_7 (x) (by omega) (by omega) H.size) (cwV 4 hts gX1_run_X1_run rfl rfl rfl ⟨rfl, dh_X1_run⟩ ⟨Nat.le_of_ble_eq_true rfl, Nat.le_of_ble_eq_true rfl⟩) hK hN (hZ.kept hS) hP hD hS hA [0, 1] [] rfl rfl (by decide) (by decide) (by decide) (va_recv (q := (RX1, TX1, 5)) hK hP (ci := 1) (q0 := 0) rfl rfl) rfl hl.1 rfl (Nat.le_of_ble_eq_true rfl) dX1_run_144 ⟨Nat.le_of_ble_eq_true rfl, Nat.le_of_ble_eq_true rfl⟩ (fun r_9 u_10 H locs hr_9 hP hD hS => ?_)
      obtain ⟨q_11, q_12⟩ := u_10
      try dsimp only at hr_9
      obtain ⟨hbq_11, hr_9⟩ := hr_9
      have h9R := zRe (ws' := [(mv, .inr (1, [.ref mb, .int q_11, .int 2, .int mm, .int mq])), (mb, .inl (cI, 20, .inl q_12))]) hP hD rfl
      clear hP hD
      obtain ⟨hP, hD⟩ := h9R
      refine lv_iconst (v := 2) hx hb dX1_run_147 (by decide) ?_
      refine lv_imul hx hb dX1_run_148 ?_
      refine lv_topi (fun x_13 ex_13 => ?_)
      exact W.iret (v := x_13) hx hb hr (fun t ht hW => ⟨⟨x_13, (q_11, q_12), rfl, ⟨(show q_11.toInt = mr.toInt + 2 from by omega), trivial⟩, zRet ht hP hD [0, 1] (by decide) rfl⟩, hS.F ht⟩) hS.2.2 dX1_run_149
    · exact absurd c_3 (by decide)
set_option maxHeartbeats 4000000 in
set_option maxRecDepth 100000 in
theorem c_M_run_2_2_1_0 (l : Launch) (D : va_G) (cI cJ cZ cP cS : ClassId) (po : zPool) (mv mb : Nat) (mr mm mq : Int32) (fb : Nat → Int32) (x : Int32) (hy0 : 0 ≤ mr.toInt) (hy1 : mr.toInt ≤ 1000) (hpz : Nat) : Met l yX1_run wsX1_run ({ frames := 4, cells := 0, slots := 0, locals := 98 }) (va_Pc [.ref mv, .int 2, .int 1, .int x, .int 0] (zW D (zKT cI cJ cZ cP cS) po [(mv, .inr (1, [.ref mb, .int mr, .int 2, .int mm, .int mq])), (mb, .inl (cI, 20, .inl fb))] hpz)) (va_Qi (fun (r : Int32) (u : (Int32) × (Nat → Int32)) => u.1.toInt = mr.toInt + 3 ∧ (True)) (zB D [(mv, .inr (1, [.ref mb, .int mr, .int 2, .int mm, .int mq])), (mb, .inl (cI, 20, .inl fb))] hpz (fun (u : (Int32) × (Nat → Int32)) => [(mv, .inr (1, [.ref mb, .int u.1, .int 2, .int mm, .int mq])), (mb, .inl (cI, 20, .inl u.2))])) (va_A [(mv, .inr (1, [.ref mb, .int mr, .int 2, .int mm, .int mq])), (mb, .inl (cI, 20, .inl fb))] hpz)) 0 0 (va_A [(mv, .inr (1, [.ref mb, .int mr, .int 2, .int mm, .int mq])), (mb, .inl (cI, 20, .inl fb))] hpz) := by
  refine Met.ofW (cc := cX1_run) (maxL := 7) (ret := (some .int)) (by decide) rfl ?_
  intro p e s m args below meth c s₁ B hml hv
  obtain ⟨rfl, hsz, hP, hK, hD0, hN, hZ⟩ := hv
  have hx := B.exec
  have hb := B.bytes
  have hr := B.returns
  have hts := atoms_spec (ws := wsX1_run) B.pre
  have hown : s.vm.findClass RX1 = some m.cls := findClass_of_methodNamed B.named
  have hlocks := B.notSynchronized
  subst hsz
  have hD := hD0.self (sz := s.heap.size)
  have hA := zA_of hD
  have hl := lv_entry ([.ref mv, .int 2, .int 1, .int x, .int 0]) (n := 7) (Nat.le_of_ble_eq_true rfl)
  rw [lg_entry_eq]
  generalize (lg_sl ([.ref mv, .int 2, .int 1, .int x, .int 0]) ++ List.replicate (7 - (lg_sl ([.ref mv, .int 2, .int 1, .int x, .int 0])).length) Slot.unset).toArray = ls at hl ⊢
  replace hl : lv_has ls 7 [(0, .ref mv), (1, .int 2), (2, .int 1), (3, .int x), (4, .int 0)] := hl
  refine zw_begin hP hD (fun H locs hP1 hS => ?_)
  clear hP
  have hP := hP1
  clear hP1
  refine lv_iload_n hx hb dX1_run_0 rfl (lv_at hl 1 rfl) ?_
  refine lv_iload_n hx hb dX1_run_1 rfl (lv_at hl 2 rfl) ?_
  refine zc_S (As := [.int 2, .int 1]) (rest := []) ⟨hx, hb, hml, hown, hts⟩ (c_M_bodyFor_2_1 l D cI cJ cZ cP cS po  ) (va_cwS 2 hts gX1_run_X1_bodyFor rfl rfl rfl dh_X1_bodyFor ⟨Nat.le_of_ble_eq_true rfl, Nat.le_of_ble_eq_true rfl⟩) hK hN (hZ.kept hS) rfl hl.1 rfl (Nat.le_of_ble_eq_true rfl) dX1_run_2 ⟨Nat.le_of_ble_eq_true rfl, Nat.le_of_ble_eq_true rfl⟩ (fun r_1 hr_1 => ?_)
  obtain rfl := hr_1
  refine lv_istore (lv' := [(5, .int 30), (0, .ref mv), (1, .int 2), (2, .int 1), (3, .int x), (4, .int 0)]) hx hb dX1_run_5 hl (by decide) rfl (fun ls hl => ?_)
  refine lv_iload hx hb dX1_run_7 (lv_at hl 0 rfl) ?_
  refine lv_iconst (v := (-1)) hx hb dX1_run_9 (by decide) ?_
  refine lv_icmp_eq (tgt := 20) hx hb dX1_run_10 (by decide) (fun c_2 => ?_) (fun c_2 => ?_)
  · exact absurd c_2 (by decide)
  · refine lv_iload hx hb dX1_run_13 (lv_at hl 5 rfl) ?_
    refine lv_bipush (v := 40) hx hb dX1_run_15 (by decide) ?_
    refine lv_icmp_lt (tgt := 22) hx hb dX1_run_17 (by decide) (fun c_3 => ?_) (fun c_3 => ?_)
    · refine lv_aload_n hx hb dX1_run_22 rfl (lv_at hl 1 rfl) ?_
      refine lv_iload hx hb dX1_run_23 (lv_at hl 0 rfl) ?_
      skip
      refine zw_Vv (As := [.int 30]) (rest := []) (wr := []) ⟨hx, hb, hml, hown, hts⟩ (c_M_note l D cI cJ cZ cP cS po mv mb (mr) (2) (mm) (mq) fb (30) hy0 (by omega) H.size) (cwV 1 hts gX1_run_X1_note rfl rfl rfl ⟨rfl, dh_X1_note⟩ ⟨Nat.le_of_ble_eq_true rfl, Nat.le_of_ble_eq_true rfl⟩) hK hN (hZ.kept hS) hP hD hS hA [0, 1] [] rfl rfl (by decide) (by decide) (by decide) (va_recv (q := (RX1, TX1, 5)) hK hP (ci := 1) (q0 := 0) rfl rfl) rfl hl.1 rfl (Nat.le_of_ble_eq_true rfl) dX1_run_25 ⟨Nat.le_of_ble_eq_true rfl, Nat.le_of_ble_eq_true rfl⟩ (fun u_5 H locs hr_4 hP hD hS => ?_)
      obtain ⟨q_6, q_7⟩ := u_5
      try dsimp only at hr_4
      obtain ⟨hbq_6, hr_4⟩ := hr_4
      have h9R := zRe (ws' := [(mv, .inr (1, [.ref mb, .int q_6, .int 2, .int mm, .int mq])), (mb, .inl (cI, 20, .inl q_7))]) hP hD rfl
      clear hP hD
      obtain ⟨hP, hD⟩ := h9R
      refine lv_iload hx hb dX1_run_28 (lv_at hl 5 rfl) ?_
      refine lv_iconst (v := 1) hx hb dX1_run_30 (by decide) ?_
      refine lv_iadd hx hb dX1_run_31 ?_
      refine lv_topi (fun y_8 ey_8 => ?_)
      obtain rfl : y_8 = 1 := ey_8.trans (by decide)
      refine lv_istore (lv' := [(6, .int 1), (5, .int 30), (0, .ref mv), (1, .int 2), (2, .int 1), (3, .int x), (4, .int 0)]) hx hb dX1_run_32 hl (by decide) rfl (fun ls hl => ?_)
      refine lv_iload hx hb dX1_run_34 (lv_at hl 1 rfl) ?_
      refine lv_lookup (off := 160) (tgt := 196) hx hb dX1_run_36 (by decide) (by decide) (by decide) ?_
      refine lv_aload_n hx hb dX1_run_196 rfl (lv_at hl 2 rfl) ?_
      refine lv_iconst (v := 0) hx hb dX1_run_197 (by decide) ?_
      refine lv_iconst (v := 1) hx hb dX1_run_198 (by decide) ?_
      refine lv_iload_n hx hb dX1_run_199 rfl (lv_at hl 5 rfl) ?_
      refine lv_iload hx hb dX1_run_200 (lv_at hl 0 rfl) ?_
      skip
      refine zw_V (As := [.int 0, .int 1, .int x, .int 1]) (rest := []) (wr := []) ⟨hx, hb, hml, hown, hts⟩ (c_M_run_2_0_1_1 l D cI cJ cZ cP cS po mv mb (q_6) (mm) (mq) q_7 (x) (by omega) (by omega) H.size) (cwV 4 hts gX1_run_X1_run rfl rfl rfl ⟨rfl, dh_X1_run⟩ ⟨Nat.le_of_ble_eq_true rfl, Nat.le_of_ble_eq_true rfl⟩) hK hN (hZ.kept hS) hP hD hS hA [0, 1] [] rfl rfl (by decide) (by decide) (by decide) (va_recv (q := (RX1, TX1, 5)) hK hP (ci := 1) (q0 := 0) rfl rfl) rfl hl.1 rfl (Nat.le_of_ble_eq_true rfl) dX1_run_202 ⟨Nat.le_of_ble_eq_true rfl, Nat.le_of_ble_eq_true rfl⟩ (fun r_9 u_10 H locs hr_9 hP hD hS => ?_)
      obtain ⟨q_11, q_12⟩ := u_10
      try dsimp only at hr_9
      obtain ⟨hbq_11, hr_9⟩ := hr_9
      have h9R := zRe (ws' := [(mv, .inr (1, [.ref mb, .int q_11, .int 2, .int mm, .int mq])), (mb, .inl (cI, 20, .inl q_12))]) hP hD rfl
      clear hP hD
      obtain ⟨hP, hD⟩ := h9R
      refine lv_iconst (v := 3) hx hb dX1_run_205 (by decide) ?_
      refine lv_imul hx hb dX1_run_206 ?_
      refine lv_topi (fun x_13 ex_13 => ?_)
      exact W.iret (v := x_13) hx hb hr (fun t ht hW => ⟨⟨x_13, (q_11, q_12), rfl, ⟨(show q_11.toInt = mr.toInt + 3 from by omega), trivial⟩, zRet ht hP hD [0, 1] (by decide) rfl⟩, hS.F ht⟩) hS.2.2 dX1_run_207
    · exact absurd c_3 (by decide)
set_option maxHeartbeats 4000000 in
set_option maxRecDepth 100000 in
theorem c_M_run_2_2_0_3 (l : Launch) (D : va_G) (cI cJ cZ cP cS : ClassId) (po : zPool) (mv mb : Nat) (mr mm mq : Int32) (fb : Nat → Int32) (x : Int32) (hy0 : 0 ≤ mr.toInt) (hy1 : mr.toInt ≤ 1300) (hpz : Nat) : Met l yX1_run wsX1_run ({ frames := 2, cells := 0, slots := 0, locals := 46 }) (va_Pc [.ref mv, .int 2, .int 0, .int x, .int 3] (zW D (zKT cI cJ cZ cP cS) po [(mv, .inr (1, [.ref mb, .int mr, .int 2, .int mm, .int mq])), (mb, .inl (cI, 20, .inl fb))] hpz)) (va_Qi (fun (r : Int32) (u : (Int32) × (Nat → Int32)) => u.1.toInt = mr.toInt + 1 ∧ (True)) (zB D [(mv, .inr (1, [.ref mb, .int mr, .int 2, .int mm, .int mq])), (mb, .inl (cI, 20, .inl fb))] hpz (fun (u : (Int32) × (Nat → Int32)) => [(mv, .inr (1, [.ref mb, .int u.1, .int 2, .int mm, .int mq])), (mb, .inl (cI, 20, .inl u.2))])) (va_A [(mv, .inr (1, [.ref mb, .int mr, .int 2, .int mm, .int mq])), (mb, .inl (cI, 20, .inl fb))] hpz)) 0 0 (va_A [(mv, .inr (1, [.ref mb, .int mr, .int 2, .int mm, .int mq])), (mb, .inl (cI, 20, .inl fb))] hpz) := by
  refine Met.ofW (cc := cX1_run) (maxL := 7) (ret := (some .int)) (by decide) rfl ?_
  intro p e s m args below meth c s₁ B hml hv
  obtain ⟨rfl, hsz, hP, hK, hD0, hN, hZ⟩ := hv
  have hx := B.exec
  have hb := B.bytes
  have hr := B.returns
  have hts := atoms_spec (ws := wsX1_run) B.pre
  have hown : s.vm.findClass RX1 = some m.cls := findClass_of_methodNamed B.named
  have hlocks := B.notSynchronized
  subst hsz
  have hD := hD0.self (sz := s.heap.size)
  have hA := zA_of hD
  have hl := lv_entry ([.ref mv, .int 2, .int 0, .int x, .int 3]) (n := 7) (Nat.le_of_ble_eq_true rfl)
  rw [lg_entry_eq]
  generalize (lg_sl ([.ref mv, .int 2, .int 0, .int x, .int 3]) ++ List.replicate (7 - (lg_sl ([.ref mv, .int 2, .int 0, .int x, .int 3])).length) Slot.unset).toArray = ls at hl ⊢
  replace hl : lv_has ls 7 [(0, .ref mv), (1, .int 2), (2, .int 0), (3, .int x), (4, .int 3)] := hl
  refine zw_begin hP hD (fun H locs hP1 hS => ?_)
  clear hP
  have hP := hP1
  clear hP1
  refine lv_iload_n hx hb dX1_run_0 rfl (lv_at hl 1 rfl) ?_
  refine lv_iload_n hx hb dX1_run_1 rfl (lv_at hl 2 rfl) ?_
  refine zc_S (As := [.int 2, .int 0]) (rest := []) ⟨hx, hb, hml, hown, hts⟩ (c_M_bodyFor_2_0 l D cI cJ cZ cP cS po  ) (va_cwS 2 hts gX1_run_X1_bodyFor rfl rfl rfl dh_X1_bodyFor ⟨Nat.le_of_ble_eq_true rfl, Nat.le_of_ble_eq_true rfl⟩) hK hN (hZ.kept hS) rfl hl.1 rfl (Nat.le_of_ble_eq_true rfl) dX1_run_2 ⟨Nat.le_of_ble_eq_true rfl, Nat.le_of_ble_eq_true rfl⟩ (fun r_1 hr_1 => ?_)
  obtain rfl := hr_1
  refine lv_istore (lv' := [(5, .int 10), (0, .ref mv), (1, .int 2), (2, .int 0), (3, .int x), (4, .int 3)]) hx hb dX1_run_5 hl (by decide) rfl (fun ls hl => ?_)
  refine lv_iload hx hb dX1_run_7 (lv_at hl 0 rfl) ?_
  refine lv_iconst (v := (-1)) hx hb dX1_run_9 (by decide) ?_
  refine lv_icmp_eq (tgt := 20) hx hb dX1_run_10 (by decide) (fun c_2 => ?_) (fun c_2 => ?_)
  · exact absurd c_2 (by decide)
  · refine lv_iload hx hb dX1_run_13 (lv_at hl 5 rfl) ?_
    refine lv_bipush (v := 40) hx hb dX1_run_15 (by decide) ?_
    refine lv_icmp_lt (tgt := 22) hx hb dX1_run_17 (by decide) (fun c_3 => ?_) (fun c_3 => ?_)
    · refine lv_aload_n hx hb dX1_run_22 rfl (lv_at hl 1 rfl) ?_
      refine lv_iload hx hb dX1_run_23 (lv_at hl 0 rfl) ?_
      skip
      refine zw_Vv (As := [.int 10]) (rest := []) (wr := []) ⟨hx, hb, hml, hown, hts⟩ (c_M_note l D cI cJ cZ cP cS po mv mb (mr) (2) (mm) (mq) fb (10) hy0 (by omega) H.size) (cwV 1 hts gX1_run_X1_note rfl rfl rfl ⟨rfl, dh_X1_note⟩ ⟨Nat.le_of_ble_eq_true rfl, Nat.le_of_ble_eq_true rfl⟩) hK hN (hZ.kept hS) hP hD hS hA [0, 1] [] rfl rfl (by decide) (by decide) (by decide) (va_recv (q := (RX1, TX1, 5)) hK hP (ci := 1) (q0 := 0) rfl rfl) rfl hl.1 rfl (Nat.le_of_ble_eq_true rfl) dX1_run_25 ⟨Nat.le_of_ble_eq_true rfl, Nat.le_of_ble_eq_true rfl⟩ (fun u_5 H locs hr_4 hP hD hS => ?_)
      obtain ⟨q_6, q_7⟩ := u_5
      try dsimp only at hr_4
      obtain ⟨hbq_6, hr_4⟩ := hr_4
      have h9R := zRe (ws' := [(mv, .inr (1, [.ref mb, .int q_6, .int 2, .int mm, .int mq])), (mb, .inl (cI, 20, .inl q_7))]) hP hD rfl
      clear hP hD
      obtain ⟨hP, hD⟩ := h9R
      refine lv_iload hx hb dX1_run_28 (lv_at hl 5 rfl) ?_
      refine lv_iconst (v := 1) hx hb dX1_run_30 (by decide) ?_
      refine lv_iadd hx hb dX1_run_31 ?_
      refine lv_topi (fun y_8 ey_8 => ?_)
      obtain rfl : y_8 = 4 := ey_8.trans (by decide)
      refine lv_istore (lv' := [(6, .int 4), (5, .int 10), (0, .ref mv), (1, .int 2), (2, .int 0), (3, .int x), (4, .int 3)]) hx hb dX1_run_32 hl (by decide) rfl (fun ls hl => ?_)
      refine lv_iload hx hb dX1_run_34 (lv_at hl 1 rfl) ?_
      refine lv_lookup (off := 92) (tgt := 128) hx hb dX1_run_36 (by decide) (by decide) (by decide) ?_
      refine lv_iload_n hx hb dX1_run_128 rfl (lv_at hl 5 rfl) ?_
      refine lv_aload_n hx hb dX1_run_129 rfl (lv_at hl 2 rfl) ?_
      refine va_get (D := D) (ci := 1) (v := .int mm) (C := RX1) (T := TX1) (N := 5) hx hb hts hi_X1_run_1 hown hK hP 0 rfl rfl 3 (by decide) (hts (.fieldLink RX1 22 "TheLiningsInIt$Moves" "m" "I") (List.mem_of_getElem? (i := 1) rfl)) (fun _ h9 => h9) rfl dX1_run_130 ?_
      refine lv_iadd hx hb dX1_run_133 ?_
      refine lv_topi (fun x_9 ex_9 => ?_)
      exact W.iret (v := x_9) hx hb hr (fun t ht hW => ⟨⟨x_9, (q_6, q_7), rfl, ⟨(show q_6.toInt = mr.toInt + 1 from by omega), trivial⟩, zRet ht hP hD [0, 1] (by decide) rfl⟩, hS.F ht⟩) hS.2.2 dX1_run_134
    · exact absurd c_3 (by decide)
set_option maxHeartbeats 4000000 in
set_option maxRecDepth 100000 in
theorem c_M_run_2_0_1_2 (l : Launch) (D : va_G) (cI cJ cZ cP cS : ClassId) (po : zPool) (mv mb : Nat) (mr mm mq : Int32) (fb : Nat → Int32) (x : Int32) (hy0 : 0 ≤ mr.toInt) (hy1 : mr.toInt ≤ 1200) (hpz : Nat) : Met l yX1_run wsX1_run ({ frames := 3, cells := 0, slots := 0, locals := 72 }) (va_Pc [.ref mv, .int 0, .int 1, .int x, .int 2] (zW D (zKT cI cJ cZ cP cS) po [(mv, .inr (1, [.ref mb, .int mr, .int 2, .int mm, .int mq])), (mb, .inl (cI, 20, .inl fb))] hpz)) (va_Qi (fun (r : Int32) (u : (Int32) × (Nat → Int32)) => u.1.toInt = mr.toInt + 2 ∧ (True)) (zB D [(mv, .inr (1, [.ref mb, .int mr, .int 2, .int mm, .int mq])), (mb, .inl (cI, 20, .inl fb))] hpz (fun (u : (Int32) × (Nat → Int32)) => [(mv, .inr (1, [.ref mb, .int u.1, .int 2, .int mm, .int mq])), (mb, .inl (cI, 20, .inl u.2))])) (va_A [(mv, .inr (1, [.ref mb, .int mr, .int 2, .int mm, .int mq])), (mb, .inl (cI, 20, .inl fb))] hpz)) 0 0 (va_A [(mv, .inr (1, [.ref mb, .int mr, .int 2, .int mm, .int mq])), (mb, .inl (cI, 20, .inl fb))] hpz) := by
  refine Met.ofW (cc := cX1_run) (maxL := 7) (ret := (some .int)) (by decide) rfl ?_
  intro p e s m args below meth c s₁ B hml hv
  obtain ⟨rfl, hsz, hP, hK, hD0, hN, hZ⟩ := hv
  have hx := B.exec
  have hb := B.bytes
  have hr := B.returns
  have hts := atoms_spec (ws := wsX1_run) B.pre
  have hown : s.vm.findClass RX1 = some m.cls := findClass_of_methodNamed B.named
  have hlocks := B.notSynchronized
  subst hsz
  have hD := hD0.self (sz := s.heap.size)
  have hA := zA_of hD
  have hl := lv_entry ([.ref mv, .int 0, .int 1, .int x, .int 2]) (n := 7) (Nat.le_of_ble_eq_true rfl)
  rw [lg_entry_eq]
  generalize (lg_sl ([.ref mv, .int 0, .int 1, .int x, .int 2]) ++ List.replicate (7 - (lg_sl ([.ref mv, .int 0, .int 1, .int x, .int 2])).length) Slot.unset).toArray = ls at hl ⊢
  replace hl : lv_has ls 7 [(0, .ref mv), (1, .int 0), (2, .int 1), (3, .int x), (4, .int 2)] := hl
  refine zw_begin hP hD (fun H locs hP1 hS => ?_)
  clear hP
  have hP := hP1
  clear hP1
  refine lv_iload_n hx hb dX1_run_0 rfl (lv_at hl 1 rfl) ?_
  refine lv_iload_n hx hb dX1_run_1 rfl (lv_at hl 2 rfl) ?_
  refine zc_S (As := [.int 0, .int 1]) (rest := []) ⟨hx, hb, hml, hown, hts⟩ (c_M_bodyFor_0_1 l D cI cJ cZ cP cS po  ) (va_cwS 2 hts gX1_run_X1_bodyFor rfl rfl rfl dh_X1_bodyFor ⟨Nat.le_of_ble_eq_true rfl, Nat.le_of_ble_eq_true rfl⟩) hK hN (hZ.kept hS) rfl hl.1 rfl (Nat.le_of_ble_eq_true rfl) dX1_run_2 ⟨Nat.le_of_ble_eq_true rfl, Nat.le_of_ble_eq_true rfl⟩ (fun r_1 hr_1 => ?_)
  obtain rfl := hr_1
  refine lv_istore (lv' := [(5, .int 11), (0, .ref mv), (1, .int 0), (2, .int 1), (3, .int x), (4, .int 2)]) hx hb dX1_run_5 hl (by decide) rfl (fun ls hl => ?_)
  refine lv_iload hx hb dX1_run_7 (lv_at hl 0 rfl) ?_
  refine lv_iconst (v := (-1)) hx hb dX1_run_9 (by decide) ?_
  refine lv_icmp_eq (tgt := 20) hx hb dX1_run_10 (by decide) (fun c_2 => ?_) (fun c_2 => ?_)
  · exact absurd c_2 (by decide)
  · refine lv_iload hx hb dX1_run_13 (lv_at hl 5 rfl) ?_
    refine lv_bipush (v := 40) hx hb dX1_run_15 (by decide) ?_
    refine lv_icmp_lt (tgt := 22) hx hb dX1_run_17 (by decide) (fun c_3 => ?_) (fun c_3 => ?_)
    · refine lv_aload_n hx hb dX1_run_22 rfl (lv_at hl 1 rfl) ?_
      refine lv_iload hx hb dX1_run_23 (lv_at hl 0 rfl) ?_
      skip
      refine zw_Vv (As := [.int 11]) (rest := []) (wr := []) ⟨hx, hb, hml, hown, hts⟩ (c_M_note l D cI cJ cZ cP cS po mv mb (mr) (2) (mm) (mq) fb (11) hy0 (by omega) H.size) (cwV 1 hts gX1_run_X1_note rfl rfl rfl ⟨rfl, dh_X1_note⟩ ⟨Nat.le_of_ble_eq_true rfl, Nat.le_of_ble_eq_true rfl⟩) hK hN (hZ.kept hS) hP hD hS hA [0, 1] [] rfl rfl (by decide) (by decide) (by decide) (va_recv (q := (RX1, TX1, 5)) hK hP (ci := 1) (q0 := 0) rfl rfl) rfl hl.1 rfl (Nat.le_of_ble_eq_true rfl) dX1_run_25 ⟨Nat.le_of_ble_eq_true rfl, Nat.le_of_ble_eq_true rfl⟩ (fun u_5 H locs hr_4 hP hD hS => ?_)
      obtain ⟨q_6, q_7⟩ := u_5
      try dsimp only at hr_4
      obtain ⟨hbq_6, hr_4⟩ := hr_4
      have h9R := zRe (ws' := [(mv, .inr (1, [.ref mb, .int q_6, .int 2, .int mm, .int mq])), (mb, .inl (cI, 20, .inl q_7))]) hP hD rfl
      clear hP hD
      obtain ⟨hP, hD⟩ := h9R
      refine lv_iload hx hb dX1_run_28 (lv_at hl 5 rfl) ?_
      refine lv_iconst (v := 1) hx hb dX1_run_30 (by decide) ?_
      refine lv_iadd hx hb dX1_run_31 ?_
      refine lv_topi (fun y_8 ey_8 => ?_)
      obtain rfl : y_8 = 3 := ey_8.trans (by decide)
      refine lv_istore (lv' := [(6, .int 3), (5, .int 11), (0, .ref mv), (1, .int 0), (2, .int 1), (3, .int x), (4, .int 2)]) hx hb dX1_run_32 hl (by decide) rfl (fun ls hl => ?_)
      refine lv_iload hx hb dX1_run_34 (lv_at hl 1 rfl) ?_
      refine lv_lookup (off := 99) (tgt := 135) hx hb dX1_run_36 (by decide) (by decide) (by decide) ?_
      refine lv_aload_n hx hb dX1_run_135 rfl (lv_at hl 2 rfl) ?_
      refine lv_aload_n hx hb dX1_run_136 rfl (lv_at hl 2 rfl) ?_
      refine va_get (D := D) (ci := 1) (v := .int 2) (C := RX1) (T := TX1) (N := 5) hx hb hts hi_X1_run_1 hown hK hP 0 rfl rfl 2 (by decide) (hts (.fieldLink RX1 19 "TheLiningsInIt$Moves" "kind" "I") (List.mem_of_getElem? (i := 2) rfl)) (fun _ h9 => h9) rfl dX1_run_137 ?_
      refine lv_iconst (v := 0) hx hb dX1_run_140 (by decide) ?_
      refine lv_iload_n hx hb dX1_run_141 rfl (lv_at hl 5 rfl) ?_
      refine lv_iload hx hb dX1_run_142 (lv_at hl 0 rfl) ?_
      skip
      refine zw_V (As := [.int 2, .int 0, .int x, .int 3]) (rest := []) (wr := []) ⟨hx, hb, hml, hown, hts⟩ (c_M_run_2_2_0_3 l D cI cJ cZ cP cS po mv mb (q_6) (mm) (mq) q_7 (x) (by omega) (by omega) H.size) (cwV 4 hts gX1_run_X1_run rfl rfl rfl ⟨rfl, dh_X1_run⟩ ⟨Nat.le_of_ble_eq_true rfl, Nat.le_of_ble_eq_true rfl⟩) hK hN (hZ.kept hS) hP hD hS hA [0, 1] [] rfl rfl (by decide) (by decide) (by decide) (va_recv (q := (RX1, TX1, 5)) hK hP (ci := 1) (q0 := 0) rfl rfl) rfl hl.1 rfl (Nat.le_of_ble_eq_true rfl) dX1_run_144 ⟨Nat.le_of_ble_eq_true rfl, Nat.le_of_ble_eq_true rfl⟩ (fun r_9 u_10 H locs hr_9 hP hD hS => ?_)
      obtain ⟨q_11, q_12⟩ := u_10
      try dsimp only at hr_9
      obtain ⟨hbq_11, hr_9⟩ := hr_9
      have h9R := zRe (ws' := [(mv, .inr (1, [.ref mb, .int q_11, .int 2, .int mm, .int mq])), (mb, .inl (cI, 20, .inl q_12))]) hP hD rfl
      clear hP hD
      obtain ⟨hP, hD⟩ := h9R
      refine lv_iconst (v := 2) hx hb dX1_run_147 (by decide) ?_
      refine lv_imul hx hb dX1_run_148 ?_
      refine lv_topi (fun x_13 ex_13 => ?_)
      exact W.iret (v := x_13) hx hb hr (fun t ht hW => ⟨⟨x_13, (q_11, q_12), rfl, ⟨(show q_11.toInt = mr.toInt + 2 from by omega), trivial⟩, zRet ht hP hD [0, 1] (by decide) rfl⟩, hS.F ht⟩) hS.2.2 dX1_run_149
    · exact absurd c_3 (by decide)
set_option maxHeartbeats 4000000 in
set_option maxRecDepth 100000 in
theorem c_M_run_2_2_1_1 (l : Launch) (D : va_G) (cI cJ cZ cP cS : ClassId) (po : zPool) (mv mb : Nat) (mr mm mq : Int32) (fb : Nat → Int32) (x : Int32) (hy0 : 0 ≤ mr.toInt) (hy1 : mr.toInt ≤ 1100) (hpz : Nat) : Met l yX1_run wsX1_run ({ frames := 4, cells := 0, slots := 0, locals := 98 }) (va_Pc [.ref mv, .int 2, .int 1, .int x, .int 1] (zW D (zKT cI cJ cZ cP cS) po [(mv, .inr (1, [.ref mb, .int mr, .int 2, .int mm, .int mq])), (mb, .inl (cI, 20, .inl fb))] hpz)) (va_Qi (fun (r : Int32) (u : (Int32) × (Nat → Int32)) => u.1.toInt = mr.toInt + 3 ∧ (True)) (zB D [(mv, .inr (1, [.ref mb, .int mr, .int 2, .int mm, .int mq])), (mb, .inl (cI, 20, .inl fb))] hpz (fun (u : (Int32) × (Nat → Int32)) => [(mv, .inr (1, [.ref mb, .int u.1, .int 2, .int mm, .int mq])), (mb, .inl (cI, 20, .inl u.2))])) (va_A [(mv, .inr (1, [.ref mb, .int mr, .int 2, .int mm, .int mq])), (mb, .inl (cI, 20, .inl fb))] hpz)) 0 0 (va_A [(mv, .inr (1, [.ref mb, .int mr, .int 2, .int mm, .int mq])), (mb, .inl (cI, 20, .inl fb))] hpz) := by
  refine Met.ofW (cc := cX1_run) (maxL := 7) (ret := (some .int)) (by decide) rfl ?_
  intro p e s m args below meth c s₁ B hml hv
  obtain ⟨rfl, hsz, hP, hK, hD0, hN, hZ⟩ := hv
  have hx := B.exec
  have hb := B.bytes
  have hr := B.returns
  have hts := atoms_spec (ws := wsX1_run) B.pre
  have hown : s.vm.findClass RX1 = some m.cls := findClass_of_methodNamed B.named
  have hlocks := B.notSynchronized
  subst hsz
  have hD := hD0.self (sz := s.heap.size)
  have hA := zA_of hD
  have hl := lv_entry ([.ref mv, .int 2, .int 1, .int x, .int 1]) (n := 7) (Nat.le_of_ble_eq_true rfl)
  rw [lg_entry_eq]
  generalize (lg_sl ([.ref mv, .int 2, .int 1, .int x, .int 1]) ++ List.replicate (7 - (lg_sl ([.ref mv, .int 2, .int 1, .int x, .int 1])).length) Slot.unset).toArray = ls at hl ⊢
  replace hl : lv_has ls 7 [(0, .ref mv), (1, .int 2), (2, .int 1), (3, .int x), (4, .int 1)] := hl
  refine zw_begin hP hD (fun H locs hP1 hS => ?_)
  clear hP
  have hP := hP1
  clear hP1
  refine lv_iload_n hx hb dX1_run_0 rfl (lv_at hl 1 rfl) ?_
  refine lv_iload_n hx hb dX1_run_1 rfl (lv_at hl 2 rfl) ?_
  refine zc_S (As := [.int 2, .int 1]) (rest := []) ⟨hx, hb, hml, hown, hts⟩ (c_M_bodyFor_2_1 l D cI cJ cZ cP cS po  ) (va_cwS 2 hts gX1_run_X1_bodyFor rfl rfl rfl dh_X1_bodyFor ⟨Nat.le_of_ble_eq_true rfl, Nat.le_of_ble_eq_true rfl⟩) hK hN (hZ.kept hS) rfl hl.1 rfl (Nat.le_of_ble_eq_true rfl) dX1_run_2 ⟨Nat.le_of_ble_eq_true rfl, Nat.le_of_ble_eq_true rfl⟩ (fun r_1 hr_1 => ?_)
  obtain rfl := hr_1
  refine lv_istore (lv' := [(5, .int 30), (0, .ref mv), (1, .int 2), (2, .int 1), (3, .int x), (4, .int 1)]) hx hb dX1_run_5 hl (by decide) rfl (fun ls hl => ?_)
  refine lv_iload hx hb dX1_run_7 (lv_at hl 0 rfl) ?_
  refine lv_iconst (v := (-1)) hx hb dX1_run_9 (by decide) ?_
  refine lv_icmp_eq (tgt := 20) hx hb dX1_run_10 (by decide) (fun c_2 => ?_) (fun c_2 => ?_)
  · exact absurd c_2 (by decide)
  · refine lv_iload hx hb dX1_run_13 (lv_at hl 5 rfl) ?_
    refine lv_bipush (v := 40) hx hb dX1_run_15 (by decide) ?_
    refine lv_icmp_lt (tgt := 22) hx hb dX1_run_17 (by decide) (fun c_3 => ?_) (fun c_3 => ?_)
    · refine lv_aload_n hx hb dX1_run_22 rfl (lv_at hl 1 rfl) ?_
      refine lv_iload hx hb dX1_run_23 (lv_at hl 0 rfl) ?_
      skip
      refine zw_Vv (As := [.int 30]) (rest := []) (wr := []) ⟨hx, hb, hml, hown, hts⟩ (c_M_note l D cI cJ cZ cP cS po mv mb (mr) (2) (mm) (mq) fb (30) hy0 (by omega) H.size) (cwV 1 hts gX1_run_X1_note rfl rfl rfl ⟨rfl, dh_X1_note⟩ ⟨Nat.le_of_ble_eq_true rfl, Nat.le_of_ble_eq_true rfl⟩) hK hN (hZ.kept hS) hP hD hS hA [0, 1] [] rfl rfl (by decide) (by decide) (by decide) (va_recv (q := (RX1, TX1, 5)) hK hP (ci := 1) (q0 := 0) rfl rfl) rfl hl.1 rfl (Nat.le_of_ble_eq_true rfl) dX1_run_25 ⟨Nat.le_of_ble_eq_true rfl, Nat.le_of_ble_eq_true rfl⟩ (fun u_5 H locs hr_4 hP hD hS => ?_)
      obtain ⟨q_6, q_7⟩ := u_5
      try dsimp only at hr_4
      obtain ⟨hbq_6, hr_4⟩ := hr_4
      have h9R := zRe (ws' := [(mv, .inr (1, [.ref mb, .int q_6, .int 2, .int mm, .int mq])), (mb, .inl (cI, 20, .inl q_7))]) hP hD rfl
      clear hP hD
      obtain ⟨hP, hD⟩ := h9R
      refine lv_iload hx hb dX1_run_28 (lv_at hl 5 rfl) ?_
      refine lv_iconst (v := 1) hx hb dX1_run_30 (by decide) ?_
      refine lv_iadd hx hb dX1_run_31 ?_
      refine lv_topi (fun y_8 ey_8 => ?_)
      obtain rfl : y_8 = 2 := ey_8.trans (by decide)
      refine lv_istore (lv' := [(6, .int 2), (5, .int 30), (0, .ref mv), (1, .int 2), (2, .int 1), (3, .int x), (4, .int 1)]) hx hb dX1_run_32 hl (by decide) rfl (fun ls hl => ?_)
      refine lv_iload hx hb dX1_run_34 (lv_at hl 1 rfl) ?_
      refine lv_lookup (off := 160) (tgt := 196) hx hb dX1_run_36 (by decide) (by decide) (by decide) ?_
      refine lv_aload_n hx hb dX1_run_196 rfl (lv_at hl 2 rfl) ?_
      refine lv_iconst (v := 0) hx hb dX1_run_197 (by decide) ?_
      refine lv_iconst (v := 1) hx hb dX1_run_198 (by decide) ?_
      refine lv_iload_n hx hb dX1_run_199 rfl (lv_at hl 5 rfl) ?_
      refine lv_iload hx hb dX1_run_200 (lv_at hl 0 rfl) ?_
      skip
      refine zw_V (As := [.int 0, .int 1, .int x, .int 2]) (rest := []) (wr := []) ⟨hx, hb, hml, hown, hts⟩ (c_M_run_2_0_1_2 l D cI cJ cZ cP cS po mv mb (q_6) (mm) (mq) q_7 (x) (by omega) (by omega) H.size) (cwV 4 hts gX1_run_X1_run rfl rfl rfl ⟨rfl, dh_X1_run⟩ ⟨Nat.le_of_ble_eq_true rfl, Nat.le_of_ble_eq_true rfl⟩) hK hN (hZ.kept hS) hP hD hS hA [0, 1] [] rfl rfl (by decide) (by decide) (by decide) (va_recv (q := (RX1, TX1, 5)) hK hP (ci := 1) (q0 := 0) rfl rfl) rfl hl.1 rfl (Nat.le_of_ble_eq_true rfl) dX1_run_202 ⟨Nat.le_of_ble_eq_true rfl, Nat.le_of_ble_eq_true rfl⟩ (fun r_9 u_10 H locs hr_9 hP hD hS => ?_)
      obtain ⟨q_11, q_12⟩ := u_10
      try dsimp only at hr_9
      obtain ⟨hbq_11, hr_9⟩ := hr_9
      have h9R := zRe (ws' := [(mv, .inr (1, [.ref mb, .int q_11, .int 2, .int mm, .int mq])), (mb, .inl (cI, 20, .inl q_12))]) hP hD rfl
      clear hP hD
      obtain ⟨hP, hD⟩ := h9R
      refine lv_iconst (v := 3) hx hb dX1_run_205 (by decide) ?_
      refine lv_imul hx hb dX1_run_206 ?_
      refine lv_topi (fun x_13 ex_13 => ?_)
      exact W.iret (v := x_13) hx hb hr (fun t ht hW => ⟨⟨x_13, (q_11, q_12), rfl, ⟨(show q_11.toInt = mr.toInt + 3 from by omega), trivial⟩, zRet ht hP hD [0, 1] (by decide) rfl⟩, hS.F ht⟩) hS.2.2 dX1_run_207
    · exact absurd c_3 (by decide)
set_option maxHeartbeats 4000000 in
set_option maxRecDepth 100000 in
theorem c_M_run_2_2_0_1 (l : Launch) (D : va_G) (cI cJ cZ cP cS : ClassId) (po : zPool) (mv mb : Nat) (mr mm mq : Int32) (fb : Nat → Int32) (x : Int32) (hy0 : 0 ≤ mr.toInt) (hy1 : mr.toInt ≤ 1100) (hpz : Nat) : Met l yX1_run wsX1_run ({ frames := 2, cells := 0, slots := 0, locals := 46 }) (va_Pc [.ref mv, .int 2, .int 0, .int x, .int 1] (zW D (zKT cI cJ cZ cP cS) po [(mv, .inr (1, [.ref mb, .int mr, .int 2, .int mm, .int mq])), (mb, .inl (cI, 20, .inl fb))] hpz)) (va_Qi (fun (r : Int32) (u : (Int32) × (Nat → Int32)) => u.1.toInt = mr.toInt + 1 ∧ (True)) (zB D [(mv, .inr (1, [.ref mb, .int mr, .int 2, .int mm, .int mq])), (mb, .inl (cI, 20, .inl fb))] hpz (fun (u : (Int32) × (Nat → Int32)) => [(mv, .inr (1, [.ref mb, .int u.1, .int 2, .int mm, .int mq])), (mb, .inl (cI, 20, .inl u.2))])) (va_A [(mv, .inr (1, [.ref mb, .int mr, .int 2, .int mm, .int mq])), (mb, .inl (cI, 20, .inl fb))] hpz)) 0 0 (va_A [(mv, .inr (1, [.ref mb, .int mr, .int 2, .int mm, .int mq])), (mb, .inl (cI, 20, .inl fb))] hpz) := by
  refine Met.ofW (cc := cX1_run) (maxL := 7) (ret := (some .int)) (by decide) rfl ?_
  intro p e s m args below meth c s₁ B hml hv
  obtain ⟨rfl, hsz, hP, hK, hD0, hN, hZ⟩ := hv
  have hx := B.exec
  have hb := B.bytes
  have hr := B.returns
  have hts := atoms_spec (ws := wsX1_run) B.pre
  have hown : s.vm.findClass RX1 = some m.cls := findClass_of_methodNamed B.named
  have hlocks := B.notSynchronized
  subst hsz
  have hD := hD0.self (sz := s.heap.size)
  have hA := zA_of hD
  have hl := lv_entry ([.ref mv, .int 2, .int 0, .int x, .int 1]) (n := 7) (Nat.le_of_ble_eq_true rfl)
  rw [lg_entry_eq]
  generalize (lg_sl ([.ref mv, .int 2, .int 0, .int x, .int 1]) ++ List.replicate (7 - (lg_sl ([.ref mv, .int 2, .int 0, .int x, .int 1])).length) Slot.unset).toArray = ls at hl ⊢
  replace hl : lv_has ls 7 [(0, .ref mv), (1, .int 2), (2, .int 0), (3, .int x), (4, .int 1)] := hl
  refine zw_begin hP hD (fun H locs hP1 hS => ?_)
  clear hP
  have hP := hP1
  clear hP1
  refine lv_iload_n hx hb dX1_run_0 rfl (lv_at hl 1 rfl) ?_
  refine lv_iload_n hx hb dX1_run_1 rfl (lv_at hl 2 rfl) ?_
  refine zc_S (As := [.int 2, .int 0]) (rest := []) ⟨hx, hb, hml, hown, hts⟩ (c_M_bodyFor_2_0 l D cI cJ cZ cP cS po  ) (va_cwS 2 hts gX1_run_X1_bodyFor rfl rfl rfl dh_X1_bodyFor ⟨Nat.le_of_ble_eq_true rfl, Nat.le_of_ble_eq_true rfl⟩) hK hN (hZ.kept hS) rfl hl.1 rfl (Nat.le_of_ble_eq_true rfl) dX1_run_2 ⟨Nat.le_of_ble_eq_true rfl, Nat.le_of_ble_eq_true rfl⟩ (fun r_1 hr_1 => ?_)
  obtain rfl := hr_1
  refine lv_istore (lv' := [(5, .int 10), (0, .ref mv), (1, .int 2), (2, .int 0), (3, .int x), (4, .int 1)]) hx hb dX1_run_5 hl (by decide) rfl (fun ls hl => ?_)
  refine lv_iload hx hb dX1_run_7 (lv_at hl 0 rfl) ?_
  refine lv_iconst (v := (-1)) hx hb dX1_run_9 (by decide) ?_
  refine lv_icmp_eq (tgt := 20) hx hb dX1_run_10 (by decide) (fun c_2 => ?_) (fun c_2 => ?_)
  · exact absurd c_2 (by decide)
  · refine lv_iload hx hb dX1_run_13 (lv_at hl 5 rfl) ?_
    refine lv_bipush (v := 40) hx hb dX1_run_15 (by decide) ?_
    refine lv_icmp_lt (tgt := 22) hx hb dX1_run_17 (by decide) (fun c_3 => ?_) (fun c_3 => ?_)
    · refine lv_aload_n hx hb dX1_run_22 rfl (lv_at hl 1 rfl) ?_
      refine lv_iload hx hb dX1_run_23 (lv_at hl 0 rfl) ?_
      skip
      refine zw_Vv (As := [.int 10]) (rest := []) (wr := []) ⟨hx, hb, hml, hown, hts⟩ (c_M_note l D cI cJ cZ cP cS po mv mb (mr) (2) (mm) (mq) fb (10) hy0 (by omega) H.size) (cwV 1 hts gX1_run_X1_note rfl rfl rfl ⟨rfl, dh_X1_note⟩ ⟨Nat.le_of_ble_eq_true rfl, Nat.le_of_ble_eq_true rfl⟩) hK hN (hZ.kept hS) hP hD hS hA [0, 1] [] rfl rfl (by decide) (by decide) (by decide) (va_recv (q := (RX1, TX1, 5)) hK hP (ci := 1) (q0 := 0) rfl rfl) rfl hl.1 rfl (Nat.le_of_ble_eq_true rfl) dX1_run_25 ⟨Nat.le_of_ble_eq_true rfl, Nat.le_of_ble_eq_true rfl⟩ (fun u_5 H locs hr_4 hP hD hS => ?_)
      obtain ⟨q_6, q_7⟩ := u_5
      try dsimp only at hr_4
      obtain ⟨hbq_6, hr_4⟩ := hr_4
      have h9R := zRe (ws' := [(mv, .inr (1, [.ref mb, .int q_6, .int 2, .int mm, .int mq])), (mb, .inl (cI, 20, .inl q_7))]) hP hD rfl
      clear hP hD
      obtain ⟨hP, hD⟩ := h9R
      refine lv_iload hx hb dX1_run_28 (lv_at hl 5 rfl) ?_
      refine lv_iconst (v := 1) hx hb dX1_run_30 (by decide) ?_
      refine lv_iadd hx hb dX1_run_31 ?_
      refine lv_topi (fun y_8 ey_8 => ?_)
      obtain rfl : y_8 = 2 := ey_8.trans (by decide)
      refine lv_istore (lv' := [(6, .int 2), (5, .int 10), (0, .ref mv), (1, .int 2), (2, .int 0), (3, .int x), (4, .int 1)]) hx hb dX1_run_32 hl (by decide) rfl (fun ls hl => ?_)
      refine lv_iload hx hb dX1_run_34 (lv_at hl 1 rfl) ?_
      refine lv_lookup (off := 92) (tgt := 128) hx hb dX1_run_36 (by decide) (by decide) (by decide) ?_
      refine lv_iload_n hx hb dX1_run_128 rfl (lv_at hl 5 rfl) ?_
      refine lv_aload_n hx hb dX1_run_129 rfl (lv_at hl 2 rfl) ?_
      refine va_get (D := D) (ci := 1) (v := .int mm) (C := RX1) (T := TX1) (N := 5) hx hb hts hi_X1_run_1 hown hK hP 0 rfl rfl 3 (by decide) (hts (.fieldLink RX1 22 "TheLiningsInIt$Moves" "m" "I") (List.mem_of_getElem? (i := 1) rfl)) (fun _ h9 => h9) rfl dX1_run_130 ?_
      refine lv_iadd hx hb dX1_run_133 ?_
      refine lv_topi (fun x_9 ex_9 => ?_)
      exact W.iret (v := x_9) hx hb hr (fun t ht hW => ⟨⟨x_9, (q_6, q_7), rfl, ⟨(show q_6.toInt = mr.toInt + 1 from by omega), trivial⟩, zRet ht hP hD [0, 1] (by decide) rfl⟩, hS.F ht⟩) hS.2.2 dX1_run_134
    · exact absurd c_3 (by decide)
set_option maxHeartbeats 4000000 in
set_option maxRecDepth 100000 in
theorem c_M_run_2_2_2_0 (l : Launch) (D : va_G) (cI cJ cZ cP cS : ClassId) (po : zPool) (mv mb : Nat) (mr mm mq : Int32) (fb : Nat → Int32) (x : Int32) (hy0 : 0 ≤ mr.toInt) (hy1 : mr.toInt ≤ 1000) (hpz : Nat) : Met l yX1_run wsX1_run ({ frames := 5, cells := 0, slots := 0, locals := 124 }) (va_Pc [.ref mv, .int 2, .int 2, .int x, .int 0] (zW D (zKT cI cJ cZ cP cS) po [(mv, .inr (1, [.ref mb, .int mr, .int 2, .int mm, .int mq])), (mb, .inl (cI, 20, .inl fb))] hpz)) (va_Qi (fun (r : Int32) (u : (Int32) × (Nat → Int32)) => u.1.toInt = mr.toInt + 5 ∧ (True)) (zB D [(mv, .inr (1, [.ref mb, .int mr, .int 2, .int mm, .int mq])), (mb, .inl (cI, 20, .inl fb))] hpz (fun (u : (Int32) × (Nat → Int32)) => [(mv, .inr (1, [.ref mb, .int u.1, .int 2, .int mm, .int mq])), (mb, .inl (cI, 20, .inl u.2))])) (va_A [(mv, .inr (1, [.ref mb, .int mr, .int 2, .int mm, .int mq])), (mb, .inl (cI, 20, .inl fb))] hpz)) 0 0 (va_A [(mv, .inr (1, [.ref mb, .int mr, .int 2, .int mm, .int mq])), (mb, .inl (cI, 20, .inl fb))] hpz) := by
  refine Met.ofW (cc := cX1_run) (maxL := 7) (ret := (some .int)) (by decide) rfl ?_
  intro p e s m args below meth c s₁ B hml hv
  obtain ⟨rfl, hsz, hP, hK, hD0, hN, hZ⟩ := hv
  have hx := B.exec
  have hb := B.bytes
  have hr := B.returns
  have hts := atoms_spec (ws := wsX1_run) B.pre
  have hown : s.vm.findClass RX1 = some m.cls := findClass_of_methodNamed B.named
  have hlocks := B.notSynchronized
  subst hsz
  have hD := hD0.self (sz := s.heap.size)
  have hA := zA_of hD
  have hl := lv_entry ([.ref mv, .int 2, .int 2, .int x, .int 0]) (n := 7) (Nat.le_of_ble_eq_true rfl)
  rw [lg_entry_eq]
  generalize (lg_sl ([.ref mv, .int 2, .int 2, .int x, .int 0]) ++ List.replicate (7 - (lg_sl ([.ref mv, .int 2, .int 2, .int x, .int 0])).length) Slot.unset).toArray = ls at hl ⊢
  replace hl : lv_has ls 7 [(0, .ref mv), (1, .int 2), (2, .int 2), (3, .int x), (4, .int 0)] := hl
  refine zw_begin hP hD (fun H locs hP1 hS => ?_)
  clear hP
  have hP := hP1
  clear hP1
  refine lv_iload_n hx hb dX1_run_0 rfl (lv_at hl 1 rfl) ?_
  refine lv_iload_n hx hb dX1_run_1 rfl (lv_at hl 2 rfl) ?_
  refine zc_S (As := [.int 2, .int 2]) (rest := []) ⟨hx, hb, hml, hown, hts⟩ (c_M_bodyFor_2_2 l D cI cJ cZ cP cS po  ) (va_cwS 2 hts gX1_run_X1_bodyFor rfl rfl rfl dh_X1_bodyFor ⟨Nat.le_of_ble_eq_true rfl, Nat.le_of_ble_eq_true rfl⟩) hK hN (hZ.kept hS) rfl hl.1 rfl (Nat.le_of_ble_eq_true rfl) dX1_run_2 ⟨Nat.le_of_ble_eq_true rfl, Nat.le_of_ble_eq_true rfl⟩ (fun r_1 hr_1 => ?_)
  obtain rfl := hr_1
  refine lv_istore (lv' := [(5, .int 12), (0, .ref mv), (1, .int 2), (2, .int 2), (3, .int x), (4, .int 0)]) hx hb dX1_run_5 hl (by decide) rfl (fun ls hl => ?_)
  refine lv_iload hx hb dX1_run_7 (lv_at hl 0 rfl) ?_
  refine lv_iconst (v := (-1)) hx hb dX1_run_9 (by decide) ?_
  refine lv_icmp_eq (tgt := 20) hx hb dX1_run_10 (by decide) (fun c_2 => ?_) (fun c_2 => ?_)
  · exact absurd c_2 (by decide)
  · refine lv_iload hx hb dX1_run_13 (lv_at hl 5 rfl) ?_
    refine lv_bipush (v := 40) hx hb dX1_run_15 (by decide) ?_
    refine lv_icmp_lt (tgt := 22) hx hb dX1_run_17 (by decide) (fun c_3 => ?_) (fun c_3 => ?_)
    · refine lv_aload_n hx hb dX1_run_22 rfl (lv_at hl 1 rfl) ?_
      refine lv_iload hx hb dX1_run_23 (lv_at hl 0 rfl) ?_
      skip
      refine zw_Vv (As := [.int 12]) (rest := []) (wr := []) ⟨hx, hb, hml, hown, hts⟩ (c_M_note l D cI cJ cZ cP cS po mv mb (mr) (2) (mm) (mq) fb (12) hy0 (by omega) H.size) (cwV 1 hts gX1_run_X1_note rfl rfl rfl ⟨rfl, dh_X1_note⟩ ⟨Nat.le_of_ble_eq_true rfl, Nat.le_of_ble_eq_true rfl⟩) hK hN (hZ.kept hS) hP hD hS hA [0, 1] [] rfl rfl (by decide) (by decide) (by decide) (va_recv (q := (RX1, TX1, 5)) hK hP (ci := 1) (q0 := 0) rfl rfl) rfl hl.1 rfl (Nat.le_of_ble_eq_true rfl) dX1_run_25 ⟨Nat.le_of_ble_eq_true rfl, Nat.le_of_ble_eq_true rfl⟩ (fun u_5 H locs hr_4 hP hD hS => ?_)
      obtain ⟨q_6, q_7⟩ := u_5
      try dsimp only at hr_4
      obtain ⟨hbq_6, hr_4⟩ := hr_4
      have h9R := zRe (ws' := [(mv, .inr (1, [.ref mb, .int q_6, .int 2, .int mm, .int mq])), (mb, .inl (cI, 20, .inl q_7))]) hP hD rfl
      clear hP hD
      obtain ⟨hP, hD⟩ := h9R
      refine lv_iload hx hb dX1_run_28 (lv_at hl 5 rfl) ?_
      refine lv_iconst (v := 1) hx hb dX1_run_30 (by decide) ?_
      refine lv_iadd hx hb dX1_run_31 ?_
      refine lv_topi (fun y_8 ey_8 => ?_)
      obtain rfl : y_8 = 1 := ey_8.trans (by decide)
      refine lv_istore (lv' := [(6, .int 1), (5, .int 12), (0, .ref mv), (1, .int 2), (2, .int 2), (3, .int x), (4, .int 0)]) hx hb dX1_run_32 hl (by decide) rfl (fun ls hl => ?_)
      refine lv_iload hx hb dX1_run_34 (lv_at hl 1 rfl) ?_
      refine lv_lookup (off := 114) (tgt := 150) hx hb dX1_run_36 (by decide) (by decide) (by decide) ?_
      refine lv_aload_n hx hb dX1_run_150 rfl (lv_at hl 2 rfl) ?_
      refine lv_aload_n hx hb dX1_run_151 rfl (lv_at hl 2 rfl) ?_
      refine va_get (D := D) (ci := 1) (v := .int 2) (C := RX1) (T := TX1) (N := 5) hx hb hts hi_X1_run_1 hown hK hP 0 rfl rfl 2 (by decide) (hts (.fieldLink RX1 19 "TheLiningsInIt$Moves" "kind" "I") (List.mem_of_getElem? (i := 2) rfl)) (fun _ h9 => h9) rfl dX1_run_152 ?_
      refine lv_iconst (v := 1) hx hb dX1_run_155 (by decide) ?_
      refine lv_iload_n hx hb dX1_run_156 rfl (lv_at hl 5 rfl) ?_
      refine lv_iload hx hb dX1_run_157 (lv_at hl 0 rfl) ?_
      skip
      refine zw_V (As := [.int 2, .int 1, .int x, .int 1]) (rest := []) (wr := []) ⟨hx, hb, hml, hown, hts⟩ (c_M_run_2_2_1_1 l D cI cJ cZ cP cS po mv mb (q_6) (mm) (mq) q_7 (x) (by omega) (by omega) H.size) (cwV 4 hts gX1_run_X1_run rfl rfl rfl ⟨rfl, dh_X1_run⟩ ⟨Nat.le_of_ble_eq_true rfl, Nat.le_of_ble_eq_true rfl⟩) hK hN (hZ.kept hS) hP hD hS hA [0, 1] [] rfl rfl (by decide) (by decide) (by decide) (va_recv (q := (RX1, TX1, 5)) hK hP (ci := 1) (q0 := 0) rfl rfl) rfl hl.1 rfl (Nat.le_of_ble_eq_true rfl) dX1_run_159 ⟨Nat.le_of_ble_eq_true rfl, Nat.le_of_ble_eq_true rfl⟩ (fun r_9 u_10 H locs hr_9 hP hD hS => ?_)
      obtain ⟨q_11, q_12⟩ := u_10
      try dsimp only at hr_9
      obtain ⟨hbq_11, hr_9⟩ := hr_9
      have h9R := zRe (ws' := [(mv, .inr (1, [.ref mb, .int q_11, .int 2, .int mm, .int mq])), (mb, .inl (cI, 20, .inl q_12))]) hP hD rfl
      clear hP hD
      obtain ⟨hP, hD⟩ := h9R
      refine lv_aload_n hx hb dX1_run_162 rfl (lv_at hl 2 rfl) ?_
      refine lv_aload_n hx hb dX1_run_163 rfl (lv_at hl 2 rfl) ?_
      refine va_get (D := D) (ci := 1) (v := .int 2) (C := RX1) (T := TX1) (N := 5) hx hb hts hi_X1_run_1 hown hK hP 0 rfl rfl 2 (by decide) (hts (.fieldLink RX1 19 "TheLiningsInIt$Moves" "kind" "I") (List.mem_of_getElem? (i := 2) rfl)) (fun _ h9 => h9) rfl dX1_run_164 ?_
      refine lv_iconst (v := 0) hx hb dX1_run_167 (by decide) ?_
      refine lv_iload_n hx hb dX1_run_168 rfl (lv_at hl 5 rfl) ?_
      refine lv_aload_n hx hb dX1_run_169 rfl (lv_at hl 2 rfl) ?_
      refine va_get (D := D) (ci := 1) (v := .int mq) (C := RX1) (T := TX1) (N := 5) hx hb hts hi_X1_run_1 hown hK hP 0 rfl rfl 4 (by decide) (hts (.fieldLink RX1 25 "TheLiningsInIt$Moves" "k" "I") (List.mem_of_getElem? (i := 3) rfl)) (fun _ h9 => h9) rfl dX1_run_170 ?_
      refine lv_isub hx hb dX1_run_173 ?_
      refine lv_topi (fun x_13 ex_13 => ?_)
      refine lv_iload hx hb dX1_run_174 (lv_at hl 0 rfl) ?_
      skip
      refine zw_V (As := [.int 2, .int 0, .int x_13, .int 1]) (rest := [.int r_9]) (wr := []) ⟨hx, hb, hml, hown, hts⟩ (c_M_run_2_2_0_1 l D cI cJ cZ cP cS po mv mb (q_11) (mm) (mq) q_12 (x_13) (by omega) (by omega) H.size) (cwV 4 hts gX1_run_X1_run rfl rfl rfl ⟨rfl, dh_X1_run⟩ ⟨Nat.le_of_ble_eq_true rfl, Nat.le_of_ble_eq_true rfl⟩) hK hN (hZ.kept hS) hP hD hS hA [0, 1] [] rfl rfl (by decide) (by decide) (by decide) (va_recv (q := (RX1, TX1, 5)) hK hP (ci := 1) (q0 := 0) rfl rfl) rfl hl.1 rfl (Nat.le_of_ble_eq_true rfl) dX1_run_176 ⟨Nat.le_of_ble_eq_true rfl, Nat.le_of_ble_eq_true rfl⟩ (fun r_14 u_15 H locs hr_14 hP hD hS => ?_)
      obtain ⟨q_16, q_17⟩ := u_15
      try dsimp only at hr_14
      obtain ⟨hbq_16, hr_14⟩ := hr_14
      have h9R := zRe (ws' := [(mv, .inr (1, [.ref mb, .int q_16, .int 2, .int mm, .int mq])), (mb, .inl (cI, 20, .inl q_17))]) hP hD rfl
      clear hP hD
      obtain ⟨hP, hD⟩ := h9R
      refine lv_ixor hx hb dX1_run_179 ?_
      refine lv_topi (fun x_18 ex_18 => ?_)
      exact W.iret (v := x_18) hx hb hr (fun t ht hW => ⟨⟨x_18, (q_16, q_17), rfl, ⟨(show q_16.toInt = mr.toInt + 5 from by omega), trivial⟩, zRet ht hP hD [0, 1] (by decide) rfl⟩, hS.F ht⟩) hS.2.2 dX1_run_180
    · exact absurd c_3 (by decide)
set_option maxHeartbeats 4000000 in
set_option maxRecDepth 100000 in
theorem c_M_run_3_0_0_1 (l : Launch) (D : va_G) (cI cJ cZ cP cS : ClassId) (po : zPool) (mv mb : Nat) (mr mm mq : Int32) (fb : Nat → Int32) (x : Int32) (hy0 : 0 ≤ mr.toInt) (hy1 : mr.toInt ≤ 1100) (hpz : Nat) : Met l yX1_run wsX1_run ({ frames := 2, cells := 0, slots := 0, locals := 46 }) (va_Pc [.ref mv, .int 0, .int 0, .int x, .int 1] (zW D (zKT cI cJ cZ cP cS) po [(mv, .inr (1, [.ref mb, .int mr, .int 3, .int mm, .int mq])), (mb, .inl (cI, 20, .inl fb))] hpz)) (va_Qi (fun (r : Int32) (u : (Int32) × (Nat → Int32)) => u.1.toInt = mr.toInt + 1 ∧ (True)) (zB D [(mv, .inr (1, [.ref mb, .int mr, .int 3, .int mm, .int mq])), (mb, .inl (cI, 20, .inl fb))] hpz (fun (u : (Int32) × (Nat → Int32)) => [(mv, .inr (1, [.ref mb, .int u.1, .int 3, .int mm, .int mq])), (mb, .inl (cI, 20, .inl u.2))])) (va_A [(mv, .inr (1, [.ref mb, .int mr, .int 3, .int mm, .int mq])), (mb, .inl (cI, 20, .inl fb))] hpz)) 0 0 (va_A [(mv, .inr (1, [.ref mb, .int mr, .int 3, .int mm, .int mq])), (mb, .inl (cI, 20, .inl fb))] hpz) := by
  refine Met.ofW (cc := cX1_run) (maxL := 7) (ret := (some .int)) (by decide) rfl ?_
  intro p e s m args below meth c s₁ B hml hv
  obtain ⟨rfl, hsz, hP, hK, hD0, hN, hZ⟩ := hv
  have hx := B.exec
  have hb := B.bytes
  have hr := B.returns
  have hts := atoms_spec (ws := wsX1_run) B.pre
  have hown : s.vm.findClass RX1 = some m.cls := findClass_of_methodNamed B.named
  have hlocks := B.notSynchronized
  subst hsz
  have hD := hD0.self (sz := s.heap.size)
  have hA := zA_of hD
  have hl := lv_entry ([.ref mv, .int 0, .int 0, .int x, .int 1]) (n := 7) (Nat.le_of_ble_eq_true rfl)
  rw [lg_entry_eq]
  generalize (lg_sl ([.ref mv, .int 0, .int 0, .int x, .int 1]) ++ List.replicate (7 - (lg_sl ([.ref mv, .int 0, .int 0, .int x, .int 1])).length) Slot.unset).toArray = ls at hl ⊢
  replace hl : lv_has ls 7 [(0, .ref mv), (1, .int 0), (2, .int 0), (3, .int x), (4, .int 1)] := hl
  refine zw_begin hP hD (fun H locs hP1 hS => ?_)
  clear hP
  have hP := hP1
  clear hP1
  refine lv_iload_n hx hb dX1_run_0 rfl (lv_at hl 1 rfl) ?_
  refine lv_iload_n hx hb dX1_run_1 rfl (lv_at hl 2 rfl) ?_
  refine zc_S (As := [.int 0, .int 0]) (rest := []) ⟨hx, hb, hml, hown, hts⟩ (c_M_bodyFor_0_0 l D cI cJ cZ cP cS po  ) (va_cwS 2 hts gX1_run_X1_bodyFor rfl rfl rfl dh_X1_bodyFor ⟨Nat.le_of_ble_eq_true rfl, Nat.le_of_ble_eq_true rfl⟩) hK hN (hZ.kept hS) rfl hl.1 rfl (Nat.le_of_ble_eq_true rfl) dX1_run_2 ⟨Nat.le_of_ble_eq_true rfl, Nat.le_of_ble_eq_true rfl⟩ (fun r_1 hr_1 => ?_)
  obtain rfl := hr_1
  refine lv_istore (lv' := [(5, .int 10), (0, .ref mv), (1, .int 0), (2, .int 0), (3, .int x), (4, .int 1)]) hx hb dX1_run_5 hl (by decide) rfl (fun ls hl => ?_)
  refine lv_iload hx hb dX1_run_7 (lv_at hl 0 rfl) ?_
  refine lv_iconst (v := (-1)) hx hb dX1_run_9 (by decide) ?_
  refine lv_icmp_eq (tgt := 20) hx hb dX1_run_10 (by decide) (fun c_2 => ?_) (fun c_2 => ?_)
  · exact absurd c_2 (by decide)
  · refine lv_iload hx hb dX1_run_13 (lv_at hl 5 rfl) ?_
    refine lv_bipush (v := 40) hx hb dX1_run_15 (by decide) ?_
    refine lv_icmp_lt (tgt := 22) hx hb dX1_run_17 (by decide) (fun c_3 => ?_) (fun c_3 => ?_)
    · refine lv_aload_n hx hb dX1_run_22 rfl (lv_at hl 1 rfl) ?_
      refine lv_iload hx hb dX1_run_23 (lv_at hl 0 rfl) ?_
      skip
      refine zw_Vv (As := [.int 10]) (rest := []) (wr := []) ⟨hx, hb, hml, hown, hts⟩ (c_M_note l D cI cJ cZ cP cS po mv mb (mr) (3) (mm) (mq) fb (10) hy0 (by omega) H.size) (cwV 1 hts gX1_run_X1_note rfl rfl rfl ⟨rfl, dh_X1_note⟩ ⟨Nat.le_of_ble_eq_true rfl, Nat.le_of_ble_eq_true rfl⟩) hK hN (hZ.kept hS) hP hD hS hA [0, 1] [] rfl rfl (by decide) (by decide) (by decide) (va_recv (q := (RX1, TX1, 5)) hK hP (ci := 1) (q0 := 0) rfl rfl) rfl hl.1 rfl (Nat.le_of_ble_eq_true rfl) dX1_run_25 ⟨Nat.le_of_ble_eq_true rfl, Nat.le_of_ble_eq_true rfl⟩ (fun u_5 H locs hr_4 hP hD hS => ?_)
      obtain ⟨q_6, q_7⟩ := u_5
      try dsimp only at hr_4
      obtain ⟨hbq_6, hr_4⟩ := hr_4
      have h9R := zRe (ws' := [(mv, .inr (1, [.ref mb, .int q_6, .int 3, .int mm, .int mq])), (mb, .inl (cI, 20, .inl q_7))]) hP hD rfl
      clear hP hD
      obtain ⟨hP, hD⟩ := h9R
      refine lv_iload hx hb dX1_run_28 (lv_at hl 5 rfl) ?_
      refine lv_iconst (v := 1) hx hb dX1_run_30 (by decide) ?_
      refine lv_iadd hx hb dX1_run_31 ?_
      refine lv_topi (fun y_8 ey_8 => ?_)
      obtain rfl : y_8 = 2 := ey_8.trans (by decide)
      refine lv_istore (lv' := [(6, .int 2), (5, .int 10), (0, .ref mv), (1, .int 0), (2, .int 0), (3, .int x), (4, .int 1)]) hx hb dX1_run_32 hl (by decide) rfl (fun ls hl => ?_)
      refine lv_iload hx hb dX1_run_34 (lv_at hl 1 rfl) ?_
      refine lv_lookup (off := 92) (tgt := 128) hx hb dX1_run_36 (by decide) (by decide) (by decide) ?_
      refine lv_iload_n hx hb dX1_run_128 rfl (lv_at hl 5 rfl) ?_
      refine lv_aload_n hx hb dX1_run_129 rfl (lv_at hl 2 rfl) ?_
      refine va_get (D := D) (ci := 1) (v := .int mm) (C := RX1) (T := TX1) (N := 5) hx hb hts hi_X1_run_1 hown hK hP 0 rfl rfl 3 (by decide) (hts (.fieldLink RX1 22 "TheLiningsInIt$Moves" "m" "I") (List.mem_of_getElem? (i := 1) rfl)) (fun _ h9 => h9) rfl dX1_run_130 ?_
      refine lv_iadd hx hb dX1_run_133 ?_
      refine lv_topi (fun x_9 ex_9 => ?_)
      exact W.iret (v := x_9) hx hb hr (fun t ht hW => ⟨⟨x_9, (q_6, q_7), rfl, ⟨(show q_6.toInt = mr.toInt + 1 from by omega), trivial⟩, zRet ht hP hD [0, 1] (by decide) rfl⟩, hS.F ht⟩) hS.2.2 dX1_run_134
    · exact absurd c_3 (by decide)
set_option maxHeartbeats 4000000 in
set_option maxRecDepth 100000 in
theorem c_M_run_3_3_0_0 (l : Launch) (D : va_G) (cI cJ cZ cP cS : ClassId) (po : zPool) (mv mb : Nat) (mr mm mq : Int32) (fb : Nat → Int32) (x : Int32) (hy0 : 0 ≤ mr.toInt) (hy1 : mr.toInt ≤ 1000) (hpz : Nat) : Met l yX1_run wsX1_run ({ frames := 3, cells := 0, slots := 0, locals := 72 }) (va_Pc [.ref mv, .int 3, .int 0, .int x, .int 0] (zW D (zKT cI cJ cZ cP cS) po [(mv, .inr (1, [.ref mb, .int mr, .int 3, .int mm, .int mq])), (mb, .inl (cI, 20, .inl fb))] hpz)) (va_Qi (fun (r : Int32) (u : (Int32) × (Nat → Int32)) => u.1.toInt = mr.toInt + 2 ∧ (True)) (zB D [(mv, .inr (1, [.ref mb, .int mr, .int 3, .int mm, .int mq])), (mb, .inl (cI, 20, .inl fb))] hpz (fun (u : (Int32) × (Nat → Int32)) => [(mv, .inr (1, [.ref mb, .int u.1, .int 3, .int mm, .int mq])), (mb, .inl (cI, 20, .inl u.2))])) (va_A [(mv, .inr (1, [.ref mb, .int mr, .int 3, .int mm, .int mq])), (mb, .inl (cI, 20, .inl fb))] hpz)) 0 0 (va_A [(mv, .inr (1, [.ref mb, .int mr, .int 3, .int mm, .int mq])), (mb, .inl (cI, 20, .inl fb))] hpz) := by
  refine Met.ofW (cc := cX1_run) (maxL := 7) (ret := (some .int)) (by decide) rfl ?_
  intro p e s m args below meth c s₁ B hml hv
  obtain ⟨rfl, hsz, hP, hK, hD0, hN, hZ⟩ := hv
  have hx := B.exec
  have hb := B.bytes
  have hr := B.returns
  have hts := atoms_spec (ws := wsX1_run) B.pre
  have hown : s.vm.findClass RX1 = some m.cls := findClass_of_methodNamed B.named
  have hlocks := B.notSynchronized
  subst hsz
  have hD := hD0.self (sz := s.heap.size)
  have hA := zA_of hD
  have hl := lv_entry ([.ref mv, .int 3, .int 0, .int x, .int 0]) (n := 7) (Nat.le_of_ble_eq_true rfl)
  rw [lg_entry_eq]
  generalize (lg_sl ([.ref mv, .int 3, .int 0, .int x, .int 0]) ++ List.replicate (7 - (lg_sl ([.ref mv, .int 3, .int 0, .int x, .int 0])).length) Slot.unset).toArray = ls at hl ⊢
  replace hl : lv_has ls 7 [(0, .ref mv), (1, .int 3), (2, .int 0), (3, .int x), (4, .int 0)] := hl
  refine zw_begin hP hD (fun H locs hP1 hS => ?_)
  clear hP
  have hP := hP1
  clear hP1
  refine lv_iload_n hx hb dX1_run_0 rfl (lv_at hl 1 rfl) ?_
  refine lv_iload_n hx hb dX1_run_1 rfl (lv_at hl 2 rfl) ?_
  refine zc_S (As := [.int 3, .int 0]) (rest := []) ⟨hx, hb, hml, hown, hts⟩ (c_M_bodyFor_3_0 l D cI cJ cZ cP cS po  ) (va_cwS 2 hts gX1_run_X1_bodyFor rfl rfl rfl dh_X1_bodyFor ⟨Nat.le_of_ble_eq_true rfl, Nat.le_of_ble_eq_true rfl⟩) hK hN (hZ.kept hS) rfl hl.1 rfl (Nat.le_of_ble_eq_true rfl) dX1_run_2 ⟨Nat.le_of_ble_eq_true rfl, Nat.le_of_ble_eq_true rfl⟩ (fun r_1 hr_1 => ?_)
  obtain rfl := hr_1
  refine lv_istore (lv' := [(5, .int 20), (0, .ref mv), (1, .int 3), (2, .int 0), (3, .int x), (4, .int 0)]) hx hb dX1_run_5 hl (by decide) rfl (fun ls hl => ?_)
  refine lv_iload hx hb dX1_run_7 (lv_at hl 0 rfl) ?_
  refine lv_iconst (v := (-1)) hx hb dX1_run_9 (by decide) ?_
  refine lv_icmp_eq (tgt := 20) hx hb dX1_run_10 (by decide) (fun c_2 => ?_) (fun c_2 => ?_)
  · exact absurd c_2 (by decide)
  · refine lv_iload hx hb dX1_run_13 (lv_at hl 5 rfl) ?_
    refine lv_bipush (v := 40) hx hb dX1_run_15 (by decide) ?_
    refine lv_icmp_lt (tgt := 22) hx hb dX1_run_17 (by decide) (fun c_3 => ?_) (fun c_3 => ?_)
    · refine lv_aload_n hx hb dX1_run_22 rfl (lv_at hl 1 rfl) ?_
      refine lv_iload hx hb dX1_run_23 (lv_at hl 0 rfl) ?_
      skip
      refine zw_Vv (As := [.int 20]) (rest := []) (wr := []) ⟨hx, hb, hml, hown, hts⟩ (c_M_note l D cI cJ cZ cP cS po mv mb (mr) (3) (mm) (mq) fb (20) hy0 (by omega) H.size) (cwV 1 hts gX1_run_X1_note rfl rfl rfl ⟨rfl, dh_X1_note⟩ ⟨Nat.le_of_ble_eq_true rfl, Nat.le_of_ble_eq_true rfl⟩) hK hN (hZ.kept hS) hP hD hS hA [0, 1] [] rfl rfl (by decide) (by decide) (by decide) (va_recv (q := (RX1, TX1, 5)) hK hP (ci := 1) (q0 := 0) rfl rfl) rfl hl.1 rfl (Nat.le_of_ble_eq_true rfl) dX1_run_25 ⟨Nat.le_of_ble_eq_true rfl, Nat.le_of_ble_eq_true rfl⟩ (fun u_5 H locs hr_4 hP hD hS => ?_)
      obtain ⟨q_6, q_7⟩ := u_5
      try dsimp only at hr_4
      obtain ⟨hbq_6, hr_4⟩ := hr_4
      have h9R := zRe (ws' := [(mv, .inr (1, [.ref mb, .int q_6, .int 3, .int mm, .int mq])), (mb, .inl (cI, 20, .inl q_7))]) hP hD rfl
      clear hP hD
      obtain ⟨hP, hD⟩ := h9R
      refine lv_iload hx hb dX1_run_28 (lv_at hl 5 rfl) ?_
      refine lv_iconst (v := 1) hx hb dX1_run_30 (by decide) ?_
      refine lv_iadd hx hb dX1_run_31 ?_
      refine lv_topi (fun y_8 ey_8 => ?_)
      obtain rfl : y_8 = 1 := ey_8.trans (by decide)
      refine lv_istore (lv' := [(6, .int 1), (5, .int 20), (0, .ref mv), (1, .int 3), (2, .int 0), (3, .int x), (4, .int 0)]) hx hb dX1_run_32 hl (by decide) rfl (fun ls hl => ?_)
      refine lv_iload hx hb dX1_run_34 (lv_at hl 1 rfl) ?_
      refine lv_lookup (off := 145) (tgt := 181) hx hb dX1_run_36 (by decide) (by decide) (by decide) ?_
      refine lv_aload_n hx hb dX1_run_181 rfl (lv_at hl 2 rfl) ?_
      refine lv_iconst (v := 0) hx hb dX1_run_182 (by decide) ?_
      refine lv_iconst (v := 0) hx hb dX1_run_183 (by decide) ?_
      refine lv_iload_n hx hb dX1_run_184 rfl (lv_at hl 5 rfl) ?_
      refine lv_iload hx hb dX1_run_185 (lv_at hl 0 rfl) ?_
      skip
      refine zw_V (As := [.int 0, .int 0, .int x, .int 1]) (rest := []) (wr := []) ⟨hx, hb, hml, hown, hts⟩ (c_M_run_3_0_0_1 l D cI cJ cZ cP cS po mv mb (q_6) (mm) (mq) q_7 (x) (by omega) (by omega) H.size) (cwV 4 hts gX1_run_X1_run rfl rfl rfl ⟨rfl, dh_X1_run⟩ ⟨Nat.le_of_ble_eq_true rfl, Nat.le_of_ble_eq_true rfl⟩) hK hN (hZ.kept hS) hP hD hS hA [0, 1] [] rfl rfl (by decide) (by decide) (by decide) (va_recv (q := (RX1, TX1, 5)) hK hP (ci := 1) (q0 := 0) rfl rfl) rfl hl.1 rfl (Nat.le_of_ble_eq_true rfl) dX1_run_187 ⟨Nat.le_of_ble_eq_true rfl, Nat.le_of_ble_eq_true rfl⟩ (fun r_9 u_10 H locs hr_9 hP hD hS => ?_)
      obtain ⟨q_11, q_12⟩ := u_10
      try dsimp only at hr_9
      obtain ⟨hbq_11, hr_9⟩ := hr_9
      have h9R := zRe (ws' := [(mv, .inr (1, [.ref mb, .int q_11, .int 3, .int mm, .int mq])), (mb, .inl (cI, 20, .inl q_12))]) hP hD rfl
      clear hP hD
      obtain ⟨hP, hD⟩ := h9R
      refine lv_aload_n hx hb dX1_run_190 rfl (lv_at hl 2 rfl) ?_
      refine va_get (D := D) (ci := 1) (v := .int mq) (C := RX1) (T := TX1) (N := 5) hx hb hts hi_X1_run_1 hown hK hP 0 rfl rfl 4 (by decide) (hts (.fieldLink RX1 25 "TheLiningsInIt$Moves" "k" "I") (List.mem_of_getElem? (i := 3) rfl)) (fun _ h9 => h9) rfl dX1_run_191 ?_
      refine lv_iadd hx hb dX1_run_194 ?_
      refine lv_topi (fun x_13 ex_13 => ?_)
      exact W.iret (v := x_13) hx hb hr (fun t ht hW => ⟨⟨x_13, (q_11, q_12), rfl, ⟨(show q_11.toInt = mr.toInt + 2 from by omega), trivial⟩, zRet ht hP hD [0, 1] (by decide) rfl⟩, hS.F ht⟩) hS.2.2 dX1_run_195
    · exact absurd c_3 (by decide)
set_option maxHeartbeats 4000000 in
set_option maxRecDepth 100000 in
theorem c_M_run_3_0_0_3 (l : Launch) (D : va_G) (cI cJ cZ cP cS : ClassId) (po : zPool) (mv mb : Nat) (mr mm mq : Int32) (fb : Nat → Int32) (x : Int32) (hy0 : 0 ≤ mr.toInt) (hy1 : mr.toInt ≤ 1300) (hpz : Nat) : Met l yX1_run wsX1_run ({ frames := 2, cells := 0, slots := 0, locals := 46 }) (va_Pc [.ref mv, .int 0, .int 0, .int x, .int 3] (zW D (zKT cI cJ cZ cP cS) po [(mv, .inr (1, [.ref mb, .int mr, .int 3, .int mm, .int mq])), (mb, .inl (cI, 20, .inl fb))] hpz)) (va_Qi (fun (r : Int32) (u : (Int32) × (Nat → Int32)) => u.1.toInt = mr.toInt + 1 ∧ (True)) (zB D [(mv, .inr (1, [.ref mb, .int mr, .int 3, .int mm, .int mq])), (mb, .inl (cI, 20, .inl fb))] hpz (fun (u : (Int32) × (Nat → Int32)) => [(mv, .inr (1, [.ref mb, .int u.1, .int 3, .int mm, .int mq])), (mb, .inl (cI, 20, .inl u.2))])) (va_A [(mv, .inr (1, [.ref mb, .int mr, .int 3, .int mm, .int mq])), (mb, .inl (cI, 20, .inl fb))] hpz)) 0 0 (va_A [(mv, .inr (1, [.ref mb, .int mr, .int 3, .int mm, .int mq])), (mb, .inl (cI, 20, .inl fb))] hpz) := by
  refine Met.ofW (cc := cX1_run) (maxL := 7) (ret := (some .int)) (by decide) rfl ?_
  intro p e s m args below meth c s₁ B hml hv
  obtain ⟨rfl, hsz, hP, hK, hD0, hN, hZ⟩ := hv
  have hx := B.exec
  have hb := B.bytes
  have hr := B.returns
  have hts := atoms_spec (ws := wsX1_run) B.pre
  have hown : s.vm.findClass RX1 = some m.cls := findClass_of_methodNamed B.named
  have hlocks := B.notSynchronized
  subst hsz
  have hD := hD0.self (sz := s.heap.size)
  have hA := zA_of hD
  have hl := lv_entry ([.ref mv, .int 0, .int 0, .int x, .int 3]) (n := 7) (Nat.le_of_ble_eq_true rfl)
  rw [lg_entry_eq]
  generalize (lg_sl ([.ref mv, .int 0, .int 0, .int x, .int 3]) ++ List.replicate (7 - (lg_sl ([.ref mv, .int 0, .int 0, .int x, .int 3])).length) Slot.unset).toArray = ls at hl ⊢
  replace hl : lv_has ls 7 [(0, .ref mv), (1, .int 0), (2, .int 0), (3, .int x), (4, .int 3)] := hl
  refine zw_begin hP hD (fun H locs hP1 hS => ?_)
  clear hP
  have hP := hP1
  clear hP1
  refine lv_iload_n hx hb dX1_run_0 rfl (lv_at hl 1 rfl) ?_
  refine lv_iload_n hx hb dX1_run_1 rfl (lv_at hl 2 rfl) ?_
  refine zc_S (As := [.int 0, .int 0]) (rest := []) ⟨hx, hb, hml, hown, hts⟩ (c_M_bodyFor_0_0 l D cI cJ cZ cP cS po  ) (va_cwS 2 hts gX1_run_X1_bodyFor rfl rfl rfl dh_X1_bodyFor ⟨Nat.le_of_ble_eq_true rfl, Nat.le_of_ble_eq_true rfl⟩) hK hN (hZ.kept hS) rfl hl.1 rfl (Nat.le_of_ble_eq_true rfl) dX1_run_2 ⟨Nat.le_of_ble_eq_true rfl, Nat.le_of_ble_eq_true rfl⟩ (fun r_1 hr_1 => ?_)
  obtain rfl := hr_1
  refine lv_istore (lv' := [(5, .int 10), (0, .ref mv), (1, .int 0), (2, .int 0), (3, .int x), (4, .int 3)]) hx hb dX1_run_5 hl (by decide) rfl (fun ls hl => ?_)
  refine lv_iload hx hb dX1_run_7 (lv_at hl 0 rfl) ?_
  refine lv_iconst (v := (-1)) hx hb dX1_run_9 (by decide) ?_
  refine lv_icmp_eq (tgt := 20) hx hb dX1_run_10 (by decide) (fun c_2 => ?_) (fun c_2 => ?_)
  · exact absurd c_2 (by decide)
  · refine lv_iload hx hb dX1_run_13 (lv_at hl 5 rfl) ?_
    refine lv_bipush (v := 40) hx hb dX1_run_15 (by decide) ?_
    refine lv_icmp_lt (tgt := 22) hx hb dX1_run_17 (by decide) (fun c_3 => ?_) (fun c_3 => ?_)
    · refine lv_aload_n hx hb dX1_run_22 rfl (lv_at hl 1 rfl) ?_
      refine lv_iload hx hb dX1_run_23 (lv_at hl 0 rfl) ?_
      skip
      refine zw_Vv (As := [.int 10]) (rest := []) (wr := []) ⟨hx, hb, hml, hown, hts⟩ (c_M_note l D cI cJ cZ cP cS po mv mb (mr) (3) (mm) (mq) fb (10) hy0 (by omega) H.size) (cwV 1 hts gX1_run_X1_note rfl rfl rfl ⟨rfl, dh_X1_note⟩ ⟨Nat.le_of_ble_eq_true rfl, Nat.le_of_ble_eq_true rfl⟩) hK hN (hZ.kept hS) hP hD hS hA [0, 1] [] rfl rfl (by decide) (by decide) (by decide) (va_recv (q := (RX1, TX1, 5)) hK hP (ci := 1) (q0 := 0) rfl rfl) rfl hl.1 rfl (Nat.le_of_ble_eq_true rfl) dX1_run_25 ⟨Nat.le_of_ble_eq_true rfl, Nat.le_of_ble_eq_true rfl⟩ (fun u_5 H locs hr_4 hP hD hS => ?_)
      obtain ⟨q_6, q_7⟩ := u_5
      try dsimp only at hr_4
      obtain ⟨hbq_6, hr_4⟩ := hr_4
      have h9R := zRe (ws' := [(mv, .inr (1, [.ref mb, .int q_6, .int 3, .int mm, .int mq])), (mb, .inl (cI, 20, .inl q_7))]) hP hD rfl
      clear hP hD
      obtain ⟨hP, hD⟩ := h9R
      refine lv_iload hx hb dX1_run_28 (lv_at hl 5 rfl) ?_
      refine lv_iconst (v := 1) hx hb dX1_run_30 (by decide) ?_
      refine lv_iadd hx hb dX1_run_31 ?_
      refine lv_topi (fun y_8 ey_8 => ?_)
      obtain rfl : y_8 = 4 := ey_8.trans (by decide)
      refine lv_istore (lv' := [(6, .int 4), (5, .int 10), (0, .ref mv), (1, .int 0), (2, .int 0), (3, .int x), (4, .int 3)]) hx hb dX1_run_32 hl (by decide) rfl (fun ls hl => ?_)
      refine lv_iload hx hb dX1_run_34 (lv_at hl 1 rfl) ?_
      refine lv_lookup (off := 92) (tgt := 128) hx hb dX1_run_36 (by decide) (by decide) (by decide) ?_
      refine lv_iload_n hx hb dX1_run_128 rfl (lv_at hl 5 rfl) ?_
      refine lv_aload_n hx hb dX1_run_129 rfl (lv_at hl 2 rfl) ?_
      refine va_get (D := D) (ci := 1) (v := .int mm) (C := RX1) (T := TX1) (N := 5) hx hb hts hi_X1_run_1 hown hK hP 0 rfl rfl 3 (by decide) (hts (.fieldLink RX1 22 "TheLiningsInIt$Moves" "m" "I") (List.mem_of_getElem? (i := 1) rfl)) (fun _ h9 => h9) rfl dX1_run_130 ?_
      refine lv_iadd hx hb dX1_run_133 ?_
      refine lv_topi (fun x_9 ex_9 => ?_)
      exact W.iret (v := x_9) hx hb hr (fun t ht hW => ⟨⟨x_9, (q_6, q_7), rfl, ⟨(show q_6.toInt = mr.toInt + 1 from by omega), trivial⟩, zRet ht hP hD [0, 1] (by decide) rfl⟩, hS.F ht⟩) hS.2.2 dX1_run_134
    · exact absurd c_3 (by decide)
set_option maxHeartbeats 4000000 in
set_option maxRecDepth 100000 in
theorem c_M_run_3_3_0_2 (l : Launch) (D : va_G) (cI cJ cZ cP cS : ClassId) (po : zPool) (mv mb : Nat) (mr mm mq : Int32) (fb : Nat → Int32) (x : Int32) (hy0 : 0 ≤ mr.toInt) (hy1 : mr.toInt ≤ 1200) (hpz : Nat) : Met l yX1_run wsX1_run ({ frames := 3, cells := 0, slots := 0, locals := 72 }) (va_Pc [.ref mv, .int 3, .int 0, .int x, .int 2] (zW D (zKT cI cJ cZ cP cS) po [(mv, .inr (1, [.ref mb, .int mr, .int 3, .int mm, .int mq])), (mb, .inl (cI, 20, .inl fb))] hpz)) (va_Qi (fun (r : Int32) (u : (Int32) × (Nat → Int32)) => u.1.toInt = mr.toInt + 2 ∧ (True)) (zB D [(mv, .inr (1, [.ref mb, .int mr, .int 3, .int mm, .int mq])), (mb, .inl (cI, 20, .inl fb))] hpz (fun (u : (Int32) × (Nat → Int32)) => [(mv, .inr (1, [.ref mb, .int u.1, .int 3, .int mm, .int mq])), (mb, .inl (cI, 20, .inl u.2))])) (va_A [(mv, .inr (1, [.ref mb, .int mr, .int 3, .int mm, .int mq])), (mb, .inl (cI, 20, .inl fb))] hpz)) 0 0 (va_A [(mv, .inr (1, [.ref mb, .int mr, .int 3, .int mm, .int mq])), (mb, .inl (cI, 20, .inl fb))] hpz) := by
  refine Met.ofW (cc := cX1_run) (maxL := 7) (ret := (some .int)) (by decide) rfl ?_
  intro p e s m args below meth c s₁ B hml hv
  obtain ⟨rfl, hsz, hP, hK, hD0, hN, hZ⟩ := hv
  have hx := B.exec
  have hb := B.bytes
  have hr := B.returns
  have hts := atoms_spec (ws := wsX1_run) B.pre
  have hown : s.vm.findClass RX1 = some m.cls := findClass_of_methodNamed B.named
  have hlocks := B.notSynchronized
  subst hsz
  have hD := hD0.self (sz := s.heap.size)
  have hA := zA_of hD
  have hl := lv_entry ([.ref mv, .int 3, .int 0, .int x, .int 2]) (n := 7) (Nat.le_of_ble_eq_true rfl)
  rw [lg_entry_eq]
  generalize (lg_sl ([.ref mv, .int 3, .int 0, .int x, .int 2]) ++ List.replicate (7 - (lg_sl ([.ref mv, .int 3, .int 0, .int x, .int 2])).length) Slot.unset).toArray = ls at hl ⊢
  replace hl : lv_has ls 7 [(0, .ref mv), (1, .int 3), (2, .int 0), (3, .int x), (4, .int 2)] := hl
  refine zw_begin hP hD (fun H locs hP1 hS => ?_)
  clear hP
  have hP := hP1
  clear hP1
  refine lv_iload_n hx hb dX1_run_0 rfl (lv_at hl 1 rfl) ?_
  refine lv_iload_n hx hb dX1_run_1 rfl (lv_at hl 2 rfl) ?_
  refine zc_S (As := [.int 3, .int 0]) (rest := []) ⟨hx, hb, hml, hown, hts⟩ (c_M_bodyFor_3_0 l D cI cJ cZ cP cS po  ) (va_cwS 2 hts gX1_run_X1_bodyFor rfl rfl rfl dh_X1_bodyFor ⟨Nat.le_of_ble_eq_true rfl, Nat.le_of_ble_eq_true rfl⟩) hK hN (hZ.kept hS) rfl hl.1 rfl (Nat.le_of_ble_eq_true rfl) dX1_run_2 ⟨Nat.le_of_ble_eq_true rfl, Nat.le_of_ble_eq_true rfl⟩ (fun r_1 hr_1 => ?_)
  obtain rfl := hr_1
  refine lv_istore (lv' := [(5, .int 20), (0, .ref mv), (1, .int 3), (2, .int 0), (3, .int x), (4, .int 2)]) hx hb dX1_run_5 hl (by decide) rfl (fun ls hl => ?_)
  refine lv_iload hx hb dX1_run_7 (lv_at hl 0 rfl) ?_
  refine lv_iconst (v := (-1)) hx hb dX1_run_9 (by decide) ?_
  refine lv_icmp_eq (tgt := 20) hx hb dX1_run_10 (by decide) (fun c_2 => ?_) (fun c_2 => ?_)
  · exact absurd c_2 (by decide)
  · refine lv_iload hx hb dX1_run_13 (lv_at hl 5 rfl) ?_
    refine lv_bipush (v := 40) hx hb dX1_run_15 (by decide) ?_
    refine lv_icmp_lt (tgt := 22) hx hb dX1_run_17 (by decide) (fun c_3 => ?_) (fun c_3 => ?_)
    · refine lv_aload_n hx hb dX1_run_22 rfl (lv_at hl 1 rfl) ?_
      refine lv_iload hx hb dX1_run_23 (lv_at hl 0 rfl) ?_
      skip
      refine zw_Vv (As := [.int 20]) (rest := []) (wr := []) ⟨hx, hb, hml, hown, hts⟩ (c_M_note l D cI cJ cZ cP cS po mv mb (mr) (3) (mm) (mq) fb (20) hy0 (by omega) H.size) (cwV 1 hts gX1_run_X1_note rfl rfl rfl ⟨rfl, dh_X1_note⟩ ⟨Nat.le_of_ble_eq_true rfl, Nat.le_of_ble_eq_true rfl⟩) hK hN (hZ.kept hS) hP hD hS hA [0, 1] [] rfl rfl (by decide) (by decide) (by decide) (va_recv (q := (RX1, TX1, 5)) hK hP (ci := 1) (q0 := 0) rfl rfl) rfl hl.1 rfl (Nat.le_of_ble_eq_true rfl) dX1_run_25 ⟨Nat.le_of_ble_eq_true rfl, Nat.le_of_ble_eq_true rfl⟩ (fun u_5 H locs hr_4 hP hD hS => ?_)
      obtain ⟨q_6, q_7⟩ := u_5
      try dsimp only at hr_4
      obtain ⟨hbq_6, hr_4⟩ := hr_4
      have h9R := zRe (ws' := [(mv, .inr (1, [.ref mb, .int q_6, .int 3, .int mm, .int mq])), (mb, .inl (cI, 20, .inl q_7))]) hP hD rfl
      clear hP hD
      obtain ⟨hP, hD⟩ := h9R
      refine lv_iload hx hb dX1_run_28 (lv_at hl 5 rfl) ?_
      refine lv_iconst (v := 1) hx hb dX1_run_30 (by decide) ?_
      refine lv_iadd hx hb dX1_run_31 ?_
      refine lv_topi (fun y_8 ey_8 => ?_)
      obtain rfl : y_8 = 3 := ey_8.trans (by decide)
      refine lv_istore (lv' := [(6, .int 3), (5, .int 20), (0, .ref mv), (1, .int 3), (2, .int 0), (3, .int x), (4, .int 2)]) hx hb dX1_run_32 hl (by decide) rfl (fun ls hl => ?_)
      refine lv_iload hx hb dX1_run_34 (lv_at hl 1 rfl) ?_
      refine lv_lookup (off := 145) (tgt := 181) hx hb dX1_run_36 (by decide) (by decide) (by decide) ?_
      refine lv_aload_n hx hb dX1_run_181 rfl (lv_at hl 2 rfl) ?_
      refine lv_iconst (v := 0) hx hb dX1_run_182 (by decide) ?_
      refine lv_iconst (v := 0) hx hb dX1_run_183 (by decide) ?_
      refine lv_iload_n hx hb dX1_run_184 rfl (lv_at hl 5 rfl) ?_
      refine lv_iload hx hb dX1_run_185 (lv_at hl 0 rfl) ?_
      skip
      refine zw_V (As := [.int 0, .int 0, .int x, .int 3]) (rest := []) (wr := []) ⟨hx, hb, hml, hown, hts⟩ (c_M_run_3_0_0_3 l D cI cJ cZ cP cS po mv mb (q_6) (mm) (mq) q_7 (x) (by omega) (by omega) H.size) (cwV 4 hts gX1_run_X1_run rfl rfl rfl ⟨rfl, dh_X1_run⟩ ⟨Nat.le_of_ble_eq_true rfl, Nat.le_of_ble_eq_true rfl⟩) hK hN (hZ.kept hS) hP hD hS hA [0, 1] [] rfl rfl (by decide) (by decide) (by decide) (va_recv (q := (RX1, TX1, 5)) hK hP (ci := 1) (q0 := 0) rfl rfl) rfl hl.1 rfl (Nat.le_of_ble_eq_true rfl) dX1_run_187 ⟨Nat.le_of_ble_eq_true rfl, Nat.le_of_ble_eq_true rfl⟩ (fun r_9 u_10 H locs hr_9 hP hD hS => ?_)
      obtain ⟨q_11, q_12⟩ := u_10
      try dsimp only at hr_9
      obtain ⟨hbq_11, hr_9⟩ := hr_9
      have h9R := zRe (ws' := [(mv, .inr (1, [.ref mb, .int q_11, .int 3, .int mm, .int mq])), (mb, .inl (cI, 20, .inl q_12))]) hP hD rfl
      clear hP hD
      obtain ⟨hP, hD⟩ := h9R
      refine lv_aload_n hx hb dX1_run_190 rfl (lv_at hl 2 rfl) ?_
      refine va_get (D := D) (ci := 1) (v := .int mq) (C := RX1) (T := TX1) (N := 5) hx hb hts hi_X1_run_1 hown hK hP 0 rfl rfl 4 (by decide) (hts (.fieldLink RX1 25 "TheLiningsInIt$Moves" "k" "I") (List.mem_of_getElem? (i := 3) rfl)) (fun _ h9 => h9) rfl dX1_run_191 ?_
      refine lv_iadd hx hb dX1_run_194 ?_
      refine lv_topi (fun x_13 ex_13 => ?_)
      exact W.iret (v := x_13) hx hb hr (fun t ht hW => ⟨⟨x_13, (q_11, q_12), rfl, ⟨(show q_11.toInt = mr.toInt + 2 from by omega), trivial⟩, zRet ht hP hD [0, 1] (by decide) rfl⟩, hS.F ht⟩) hS.2.2 dX1_run_195
    · exact absurd c_3 (by decide)
set_option maxHeartbeats 4000000 in
set_option maxRecDepth 100000 in
theorem c_M_run_3_1_1_1 (l : Launch) (D : va_G) (cI cJ cZ cP cS : ClassId) (po : zPool) (mv mb : Nat) (mr mm mq : Int32) (fb : Nat → Int32) (x : Int32) (hy0 : 0 ≤ mr.toInt) (hy1 : mr.toInt ≤ 1100) (hpz : Nat) : Met l yX1_run wsX1_run ({ frames := 4, cells := 0, slots := 0, locals := 98 }) (va_Pc [.ref mv, .int 1, .int 1, .int x, .int 1] (zW D (zKT cI cJ cZ cP cS) po [(mv, .inr (1, [.ref mb, .int mr, .int 3, .int mm, .int mq])), (mb, .inl (cI, 20, .inl fb))] hpz)) (va_Qi (fun (r : Int32) (u : (Int32) × (Nat → Int32)) => u.1.toInt = mr.toInt + 3 ∧ (True)) (zB D [(mv, .inr (1, [.ref mb, .int mr, .int 3, .int mm, .int mq])), (mb, .inl (cI, 20, .inl fb))] hpz (fun (u : (Int32) × (Nat → Int32)) => [(mv, .inr (1, [.ref mb, .int u.1, .int 3, .int mm, .int mq])), (mb, .inl (cI, 20, .inl u.2))])) (va_A [(mv, .inr (1, [.ref mb, .int mr, .int 3, .int mm, .int mq])), (mb, .inl (cI, 20, .inl fb))] hpz)) 0 0 (va_A [(mv, .inr (1, [.ref mb, .int mr, .int 3, .int mm, .int mq])), (mb, .inl (cI, 20, .inl fb))] hpz) := by
  refine Met.ofW (cc := cX1_run) (maxL := 7) (ret := (some .int)) (by decide) rfl ?_
  intro p e s m args below meth c s₁ B hml hv
  obtain ⟨rfl, hsz, hP, hK, hD0, hN, hZ⟩ := hv
  have hx := B.exec
  have hb := B.bytes
  have hr := B.returns
  have hts := atoms_spec (ws := wsX1_run) B.pre
  have hown : s.vm.findClass RX1 = some m.cls := findClass_of_methodNamed B.named
  have hlocks := B.notSynchronized
  subst hsz
  have hD := hD0.self (sz := s.heap.size)
  have hA := zA_of hD
  have hl := lv_entry ([.ref mv, .int 1, .int 1, .int x, .int 1]) (n := 7) (Nat.le_of_ble_eq_true rfl)
  rw [lg_entry_eq]
  generalize (lg_sl ([.ref mv, .int 1, .int 1, .int x, .int 1]) ++ List.replicate (7 - (lg_sl ([.ref mv, .int 1, .int 1, .int x, .int 1])).length) Slot.unset).toArray = ls at hl ⊢
  replace hl : lv_has ls 7 [(0, .ref mv), (1, .int 1), (2, .int 1), (3, .int x), (4, .int 1)] := hl
  refine zw_begin hP hD (fun H locs hP1 hS => ?_)
  clear hP
  have hP := hP1
  clear hP1
  refine lv_iload_n hx hb dX1_run_0 rfl (lv_at hl 1 rfl) ?_
  refine lv_iload_n hx hb dX1_run_1 rfl (lv_at hl 2 rfl) ?_
  refine zc_S (As := [.int 1, .int 1]) (rest := []) ⟨hx, hb, hml, hown, hts⟩ (c_M_bodyFor_1_1 l D cI cJ cZ cP cS po  ) (va_cwS 2 hts gX1_run_X1_bodyFor rfl rfl rfl dh_X1_bodyFor ⟨Nat.le_of_ble_eq_true rfl, Nat.le_of_ble_eq_true rfl⟩) hK hN (hZ.kept hS) rfl hl.1 rfl (Nat.le_of_ble_eq_true rfl) dX1_run_2 ⟨Nat.le_of_ble_eq_true rfl, Nat.le_of_ble_eq_true rfl⟩ (fun r_1 hr_1 => ?_)
  obtain rfl := hr_1
  refine lv_istore (lv' := [(5, .int 11), (0, .ref mv), (1, .int 1), (2, .int 1), (3, .int x), (4, .int 1)]) hx hb dX1_run_5 hl (by decide) rfl (fun ls hl => ?_)
  refine lv_iload hx hb dX1_run_7 (lv_at hl 0 rfl) ?_
  refine lv_iconst (v := (-1)) hx hb dX1_run_9 (by decide) ?_
  refine lv_icmp_eq (tgt := 20) hx hb dX1_run_10 (by decide) (fun c_2 => ?_) (fun c_2 => ?_)
  · exact absurd c_2 (by decide)
  · refine lv_iload hx hb dX1_run_13 (lv_at hl 5 rfl) ?_
    refine lv_bipush (v := 40) hx hb dX1_run_15 (by decide) ?_
    refine lv_icmp_lt (tgt := 22) hx hb dX1_run_17 (by decide) (fun c_3 => ?_) (fun c_3 => ?_)
    · refine lv_aload_n hx hb dX1_run_22 rfl (lv_at hl 1 rfl) ?_
      refine lv_iload hx hb dX1_run_23 (lv_at hl 0 rfl) ?_
      skip
      refine zw_Vv (As := [.int 11]) (rest := []) (wr := []) ⟨hx, hb, hml, hown, hts⟩ (c_M_note l D cI cJ cZ cP cS po mv mb (mr) (3) (mm) (mq) fb (11) hy0 (by omega) H.size) (cwV 1 hts gX1_run_X1_note rfl rfl rfl ⟨rfl, dh_X1_note⟩ ⟨Nat.le_of_ble_eq_true rfl, Nat.le_of_ble_eq_true rfl⟩) hK hN (hZ.kept hS) hP hD hS hA [0, 1] [] rfl rfl (by decide) (by decide) (by decide) (va_recv (q := (RX1, TX1, 5)) hK hP (ci := 1) (q0 := 0) rfl rfl) rfl hl.1 rfl (Nat.le_of_ble_eq_true rfl) dX1_run_25 ⟨Nat.le_of_ble_eq_true rfl, Nat.le_of_ble_eq_true rfl⟩ (fun u_5 H locs hr_4 hP hD hS => ?_)
      obtain ⟨q_6, q_7⟩ := u_5
      try dsimp only at hr_4
      obtain ⟨hbq_6, hr_4⟩ := hr_4
      have h9R := zRe (ws' := [(mv, .inr (1, [.ref mb, .int q_6, .int 3, .int mm, .int mq])), (mb, .inl (cI, 20, .inl q_7))]) hP hD rfl
      clear hP hD
      obtain ⟨hP, hD⟩ := h9R
      refine lv_iload hx hb dX1_run_28 (lv_at hl 5 rfl) ?_
      refine lv_iconst (v := 1) hx hb dX1_run_30 (by decide) ?_
      refine lv_iadd hx hb dX1_run_31 ?_
      refine lv_topi (fun y_8 ey_8 => ?_)
      obtain rfl : y_8 = 2 := ey_8.trans (by decide)
      refine lv_istore (lv' := [(6, .int 2), (5, .int 11), (0, .ref mv), (1, .int 1), (2, .int 1), (3, .int x), (4, .int 1)]) hx hb dX1_run_32 hl (by decide) rfl (fun ls hl => ?_)
      refine lv_iload hx hb dX1_run_34 (lv_at hl 1 rfl) ?_
      refine lv_lookup (off := 99) (tgt := 135) hx hb dX1_run_36 (by decide) (by decide) (by decide) ?_
      refine lv_aload_n hx hb dX1_run_135 rfl (lv_at hl 2 rfl) ?_
      refine lv_aload_n hx hb dX1_run_136 rfl (lv_at hl 2 rfl) ?_
      refine va_get (D := D) (ci := 1) (v := .int 3) (C := RX1) (T := TX1) (N := 5) hx hb hts hi_X1_run_1 hown hK hP 0 rfl rfl 2 (by decide) (hts (.fieldLink RX1 19 "TheLiningsInIt$Moves" "kind" "I") (List.mem_of_getElem? (i := 2) rfl)) (fun _ h9 => h9) rfl dX1_run_137 ?_
      refine lv_iconst (v := 0) hx hb dX1_run_140 (by decide) ?_
      refine lv_iload_n hx hb dX1_run_141 rfl (lv_at hl 5 rfl) ?_
      refine lv_iload hx hb dX1_run_142 (lv_at hl 0 rfl) ?_
      skip
      refine zw_V (As := [.int 3, .int 0, .int x, .int 2]) (rest := []) (wr := []) ⟨hx, hb, hml, hown, hts⟩ (c_M_run_3_3_0_2 l D cI cJ cZ cP cS po mv mb (q_6) (mm) (mq) q_7 (x) (by omega) (by omega) H.size) (cwV 4 hts gX1_run_X1_run rfl rfl rfl ⟨rfl, dh_X1_run⟩ ⟨Nat.le_of_ble_eq_true rfl, Nat.le_of_ble_eq_true rfl⟩) hK hN (hZ.kept hS) hP hD hS hA [0, 1] [] rfl rfl (by decide) (by decide) (by decide) (va_recv (q := (RX1, TX1, 5)) hK hP (ci := 1) (q0 := 0) rfl rfl) rfl hl.1 rfl (Nat.le_of_ble_eq_true rfl) dX1_run_144 ⟨Nat.le_of_ble_eq_true rfl, Nat.le_of_ble_eq_true rfl⟩ (fun r_9 u_10 H locs hr_9 hP hD hS => ?_)
      obtain ⟨q_11, q_12⟩ := u_10
      try dsimp only at hr_9
      obtain ⟨hbq_11, hr_9⟩ := hr_9
      have h9R := zRe (ws' := [(mv, .inr (1, [.ref mb, .int q_11, .int 3, .int mm, .int mq])), (mb, .inl (cI, 20, .inl q_12))]) hP hD rfl
      clear hP hD
      obtain ⟨hP, hD⟩ := h9R
      refine lv_iconst (v := 2) hx hb dX1_run_147 (by decide) ?_
      refine lv_imul hx hb dX1_run_148 ?_
      refine lv_topi (fun x_13 ex_13 => ?_)
      exact W.iret (v := x_13) hx hb hr (fun t ht hW => ⟨⟨x_13, (q_11, q_12), rfl, ⟨(show q_11.toInt = mr.toInt + 3 from by omega), trivial⟩, zRet ht hP hD [0, 1] (by decide) rfl⟩, hS.F ht⟩) hS.2.2 dX1_run_149
    · exact absurd c_3 (by decide)
set_option maxHeartbeats 4000000 in
set_option maxRecDepth 100000 in
theorem c_M_run_3_3_1_0 (l : Launch) (D : va_G) (cI cJ cZ cP cS : ClassId) (po : zPool) (mv mb : Nat) (mr mm mq : Int32) (fb : Nat → Int32) (x : Int32) (hy0 : 0 ≤ mr.toInt) (hy1 : mr.toInt ≤ 1000) (hpz : Nat) : Met l yX1_run wsX1_run ({ frames := 5, cells := 0, slots := 0, locals := 124 }) (va_Pc [.ref mv, .int 3, .int 1, .int x, .int 0] (zW D (zKT cI cJ cZ cP cS) po [(mv, .inr (1, [.ref mb, .int mr, .int 3, .int mm, .int mq])), (mb, .inl (cI, 20, .inl fb))] hpz)) (va_Qi (fun (r : Int32) (u : (Int32) × (Nat → Int32)) => u.1.toInt = mr.toInt + 4 ∧ (True)) (zB D [(mv, .inr (1, [.ref mb, .int mr, .int 3, .int mm, .int mq])), (mb, .inl (cI, 20, .inl fb))] hpz (fun (u : (Int32) × (Nat → Int32)) => [(mv, .inr (1, [.ref mb, .int u.1, .int 3, .int mm, .int mq])), (mb, .inl (cI, 20, .inl u.2))])) (va_A [(mv, .inr (1, [.ref mb, .int mr, .int 3, .int mm, .int mq])), (mb, .inl (cI, 20, .inl fb))] hpz)) 0 0 (va_A [(mv, .inr (1, [.ref mb, .int mr, .int 3, .int mm, .int mq])), (mb, .inl (cI, 20, .inl fb))] hpz) := by
  refine Met.ofW (cc := cX1_run) (maxL := 7) (ret := (some .int)) (by decide) rfl ?_
  intro p e s m args below meth c s₁ B hml hv
  obtain ⟨rfl, hsz, hP, hK, hD0, hN, hZ⟩ := hv
  have hx := B.exec
  have hb := B.bytes
  have hr := B.returns
  have hts := atoms_spec (ws := wsX1_run) B.pre
  have hown : s.vm.findClass RX1 = some m.cls := findClass_of_methodNamed B.named
  have hlocks := B.notSynchronized
  subst hsz
  have hD := hD0.self (sz := s.heap.size)
  have hA := zA_of hD
  have hl := lv_entry ([.ref mv, .int 3, .int 1, .int x, .int 0]) (n := 7) (Nat.le_of_ble_eq_true rfl)
  rw [lg_entry_eq]
  generalize (lg_sl ([.ref mv, .int 3, .int 1, .int x, .int 0]) ++ List.replicate (7 - (lg_sl ([.ref mv, .int 3, .int 1, .int x, .int 0])).length) Slot.unset).toArray = ls at hl ⊢
  replace hl : lv_has ls 7 [(0, .ref mv), (1, .int 3), (2, .int 1), (3, .int x), (4, .int 0)] := hl
  refine zw_begin hP hD (fun H locs hP1 hS => ?_)
  clear hP
  have hP := hP1
  clear hP1
  refine lv_iload_n hx hb dX1_run_0 rfl (lv_at hl 1 rfl) ?_
  refine lv_iload_n hx hb dX1_run_1 rfl (lv_at hl 2 rfl) ?_
  refine zc_S (As := [.int 3, .int 1]) (rest := []) ⟨hx, hb, hml, hown, hts⟩ (c_M_bodyFor_3_1 l D cI cJ cZ cP cS po  ) (va_cwS 2 hts gX1_run_X1_bodyFor rfl rfl rfl dh_X1_bodyFor ⟨Nat.le_of_ble_eq_true rfl, Nat.le_of_ble_eq_true rfl⟩) hK hN (hZ.kept hS) rfl hl.1 rfl (Nat.le_of_ble_eq_true rfl) dX1_run_2 ⟨Nat.le_of_ble_eq_true rfl, Nat.le_of_ble_eq_true rfl⟩ (fun r_1 hr_1 => ?_)
  obtain rfl := hr_1
  refine lv_istore (lv' := [(5, .int 40), (0, .ref mv), (1, .int 3), (2, .int 1), (3, .int x), (4, .int 0)]) hx hb dX1_run_5 hl (by decide) rfl (fun ls hl => ?_)
  refine lv_iload hx hb dX1_run_7 (lv_at hl 0 rfl) ?_
  refine lv_iconst (v := (-1)) hx hb dX1_run_9 (by decide) ?_
  refine lv_icmp_eq (tgt := 20) hx hb dX1_run_10 (by decide) (fun c_2 => ?_) (fun c_2 => ?_)
  · exact absurd c_2 (by decide)
  · refine lv_iload hx hb dX1_run_13 (lv_at hl 5 rfl) ?_
    refine lv_bipush (v := 40) hx hb dX1_run_15 (by decide) ?_
    refine lv_icmp_lt (tgt := 22) hx hb dX1_run_17 (by decide) (fun c_3 => ?_) (fun c_3 => ?_)
    · refine lv_aload_n hx hb dX1_run_22 rfl (lv_at hl 1 rfl) ?_
      refine lv_iload hx hb dX1_run_23 (lv_at hl 0 rfl) ?_
      skip
      refine zw_Vv (As := [.int 40]) (rest := []) (wr := []) ⟨hx, hb, hml, hown, hts⟩ (c_M_note l D cI cJ cZ cP cS po mv mb (mr) (3) (mm) (mq) fb (40) hy0 (by omega) H.size) (cwV 1 hts gX1_run_X1_note rfl rfl rfl ⟨rfl, dh_X1_note⟩ ⟨Nat.le_of_ble_eq_true rfl, Nat.le_of_ble_eq_true rfl⟩) hK hN (hZ.kept hS) hP hD hS hA [0, 1] [] rfl rfl (by decide) (by decide) (by decide) (va_recv (q := (RX1, TX1, 5)) hK hP (ci := 1) (q0 := 0) rfl rfl) rfl hl.1 rfl (Nat.le_of_ble_eq_true rfl) dX1_run_25 ⟨Nat.le_of_ble_eq_true rfl, Nat.le_of_ble_eq_true rfl⟩ (fun u_5 H locs hr_4 hP hD hS => ?_)
      obtain ⟨q_6, q_7⟩ := u_5
      try dsimp only at hr_4
      obtain ⟨hbq_6, hr_4⟩ := hr_4
      have h9R := zRe (ws' := [(mv, .inr (1, [.ref mb, .int q_6, .int 3, .int mm, .int mq])), (mb, .inl (cI, 20, .inl q_7))]) hP hD rfl
      clear hP hD
      obtain ⟨hP, hD⟩ := h9R
      refine lv_iload hx hb dX1_run_28 (lv_at hl 5 rfl) ?_
      refine lv_iconst (v := 1) hx hb dX1_run_30 (by decide) ?_
      refine lv_iadd hx hb dX1_run_31 ?_
      refine lv_topi (fun y_8 ey_8 => ?_)
      obtain rfl : y_8 = 1 := ey_8.trans (by decide)
      refine lv_istore (lv' := [(6, .int 1), (5, .int 40), (0, .ref mv), (1, .int 3), (2, .int 1), (3, .int x), (4, .int 0)]) hx hb dX1_run_32 hl (by decide) rfl (fun ls hl => ?_)
      refine lv_iload hx hb dX1_run_34 (lv_at hl 1 rfl) ?_
      refine lv_lookup (off := 172) (tgt := 208) hx hb dX1_run_36 (by decide) (by decide) (by decide) ?_
      refine lv_aload_n hx hb dX1_run_208 rfl (lv_at hl 2 rfl) ?_
      refine lv_iconst (v := 1) hx hb dX1_run_209 (by decide) ?_
      refine lv_iconst (v := 1) hx hb dX1_run_210 (by decide) ?_
      refine lv_iload_n hx hb dX1_run_211 rfl (lv_at hl 5 rfl) ?_
      refine lv_iconst (v := 1) hx hb dX1_run_212 (by decide) ?_
      refine lv_iadd hx hb dX1_run_213 ?_
      refine lv_topi (fun x_9 ex_9 => ?_)
      refine lv_iload hx hb dX1_run_214 (lv_at hl 0 rfl) ?_
      skip
      refine zw_V (As := [.int 1, .int 1, .int x_9, .int 1]) (rest := []) (wr := []) ⟨hx, hb, hml, hown, hts⟩ (c_M_run_3_1_1_1 l D cI cJ cZ cP cS po mv mb (q_6) (mm) (mq) q_7 (x_9) (by omega) (by omega) H.size) (cwV 4 hts gX1_run_X1_run rfl rfl rfl ⟨rfl, dh_X1_run⟩ ⟨Nat.le_of_ble_eq_true rfl, Nat.le_of_ble_eq_true rfl⟩) hK hN (hZ.kept hS) hP hD hS hA [0, 1] [] rfl rfl (by decide) (by decide) (by decide) (va_recv (q := (RX1, TX1, 5)) hK hP (ci := 1) (q0 := 0) rfl rfl) rfl hl.1 rfl (Nat.le_of_ble_eq_true rfl) dX1_run_216 ⟨Nat.le_of_ble_eq_true rfl, Nat.le_of_ble_eq_true rfl⟩ (fun r_10 u_11 H locs hr_10 hP hD hS => ?_)
      obtain ⟨q_12, q_13⟩ := u_11
      try dsimp only at hr_10
      obtain ⟨hbq_12, hr_10⟩ := hr_10
      have h9R := zRe (ws' := [(mv, .inr (1, [.ref mb, .int q_12, .int 3, .int mm, .int mq])), (mb, .inl (cI, 20, .inl q_13))]) hP hD rfl
      clear hP hD
      obtain ⟨hP, hD⟩ := h9R
      exact W.iret (v := r_10) hx hb hr (fun t ht hW => ⟨⟨r_10, (q_12, q_13), rfl, ⟨(show q_12.toInt = mr.toInt + 4 from by omega), trivial⟩, zRet ht hP hD [0, 1] (by decide) rfl⟩, hS.F ht⟩) hS.2.2 dX1_run_219
    · exact absurd c_3 (by decide)
set_option maxHeartbeats 4000000 in
set_option maxRecDepth 100000 in
theorem c_M_run_3_0_0_4 (l : Launch) (D : va_G) (cI cJ cZ cP cS : ClassId) (po : zPool) (mv mb : Nat) (mr mm mq : Int32) (fb : Nat → Int32) (x : Int32) (hy0 : 0 ≤ mr.toInt) (hy1 : mr.toInt ≤ 1400) (hpz : Nat) : Met l yX1_run wsX1_run ({ frames := 2, cells := 0, slots := 0, locals := 46 }) (va_Pc [.ref mv, .int 0, .int 0, .int x, .int 4] (zW D (zKT cI cJ cZ cP cS) po [(mv, .inr (1, [.ref mb, .int mr, .int 3, .int mm, .int mq])), (mb, .inl (cI, 20, .inl fb))] hpz)) (va_Qi (fun (r : Int32) (u : (Int32) × (Nat → Int32)) => u.1.toInt = mr.toInt + 1 ∧ (True)) (zB D [(mv, .inr (1, [.ref mb, .int mr, .int 3, .int mm, .int mq])), (mb, .inl (cI, 20, .inl fb))] hpz (fun (u : (Int32) × (Nat → Int32)) => [(mv, .inr (1, [.ref mb, .int u.1, .int 3, .int mm, .int mq])), (mb, .inl (cI, 20, .inl u.2))])) (va_A [(mv, .inr (1, [.ref mb, .int mr, .int 3, .int mm, .int mq])), (mb, .inl (cI, 20, .inl fb))] hpz)) 0 0 (va_A [(mv, .inr (1, [.ref mb, .int mr, .int 3, .int mm, .int mq])), (mb, .inl (cI, 20, .inl fb))] hpz) := by
  refine Met.ofW (cc := cX1_run) (maxL := 7) (ret := (some .int)) (by decide) rfl ?_
  intro p e s m args below meth c s₁ B hml hv
  obtain ⟨rfl, hsz, hP, hK, hD0, hN, hZ⟩ := hv
  have hx := B.exec
  have hb := B.bytes
  have hr := B.returns
  have hts := atoms_spec (ws := wsX1_run) B.pre
  have hown : s.vm.findClass RX1 = some m.cls := findClass_of_methodNamed B.named
  have hlocks := B.notSynchronized
  subst hsz
  have hD := hD0.self (sz := s.heap.size)
  have hA := zA_of hD
  have hl := lv_entry ([.ref mv, .int 0, .int 0, .int x, .int 4]) (n := 7) (Nat.le_of_ble_eq_true rfl)
  rw [lg_entry_eq]
  generalize (lg_sl ([.ref mv, .int 0, .int 0, .int x, .int 4]) ++ List.replicate (7 - (lg_sl ([.ref mv, .int 0, .int 0, .int x, .int 4])).length) Slot.unset).toArray = ls at hl ⊢
  replace hl : lv_has ls 7 [(0, .ref mv), (1, .int 0), (2, .int 0), (3, .int x), (4, .int 4)] := hl
  refine zw_begin hP hD (fun H locs hP1 hS => ?_)
  clear hP
  have hP := hP1
  clear hP1
  refine lv_iload_n hx hb dX1_run_0 rfl (lv_at hl 1 rfl) ?_
  refine lv_iload_n hx hb dX1_run_1 rfl (lv_at hl 2 rfl) ?_
  refine zc_S (As := [.int 0, .int 0]) (rest := []) ⟨hx, hb, hml, hown, hts⟩ (c_M_bodyFor_0_0 l D cI cJ cZ cP cS po  ) (va_cwS 2 hts gX1_run_X1_bodyFor rfl rfl rfl dh_X1_bodyFor ⟨Nat.le_of_ble_eq_true rfl, Nat.le_of_ble_eq_true rfl⟩) hK hN (hZ.kept hS) rfl hl.1 rfl (Nat.le_of_ble_eq_true rfl) dX1_run_2 ⟨Nat.le_of_ble_eq_true rfl, Nat.le_of_ble_eq_true rfl⟩ (fun r_1 hr_1 => ?_)
  obtain rfl := hr_1
  refine lv_istore (lv' := [(5, .int 10), (0, .ref mv), (1, .int 0), (2, .int 0), (3, .int x), (4, .int 4)]) hx hb dX1_run_5 hl (by decide) rfl (fun ls hl => ?_)
  refine lv_iload hx hb dX1_run_7 (lv_at hl 0 rfl) ?_
  refine lv_iconst (v := (-1)) hx hb dX1_run_9 (by decide) ?_
  refine lv_icmp_eq (tgt := 20) hx hb dX1_run_10 (by decide) (fun c_2 => ?_) (fun c_2 => ?_)
  · exact absurd c_2 (by decide)
  · refine lv_iload hx hb dX1_run_13 (lv_at hl 5 rfl) ?_
    refine lv_bipush (v := 40) hx hb dX1_run_15 (by decide) ?_
    refine lv_icmp_lt (tgt := 22) hx hb dX1_run_17 (by decide) (fun c_3 => ?_) (fun c_3 => ?_)
    · refine lv_aload_n hx hb dX1_run_22 rfl (lv_at hl 1 rfl) ?_
      refine lv_iload hx hb dX1_run_23 (lv_at hl 0 rfl) ?_
      skip
      refine zw_Vv (As := [.int 10]) (rest := []) (wr := []) ⟨hx, hb, hml, hown, hts⟩ (c_M_note l D cI cJ cZ cP cS po mv mb (mr) (3) (mm) (mq) fb (10) hy0 (by omega) H.size) (cwV 1 hts gX1_run_X1_note rfl rfl rfl ⟨rfl, dh_X1_note⟩ ⟨Nat.le_of_ble_eq_true rfl, Nat.le_of_ble_eq_true rfl⟩) hK hN (hZ.kept hS) hP hD hS hA [0, 1] [] rfl rfl (by decide) (by decide) (by decide) (va_recv (q := (RX1, TX1, 5)) hK hP (ci := 1) (q0 := 0) rfl rfl) rfl hl.1 rfl (Nat.le_of_ble_eq_true rfl) dX1_run_25 ⟨Nat.le_of_ble_eq_true rfl, Nat.le_of_ble_eq_true rfl⟩ (fun u_5 H locs hr_4 hP hD hS => ?_)
      obtain ⟨q_6, q_7⟩ := u_5
      try dsimp only at hr_4
      obtain ⟨hbq_6, hr_4⟩ := hr_4
      have h9R := zRe (ws' := [(mv, .inr (1, [.ref mb, .int q_6, .int 3, .int mm, .int mq])), (mb, .inl (cI, 20, .inl q_7))]) hP hD rfl
      clear hP hD
      obtain ⟨hP, hD⟩ := h9R
      refine lv_iload hx hb dX1_run_28 (lv_at hl 5 rfl) ?_
      refine lv_iconst (v := 1) hx hb dX1_run_30 (by decide) ?_
      refine lv_iadd hx hb dX1_run_31 ?_
      refine lv_topi (fun y_8 ey_8 => ?_)
      obtain rfl : y_8 = 5 := ey_8.trans (by decide)
      refine lv_istore (lv' := [(6, .int 5), (5, .int 10), (0, .ref mv), (1, .int 0), (2, .int 0), (3, .int x), (4, .int 4)]) hx hb dX1_run_32 hl (by decide) rfl (fun ls hl => ?_)
      refine lv_iload hx hb dX1_run_34 (lv_at hl 1 rfl) ?_
      refine lv_lookup (off := 92) (tgt := 128) hx hb dX1_run_36 (by decide) (by decide) (by decide) ?_
      refine lv_iload_n hx hb dX1_run_128 rfl (lv_at hl 5 rfl) ?_
      refine lv_aload_n hx hb dX1_run_129 rfl (lv_at hl 2 rfl) ?_
      refine va_get (D := D) (ci := 1) (v := .int mm) (C := RX1) (T := TX1) (N := 5) hx hb hts hi_X1_run_1 hown hK hP 0 rfl rfl 3 (by decide) (hts (.fieldLink RX1 22 "TheLiningsInIt$Moves" "m" "I") (List.mem_of_getElem? (i := 1) rfl)) (fun _ h9 => h9) rfl dX1_run_130 ?_
      refine lv_iadd hx hb dX1_run_133 ?_
      refine lv_topi (fun x_9 ex_9 => ?_)
      exact W.iret (v := x_9) hx hb hr (fun t ht hW => ⟨⟨x_9, (q_6, q_7), rfl, ⟨(show q_6.toInt = mr.toInt + 1 from by omega), trivial⟩, zRet ht hP hD [0, 1] (by decide) rfl⟩, hS.F ht⟩) hS.2.2 dX1_run_134
    · exact absurd c_3 (by decide)
set_option maxHeartbeats 4000000 in
set_option maxRecDepth 100000 in
theorem c_M_run_3_3_0_3 (l : Launch) (D : va_G) (cI cJ cZ cP cS : ClassId) (po : zPool) (mv mb : Nat) (mr mm mq : Int32) (fb : Nat → Int32) (x : Int32) (hy0 : 0 ≤ mr.toInt) (hy1 : mr.toInt ≤ 1300) (hpz : Nat) : Met l yX1_run wsX1_run ({ frames := 3, cells := 0, slots := 0, locals := 72 }) (va_Pc [.ref mv, .int 3, .int 0, .int x, .int 3] (zW D (zKT cI cJ cZ cP cS) po [(mv, .inr (1, [.ref mb, .int mr, .int 3, .int mm, .int mq])), (mb, .inl (cI, 20, .inl fb))] hpz)) (va_Qi (fun (r : Int32) (u : (Int32) × (Nat → Int32)) => u.1.toInt = mr.toInt + 2 ∧ (True)) (zB D [(mv, .inr (1, [.ref mb, .int mr, .int 3, .int mm, .int mq])), (mb, .inl (cI, 20, .inl fb))] hpz (fun (u : (Int32) × (Nat → Int32)) => [(mv, .inr (1, [.ref mb, .int u.1, .int 3, .int mm, .int mq])), (mb, .inl (cI, 20, .inl u.2))])) (va_A [(mv, .inr (1, [.ref mb, .int mr, .int 3, .int mm, .int mq])), (mb, .inl (cI, 20, .inl fb))] hpz)) 0 0 (va_A [(mv, .inr (1, [.ref mb, .int mr, .int 3, .int mm, .int mq])), (mb, .inl (cI, 20, .inl fb))] hpz) := by
  refine Met.ofW (cc := cX1_run) (maxL := 7) (ret := (some .int)) (by decide) rfl ?_
  intro p e s m args below meth c s₁ B hml hv
  obtain ⟨rfl, hsz, hP, hK, hD0, hN, hZ⟩ := hv
  have hx := B.exec
  have hb := B.bytes
  have hr := B.returns
  have hts := atoms_spec (ws := wsX1_run) B.pre
  have hown : s.vm.findClass RX1 = some m.cls := findClass_of_methodNamed B.named
  have hlocks := B.notSynchronized
  subst hsz
  have hD := hD0.self (sz := s.heap.size)
  have hA := zA_of hD
  have hl := lv_entry ([.ref mv, .int 3, .int 0, .int x, .int 3]) (n := 7) (Nat.le_of_ble_eq_true rfl)
  rw [lg_entry_eq]
  generalize (lg_sl ([.ref mv, .int 3, .int 0, .int x, .int 3]) ++ List.replicate (7 - (lg_sl ([.ref mv, .int 3, .int 0, .int x, .int 3])).length) Slot.unset).toArray = ls at hl ⊢
  replace hl : lv_has ls 7 [(0, .ref mv), (1, .int 3), (2, .int 0), (3, .int x), (4, .int 3)] := hl
  refine zw_begin hP hD (fun H locs hP1 hS => ?_)
  clear hP
  have hP := hP1
  clear hP1
  refine lv_iload_n hx hb dX1_run_0 rfl (lv_at hl 1 rfl) ?_
  refine lv_iload_n hx hb dX1_run_1 rfl (lv_at hl 2 rfl) ?_
  refine zc_S (As := [.int 3, .int 0]) (rest := []) ⟨hx, hb, hml, hown, hts⟩ (c_M_bodyFor_3_0 l D cI cJ cZ cP cS po  ) (va_cwS 2 hts gX1_run_X1_bodyFor rfl rfl rfl dh_X1_bodyFor ⟨Nat.le_of_ble_eq_true rfl, Nat.le_of_ble_eq_true rfl⟩) hK hN (hZ.kept hS) rfl hl.1 rfl (Nat.le_of_ble_eq_true rfl) dX1_run_2 ⟨Nat.le_of_ble_eq_true rfl, Nat.le_of_ble_eq_true rfl⟩ (fun r_1 hr_1 => ?_)
  obtain rfl := hr_1
  refine lv_istore (lv' := [(5, .int 20), (0, .ref mv), (1, .int 3), (2, .int 0), (3, .int x), (4, .int 3)]) hx hb dX1_run_5 hl (by decide) rfl (fun ls hl => ?_)
  refine lv_iload hx hb dX1_run_7 (lv_at hl 0 rfl) ?_
  refine lv_iconst (v := (-1)) hx hb dX1_run_9 (by decide) ?_
  refine lv_icmp_eq (tgt := 20) hx hb dX1_run_10 (by decide) (fun c_2 => ?_) (fun c_2 => ?_)
  · exact absurd c_2 (by decide)
  · refine lv_iload hx hb dX1_run_13 (lv_at hl 5 rfl) ?_
    refine lv_bipush (v := 40) hx hb dX1_run_15 (by decide) ?_
    refine lv_icmp_lt (tgt := 22) hx hb dX1_run_17 (by decide) (fun c_3 => ?_) (fun c_3 => ?_)
    · refine lv_aload_n hx hb dX1_run_22 rfl (lv_at hl 1 rfl) ?_
      refine lv_iload hx hb dX1_run_23 (lv_at hl 0 rfl) ?_
      skip
      refine zw_Vv (As := [.int 20]) (rest := []) (wr := []) ⟨hx, hb, hml, hown, hts⟩ (c_M_note l D cI cJ cZ cP cS po mv mb (mr) (3) (mm) (mq) fb (20) hy0 (by omega) H.size) (cwV 1 hts gX1_run_X1_note rfl rfl rfl ⟨rfl, dh_X1_note⟩ ⟨Nat.le_of_ble_eq_true rfl, Nat.le_of_ble_eq_true rfl⟩) hK hN (hZ.kept hS) hP hD hS hA [0, 1] [] rfl rfl (by decide) (by decide) (by decide) (va_recv (q := (RX1, TX1, 5)) hK hP (ci := 1) (q0 := 0) rfl rfl) rfl hl.1 rfl (Nat.le_of_ble_eq_true rfl) dX1_run_25 ⟨Nat.le_of_ble_eq_true rfl, Nat.le_of_ble_eq_true rfl⟩ (fun u_5 H locs hr_4 hP hD hS => ?_)
      obtain ⟨q_6, q_7⟩ := u_5
      try dsimp only at hr_4
      obtain ⟨hbq_6, hr_4⟩ := hr_4
      have h9R := zRe (ws' := [(mv, .inr (1, [.ref mb, .int q_6, .int 3, .int mm, .int mq])), (mb, .inl (cI, 20, .inl q_7))]) hP hD rfl
      clear hP hD
      obtain ⟨hP, hD⟩ := h9R
      refine lv_iload hx hb dX1_run_28 (lv_at hl 5 rfl) ?_
      refine lv_iconst (v := 1) hx hb dX1_run_30 (by decide) ?_
      refine lv_iadd hx hb dX1_run_31 ?_
      refine lv_topi (fun y_8 ey_8 => ?_)
      obtain rfl : y_8 = 4 := ey_8.trans (by decide)
      refine lv_istore (lv' := [(6, .int 4), (5, .int 20), (0, .ref mv), (1, .int 3), (2, .int 0), (3, .int x), (4, .int 3)]) hx hb dX1_run_32 hl (by decide) rfl (fun ls hl => ?_)
      refine lv_iload hx hb dX1_run_34 (lv_at hl 1 rfl) ?_
      refine lv_lookup (off := 145) (tgt := 181) hx hb dX1_run_36 (by decide) (by decide) (by decide) ?_
      refine lv_aload_n hx hb dX1_run_181 rfl (lv_at hl 2 rfl) ?_
      refine lv_iconst (v := 0) hx hb dX1_run_182 (by decide) ?_
      refine lv_iconst (v := 0) hx hb dX1_run_183 (by decide) ?_
      refine lv_iload_n hx hb dX1_run_184 rfl (lv_at hl 5 rfl) ?_
      refine lv_iload hx hb dX1_run_185 (lv_at hl 0 rfl) ?_
      skip
      refine zw_V (As := [.int 0, .int 0, .int x, .int 4]) (rest := []) (wr := []) ⟨hx, hb, hml, hown, hts⟩ (c_M_run_3_0_0_4 l D cI cJ cZ cP cS po mv mb (q_6) (mm) (mq) q_7 (x) (by omega) (by omega) H.size) (cwV 4 hts gX1_run_X1_run rfl rfl rfl ⟨rfl, dh_X1_run⟩ ⟨Nat.le_of_ble_eq_true rfl, Nat.le_of_ble_eq_true rfl⟩) hK hN (hZ.kept hS) hP hD hS hA [0, 1] [] rfl rfl (by decide) (by decide) (by decide) (va_recv (q := (RX1, TX1, 5)) hK hP (ci := 1) (q0 := 0) rfl rfl) rfl hl.1 rfl (Nat.le_of_ble_eq_true rfl) dX1_run_187 ⟨Nat.le_of_ble_eq_true rfl, Nat.le_of_ble_eq_true rfl⟩ (fun r_9 u_10 H locs hr_9 hP hD hS => ?_)
      obtain ⟨q_11, q_12⟩ := u_10
      try dsimp only at hr_9
      obtain ⟨hbq_11, hr_9⟩ := hr_9
      have h9R := zRe (ws' := [(mv, .inr (1, [.ref mb, .int q_11, .int 3, .int mm, .int mq])), (mb, .inl (cI, 20, .inl q_12))]) hP hD rfl
      clear hP hD
      obtain ⟨hP, hD⟩ := h9R
      refine lv_aload_n hx hb dX1_run_190 rfl (lv_at hl 2 rfl) ?_
      refine va_get (D := D) (ci := 1) (v := .int mq) (C := RX1) (T := TX1) (N := 5) hx hb hts hi_X1_run_1 hown hK hP 0 rfl rfl 4 (by decide) (hts (.fieldLink RX1 25 "TheLiningsInIt$Moves" "k" "I") (List.mem_of_getElem? (i := 3) rfl)) (fun _ h9 => h9) rfl dX1_run_191 ?_
      refine lv_iadd hx hb dX1_run_194 ?_
      refine lv_topi (fun x_13 ex_13 => ?_)
      exact W.iret (v := x_13) hx hb hr (fun t ht hW => ⟨⟨x_13, (q_11, q_12), rfl, ⟨(show q_11.toInt = mr.toInt + 2 from by omega), trivial⟩, zRet ht hP hD [0, 1] (by decide) rfl⟩, hS.F ht⟩) hS.2.2 dX1_run_195
    · exact absurd c_3 (by decide)
set_option maxHeartbeats 4000000 in
set_option maxRecDepth 100000 in
theorem c_M_run_3_1_1_2 (l : Launch) (D : va_G) (cI cJ cZ cP cS : ClassId) (po : zPool) (mv mb : Nat) (mr mm mq : Int32) (fb : Nat → Int32) (x : Int32) (hy0 : 0 ≤ mr.toInt) (hy1 : mr.toInt ≤ 1200) (hpz : Nat) : Met l yX1_run wsX1_run ({ frames := 4, cells := 0, slots := 0, locals := 98 }) (va_Pc [.ref mv, .int 1, .int 1, .int x, .int 2] (zW D (zKT cI cJ cZ cP cS) po [(mv, .inr (1, [.ref mb, .int mr, .int 3, .int mm, .int mq])), (mb, .inl (cI, 20, .inl fb))] hpz)) (va_Qi (fun (r : Int32) (u : (Int32) × (Nat → Int32)) => u.1.toInt = mr.toInt + 3 ∧ (True)) (zB D [(mv, .inr (1, [.ref mb, .int mr, .int 3, .int mm, .int mq])), (mb, .inl (cI, 20, .inl fb))] hpz (fun (u : (Int32) × (Nat → Int32)) => [(mv, .inr (1, [.ref mb, .int u.1, .int 3, .int mm, .int mq])), (mb, .inl (cI, 20, .inl u.2))])) (va_A [(mv, .inr (1, [.ref mb, .int mr, .int 3, .int mm, .int mq])), (mb, .inl (cI, 20, .inl fb))] hpz)) 0 0 (va_A [(mv, .inr (1, [.ref mb, .int mr, .int 3, .int mm, .int mq])), (mb, .inl (cI, 20, .inl fb))] hpz) := by
  refine Met.ofW (cc := cX1_run) (maxL := 7) (ret := (some .int)) (by decide) rfl ?_
  intro p e s m args below meth c s₁ B hml hv
  obtain ⟨rfl, hsz, hP, hK, hD0, hN, hZ⟩ := hv
  have hx := B.exec
  have hb := B.bytes
  have hr := B.returns
  have hts := atoms_spec (ws := wsX1_run) B.pre
  have hown : s.vm.findClass RX1 = some m.cls := findClass_of_methodNamed B.named
  have hlocks := B.notSynchronized
  subst hsz
  have hD := hD0.self (sz := s.heap.size)
  have hA := zA_of hD
  have hl := lv_entry ([.ref mv, .int 1, .int 1, .int x, .int 2]) (n := 7) (Nat.le_of_ble_eq_true rfl)
  rw [lg_entry_eq]
  generalize (lg_sl ([.ref mv, .int 1, .int 1, .int x, .int 2]) ++ List.replicate (7 - (lg_sl ([.ref mv, .int 1, .int 1, .int x, .int 2])).length) Slot.unset).toArray = ls at hl ⊢
  replace hl : lv_has ls 7 [(0, .ref mv), (1, .int 1), (2, .int 1), (3, .int x), (4, .int 2)] := hl
  refine zw_begin hP hD (fun H locs hP1 hS => ?_)
  clear hP
  have hP := hP1
  clear hP1
  refine lv_iload_n hx hb dX1_run_0 rfl (lv_at hl 1 rfl) ?_
  refine lv_iload_n hx hb dX1_run_1 rfl (lv_at hl 2 rfl) ?_
  refine zc_S (As := [.int 1, .int 1]) (rest := []) ⟨hx, hb, hml, hown, hts⟩ (c_M_bodyFor_1_1 l D cI cJ cZ cP cS po  ) (va_cwS 2 hts gX1_run_X1_bodyFor rfl rfl rfl dh_X1_bodyFor ⟨Nat.le_of_ble_eq_true rfl, Nat.le_of_ble_eq_true rfl⟩) hK hN (hZ.kept hS) rfl hl.1 rfl (Nat.le_of_ble_eq_true rfl) dX1_run_2 ⟨Nat.le_of_ble_eq_true rfl, Nat.le_of_ble_eq_true rfl⟩ (fun r_1 hr_1 => ?_)
  obtain rfl := hr_1
  refine lv_istore (lv' := [(5, .int 11), (0, .ref mv), (1, .int 1), (2, .int 1), (3, .int x), (4, .int 2)]) hx hb dX1_run_5 hl (by decide) rfl (fun ls hl => ?_)
  refine lv_iload hx hb dX1_run_7 (lv_at hl 0 rfl) ?_
  refine lv_iconst (v := (-1)) hx hb dX1_run_9 (by decide) ?_
  refine lv_icmp_eq (tgt := 20) hx hb dX1_run_10 (by decide) (fun c_2 => ?_) (fun c_2 => ?_)
  · exact absurd c_2 (by decide)
  · refine lv_iload hx hb dX1_run_13 (lv_at hl 5 rfl) ?_
    refine lv_bipush (v := 40) hx hb dX1_run_15 (by decide) ?_
    refine lv_icmp_lt (tgt := 22) hx hb dX1_run_17 (by decide) (fun c_3 => ?_) (fun c_3 => ?_)
    · refine lv_aload_n hx hb dX1_run_22 rfl (lv_at hl 1 rfl) ?_
      refine lv_iload hx hb dX1_run_23 (lv_at hl 0 rfl) ?_
      skip
      refine zw_Vv (As := [.int 11]) (rest := []) (wr := []) ⟨hx, hb, hml, hown, hts⟩ (c_M_note l D cI cJ cZ cP cS po mv mb (mr) (3) (mm) (mq) fb (11) hy0 (by omega) H.size) (cwV 1 hts gX1_run_X1_note rfl rfl rfl ⟨rfl, dh_X1_note⟩ ⟨Nat.le_of_ble_eq_true rfl, Nat.le_of_ble_eq_true rfl⟩) hK hN (hZ.kept hS) hP hD hS hA [0, 1] [] rfl rfl (by decide) (by decide) (by decide) (va_recv (q := (RX1, TX1, 5)) hK hP (ci := 1) (q0 := 0) rfl rfl) rfl hl.1 rfl (Nat.le_of_ble_eq_true rfl) dX1_run_25 ⟨Nat.le_of_ble_eq_true rfl, Nat.le_of_ble_eq_true rfl⟩ (fun u_5 H locs hr_4 hP hD hS => ?_)
      obtain ⟨q_6, q_7⟩ := u_5
      try dsimp only at hr_4
      obtain ⟨hbq_6, hr_4⟩ := hr_4
      have h9R := zRe (ws' := [(mv, .inr (1, [.ref mb, .int q_6, .int 3, .int mm, .int mq])), (mb, .inl (cI, 20, .inl q_7))]) hP hD rfl
      clear hP hD
      obtain ⟨hP, hD⟩ := h9R
      refine lv_iload hx hb dX1_run_28 (lv_at hl 5 rfl) ?_
      refine lv_iconst (v := 1) hx hb dX1_run_30 (by decide) ?_
      refine lv_iadd hx hb dX1_run_31 ?_
      refine lv_topi (fun y_8 ey_8 => ?_)
      obtain rfl : y_8 = 3 := ey_8.trans (by decide)
      refine lv_istore (lv' := [(6, .int 3), (5, .int 11), (0, .ref mv), (1, .int 1), (2, .int 1), (3, .int x), (4, .int 2)]) hx hb dX1_run_32 hl (by decide) rfl (fun ls hl => ?_)
      refine lv_iload hx hb dX1_run_34 (lv_at hl 1 rfl) ?_
      refine lv_lookup (off := 99) (tgt := 135) hx hb dX1_run_36 (by decide) (by decide) (by decide) ?_
      refine lv_aload_n hx hb dX1_run_135 rfl (lv_at hl 2 rfl) ?_
      refine lv_aload_n hx hb dX1_run_136 rfl (lv_at hl 2 rfl) ?_
      refine va_get (D := D) (ci := 1) (v := .int 3) (C := RX1) (T := TX1) (N := 5) hx hb hts hi_X1_run_1 hown hK hP 0 rfl rfl 2 (by decide) (hts (.fieldLink RX1 19 "TheLiningsInIt$Moves" "kind" "I") (List.mem_of_getElem? (i := 2) rfl)) (fun _ h9 => h9) rfl dX1_run_137 ?_
      refine lv_iconst (v := 0) hx hb dX1_run_140 (by decide) ?_
      refine lv_iload_n hx hb dX1_run_141 rfl (lv_at hl 5 rfl) ?_
      refine lv_iload hx hb dX1_run_142 (lv_at hl 0 rfl) ?_
      skip
      refine zw_V (As := [.int 3, .int 0, .int x, .int 3]) (rest := []) (wr := []) ⟨hx, hb, hml, hown, hts⟩ (c_M_run_3_3_0_3 l D cI cJ cZ cP cS po mv mb (q_6) (mm) (mq) q_7 (x) (by omega) (by omega) H.size) (cwV 4 hts gX1_run_X1_run rfl rfl rfl ⟨rfl, dh_X1_run⟩ ⟨Nat.le_of_ble_eq_true rfl, Nat.le_of_ble_eq_true rfl⟩) hK hN (hZ.kept hS) hP hD hS hA [0, 1] [] rfl rfl (by decide) (by decide) (by decide) (va_recv (q := (RX1, TX1, 5)) hK hP (ci := 1) (q0 := 0) rfl rfl) rfl hl.1 rfl (Nat.le_of_ble_eq_true rfl) dX1_run_144 ⟨Nat.le_of_ble_eq_true rfl, Nat.le_of_ble_eq_true rfl⟩ (fun r_9 u_10 H locs hr_9 hP hD hS => ?_)
      obtain ⟨q_11, q_12⟩ := u_10
      try dsimp only at hr_9
      obtain ⟨hbq_11, hr_9⟩ := hr_9
      have h9R := zRe (ws' := [(mv, .inr (1, [.ref mb, .int q_11, .int 3, .int mm, .int mq])), (mb, .inl (cI, 20, .inl q_12))]) hP hD rfl
      clear hP hD
      obtain ⟨hP, hD⟩ := h9R
      refine lv_iconst (v := 2) hx hb dX1_run_147 (by decide) ?_
      refine lv_imul hx hb dX1_run_148 ?_
      refine lv_topi (fun x_13 ex_13 => ?_)
      exact W.iret (v := x_13) hx hb hr (fun t ht hW => ⟨⟨x_13, (q_11, q_12), rfl, ⟨(show q_11.toInt = mr.toInt + 3 from by omega), trivial⟩, zRet ht hP hD [0, 1] (by decide) rfl⟩, hS.F ht⟩) hS.2.2 dX1_run_149
    · exact absurd c_3 (by decide)
set_option maxHeartbeats 4000000 in
set_option maxRecDepth 100000 in
theorem c_M_run_3_3_1_1 (l : Launch) (D : va_G) (cI cJ cZ cP cS : ClassId) (po : zPool) (mv mb : Nat) (mr mm mq : Int32) (fb : Nat → Int32) (x : Int32) (hy0 : 0 ≤ mr.toInt) (hy1 : mr.toInt ≤ 1100) (hpz : Nat) : Met l yX1_run wsX1_run ({ frames := 5, cells := 0, slots := 0, locals := 124 }) (va_Pc [.ref mv, .int 3, .int 1, .int x, .int 1] (zW D (zKT cI cJ cZ cP cS) po [(mv, .inr (1, [.ref mb, .int mr, .int 3, .int mm, .int mq])), (mb, .inl (cI, 20, .inl fb))] hpz)) (va_Qi (fun (r : Int32) (u : (Int32) × (Nat → Int32)) => u.1.toInt = mr.toInt + 4 ∧ (True)) (zB D [(mv, .inr (1, [.ref mb, .int mr, .int 3, .int mm, .int mq])), (mb, .inl (cI, 20, .inl fb))] hpz (fun (u : (Int32) × (Nat → Int32)) => [(mv, .inr (1, [.ref mb, .int u.1, .int 3, .int mm, .int mq])), (mb, .inl (cI, 20, .inl u.2))])) (va_A [(mv, .inr (1, [.ref mb, .int mr, .int 3, .int mm, .int mq])), (mb, .inl (cI, 20, .inl fb))] hpz)) 0 0 (va_A [(mv, .inr (1, [.ref mb, .int mr, .int 3, .int mm, .int mq])), (mb, .inl (cI, 20, .inl fb))] hpz) := by
  refine Met.ofW (cc := cX1_run) (maxL := 7) (ret := (some .int)) (by decide) rfl ?_
  intro p e s m args below meth c s₁ B hml hv
  obtain ⟨rfl, hsz, hP, hK, hD0, hN, hZ⟩ := hv
  have hx := B.exec
  have hb := B.bytes
  have hr := B.returns
  have hts := atoms_spec (ws := wsX1_run) B.pre
  have hown : s.vm.findClass RX1 = some m.cls := findClass_of_methodNamed B.named
  have hlocks := B.notSynchronized
  subst hsz
  have hD := hD0.self (sz := s.heap.size)
  have hA := zA_of hD
  have hl := lv_entry ([.ref mv, .int 3, .int 1, .int x, .int 1]) (n := 7) (Nat.le_of_ble_eq_true rfl)
  rw [lg_entry_eq]
  generalize (lg_sl ([.ref mv, .int 3, .int 1, .int x, .int 1]) ++ List.replicate (7 - (lg_sl ([.ref mv, .int 3, .int 1, .int x, .int 1])).length) Slot.unset).toArray = ls at hl ⊢
  replace hl : lv_has ls 7 [(0, .ref mv), (1, .int 3), (2, .int 1), (3, .int x), (4, .int 1)] := hl
  refine zw_begin hP hD (fun H locs hP1 hS => ?_)
  clear hP
  have hP := hP1
  clear hP1
  refine lv_iload_n hx hb dX1_run_0 rfl (lv_at hl 1 rfl) ?_
  refine lv_iload_n hx hb dX1_run_1 rfl (lv_at hl 2 rfl) ?_
  refine zc_S (As := [.int 3, .int 1]) (rest := []) ⟨hx, hb, hml, hown, hts⟩ (c_M_bodyFor_3_1 l D cI cJ cZ cP cS po  ) (va_cwS 2 hts gX1_run_X1_bodyFor rfl rfl rfl dh_X1_bodyFor ⟨Nat.le_of_ble_eq_true rfl, Nat.le_of_ble_eq_true rfl⟩) hK hN (hZ.kept hS) rfl hl.1 rfl (Nat.le_of_ble_eq_true rfl) dX1_run_2 ⟨Nat.le_of_ble_eq_true rfl, Nat.le_of_ble_eq_true rfl⟩ (fun r_1 hr_1 => ?_)
  obtain rfl := hr_1
  refine lv_istore (lv' := [(5, .int 40), (0, .ref mv), (1, .int 3), (2, .int 1), (3, .int x), (4, .int 1)]) hx hb dX1_run_5 hl (by decide) rfl (fun ls hl => ?_)
  refine lv_iload hx hb dX1_run_7 (lv_at hl 0 rfl) ?_
  refine lv_iconst (v := (-1)) hx hb dX1_run_9 (by decide) ?_
  refine lv_icmp_eq (tgt := 20) hx hb dX1_run_10 (by decide) (fun c_2 => ?_) (fun c_2 => ?_)
  · exact absurd c_2 (by decide)
  · refine lv_iload hx hb dX1_run_13 (lv_at hl 5 rfl) ?_
    refine lv_bipush (v := 40) hx hb dX1_run_15 (by decide) ?_
    refine lv_icmp_lt (tgt := 22) hx hb dX1_run_17 (by decide) (fun c_3 => ?_) (fun c_3 => ?_)
    · refine lv_aload_n hx hb dX1_run_22 rfl (lv_at hl 1 rfl) ?_
      refine lv_iload hx hb dX1_run_23 (lv_at hl 0 rfl) ?_
      skip
      refine zw_Vv (As := [.int 40]) (rest := []) (wr := []) ⟨hx, hb, hml, hown, hts⟩ (c_M_note l D cI cJ cZ cP cS po mv mb (mr) (3) (mm) (mq) fb (40) hy0 (by omega) H.size) (cwV 1 hts gX1_run_X1_note rfl rfl rfl ⟨rfl, dh_X1_note⟩ ⟨Nat.le_of_ble_eq_true rfl, Nat.le_of_ble_eq_true rfl⟩) hK hN (hZ.kept hS) hP hD hS hA [0, 1] [] rfl rfl (by decide) (by decide) (by decide) (va_recv (q := (RX1, TX1, 5)) hK hP (ci := 1) (q0 := 0) rfl rfl) rfl hl.1 rfl (Nat.le_of_ble_eq_true rfl) dX1_run_25 ⟨Nat.le_of_ble_eq_true rfl, Nat.le_of_ble_eq_true rfl⟩ (fun u_5 H locs hr_4 hP hD hS => ?_)
      obtain ⟨q_6, q_7⟩ := u_5
      try dsimp only at hr_4
      obtain ⟨hbq_6, hr_4⟩ := hr_4
      have h9R := zRe (ws' := [(mv, .inr (1, [.ref mb, .int q_6, .int 3, .int mm, .int mq])), (mb, .inl (cI, 20, .inl q_7))]) hP hD rfl
      clear hP hD
      obtain ⟨hP, hD⟩ := h9R
      refine lv_iload hx hb dX1_run_28 (lv_at hl 5 rfl) ?_
      refine lv_iconst (v := 1) hx hb dX1_run_30 (by decide) ?_
      refine lv_iadd hx hb dX1_run_31 ?_
      refine lv_topi (fun y_8 ey_8 => ?_)
      obtain rfl : y_8 = 2 := ey_8.trans (by decide)
      refine lv_istore (lv' := [(6, .int 2), (5, .int 40), (0, .ref mv), (1, .int 3), (2, .int 1), (3, .int x), (4, .int 1)]) hx hb dX1_run_32 hl (by decide) rfl (fun ls hl => ?_)
      refine lv_iload hx hb dX1_run_34 (lv_at hl 1 rfl) ?_
      refine lv_lookup (off := 172) (tgt := 208) hx hb dX1_run_36 (by decide) (by decide) (by decide) ?_
      refine lv_aload_n hx hb dX1_run_208 rfl (lv_at hl 2 rfl) ?_
      refine lv_iconst (v := 1) hx hb dX1_run_209 (by decide) ?_
      refine lv_iconst (v := 1) hx hb dX1_run_210 (by decide) ?_
      refine lv_iload_n hx hb dX1_run_211 rfl (lv_at hl 5 rfl) ?_
      refine lv_iconst (v := 1) hx hb dX1_run_212 (by decide) ?_
      refine lv_iadd hx hb dX1_run_213 ?_
      refine lv_topi (fun x_9 ex_9 => ?_)
      refine lv_iload hx hb dX1_run_214 (lv_at hl 0 rfl) ?_
      skip
      refine zw_V (As := [.int 1, .int 1, .int x_9, .int 2]) (rest := []) (wr := []) ⟨hx, hb, hml, hown, hts⟩ (c_M_run_3_1_1_2 l D cI cJ cZ cP cS po mv mb (q_6) (mm) (mq) q_7 (x_9) (by omega) (by omega) H.size) (cwV 4 hts gX1_run_X1_run rfl rfl rfl ⟨rfl, dh_X1_run⟩ ⟨Nat.le_of_ble_eq_true rfl, Nat.le_of_ble_eq_true rfl⟩) hK hN (hZ.kept hS) hP hD hS hA [0, 1] [] rfl rfl (by decide) (by decide) (by decide) (va_recv (q := (RX1, TX1, 5)) hK hP (ci := 1) (q0 := 0) rfl rfl) rfl hl.1 rfl (Nat.le_of_ble_eq_true rfl) dX1_run_216 ⟨Nat.le_of_ble_eq_true rfl, Nat.le_of_ble_eq_true rfl⟩ (fun r_10 u_11 H locs hr_10 hP hD hS => ?_)
      obtain ⟨q_12, q_13⟩ := u_11
      try dsimp only at hr_10
      obtain ⟨hbq_12, hr_10⟩ := hr_10
      have h9R := zRe (ws' := [(mv, .inr (1, [.ref mb, .int q_12, .int 3, .int mm, .int mq])), (mb, .inl (cI, 20, .inl q_13))]) hP hD rfl
      clear hP hD
      obtain ⟨hP, hD⟩ := h9R
      exact W.iret (v := r_10) hx hb hr (fun t ht hW => ⟨⟨r_10, (q_12, q_13), rfl, ⟨(show q_12.toInt = mr.toInt + 4 from by omega), trivial⟩, zRet ht hP hD [0, 1] (by decide) rfl⟩, hS.F ht⟩) hS.2.2 dX1_run_219
    · exact absurd c_3 (by decide)
set_option maxHeartbeats 4000000 in
set_option maxRecDepth 100000 in
theorem c_M_run_3_0_0_2 (l : Launch) (D : va_G) (cI cJ cZ cP cS : ClassId) (po : zPool) (mv mb : Nat) (mr mm mq : Int32) (fb : Nat → Int32) (x : Int32) (hy0 : 0 ≤ mr.toInt) (hy1 : mr.toInt ≤ 1200) (hpz : Nat) : Met l yX1_run wsX1_run ({ frames := 2, cells := 0, slots := 0, locals := 46 }) (va_Pc [.ref mv, .int 0, .int 0, .int x, .int 2] (zW D (zKT cI cJ cZ cP cS) po [(mv, .inr (1, [.ref mb, .int mr, .int 3, .int mm, .int mq])), (mb, .inl (cI, 20, .inl fb))] hpz)) (va_Qi (fun (r : Int32) (u : (Int32) × (Nat → Int32)) => u.1.toInt = mr.toInt + 1 ∧ (True)) (zB D [(mv, .inr (1, [.ref mb, .int mr, .int 3, .int mm, .int mq])), (mb, .inl (cI, 20, .inl fb))] hpz (fun (u : (Int32) × (Nat → Int32)) => [(mv, .inr (1, [.ref mb, .int u.1, .int 3, .int mm, .int mq])), (mb, .inl (cI, 20, .inl u.2))])) (va_A [(mv, .inr (1, [.ref mb, .int mr, .int 3, .int mm, .int mq])), (mb, .inl (cI, 20, .inl fb))] hpz)) 0 0 (va_A [(mv, .inr (1, [.ref mb, .int mr, .int 3, .int mm, .int mq])), (mb, .inl (cI, 20, .inl fb))] hpz) := by
  refine Met.ofW (cc := cX1_run) (maxL := 7) (ret := (some .int)) (by decide) rfl ?_
  intro p e s m args below meth c s₁ B hml hv
  obtain ⟨rfl, hsz, hP, hK, hD0, hN, hZ⟩ := hv
  have hx := B.exec
  have hb := B.bytes
  have hr := B.returns
  have hts := atoms_spec (ws := wsX1_run) B.pre
  have hown : s.vm.findClass RX1 = some m.cls := findClass_of_methodNamed B.named
  have hlocks := B.notSynchronized
  subst hsz
  have hD := hD0.self (sz := s.heap.size)
  have hA := zA_of hD
  have hl := lv_entry ([.ref mv, .int 0, .int 0, .int x, .int 2]) (n := 7) (Nat.le_of_ble_eq_true rfl)
  rw [lg_entry_eq]
  generalize (lg_sl ([.ref mv, .int 0, .int 0, .int x, .int 2]) ++ List.replicate (7 - (lg_sl ([.ref mv, .int 0, .int 0, .int x, .int 2])).length) Slot.unset).toArray = ls at hl ⊢
  replace hl : lv_has ls 7 [(0, .ref mv), (1, .int 0), (2, .int 0), (3, .int x), (4, .int 2)] := hl
  refine zw_begin hP hD (fun H locs hP1 hS => ?_)
  clear hP
  have hP := hP1
  clear hP1
  refine lv_iload_n hx hb dX1_run_0 rfl (lv_at hl 1 rfl) ?_
  refine lv_iload_n hx hb dX1_run_1 rfl (lv_at hl 2 rfl) ?_
  refine zc_S (As := [.int 0, .int 0]) (rest := []) ⟨hx, hb, hml, hown, hts⟩ (c_M_bodyFor_0_0 l D cI cJ cZ cP cS po  ) (va_cwS 2 hts gX1_run_X1_bodyFor rfl rfl rfl dh_X1_bodyFor ⟨Nat.le_of_ble_eq_true rfl, Nat.le_of_ble_eq_true rfl⟩) hK hN (hZ.kept hS) rfl hl.1 rfl (Nat.le_of_ble_eq_true rfl) dX1_run_2 ⟨Nat.le_of_ble_eq_true rfl, Nat.le_of_ble_eq_true rfl⟩ (fun r_1 hr_1 => ?_)
  obtain rfl := hr_1
  refine lv_istore (lv' := [(5, .int 10), (0, .ref mv), (1, .int 0), (2, .int 0), (3, .int x), (4, .int 2)]) hx hb dX1_run_5 hl (by decide) rfl (fun ls hl => ?_)
  refine lv_iload hx hb dX1_run_7 (lv_at hl 0 rfl) ?_
  refine lv_iconst (v := (-1)) hx hb dX1_run_9 (by decide) ?_
  refine lv_icmp_eq (tgt := 20) hx hb dX1_run_10 (by decide) (fun c_2 => ?_) (fun c_2 => ?_)
  · exact absurd c_2 (by decide)
  · refine lv_iload hx hb dX1_run_13 (lv_at hl 5 rfl) ?_
    refine lv_bipush (v := 40) hx hb dX1_run_15 (by decide) ?_
    refine lv_icmp_lt (tgt := 22) hx hb dX1_run_17 (by decide) (fun c_3 => ?_) (fun c_3 => ?_)
    · refine lv_aload_n hx hb dX1_run_22 rfl (lv_at hl 1 rfl) ?_
      refine lv_iload hx hb dX1_run_23 (lv_at hl 0 rfl) ?_
      skip
      refine zw_Vv (As := [.int 10]) (rest := []) (wr := []) ⟨hx, hb, hml, hown, hts⟩ (c_M_note l D cI cJ cZ cP cS po mv mb (mr) (3) (mm) (mq) fb (10) hy0 (by omega) H.size) (cwV 1 hts gX1_run_X1_note rfl rfl rfl ⟨rfl, dh_X1_note⟩ ⟨Nat.le_of_ble_eq_true rfl, Nat.le_of_ble_eq_true rfl⟩) hK hN (hZ.kept hS) hP hD hS hA [0, 1] [] rfl rfl (by decide) (by decide) (by decide) (va_recv (q := (RX1, TX1, 5)) hK hP (ci := 1) (q0 := 0) rfl rfl) rfl hl.1 rfl (Nat.le_of_ble_eq_true rfl) dX1_run_25 ⟨Nat.le_of_ble_eq_true rfl, Nat.le_of_ble_eq_true rfl⟩ (fun u_5 H locs hr_4 hP hD hS => ?_)
      obtain ⟨q_6, q_7⟩ := u_5
      try dsimp only at hr_4
      obtain ⟨hbq_6, hr_4⟩ := hr_4
      have h9R := zRe (ws' := [(mv, .inr (1, [.ref mb, .int q_6, .int 3, .int mm, .int mq])), (mb, .inl (cI, 20, .inl q_7))]) hP hD rfl
      clear hP hD
      obtain ⟨hP, hD⟩ := h9R
      refine lv_iload hx hb dX1_run_28 (lv_at hl 5 rfl) ?_
      refine lv_iconst (v := 1) hx hb dX1_run_30 (by decide) ?_
      refine lv_iadd hx hb dX1_run_31 ?_
      refine lv_topi (fun y_8 ey_8 => ?_)
      obtain rfl : y_8 = 3 := ey_8.trans (by decide)
      refine lv_istore (lv' := [(6, .int 3), (5, .int 10), (0, .ref mv), (1, .int 0), (2, .int 0), (3, .int x), (4, .int 2)]) hx hb dX1_run_32 hl (by decide) rfl (fun ls hl => ?_)
      refine lv_iload hx hb dX1_run_34 (lv_at hl 1 rfl) ?_
      refine lv_lookup (off := 92) (tgt := 128) hx hb dX1_run_36 (by decide) (by decide) (by decide) ?_
      refine lv_iload_n hx hb dX1_run_128 rfl (lv_at hl 5 rfl) ?_
      refine lv_aload_n hx hb dX1_run_129 rfl (lv_at hl 2 rfl) ?_
      refine va_get (D := D) (ci := 1) (v := .int mm) (C := RX1) (T := TX1) (N := 5) hx hb hts hi_X1_run_1 hown hK hP 0 rfl rfl 3 (by decide) (hts (.fieldLink RX1 22 "TheLiningsInIt$Moves" "m" "I") (List.mem_of_getElem? (i := 1) rfl)) (fun _ h9 => h9) rfl dX1_run_130 ?_
      refine lv_iadd hx hb dX1_run_133 ?_
      refine lv_topi (fun x_9 ex_9 => ?_)
      exact W.iret (v := x_9) hx hb hr (fun t ht hW => ⟨⟨x_9, (q_6, q_7), rfl, ⟨(show q_6.toInt = mr.toInt + 1 from by omega), trivial⟩, zRet ht hP hD [0, 1] (by decide) rfl⟩, hS.F ht⟩) hS.2.2 dX1_run_134
    · exact absurd c_3 (by decide)
set_option maxHeartbeats 4000000 in
set_option maxRecDepth 100000 in
theorem c_M_run_3_3_0_1 (l : Launch) (D : va_G) (cI cJ cZ cP cS : ClassId) (po : zPool) (mv mb : Nat) (mr mm mq : Int32) (fb : Nat → Int32) (x : Int32) (hy0 : 0 ≤ mr.toInt) (hy1 : mr.toInt ≤ 1100) (hpz : Nat) : Met l yX1_run wsX1_run ({ frames := 3, cells := 0, slots := 0, locals := 72 }) (va_Pc [.ref mv, .int 3, .int 0, .int x, .int 1] (zW D (zKT cI cJ cZ cP cS) po [(mv, .inr (1, [.ref mb, .int mr, .int 3, .int mm, .int mq])), (mb, .inl (cI, 20, .inl fb))] hpz)) (va_Qi (fun (r : Int32) (u : (Int32) × (Nat → Int32)) => u.1.toInt = mr.toInt + 2 ∧ (True)) (zB D [(mv, .inr (1, [.ref mb, .int mr, .int 3, .int mm, .int mq])), (mb, .inl (cI, 20, .inl fb))] hpz (fun (u : (Int32) × (Nat → Int32)) => [(mv, .inr (1, [.ref mb, .int u.1, .int 3, .int mm, .int mq])), (mb, .inl (cI, 20, .inl u.2))])) (va_A [(mv, .inr (1, [.ref mb, .int mr, .int 3, .int mm, .int mq])), (mb, .inl (cI, 20, .inl fb))] hpz)) 0 0 (va_A [(mv, .inr (1, [.ref mb, .int mr, .int 3, .int mm, .int mq])), (mb, .inl (cI, 20, .inl fb))] hpz) := by
  refine Met.ofW (cc := cX1_run) (maxL := 7) (ret := (some .int)) (by decide) rfl ?_
  intro p e s m args below meth c s₁ B hml hv
  obtain ⟨rfl, hsz, hP, hK, hD0, hN, hZ⟩ := hv
  have hx := B.exec
  have hb := B.bytes
  have hr := B.returns
  have hts := atoms_spec (ws := wsX1_run) B.pre
  have hown : s.vm.findClass RX1 = some m.cls := findClass_of_methodNamed B.named
  have hlocks := B.notSynchronized
  subst hsz
  have hD := hD0.self (sz := s.heap.size)
  have hA := zA_of hD
  have hl := lv_entry ([.ref mv, .int 3, .int 0, .int x, .int 1]) (n := 7) (Nat.le_of_ble_eq_true rfl)
  rw [lg_entry_eq]
  generalize (lg_sl ([.ref mv, .int 3, .int 0, .int x, .int 1]) ++ List.replicate (7 - (lg_sl ([.ref mv, .int 3, .int 0, .int x, .int 1])).length) Slot.unset).toArray = ls at hl ⊢
  replace hl : lv_has ls 7 [(0, .ref mv), (1, .int 3), (2, .int 0), (3, .int x), (4, .int 1)] := hl
  refine zw_begin hP hD (fun H locs hP1 hS => ?_)
  clear hP
  have hP := hP1
  clear hP1
  refine lv_iload_n hx hb dX1_run_0 rfl (lv_at hl 1 rfl) ?_
  refine lv_iload_n hx hb dX1_run_1 rfl (lv_at hl 2 rfl) ?_
  refine zc_S (As := [.int 3, .int 0]) (rest := []) ⟨hx, hb, hml, hown, hts⟩ (c_M_bodyFor_3_0 l D cI cJ cZ cP cS po  ) (va_cwS 2 hts gX1_run_X1_bodyFor rfl rfl rfl dh_X1_bodyFor ⟨Nat.le_of_ble_eq_true rfl, Nat.le_of_ble_eq_true rfl⟩) hK hN (hZ.kept hS) rfl hl.1 rfl (Nat.le_of_ble_eq_true rfl) dX1_run_2 ⟨Nat.le_of_ble_eq_true rfl, Nat.le_of_ble_eq_true rfl⟩ (fun r_1 hr_1 => ?_)
  obtain rfl := hr_1
  refine lv_istore (lv' := [(5, .int 20), (0, .ref mv), (1, .int 3), (2, .int 0), (3, .int x), (4, .int 1)]) hx hb dX1_run_5 hl (by decide) rfl (fun ls hl => ?_)
  refine lv_iload hx hb dX1_run_7 (lv_at hl 0 rfl) ?_
  refine lv_iconst (v := (-1)) hx hb dX1_run_9 (by decide) ?_
  refine lv_icmp_eq (tgt := 20) hx hb dX1_run_10 (by decide) (fun c_2 => ?_) (fun c_2 => ?_)
  · exact absurd c_2 (by decide)
  · refine lv_iload hx hb dX1_run_13 (lv_at hl 5 rfl) ?_
    refine lv_bipush (v := 40) hx hb dX1_run_15 (by decide) ?_
    refine lv_icmp_lt (tgt := 22) hx hb dX1_run_17 (by decide) (fun c_3 => ?_) (fun c_3 => ?_)
    · refine lv_aload_n hx hb dX1_run_22 rfl (lv_at hl 1 rfl) ?_
      refine lv_iload hx hb dX1_run_23 (lv_at hl 0 rfl) ?_
      skip
      refine zw_Vv (As := [.int 20]) (rest := []) (wr := []) ⟨hx, hb, hml, hown, hts⟩ (c_M_note l D cI cJ cZ cP cS po mv mb (mr) (3) (mm) (mq) fb (20) hy0 (by omega) H.size) (cwV 1 hts gX1_run_X1_note rfl rfl rfl ⟨rfl, dh_X1_note⟩ ⟨Nat.le_of_ble_eq_true rfl, Nat.le_of_ble_eq_true rfl⟩) hK hN (hZ.kept hS) hP hD hS hA [0, 1] [] rfl rfl (by decide) (by decide) (by decide) (va_recv (q := (RX1, TX1, 5)) hK hP (ci := 1) (q0 := 0) rfl rfl) rfl hl.1 rfl (Nat.le_of_ble_eq_true rfl) dX1_run_25 ⟨Nat.le_of_ble_eq_true rfl, Nat.le_of_ble_eq_true rfl⟩ (fun u_5 H locs hr_4 hP hD hS => ?_)
      obtain ⟨q_6, q_7⟩ := u_5
      try dsimp only at hr_4
      obtain ⟨hbq_6, hr_4⟩ := hr_4
      have h9R := zRe (ws' := [(mv, .inr (1, [.ref mb, .int q_6, .int 3, .int mm, .int mq])), (mb, .inl (cI, 20, .inl q_7))]) hP hD rfl
      clear hP hD
      obtain ⟨hP, hD⟩ := h9R
      refine lv_iload hx hb dX1_run_28 (lv_at hl 5 rfl) ?_
      refine lv_iconst (v := 1) hx hb dX1_run_30 (by decide) ?_
      refine lv_iadd hx hb dX1_run_31 ?_
      refine lv_topi (fun y_8 ey_8 => ?_)
      obtain rfl : y_8 = 2 := ey_8.trans (by decide)
      refine lv_istore (lv' := [(6, .int 2), (5, .int 20), (0, .ref mv), (1, .int 3), (2, .int 0), (3, .int x), (4, .int 1)]) hx hb dX1_run_32 hl (by decide) rfl (fun ls hl => ?_)
      refine lv_iload hx hb dX1_run_34 (lv_at hl 1 rfl) ?_
      refine lv_lookup (off := 145) (tgt := 181) hx hb dX1_run_36 (by decide) (by decide) (by decide) ?_
      refine lv_aload_n hx hb dX1_run_181 rfl (lv_at hl 2 rfl) ?_
      refine lv_iconst (v := 0) hx hb dX1_run_182 (by decide) ?_
      refine lv_iconst (v := 0) hx hb dX1_run_183 (by decide) ?_
      refine lv_iload_n hx hb dX1_run_184 rfl (lv_at hl 5 rfl) ?_
      refine lv_iload hx hb dX1_run_185 (lv_at hl 0 rfl) ?_
      skip
      refine zw_V (As := [.int 0, .int 0, .int x, .int 2]) (rest := []) (wr := []) ⟨hx, hb, hml, hown, hts⟩ (c_M_run_3_0_0_2 l D cI cJ cZ cP cS po mv mb (q_6) (mm) (mq) q_7 (x) (by omega) (by omega) H.size) (cwV 4 hts gX1_run_X1_run rfl rfl rfl ⟨rfl, dh_X1_run⟩ ⟨Nat.le_of_ble_eq_true rfl, Nat.le_of_ble_eq_true rfl⟩) hK hN (hZ.kept hS) hP hD hS hA [0, 1] [] rfl rfl (by decide) (by decide) (by decide) (va_recv (q := (RX1, TX1, 5)) hK hP (ci := 1) (q0 := 0) rfl rfl) rfl hl.1 rfl (Nat.le_of_ble_eq_true rfl) dX1_run_187 ⟨Nat.le_of_ble_eq_true rfl, Nat.le_of_ble_eq_true rfl⟩ (fun r_9 u_10 H locs hr_9 hP hD hS => ?_)
      obtain ⟨q_11, q_12⟩ := u_10
      try dsimp only at hr_9
      obtain ⟨hbq_11, hr_9⟩ := hr_9
      have h9R := zRe (ws' := [(mv, .inr (1, [.ref mb, .int q_11, .int 3, .int mm, .int mq])), (mb, .inl (cI, 20, .inl q_12))]) hP hD rfl
      clear hP hD
      obtain ⟨hP, hD⟩ := h9R
      refine lv_aload_n hx hb dX1_run_190 rfl (lv_at hl 2 rfl) ?_
      refine va_get (D := D) (ci := 1) (v := .int mq) (C := RX1) (T := TX1) (N := 5) hx hb hts hi_X1_run_1 hown hK hP 0 rfl rfl 4 (by decide) (hts (.fieldLink RX1 25 "TheLiningsInIt$Moves" "k" "I") (List.mem_of_getElem? (i := 3) rfl)) (fun _ h9 => h9) rfl dX1_run_191 ?_
      refine lv_iadd hx hb dX1_run_194 ?_
      refine lv_topi (fun x_13 ex_13 => ?_)
      exact W.iret (v := x_13) hx hb hr (fun t ht hW => ⟨⟨x_13, (q_11, q_12), rfl, ⟨(show q_11.toInt = mr.toInt + 2 from by omega), trivial⟩, zRet ht hP hD [0, 1] (by decide) rfl⟩, hS.F ht⟩) hS.2.2 dX1_run_195
    · exact absurd c_3 (by decide)
set_option maxHeartbeats 4000000 in
set_option maxRecDepth 100000 in
theorem c_M_run_3_3_2_0 (l : Launch) (D : va_G) (cI cJ cZ cP cS : ClassId) (po : zPool) (mv mb : Nat) (mr mm mq : Int32) (fb : Nat → Int32) (x : Int32) (hy0 : 0 ≤ mr.toInt) (hy1 : mr.toInt ≤ 1000) (hpz : Nat) : Met l yX1_run wsX1_run ({ frames := 6, cells := 0, slots := 0, locals := 150 }) (va_Pc [.ref mv, .int 3, .int 2, .int x, .int 0] (zW D (zKT cI cJ cZ cP cS) po [(mv, .inr (1, [.ref mb, .int mr, .int 3, .int mm, .int mq])), (mb, .inl (cI, 20, .inl fb))] hpz)) (va_Qi (fun (r : Int32) (u : (Int32) × (Nat → Int32)) => u.1.toInt = mr.toInt + 7 ∧ (True)) (zB D [(mv, .inr (1, [.ref mb, .int mr, .int 3, .int mm, .int mq])), (mb, .inl (cI, 20, .inl fb))] hpz (fun (u : (Int32) × (Nat → Int32)) => [(mv, .inr (1, [.ref mb, .int u.1, .int 3, .int mm, .int mq])), (mb, .inl (cI, 20, .inl u.2))])) (va_A [(mv, .inr (1, [.ref mb, .int mr, .int 3, .int mm, .int mq])), (mb, .inl (cI, 20, .inl fb))] hpz)) 0 0 (va_A [(mv, .inr (1, [.ref mb, .int mr, .int 3, .int mm, .int mq])), (mb, .inl (cI, 20, .inl fb))] hpz) := by
  refine Met.ofW (cc := cX1_run) (maxL := 7) (ret := (some .int)) (by decide) rfl ?_
  intro p e s m args below meth c s₁ B hml hv
  obtain ⟨rfl, hsz, hP, hK, hD0, hN, hZ⟩ := hv
  have hx := B.exec
  have hb := B.bytes
  have hr := B.returns
  have hts := atoms_spec (ws := wsX1_run) B.pre
  have hown : s.vm.findClass RX1 = some m.cls := findClass_of_methodNamed B.named
  have hlocks := B.notSynchronized
  subst hsz
  have hD := hD0.self (sz := s.heap.size)
  have hA := zA_of hD
  have hl := lv_entry ([.ref mv, .int 3, .int 2, .int x, .int 0]) (n := 7) (Nat.le_of_ble_eq_true rfl)
  rw [lg_entry_eq]
  generalize (lg_sl ([.ref mv, .int 3, .int 2, .int x, .int 0]) ++ List.replicate (7 - (lg_sl ([.ref mv, .int 3, .int 2, .int x, .int 0])).length) Slot.unset).toArray = ls at hl ⊢
  replace hl : lv_has ls 7 [(0, .ref mv), (1, .int 3), (2, .int 2), (3, .int x), (4, .int 0)] := hl
  refine zw_begin hP hD (fun H locs hP1 hS => ?_)
  clear hP
  have hP := hP1
  clear hP1
  refine lv_iload_n hx hb dX1_run_0 rfl (lv_at hl 1 rfl) ?_
  refine lv_iload_n hx hb dX1_run_1 rfl (lv_at hl 2 rfl) ?_
  refine zc_S (As := [.int 3, .int 2]) (rest := []) ⟨hx, hb, hml, hown, hts⟩ (c_M_bodyFor_3_2 l D cI cJ cZ cP cS po  ) (va_cwS 2 hts gX1_run_X1_bodyFor rfl rfl rfl dh_X1_bodyFor ⟨Nat.le_of_ble_eq_true rfl, Nat.le_of_ble_eq_true rfl⟩) hK hN (hZ.kept hS) rfl hl.1 rfl (Nat.le_of_ble_eq_true rfl) dX1_run_2 ⟨Nat.le_of_ble_eq_true rfl, Nat.le_of_ble_eq_true rfl⟩ (fun r_1 hr_1 => ?_)
  obtain rfl := hr_1
  refine lv_istore (lv' := [(5, .int 12), (0, .ref mv), (1, .int 3), (2, .int 2), (3, .int x), (4, .int 0)]) hx hb dX1_run_5 hl (by decide) rfl (fun ls hl => ?_)
  refine lv_iload hx hb dX1_run_7 (lv_at hl 0 rfl) ?_
  refine lv_iconst (v := (-1)) hx hb dX1_run_9 (by decide) ?_
  refine lv_icmp_eq (tgt := 20) hx hb dX1_run_10 (by decide) (fun c_2 => ?_) (fun c_2 => ?_)
  · exact absurd c_2 (by decide)
  · refine lv_iload hx hb dX1_run_13 (lv_at hl 5 rfl) ?_
    refine lv_bipush (v := 40) hx hb dX1_run_15 (by decide) ?_
    refine lv_icmp_lt (tgt := 22) hx hb dX1_run_17 (by decide) (fun c_3 => ?_) (fun c_3 => ?_)
    · refine lv_aload_n hx hb dX1_run_22 rfl (lv_at hl 1 rfl) ?_
      refine lv_iload hx hb dX1_run_23 (lv_at hl 0 rfl) ?_
      skip
      refine zw_Vv (As := [.int 12]) (rest := []) (wr := []) ⟨hx, hb, hml, hown, hts⟩ (c_M_note l D cI cJ cZ cP cS po mv mb (mr) (3) (mm) (mq) fb (12) hy0 (by omega) H.size) (cwV 1 hts gX1_run_X1_note rfl rfl rfl ⟨rfl, dh_X1_note⟩ ⟨Nat.le_of_ble_eq_true rfl, Nat.le_of_ble_eq_true rfl⟩) hK hN (hZ.kept hS) hP hD hS hA [0, 1] [] rfl rfl (by decide) (by decide) (by decide) (va_recv (q := (RX1, TX1, 5)) hK hP (ci := 1) (q0 := 0) rfl rfl) rfl hl.1 rfl (Nat.le_of_ble_eq_true rfl) dX1_run_25 ⟨Nat.le_of_ble_eq_true rfl, Nat.le_of_ble_eq_true rfl⟩ (fun u_5 H locs hr_4 hP hD hS => ?_)
      obtain ⟨q_6, q_7⟩ := u_5
      try dsimp only at hr_4
      obtain ⟨hbq_6, hr_4⟩ := hr_4
      have h9R := zRe (ws' := [(mv, .inr (1, [.ref mb, .int q_6, .int 3, .int mm, .int mq])), (mb, .inl (cI, 20, .inl q_7))]) hP hD rfl
      clear hP hD
      obtain ⟨hP, hD⟩ := h9R
      refine lv_iload hx hb dX1_run_28 (lv_at hl 5 rfl) ?_
      refine lv_iconst (v := 1) hx hb dX1_run_30 (by decide) ?_
      refine lv_iadd hx hb dX1_run_31 ?_
      refine lv_topi (fun y_8 ey_8 => ?_)
      obtain rfl : y_8 = 1 := ey_8.trans (by decide)
      refine lv_istore (lv' := [(6, .int 1), (5, .int 12), (0, .ref mv), (1, .int 3), (2, .int 2), (3, .int x), (4, .int 0)]) hx hb dX1_run_32 hl (by decide) rfl (fun ls hl => ?_)
      refine lv_iload hx hb dX1_run_34 (lv_at hl 1 rfl) ?_
      refine lv_lookup (off := 114) (tgt := 150) hx hb dX1_run_36 (by decide) (by decide) (by decide) ?_
      refine lv_aload_n hx hb dX1_run_150 rfl (lv_at hl 2 rfl) ?_
      refine lv_aload_n hx hb dX1_run_151 rfl (lv_at hl 2 rfl) ?_
      refine va_get (D := D) (ci := 1) (v := .int 3) (C := RX1) (T := TX1) (N := 5) hx hb hts hi_X1_run_1 hown hK hP 0 rfl rfl 2 (by decide) (hts (.fieldLink RX1 19 "TheLiningsInIt$Moves" "kind" "I") (List.mem_of_getElem? (i := 2) rfl)) (fun _ h9 => h9) rfl dX1_run_152 ?_
      refine lv_iconst (v := 1) hx hb dX1_run_155 (by decide) ?_
      refine lv_iload_n hx hb dX1_run_156 rfl (lv_at hl 5 rfl) ?_
      refine lv_iload hx hb dX1_run_157 (lv_at hl 0 rfl) ?_
      skip
      refine zw_V (As := [.int 3, .int 1, .int x, .int 1]) (rest := []) (wr := []) ⟨hx, hb, hml, hown, hts⟩ (c_M_run_3_3_1_1 l D cI cJ cZ cP cS po mv mb (q_6) (mm) (mq) q_7 (x) (by omega) (by omega) H.size) (cwV 4 hts gX1_run_X1_run rfl rfl rfl ⟨rfl, dh_X1_run⟩ ⟨Nat.le_of_ble_eq_true rfl, Nat.le_of_ble_eq_true rfl⟩) hK hN (hZ.kept hS) hP hD hS hA [0, 1] [] rfl rfl (by decide) (by decide) (by decide) (va_recv (q := (RX1, TX1, 5)) hK hP (ci := 1) (q0 := 0) rfl rfl) rfl hl.1 rfl (Nat.le_of_ble_eq_true rfl) dX1_run_159 ⟨Nat.le_of_ble_eq_true rfl, Nat.le_of_ble_eq_true rfl⟩ (fun r_9 u_10 H locs hr_9 hP hD hS => ?_)
      obtain ⟨q_11, q_12⟩ := u_10
      try dsimp only at hr_9
      obtain ⟨hbq_11, hr_9⟩ := hr_9
      have h9R := zRe (ws' := [(mv, .inr (1, [.ref mb, .int q_11, .int 3, .int mm, .int mq])), (mb, .inl (cI, 20, .inl q_12))]) hP hD rfl
      clear hP hD
      obtain ⟨hP, hD⟩ := h9R
      refine lv_aload_n hx hb dX1_run_162 rfl (lv_at hl 2 rfl) ?_
      refine lv_aload_n hx hb dX1_run_163 rfl (lv_at hl 2 rfl) ?_
      refine va_get (D := D) (ci := 1) (v := .int 3) (C := RX1) (T := TX1) (N := 5) hx hb hts hi_X1_run_1 hown hK hP 0 rfl rfl 2 (by decide) (hts (.fieldLink RX1 19 "TheLiningsInIt$Moves" "kind" "I") (List.mem_of_getElem? (i := 2) rfl)) (fun _ h9 => h9) rfl dX1_run_164 ?_
      refine lv_iconst (v := 0) hx hb dX1_run_167 (by decide) ?_
      refine lv_iload_n hx hb dX1_run_168 rfl (lv_at hl 5 rfl) ?_
      refine lv_aload_n hx hb dX1_run_169 rfl (lv_at hl 2 rfl) ?_
      refine va_get (D := D) (ci := 1) (v := .int mq) (C := RX1) (T := TX1) (N := 5) hx hb hts hi_X1_run_1 hown hK hP 0 rfl rfl 4 (by decide) (hts (.fieldLink RX1 25 "TheLiningsInIt$Moves" "k" "I") (List.mem_of_getElem? (i := 3) rfl)) (fun _ h9 => h9) rfl dX1_run_170 ?_
      refine lv_isub hx hb dX1_run_173 ?_
      refine lv_topi (fun x_13 ex_13 => ?_)
      refine lv_iload hx hb dX1_run_174 (lv_at hl 0 rfl) ?_
      skip
      refine zw_V (As := [.int 3, .int 0, .int x_13, .int 1]) (rest := [.int r_9]) (wr := []) ⟨hx, hb, hml, hown, hts⟩ (c_M_run_3_3_0_1 l D cI cJ cZ cP cS po mv mb (q_11) (mm) (mq) q_12 (x_13) (by omega) (by omega) H.size) (cwV 4 hts gX1_run_X1_run rfl rfl rfl ⟨rfl, dh_X1_run⟩ ⟨Nat.le_of_ble_eq_true rfl, Nat.le_of_ble_eq_true rfl⟩) hK hN (hZ.kept hS) hP hD hS hA [0, 1] [] rfl rfl (by decide) (by decide) (by decide) (va_recv (q := (RX1, TX1, 5)) hK hP (ci := 1) (q0 := 0) rfl rfl) rfl hl.1 rfl (Nat.le_of_ble_eq_true rfl) dX1_run_176 ⟨Nat.le_of_ble_eq_true rfl, Nat.le_of_ble_eq_true rfl⟩ (fun r_14 u_15 H locs hr_14 hP hD hS => ?_)
      obtain ⟨q_16, q_17⟩ := u_15
      try dsimp only at hr_14
      obtain ⟨hbq_16, hr_14⟩ := hr_14
      have h9R := zRe (ws' := [(mv, .inr (1, [.ref mb, .int q_16, .int 3, .int mm, .int mq])), (mb, .inl (cI, 20, .inl q_17))]) hP hD rfl
      clear hP hD
      obtain ⟨hP, hD⟩ := h9R
      refine lv_ixor hx hb dX1_run_179 ?_
      refine lv_topi (fun x_18 ex_18 => ?_)
      exact W.iret (v := x_18) hx hb hr (fun t ht hW => ⟨⟨x_18, (q_16, q_17), rfl, ⟨(show q_16.toInt = mr.toInt + 7 from by omega), trivial⟩, zRet ht hP hD [0, 1] (by decide) rfl⟩, hS.F ht⟩) hS.2.2 dX1_run_180
    · exact absurd c_3 (by decide)
set_option maxHeartbeats 4000000 in
set_option maxRecDepth 100000 in
theorem c_M_run_4_0_0_1 (l : Launch) (D : va_G) (cI cJ cZ cP cS : ClassId) (po : zPool) (mv mb : Nat) (mr mm mq : Int32) (fb : Nat → Int32) (x : Int32) (hy0 : 0 ≤ mr.toInt) (hy1 : mr.toInt ≤ 1100) (hpz : Nat) : Met l yX1_run wsX1_run ({ frames := 2, cells := 0, slots := 0, locals := 46 }) (va_Pc [.ref mv, .int 0, .int 0, .int x, .int 1] (zW D (zKT cI cJ cZ cP cS) po [(mv, .inr (1, [.ref mb, .int mr, .int 4, .int mm, .int mq])), (mb, .inl (cI, 20, .inl fb))] hpz)) (va_Qi (fun (r : Int32) (u : (Int32) × (Nat → Int32)) => u.1.toInt = mr.toInt + 1 ∧ (True)) (zB D [(mv, .inr (1, [.ref mb, .int mr, .int 4, .int mm, .int mq])), (mb, .inl (cI, 20, .inl fb))] hpz (fun (u : (Int32) × (Nat → Int32)) => [(mv, .inr (1, [.ref mb, .int u.1, .int 4, .int mm, .int mq])), (mb, .inl (cI, 20, .inl u.2))])) (va_A [(mv, .inr (1, [.ref mb, .int mr, .int 4, .int mm, .int mq])), (mb, .inl (cI, 20, .inl fb))] hpz)) 0 0 (va_A [(mv, .inr (1, [.ref mb, .int mr, .int 4, .int mm, .int mq])), (mb, .inl (cI, 20, .inl fb))] hpz) := by
  refine Met.ofW (cc := cX1_run) (maxL := 7) (ret := (some .int)) (by decide) rfl ?_
  intro p e s m args below meth c s₁ B hml hv
  obtain ⟨rfl, hsz, hP, hK, hD0, hN, hZ⟩ := hv
  have hx := B.exec
  have hb := B.bytes
  have hr := B.returns
  have hts := atoms_spec (ws := wsX1_run) B.pre
  have hown : s.vm.findClass RX1 = some m.cls := findClass_of_methodNamed B.named
  have hlocks := B.notSynchronized
  subst hsz
  have hD := hD0.self (sz := s.heap.size)
  have hA := zA_of hD
  have hl := lv_entry ([.ref mv, .int 0, .int 0, .int x, .int 1]) (n := 7) (Nat.le_of_ble_eq_true rfl)
  rw [lg_entry_eq]
  generalize (lg_sl ([.ref mv, .int 0, .int 0, .int x, .int 1]) ++ List.replicate (7 - (lg_sl ([.ref mv, .int 0, .int 0, .int x, .int 1])).length) Slot.unset).toArray = ls at hl ⊢
  replace hl : lv_has ls 7 [(0, .ref mv), (1, .int 0), (2, .int 0), (3, .int x), (4, .int 1)] := hl
  refine zw_begin hP hD (fun H locs hP1 hS => ?_)
  clear hP
  have hP := hP1
  clear hP1
  refine lv_iload_n hx hb dX1_run_0 rfl (lv_at hl 1 rfl) ?_
  refine lv_iload_n hx hb dX1_run_1 rfl (lv_at hl 2 rfl) ?_
  refine zc_S (As := [.int 0, .int 0]) (rest := []) ⟨hx, hb, hml, hown, hts⟩ (c_M_bodyFor_0_0 l D cI cJ cZ cP cS po  ) (va_cwS 2 hts gX1_run_X1_bodyFor rfl rfl rfl dh_X1_bodyFor ⟨Nat.le_of_ble_eq_true rfl, Nat.le_of_ble_eq_true rfl⟩) hK hN (hZ.kept hS) rfl hl.1 rfl (Nat.le_of_ble_eq_true rfl) dX1_run_2 ⟨Nat.le_of_ble_eq_true rfl, Nat.le_of_ble_eq_true rfl⟩ (fun r_1 hr_1 => ?_)
  obtain rfl := hr_1
  refine lv_istore (lv' := [(5, .int 10), (0, .ref mv), (1, .int 0), (2, .int 0), (3, .int x), (4, .int 1)]) hx hb dX1_run_5 hl (by decide) rfl (fun ls hl => ?_)
  refine lv_iload hx hb dX1_run_7 (lv_at hl 0 rfl) ?_
  refine lv_iconst (v := (-1)) hx hb dX1_run_9 (by decide) ?_
  refine lv_icmp_eq (tgt := 20) hx hb dX1_run_10 (by decide) (fun c_2 => ?_) (fun c_2 => ?_)
  · exact absurd c_2 (by decide)
  · refine lv_iload hx hb dX1_run_13 (lv_at hl 5 rfl) ?_
    refine lv_bipush (v := 40) hx hb dX1_run_15 (by decide) ?_
    refine lv_icmp_lt (tgt := 22) hx hb dX1_run_17 (by decide) (fun c_3 => ?_) (fun c_3 => ?_)
    · refine lv_aload_n hx hb dX1_run_22 rfl (lv_at hl 1 rfl) ?_
      refine lv_iload hx hb dX1_run_23 (lv_at hl 0 rfl) ?_
      skip
      refine zw_Vv (As := [.int 10]) (rest := []) (wr := []) ⟨hx, hb, hml, hown, hts⟩ (c_M_note l D cI cJ cZ cP cS po mv mb (mr) (4) (mm) (mq) fb (10) hy0 (by omega) H.size) (cwV 1 hts gX1_run_X1_note rfl rfl rfl ⟨rfl, dh_X1_note⟩ ⟨Nat.le_of_ble_eq_true rfl, Nat.le_of_ble_eq_true rfl⟩) hK hN (hZ.kept hS) hP hD hS hA [0, 1] [] rfl rfl (by decide) (by decide) (by decide) (va_recv (q := (RX1, TX1, 5)) hK hP (ci := 1) (q0 := 0) rfl rfl) rfl hl.1 rfl (Nat.le_of_ble_eq_true rfl) dX1_run_25 ⟨Nat.le_of_ble_eq_true rfl, Nat.le_of_ble_eq_true rfl⟩ (fun u_5 H locs hr_4 hP hD hS => ?_)
      obtain ⟨q_6, q_7⟩ := u_5
      try dsimp only at hr_4
      obtain ⟨hbq_6, hr_4⟩ := hr_4
      have h9R := zRe (ws' := [(mv, .inr (1, [.ref mb, .int q_6, .int 4, .int mm, .int mq])), (mb, .inl (cI, 20, .inl q_7))]) hP hD rfl
      clear hP hD
      obtain ⟨hP, hD⟩ := h9R
      refine lv_iload hx hb dX1_run_28 (lv_at hl 5 rfl) ?_
      refine lv_iconst (v := 1) hx hb dX1_run_30 (by decide) ?_
      refine lv_iadd hx hb dX1_run_31 ?_
      refine lv_topi (fun y_8 ey_8 => ?_)
      obtain rfl : y_8 = 2 := ey_8.trans (by decide)
      refine lv_istore (lv' := [(6, .int 2), (5, .int 10), (0, .ref mv), (1, .int 0), (2, .int 0), (3, .int x), (4, .int 1)]) hx hb dX1_run_32 hl (by decide) rfl (fun ls hl => ?_)
      refine lv_iload hx hb dX1_run_34 (lv_at hl 1 rfl) ?_
      refine lv_lookup (off := 92) (tgt := 128) hx hb dX1_run_36 (by decide) (by decide) (by decide) ?_
      refine lv_iload_n hx hb dX1_run_128 rfl (lv_at hl 5 rfl) ?_
      refine lv_aload_n hx hb dX1_run_129 rfl (lv_at hl 2 rfl) ?_
      refine va_get (D := D) (ci := 1) (v := .int mm) (C := RX1) (T := TX1) (N := 5) hx hb hts hi_X1_run_1 hown hK hP 0 rfl rfl 3 (by decide) (hts (.fieldLink RX1 22 "TheLiningsInIt$Moves" "m" "I") (List.mem_of_getElem? (i := 1) rfl)) (fun _ h9 => h9) rfl dX1_run_130 ?_
      refine lv_iadd hx hb dX1_run_133 ?_
      refine lv_topi (fun x_9 ex_9 => ?_)
      exact W.iret (v := x_9) hx hb hr (fun t ht hW => ⟨⟨x_9, (q_6, q_7), rfl, ⟨(show q_6.toInt = mr.toInt + 1 from by omega), trivial⟩, zRet ht hP hD [0, 1] (by decide) rfl⟩, hS.F ht⟩) hS.2.2 dX1_run_134
    · exact absurd c_3 (by decide)
set_option maxHeartbeats 4000000 in
set_option maxRecDepth 100000 in
theorem c_M_run_4_4_0_0 (l : Launch) (D : va_G) (cI cJ cZ cP cS : ClassId) (po : zPool) (mv mb : Nat) (mr mm mq : Int32) (fb : Nat → Int32) (x : Int32) (hy0 : 0 ≤ mr.toInt) (hy1 : mr.toInt ≤ 1000) (hpz : Nat) : Met l yX1_run wsX1_run ({ frames := 3, cells := 0, slots := 0, locals := 72 }) (va_Pc [.ref mv, .int 4, .int 0, .int x, .int 0] (zW D (zKT cI cJ cZ cP cS) po [(mv, .inr (1, [.ref mb, .int mr, .int 4, .int mm, .int mq])), (mb, .inl (cI, 20, .inl fb))] hpz)) (va_Qi (fun (r : Int32) (u : (Int32) × (Nat → Int32)) => u.1.toInt = mr.toInt + 2 ∧ (True)) (zB D [(mv, .inr (1, [.ref mb, .int mr, .int 4, .int mm, .int mq])), (mb, .inl (cI, 20, .inl fb))] hpz (fun (u : (Int32) × (Nat → Int32)) => [(mv, .inr (1, [.ref mb, .int u.1, .int 4, .int mm, .int mq])), (mb, .inl (cI, 20, .inl u.2))])) (va_A [(mv, .inr (1, [.ref mb, .int mr, .int 4, .int mm, .int mq])), (mb, .inl (cI, 20, .inl fb))] hpz)) 0 0 (va_A [(mv, .inr (1, [.ref mb, .int mr, .int 4, .int mm, .int mq])), (mb, .inl (cI, 20, .inl fb))] hpz) := by
  refine Met.ofW (cc := cX1_run) (maxL := 7) (ret := (some .int)) (by decide) rfl ?_
  intro p e s m args below meth c s₁ B hml hv
  obtain ⟨rfl, hsz, hP, hK, hD0, hN, hZ⟩ := hv
  have hx := B.exec
  have hb := B.bytes
  have hr := B.returns
  have hts := atoms_spec (ws := wsX1_run) B.pre
  have hown : s.vm.findClass RX1 = some m.cls := findClass_of_methodNamed B.named
  have hlocks := B.notSynchronized
  subst hsz
  have hD := hD0.self (sz := s.heap.size)
  have hA := zA_of hD
  have hl := lv_entry ([.ref mv, .int 4, .int 0, .int x, .int 0]) (n := 7) (Nat.le_of_ble_eq_true rfl)
  rw [lg_entry_eq]
  generalize (lg_sl ([.ref mv, .int 4, .int 0, .int x, .int 0]) ++ List.replicate (7 - (lg_sl ([.ref mv, .int 4, .int 0, .int x, .int 0])).length) Slot.unset).toArray = ls at hl ⊢
  replace hl : lv_has ls 7 [(0, .ref mv), (1, .int 4), (2, .int 0), (3, .int x), (4, .int 0)] := hl
  refine zw_begin hP hD (fun H locs hP1 hS => ?_)
  clear hP
  have hP := hP1
  clear hP1
  refine lv_iload_n hx hb dX1_run_0 rfl (lv_at hl 1 rfl) ?_
  refine lv_iload_n hx hb dX1_run_1 rfl (lv_at hl 2 rfl) ?_
  refine zc_S (As := [.int 4, .int 0]) (rest := []) ⟨hx, hb, hml, hown, hts⟩ (c_M_bodyFor_4_0 l D cI cJ cZ cP cS po  ) (va_cwS 2 hts gX1_run_X1_bodyFor rfl rfl rfl dh_X1_bodyFor ⟨Nat.le_of_ble_eq_true rfl, Nat.le_of_ble_eq_true rfl⟩) hK hN (hZ.kept hS) rfl hl.1 rfl (Nat.le_of_ble_eq_true rfl) dX1_run_2 ⟨Nat.le_of_ble_eq_true rfl, Nat.le_of_ble_eq_true rfl⟩ (fun r_1 hr_1 => ?_)
  obtain rfl := hr_1
  refine lv_istore (lv' := [(5, .int 51), (0, .ref mv), (1, .int 4), (2, .int 0), (3, .int x), (4, .int 0)]) hx hb dX1_run_5 hl (by decide) rfl (fun ls hl => ?_)
  refine lv_iload hx hb dX1_run_7 (lv_at hl 0 rfl) ?_
  refine lv_iconst (v := (-1)) hx hb dX1_run_9 (by decide) ?_
  refine lv_icmp_eq (tgt := 20) hx hb dX1_run_10 (by decide) (fun c_2 => ?_) (fun c_2 => ?_)
  · exact absurd c_2 (by decide)
  · refine lv_iload hx hb dX1_run_13 (lv_at hl 5 rfl) ?_
    refine lv_bipush (v := 40) hx hb dX1_run_15 (by decide) ?_
    refine lv_icmp_lt (tgt := 22) hx hb dX1_run_17 (by decide) (fun c_3 => ?_) (fun c_3 => ?_)
    · refine lv_aload_n hx hb dX1_run_22 rfl (lv_at hl 1 rfl) ?_
      refine lv_iload hx hb dX1_run_23 (lv_at hl 0 rfl) ?_
      skip
      refine zw_Vv (As := [.int 51]) (rest := []) (wr := []) ⟨hx, hb, hml, hown, hts⟩ (c_M_note l D cI cJ cZ cP cS po mv mb (mr) (4) (mm) (mq) fb (51) hy0 (by omega) H.size) (cwV 1 hts gX1_run_X1_note rfl rfl rfl ⟨rfl, dh_X1_note⟩ ⟨Nat.le_of_ble_eq_true rfl, Nat.le_of_ble_eq_true rfl⟩) hK hN (hZ.kept hS) hP hD hS hA [0, 1] [] rfl rfl (by decide) (by decide) (by decide) (va_recv (q := (RX1, TX1, 5)) hK hP (ci := 1) (q0 := 0) rfl rfl) rfl hl.1 rfl (Nat.le_of_ble_eq_true rfl) dX1_run_25 ⟨Nat.le_of_ble_eq_true rfl, Nat.le_of_ble_eq_true rfl⟩ (fun u_5 H locs hr_4 hP hD hS => ?_)
      obtain ⟨q_6, q_7⟩ := u_5
      try dsimp only at hr_4
      obtain ⟨hbq_6, hr_4⟩ := hr_4
      have h9R := zRe (ws' := [(mv, .inr (1, [.ref mb, .int q_6, .int 4, .int mm, .int mq])), (mb, .inl (cI, 20, .inl q_7))]) hP hD rfl
      clear hP hD
      obtain ⟨hP, hD⟩ := h9R
      refine lv_iload hx hb dX1_run_28 (lv_at hl 5 rfl) ?_
      refine lv_iconst (v := 1) hx hb dX1_run_30 (by decide) ?_
      refine lv_iadd hx hb dX1_run_31 ?_
      refine lv_topi (fun y_8 ey_8 => ?_)
      obtain rfl : y_8 = 1 := ey_8.trans (by decide)
      refine lv_istore (lv' := [(6, .int 1), (5, .int 51), (0, .ref mv), (1, .int 4), (2, .int 0), (3, .int x), (4, .int 0)]) hx hb dX1_run_32 hl (by decide) rfl (fun ls hl => ?_)
      refine lv_iload hx hb dX1_run_34 (lv_at hl 1 rfl) ?_
      refine lv_lookup (off := 195) (tgt := 231) hx hb dX1_run_36 (by decide) (by decide) (by decide) ?_
      refine lv_aload_n hx hb dX1_run_231 rfl (lv_at hl 2 rfl) ?_
      refine lv_iconst (v := 0) hx hb dX1_run_232 (by decide) ?_
      refine lv_iconst (v := 0) hx hb dX1_run_233 (by decide) ?_
      refine lv_iload_n hx hb dX1_run_234 rfl (lv_at hl 5 rfl) ?_
      refine lv_iload hx hb dX1_run_235 (lv_at hl 0 rfl) ?_
      skip
      refine zw_V (As := [.int 0, .int 0, .int x, .int 1]) (rest := []) (wr := []) ⟨hx, hb, hml, hown, hts⟩ (c_M_run_4_0_0_1 l D cI cJ cZ cP cS po mv mb (q_6) (mm) (mq) q_7 (x) (by omega) (by omega) H.size) (cwV 4 hts gX1_run_X1_run rfl rfl rfl ⟨rfl, dh_X1_run⟩ ⟨Nat.le_of_ble_eq_true rfl, Nat.le_of_ble_eq_true rfl⟩) hK hN (hZ.kept hS) hP hD hS hA [0, 1] [] rfl rfl (by decide) (by decide) (by decide) (va_recv (q := (RX1, TX1, 5)) hK hP (ci := 1) (q0 := 0) rfl rfl) rfl hl.1 rfl (Nat.le_of_ble_eq_true rfl) dX1_run_237 ⟨Nat.le_of_ble_eq_true rfl, Nat.le_of_ble_eq_true rfl⟩ (fun r_9 u_10 H locs hr_9 hP hD hS => ?_)
      obtain ⟨q_11, q_12⟩ := u_10
      try dsimp only at hr_9
      obtain ⟨hbq_11, hr_9⟩ := hr_9
      have h9R := zRe (ws' := [(mv, .inr (1, [.ref mb, .int q_11, .int 4, .int mm, .int mq])), (mb, .inl (cI, 20, .inl q_12))]) hP hD rfl
      clear hP hD
      obtain ⟨hP, hD⟩ := h9R
      refine lv_aload_n hx hb dX1_run_240 rfl (lv_at hl 2 rfl) ?_
      refine va_get (D := D) (ci := 1) (v := .int mm) (C := RX1) (T := TX1) (N := 5) hx hb hts hi_X1_run_1 hown hK hP 0 rfl rfl 3 (by decide) (hts (.fieldLink RX1 22 "TheLiningsInIt$Moves" "m" "I") (List.mem_of_getElem? (i := 1) rfl)) (fun _ h9 => h9) rfl dX1_run_241 ?_
      refine lv_isub hx hb dX1_run_244 ?_
      refine lv_topi (fun x_13 ex_13 => ?_)
      exact W.iret (v := x_13) hx hb hr (fun t ht hW => ⟨⟨x_13, (q_11, q_12), rfl, ⟨(show q_11.toInt = mr.toInt + 2 from by omega), trivial⟩, zRet ht hP hD [0, 1] (by decide) rfl⟩, hS.F ht⟩) hS.2.2 dX1_run_245
    · exact absurd c_3 (by decide)
set_option maxHeartbeats 4000000 in
set_option maxRecDepth 100000 in
theorem c_M_run_4_0_0_2 (l : Launch) (D : va_G) (cI cJ cZ cP cS : ClassId) (po : zPool) (mv mb : Nat) (mr mm mq : Int32) (fb : Nat → Int32) (x : Int32) (hy0 : 0 ≤ mr.toInt) (hy1 : mr.toInt ≤ 1200) (hpz : Nat) : Met l yX1_run wsX1_run ({ frames := 2, cells := 0, slots := 0, locals := 46 }) (va_Pc [.ref mv, .int 0, .int 0, .int x, .int 2] (zW D (zKT cI cJ cZ cP cS) po [(mv, .inr (1, [.ref mb, .int mr, .int 4, .int mm, .int mq])), (mb, .inl (cI, 20, .inl fb))] hpz)) (va_Qi (fun (r : Int32) (u : (Int32) × (Nat → Int32)) => u.1.toInt = mr.toInt + 1 ∧ (True)) (zB D [(mv, .inr (1, [.ref mb, .int mr, .int 4, .int mm, .int mq])), (mb, .inl (cI, 20, .inl fb))] hpz (fun (u : (Int32) × (Nat → Int32)) => [(mv, .inr (1, [.ref mb, .int u.1, .int 4, .int mm, .int mq])), (mb, .inl (cI, 20, .inl u.2))])) (va_A [(mv, .inr (1, [.ref mb, .int mr, .int 4, .int mm, .int mq])), (mb, .inl (cI, 20, .inl fb))] hpz)) 0 0 (va_A [(mv, .inr (1, [.ref mb, .int mr, .int 4, .int mm, .int mq])), (mb, .inl (cI, 20, .inl fb))] hpz) := by
  refine Met.ofW (cc := cX1_run) (maxL := 7) (ret := (some .int)) (by decide) rfl ?_
  intro p e s m args below meth c s₁ B hml hv
  obtain ⟨rfl, hsz, hP, hK, hD0, hN, hZ⟩ := hv
  have hx := B.exec
  have hb := B.bytes
  have hr := B.returns
  have hts := atoms_spec (ws := wsX1_run) B.pre
  have hown : s.vm.findClass RX1 = some m.cls := findClass_of_methodNamed B.named
  have hlocks := B.notSynchronized
  subst hsz
  have hD := hD0.self (sz := s.heap.size)
  have hA := zA_of hD
  have hl := lv_entry ([.ref mv, .int 0, .int 0, .int x, .int 2]) (n := 7) (Nat.le_of_ble_eq_true rfl)
  rw [lg_entry_eq]
  generalize (lg_sl ([.ref mv, .int 0, .int 0, .int x, .int 2]) ++ List.replicate (7 - (lg_sl ([.ref mv, .int 0, .int 0, .int x, .int 2])).length) Slot.unset).toArray = ls at hl ⊢
  replace hl : lv_has ls 7 [(0, .ref mv), (1, .int 0), (2, .int 0), (3, .int x), (4, .int 2)] := hl
  refine zw_begin hP hD (fun H locs hP1 hS => ?_)
  clear hP
  have hP := hP1
  clear hP1
  refine lv_iload_n hx hb dX1_run_0 rfl (lv_at hl 1 rfl) ?_
  refine lv_iload_n hx hb dX1_run_1 rfl (lv_at hl 2 rfl) ?_
  refine zc_S (As := [.int 0, .int 0]) (rest := []) ⟨hx, hb, hml, hown, hts⟩ (c_M_bodyFor_0_0 l D cI cJ cZ cP cS po  ) (va_cwS 2 hts gX1_run_X1_bodyFor rfl rfl rfl dh_X1_bodyFor ⟨Nat.le_of_ble_eq_true rfl, Nat.le_of_ble_eq_true rfl⟩) hK hN (hZ.kept hS) rfl hl.1 rfl (Nat.le_of_ble_eq_true rfl) dX1_run_2 ⟨Nat.le_of_ble_eq_true rfl, Nat.le_of_ble_eq_true rfl⟩ (fun r_1 hr_1 => ?_)
  obtain rfl := hr_1
  refine lv_istore (lv' := [(5, .int 10), (0, .ref mv), (1, .int 0), (2, .int 0), (3, .int x), (4, .int 2)]) hx hb dX1_run_5 hl (by decide) rfl (fun ls hl => ?_)
  refine lv_iload hx hb dX1_run_7 (lv_at hl 0 rfl) ?_
  refine lv_iconst (v := (-1)) hx hb dX1_run_9 (by decide) ?_
  refine lv_icmp_eq (tgt := 20) hx hb dX1_run_10 (by decide) (fun c_2 => ?_) (fun c_2 => ?_)
  · exact absurd c_2 (by decide)
  · refine lv_iload hx hb dX1_run_13 (lv_at hl 5 rfl) ?_
    refine lv_bipush (v := 40) hx hb dX1_run_15 (by decide) ?_
    refine lv_icmp_lt (tgt := 22) hx hb dX1_run_17 (by decide) (fun c_3 => ?_) (fun c_3 => ?_)
    · refine lv_aload_n hx hb dX1_run_22 rfl (lv_at hl 1 rfl) ?_
      refine lv_iload hx hb dX1_run_23 (lv_at hl 0 rfl) ?_
      skip
      refine zw_Vv (As := [.int 10]) (rest := []) (wr := []) ⟨hx, hb, hml, hown, hts⟩ (c_M_note l D cI cJ cZ cP cS po mv mb (mr) (4) (mm) (mq) fb (10) hy0 (by omega) H.size) (cwV 1 hts gX1_run_X1_note rfl rfl rfl ⟨rfl, dh_X1_note⟩ ⟨Nat.le_of_ble_eq_true rfl, Nat.le_of_ble_eq_true rfl⟩) hK hN (hZ.kept hS) hP hD hS hA [0, 1] [] rfl rfl (by decide) (by decide) (by decide) (va_recv (q := (RX1, TX1, 5)) hK hP (ci := 1) (q0 := 0) rfl rfl) rfl hl.1 rfl (Nat.le_of_ble_eq_true rfl) dX1_run_25 ⟨Nat.le_of_ble_eq_true rfl, Nat.le_of_ble_eq_true rfl⟩ (fun u_5 H locs hr_4 hP hD hS => ?_)
      obtain ⟨q_6, q_7⟩ := u_5
      try dsimp only at hr_4
      obtain ⟨hbq_6, hr_4⟩ := hr_4
      have h9R := zRe (ws' := [(mv, .inr (1, [.ref mb, .int q_6, .int 4, .int mm, .int mq])), (mb, .inl (cI, 20, .inl q_7))]) hP hD rfl
      clear hP hD
      obtain ⟨hP, hD⟩ := h9R
      refine lv_iload hx hb dX1_run_28 (lv_at hl 5 rfl) ?_
      refine lv_iconst (v := 1) hx hb dX1_run_30 (by decide) ?_
      refine lv_iadd hx hb dX1_run_31 ?_
      refine lv_topi (fun y_8 ey_8 => ?_)
      obtain rfl : y_8 = 3 := ey_8.trans (by decide)
      refine lv_istore (lv' := [(6, .int 3), (5, .int 10), (0, .ref mv), (1, .int 0), (2, .int 0), (3, .int x), (4, .int 2)]) hx hb dX1_run_32 hl (by decide) rfl (fun ls hl => ?_)
      refine lv_iload hx hb dX1_run_34 (lv_at hl 1 rfl) ?_
      refine lv_lookup (off := 92) (tgt := 128) hx hb dX1_run_36 (by decide) (by decide) (by decide) ?_
      refine lv_iload_n hx hb dX1_run_128 rfl (lv_at hl 5 rfl) ?_
      refine lv_aload_n hx hb dX1_run_129 rfl (lv_at hl 2 rfl) ?_
      refine va_get (D := D) (ci := 1) (v := .int mm) (C := RX1) (T := TX1) (N := 5) hx hb hts hi_X1_run_1 hown hK hP 0 rfl rfl 3 (by decide) (hts (.fieldLink RX1 22 "TheLiningsInIt$Moves" "m" "I") (List.mem_of_getElem? (i := 1) rfl)) (fun _ h9 => h9) rfl dX1_run_130 ?_
      refine lv_iadd hx hb dX1_run_133 ?_
      refine lv_topi (fun x_9 ex_9 => ?_)
      exact W.iret (v := x_9) hx hb hr (fun t ht hW => ⟨⟨x_9, (q_6, q_7), rfl, ⟨(show q_6.toInt = mr.toInt + 1 from by omega), trivial⟩, zRet ht hP hD [0, 1] (by decide) rfl⟩, hS.F ht⟩) hS.2.2 dX1_run_134
    · exact absurd c_3 (by decide)
set_option maxHeartbeats 4000000 in
set_option maxRecDepth 100000 in
theorem c_M_run_4_4_0_1 (l : Launch) (D : va_G) (cI cJ cZ cP cS : ClassId) (po : zPool) (mv mb : Nat) (mr mm mq : Int32) (fb : Nat → Int32) (x : Int32) (hy0 : 0 ≤ mr.toInt) (hy1 : mr.toInt ≤ 1100) (hpz : Nat) : Met l yX1_run wsX1_run ({ frames := 3, cells := 0, slots := 0, locals := 72 }) (va_Pc [.ref mv, .int 4, .int 0, .int x, .int 1] (zW D (zKT cI cJ cZ cP cS) po [(mv, .inr (1, [.ref mb, .int mr, .int 4, .int mm, .int mq])), (mb, .inl (cI, 20, .inl fb))] hpz)) (va_Qi (fun (r : Int32) (u : (Int32) × (Nat → Int32)) => u.1.toInt = mr.toInt + 2 ∧ (True)) (zB D [(mv, .inr (1, [.ref mb, .int mr, .int 4, .int mm, .int mq])), (mb, .inl (cI, 20, .inl fb))] hpz (fun (u : (Int32) × (Nat → Int32)) => [(mv, .inr (1, [.ref mb, .int u.1, .int 4, .int mm, .int mq])), (mb, .inl (cI, 20, .inl u.2))])) (va_A [(mv, .inr (1, [.ref mb, .int mr, .int 4, .int mm, .int mq])), (mb, .inl (cI, 20, .inl fb))] hpz)) 0 0 (va_A [(mv, .inr (1, [.ref mb, .int mr, .int 4, .int mm, .int mq])), (mb, .inl (cI, 20, .inl fb))] hpz) := by
  refine Met.ofW (cc := cX1_run) (maxL := 7) (ret := (some .int)) (by decide) rfl ?_
  intro p e s m args below meth c s₁ B hml hv
  obtain ⟨rfl, hsz, hP, hK, hD0, hN, hZ⟩ := hv
  have hx := B.exec
  have hb := B.bytes
  have hr := B.returns
  have hts := atoms_spec (ws := wsX1_run) B.pre
  have hown : s.vm.findClass RX1 = some m.cls := findClass_of_methodNamed B.named
  have hlocks := B.notSynchronized
  subst hsz
  have hD := hD0.self (sz := s.heap.size)
  have hA := zA_of hD
  have hl := lv_entry ([.ref mv, .int 4, .int 0, .int x, .int 1]) (n := 7) (Nat.le_of_ble_eq_true rfl)
  rw [lg_entry_eq]
  generalize (lg_sl ([.ref mv, .int 4, .int 0, .int x, .int 1]) ++ List.replicate (7 - (lg_sl ([.ref mv, .int 4, .int 0, .int x, .int 1])).length) Slot.unset).toArray = ls at hl ⊢
  replace hl : lv_has ls 7 [(0, .ref mv), (1, .int 4), (2, .int 0), (3, .int x), (4, .int 1)] := hl
  refine zw_begin hP hD (fun H locs hP1 hS => ?_)
  clear hP
  have hP := hP1
  clear hP1
  refine lv_iload_n hx hb dX1_run_0 rfl (lv_at hl 1 rfl) ?_
  refine lv_iload_n hx hb dX1_run_1 rfl (lv_at hl 2 rfl) ?_
  refine zc_S (As := [.int 4, .int 0]) (rest := []) ⟨hx, hb, hml, hown, hts⟩ (c_M_bodyFor_4_0 l D cI cJ cZ cP cS po  ) (va_cwS 2 hts gX1_run_X1_bodyFor rfl rfl rfl dh_X1_bodyFor ⟨Nat.le_of_ble_eq_true rfl, Nat.le_of_ble_eq_true rfl⟩) hK hN (hZ.kept hS) rfl hl.1 rfl (Nat.le_of_ble_eq_true rfl) dX1_run_2 ⟨Nat.le_of_ble_eq_true rfl, Nat.le_of_ble_eq_true rfl⟩ (fun r_1 hr_1 => ?_)
  obtain rfl := hr_1
  refine lv_istore (lv' := [(5, .int 51), (0, .ref mv), (1, .int 4), (2, .int 0), (3, .int x), (4, .int 1)]) hx hb dX1_run_5 hl (by decide) rfl (fun ls hl => ?_)
  refine lv_iload hx hb dX1_run_7 (lv_at hl 0 rfl) ?_
  refine lv_iconst (v := (-1)) hx hb dX1_run_9 (by decide) ?_
  refine lv_icmp_eq (tgt := 20) hx hb dX1_run_10 (by decide) (fun c_2 => ?_) (fun c_2 => ?_)
  · exact absurd c_2 (by decide)
  · refine lv_iload hx hb dX1_run_13 (lv_at hl 5 rfl) ?_
    refine lv_bipush (v := 40) hx hb dX1_run_15 (by decide) ?_
    refine lv_icmp_lt (tgt := 22) hx hb dX1_run_17 (by decide) (fun c_3 => ?_) (fun c_3 => ?_)
    · refine lv_aload_n hx hb dX1_run_22 rfl (lv_at hl 1 rfl) ?_
      refine lv_iload hx hb dX1_run_23 (lv_at hl 0 rfl) ?_
      skip
      refine zw_Vv (As := [.int 51]) (rest := []) (wr := []) ⟨hx, hb, hml, hown, hts⟩ (c_M_note l D cI cJ cZ cP cS po mv mb (mr) (4) (mm) (mq) fb (51) hy0 (by omega) H.size) (cwV 1 hts gX1_run_X1_note rfl rfl rfl ⟨rfl, dh_X1_note⟩ ⟨Nat.le_of_ble_eq_true rfl, Nat.le_of_ble_eq_true rfl⟩) hK hN (hZ.kept hS) hP hD hS hA [0, 1] [] rfl rfl (by decide) (by decide) (by decide) (va_recv (q := (RX1, TX1, 5)) hK hP (ci := 1) (q0 := 0) rfl rfl) rfl hl.1 rfl (Nat.le_of_ble_eq_true rfl) dX1_run_25 ⟨Nat.le_of_ble_eq_true rfl, Nat.le_of_ble_eq_true rfl⟩ (fun u_5 H locs hr_4 hP hD hS => ?_)
      obtain ⟨q_6, q_7⟩ := u_5
      try dsimp only at hr_4
      obtain ⟨hbq_6, hr_4⟩ := hr_4
      have h9R := zRe (ws' := [(mv, .inr (1, [.ref mb, .int q_6, .int 4, .int mm, .int mq])), (mb, .inl (cI, 20, .inl q_7))]) hP hD rfl
      clear hP hD
      obtain ⟨hP, hD⟩ := h9R
      refine lv_iload hx hb dX1_run_28 (lv_at hl 5 rfl) ?_
      refine lv_iconst (v := 1) hx hb dX1_run_30 (by decide) ?_
      refine lv_iadd hx hb dX1_run_31 ?_
      refine lv_topi (fun y_8 ey_8 => ?_)
      obtain rfl : y_8 = 2 := ey_8.trans (by decide)
      refine lv_istore (lv' := [(6, .int 2), (5, .int 51), (0, .ref mv), (1, .int 4), (2, .int 0), (3, .int x), (4, .int 1)]) hx hb dX1_run_32 hl (by decide) rfl (fun ls hl => ?_)
      refine lv_iload hx hb dX1_run_34 (lv_at hl 1 rfl) ?_
      refine lv_lookup (off := 195) (tgt := 231) hx hb dX1_run_36 (by decide) (by decide) (by decide) ?_
      refine lv_aload_n hx hb dX1_run_231 rfl (lv_at hl 2 rfl) ?_
      refine lv_iconst (v := 0) hx hb dX1_run_232 (by decide) ?_
      refine lv_iconst (v := 0) hx hb dX1_run_233 (by decide) ?_
      refine lv_iload_n hx hb dX1_run_234 rfl (lv_at hl 5 rfl) ?_
      refine lv_iload hx hb dX1_run_235 (lv_at hl 0 rfl) ?_
      skip
      refine zw_V (As := [.int 0, .int 0, .int x, .int 2]) (rest := []) (wr := []) ⟨hx, hb, hml, hown, hts⟩ (c_M_run_4_0_0_2 l D cI cJ cZ cP cS po mv mb (q_6) (mm) (mq) q_7 (x) (by omega) (by omega) H.size) (cwV 4 hts gX1_run_X1_run rfl rfl rfl ⟨rfl, dh_X1_run⟩ ⟨Nat.le_of_ble_eq_true rfl, Nat.le_of_ble_eq_true rfl⟩) hK hN (hZ.kept hS) hP hD hS hA [0, 1] [] rfl rfl (by decide) (by decide) (by decide) (va_recv (q := (RX1, TX1, 5)) hK hP (ci := 1) (q0 := 0) rfl rfl) rfl hl.1 rfl (Nat.le_of_ble_eq_true rfl) dX1_run_237 ⟨Nat.le_of_ble_eq_true rfl, Nat.le_of_ble_eq_true rfl⟩ (fun r_9 u_10 H locs hr_9 hP hD hS => ?_)
      obtain ⟨q_11, q_12⟩ := u_10
      try dsimp only at hr_9
      obtain ⟨hbq_11, hr_9⟩ := hr_9
      have h9R := zRe (ws' := [(mv, .inr (1, [.ref mb, .int q_11, .int 4, .int mm, .int mq])), (mb, .inl (cI, 20, .inl q_12))]) hP hD rfl
      clear hP hD
      obtain ⟨hP, hD⟩ := h9R
      refine lv_aload_n hx hb dX1_run_240 rfl (lv_at hl 2 rfl) ?_
      refine va_get (D := D) (ci := 1) (v := .int mm) (C := RX1) (T := TX1) (N := 5) hx hb hts hi_X1_run_1 hown hK hP 0 rfl rfl 3 (by decide) (hts (.fieldLink RX1 22 "TheLiningsInIt$Moves" "m" "I") (List.mem_of_getElem? (i := 1) rfl)) (fun _ h9 => h9) rfl dX1_run_241 ?_
      refine lv_isub hx hb dX1_run_244 ?_
      refine lv_topi (fun x_13 ex_13 => ?_)
      exact W.iret (v := x_13) hx hb hr (fun t ht hW => ⟨⟨x_13, (q_11, q_12), rfl, ⟨(show q_11.toInt = mr.toInt + 2 from by omega), trivial⟩, zRet ht hP hD [0, 1] (by decide) rfl⟩, hS.F ht⟩) hS.2.2 dX1_run_245
    · exact absurd c_3 (by decide)
set_option maxHeartbeats 4000000 in
set_option maxRecDepth 100000 in
theorem c_M_run_4_4_1_0 (l : Launch) (D : va_G) (cI cJ cZ cP cS : ClassId) (po : zPool) (mv mb : Nat) (mr mm mq : Int32) (fb : Nat → Int32) (x : Int32) (hy0 : 0 ≤ mr.toInt) (hy1 : mr.toInt ≤ 1000) (hpz : Nat) : Met l yX1_run wsX1_run ({ frames := 4, cells := 0, slots := 0, locals := 98 }) (va_Pc [.ref mv, .int 4, .int 1, .int x, .int 0] (zW D (zKT cI cJ cZ cP cS) po [(mv, .inr (1, [.ref mb, .int mr, .int 4, .int mm, .int mq])), (mb, .inl (cI, 20, .inl fb))] hpz)) (va_Qi (fun (r : Int32) (u : (Int32) × (Nat → Int32)) => u.1.toInt = mr.toInt + 3 ∧ (True)) (zB D [(mv, .inr (1, [.ref mb, .int mr, .int 4, .int mm, .int mq])), (mb, .inl (cI, 20, .inl fb))] hpz (fun (u : (Int32) × (Nat → Int32)) => [(mv, .inr (1, [.ref mb, .int u.1, .int 4, .int mm, .int mq])), (mb, .inl (cI, 20, .inl u.2))])) (va_A [(mv, .inr (1, [.ref mb, .int mr, .int 4, .int mm, .int mq])), (mb, .inl (cI, 20, .inl fb))] hpz)) 0 0 (va_A [(mv, .inr (1, [.ref mb, .int mr, .int 4, .int mm, .int mq])), (mb, .inl (cI, 20, .inl fb))] hpz) := by
  refine Met.ofW (cc := cX1_run) (maxL := 7) (ret := (some .int)) (by decide) rfl ?_
  intro p e s m args below meth c s₁ B hml hv
  obtain ⟨rfl, hsz, hP, hK, hD0, hN, hZ⟩ := hv
  have hx := B.exec
  have hb := B.bytes
  have hr := B.returns
  have hts := atoms_spec (ws := wsX1_run) B.pre
  have hown : s.vm.findClass RX1 = some m.cls := findClass_of_methodNamed B.named
  have hlocks := B.notSynchronized
  subst hsz
  have hD := hD0.self (sz := s.heap.size)
  have hA := zA_of hD
  have hl := lv_entry ([.ref mv, .int 4, .int 1, .int x, .int 0]) (n := 7) (Nat.le_of_ble_eq_true rfl)
  rw [lg_entry_eq]
  generalize (lg_sl ([.ref mv, .int 4, .int 1, .int x, .int 0]) ++ List.replicate (7 - (lg_sl ([.ref mv, .int 4, .int 1, .int x, .int 0])).length) Slot.unset).toArray = ls at hl ⊢
  replace hl : lv_has ls 7 [(0, .ref mv), (1, .int 4), (2, .int 1), (3, .int x), (4, .int 0)] := hl
  refine zw_begin hP hD (fun H locs hP1 hS => ?_)
  clear hP
  have hP := hP1
  clear hP1
  refine lv_iload_n hx hb dX1_run_0 rfl (lv_at hl 1 rfl) ?_
  refine lv_iload_n hx hb dX1_run_1 rfl (lv_at hl 2 rfl) ?_
  refine zc_S (As := [.int 4, .int 1]) (rest := []) ⟨hx, hb, hml, hown, hts⟩ (c_M_bodyFor_4_1 l D cI cJ cZ cP cS po  ) (va_cwS 2 hts gX1_run_X1_bodyFor rfl rfl rfl dh_X1_bodyFor ⟨Nat.le_of_ble_eq_true rfl, Nat.le_of_ble_eq_true rfl⟩) hK hN (hZ.kept hS) rfl hl.1 rfl (Nat.le_of_ble_eq_true rfl) dX1_run_2 ⟨Nat.le_of_ble_eq_true rfl, Nat.le_of_ble_eq_true rfl⟩ (fun r_1 hr_1 => ?_)
  obtain rfl := hr_1
  refine lv_istore (lv' := [(5, .int 11), (0, .ref mv), (1, .int 4), (2, .int 1), (3, .int x), (4, .int 0)]) hx hb dX1_run_5 hl (by decide) rfl (fun ls hl => ?_)
  refine lv_iload hx hb dX1_run_7 (lv_at hl 0 rfl) ?_
  refine lv_iconst (v := (-1)) hx hb dX1_run_9 (by decide) ?_
  refine lv_icmp_eq (tgt := 20) hx hb dX1_run_10 (by decide) (fun c_2 => ?_) (fun c_2 => ?_)
  · exact absurd c_2 (by decide)
  · refine lv_iload hx hb dX1_run_13 (lv_at hl 5 rfl) ?_
    refine lv_bipush (v := 40) hx hb dX1_run_15 (by decide) ?_
    refine lv_icmp_lt (tgt := 22) hx hb dX1_run_17 (by decide) (fun c_3 => ?_) (fun c_3 => ?_)
    · refine lv_aload_n hx hb dX1_run_22 rfl (lv_at hl 1 rfl) ?_
      refine lv_iload hx hb dX1_run_23 (lv_at hl 0 rfl) ?_
      skip
      refine zw_Vv (As := [.int 11]) (rest := []) (wr := []) ⟨hx, hb, hml, hown, hts⟩ (c_M_note l D cI cJ cZ cP cS po mv mb (mr) (4) (mm) (mq) fb (11) hy0 (by omega) H.size) (cwV 1 hts gX1_run_X1_note rfl rfl rfl ⟨rfl, dh_X1_note⟩ ⟨Nat.le_of_ble_eq_true rfl, Nat.le_of_ble_eq_true rfl⟩) hK hN (hZ.kept hS) hP hD hS hA [0, 1] [] rfl rfl (by decide) (by decide) (by decide) (va_recv (q := (RX1, TX1, 5)) hK hP (ci := 1) (q0 := 0) rfl rfl) rfl hl.1 rfl (Nat.le_of_ble_eq_true rfl) dX1_run_25 ⟨Nat.le_of_ble_eq_true rfl, Nat.le_of_ble_eq_true rfl⟩ (fun u_5 H locs hr_4 hP hD hS => ?_)
      obtain ⟨q_6, q_7⟩ := u_5
      try dsimp only at hr_4
      obtain ⟨hbq_6, hr_4⟩ := hr_4
      have h9R := zRe (ws' := [(mv, .inr (1, [.ref mb, .int q_6, .int 4, .int mm, .int mq])), (mb, .inl (cI, 20, .inl q_7))]) hP hD rfl
      clear hP hD
      obtain ⟨hP, hD⟩ := h9R
      refine lv_iload hx hb dX1_run_28 (lv_at hl 5 rfl) ?_
      refine lv_iconst (v := 1) hx hb dX1_run_30 (by decide) ?_
      refine lv_iadd hx hb dX1_run_31 ?_
      refine lv_topi (fun y_8 ey_8 => ?_)
      obtain rfl : y_8 = 1 := ey_8.trans (by decide)
      refine lv_istore (lv' := [(6, .int 1), (5, .int 11), (0, .ref mv), (1, .int 4), (2, .int 1), (3, .int x), (4, .int 0)]) hx hb dX1_run_32 hl (by decide) rfl (fun ls hl => ?_)
      refine lv_iload hx hb dX1_run_34 (lv_at hl 1 rfl) ?_
      refine lv_lookup (off := 99) (tgt := 135) hx hb dX1_run_36 (by decide) (by decide) (by decide) ?_
      refine lv_aload_n hx hb dX1_run_135 rfl (lv_at hl 2 rfl) ?_
      refine lv_aload_n hx hb dX1_run_136 rfl (lv_at hl 2 rfl) ?_
      refine va_get (D := D) (ci := 1) (v := .int 4) (C := RX1) (T := TX1) (N := 5) hx hb hts hi_X1_run_1 hown hK hP 0 rfl rfl 2 (by decide) (hts (.fieldLink RX1 19 "TheLiningsInIt$Moves" "kind" "I") (List.mem_of_getElem? (i := 2) rfl)) (fun _ h9 => h9) rfl dX1_run_137 ?_
      refine lv_iconst (v := 0) hx hb dX1_run_140 (by decide) ?_
      refine lv_iload_n hx hb dX1_run_141 rfl (lv_at hl 5 rfl) ?_
      refine lv_iload hx hb dX1_run_142 (lv_at hl 0 rfl) ?_
      skip
      refine zw_V (As := [.int 4, .int 0, .int x, .int 1]) (rest := []) (wr := []) ⟨hx, hb, hml, hown, hts⟩ (c_M_run_4_4_0_1 l D cI cJ cZ cP cS po mv mb (q_6) (mm) (mq) q_7 (x) (by omega) (by omega) H.size) (cwV 4 hts gX1_run_X1_run rfl rfl rfl ⟨rfl, dh_X1_run⟩ ⟨Nat.le_of_ble_eq_true rfl, Nat.le_of_ble_eq_true rfl⟩) hK hN (hZ.kept hS) hP hD hS hA [0, 1] [] rfl rfl (by decide) (by decide) (by decide) (va_recv (q := (RX1, TX1, 5)) hK hP (ci := 1) (q0 := 0) rfl rfl) rfl hl.1 rfl (Nat.le_of_ble_eq_true rfl) dX1_run_144 ⟨Nat.le_of_ble_eq_true rfl, Nat.le_of_ble_eq_true rfl⟩ (fun r_9 u_10 H locs hr_9 hP hD hS => ?_)
      obtain ⟨q_11, q_12⟩ := u_10
      try dsimp only at hr_9
      obtain ⟨hbq_11, hr_9⟩ := hr_9
      have h9R := zRe (ws' := [(mv, .inr (1, [.ref mb, .int q_11, .int 4, .int mm, .int mq])), (mb, .inl (cI, 20, .inl q_12))]) hP hD rfl
      clear hP hD
      obtain ⟨hP, hD⟩ := h9R
      refine lv_iconst (v := 2) hx hb dX1_run_147 (by decide) ?_
      refine lv_imul hx hb dX1_run_148 ?_
      refine lv_topi (fun x_13 ex_13 => ?_)
      exact W.iret (v := x_13) hx hb hr (fun t ht hW => ⟨⟨x_13, (q_11, q_12), rfl, ⟨(show q_11.toInt = mr.toInt + 3 from by omega), trivial⟩, zRet ht hP hD [0, 1] (by decide) rfl⟩, hS.F ht⟩) hS.2.2 dX1_run_149
    · exact absurd c_3 (by decide)
set_option maxHeartbeats 4000000 in
set_option maxRecDepth 100000 in
theorem c_M_run_4_0_0_4 (l : Launch) (D : va_G) (cI cJ cZ cP cS : ClassId) (po : zPool) (mv mb : Nat) (mr mm mq : Int32) (fb : Nat → Int32) (x : Int32) (hy0 : 0 ≤ mr.toInt) (hy1 : mr.toInt ≤ 1400) (hpz : Nat) : Met l yX1_run wsX1_run ({ frames := 2, cells := 0, slots := 0, locals := 46 }) (va_Pc [.ref mv, .int 0, .int 0, .int x, .int 4] (zW D (zKT cI cJ cZ cP cS) po [(mv, .inr (1, [.ref mb, .int mr, .int 4, .int mm, .int mq])), (mb, .inl (cI, 20, .inl fb))] hpz)) (va_Qi (fun (r : Int32) (u : (Int32) × (Nat → Int32)) => u.1.toInt = mr.toInt + 1 ∧ (True)) (zB D [(mv, .inr (1, [.ref mb, .int mr, .int 4, .int mm, .int mq])), (mb, .inl (cI, 20, .inl fb))] hpz (fun (u : (Int32) × (Nat → Int32)) => [(mv, .inr (1, [.ref mb, .int u.1, .int 4, .int mm, .int mq])), (mb, .inl (cI, 20, .inl u.2))])) (va_A [(mv, .inr (1, [.ref mb, .int mr, .int 4, .int mm, .int mq])), (mb, .inl (cI, 20, .inl fb))] hpz)) 0 0 (va_A [(mv, .inr (1, [.ref mb, .int mr, .int 4, .int mm, .int mq])), (mb, .inl (cI, 20, .inl fb))] hpz) := by
  refine Met.ofW (cc := cX1_run) (maxL := 7) (ret := (some .int)) (by decide) rfl ?_
  intro p e s m args below meth c s₁ B hml hv
  obtain ⟨rfl, hsz, hP, hK, hD0, hN, hZ⟩ := hv
  have hx := B.exec
  have hb := B.bytes
  have hr := B.returns
  have hts := atoms_spec (ws := wsX1_run) B.pre
  have hown : s.vm.findClass RX1 = some m.cls := findClass_of_methodNamed B.named
  have hlocks := B.notSynchronized
  subst hsz
  have hD := hD0.self (sz := s.heap.size)
  have hA := zA_of hD
  have hl := lv_entry ([.ref mv, .int 0, .int 0, .int x, .int 4]) (n := 7) (Nat.le_of_ble_eq_true rfl)
  rw [lg_entry_eq]
  generalize (lg_sl ([.ref mv, .int 0, .int 0, .int x, .int 4]) ++ List.replicate (7 - (lg_sl ([.ref mv, .int 0, .int 0, .int x, .int 4])).length) Slot.unset).toArray = ls at hl ⊢
  replace hl : lv_has ls 7 [(0, .ref mv), (1, .int 0), (2, .int 0), (3, .int x), (4, .int 4)] := hl
  refine zw_begin hP hD (fun H locs hP1 hS => ?_)
  clear hP
  have hP := hP1
  clear hP1
  refine lv_iload_n hx hb dX1_run_0 rfl (lv_at hl 1 rfl) ?_
  refine lv_iload_n hx hb dX1_run_1 rfl (lv_at hl 2 rfl) ?_
  refine zc_S (As := [.int 0, .int 0]) (rest := []) ⟨hx, hb, hml, hown, hts⟩ (c_M_bodyFor_0_0 l D cI cJ cZ cP cS po  ) (va_cwS 2 hts gX1_run_X1_bodyFor rfl rfl rfl dh_X1_bodyFor ⟨Nat.le_of_ble_eq_true rfl, Nat.le_of_ble_eq_true rfl⟩) hK hN (hZ.kept hS) rfl hl.1 rfl (Nat.le_of_ble_eq_true rfl) dX1_run_2 ⟨Nat.le_of_ble_eq_true rfl, Nat.le_of_ble_eq_true rfl⟩ (fun r_1 hr_1 => ?_)
  obtain rfl := hr_1
  refine lv_istore (lv' := [(5, .int 10), (0, .ref mv), (1, .int 0), (2, .int 0), (3, .int x), (4, .int 4)]) hx hb dX1_run_5 hl (by decide) rfl (fun ls hl => ?_)
  refine lv_iload hx hb dX1_run_7 (lv_at hl 0 rfl) ?_
  refine lv_iconst (v := (-1)) hx hb dX1_run_9 (by decide) ?_
  refine lv_icmp_eq (tgt := 20) hx hb dX1_run_10 (by decide) (fun c_2 => ?_) (fun c_2 => ?_)
  · exact absurd c_2 (by decide)
  · refine lv_iload hx hb dX1_run_13 (lv_at hl 5 rfl) ?_
    refine lv_bipush (v := 40) hx hb dX1_run_15 (by decide) ?_
    refine lv_icmp_lt (tgt := 22) hx hb dX1_run_17 (by decide) (fun c_3 => ?_) (fun c_3 => ?_)
    · refine lv_aload_n hx hb dX1_run_22 rfl (lv_at hl 1 rfl) ?_
      refine lv_iload hx hb dX1_run_23 (lv_at hl 0 rfl) ?_
      skip
      refine zw_Vv (As := [.int 10]) (rest := []) (wr := []) ⟨hx, hb, hml, hown, hts⟩ (c_M_note l D cI cJ cZ cP cS po mv mb (mr) (4) (mm) (mq) fb (10) hy0 (by omega) H.size) (cwV 1 hts gX1_run_X1_note rfl rfl rfl ⟨rfl, dh_X1_note⟩ ⟨Nat.le_of_ble_eq_true rfl, Nat.le_of_ble_eq_true rfl⟩) hK hN (hZ.kept hS) hP hD hS hA [0, 1] [] rfl rfl (by decide) (by decide) (by decide) (va_recv (q := (RX1, TX1, 5)) hK hP (ci := 1) (q0 := 0) rfl rfl) rfl hl.1 rfl (Nat.le_of_ble_eq_true rfl) dX1_run_25 ⟨Nat.le_of_ble_eq_true rfl, Nat.le_of_ble_eq_true rfl⟩ (fun u_5 H locs hr_4 hP hD hS => ?_)
      obtain ⟨q_6, q_7⟩ := u_5
      try dsimp only at hr_4
      obtain ⟨hbq_6, hr_4⟩ := hr_4
      have h9R := zRe (ws' := [(mv, .inr (1, [.ref mb, .int q_6, .int 4, .int mm, .int mq])), (mb, .inl (cI, 20, .inl q_7))]) hP hD rfl
      clear hP hD
      obtain ⟨hP, hD⟩ := h9R
      refine lv_iload hx hb dX1_run_28 (lv_at hl 5 rfl) ?_
      refine lv_iconst (v := 1) hx hb dX1_run_30 (by decide) ?_
      refine lv_iadd hx hb dX1_run_31 ?_
      refine lv_topi (fun y_8 ey_8 => ?_)
      obtain rfl : y_8 = 5 := ey_8.trans (by decide)
      refine lv_istore (lv' := [(6, .int 5), (5, .int 10), (0, .ref mv), (1, .int 0), (2, .int 0), (3, .int x), (4, .int 4)]) hx hb dX1_run_32 hl (by decide) rfl (fun ls hl => ?_)
      refine lv_iload hx hb dX1_run_34 (lv_at hl 1 rfl) ?_
      refine lv_lookup (off := 92) (tgt := 128) hx hb dX1_run_36 (by decide) (by decide) (by decide) ?_
      refine lv_iload_n hx hb dX1_run_128 rfl (lv_at hl 5 rfl) ?_
      refine lv_aload_n hx hb dX1_run_129 rfl (lv_at hl 2 rfl) ?_
      refine va_get (D := D) (ci := 1) (v := .int mm) (C := RX1) (T := TX1) (N := 5) hx hb hts hi_X1_run_1 hown hK hP 0 rfl rfl 3 (by decide) (hts (.fieldLink RX1 22 "TheLiningsInIt$Moves" "m" "I") (List.mem_of_getElem? (i := 1) rfl)) (fun _ h9 => h9) rfl dX1_run_130 ?_
      refine lv_iadd hx hb dX1_run_133 ?_
      refine lv_topi (fun x_9 ex_9 => ?_)
      exact W.iret (v := x_9) hx hb hr (fun t ht hW => ⟨⟨x_9, (q_6, q_7), rfl, ⟨(show q_6.toInt = mr.toInt + 1 from by omega), trivial⟩, zRet ht hP hD [0, 1] (by decide) rfl⟩, hS.F ht⟩) hS.2.2 dX1_run_134
    · exact absurd c_3 (by decide)
set_option maxHeartbeats 4000000 in
set_option maxRecDepth 100000 in
theorem c_M_run_4_4_0_3 (l : Launch) (D : va_G) (cI cJ cZ cP cS : ClassId) (po : zPool) (mv mb : Nat) (mr mm mq : Int32) (fb : Nat → Int32) (x : Int32) (hy0 : 0 ≤ mr.toInt) (hy1 : mr.toInt ≤ 1300) (hpz : Nat) : Met l yX1_run wsX1_run ({ frames := 3, cells := 0, slots := 0, locals := 72 }) (va_Pc [.ref mv, .int 4, .int 0, .int x, .int 3] (zW D (zKT cI cJ cZ cP cS) po [(mv, .inr (1, [.ref mb, .int mr, .int 4, .int mm, .int mq])), (mb, .inl (cI, 20, .inl fb))] hpz)) (va_Qi (fun (r : Int32) (u : (Int32) × (Nat → Int32)) => u.1.toInt = mr.toInt + 2 ∧ (True)) (zB D [(mv, .inr (1, [.ref mb, .int mr, .int 4, .int mm, .int mq])), (mb, .inl (cI, 20, .inl fb))] hpz (fun (u : (Int32) × (Nat → Int32)) => [(mv, .inr (1, [.ref mb, .int u.1, .int 4, .int mm, .int mq])), (mb, .inl (cI, 20, .inl u.2))])) (va_A [(mv, .inr (1, [.ref mb, .int mr, .int 4, .int mm, .int mq])), (mb, .inl (cI, 20, .inl fb))] hpz)) 0 0 (va_A [(mv, .inr (1, [.ref mb, .int mr, .int 4, .int mm, .int mq])), (mb, .inl (cI, 20, .inl fb))] hpz) := by
  refine Met.ofW (cc := cX1_run) (maxL := 7) (ret := (some .int)) (by decide) rfl ?_
  intro p e s m args below meth c s₁ B hml hv
  obtain ⟨rfl, hsz, hP, hK, hD0, hN, hZ⟩ := hv
  have hx := B.exec
  have hb := B.bytes
  have hr := B.returns
  have hts := atoms_spec (ws := wsX1_run) B.pre
  have hown : s.vm.findClass RX1 = some m.cls := findClass_of_methodNamed B.named
  have hlocks := B.notSynchronized
  subst hsz
  have hD := hD0.self (sz := s.heap.size)
  have hA := zA_of hD
  have hl := lv_entry ([.ref mv, .int 4, .int 0, .int x, .int 3]) (n := 7) (Nat.le_of_ble_eq_true rfl)
  rw [lg_entry_eq]
  generalize (lg_sl ([.ref mv, .int 4, .int 0, .int x, .int 3]) ++ List.replicate (7 - (lg_sl ([.ref mv, .int 4, .int 0, .int x, .int 3])).length) Slot.unset).toArray = ls at hl ⊢
  replace hl : lv_has ls 7 [(0, .ref mv), (1, .int 4), (2, .int 0), (3, .int x), (4, .int 3)] := hl
  refine zw_begin hP hD (fun H locs hP1 hS => ?_)
  clear hP
  have hP := hP1
  clear hP1
  refine lv_iload_n hx hb dX1_run_0 rfl (lv_at hl 1 rfl) ?_
  refine lv_iload_n hx hb dX1_run_1 rfl (lv_at hl 2 rfl) ?_
  refine zc_S (As := [.int 4, .int 0]) (rest := []) ⟨hx, hb, hml, hown, hts⟩ (c_M_bodyFor_4_0 l D cI cJ cZ cP cS po  ) (va_cwS 2 hts gX1_run_X1_bodyFor rfl rfl rfl dh_X1_bodyFor ⟨Nat.le_of_ble_eq_true rfl, Nat.le_of_ble_eq_true rfl⟩) hK hN (hZ.kept hS) rfl hl.1 rfl (Nat.le_of_ble_eq_true rfl) dX1_run_2 ⟨Nat.le_of_ble_eq_true rfl, Nat.le_of_ble_eq_true rfl⟩ (fun r_1 hr_1 => ?_)
  obtain rfl := hr_1
  refine lv_istore (lv' := [(5, .int 51), (0, .ref mv), (1, .int 4), (2, .int 0), (3, .int x), (4, .int 3)]) hx hb dX1_run_5 hl (by decide) rfl (fun ls hl => ?_)
  refine lv_iload hx hb dX1_run_7 (lv_at hl 0 rfl) ?_
  refine lv_iconst (v := (-1)) hx hb dX1_run_9 (by decide) ?_
  refine lv_icmp_eq (tgt := 20) hx hb dX1_run_10 (by decide) (fun c_2 => ?_) (fun c_2 => ?_)
  · exact absurd c_2 (by decide)
  · refine lv_iload hx hb dX1_run_13 (lv_at hl 5 rfl) ?_
    refine lv_bipush (v := 40) hx hb dX1_run_15 (by decide) ?_
    refine lv_icmp_lt (tgt := 22) hx hb dX1_run_17 (by decide) (fun c_3 => ?_) (fun c_3 => ?_)
    · refine lv_aload_n hx hb dX1_run_22 rfl (lv_at hl 1 rfl) ?_
      refine lv_iload hx hb dX1_run_23 (lv_at hl 0 rfl) ?_
      skip
      refine zw_Vv (As := [.int 51]) (rest := []) (wr := []) ⟨hx, hb, hml, hown, hts⟩ (c_M_note l D cI cJ cZ cP cS po mv mb (mr) (4) (mm) (mq) fb (51) hy0 (by omega) H.size) (cwV 1 hts gX1_run_X1_note rfl rfl rfl ⟨rfl, dh_X1_note⟩ ⟨Nat.le_of_ble_eq_true rfl, Nat.le_of_ble_eq_true rfl⟩) hK hN (hZ.kept hS) hP hD hS hA [0, 1] [] rfl rfl (by decide) (by decide) (by decide) (va_recv (q := (RX1, TX1, 5)) hK hP (ci := 1) (q0 := 0) rfl rfl) rfl hl.1 rfl (Nat.le_of_ble_eq_true rfl) dX1_run_25 ⟨Nat.le_of_ble_eq_true rfl, Nat.le_of_ble_eq_true rfl⟩ (fun u_5 H locs hr_4 hP hD hS => ?_)
      obtain ⟨q_6, q_7⟩ := u_5
      try dsimp only at hr_4
      obtain ⟨hbq_6, hr_4⟩ := hr_4
      have h9R := zRe (ws' := [(mv, .inr (1, [.ref mb, .int q_6, .int 4, .int mm, .int mq])), (mb, .inl (cI, 20, .inl q_7))]) hP hD rfl
      clear hP hD
      obtain ⟨hP, hD⟩ := h9R
      refine lv_iload hx hb dX1_run_28 (lv_at hl 5 rfl) ?_
      refine lv_iconst (v := 1) hx hb dX1_run_30 (by decide) ?_
      refine lv_iadd hx hb dX1_run_31 ?_
      refine lv_topi (fun y_8 ey_8 => ?_)
      obtain rfl : y_8 = 4 := ey_8.trans (by decide)
      refine lv_istore (lv' := [(6, .int 4), (5, .int 51), (0, .ref mv), (1, .int 4), (2, .int 0), (3, .int x), (4, .int 3)]) hx hb dX1_run_32 hl (by decide) rfl (fun ls hl => ?_)
      refine lv_iload hx hb dX1_run_34 (lv_at hl 1 rfl) ?_
      refine lv_lookup (off := 195) (tgt := 231) hx hb dX1_run_36 (by decide) (by decide) (by decide) ?_
      refine lv_aload_n hx hb dX1_run_231 rfl (lv_at hl 2 rfl) ?_
      refine lv_iconst (v := 0) hx hb dX1_run_232 (by decide) ?_
      refine lv_iconst (v := 0) hx hb dX1_run_233 (by decide) ?_
      refine lv_iload_n hx hb dX1_run_234 rfl (lv_at hl 5 rfl) ?_
      refine lv_iload hx hb dX1_run_235 (lv_at hl 0 rfl) ?_
      skip
      refine zw_V (As := [.int 0, .int 0, .int x, .int 4]) (rest := []) (wr := []) ⟨hx, hb, hml, hown, hts⟩ (c_M_run_4_0_0_4 l D cI cJ cZ cP cS po mv mb (q_6) (mm) (mq) q_7 (x) (by omega) (by omega) H.size) (cwV 4 hts gX1_run_X1_run rfl rfl rfl ⟨rfl, dh_X1_run⟩ ⟨Nat.le_of_ble_eq_true rfl, Nat.le_of_ble_eq_true rfl⟩) hK hN (hZ.kept hS) hP hD hS hA [0, 1] [] rfl rfl (by decide) (by decide) (by decide) (va_recv (q := (RX1, TX1, 5)) hK hP (ci := 1) (q0 := 0) rfl rfl) rfl hl.1 rfl (Nat.le_of_ble_eq_true rfl) dX1_run_237 ⟨Nat.le_of_ble_eq_true rfl, Nat.le_of_ble_eq_true rfl⟩ (fun r_9 u_10 H locs hr_9 hP hD hS => ?_)
      obtain ⟨q_11, q_12⟩ := u_10
      try dsimp only at hr_9
      obtain ⟨hbq_11, hr_9⟩ := hr_9
      have h9R := zRe (ws' := [(mv, .inr (1, [.ref mb, .int q_11, .int 4, .int mm, .int mq])), (mb, .inl (cI, 20, .inl q_12))]) hP hD rfl
      clear hP hD
      obtain ⟨hP, hD⟩ := h9R
      refine lv_aload_n hx hb dX1_run_240 rfl (lv_at hl 2 rfl) ?_
      refine va_get (D := D) (ci := 1) (v := .int mm) (C := RX1) (T := TX1) (N := 5) hx hb hts hi_X1_run_1 hown hK hP 0 rfl rfl 3 (by decide) (hts (.fieldLink RX1 22 "TheLiningsInIt$Moves" "m" "I") (List.mem_of_getElem? (i := 1) rfl)) (fun _ h9 => h9) rfl dX1_run_241 ?_
      refine lv_isub hx hb dX1_run_244 ?_
      refine lv_topi (fun x_13 ex_13 => ?_)
      exact W.iret (v := x_13) hx hb hr (fun t ht hW => ⟨⟨x_13, (q_11, q_12), rfl, ⟨(show q_11.toInt = mr.toInt + 2 from by omega), trivial⟩, zRet ht hP hD [0, 1] (by decide) rfl⟩, hS.F ht⟩) hS.2.2 dX1_run_245
    · exact absurd c_3 (by decide)
set_option maxHeartbeats 4000000 in
set_option maxRecDepth 100000 in
theorem c_M_run_4_4_1_2 (l : Launch) (D : va_G) (cI cJ cZ cP cS : ClassId) (po : zPool) (mv mb : Nat) (mr mm mq : Int32) (fb : Nat → Int32) (x : Int32) (hy0 : 0 ≤ mr.toInt) (hy1 : mr.toInt ≤ 1200) (hpz : Nat) : Met l yX1_run wsX1_run ({ frames := 4, cells := 0, slots := 0, locals := 98 }) (va_Pc [.ref mv, .int 4, .int 1, .int x, .int 2] (zW D (zKT cI cJ cZ cP cS) po [(mv, .inr (1, [.ref mb, .int mr, .int 4, .int mm, .int mq])), (mb, .inl (cI, 20, .inl fb))] hpz)) (va_Qi (fun (r : Int32) (u : (Int32) × (Nat → Int32)) => u.1.toInt = mr.toInt + 3 ∧ (True)) (zB D [(mv, .inr (1, [.ref mb, .int mr, .int 4, .int mm, .int mq])), (mb, .inl (cI, 20, .inl fb))] hpz (fun (u : (Int32) × (Nat → Int32)) => [(mv, .inr (1, [.ref mb, .int u.1, .int 4, .int mm, .int mq])), (mb, .inl (cI, 20, .inl u.2))])) (va_A [(mv, .inr (1, [.ref mb, .int mr, .int 4, .int mm, .int mq])), (mb, .inl (cI, 20, .inl fb))] hpz)) 0 0 (va_A [(mv, .inr (1, [.ref mb, .int mr, .int 4, .int mm, .int mq])), (mb, .inl (cI, 20, .inl fb))] hpz) := by
  refine Met.ofW (cc := cX1_run) (maxL := 7) (ret := (some .int)) (by decide) rfl ?_
  intro p e s m args below meth c s₁ B hml hv
  obtain ⟨rfl, hsz, hP, hK, hD0, hN, hZ⟩ := hv
  have hx := B.exec
  have hb := B.bytes
  have hr := B.returns
  have hts := atoms_spec (ws := wsX1_run) B.pre
  have hown : s.vm.findClass RX1 = some m.cls := findClass_of_methodNamed B.named
  have hlocks := B.notSynchronized
  subst hsz
  have hD := hD0.self (sz := s.heap.size)
  have hA := zA_of hD
  have hl := lv_entry ([.ref mv, .int 4, .int 1, .int x, .int 2]) (n := 7) (Nat.le_of_ble_eq_true rfl)
  rw [lg_entry_eq]
  generalize (lg_sl ([.ref mv, .int 4, .int 1, .int x, .int 2]) ++ List.replicate (7 - (lg_sl ([.ref mv, .int 4, .int 1, .int x, .int 2])).length) Slot.unset).toArray = ls at hl ⊢
  replace hl : lv_has ls 7 [(0, .ref mv), (1, .int 4), (2, .int 1), (3, .int x), (4, .int 2)] := hl
  refine zw_begin hP hD (fun H locs hP1 hS => ?_)
  clear hP
  have hP := hP1
  clear hP1
  refine lv_iload_n hx hb dX1_run_0 rfl (lv_at hl 1 rfl) ?_
  refine lv_iload_n hx hb dX1_run_1 rfl (lv_at hl 2 rfl) ?_
  refine zc_S (As := [.int 4, .int 1]) (rest := []) ⟨hx, hb, hml, hown, hts⟩ (c_M_bodyFor_4_1 l D cI cJ cZ cP cS po  ) (va_cwS 2 hts gX1_run_X1_bodyFor rfl rfl rfl dh_X1_bodyFor ⟨Nat.le_of_ble_eq_true rfl, Nat.le_of_ble_eq_true rfl⟩) hK hN (hZ.kept hS) rfl hl.1 rfl (Nat.le_of_ble_eq_true rfl) dX1_run_2 ⟨Nat.le_of_ble_eq_true rfl, Nat.le_of_ble_eq_true rfl⟩ (fun r_1 hr_1 => ?_)
  obtain rfl := hr_1
  refine lv_istore (lv' := [(5, .int 11), (0, .ref mv), (1, .int 4), (2, .int 1), (3, .int x), (4, .int 2)]) hx hb dX1_run_5 hl (by decide) rfl (fun ls hl => ?_)
  refine lv_iload hx hb dX1_run_7 (lv_at hl 0 rfl) ?_
  refine lv_iconst (v := (-1)) hx hb dX1_run_9 (by decide) ?_
  refine lv_icmp_eq (tgt := 20) hx hb dX1_run_10 (by decide) (fun c_2 => ?_) (fun c_2 => ?_)
  · exact absurd c_2 (by decide)
  · refine lv_iload hx hb dX1_run_13 (lv_at hl 5 rfl) ?_
    refine lv_bipush (v := 40) hx hb dX1_run_15 (by decide) ?_
    refine lv_icmp_lt (tgt := 22) hx hb dX1_run_17 (by decide) (fun c_3 => ?_) (fun c_3 => ?_)
    · refine lv_aload_n hx hb dX1_run_22 rfl (lv_at hl 1 rfl) ?_
      refine lv_iload hx hb dX1_run_23 (lv_at hl 0 rfl) ?_
      skip
      refine zw_Vv (As := [.int 11]) (rest := []) (wr := []) ⟨hx, hb, hml, hown, hts⟩ (c_M_note l D cI cJ cZ cP cS po mv mb (mr) (4) (mm) (mq) fb (11) hy0 (by omega) H.size) (cwV 1 hts gX1_run_X1_note rfl rfl rfl ⟨rfl, dh_X1_note⟩ ⟨Nat.le_of_ble_eq_true rfl, Nat.le_of_ble_eq_true rfl⟩) hK hN (hZ.kept hS) hP hD hS hA [0, 1] [] rfl rfl (by decide) (by decide) (by decide) (va_recv (q := (RX1, TX1, 5)) hK hP (ci := 1) (q0 := 0) rfl rfl) rfl hl.1 rfl (Nat.le_of_ble_eq_true rfl) dX1_run_25 ⟨Nat.le_of_ble_eq_true rfl, Nat.le_of_ble_eq_true rfl⟩ (fun u_5 H locs hr_4 hP hD hS => ?_)
      obtain ⟨q_6, q_7⟩ := u_5
      try dsimp only at hr_4
      obtain ⟨hbq_6, hr_4⟩ := hr_4
      have h9R := zRe (ws' := [(mv, .inr (1, [.ref mb, .int q_6, .int 4, .int mm, .int mq])), (mb, .inl (cI, 20, .inl q_7))]) hP hD rfl
      clear hP hD
      obtain ⟨hP, hD⟩ := h9R
      refine lv_iload hx hb dX1_run_28 (lv_at hl 5 rfl) ?_
      refine lv_iconst (v := 1) hx hb dX1_run_30 (by decide) ?_
      refine lv_iadd hx hb dX1_run_31 ?_
      refine lv_topi (fun y_8 ey_8 => ?_)
      obtain rfl : y_8 = 3 := ey_8.trans (by decide)
      refine lv_istore (lv' := [(6, .int 3), (5, .int 11), (0, .ref mv), (1, .int 4), (2, .int 1), (3, .int x), (4, .int 2)]) hx hb dX1_run_32 hl (by decide) rfl (fun ls hl => ?_)
      refine lv_iload hx hb dX1_run_34 (lv_at hl 1 rfl) ?_
      refine lv_lookup (off := 99) (tgt := 135) hx hb dX1_run_36 (by decide) (by decide) (by decide) ?_
      refine lv_aload_n hx hb dX1_run_135 rfl (lv_at hl 2 rfl) ?_
      refine lv_aload_n hx hb dX1_run_136 rfl (lv_at hl 2 rfl) ?_
      refine va_get (D := D) (ci := 1) (v := .int 4) (C := RX1) (T := TX1) (N := 5) hx hb hts hi_X1_run_1 hown hK hP 0 rfl rfl 2 (by decide) (hts (.fieldLink RX1 19 "TheLiningsInIt$Moves" "kind" "I") (List.mem_of_getElem? (i := 2) rfl)) (fun _ h9 => h9) rfl dX1_run_137 ?_
      refine lv_iconst (v := 0) hx hb dX1_run_140 (by decide) ?_
      refine lv_iload_n hx hb dX1_run_141 rfl (lv_at hl 5 rfl) ?_
      refine lv_iload hx hb dX1_run_142 (lv_at hl 0 rfl) ?_
      skip
      refine zw_V (As := [.int 4, .int 0, .int x, .int 3]) (rest := []) (wr := []) ⟨hx, hb, hml, hown, hts⟩ (c_M_run_4_4_0_3 l D cI cJ cZ cP cS po mv mb (q_6) (mm) (mq) q_7 (x) (by omega) (by omega) H.size) (cwV 4 hts gX1_run_X1_run rfl rfl rfl ⟨rfl, dh_X1_run⟩ ⟨Nat.le_of_ble_eq_true rfl, Nat.le_of_ble_eq_true rfl⟩) hK hN (hZ.kept hS) hP hD hS hA [0, 1] [] rfl rfl (by decide) (by decide) (by decide) (va_recv (q := (RX1, TX1, 5)) hK hP (ci := 1) (q0 := 0) rfl rfl) rfl hl.1 rfl (Nat.le_of_ble_eq_true rfl) dX1_run_144 ⟨Nat.le_of_ble_eq_true rfl, Nat.le_of_ble_eq_true rfl⟩ (fun r_9 u_10 H locs hr_9 hP hD hS => ?_)
      obtain ⟨q_11, q_12⟩ := u_10
      try dsimp only at hr_9
      obtain ⟨hbq_11, hr_9⟩ := hr_9
      have h9R := zRe (ws' := [(mv, .inr (1, [.ref mb, .int q_11, .int 4, .int mm, .int mq])), (mb, .inl (cI, 20, .inl q_12))]) hP hD rfl
      clear hP hD
      obtain ⟨hP, hD⟩ := h9R
      refine lv_iconst (v := 2) hx hb dX1_run_147 (by decide) ?_
      refine lv_imul hx hb dX1_run_148 ?_
      refine lv_topi (fun x_13 ex_13 => ?_)
      exact W.iret (v := x_13) hx hb hr (fun t ht hW => ⟨⟨x_13, (q_11, q_12), rfl, ⟨(show q_11.toInt = mr.toInt + 3 from by omega), trivial⟩, zRet ht hP hD [0, 1] (by decide) rfl⟩, hS.F ht⟩) hS.2.2 dX1_run_149
    · exact absurd c_3 (by decide)
set_option maxHeartbeats 4000000 in
set_option maxRecDepth 100000 in
theorem c_M_run_4_0_0_3 (l : Launch) (D : va_G) (cI cJ cZ cP cS : ClassId) (po : zPool) (mv mb : Nat) (mr mm mq : Int32) (fb : Nat → Int32) (x : Int32) (hy0 : 0 ≤ mr.toInt) (hy1 : mr.toInt ≤ 1300) (hpz : Nat) : Met l yX1_run wsX1_run ({ frames := 2, cells := 0, slots := 0, locals := 46 }) (va_Pc [.ref mv, .int 0, .int 0, .int x, .int 3] (zW D (zKT cI cJ cZ cP cS) po [(mv, .inr (1, [.ref mb, .int mr, .int 4, .int mm, .int mq])), (mb, .inl (cI, 20, .inl fb))] hpz)) (va_Qi (fun (r : Int32) (u : (Int32) × (Nat → Int32)) => u.1.toInt = mr.toInt + 1 ∧ (True)) (zB D [(mv, .inr (1, [.ref mb, .int mr, .int 4, .int mm, .int mq])), (mb, .inl (cI, 20, .inl fb))] hpz (fun (u : (Int32) × (Nat → Int32)) => [(mv, .inr (1, [.ref mb, .int u.1, .int 4, .int mm, .int mq])), (mb, .inl (cI, 20, .inl u.2))])) (va_A [(mv, .inr (1, [.ref mb, .int mr, .int 4, .int mm, .int mq])), (mb, .inl (cI, 20, .inl fb))] hpz)) 0 0 (va_A [(mv, .inr (1, [.ref mb, .int mr, .int 4, .int mm, .int mq])), (mb, .inl (cI, 20, .inl fb))] hpz) := by
  refine Met.ofW (cc := cX1_run) (maxL := 7) (ret := (some .int)) (by decide) rfl ?_
  intro p e s m args below meth c s₁ B hml hv
  obtain ⟨rfl, hsz, hP, hK, hD0, hN, hZ⟩ := hv
  have hx := B.exec
  have hb := B.bytes
  have hr := B.returns
  have hts := atoms_spec (ws := wsX1_run) B.pre
  have hown : s.vm.findClass RX1 = some m.cls := findClass_of_methodNamed B.named
  have hlocks := B.notSynchronized
  subst hsz
  have hD := hD0.self (sz := s.heap.size)
  have hA := zA_of hD
  have hl := lv_entry ([.ref mv, .int 0, .int 0, .int x, .int 3]) (n := 7) (Nat.le_of_ble_eq_true rfl)
  rw [lg_entry_eq]
  generalize (lg_sl ([.ref mv, .int 0, .int 0, .int x, .int 3]) ++ List.replicate (7 - (lg_sl ([.ref mv, .int 0, .int 0, .int x, .int 3])).length) Slot.unset).toArray = ls at hl ⊢
  replace hl : lv_has ls 7 [(0, .ref mv), (1, .int 0), (2, .int 0), (3, .int x), (4, .int 3)] := hl
  refine zw_begin hP hD (fun H locs hP1 hS => ?_)
  clear hP
  have hP := hP1
  clear hP1
  refine lv_iload_n hx hb dX1_run_0 rfl (lv_at hl 1 rfl) ?_
  refine lv_iload_n hx hb dX1_run_1 rfl (lv_at hl 2 rfl) ?_
  refine zc_S (As := [.int 0, .int 0]) (rest := []) ⟨hx, hb, hml, hown, hts⟩ (c_M_bodyFor_0_0 l D cI cJ cZ cP cS po  ) (va_cwS 2 hts gX1_run_X1_bodyFor rfl rfl rfl dh_X1_bodyFor ⟨Nat.le_of_ble_eq_true rfl, Nat.le_of_ble_eq_true rfl⟩) hK hN (hZ.kept hS) rfl hl.1 rfl (Nat.le_of_ble_eq_true rfl) dX1_run_2 ⟨Nat.le_of_ble_eq_true rfl, Nat.le_of_ble_eq_true rfl⟩ (fun r_1 hr_1 => ?_)
  obtain rfl := hr_1
  refine lv_istore (lv' := [(5, .int 10), (0, .ref mv), (1, .int 0), (2, .int 0), (3, .int x), (4, .int 3)]) hx hb dX1_run_5 hl (by decide) rfl (fun ls hl => ?_)
  refine lv_iload hx hb dX1_run_7 (lv_at hl 0 rfl) ?_
  refine lv_iconst (v := (-1)) hx hb dX1_run_9 (by decide) ?_
  refine lv_icmp_eq (tgt := 20) hx hb dX1_run_10 (by decide) (fun c_2 => ?_) (fun c_2 => ?_)
  · exact absurd c_2 (by decide)
  · refine lv_iload hx hb dX1_run_13 (lv_at hl 5 rfl) ?_
    refine lv_bipush (v := 40) hx hb dX1_run_15 (by decide) ?_
    refine lv_icmp_lt (tgt := 22) hx hb dX1_run_17 (by decide) (fun c_3 => ?_) (fun c_3 => ?_)
    · refine lv_aload_n hx hb dX1_run_22 rfl (lv_at hl 1 rfl) ?_
      refine lv_iload hx hb dX1_run_23 (lv_at hl 0 rfl) ?_
      skip
      refine zw_Vv (As := [.int 10]) (rest := []) (wr := []) ⟨hx, hb, hml, hown, hts⟩ (c_M_note l D cI cJ cZ cP cS po mv mb (mr) (4) (mm) (mq) fb (10) hy0 (by omega) H.size) (cwV 1 hts gX1_run_X1_note rfl rfl rfl ⟨rfl, dh_X1_note⟩ ⟨Nat.le_of_ble_eq_true rfl, Nat.le_of_ble_eq_true rfl⟩) hK hN (hZ.kept hS) hP hD hS hA [0, 1] [] rfl rfl (by decide) (by decide) (by decide) (va_recv (q := (RX1, TX1, 5)) hK hP (ci := 1) (q0 := 0) rfl rfl) rfl hl.1 rfl (Nat.le_of_ble_eq_true rfl) dX1_run_25 ⟨Nat.le_of_ble_eq_true rfl, Nat.le_of_ble_eq_true rfl⟩ (fun u_5 H locs hr_4 hP hD hS => ?_)
      obtain ⟨q_6, q_7⟩ := u_5
      try dsimp only at hr_4
      obtain ⟨hbq_6, hr_4⟩ := hr_4
      have h9R := zRe (ws' := [(mv, .inr (1, [.ref mb, .int q_6, .int 4, .int mm, .int mq])), (mb, .inl (cI, 20, .inl q_7))]) hP hD rfl
      clear hP hD
      obtain ⟨hP, hD⟩ := h9R
      refine lv_iload hx hb dX1_run_28 (lv_at hl 5 rfl) ?_
      refine lv_iconst (v := 1) hx hb dX1_run_30 (by decide) ?_
      refine lv_iadd hx hb dX1_run_31 ?_
      refine lv_topi (fun y_8 ey_8 => ?_)
      obtain rfl : y_8 = 4 := ey_8.trans (by decide)
      refine lv_istore (lv' := [(6, .int 4), (5, .int 10), (0, .ref mv), (1, .int 0), (2, .int 0), (3, .int x), (4, .int 3)]) hx hb dX1_run_32 hl (by decide) rfl (fun ls hl => ?_)
      refine lv_iload hx hb dX1_run_34 (lv_at hl 1 rfl) ?_
      refine lv_lookup (off := 92) (tgt := 128) hx hb dX1_run_36 (by decide) (by decide) (by decide) ?_
      refine lv_iload_n hx hb dX1_run_128 rfl (lv_at hl 5 rfl) ?_
      refine lv_aload_n hx hb dX1_run_129 rfl (lv_at hl 2 rfl) ?_
      refine va_get (D := D) (ci := 1) (v := .int mm) (C := RX1) (T := TX1) (N := 5) hx hb hts hi_X1_run_1 hown hK hP 0 rfl rfl 3 (by decide) (hts (.fieldLink RX1 22 "TheLiningsInIt$Moves" "m" "I") (List.mem_of_getElem? (i := 1) rfl)) (fun _ h9 => h9) rfl dX1_run_130 ?_
      refine lv_iadd hx hb dX1_run_133 ?_
      refine lv_topi (fun x_9 ex_9 => ?_)
      exact W.iret (v := x_9) hx hb hr (fun t ht hW => ⟨⟨x_9, (q_6, q_7), rfl, ⟨(show q_6.toInt = mr.toInt + 1 from by omega), trivial⟩, zRet ht hP hD [0, 1] (by decide) rfl⟩, hS.F ht⟩) hS.2.2 dX1_run_134
    · exact absurd c_3 (by decide)
set_option maxHeartbeats 4000000 in
set_option maxRecDepth 100000 in
theorem c_M_run_4_4_0_2 (l : Launch) (D : va_G) (cI cJ cZ cP cS : ClassId) (po : zPool) (mv mb : Nat) (mr mm mq : Int32) (fb : Nat → Int32) (x : Int32) (hy0 : 0 ≤ mr.toInt) (hy1 : mr.toInt ≤ 1200) (hpz : Nat) : Met l yX1_run wsX1_run ({ frames := 3, cells := 0, slots := 0, locals := 72 }) (va_Pc [.ref mv, .int 4, .int 0, .int x, .int 2] (zW D (zKT cI cJ cZ cP cS) po [(mv, .inr (1, [.ref mb, .int mr, .int 4, .int mm, .int mq])), (mb, .inl (cI, 20, .inl fb))] hpz)) (va_Qi (fun (r : Int32) (u : (Int32) × (Nat → Int32)) => u.1.toInt = mr.toInt + 2 ∧ (True)) (zB D [(mv, .inr (1, [.ref mb, .int mr, .int 4, .int mm, .int mq])), (mb, .inl (cI, 20, .inl fb))] hpz (fun (u : (Int32) × (Nat → Int32)) => [(mv, .inr (1, [.ref mb, .int u.1, .int 4, .int mm, .int mq])), (mb, .inl (cI, 20, .inl u.2))])) (va_A [(mv, .inr (1, [.ref mb, .int mr, .int 4, .int mm, .int mq])), (mb, .inl (cI, 20, .inl fb))] hpz)) 0 0 (va_A [(mv, .inr (1, [.ref mb, .int mr, .int 4, .int mm, .int mq])), (mb, .inl (cI, 20, .inl fb))] hpz) := by
  refine Met.ofW (cc := cX1_run) (maxL := 7) (ret := (some .int)) (by decide) rfl ?_
  intro p e s m args below meth c s₁ B hml hv
  obtain ⟨rfl, hsz, hP, hK, hD0, hN, hZ⟩ := hv
  have hx := B.exec
  have hb := B.bytes
  have hr := B.returns
  have hts := atoms_spec (ws := wsX1_run) B.pre
  have hown : s.vm.findClass RX1 = some m.cls := findClass_of_methodNamed B.named
  have hlocks := B.notSynchronized
  subst hsz
  have hD := hD0.self (sz := s.heap.size)
  have hA := zA_of hD
  have hl := lv_entry ([.ref mv, .int 4, .int 0, .int x, .int 2]) (n := 7) (Nat.le_of_ble_eq_true rfl)
  rw [lg_entry_eq]
  generalize (lg_sl ([.ref mv, .int 4, .int 0, .int x, .int 2]) ++ List.replicate (7 - (lg_sl ([.ref mv, .int 4, .int 0, .int x, .int 2])).length) Slot.unset).toArray = ls at hl ⊢
  replace hl : lv_has ls 7 [(0, .ref mv), (1, .int 4), (2, .int 0), (3, .int x), (4, .int 2)] := hl
  refine zw_begin hP hD (fun H locs hP1 hS => ?_)
  clear hP
  have hP := hP1
  clear hP1
  refine lv_iload_n hx hb dX1_run_0 rfl (lv_at hl 1 rfl) ?_
  refine lv_iload_n hx hb dX1_run_1 rfl (lv_at hl 2 rfl) ?_
  refine zc_S (As := [.int 4, .int 0]) (rest := []) ⟨hx, hb, hml, hown, hts⟩ (c_M_bodyFor_4_0 l D cI cJ cZ cP cS po  ) (va_cwS 2 hts gX1_run_X1_bodyFor rfl rfl rfl dh_X1_bodyFor ⟨Nat.le_of_ble_eq_true rfl, Nat.le_of_ble_eq_true rfl⟩) hK hN (hZ.kept hS) rfl hl.1 rfl (Nat.le_of_ble_eq_true rfl) dX1_run_2 ⟨Nat.le_of_ble_eq_true rfl, Nat.le_of_ble_eq_true rfl⟩ (fun r_1 hr_1 => ?_)
  obtain rfl := hr_1
  refine lv_istore (lv' := [(5, .int 51), (0, .ref mv), (1, .int 4), (2, .int 0), (3, .int x), (4, .int 2)]) hx hb dX1_run_5 hl (by decide) rfl (fun ls hl => ?_)
  refine lv_iload hx hb dX1_run_7 (lv_at hl 0 rfl) ?_
  refine lv_iconst (v := (-1)) hx hb dX1_run_9 (by decide) ?_
  refine lv_icmp_eq (tgt := 20) hx hb dX1_run_10 (by decide) (fun c_2 => ?_) (fun c_2 => ?_)
  · exact absurd c_2 (by decide)
  · refine lv_iload hx hb dX1_run_13 (lv_at hl 5 rfl) ?_
    refine lv_bipush (v := 40) hx hb dX1_run_15 (by decide) ?_
    refine lv_icmp_lt (tgt := 22) hx hb dX1_run_17 (by decide) (fun c_3 => ?_) (fun c_3 => ?_)
    · refine lv_aload_n hx hb dX1_run_22 rfl (lv_at hl 1 rfl) ?_
      refine lv_iload hx hb dX1_run_23 (lv_at hl 0 rfl) ?_
      skip
      refine zw_Vv (As := [.int 51]) (rest := []) (wr := []) ⟨hx, hb, hml, hown, hts⟩ (c_M_note l D cI cJ cZ cP cS po mv mb (mr) (4) (mm) (mq) fb (51) hy0 (by omega) H.size) (cwV 1 hts gX1_run_X1_note rfl rfl rfl ⟨rfl, dh_X1_note⟩ ⟨Nat.le_of_ble_eq_true rfl, Nat.le_of_ble_eq_true rfl⟩) hK hN (hZ.kept hS) hP hD hS hA [0, 1] [] rfl rfl (by decide) (by decide) (by decide) (va_recv (q := (RX1, TX1, 5)) hK hP (ci := 1) (q0 := 0) rfl rfl) rfl hl.1 rfl (Nat.le_of_ble_eq_true rfl) dX1_run_25 ⟨Nat.le_of_ble_eq_true rfl, Nat.le_of_ble_eq_true rfl⟩ (fun u_5 H locs hr_4 hP hD hS => ?_)
      obtain ⟨q_6, q_7⟩ := u_5
      try dsimp only at hr_4
      obtain ⟨hbq_6, hr_4⟩ := hr_4
      have h9R := zRe (ws' := [(mv, .inr (1, [.ref mb, .int q_6, .int 4, .int mm, .int mq])), (mb, .inl (cI, 20, .inl q_7))]) hP hD rfl
      clear hP hD
      obtain ⟨hP, hD⟩ := h9R
      refine lv_iload hx hb dX1_run_28 (lv_at hl 5 rfl) ?_
      refine lv_iconst (v := 1) hx hb dX1_run_30 (by decide) ?_
      refine lv_iadd hx hb dX1_run_31 ?_
      refine lv_topi (fun y_8 ey_8 => ?_)
      obtain rfl : y_8 = 3 := ey_8.trans (by decide)
      refine lv_istore (lv' := [(6, .int 3), (5, .int 51), (0, .ref mv), (1, .int 4), (2, .int 0), (3, .int x), (4, .int 2)]) hx hb dX1_run_32 hl (by decide) rfl (fun ls hl => ?_)
      refine lv_iload hx hb dX1_run_34 (lv_at hl 1 rfl) ?_
      refine lv_lookup (off := 195) (tgt := 231) hx hb dX1_run_36 (by decide) (by decide) (by decide) ?_
      refine lv_aload_n hx hb dX1_run_231 rfl (lv_at hl 2 rfl) ?_
      refine lv_iconst (v := 0) hx hb dX1_run_232 (by decide) ?_
      refine lv_iconst (v := 0) hx hb dX1_run_233 (by decide) ?_
      refine lv_iload_n hx hb dX1_run_234 rfl (lv_at hl 5 rfl) ?_
      refine lv_iload hx hb dX1_run_235 (lv_at hl 0 rfl) ?_
      skip
      refine zw_V (As := [.int 0, .int 0, .int x, .int 3]) (rest := []) (wr := []) ⟨hx, hb, hml, hown, hts⟩ (c_M_run_4_0_0_3 l D cI cJ cZ cP cS po mv mb (q_6) (mm) (mq) q_7 (x) (by omega) (by omega) H.size) (cwV 4 hts gX1_run_X1_run rfl rfl rfl ⟨rfl, dh_X1_run⟩ ⟨Nat.le_of_ble_eq_true rfl, Nat.le_of_ble_eq_true rfl⟩) hK hN (hZ.kept hS) hP hD hS hA [0, 1] [] rfl rfl (by decide) (by decide) (by decide) (va_recv (q := (RX1, TX1, 5)) hK hP (ci := 1) (q0 := 0) rfl rfl) rfl hl.1 rfl (Nat.le_of_ble_eq_true rfl) dX1_run_237 ⟨Nat.le_of_ble_eq_true rfl, Nat.le_of_ble_eq_true rfl⟩ (fun r_9 u_10 H locs hr_9 hP hD hS => ?_)
      obtain ⟨q_11, q_12⟩ := u_10
      try dsimp only at hr_9
      obtain ⟨hbq_11, hr_9⟩ := hr_9
      have h9R := zRe (ws' := [(mv, .inr (1, [.ref mb, .int q_11, .int 4, .int mm, .int mq])), (mb, .inl (cI, 20, .inl q_12))]) hP hD rfl
      clear hP hD
      obtain ⟨hP, hD⟩ := h9R
      refine lv_aload_n hx hb dX1_run_240 rfl (lv_at hl 2 rfl) ?_
      refine va_get (D := D) (ci := 1) (v := .int mm) (C := RX1) (T := TX1) (N := 5) hx hb hts hi_X1_run_1 hown hK hP 0 rfl rfl 3 (by decide) (hts (.fieldLink RX1 22 "TheLiningsInIt$Moves" "m" "I") (List.mem_of_getElem? (i := 1) rfl)) (fun _ h9 => h9) rfl dX1_run_241 ?_
      refine lv_isub hx hb dX1_run_244 ?_
      refine lv_topi (fun x_13 ex_13 => ?_)
      exact W.iret (v := x_13) hx hb hr (fun t ht hW => ⟨⟨x_13, (q_11, q_12), rfl, ⟨(show q_11.toInt = mr.toInt + 2 from by omega), trivial⟩, zRet ht hP hD [0, 1] (by decide) rfl⟩, hS.F ht⟩) hS.2.2 dX1_run_245
    · exact absurd c_3 (by decide)
set_option maxHeartbeats 4000000 in
set_option maxRecDepth 100000 in
theorem c_M_run_4_0_2_1 (l : Launch) (D : va_G) (cI cJ cZ cP cS : ClassId) (po : zPool) (mv mb : Nat) (mr mm mq : Int32) (fb : Nat → Int32) (x : Int32) (hy0 : 0 ≤ mr.toInt) (hy1 : mr.toInt ≤ 1100) (hpz : Nat) : Met l yX1_run wsX1_run ({ frames := 5, cells := 0, slots := 0, locals := 124 }) (va_Pc [.ref mv, .int 0, .int 2, .int x, .int 1] (zW D (zKT cI cJ cZ cP cS) po [(mv, .inr (1, [.ref mb, .int mr, .int 4, .int mm, .int mq])), (mb, .inl (cI, 20, .inl fb))] hpz)) (va_Qi (fun (r : Int32) (u : (Int32) × (Nat → Int32)) => u.1.toInt = mr.toInt + 6 ∧ (True)) (zB D [(mv, .inr (1, [.ref mb, .int mr, .int 4, .int mm, .int mq])), (mb, .inl (cI, 20, .inl fb))] hpz (fun (u : (Int32) × (Nat → Int32)) => [(mv, .inr (1, [.ref mb, .int u.1, .int 4, .int mm, .int mq])), (mb, .inl (cI, 20, .inl u.2))])) (va_A [(mv, .inr (1, [.ref mb, .int mr, .int 4, .int mm, .int mq])), (mb, .inl (cI, 20, .inl fb))] hpz)) 0 0 (va_A [(mv, .inr (1, [.ref mb, .int mr, .int 4, .int mm, .int mq])), (mb, .inl (cI, 20, .inl fb))] hpz) := by
  refine Met.ofW (cc := cX1_run) (maxL := 7) (ret := (some .int)) (by decide) rfl ?_
  intro p e s m args below meth c s₁ B hml hv
  obtain ⟨rfl, hsz, hP, hK, hD0, hN, hZ⟩ := hv
  have hx := B.exec
  have hb := B.bytes
  have hr := B.returns
  have hts := atoms_spec (ws := wsX1_run) B.pre
  have hown : s.vm.findClass RX1 = some m.cls := findClass_of_methodNamed B.named
  have hlocks := B.notSynchronized
  subst hsz
  have hD := hD0.self (sz := s.heap.size)
  have hA := zA_of hD
  have hl := lv_entry ([.ref mv, .int 0, .int 2, .int x, .int 1]) (n := 7) (Nat.le_of_ble_eq_true rfl)
  rw [lg_entry_eq]
  generalize (lg_sl ([.ref mv, .int 0, .int 2, .int x, .int 1]) ++ List.replicate (7 - (lg_sl ([.ref mv, .int 0, .int 2, .int x, .int 1])).length) Slot.unset).toArray = ls at hl ⊢
  replace hl : lv_has ls 7 [(0, .ref mv), (1, .int 0), (2, .int 2), (3, .int x), (4, .int 1)] := hl
  refine zw_begin hP hD (fun H locs hP1 hS => ?_)
  clear hP
  have hP := hP1
  clear hP1
  refine lv_iload_n hx hb dX1_run_0 rfl (lv_at hl 1 rfl) ?_
  refine lv_iload_n hx hb dX1_run_1 rfl (lv_at hl 2 rfl) ?_
  refine zc_S (As := [.int 0, .int 2]) (rest := []) ⟨hx, hb, hml, hown, hts⟩ (c_M_bodyFor_0_2 l D cI cJ cZ cP cS po  ) (va_cwS 2 hts gX1_run_X1_bodyFor rfl rfl rfl dh_X1_bodyFor ⟨Nat.le_of_ble_eq_true rfl, Nat.le_of_ble_eq_true rfl⟩) hK hN (hZ.kept hS) rfl hl.1 rfl (Nat.le_of_ble_eq_true rfl) dX1_run_2 ⟨Nat.le_of_ble_eq_true rfl, Nat.le_of_ble_eq_true rfl⟩ (fun r_1 hr_1 => ?_)
  obtain rfl := hr_1
  refine lv_istore (lv' := [(5, .int 12), (0, .ref mv), (1, .int 0), (2, .int 2), (3, .int x), (4, .int 1)]) hx hb dX1_run_5 hl (by decide) rfl (fun ls hl => ?_)
  refine lv_iload hx hb dX1_run_7 (lv_at hl 0 rfl) ?_
  refine lv_iconst (v := (-1)) hx hb dX1_run_9 (by decide) ?_
  refine lv_icmp_eq (tgt := 20) hx hb dX1_run_10 (by decide) (fun c_2 => ?_) (fun c_2 => ?_)
  · exact absurd c_2 (by decide)
  · refine lv_iload hx hb dX1_run_13 (lv_at hl 5 rfl) ?_
    refine lv_bipush (v := 40) hx hb dX1_run_15 (by decide) ?_
    refine lv_icmp_lt (tgt := 22) hx hb dX1_run_17 (by decide) (fun c_3 => ?_) (fun c_3 => ?_)
    · refine lv_aload_n hx hb dX1_run_22 rfl (lv_at hl 1 rfl) ?_
      refine lv_iload hx hb dX1_run_23 (lv_at hl 0 rfl) ?_
      skip
      refine zw_Vv (As := [.int 12]) (rest := []) (wr := []) ⟨hx, hb, hml, hown, hts⟩ (c_M_note l D cI cJ cZ cP cS po mv mb (mr) (4) (mm) (mq) fb (12) hy0 (by omega) H.size) (cwV 1 hts gX1_run_X1_note rfl rfl rfl ⟨rfl, dh_X1_note⟩ ⟨Nat.le_of_ble_eq_true rfl, Nat.le_of_ble_eq_true rfl⟩) hK hN (hZ.kept hS) hP hD hS hA [0, 1] [] rfl rfl (by decide) (by decide) (by decide) (va_recv (q := (RX1, TX1, 5)) hK hP (ci := 1) (q0 := 0) rfl rfl) rfl hl.1 rfl (Nat.le_of_ble_eq_true rfl) dX1_run_25 ⟨Nat.le_of_ble_eq_true rfl, Nat.le_of_ble_eq_true rfl⟩ (fun u_5 H locs hr_4 hP hD hS => ?_)
      obtain ⟨q_6, q_7⟩ := u_5
      try dsimp only at hr_4
      obtain ⟨hbq_6, hr_4⟩ := hr_4
      have h9R := zRe (ws' := [(mv, .inr (1, [.ref mb, .int q_6, .int 4, .int mm, .int mq])), (mb, .inl (cI, 20, .inl q_7))]) hP hD rfl
      clear hP hD
      obtain ⟨hP, hD⟩ := h9R
      refine lv_iload hx hb dX1_run_28 (lv_at hl 5 rfl) ?_
      refine lv_iconst (v := 1) hx hb dX1_run_30 (by decide) ?_
      refine lv_iadd hx hb dX1_run_31 ?_
      refine lv_topi (fun y_8 ey_8 => ?_)
      obtain rfl : y_8 = 2 := ey_8.trans (by decide)
      refine lv_istore (lv' := [(6, .int 2), (5, .int 12), (0, .ref mv), (1, .int 0), (2, .int 2), (3, .int x), (4, .int 1)]) hx hb dX1_run_32 hl (by decide) rfl (fun ls hl => ?_)
      refine lv_iload hx hb dX1_run_34 (lv_at hl 1 rfl) ?_
      refine lv_lookup (off := 114) (tgt := 150) hx hb dX1_run_36 (by decide) (by decide) (by decide) ?_
      refine lv_aload_n hx hb dX1_run_150 rfl (lv_at hl 2 rfl) ?_
      refine lv_aload_n hx hb dX1_run_151 rfl (lv_at hl 2 rfl) ?_
      refine va_get (D := D) (ci := 1) (v := .int 4) (C := RX1) (T := TX1) (N := 5) hx hb hts hi_X1_run_1 hown hK hP 0 rfl rfl 2 (by decide) (hts (.fieldLink RX1 19 "TheLiningsInIt$Moves" "kind" "I") (List.mem_of_getElem? (i := 2) rfl)) (fun _ h9 => h9) rfl dX1_run_152 ?_
      refine lv_iconst (v := 1) hx hb dX1_run_155 (by decide) ?_
      refine lv_iload_n hx hb dX1_run_156 rfl (lv_at hl 5 rfl) ?_
      refine lv_iload hx hb dX1_run_157 (lv_at hl 0 rfl) ?_
      skip
      refine zw_V (As := [.int 4, .int 1, .int x, .int 2]) (rest := []) (wr := []) ⟨hx, hb, hml, hown, hts⟩ (c_M_run_4_4_1_2 l D cI cJ cZ cP cS po mv mb (q_6) (mm) (mq) q_7 (x) (by omega) (by omega) H.size) (cwV 4 hts gX1_run_X1_run rfl rfl rfl ⟨rfl, dh_X1_run⟩ ⟨Nat.le_of_ble_eq_true rfl, Nat.le_of_ble_eq_true rfl⟩) hK hN (hZ.kept hS) hP hD hS hA [0, 1] [] rfl rfl (by decide) (by decide) (by decide) (va_recv (q := (RX1, TX1, 5)) hK hP (ci := 1) (q0 := 0) rfl rfl) rfl hl.1 rfl (Nat.le_of_ble_eq_true rfl) dX1_run_159 ⟨Nat.le_of_ble_eq_true rfl, Nat.le_of_ble_eq_true rfl⟩ (fun r_9 u_10 H locs hr_9 hP hD hS => ?_)
      obtain ⟨q_11, q_12⟩ := u_10
      try dsimp only at hr_9
      obtain ⟨hbq_11, hr_9⟩ := hr_9
      have h9R := zRe (ws' := [(mv, .inr (1, [.ref mb, .int q_11, .int 4, .int mm, .int mq])), (mb, .inl (cI, 20, .inl q_12))]) hP hD rfl
      clear hP hD
      obtain ⟨hP, hD⟩ := h9R
      refine lv_aload_n hx hb dX1_run_162 rfl (lv_at hl 2 rfl) ?_
      refine lv_aload_n hx hb dX1_run_163 rfl (lv_at hl 2 rfl) ?_
      refine va_get (D := D) (ci := 1) (v := .int 4) (C := RX1) (T := TX1) (N := 5) hx hb hts hi_X1_run_1 hown hK hP 0 rfl rfl 2 (by decide) (hts (.fieldLink RX1 19 "TheLiningsInIt$Moves" "kind" "I") (List.mem_of_getElem? (i := 2) rfl)) (fun _ h9 => h9) rfl dX1_run_164 ?_
      refine lv_iconst (v := 0) hx hb dX1_run_167 (by decide) ?_
      refine lv_iload_n hx hb dX1_run_168 rfl (lv_at hl 5 rfl) ?_
      refine lv_aload_n hx hb dX1_run_169 rfl (lv_at hl 2 rfl) ?_
      refine va_get (D := D) (ci := 1) (v := .int mq) (C := RX1) (T := TX1) (N := 5) hx hb hts hi_X1_run_1 hown hK hP 0 rfl rfl 4 (by decide) (hts (.fieldLink RX1 25 "TheLiningsInIt$Moves" "k" "I") (List.mem_of_getElem? (i := 3) rfl)) (fun _ h9 => h9) rfl dX1_run_170 ?_
      refine lv_isub hx hb dX1_run_173 ?_
      refine lv_topi (fun x_13 ex_13 => ?_)
      refine lv_iload hx hb dX1_run_174 (lv_at hl 0 rfl) ?_
      skip
      refine zw_V (As := [.int 4, .int 0, .int x_13, .int 2]) (rest := [.int r_9]) (wr := []) ⟨hx, hb, hml, hown, hts⟩ (c_M_run_4_4_0_2 l D cI cJ cZ cP cS po mv mb (q_11) (mm) (mq) q_12 (x_13) (by omega) (by omega) H.size) (cwV 4 hts gX1_run_X1_run rfl rfl rfl ⟨rfl, dh_X1_run⟩ ⟨Nat.le_of_ble_eq_true rfl, Nat.le_of_ble_eq_true rfl⟩) hK hN (hZ.kept hS) hP hD hS hA [0, 1] [] rfl rfl (by decide) (by decide) (by decide) (va_recv (q := (RX1, TX1, 5)) hK hP (ci := 1) (q0 := 0) rfl rfl) rfl hl.1 rfl (Nat.le_of_ble_eq_true rfl) dX1_run_176 ⟨Nat.le_of_ble_eq_true rfl, Nat.le_of_ble_eq_true rfl⟩ (fun r_14 u_15 H locs hr_14 hP hD hS => ?_)
      obtain ⟨q_16, q_17⟩ := u_15
      try dsimp only at hr_14
      obtain ⟨hbq_16, hr_14⟩ := hr_14
      have h9R := zRe (ws' := [(mv, .inr (1, [.ref mb, .int q_16, .int 4, .int mm, .int mq])), (mb, .inl (cI, 20, .inl q_17))]) hP hD rfl
      clear hP hD
      obtain ⟨hP, hD⟩ := h9R
      refine lv_ixor hx hb dX1_run_179 ?_
      refine lv_topi (fun x_18 ex_18 => ?_)
      exact W.iret (v := x_18) hx hb hr (fun t ht hW => ⟨⟨x_18, (q_16, q_17), rfl, ⟨(show q_16.toInt = mr.toInt + 6 from by omega), trivial⟩, zRet ht hP hD [0, 1] (by decide) rfl⟩, hS.F ht⟩) hS.2.2 dX1_run_180
    · exact absurd c_3 (by decide)
set_option maxHeartbeats 4000000 in
set_option maxRecDepth 100000 in
theorem c_M_run_4_4_2_0 (l : Launch) (D : va_G) (cI cJ cZ cP cS : ClassId) (po : zPool) (mv mb : Nat) (mr mm mq : Int32) (fb : Nat → Int32) (x : Int32) (hy0 : 0 ≤ mr.toInt) (hy1 : mr.toInt ≤ 1000) (hpz : Nat) : Met l yX1_run wsX1_run ({ frames := 6, cells := 0, slots := 0, locals := 150 }) (va_Pc [.ref mv, .int 4, .int 2, .int x, .int 0] (zW D (zKT cI cJ cZ cP cS) po [(mv, .inr (1, [.ref mb, .int mr, .int 4, .int mm, .int mq])), (mb, .inl (cI, 20, .inl fb))] hpz)) (va_Qi (fun (r : Int32) (u : (Int32) × (Nat → Int32)) => u.1.toInt = mr.toInt + 7 ∧ (True)) (zB D [(mv, .inr (1, [.ref mb, .int mr, .int 4, .int mm, .int mq])), (mb, .inl (cI, 20, .inl fb))] hpz (fun (u : (Int32) × (Nat → Int32)) => [(mv, .inr (1, [.ref mb, .int u.1, .int 4, .int mm, .int mq])), (mb, .inl (cI, 20, .inl u.2))])) (va_A [(mv, .inr (1, [.ref mb, .int mr, .int 4, .int mm, .int mq])), (mb, .inl (cI, 20, .inl fb))] hpz)) 0 0 (va_A [(mv, .inr (1, [.ref mb, .int mr, .int 4, .int mm, .int mq])), (mb, .inl (cI, 20, .inl fb))] hpz) := by
  refine Met.ofW (cc := cX1_run) (maxL := 7) (ret := (some .int)) (by decide) rfl ?_
  intro p e s m args below meth c s₁ B hml hv
  obtain ⟨rfl, hsz, hP, hK, hD0, hN, hZ⟩ := hv
  have hx := B.exec
  have hb := B.bytes
  have hr := B.returns
  have hts := atoms_spec (ws := wsX1_run) B.pre
  have hown : s.vm.findClass RX1 = some m.cls := findClass_of_methodNamed B.named
  have hlocks := B.notSynchronized
  subst hsz
  have hD := hD0.self (sz := s.heap.size)
  have hA := zA_of hD
  have hl := lv_entry ([.ref mv, .int 4, .int 2, .int x, .int 0]) (n := 7) (Nat.le_of_ble_eq_true rfl)
  rw [lg_entry_eq]
  generalize (lg_sl ([.ref mv, .int 4, .int 2, .int x, .int 0]) ++ List.replicate (7 - (lg_sl ([.ref mv, .int 4, .int 2, .int x, .int 0])).length) Slot.unset).toArray = ls at hl ⊢
  replace hl : lv_has ls 7 [(0, .ref mv), (1, .int 4), (2, .int 2), (3, .int x), (4, .int 0)] := hl
  refine zw_begin hP hD (fun H locs hP1 hS => ?_)
  clear hP
  have hP := hP1
  clear hP1
  refine lv_iload_n hx hb dX1_run_0 rfl (lv_at hl 1 rfl) ?_
  refine lv_iload_n hx hb dX1_run_1 rfl (lv_at hl 2 rfl) ?_
  refine zc_S (As := [.int 4, .int 2]) (rest := []) ⟨hx, hb, hml, hown, hts⟩ (c_M_bodyFor_4_2 l D cI cJ cZ cP cS po  ) (va_cwS 2 hts gX1_run_X1_bodyFor rfl rfl rfl dh_X1_bodyFor ⟨Nat.le_of_ble_eq_true rfl, Nat.le_of_ble_eq_true rfl⟩) hK hN (hZ.kept hS) rfl hl.1 rfl (Nat.le_of_ble_eq_true rfl) dX1_run_2 ⟨Nat.le_of_ble_eq_true rfl, Nat.le_of_ble_eq_true rfl⟩ (fun r_1 hr_1 => ?_)
  obtain rfl := hr_1
  refine lv_istore (lv' := [(5, .int 50), (0, .ref mv), (1, .int 4), (2, .int 2), (3, .int x), (4, .int 0)]) hx hb dX1_run_5 hl (by decide) rfl (fun ls hl => ?_)
  refine lv_iload hx hb dX1_run_7 (lv_at hl 0 rfl) ?_
  refine lv_iconst (v := (-1)) hx hb dX1_run_9 (by decide) ?_
  refine lv_icmp_eq (tgt := 20) hx hb dX1_run_10 (by decide) (fun c_2 => ?_) (fun c_2 => ?_)
  · exact absurd c_2 (by decide)
  · refine lv_iload hx hb dX1_run_13 (lv_at hl 5 rfl) ?_
    refine lv_bipush (v := 40) hx hb dX1_run_15 (by decide) ?_
    refine lv_icmp_lt (tgt := 22) hx hb dX1_run_17 (by decide) (fun c_3 => ?_) (fun c_3 => ?_)
    · refine lv_aload_n hx hb dX1_run_22 rfl (lv_at hl 1 rfl) ?_
      refine lv_iload hx hb dX1_run_23 (lv_at hl 0 rfl) ?_
      skip
      refine zw_Vv (As := [.int 50]) (rest := []) (wr := []) ⟨hx, hb, hml, hown, hts⟩ (c_M_note l D cI cJ cZ cP cS po mv mb (mr) (4) (mm) (mq) fb (50) hy0 (by omega) H.size) (cwV 1 hts gX1_run_X1_note rfl rfl rfl ⟨rfl, dh_X1_note⟩ ⟨Nat.le_of_ble_eq_true rfl, Nat.le_of_ble_eq_true rfl⟩) hK hN (hZ.kept hS) hP hD hS hA [0, 1] [] rfl rfl (by decide) (by decide) (by decide) (va_recv (q := (RX1, TX1, 5)) hK hP (ci := 1) (q0 := 0) rfl rfl) rfl hl.1 rfl (Nat.le_of_ble_eq_true rfl) dX1_run_25 ⟨Nat.le_of_ble_eq_true rfl, Nat.le_of_ble_eq_true rfl⟩ (fun u_5 H locs hr_4 hP hD hS => ?_)
      obtain ⟨q_6, q_7⟩ := u_5
      try dsimp only at hr_4
      obtain ⟨hbq_6, hr_4⟩ := hr_4
      have h9R := zRe (ws' := [(mv, .inr (1, [.ref mb, .int q_6, .int 4, .int mm, .int mq])), (mb, .inl (cI, 20, .inl q_7))]) hP hD rfl
      clear hP hD
      obtain ⟨hP, hD⟩ := h9R
      refine lv_iload hx hb dX1_run_28 (lv_at hl 5 rfl) ?_
      refine lv_iconst (v := 1) hx hb dX1_run_30 (by decide) ?_
      refine lv_iadd hx hb dX1_run_31 ?_
      refine lv_topi (fun y_8 ey_8 => ?_)
      obtain rfl : y_8 = 1 := ey_8.trans (by decide)
      refine lv_istore (lv' := [(6, .int 1), (5, .int 50), (0, .ref mv), (1, .int 4), (2, .int 2), (3, .int x), (4, .int 0)]) hx hb dX1_run_32 hl (by decide) rfl (fun ls hl => ?_)
      refine lv_iload hx hb dX1_run_34 (lv_at hl 1 rfl) ?_
      refine lv_lookup (off := 184) (tgt := 220) hx hb dX1_run_36 (by decide) (by decide) (by decide) ?_
      refine lv_aload_n hx hb dX1_run_220 rfl (lv_at hl 2 rfl) ?_
      refine lv_iconst (v := 0) hx hb dX1_run_221 (by decide) ?_
      refine lv_iconst (v := 2) hx hb dX1_run_222 (by decide) ?_
      refine lv_iload_n hx hb dX1_run_223 rfl (lv_at hl 5 rfl) ?_
      refine lv_iload hx hb dX1_run_224 (lv_at hl 0 rfl) ?_
      skip
      refine zw_V (As := [.int 0, .int 2, .int x, .int 1]) (rest := []) (wr := []) ⟨hx, hb, hml, hown, hts⟩ (c_M_run_4_0_2_1 l D cI cJ cZ cP cS po mv mb (q_6) (mm) (mq) q_7 (x) (by omega) (by omega) H.size) (cwV 4 hts gX1_run_X1_run rfl rfl rfl ⟨rfl, dh_X1_run⟩ ⟨Nat.le_of_ble_eq_true rfl, Nat.le_of_ble_eq_true rfl⟩) hK hN (hZ.kept hS) hP hD hS hA [0, 1] [] rfl rfl (by decide) (by decide) (by decide) (va_recv (q := (RX1, TX1, 5)) hK hP (ci := 1) (q0 := 0) rfl rfl) rfl hl.1 rfl (Nat.le_of_ble_eq_true rfl) dX1_run_226 ⟨Nat.le_of_ble_eq_true rfl, Nat.le_of_ble_eq_true rfl⟩ (fun r_9 u_10 H locs hr_9 hP hD hS => ?_)
      obtain ⟨q_11, q_12⟩ := u_10
      try dsimp only at hr_9
      obtain ⟨hbq_11, hr_9⟩ := hr_9
      have h9R := zRe (ws' := [(mv, .inr (1, [.ref mb, .int q_11, .int 4, .int mm, .int mq])), (mb, .inl (cI, 20, .inl q_12))]) hP hD rfl
      clear hP hD
      obtain ⟨hP, hD⟩ := h9R
      refine lv_ineg hx hb dX1_run_229 ?_
      refine lv_topi (fun x_13 ex_13 => ?_)
      exact W.iret (v := x_13) hx hb hr (fun t ht hW => ⟨⟨x_13, (q_11, q_12), rfl, ⟨(show q_11.toInt = mr.toInt + 7 from by omega), trivial⟩, zRet ht hP hD [0, 1] (by decide) rfl⟩, hS.F ht⟩) hS.2.2 dX1_run_230
    · exact absurd c_3 (by decide)
set_option maxHeartbeats 4000000 in
set_option maxRecDepth 100000 in
theorem c_M_run_5_5_0_0 (l : Launch) (D : va_G) (cI cJ cZ cP cS : ClassId) (po : zPool) (mv mb : Nat) (mr mm mq : Int32) (fb : Nat → Int32) (x : Int32) (hy0 : 0 ≤ mr.toInt) (hy1 : mr.toInt ≤ 1000) (hpz : Nat) : Met l yX1_run wsX1_run ({ frames := 2, cells := 0, slots := 0, locals := 46 }) (va_Pc [.ref mv, .int 5, .int 0, .int x, .int 0] (zW D (zKT cI cJ cZ cP cS) po [(mv, .inr (1, [.ref mb, .int mr, .int 5, .int mm, .int mq])), (mb, .inl (cI, 20, .inl fb))] hpz)) (va_Qi (fun (r : Int32) (u : (Int32) × (Nat → Int32)) => u.1.toInt = mr.toInt + 1 ∧ (True)) (zB D [(mv, .inr (1, [.ref mb, .int mr, .int 5, .int mm, .int mq])), (mb, .inl (cI, 20, .inl fb))] hpz (fun (u : (Int32) × (Nat → Int32)) => [(mv, .inr (1, [.ref mb, .int u.1, .int 5, .int mm, .int mq])), (mb, .inl (cI, 20, .inl u.2))])) (va_A [(mv, .inr (1, [.ref mb, .int mr, .int 5, .int mm, .int mq])), (mb, .inl (cI, 20, .inl fb))] hpz)) 0 0 (va_A [(mv, .inr (1, [.ref mb, .int mr, .int 5, .int mm, .int mq])), (mb, .inl (cI, 20, .inl fb))] hpz) := by
  refine Met.ofW (cc := cX1_run) (maxL := 7) (ret := (some .int)) (by decide) rfl ?_
  intro p e s m args below meth c s₁ B hml hv
  obtain ⟨rfl, hsz, hP, hK, hD0, hN, hZ⟩ := hv
  have hx := B.exec
  have hb := B.bytes
  have hr := B.returns
  have hts := atoms_spec (ws := wsX1_run) B.pre
  have hown : s.vm.findClass RX1 = some m.cls := findClass_of_methodNamed B.named
  have hlocks := B.notSynchronized
  subst hsz
  have hD := hD0.self (sz := s.heap.size)
  have hA := zA_of hD
  have hl := lv_entry ([.ref mv, .int 5, .int 0, .int x, .int 0]) (n := 7) (Nat.le_of_ble_eq_true rfl)
  rw [lg_entry_eq]
  generalize (lg_sl ([.ref mv, .int 5, .int 0, .int x, .int 0]) ++ List.replicate (7 - (lg_sl ([.ref mv, .int 5, .int 0, .int x, .int 0])).length) Slot.unset).toArray = ls at hl ⊢
  replace hl : lv_has ls 7 [(0, .ref mv), (1, .int 5), (2, .int 0), (3, .int x), (4, .int 0)] := hl
  refine zw_begin hP hD (fun H locs hP1 hS => ?_)
  clear hP
  have hP := hP1
  clear hP1
  refine lv_iload_n hx hb dX1_run_0 rfl (lv_at hl 1 rfl) ?_
  refine lv_iload_n hx hb dX1_run_1 rfl (lv_at hl 2 rfl) ?_
  refine zc_S (As := [.int 5, .int 0]) (rest := []) ⟨hx, hb, hml, hown, hts⟩ (c_M_bodyFor_5_0 l D cI cJ cZ cP cS po  ) (va_cwS 2 hts gX1_run_X1_bodyFor rfl rfl rfl dh_X1_bodyFor ⟨Nat.le_of_ble_eq_true rfl, Nat.le_of_ble_eq_true rfl⟩) hK hN (hZ.kept hS) rfl hl.1 rfl (Nat.le_of_ble_eq_true rfl) dX1_run_2 ⟨Nat.le_of_ble_eq_true rfl, Nat.le_of_ble_eq_true rfl⟩ (fun r_1 hr_1 => ?_)
  obtain rfl := hr_1
  refine lv_istore (lv' := [(5, .int 10), (0, .ref mv), (1, .int 5), (2, .int 0), (3, .int x), (4, .int 0)]) hx hb dX1_run_5 hl (by decide) rfl (fun ls hl => ?_)
  refine lv_iload hx hb dX1_run_7 (lv_at hl 0 rfl) ?_
  refine lv_iconst (v := (-1)) hx hb dX1_run_9 (by decide) ?_
  refine lv_icmp_eq (tgt := 20) hx hb dX1_run_10 (by decide) (fun c_2 => ?_) (fun c_2 => ?_)
  · exact absurd c_2 (by decide)
  · refine lv_iload hx hb dX1_run_13 (lv_at hl 5 rfl) ?_
    refine lv_bipush (v := 40) hx hb dX1_run_15 (by decide) ?_
    refine lv_icmp_lt (tgt := 22) hx hb dX1_run_17 (by decide) (fun c_3 => ?_) (fun c_3 => ?_)
    · refine lv_aload_n hx hb dX1_run_22 rfl (lv_at hl 1 rfl) ?_
      refine lv_iload hx hb dX1_run_23 (lv_at hl 0 rfl) ?_
      skip
      refine zw_Vv (As := [.int 10]) (rest := []) (wr := []) ⟨hx, hb, hml, hown, hts⟩ (c_M_note l D cI cJ cZ cP cS po mv mb (mr) (5) (mm) (mq) fb (10) hy0 (by omega) H.size) (cwV 1 hts gX1_run_X1_note rfl rfl rfl ⟨rfl, dh_X1_note⟩ ⟨Nat.le_of_ble_eq_true rfl, Nat.le_of_ble_eq_true rfl⟩) hK hN (hZ.kept hS) hP hD hS hA [0, 1] [] rfl rfl (by decide) (by decide) (by decide) (va_recv (q := (RX1, TX1, 5)) hK hP (ci := 1) (q0 := 0) rfl rfl) rfl hl.1 rfl (Nat.le_of_ble_eq_true rfl) dX1_run_25 ⟨Nat.le_of_ble_eq_true rfl, Nat.le_of_ble_eq_true rfl⟩ (fun u_5 H locs hr_4 hP hD hS => ?_)
      obtain ⟨q_6, q_7⟩ := u_5
      try dsimp only at hr_4
      obtain ⟨hbq_6, hr_4⟩ := hr_4
      have h9R := zRe (ws' := [(mv, .inr (1, [.ref mb, .int q_6, .int 5, .int mm, .int mq])), (mb, .inl (cI, 20, .inl q_7))]) hP hD rfl
      clear hP hD
      obtain ⟨hP, hD⟩ := h9R
      refine lv_iload hx hb dX1_run_28 (lv_at hl 5 rfl) ?_
      refine lv_iconst (v := 1) hx hb dX1_run_30 (by decide) ?_
      refine lv_iadd hx hb dX1_run_31 ?_
      refine lv_topi (fun y_8 ey_8 => ?_)
      obtain rfl : y_8 = 1 := ey_8.trans (by decide)
      refine lv_istore (lv' := [(6, .int 1), (5, .int 10), (0, .ref mv), (1, .int 5), (2, .int 0), (3, .int x), (4, .int 0)]) hx hb dX1_run_32 hl (by decide) rfl (fun ls hl => ?_)
      refine lv_iload hx hb dX1_run_34 (lv_at hl 1 rfl) ?_
      refine lv_lookup (off := 92) (tgt := 128) hx hb dX1_run_36 (by decide) (by decide) (by decide) ?_
      refine lv_iload_n hx hb dX1_run_128 rfl (lv_at hl 5 rfl) ?_
      refine lv_aload_n hx hb dX1_run_129 rfl (lv_at hl 2 rfl) ?_
      refine va_get (D := D) (ci := 1) (v := .int mm) (C := RX1) (T := TX1) (N := 5) hx hb hts hi_X1_run_1 hown hK hP 0 rfl rfl 3 (by decide) (hts (.fieldLink RX1 22 "TheLiningsInIt$Moves" "m" "I") (List.mem_of_getElem? (i := 1) rfl)) (fun _ h9 => h9) rfl dX1_run_130 ?_
      refine lv_iadd hx hb dX1_run_133 ?_
      refine lv_topi (fun x_9 ex_9 => ?_)
      exact W.iret (v := x_9) hx hb hr (fun t ht hW => ⟨⟨x_9, (q_6, q_7), rfl, ⟨(show q_6.toInt = mr.toInt + 1 from by omega), trivial⟩, zRet ht hP hD [0, 1] (by decide) rfl⟩, hS.F ht⟩) hS.2.2 dX1_run_134
    · exact absurd c_3 (by decide)
set_option maxHeartbeats 4000000 in
set_option maxRecDepth 100000 in
theorem c_M_run_5_5_0_2 (l : Launch) (D : va_G) (cI cJ cZ cP cS : ClassId) (po : zPool) (mv mb : Nat) (mr mm mq : Int32) (fb : Nat → Int32) (x : Int32) (hy0 : 0 ≤ mr.toInt) (hy1 : mr.toInt ≤ 1200) (hpz : Nat) : Met l yX1_run wsX1_run ({ frames := 2, cells := 0, slots := 0, locals := 46 }) (va_Pc [.ref mv, .int 5, .int 0, .int x, .int 2] (zW D (zKT cI cJ cZ cP cS) po [(mv, .inr (1, [.ref mb, .int mr, .int 5, .int mm, .int mq])), (mb, .inl (cI, 20, .inl fb))] hpz)) (va_Qi (fun (r : Int32) (u : (Int32) × (Nat → Int32)) => u.1.toInt = mr.toInt + 1 ∧ (True)) (zB D [(mv, .inr (1, [.ref mb, .int mr, .int 5, .int mm, .int mq])), (mb, .inl (cI, 20, .inl fb))] hpz (fun (u : (Int32) × (Nat → Int32)) => [(mv, .inr (1, [.ref mb, .int u.1, .int 5, .int mm, .int mq])), (mb, .inl (cI, 20, .inl u.2))])) (va_A [(mv, .inr (1, [.ref mb, .int mr, .int 5, .int mm, .int mq])), (mb, .inl (cI, 20, .inl fb))] hpz)) 0 0 (va_A [(mv, .inr (1, [.ref mb, .int mr, .int 5, .int mm, .int mq])), (mb, .inl (cI, 20, .inl fb))] hpz) := by
  refine Met.ofW (cc := cX1_run) (maxL := 7) (ret := (some .int)) (by decide) rfl ?_
  intro p e s m args below meth c s₁ B hml hv
  obtain ⟨rfl, hsz, hP, hK, hD0, hN, hZ⟩ := hv
  have hx := B.exec
  have hb := B.bytes
  have hr := B.returns
  have hts := atoms_spec (ws := wsX1_run) B.pre
  have hown : s.vm.findClass RX1 = some m.cls := findClass_of_methodNamed B.named
  have hlocks := B.notSynchronized
  subst hsz
  have hD := hD0.self (sz := s.heap.size)
  have hA := zA_of hD
  have hl := lv_entry ([.ref mv, .int 5, .int 0, .int x, .int 2]) (n := 7) (Nat.le_of_ble_eq_true rfl)
  rw [lg_entry_eq]
  generalize (lg_sl ([.ref mv, .int 5, .int 0, .int x, .int 2]) ++ List.replicate (7 - (lg_sl ([.ref mv, .int 5, .int 0, .int x, .int 2])).length) Slot.unset).toArray = ls at hl ⊢
  replace hl : lv_has ls 7 [(0, .ref mv), (1, .int 5), (2, .int 0), (3, .int x), (4, .int 2)] := hl
  refine zw_begin hP hD (fun H locs hP1 hS => ?_)
  clear hP
  have hP := hP1
  clear hP1
  refine lv_iload_n hx hb dX1_run_0 rfl (lv_at hl 1 rfl) ?_
  refine lv_iload_n hx hb dX1_run_1 rfl (lv_at hl 2 rfl) ?_
  refine zc_S (As := [.int 5, .int 0]) (rest := []) ⟨hx, hb, hml, hown, hts⟩ (c_M_bodyFor_5_0 l D cI cJ cZ cP cS po  ) (va_cwS 2 hts gX1_run_X1_bodyFor rfl rfl rfl dh_X1_bodyFor ⟨Nat.le_of_ble_eq_true rfl, Nat.le_of_ble_eq_true rfl⟩) hK hN (hZ.kept hS) rfl hl.1 rfl (Nat.le_of_ble_eq_true rfl) dX1_run_2 ⟨Nat.le_of_ble_eq_true rfl, Nat.le_of_ble_eq_true rfl⟩ (fun r_1 hr_1 => ?_)
  obtain rfl := hr_1
  refine lv_istore (lv' := [(5, .int 10), (0, .ref mv), (1, .int 5), (2, .int 0), (3, .int x), (4, .int 2)]) hx hb dX1_run_5 hl (by decide) rfl (fun ls hl => ?_)
  refine lv_iload hx hb dX1_run_7 (lv_at hl 0 rfl) ?_
  refine lv_iconst (v := (-1)) hx hb dX1_run_9 (by decide) ?_
  refine lv_icmp_eq (tgt := 20) hx hb dX1_run_10 (by decide) (fun c_2 => ?_) (fun c_2 => ?_)
  · exact absurd c_2 (by decide)
  · refine lv_iload hx hb dX1_run_13 (lv_at hl 5 rfl) ?_
    refine lv_bipush (v := 40) hx hb dX1_run_15 (by decide) ?_
    refine lv_icmp_lt (tgt := 22) hx hb dX1_run_17 (by decide) (fun c_3 => ?_) (fun c_3 => ?_)
    · refine lv_aload_n hx hb dX1_run_22 rfl (lv_at hl 1 rfl) ?_
      refine lv_iload hx hb dX1_run_23 (lv_at hl 0 rfl) ?_
      skip
      refine zw_Vv (As := [.int 10]) (rest := []) (wr := []) ⟨hx, hb, hml, hown, hts⟩ (c_M_note l D cI cJ cZ cP cS po mv mb (mr) (5) (mm) (mq) fb (10) hy0 (by omega) H.size) (cwV 1 hts gX1_run_X1_note rfl rfl rfl ⟨rfl, dh_X1_note⟩ ⟨Nat.le_of_ble_eq_true rfl, Nat.le_of_ble_eq_true rfl⟩) hK hN (hZ.kept hS) hP hD hS hA [0, 1] [] rfl rfl (by decide) (by decide) (by decide) (va_recv (q := (RX1, TX1, 5)) hK hP (ci := 1) (q0 := 0) rfl rfl) rfl hl.1 rfl (Nat.le_of_ble_eq_true rfl) dX1_run_25 ⟨Nat.le_of_ble_eq_true rfl, Nat.le_of_ble_eq_true rfl⟩ (fun u_5 H locs hr_4 hP hD hS => ?_)
      obtain ⟨q_6, q_7⟩ := u_5
      try dsimp only at hr_4
      obtain ⟨hbq_6, hr_4⟩ := hr_4
      have h9R := zRe (ws' := [(mv, .inr (1, [.ref mb, .int q_6, .int 5, .int mm, .int mq])), (mb, .inl (cI, 20, .inl q_7))]) hP hD rfl
      clear hP hD
      obtain ⟨hP, hD⟩ := h9R
      refine lv_iload hx hb dX1_run_28 (lv_at hl 5 rfl) ?_
      refine lv_iconst (v := 1) hx hb dX1_run_30 (by decide) ?_
      refine lv_iadd hx hb dX1_run_31 ?_
      refine lv_topi (fun y_8 ey_8 => ?_)
      obtain rfl : y_8 = 3 := ey_8.trans (by decide)
      refine lv_istore (lv' := [(6, .int 3), (5, .int 10), (0, .ref mv), (1, .int 5), (2, .int 0), (3, .int x), (4, .int 2)]) hx hb dX1_run_32 hl (by decide) rfl (fun ls hl => ?_)
      refine lv_iload hx hb dX1_run_34 (lv_at hl 1 rfl) ?_
      refine lv_lookup (off := 92) (tgt := 128) hx hb dX1_run_36 (by decide) (by decide) (by decide) ?_
      refine lv_iload_n hx hb dX1_run_128 rfl (lv_at hl 5 rfl) ?_
      refine lv_aload_n hx hb dX1_run_129 rfl (lv_at hl 2 rfl) ?_
      refine va_get (D := D) (ci := 1) (v := .int mm) (C := RX1) (T := TX1) (N := 5) hx hb hts hi_X1_run_1 hown hK hP 0 rfl rfl 3 (by decide) (hts (.fieldLink RX1 22 "TheLiningsInIt$Moves" "m" "I") (List.mem_of_getElem? (i := 1) rfl)) (fun _ h9 => h9) rfl dX1_run_130 ?_
      refine lv_iadd hx hb dX1_run_133 ?_
      refine lv_topi (fun x_9 ex_9 => ?_)
      exact W.iret (v := x_9) hx hb hr (fun t ht hW => ⟨⟨x_9, (q_6, q_7), rfl, ⟨(show q_6.toInt = mr.toInt + 1 from by omega), trivial⟩, zRet ht hP hD [0, 1] (by decide) rfl⟩, hS.F ht⟩) hS.2.2 dX1_run_134
    · exact absurd c_3 (by decide)
set_option maxHeartbeats 4000000 in
set_option maxRecDepth 100000 in
theorem c_M_run_5_0_1_1 (l : Launch) (D : va_G) (cI cJ cZ cP cS : ClassId) (po : zPool) (mv mb : Nat) (mr mm mq : Int32) (fb : Nat → Int32) (x : Int32) (hy0 : 0 ≤ mr.toInt) (hy1 : mr.toInt ≤ 1100) (hpz : Nat) : Met l yX1_run wsX1_run ({ frames := 3, cells := 0, slots := 0, locals := 72 }) (va_Pc [.ref mv, .int 0, .int 1, .int x, .int 1] (zW D (zKT cI cJ cZ cP cS) po [(mv, .inr (1, [.ref mb, .int mr, .int 5, .int mm, .int mq])), (mb, .inl (cI, 20, .inl fb))] hpz)) (va_Qi (fun (r : Int32) (u : (Int32) × (Nat → Int32)) => u.1.toInt = mr.toInt + 2 ∧ (True)) (zB D [(mv, .inr (1, [.ref mb, .int mr, .int 5, .int mm, .int mq])), (mb, .inl (cI, 20, .inl fb))] hpz (fun (u : (Int32) × (Nat → Int32)) => [(mv, .inr (1, [.ref mb, .int u.1, .int 5, .int mm, .int mq])), (mb, .inl (cI, 20, .inl u.2))])) (va_A [(mv, .inr (1, [.ref mb, .int mr, .int 5, .int mm, .int mq])), (mb, .inl (cI, 20, .inl fb))] hpz)) 0 0 (va_A [(mv, .inr (1, [.ref mb, .int mr, .int 5, .int mm, .int mq])), (mb, .inl (cI, 20, .inl fb))] hpz) := by
  refine Met.ofW (cc := cX1_run) (maxL := 7) (ret := (some .int)) (by decide) rfl ?_
  intro p e s m args below meth c s₁ B hml hv
  obtain ⟨rfl, hsz, hP, hK, hD0, hN, hZ⟩ := hv
  have hx := B.exec
  have hb := B.bytes
  have hr := B.returns
  have hts := atoms_spec (ws := wsX1_run) B.pre
  have hown : s.vm.findClass RX1 = some m.cls := findClass_of_methodNamed B.named
  have hlocks := B.notSynchronized
  subst hsz
  have hD := hD0.self (sz := s.heap.size)
  have hA := zA_of hD
  have hl := lv_entry ([.ref mv, .int 0, .int 1, .int x, .int 1]) (n := 7) (Nat.le_of_ble_eq_true rfl)
  rw [lg_entry_eq]
  generalize (lg_sl ([.ref mv, .int 0, .int 1, .int x, .int 1]) ++ List.replicate (7 - (lg_sl ([.ref mv, .int 0, .int 1, .int x, .int 1])).length) Slot.unset).toArray = ls at hl ⊢
  replace hl : lv_has ls 7 [(0, .ref mv), (1, .int 0), (2, .int 1), (3, .int x), (4, .int 1)] := hl
  refine zw_begin hP hD (fun H locs hP1 hS => ?_)
  clear hP
  have hP := hP1
  clear hP1
  refine lv_iload_n hx hb dX1_run_0 rfl (lv_at hl 1 rfl) ?_
  refine lv_iload_n hx hb dX1_run_1 rfl (lv_at hl 2 rfl) ?_
  refine zc_S (As := [.int 0, .int 1]) (rest := []) ⟨hx, hb, hml, hown, hts⟩ (c_M_bodyFor_0_1 l D cI cJ cZ cP cS po  ) (va_cwS 2 hts gX1_run_X1_bodyFor rfl rfl rfl dh_X1_bodyFor ⟨Nat.le_of_ble_eq_true rfl, Nat.le_of_ble_eq_true rfl⟩) hK hN (hZ.kept hS) rfl hl.1 rfl (Nat.le_of_ble_eq_true rfl) dX1_run_2 ⟨Nat.le_of_ble_eq_true rfl, Nat.le_of_ble_eq_true rfl⟩ (fun r_1 hr_1 => ?_)
  obtain rfl := hr_1
  refine lv_istore (lv' := [(5, .int 11), (0, .ref mv), (1, .int 0), (2, .int 1), (3, .int x), (4, .int 1)]) hx hb dX1_run_5 hl (by decide) rfl (fun ls hl => ?_)
  refine lv_iload hx hb dX1_run_7 (lv_at hl 0 rfl) ?_
  refine lv_iconst (v := (-1)) hx hb dX1_run_9 (by decide) ?_
  refine lv_icmp_eq (tgt := 20) hx hb dX1_run_10 (by decide) (fun c_2 => ?_) (fun c_2 => ?_)
  · exact absurd c_2 (by decide)
  · refine lv_iload hx hb dX1_run_13 (lv_at hl 5 rfl) ?_
    refine lv_bipush (v := 40) hx hb dX1_run_15 (by decide) ?_
    refine lv_icmp_lt (tgt := 22) hx hb dX1_run_17 (by decide) (fun c_3 => ?_) (fun c_3 => ?_)
    · refine lv_aload_n hx hb dX1_run_22 rfl (lv_at hl 1 rfl) ?_
      refine lv_iload hx hb dX1_run_23 (lv_at hl 0 rfl) ?_
      skip
      refine zw_Vv (As := [.int 11]) (rest := []) (wr := []) ⟨hx, hb, hml, hown, hts⟩ (c_M_note l D cI cJ cZ cP cS po mv mb (mr) (5) (mm) (mq) fb (11) hy0 (by omega) H.size) (cwV 1 hts gX1_run_X1_note rfl rfl rfl ⟨rfl, dh_X1_note⟩ ⟨Nat.le_of_ble_eq_true rfl, Nat.le_of_ble_eq_true rfl⟩) hK hN (hZ.kept hS) hP hD hS hA [0, 1] [] rfl rfl (by decide) (by decide) (by decide) (va_recv (q := (RX1, TX1, 5)) hK hP (ci := 1) (q0 := 0) rfl rfl) rfl hl.1 rfl (Nat.le_of_ble_eq_true rfl) dX1_run_25 ⟨Nat.le_of_ble_eq_true rfl, Nat.le_of_ble_eq_true rfl⟩ (fun u_5 H locs hr_4 hP hD hS => ?_)
      obtain ⟨q_6, q_7⟩ := u_5
      try dsimp only at hr_4
      obtain ⟨hbq_6, hr_4⟩ := hr_4
      have h9R := zRe (ws' := [(mv, .inr (1, [.ref mb, .int q_6, .int 5, .int mm, .int mq])), (mb, .inl (cI, 20, .inl q_7))]) hP hD rfl
      clear hP hD
      obtain ⟨hP, hD⟩ := h9R
      refine lv_iload hx hb dX1_run_28 (lv_at hl 5 rfl) ?_
      refine lv_iconst (v := 1) hx hb dX1_run_30 (by decide) ?_
      refine lv_iadd hx hb dX1_run_31 ?_
      refine lv_topi (fun y_8 ey_8 => ?_)
      obtain rfl : y_8 = 2 := ey_8.trans (by decide)
      refine lv_istore (lv' := [(6, .int 2), (5, .int 11), (0, .ref mv), (1, .int 0), (2, .int 1), (3, .int x), (4, .int 1)]) hx hb dX1_run_32 hl (by decide) rfl (fun ls hl => ?_)
      refine lv_iload hx hb dX1_run_34 (lv_at hl 1 rfl) ?_
      refine lv_lookup (off := 99) (tgt := 135) hx hb dX1_run_36 (by decide) (by decide) (by decide) ?_
      refine lv_aload_n hx hb dX1_run_135 rfl (lv_at hl 2 rfl) ?_
      refine lv_aload_n hx hb dX1_run_136 rfl (lv_at hl 2 rfl) ?_
      refine va_get (D := D) (ci := 1) (v := .int 5) (C := RX1) (T := TX1) (N := 5) hx hb hts hi_X1_run_1 hown hK hP 0 rfl rfl 2 (by decide) (hts (.fieldLink RX1 19 "TheLiningsInIt$Moves" "kind" "I") (List.mem_of_getElem? (i := 2) rfl)) (fun _ h9 => h9) rfl dX1_run_137 ?_
      refine lv_iconst (v := 0) hx hb dX1_run_140 (by decide) ?_
      refine lv_iload_n hx hb dX1_run_141 rfl (lv_at hl 5 rfl) ?_
      refine lv_iload hx hb dX1_run_142 (lv_at hl 0 rfl) ?_
      skip
      refine zw_V (As := [.int 5, .int 0, .int x, .int 2]) (rest := []) (wr := []) ⟨hx, hb, hml, hown, hts⟩ (c_M_run_5_5_0_2 l D cI cJ cZ cP cS po mv mb (q_6) (mm) (mq) q_7 (x) (by omega) (by omega) H.size) (cwV 4 hts gX1_run_X1_run rfl rfl rfl ⟨rfl, dh_X1_run⟩ ⟨Nat.le_of_ble_eq_true rfl, Nat.le_of_ble_eq_true rfl⟩) hK hN (hZ.kept hS) hP hD hS hA [0, 1] [] rfl rfl (by decide) (by decide) (by decide) (va_recv (q := (RX1, TX1, 5)) hK hP (ci := 1) (q0 := 0) rfl rfl) rfl hl.1 rfl (Nat.le_of_ble_eq_true rfl) dX1_run_144 ⟨Nat.le_of_ble_eq_true rfl, Nat.le_of_ble_eq_true rfl⟩ (fun r_9 u_10 H locs hr_9 hP hD hS => ?_)
      obtain ⟨q_11, q_12⟩ := u_10
      try dsimp only at hr_9
      obtain ⟨hbq_11, hr_9⟩ := hr_9
      have h9R := zRe (ws' := [(mv, .inr (1, [.ref mb, .int q_11, .int 5, .int mm, .int mq])), (mb, .inl (cI, 20, .inl q_12))]) hP hD rfl
      clear hP hD
      obtain ⟨hP, hD⟩ := h9R
      refine lv_iconst (v := 2) hx hb dX1_run_147 (by decide) ?_
      refine lv_imul hx hb dX1_run_148 ?_
      refine lv_topi (fun x_13 ex_13 => ?_)
      exact W.iret (v := x_13) hx hb hr (fun t ht hW => ⟨⟨x_13, (q_11, q_12), rfl, ⟨(show q_11.toInt = mr.toInt + 2 from by omega), trivial⟩, zRet ht hP hD [0, 1] (by decide) rfl⟩, hS.F ht⟩) hS.2.2 dX1_run_149
    · exact absurd c_3 (by decide)
set_option maxHeartbeats 4000000 in
set_option maxRecDepth 100000 in
theorem c_M_run_5_5_1_0 (l : Launch) (D : va_G) (cI cJ cZ cP cS : ClassId) (po : zPool) (mv mb : Nat) (mr mm mq : Int32) (fb : Nat → Int32) (x : Int32) (hy0 : 0 ≤ mr.toInt) (hy1 : mr.toInt ≤ 1000) (hpz : Nat) : Met l yX1_run wsX1_run ({ frames := 4, cells := 0, slots := 0, locals := 98 }) (va_Pc [.ref mv, .int 5, .int 1, .int x, .int 0] (zW D (zKT cI cJ cZ cP cS) po [(mv, .inr (1, [.ref mb, .int mr, .int 5, .int mm, .int mq])), (mb, .inl (cI, 20, .inl fb))] hpz)) (va_Qi (fun (r : Int32) (u : (Int32) × (Nat → Int32)) => u.1.toInt = mr.toInt + 3 ∧ (True)) (zB D [(mv, .inr (1, [.ref mb, .int mr, .int 5, .int mm, .int mq])), (mb, .inl (cI, 20, .inl fb))] hpz (fun (u : (Int32) × (Nat → Int32)) => [(mv, .inr (1, [.ref mb, .int u.1, .int 5, .int mm, .int mq])), (mb, .inl (cI, 20, .inl u.2))])) (va_A [(mv, .inr (1, [.ref mb, .int mr, .int 5, .int mm, .int mq])), (mb, .inl (cI, 20, .inl fb))] hpz)) 0 0 (va_A [(mv, .inr (1, [.ref mb, .int mr, .int 5, .int mm, .int mq])), (mb, .inl (cI, 20, .inl fb))] hpz) := by
  refine Met.ofW (cc := cX1_run) (maxL := 7) (ret := (some .int)) (by decide) rfl ?_
  intro p e s m args below meth c s₁ B hml hv
  obtain ⟨rfl, hsz, hP, hK, hD0, hN, hZ⟩ := hv
  have hx := B.exec
  have hb := B.bytes
  have hr := B.returns
  have hts := atoms_spec (ws := wsX1_run) B.pre
  have hown : s.vm.findClass RX1 = some m.cls := findClass_of_methodNamed B.named
  have hlocks := B.notSynchronized
  subst hsz
  have hD := hD0.self (sz := s.heap.size)
  have hA := zA_of hD
  have hl := lv_entry ([.ref mv, .int 5, .int 1, .int x, .int 0]) (n := 7) (Nat.le_of_ble_eq_true rfl)
  rw [lg_entry_eq]
  generalize (lg_sl ([.ref mv, .int 5, .int 1, .int x, .int 0]) ++ List.replicate (7 - (lg_sl ([.ref mv, .int 5, .int 1, .int x, .int 0])).length) Slot.unset).toArray = ls at hl ⊢
  replace hl : lv_has ls 7 [(0, .ref mv), (1, .int 5), (2, .int 1), (3, .int x), (4, .int 0)] := hl
  refine zw_begin hP hD (fun H locs hP1 hS => ?_)
  clear hP
  have hP := hP1
  clear hP1
  refine lv_iload_n hx hb dX1_run_0 rfl (lv_at hl 1 rfl) ?_
  refine lv_iload_n hx hb dX1_run_1 rfl (lv_at hl 2 rfl) ?_
  refine zc_S (As := [.int 5, .int 1]) (rest := []) ⟨hx, hb, hml, hown, hts⟩ (c_M_bodyFor_5_1 l D cI cJ cZ cP cS po  ) (va_cwS 2 hts gX1_run_X1_bodyFor rfl rfl rfl dh_X1_bodyFor ⟨Nat.le_of_ble_eq_true rfl, Nat.le_of_ble_eq_true rfl⟩) hK hN (hZ.kept hS) rfl hl.1 rfl (Nat.le_of_ble_eq_true rfl) dX1_run_2 ⟨Nat.le_of_ble_eq_true rfl, Nat.le_of_ble_eq_true rfl⟩ (fun r_1 hr_1 => ?_)
  obtain rfl := hr_1
  refine lv_istore (lv' := [(5, .int 30), (0, .ref mv), (1, .int 5), (2, .int 1), (3, .int x), (4, .int 0)]) hx hb dX1_run_5 hl (by decide) rfl (fun ls hl => ?_)
  refine lv_iload hx hb dX1_run_7 (lv_at hl 0 rfl) ?_
  refine lv_iconst (v := (-1)) hx hb dX1_run_9 (by decide) ?_
  refine lv_icmp_eq (tgt := 20) hx hb dX1_run_10 (by decide) (fun c_2 => ?_) (fun c_2 => ?_)
  · exact absurd c_2 (by decide)
  · refine lv_iload hx hb dX1_run_13 (lv_at hl 5 rfl) ?_
    refine lv_bipush (v := 40) hx hb dX1_run_15 (by decide) ?_
    refine lv_icmp_lt (tgt := 22) hx hb dX1_run_17 (by decide) (fun c_3 => ?_) (fun c_3 => ?_)
    · refine lv_aload_n hx hb dX1_run_22 rfl (lv_at hl 1 rfl) ?_
      refine lv_iload hx hb dX1_run_23 (lv_at hl 0 rfl) ?_
      skip
      refine zw_Vv (As := [.int 30]) (rest := []) (wr := []) ⟨hx, hb, hml, hown, hts⟩ (c_M_note l D cI cJ cZ cP cS po mv mb (mr) (5) (mm) (mq) fb (30) hy0 (by omega) H.size) (cwV 1 hts gX1_run_X1_note rfl rfl rfl ⟨rfl, dh_X1_note⟩ ⟨Nat.le_of_ble_eq_true rfl, Nat.le_of_ble_eq_true rfl⟩) hK hN (hZ.kept hS) hP hD hS hA [0, 1] [] rfl rfl (by decide) (by decide) (by decide) (va_recv (q := (RX1, TX1, 5)) hK hP (ci := 1) (q0 := 0) rfl rfl) rfl hl.1 rfl (Nat.le_of_ble_eq_true rfl) dX1_run_25 ⟨Nat.le_of_ble_eq_true rfl, Nat.le_of_ble_eq_true rfl⟩ (fun u_5 H locs hr_4 hP hD hS => ?_)
      obtain ⟨q_6, q_7⟩ := u_5
      try dsimp only at hr_4
      obtain ⟨hbq_6, hr_4⟩ := hr_4
      have h9R := zRe (ws' := [(mv, .inr (1, [.ref mb, .int q_6, .int 5, .int mm, .int mq])), (mb, .inl (cI, 20, .inl q_7))]) hP hD rfl
      clear hP hD
      obtain ⟨hP, hD⟩ := h9R
      refine lv_iload hx hb dX1_run_28 (lv_at hl 5 rfl) ?_
      refine lv_iconst (v := 1) hx hb dX1_run_30 (by decide) ?_
      refine lv_iadd hx hb dX1_run_31 ?_
      refine lv_topi (fun y_8 ey_8 => ?_)
      obtain rfl : y_8 = 1 := ey_8.trans (by decide)
      refine lv_istore (lv' := [(6, .int 1), (5, .int 30), (0, .ref mv), (1, .int 5), (2, .int 1), (3, .int x), (4, .int 0)]) hx hb dX1_run_32 hl (by decide) rfl (fun ls hl => ?_)
      refine lv_iload hx hb dX1_run_34 (lv_at hl 1 rfl) ?_
      refine lv_lookup (off := 160) (tgt := 196) hx hb dX1_run_36 (by decide) (by decide) (by decide) ?_
      refine lv_aload_n hx hb dX1_run_196 rfl (lv_at hl 2 rfl) ?_
      refine lv_iconst (v := 0) hx hb dX1_run_197 (by decide) ?_
      refine lv_iconst (v := 1) hx hb dX1_run_198 (by decide) ?_
      refine lv_iload_n hx hb dX1_run_199 rfl (lv_at hl 5 rfl) ?_
      refine lv_iload hx hb dX1_run_200 (lv_at hl 0 rfl) ?_
      skip
      refine zw_V (As := [.int 0, .int 1, .int x, .int 1]) (rest := []) (wr := []) ⟨hx, hb, hml, hown, hts⟩ (c_M_run_5_0_1_1 l D cI cJ cZ cP cS po mv mb (q_6) (mm) (mq) q_7 (x) (by omega) (by omega) H.size) (cwV 4 hts gX1_run_X1_run rfl rfl rfl ⟨rfl, dh_X1_run⟩ ⟨Nat.le_of_ble_eq_true rfl, Nat.le_of_ble_eq_true rfl⟩) hK hN (hZ.kept hS) hP hD hS hA [0, 1] [] rfl rfl (by decide) (by decide) (by decide) (va_recv (q := (RX1, TX1, 5)) hK hP (ci := 1) (q0 := 0) rfl rfl) rfl hl.1 rfl (Nat.le_of_ble_eq_true rfl) dX1_run_202 ⟨Nat.le_of_ble_eq_true rfl, Nat.le_of_ble_eq_true rfl⟩ (fun r_9 u_10 H locs hr_9 hP hD hS => ?_)
      obtain ⟨q_11, q_12⟩ := u_10
      try dsimp only at hr_9
      obtain ⟨hbq_11, hr_9⟩ := hr_9
      have h9R := zRe (ws' := [(mv, .inr (1, [.ref mb, .int q_11, .int 5, .int mm, .int mq])), (mb, .inl (cI, 20, .inl q_12))]) hP hD rfl
      clear hP hD
      obtain ⟨hP, hD⟩ := h9R
      refine lv_iconst (v := 3) hx hb dX1_run_205 (by decide) ?_
      refine lv_imul hx hb dX1_run_206 ?_
      refine lv_topi (fun x_13 ex_13 => ?_)
      exact W.iret (v := x_13) hx hb hr (fun t ht hW => ⟨⟨x_13, (q_11, q_12), rfl, ⟨(show q_11.toInt = mr.toInt + 3 from by omega), trivial⟩, zRet ht hP hD [0, 1] (by decide) rfl⟩, hS.F ht⟩) hS.2.2 dX1_run_207
    · exact absurd c_3 (by decide)
set_option maxHeartbeats 4000000 in
set_option maxRecDepth 100000 in
theorem c_M_run_5_5_0_4 (l : Launch) (D : va_G) (cI cJ cZ cP cS : ClassId) (po : zPool) (mv mb : Nat) (mr mm mq : Int32) (fb : Nat → Int32) (x : Int32) (hy0 : 0 ≤ mr.toInt) (hy1 : mr.toInt ≤ 1400) (hpz : Nat) : Met l yX1_run wsX1_run ({ frames := 2, cells := 0, slots := 0, locals := 46 }) (va_Pc [.ref mv, .int 5, .int 0, .int x, .int 4] (zW D (zKT cI cJ cZ cP cS) po [(mv, .inr (1, [.ref mb, .int mr, .int 5, .int mm, .int mq])), (mb, .inl (cI, 20, .inl fb))] hpz)) (va_Qi (fun (r : Int32) (u : (Int32) × (Nat → Int32)) => u.1.toInt = mr.toInt + 1 ∧ (True)) (zB D [(mv, .inr (1, [.ref mb, .int mr, .int 5, .int mm, .int mq])), (mb, .inl (cI, 20, .inl fb))] hpz (fun (u : (Int32) × (Nat → Int32)) => [(mv, .inr (1, [.ref mb, .int u.1, .int 5, .int mm, .int mq])), (mb, .inl (cI, 20, .inl u.2))])) (va_A [(mv, .inr (1, [.ref mb, .int mr, .int 5, .int mm, .int mq])), (mb, .inl (cI, 20, .inl fb))] hpz)) 0 0 (va_A [(mv, .inr (1, [.ref mb, .int mr, .int 5, .int mm, .int mq])), (mb, .inl (cI, 20, .inl fb))] hpz) := by
  refine Met.ofW (cc := cX1_run) (maxL := 7) (ret := (some .int)) (by decide) rfl ?_
  intro p e s m args below meth c s₁ B hml hv
  obtain ⟨rfl, hsz, hP, hK, hD0, hN, hZ⟩ := hv
  have hx := B.exec
  have hb := B.bytes
  have hr := B.returns
  have hts := atoms_spec (ws := wsX1_run) B.pre
  have hown : s.vm.findClass RX1 = some m.cls := findClass_of_methodNamed B.named
  have hlocks := B.notSynchronized
  subst hsz
  have hD := hD0.self (sz := s.heap.size)
  have hA := zA_of hD
  have hl := lv_entry ([.ref mv, .int 5, .int 0, .int x, .int 4]) (n := 7) (Nat.le_of_ble_eq_true rfl)
  rw [lg_entry_eq]
  generalize (lg_sl ([.ref mv, .int 5, .int 0, .int x, .int 4]) ++ List.replicate (7 - (lg_sl ([.ref mv, .int 5, .int 0, .int x, .int 4])).length) Slot.unset).toArray = ls at hl ⊢
  replace hl : lv_has ls 7 [(0, .ref mv), (1, .int 5), (2, .int 0), (3, .int x), (4, .int 4)] := hl
  refine zw_begin hP hD (fun H locs hP1 hS => ?_)
  clear hP
  have hP := hP1
  clear hP1
  refine lv_iload_n hx hb dX1_run_0 rfl (lv_at hl 1 rfl) ?_
  refine lv_iload_n hx hb dX1_run_1 rfl (lv_at hl 2 rfl) ?_
  refine zc_S (As := [.int 5, .int 0]) (rest := []) ⟨hx, hb, hml, hown, hts⟩ (c_M_bodyFor_5_0 l D cI cJ cZ cP cS po  ) (va_cwS 2 hts gX1_run_X1_bodyFor rfl rfl rfl dh_X1_bodyFor ⟨Nat.le_of_ble_eq_true rfl, Nat.le_of_ble_eq_true rfl⟩) hK hN (hZ.kept hS) rfl hl.1 rfl (Nat.le_of_ble_eq_true rfl) dX1_run_2 ⟨Nat.le_of_ble_eq_true rfl, Nat.le_of_ble_eq_true rfl⟩ (fun r_1 hr_1 => ?_)
  obtain rfl := hr_1
  refine lv_istore (lv' := [(5, .int 10), (0, .ref mv), (1, .int 5), (2, .int 0), (3, .int x), (4, .int 4)]) hx hb dX1_run_5 hl (by decide) rfl (fun ls hl => ?_)
  refine lv_iload hx hb dX1_run_7 (lv_at hl 0 rfl) ?_
  refine lv_iconst (v := (-1)) hx hb dX1_run_9 (by decide) ?_
  refine lv_icmp_eq (tgt := 20) hx hb dX1_run_10 (by decide) (fun c_2 => ?_) (fun c_2 => ?_)
  · exact absurd c_2 (by decide)
  · refine lv_iload hx hb dX1_run_13 (lv_at hl 5 rfl) ?_
    refine lv_bipush (v := 40) hx hb dX1_run_15 (by decide) ?_
    refine lv_icmp_lt (tgt := 22) hx hb dX1_run_17 (by decide) (fun c_3 => ?_) (fun c_3 => ?_)
    · refine lv_aload_n hx hb dX1_run_22 rfl (lv_at hl 1 rfl) ?_
      refine lv_iload hx hb dX1_run_23 (lv_at hl 0 rfl) ?_
      skip
      refine zw_Vv (As := [.int 10]) (rest := []) (wr := []) ⟨hx, hb, hml, hown, hts⟩ (c_M_note l D cI cJ cZ cP cS po mv mb (mr) (5) (mm) (mq) fb (10) hy0 (by omega) H.size) (cwV 1 hts gX1_run_X1_note rfl rfl rfl ⟨rfl, dh_X1_note⟩ ⟨Nat.le_of_ble_eq_true rfl, Nat.le_of_ble_eq_true rfl⟩) hK hN (hZ.kept hS) hP hD hS hA [0, 1] [] rfl rfl (by decide) (by decide) (by decide) (va_recv (q := (RX1, TX1, 5)) hK hP (ci := 1) (q0 := 0) rfl rfl) rfl hl.1 rfl (Nat.le_of_ble_eq_true rfl) dX1_run_25 ⟨Nat.le_of_ble_eq_true rfl, Nat.le_of_ble_eq_true rfl⟩ (fun u_5 H locs hr_4 hP hD hS => ?_)
      obtain ⟨q_6, q_7⟩ := u_5
      try dsimp only at hr_4
      obtain ⟨hbq_6, hr_4⟩ := hr_4
      have h9R := zRe (ws' := [(mv, .inr (1, [.ref mb, .int q_6, .int 5, .int mm, .int mq])), (mb, .inl (cI, 20, .inl q_7))]) hP hD rfl
      clear hP hD
      obtain ⟨hP, hD⟩ := h9R
      refine lv_iload hx hb dX1_run_28 (lv_at hl 5 rfl) ?_
      refine lv_iconst (v := 1) hx hb dX1_run_30 (by decide) ?_
      refine lv_iadd hx hb dX1_run_31 ?_
      refine lv_topi (fun y_8 ey_8 => ?_)
      obtain rfl : y_8 = 5 := ey_8.trans (by decide)
      refine lv_istore (lv' := [(6, .int 5), (5, .int 10), (0, .ref mv), (1, .int 5), (2, .int 0), (3, .int x), (4, .int 4)]) hx hb dX1_run_32 hl (by decide) rfl (fun ls hl => ?_)
      refine lv_iload hx hb dX1_run_34 (lv_at hl 1 rfl) ?_
      refine lv_lookup (off := 92) (tgt := 128) hx hb dX1_run_36 (by decide) (by decide) (by decide) ?_
      refine lv_iload_n hx hb dX1_run_128 rfl (lv_at hl 5 rfl) ?_
      refine lv_aload_n hx hb dX1_run_129 rfl (lv_at hl 2 rfl) ?_
      refine va_get (D := D) (ci := 1) (v := .int mm) (C := RX1) (T := TX1) (N := 5) hx hb hts hi_X1_run_1 hown hK hP 0 rfl rfl 3 (by decide) (hts (.fieldLink RX1 22 "TheLiningsInIt$Moves" "m" "I") (List.mem_of_getElem? (i := 1) rfl)) (fun _ h9 => h9) rfl dX1_run_130 ?_
      refine lv_iadd hx hb dX1_run_133 ?_
      refine lv_topi (fun x_9 ex_9 => ?_)
      exact W.iret (v := x_9) hx hb hr (fun t ht hW => ⟨⟨x_9, (q_6, q_7), rfl, ⟨(show q_6.toInt = mr.toInt + 1 from by omega), trivial⟩, zRet ht hP hD [0, 1] (by decide) rfl⟩, hS.F ht⟩) hS.2.2 dX1_run_134
    · exact absurd c_3 (by decide)
set_option maxHeartbeats 4000000 in
set_option maxRecDepth 100000 in
theorem c_M_run_5_0_1_3 (l : Launch) (D : va_G) (cI cJ cZ cP cS : ClassId) (po : zPool) (mv mb : Nat) (mr mm mq : Int32) (fb : Nat → Int32) (x : Int32) (hy0 : 0 ≤ mr.toInt) (hy1 : mr.toInt ≤ 1300) (hpz : Nat) : Met l yX1_run wsX1_run ({ frames := 3, cells := 0, slots := 0, locals := 72 }) (va_Pc [.ref mv, .int 0, .int 1, .int x, .int 3] (zW D (zKT cI cJ cZ cP cS) po [(mv, .inr (1, [.ref mb, .int mr, .int 5, .int mm, .int mq])), (mb, .inl (cI, 20, .inl fb))] hpz)) (va_Qi (fun (r : Int32) (u : (Int32) × (Nat → Int32)) => u.1.toInt = mr.toInt + 2 ∧ (True)) (zB D [(mv, .inr (1, [.ref mb, .int mr, .int 5, .int mm, .int mq])), (mb, .inl (cI, 20, .inl fb))] hpz (fun (u : (Int32) × (Nat → Int32)) => [(mv, .inr (1, [.ref mb, .int u.1, .int 5, .int mm, .int mq])), (mb, .inl (cI, 20, .inl u.2))])) (va_A [(mv, .inr (1, [.ref mb, .int mr, .int 5, .int mm, .int mq])), (mb, .inl (cI, 20, .inl fb))] hpz)) 0 0 (va_A [(mv, .inr (1, [.ref mb, .int mr, .int 5, .int mm, .int mq])), (mb, .inl (cI, 20, .inl fb))] hpz) := by
  refine Met.ofW (cc := cX1_run) (maxL := 7) (ret := (some .int)) (by decide) rfl ?_
  intro p e s m args below meth c s₁ B hml hv
  obtain ⟨rfl, hsz, hP, hK, hD0, hN, hZ⟩ := hv
  have hx := B.exec
  have hb := B.bytes
  have hr := B.returns
  have hts := atoms_spec (ws := wsX1_run) B.pre
  have hown : s.vm.findClass RX1 = some m.cls := findClass_of_methodNamed B.named
  have hlocks := B.notSynchronized
  subst hsz
  have hD := hD0.self (sz := s.heap.size)
  have hA := zA_of hD
  have hl := lv_entry ([.ref mv, .int 0, .int 1, .int x, .int 3]) (n := 7) (Nat.le_of_ble_eq_true rfl)
  rw [lg_entry_eq]
  generalize (lg_sl ([.ref mv, .int 0, .int 1, .int x, .int 3]) ++ List.replicate (7 - (lg_sl ([.ref mv, .int 0, .int 1, .int x, .int 3])).length) Slot.unset).toArray = ls at hl ⊢
  replace hl : lv_has ls 7 [(0, .ref mv), (1, .int 0), (2, .int 1), (3, .int x), (4, .int 3)] := hl
  refine zw_begin hP hD (fun H locs hP1 hS => ?_)
  clear hP
  have hP := hP1
  clear hP1
  refine lv_iload_n hx hb dX1_run_0 rfl (lv_at hl 1 rfl) ?_
  refine lv_iload_n hx hb dX1_run_1 rfl (lv_at hl 2 rfl) ?_
  refine zc_S (As := [.int 0, .int 1]) (rest := []) ⟨hx, hb, hml, hown, hts⟩ (c_M_bodyFor_0_1 l D cI cJ cZ cP cS po  ) (va_cwS 2 hts gX1_run_X1_bodyFor rfl rfl rfl dh_X1_bodyFor ⟨Nat.le_of_ble_eq_true rfl, Nat.le_of_ble_eq_true rfl⟩) hK hN (hZ.kept hS) rfl hl.1 rfl (Nat.le_of_ble_eq_true rfl) dX1_run_2 ⟨Nat.le_of_ble_eq_true rfl, Nat.le_of_ble_eq_true rfl⟩ (fun r_1 hr_1 => ?_)
  obtain rfl := hr_1
  refine lv_istore (lv' := [(5, .int 11), (0, .ref mv), (1, .int 0), (2, .int 1), (3, .int x), (4, .int 3)]) hx hb dX1_run_5 hl (by decide) rfl (fun ls hl => ?_)
  refine lv_iload hx hb dX1_run_7 (lv_at hl 0 rfl) ?_
  refine lv_iconst (v := (-1)) hx hb dX1_run_9 (by decide) ?_
  refine lv_icmp_eq (tgt := 20) hx hb dX1_run_10 (by decide) (fun c_2 => ?_) (fun c_2 => ?_)
  · exact absurd c_2 (by decide)
  · refine lv_iload hx hb dX1_run_13 (lv_at hl 5 rfl) ?_
    refine lv_bipush (v := 40) hx hb dX1_run_15 (by decide) ?_
    refine lv_icmp_lt (tgt := 22) hx hb dX1_run_17 (by decide) (fun c_3 => ?_) (fun c_3 => ?_)
    · refine lv_aload_n hx hb dX1_run_22 rfl (lv_at hl 1 rfl) ?_
      refine lv_iload hx hb dX1_run_23 (lv_at hl 0 rfl) ?_
      skip
      refine zw_Vv (As := [.int 11]) (rest := []) (wr := []) ⟨hx, hb, hml, hown, hts⟩ (c_M_note l D cI cJ cZ cP cS po mv mb (mr) (5) (mm) (mq) fb (11) hy0 (by omega) H.size) (cwV 1 hts gX1_run_X1_note rfl rfl rfl ⟨rfl, dh_X1_note⟩ ⟨Nat.le_of_ble_eq_true rfl, Nat.le_of_ble_eq_true rfl⟩) hK hN (hZ.kept hS) hP hD hS hA [0, 1] [] rfl rfl (by decide) (by decide) (by decide) (va_recv (q := (RX1, TX1, 5)) hK hP (ci := 1) (q0 := 0) rfl rfl) rfl hl.1 rfl (Nat.le_of_ble_eq_true rfl) dX1_run_25 ⟨Nat.le_of_ble_eq_true rfl, Nat.le_of_ble_eq_true rfl⟩ (fun u_5 H locs hr_4 hP hD hS => ?_)
      obtain ⟨q_6, q_7⟩ := u_5
      try dsimp only at hr_4
      obtain ⟨hbq_6, hr_4⟩ := hr_4
      have h9R := zRe (ws' := [(mv, .inr (1, [.ref mb, .int q_6, .int 5, .int mm, .int mq])), (mb, .inl (cI, 20, .inl q_7))]) hP hD rfl
      clear hP hD
      obtain ⟨hP, hD⟩ := h9R
      refine lv_iload hx hb dX1_run_28 (lv_at hl 5 rfl) ?_
      refine lv_iconst (v := 1) hx hb dX1_run_30 (by decide) ?_
      refine lv_iadd hx hb dX1_run_31 ?_
      refine lv_topi (fun y_8 ey_8 => ?_)
      obtain rfl : y_8 = 4 := ey_8.trans (by decide)
      refine lv_istore (lv' := [(6, .int 4), (5, .int 11), (0, .ref mv), (1, .int 0), (2, .int 1), (3, .int x), (4, .int 3)]) hx hb dX1_run_32 hl (by decide) rfl (fun ls hl => ?_)
      refine lv_iload hx hb dX1_run_34 (lv_at hl 1 rfl) ?_
      refine lv_lookup (off := 99) (tgt := 135) hx hb dX1_run_36 (by decide) (by decide) (by decide) ?_
      refine lv_aload_n hx hb dX1_run_135 rfl (lv_at hl 2 rfl) ?_
      refine lv_aload_n hx hb dX1_run_136 rfl (lv_at hl 2 rfl) ?_
      refine va_get (D := D) (ci := 1) (v := .int 5) (C := RX1) (T := TX1) (N := 5) hx hb hts hi_X1_run_1 hown hK hP 0 rfl rfl 2 (by decide) (hts (.fieldLink RX1 19 "TheLiningsInIt$Moves" "kind" "I") (List.mem_of_getElem? (i := 2) rfl)) (fun _ h9 => h9) rfl dX1_run_137 ?_
      refine lv_iconst (v := 0) hx hb dX1_run_140 (by decide) ?_
      refine lv_iload_n hx hb dX1_run_141 rfl (lv_at hl 5 rfl) ?_
      refine lv_iload hx hb dX1_run_142 (lv_at hl 0 rfl) ?_
      skip
      refine zw_V (As := [.int 5, .int 0, .int x, .int 4]) (rest := []) (wr := []) ⟨hx, hb, hml, hown, hts⟩ (c_M_run_5_5_0_4 l D cI cJ cZ cP cS po mv mb (q_6) (mm) (mq) q_7 (x) (by omega) (by omega) H.size) (cwV 4 hts gX1_run_X1_run rfl rfl rfl ⟨rfl, dh_X1_run⟩ ⟨Nat.le_of_ble_eq_true rfl, Nat.le_of_ble_eq_true rfl⟩) hK hN (hZ.kept hS) hP hD hS hA [0, 1] [] rfl rfl (by decide) (by decide) (by decide) (va_recv (q := (RX1, TX1, 5)) hK hP (ci := 1) (q0 := 0) rfl rfl) rfl hl.1 rfl (Nat.le_of_ble_eq_true rfl) dX1_run_144 ⟨Nat.le_of_ble_eq_true rfl, Nat.le_of_ble_eq_true rfl⟩ (fun r_9 u_10 H locs hr_9 hP hD hS => ?_)
      obtain ⟨q_11, q_12⟩ := u_10
      try dsimp only at hr_9
      obtain ⟨hbq_11, hr_9⟩ := hr_9
      have h9R := zRe (ws' := [(mv, .inr (1, [.ref mb, .int q_11, .int 5, .int mm, .int mq])), (mb, .inl (cI, 20, .inl q_12))]) hP hD rfl
      clear hP hD
      obtain ⟨hP, hD⟩ := h9R
      refine lv_iconst (v := 2) hx hb dX1_run_147 (by decide) ?_
      refine lv_imul hx hb dX1_run_148 ?_
      refine lv_topi (fun x_13 ex_13 => ?_)
      exact W.iret (v := x_13) hx hb hr (fun t ht hW => ⟨⟨x_13, (q_11, q_12), rfl, ⟨(show q_11.toInt = mr.toInt + 2 from by omega), trivial⟩, zRet ht hP hD [0, 1] (by decide) rfl⟩, hS.F ht⟩) hS.2.2 dX1_run_149
    · exact absurd c_3 (by decide)
set_option maxHeartbeats 4000000 in
set_option maxRecDepth 100000 in
theorem c_M_run_5_5_1_2 (l : Launch) (D : va_G) (cI cJ cZ cP cS : ClassId) (po : zPool) (mv mb : Nat) (mr mm mq : Int32) (fb : Nat → Int32) (x : Int32) (hy0 : 0 ≤ mr.toInt) (hy1 : mr.toInt ≤ 1200) (hpz : Nat) : Met l yX1_run wsX1_run ({ frames := 4, cells := 0, slots := 0, locals := 98 }) (va_Pc [.ref mv, .int 5, .int 1, .int x, .int 2] (zW D (zKT cI cJ cZ cP cS) po [(mv, .inr (1, [.ref mb, .int mr, .int 5, .int mm, .int mq])), (mb, .inl (cI, 20, .inl fb))] hpz)) (va_Qi (fun (r : Int32) (u : (Int32) × (Nat → Int32)) => u.1.toInt = mr.toInt + 3 ∧ (True)) (zB D [(mv, .inr (1, [.ref mb, .int mr, .int 5, .int mm, .int mq])), (mb, .inl (cI, 20, .inl fb))] hpz (fun (u : (Int32) × (Nat → Int32)) => [(mv, .inr (1, [.ref mb, .int u.1, .int 5, .int mm, .int mq])), (mb, .inl (cI, 20, .inl u.2))])) (va_A [(mv, .inr (1, [.ref mb, .int mr, .int 5, .int mm, .int mq])), (mb, .inl (cI, 20, .inl fb))] hpz)) 0 0 (va_A [(mv, .inr (1, [.ref mb, .int mr, .int 5, .int mm, .int mq])), (mb, .inl (cI, 20, .inl fb))] hpz) := by
  refine Met.ofW (cc := cX1_run) (maxL := 7) (ret := (some .int)) (by decide) rfl ?_
  intro p e s m args below meth c s₁ B hml hv
  obtain ⟨rfl, hsz, hP, hK, hD0, hN, hZ⟩ := hv
  have hx := B.exec
  have hb := B.bytes
  have hr := B.returns
  have hts := atoms_spec (ws := wsX1_run) B.pre
  have hown : s.vm.findClass RX1 = some m.cls := findClass_of_methodNamed B.named
  have hlocks := B.notSynchronized
  subst hsz
  have hD := hD0.self (sz := s.heap.size)
  have hA := zA_of hD
  have hl := lv_entry ([.ref mv, .int 5, .int 1, .int x, .int 2]) (n := 7) (Nat.le_of_ble_eq_true rfl)
  rw [lg_entry_eq]
  generalize (lg_sl ([.ref mv, .int 5, .int 1, .int x, .int 2]) ++ List.replicate (7 - (lg_sl ([.ref mv, .int 5, .int 1, .int x, .int 2])).length) Slot.unset).toArray = ls at hl ⊢
  replace hl : lv_has ls 7 [(0, .ref mv), (1, .int 5), (2, .int 1), (3, .int x), (4, .int 2)] := hl
  refine zw_begin hP hD (fun H locs hP1 hS => ?_)
  clear hP
  have hP := hP1
  clear hP1
  refine lv_iload_n hx hb dX1_run_0 rfl (lv_at hl 1 rfl) ?_
  refine lv_iload_n hx hb dX1_run_1 rfl (lv_at hl 2 rfl) ?_
  refine zc_S (As := [.int 5, .int 1]) (rest := []) ⟨hx, hb, hml, hown, hts⟩ (c_M_bodyFor_5_1 l D cI cJ cZ cP cS po  ) (va_cwS 2 hts gX1_run_X1_bodyFor rfl rfl rfl dh_X1_bodyFor ⟨Nat.le_of_ble_eq_true rfl, Nat.le_of_ble_eq_true rfl⟩) hK hN (hZ.kept hS) rfl hl.1 rfl (Nat.le_of_ble_eq_true rfl) dX1_run_2 ⟨Nat.le_of_ble_eq_true rfl, Nat.le_of_ble_eq_true rfl⟩ (fun r_1 hr_1 => ?_)
  obtain rfl := hr_1
  refine lv_istore (lv' := [(5, .int 30), (0, .ref mv), (1, .int 5), (2, .int 1), (3, .int x), (4, .int 2)]) hx hb dX1_run_5 hl (by decide) rfl (fun ls hl => ?_)
  refine lv_iload hx hb dX1_run_7 (lv_at hl 0 rfl) ?_
  refine lv_iconst (v := (-1)) hx hb dX1_run_9 (by decide) ?_
  refine lv_icmp_eq (tgt := 20) hx hb dX1_run_10 (by decide) (fun c_2 => ?_) (fun c_2 => ?_)
  · exact absurd c_2 (by decide)
  · refine lv_iload hx hb dX1_run_13 (lv_at hl 5 rfl) ?_
    refine lv_bipush (v := 40) hx hb dX1_run_15 (by decide) ?_
    refine lv_icmp_lt (tgt := 22) hx hb dX1_run_17 (by decide) (fun c_3 => ?_) (fun c_3 => ?_)
    · refine lv_aload_n hx hb dX1_run_22 rfl (lv_at hl 1 rfl) ?_
      refine lv_iload hx hb dX1_run_23 (lv_at hl 0 rfl) ?_
      skip
      refine zw_Vv (As := [.int 30]) (rest := []) (wr := []) ⟨hx, hb, hml, hown, hts⟩ (c_M_note l D cI cJ cZ cP cS po mv mb (mr) (5) (mm) (mq) fb (30) hy0 (by omega) H.size) (cwV 1 hts gX1_run_X1_note rfl rfl rfl ⟨rfl, dh_X1_note⟩ ⟨Nat.le_of_ble_eq_true rfl, Nat.le_of_ble_eq_true rfl⟩) hK hN (hZ.kept hS) hP hD hS hA [0, 1] [] rfl rfl (by decide) (by decide) (by decide) (va_recv (q := (RX1, TX1, 5)) hK hP (ci := 1) (q0 := 0) rfl rfl) rfl hl.1 rfl (Nat.le_of_ble_eq_true rfl) dX1_run_25 ⟨Nat.le_of_ble_eq_true rfl, Nat.le_of_ble_eq_true rfl⟩ (fun u_5 H locs hr_4 hP hD hS => ?_)
      obtain ⟨q_6, q_7⟩ := u_5
      try dsimp only at hr_4
      obtain ⟨hbq_6, hr_4⟩ := hr_4
      have h9R := zRe (ws' := [(mv, .inr (1, [.ref mb, .int q_6, .int 5, .int mm, .int mq])), (mb, .inl (cI, 20, .inl q_7))]) hP hD rfl
      clear hP hD
      obtain ⟨hP, hD⟩ := h9R
      refine lv_iload hx hb dX1_run_28 (lv_at hl 5 rfl) ?_
      refine lv_iconst (v := 1) hx hb dX1_run_30 (by decide) ?_
      refine lv_iadd hx hb dX1_run_31 ?_
      refine lv_topi (fun y_8 ey_8 => ?_)
      obtain rfl : y_8 = 3 := ey_8.trans (by decide)
      refine lv_istore (lv' := [(6, .int 3), (5, .int 30), (0, .ref mv), (1, .int 5), (2, .int 1), (3, .int x), (4, .int 2)]) hx hb dX1_run_32 hl (by decide) rfl (fun ls hl => ?_)
      refine lv_iload hx hb dX1_run_34 (lv_at hl 1 rfl) ?_
      refine lv_lookup (off := 160) (tgt := 196) hx hb dX1_run_36 (by decide) (by decide) (by decide) ?_
      refine lv_aload_n hx hb dX1_run_196 rfl (lv_at hl 2 rfl) ?_
      refine lv_iconst (v := 0) hx hb dX1_run_197 (by decide) ?_
      refine lv_iconst (v := 1) hx hb dX1_run_198 (by decide) ?_
      refine lv_iload_n hx hb dX1_run_199 rfl (lv_at hl 5 rfl) ?_
      refine lv_iload hx hb dX1_run_200 (lv_at hl 0 rfl) ?_
      skip
      refine zw_V (As := [.int 0, .int 1, .int x, .int 3]) (rest := []) (wr := []) ⟨hx, hb, hml, hown, hts⟩ (c_M_run_5_0_1_3 l D cI cJ cZ cP cS po mv mb (q_6) (mm) (mq) q_7 (x) (by omega) (by omega) H.size) (cwV 4 hts gX1_run_X1_run rfl rfl rfl ⟨rfl, dh_X1_run⟩ ⟨Nat.le_of_ble_eq_true rfl, Nat.le_of_ble_eq_true rfl⟩) hK hN (hZ.kept hS) hP hD hS hA [0, 1] [] rfl rfl (by decide) (by decide) (by decide) (va_recv (q := (RX1, TX1, 5)) hK hP (ci := 1) (q0 := 0) rfl rfl) rfl hl.1 rfl (Nat.le_of_ble_eq_true rfl) dX1_run_202 ⟨Nat.le_of_ble_eq_true rfl, Nat.le_of_ble_eq_true rfl⟩ (fun r_9 u_10 H locs hr_9 hP hD hS => ?_)
      obtain ⟨q_11, q_12⟩ := u_10
      try dsimp only at hr_9
      obtain ⟨hbq_11, hr_9⟩ := hr_9
      have h9R := zRe (ws' := [(mv, .inr (1, [.ref mb, .int q_11, .int 5, .int mm, .int mq])), (mb, .inl (cI, 20, .inl q_12))]) hP hD rfl
      clear hP hD
      obtain ⟨hP, hD⟩ := h9R
      refine lv_iconst (v := 3) hx hb dX1_run_205 (by decide) ?_
      refine lv_imul hx hb dX1_run_206 ?_
      refine lv_topi (fun x_13 ex_13 => ?_)
      exact W.iret (v := x_13) hx hb hr (fun t ht hW => ⟨⟨x_13, (q_11, q_12), rfl, ⟨(show q_11.toInt = mr.toInt + 3 from by omega), trivial⟩, zRet ht hP hD [0, 1] (by decide) rfl⟩, hS.F ht⟩) hS.2.2 dX1_run_207
    · exact absurd c_3 (by decide)
set_option maxHeartbeats 4000000 in
set_option maxRecDepth 100000 in
theorem c_M_run_5_2_2_1 (l : Launch) (D : va_G) (cI cJ cZ cP cS : ClassId) (po : zPool) (mv mb : Nat) (mr mm mq : Int32) (fb : Nat → Int32) (x : Int32) (hy0 : 0 ≤ mr.toInt) (hy1 : mr.toInt ≤ 1100) (hpz : Nat) : Met l yX1_run wsX1_run ({ frames := 5, cells := 0, slots := 0, locals := 124 }) (va_Pc [.ref mv, .int 2, .int 2, .int x, .int 1] (zW D (zKT cI cJ cZ cP cS) po [(mv, .inr (1, [.ref mb, .int mr, .int 5, .int mm, .int mq])), (mb, .inl (cI, 20, .inl fb))] hpz)) (va_Qi (fun (r : Int32) (u : (Int32) × (Nat → Int32)) => u.1.toInt = mr.toInt + 5 ∧ (True)) (zB D [(mv, .inr (1, [.ref mb, .int mr, .int 5, .int mm, .int mq])), (mb, .inl (cI, 20, .inl fb))] hpz (fun (u : (Int32) × (Nat → Int32)) => [(mv, .inr (1, [.ref mb, .int u.1, .int 5, .int mm, .int mq])), (mb, .inl (cI, 20, .inl u.2))])) (va_A [(mv, .inr (1, [.ref mb, .int mr, .int 5, .int mm, .int mq])), (mb, .inl (cI, 20, .inl fb))] hpz)) 0 0 (va_A [(mv, .inr (1, [.ref mb, .int mr, .int 5, .int mm, .int mq])), (mb, .inl (cI, 20, .inl fb))] hpz) := by
  refine Met.ofW (cc := cX1_run) (maxL := 7) (ret := (some .int)) (by decide) rfl ?_
  intro p e s m args below meth c s₁ B hml hv
  obtain ⟨rfl, hsz, hP, hK, hD0, hN, hZ⟩ := hv
  have hx := B.exec
  have hb := B.bytes
  have hr := B.returns
  have hts := atoms_spec (ws := wsX1_run) B.pre
  have hown : s.vm.findClass RX1 = some m.cls := findClass_of_methodNamed B.named
  have hlocks := B.notSynchronized
  subst hsz
  have hD := hD0.self (sz := s.heap.size)
  have hA := zA_of hD
  have hl := lv_entry ([.ref mv, .int 2, .int 2, .int x, .int 1]) (n := 7) (Nat.le_of_ble_eq_true rfl)
  rw [lg_entry_eq]
  generalize (lg_sl ([.ref mv, .int 2, .int 2, .int x, .int 1]) ++ List.replicate (7 - (lg_sl ([.ref mv, .int 2, .int 2, .int x, .int 1])).length) Slot.unset).toArray = ls at hl ⊢
  replace hl : lv_has ls 7 [(0, .ref mv), (1, .int 2), (2, .int 2), (3, .int x), (4, .int 1)] := hl
  refine zw_begin hP hD (fun H locs hP1 hS => ?_)
  clear hP
  have hP := hP1
  clear hP1
  refine lv_iload_n hx hb dX1_run_0 rfl (lv_at hl 1 rfl) ?_
  refine lv_iload_n hx hb dX1_run_1 rfl (lv_at hl 2 rfl) ?_
  refine zc_S (As := [.int 2, .int 2]) (rest := []) ⟨hx, hb, hml, hown, hts⟩ (c_M_bodyFor_2_2 l D cI cJ cZ cP cS po  ) (va_cwS 2 hts gX1_run_X1_bodyFor rfl rfl rfl dh_X1_bodyFor ⟨Nat.le_of_ble_eq_true rfl, Nat.le_of_ble_eq_true rfl⟩) hK hN (hZ.kept hS) rfl hl.1 rfl (Nat.le_of_ble_eq_true rfl) dX1_run_2 ⟨Nat.le_of_ble_eq_true rfl, Nat.le_of_ble_eq_true rfl⟩ (fun r_1 hr_1 => ?_)
  obtain rfl := hr_1
  refine lv_istore (lv' := [(5, .int 12), (0, .ref mv), (1, .int 2), (2, .int 2), (3, .int x), (4, .int 1)]) hx hb dX1_run_5 hl (by decide) rfl (fun ls hl => ?_)
  refine lv_iload hx hb dX1_run_7 (lv_at hl 0 rfl) ?_
  refine lv_iconst (v := (-1)) hx hb dX1_run_9 (by decide) ?_
  refine lv_icmp_eq (tgt := 20) hx hb dX1_run_10 (by decide) (fun c_2 => ?_) (fun c_2 => ?_)
  · exact absurd c_2 (by decide)
  · refine lv_iload hx hb dX1_run_13 (lv_at hl 5 rfl) ?_
    refine lv_bipush (v := 40) hx hb dX1_run_15 (by decide) ?_
    refine lv_icmp_lt (tgt := 22) hx hb dX1_run_17 (by decide) (fun c_3 => ?_) (fun c_3 => ?_)
    · refine lv_aload_n hx hb dX1_run_22 rfl (lv_at hl 1 rfl) ?_
      refine lv_iload hx hb dX1_run_23 (lv_at hl 0 rfl) ?_
      skip
      refine zw_Vv (As := [.int 12]) (rest := []) (wr := []) ⟨hx, hb, hml, hown, hts⟩ (c_M_note l D cI cJ cZ cP cS po mv mb (mr) (5) (mm) (mq) fb (12) hy0 (by omega) H.size) (cwV 1 hts gX1_run_X1_note rfl rfl rfl ⟨rfl, dh_X1_note⟩ ⟨Nat.le_of_ble_eq_true rfl, Nat.le_of_ble_eq_true rfl⟩) hK hN (hZ.kept hS) hP hD hS hA [0, 1] [] rfl rfl (by decide) (by decide) (by decide) (va_recv (q := (RX1, TX1, 5)) hK hP (ci := 1) (q0 := 0) rfl rfl) rfl hl.1 rfl (Nat.le_of_ble_eq_true rfl) dX1_run_25 ⟨Nat.le_of_ble_eq_true rfl, Nat.le_of_ble_eq_true rfl⟩ (fun u_5 H locs hr_4 hP hD hS => ?_)
      obtain ⟨q_6, q_7⟩ := u_5
      try dsimp only at hr_4
      obtain ⟨hbq_6, hr_4⟩ := hr_4
      have h9R := zRe (ws' := [(mv, .inr (1, [.ref mb, .int q_6, .int 5, .int mm, .int mq])), (mb, .inl (cI, 20, .inl q_7))]) hP hD rfl
      clear hP hD
      obtain ⟨hP, hD⟩ := h9R
      refine lv_iload hx hb dX1_run_28 (lv_at hl 5 rfl) ?_
      refine lv_iconst (v := 1) hx hb dX1_run_30 (by decide) ?_
      refine lv_iadd hx hb dX1_run_31 ?_
      refine lv_topi (fun y_8 ey_8 => ?_)
      obtain rfl : y_8 = 2 := ey_8.trans (by decide)
      refine lv_istore (lv' := [(6, .int 2), (5, .int 12), (0, .ref mv), (1, .int 2), (2, .int 2), (3, .int x), (4, .int 1)]) hx hb dX1_run_32 hl (by decide) rfl (fun ls hl => ?_)
      refine lv_iload hx hb dX1_run_34 (lv_at hl 1 rfl) ?_
      refine lv_lookup (off := 114) (tgt := 150) hx hb dX1_run_36 (by decide) (by decide) (by decide) ?_
      refine lv_aload_n hx hb dX1_run_150 rfl (lv_at hl 2 rfl) ?_
      refine lv_aload_n hx hb dX1_run_151 rfl (lv_at hl 2 rfl) ?_
      refine va_get (D := D) (ci := 1) (v := .int 5) (C := RX1) (T := TX1) (N := 5) hx hb hts hi_X1_run_1 hown hK hP 0 rfl rfl 2 (by decide) (hts (.fieldLink RX1 19 "TheLiningsInIt$Moves" "kind" "I") (List.mem_of_getElem? (i := 2) rfl)) (fun _ h9 => h9) rfl dX1_run_152 ?_
      refine lv_iconst (v := 1) hx hb dX1_run_155 (by decide) ?_
      refine lv_iload_n hx hb dX1_run_156 rfl (lv_at hl 5 rfl) ?_
      refine lv_iload hx hb dX1_run_157 (lv_at hl 0 rfl) ?_
      skip
      refine zw_V (As := [.int 5, .int 1, .int x, .int 2]) (rest := []) (wr := []) ⟨hx, hb, hml, hown, hts⟩ (c_M_run_5_5_1_2 l D cI cJ cZ cP cS po mv mb (q_6) (mm) (mq) q_7 (x) (by omega) (by omega) H.size) (cwV 4 hts gX1_run_X1_run rfl rfl rfl ⟨rfl, dh_X1_run⟩ ⟨Nat.le_of_ble_eq_true rfl, Nat.le_of_ble_eq_true rfl⟩) hK hN (hZ.kept hS) hP hD hS hA [0, 1] [] rfl rfl (by decide) (by decide) (by decide) (va_recv (q := (RX1, TX1, 5)) hK hP (ci := 1) (q0 := 0) rfl rfl) rfl hl.1 rfl (Nat.le_of_ble_eq_true rfl) dX1_run_159 ⟨Nat.le_of_ble_eq_true rfl, Nat.le_of_ble_eq_true rfl⟩ (fun r_9 u_10 H locs hr_9 hP hD hS => ?_)
      obtain ⟨q_11, q_12⟩ := u_10
      try dsimp only at hr_9
      obtain ⟨hbq_11, hr_9⟩ := hr_9
      have h9R := zRe (ws' := [(mv, .inr (1, [.ref mb, .int q_11, .int 5, .int mm, .int mq])), (mb, .inl (cI, 20, .inl q_12))]) hP hD rfl
      clear hP hD
      obtain ⟨hP, hD⟩ := h9R
      refine lv_aload_n hx hb dX1_run_162 rfl (lv_at hl 2 rfl) ?_
      refine lv_aload_n hx hb dX1_run_163 rfl (lv_at hl 2 rfl) ?_
      refine va_get (D := D) (ci := 1) (v := .int 5) (C := RX1) (T := TX1) (N := 5) hx hb hts hi_X1_run_1 hown hK hP 0 rfl rfl 2 (by decide) (hts (.fieldLink RX1 19 "TheLiningsInIt$Moves" "kind" "I") (List.mem_of_getElem? (i := 2) rfl)) (fun _ h9 => h9) rfl dX1_run_164 ?_
      refine lv_iconst (v := 0) hx hb dX1_run_167 (by decide) ?_
      refine lv_iload_n hx hb dX1_run_168 rfl (lv_at hl 5 rfl) ?_
      refine lv_aload_n hx hb dX1_run_169 rfl (lv_at hl 2 rfl) ?_
      refine va_get (D := D) (ci := 1) (v := .int mq) (C := RX1) (T := TX1) (N := 5) hx hb hts hi_X1_run_1 hown hK hP 0 rfl rfl 4 (by decide) (hts (.fieldLink RX1 25 "TheLiningsInIt$Moves" "k" "I") (List.mem_of_getElem? (i := 3) rfl)) (fun _ h9 => h9) rfl dX1_run_170 ?_
      refine lv_isub hx hb dX1_run_173 ?_
      refine lv_topi (fun x_13 ex_13 => ?_)
      refine lv_iload hx hb dX1_run_174 (lv_at hl 0 rfl) ?_
      skip
      refine zw_V (As := [.int 5, .int 0, .int x_13, .int 2]) (rest := [.int r_9]) (wr := []) ⟨hx, hb, hml, hown, hts⟩ (c_M_run_5_5_0_2 l D cI cJ cZ cP cS po mv mb (q_11) (mm) (mq) q_12 (x_13) (by omega) (by omega) H.size) (cwV 4 hts gX1_run_X1_run rfl rfl rfl ⟨rfl, dh_X1_run⟩ ⟨Nat.le_of_ble_eq_true rfl, Nat.le_of_ble_eq_true rfl⟩) hK hN (hZ.kept hS) hP hD hS hA [0, 1] [] rfl rfl (by decide) (by decide) (by decide) (va_recv (q := (RX1, TX1, 5)) hK hP (ci := 1) (q0 := 0) rfl rfl) rfl hl.1 rfl (Nat.le_of_ble_eq_true rfl) dX1_run_176 ⟨Nat.le_of_ble_eq_true rfl, Nat.le_of_ble_eq_true rfl⟩ (fun r_14 u_15 H locs hr_14 hP hD hS => ?_)
      obtain ⟨q_16, q_17⟩ := u_15
      try dsimp only at hr_14
      obtain ⟨hbq_16, hr_14⟩ := hr_14
      have h9R := zRe (ws' := [(mv, .inr (1, [.ref mb, .int q_16, .int 5, .int mm, .int mq])), (mb, .inl (cI, 20, .inl q_17))]) hP hD rfl
      clear hP hD
      obtain ⟨hP, hD⟩ := h9R
      refine lv_ixor hx hb dX1_run_179 ?_
      refine lv_topi (fun x_18 ex_18 => ?_)
      exact W.iret (v := x_18) hx hb hr (fun t ht hW => ⟨⟨x_18, (q_16, q_17), rfl, ⟨(show q_16.toInt = mr.toInt + 5 from by omega), trivial⟩, zRet ht hP hD [0, 1] (by decide) rfl⟩, hS.F ht⟩) hS.2.2 dX1_run_180
    · exact absurd c_3 (by decide)
set_option maxHeartbeats 4000000 in
set_option maxRecDepth 100000 in
theorem c_M_run_5_5_2_0 (l : Launch) (D : va_G) (cI cJ cZ cP cS : ClassId) (po : zPool) (mv mb : Nat) (mr mm mq : Int32) (fb : Nat → Int32) (x : Int32) (hy0 : 0 ≤ mr.toInt) (hy1 : mr.toInt ≤ 1000) (hpz : Nat) : Met l yX1_run wsX1_run ({ frames := 6, cells := 0, slots := 0, locals := 150 }) (va_Pc [.ref mv, .int 5, .int 2, .int x, .int 0] (zW D (zKT cI cJ cZ cP cS) po [(mv, .inr (1, [.ref mb, .int mr, .int 5, .int mm, .int mq])), (mb, .inl (cI, 20, .inl fb))] hpz)) (va_Qi (fun (r : Int32) (u : (Int32) × (Nat → Int32)) => u.1.toInt = mr.toInt + 6 ∧ (True)) (zB D [(mv, .inr (1, [.ref mb, .int mr, .int 5, .int mm, .int mq])), (mb, .inl (cI, 20, .inl fb))] hpz (fun (u : (Int32) × (Nat → Int32)) => [(mv, .inr (1, [.ref mb, .int u.1, .int 5, .int mm, .int mq])), (mb, .inl (cI, 20, .inl u.2))])) (va_A [(mv, .inr (1, [.ref mb, .int mr, .int 5, .int mm, .int mq])), (mb, .inl (cI, 20, .inl fb))] hpz)) 0 0 (va_A [(mv, .inr (1, [.ref mb, .int mr, .int 5, .int mm, .int mq])), (mb, .inl (cI, 20, .inl fb))] hpz) := by
  refine Met.ofW (cc := cX1_run) (maxL := 7) (ret := (some .int)) (by decide) rfl ?_
  intro p e s m args below meth c s₁ B hml hv
  obtain ⟨rfl, hsz, hP, hK, hD0, hN, hZ⟩ := hv
  have hx := B.exec
  have hb := B.bytes
  have hr := B.returns
  have hts := atoms_spec (ws := wsX1_run) B.pre
  have hown : s.vm.findClass RX1 = some m.cls := findClass_of_methodNamed B.named
  have hlocks := B.notSynchronized
  subst hsz
  have hD := hD0.self (sz := s.heap.size)
  have hA := zA_of hD
  have hl := lv_entry ([.ref mv, .int 5, .int 2, .int x, .int 0]) (n := 7) (Nat.le_of_ble_eq_true rfl)
  rw [lg_entry_eq]
  generalize (lg_sl ([.ref mv, .int 5, .int 2, .int x, .int 0]) ++ List.replicate (7 - (lg_sl ([.ref mv, .int 5, .int 2, .int x, .int 0])).length) Slot.unset).toArray = ls at hl ⊢
  replace hl : lv_has ls 7 [(0, .ref mv), (1, .int 5), (2, .int 2), (3, .int x), (4, .int 0)] := hl
  refine zw_begin hP hD (fun H locs hP1 hS => ?_)
  clear hP
  have hP := hP1
  clear hP1
  refine lv_iload_n hx hb dX1_run_0 rfl (lv_at hl 1 rfl) ?_
  refine lv_iload_n hx hb dX1_run_1 rfl (lv_at hl 2 rfl) ?_
  refine zc_S (As := [.int 5, .int 2]) (rest := []) ⟨hx, hb, hml, hown, hts⟩ (c_M_bodyFor_5_2 l D cI cJ cZ cP cS po  ) (va_cwS 2 hts gX1_run_X1_bodyFor rfl rfl rfl dh_X1_bodyFor ⟨Nat.le_of_ble_eq_true rfl, Nat.le_of_ble_eq_true rfl⟩) hK hN (hZ.kept hS) rfl hl.1 rfl (Nat.le_of_ble_eq_true rfl) dX1_run_2 ⟨Nat.le_of_ble_eq_true rfl, Nat.le_of_ble_eq_true rfl⟩ (fun r_1 hr_1 => ?_)
  obtain rfl := hr_1
  refine lv_istore (lv' := [(5, .int 60), (0, .ref mv), (1, .int 5), (2, .int 2), (3, .int x), (4, .int 0)]) hx hb dX1_run_5 hl (by decide) rfl (fun ls hl => ?_)
  refine lv_iload hx hb dX1_run_7 (lv_at hl 0 rfl) ?_
  refine lv_iconst (v := (-1)) hx hb dX1_run_9 (by decide) ?_
  refine lv_icmp_eq (tgt := 20) hx hb dX1_run_10 (by decide) (fun c_2 => ?_) (fun c_2 => ?_)
  · exact absurd c_2 (by decide)
  · refine lv_iload hx hb dX1_run_13 (lv_at hl 5 rfl) ?_
    refine lv_bipush (v := 40) hx hb dX1_run_15 (by decide) ?_
    refine lv_icmp_lt (tgt := 22) hx hb dX1_run_17 (by decide) (fun c_3 => ?_) (fun c_3 => ?_)
    · refine lv_aload_n hx hb dX1_run_22 rfl (lv_at hl 1 rfl) ?_
      refine lv_iload hx hb dX1_run_23 (lv_at hl 0 rfl) ?_
      skip
      refine zw_Vv (As := [.int 60]) (rest := []) (wr := []) ⟨hx, hb, hml, hown, hts⟩ (c_M_note l D cI cJ cZ cP cS po mv mb (mr) (5) (mm) (mq) fb (60) hy0 (by omega) H.size) (cwV 1 hts gX1_run_X1_note rfl rfl rfl ⟨rfl, dh_X1_note⟩ ⟨Nat.le_of_ble_eq_true rfl, Nat.le_of_ble_eq_true rfl⟩) hK hN (hZ.kept hS) hP hD hS hA [0, 1] [] rfl rfl (by decide) (by decide) (by decide) (va_recv (q := (RX1, TX1, 5)) hK hP (ci := 1) (q0 := 0) rfl rfl) rfl hl.1 rfl (Nat.le_of_ble_eq_true rfl) dX1_run_25 ⟨Nat.le_of_ble_eq_true rfl, Nat.le_of_ble_eq_true rfl⟩ (fun u_5 H locs hr_4 hP hD hS => ?_)
      obtain ⟨q_6, q_7⟩ := u_5
      try dsimp only at hr_4
      obtain ⟨hbq_6, hr_4⟩ := hr_4
      have h9R := zRe (ws' := [(mv, .inr (1, [.ref mb, .int q_6, .int 5, .int mm, .int mq])), (mb, .inl (cI, 20, .inl q_7))]) hP hD rfl
      clear hP hD
      obtain ⟨hP, hD⟩ := h9R
      refine lv_iload hx hb dX1_run_28 (lv_at hl 5 rfl) ?_
      refine lv_iconst (v := 1) hx hb dX1_run_30 (by decide) ?_
      refine lv_iadd hx hb dX1_run_31 ?_
      refine lv_topi (fun y_8 ey_8 => ?_)
      obtain rfl : y_8 = 1 := ey_8.trans (by decide)
      refine lv_istore (lv' := [(6, .int 1), (5, .int 60), (0, .ref mv), (1, .int 5), (2, .int 2), (3, .int x), (4, .int 0)]) hx hb dX1_run_32 hl (by decide) rfl (fun ls hl => ?_)
      refine lv_iload hx hb dX1_run_34 (lv_at hl 1 rfl) ?_
      refine lv_lookup (off := 210) (tgt := 246) hx hb dX1_run_36 (by decide) (by decide) (by decide) ?_
      refine lv_aload_n hx hb dX1_run_246 rfl (lv_at hl 2 rfl) ?_
      refine lv_iconst (v := 2) hx hb dX1_run_247 (by decide) ?_
      refine lv_iconst (v := 2) hx hb dX1_run_248 (by decide) ?_
      refine lv_iload_n hx hb dX1_run_249 rfl (lv_at hl 5 rfl) ?_
      refine lv_iload hx hb dX1_run_250 (lv_at hl 0 rfl) ?_
      skip
      refine zw_V (As := [.int 2, .int 2, .int x, .int 1]) (rest := []) (wr := []) ⟨hx, hb, hml, hown, hts⟩ (c_M_run_5_2_2_1 l D cI cJ cZ cP cS po mv mb (q_6) (mm) (mq) q_7 (x) (by omega) (by omega) H.size) (cwV 4 hts gX1_run_X1_run rfl rfl rfl ⟨rfl, dh_X1_run⟩ ⟨Nat.le_of_ble_eq_true rfl, Nat.le_of_ble_eq_true rfl⟩) hK hN (hZ.kept hS) hP hD hS hA [0, 1] [] rfl rfl (by decide) (by decide) (by decide) (va_recv (q := (RX1, TX1, 5)) hK hP (ci := 1) (q0 := 0) rfl rfl) rfl hl.1 rfl (Nat.le_of_ble_eq_true rfl) dX1_run_252 ⟨Nat.le_of_ble_eq_true rfl, Nat.le_of_ble_eq_true rfl⟩ (fun r_9 u_10 H locs hr_9 hP hD hS => ?_)
      obtain ⟨q_11, q_12⟩ := u_10
      try dsimp only at hr_9
      obtain ⟨hbq_11, hr_9⟩ := hr_9
      have h9R := zRe (ws' := [(mv, .inr (1, [.ref mb, .int q_11, .int 5, .int mm, .int mq])), (mb, .inl (cI, 20, .inl q_12))]) hP hD rfl
      clear hP hD
      obtain ⟨hP, hD⟩ := h9R
      refine lv_iconst (v := 5) hx hb dX1_run_255 (by decide) ?_
      refine lv_ixor hx hb dX1_run_256 ?_
      refine lv_topi (fun x_13 ex_13 => ?_)
      exact W.iret (v := x_13) hx hb hr (fun t ht hW => ⟨⟨x_13, (q_11, q_12), rfl, ⟨(show q_11.toInt = mr.toInt + 6 from by omega), trivial⟩, zRet ht hP hD [0, 1] (by decide) rfl⟩, hS.F ht⟩) hS.2.2 dX1_run_257
    · exact absurd c_3 (by decide)
set_option maxHeartbeats 4000000 in
set_option maxRecDepth 100000 in
theorem c_M_run_6_0_0_2 (l : Launch) (D : va_G) (cI cJ cZ cP cS : ClassId) (po : zPool) (mv mb : Nat) (mr mm mq : Int32) (fb : Nat → Int32) (x : Int32) (hy0 : 0 ≤ mr.toInt) (hy1 : mr.toInt ≤ 1200) (hpz : Nat) : Met l yX1_run wsX1_run ({ frames := 2, cells := 0, slots := 0, locals := 46 }) (va_Pc [.ref mv, .int 0, .int 0, .int x, .int 2] (zW D (zKT cI cJ cZ cP cS) po [(mv, .inr (1, [.ref mb, .int mr, .int 6, .int mm, .int mq])), (mb, .inl (cI, 20, .inl fb))] hpz)) (va_Qi (fun (r : Int32) (u : (Int32) × (Nat → Int32)) => u.1.toInt = mr.toInt + 1 ∧ (True)) (zB D [(mv, .inr (1, [.ref mb, .int mr, .int 6, .int mm, .int mq])), (mb, .inl (cI, 20, .inl fb))] hpz (fun (u : (Int32) × (Nat → Int32)) => [(mv, .inr (1, [.ref mb, .int u.1, .int 6, .int mm, .int mq])), (mb, .inl (cI, 20, .inl u.2))])) (va_A [(mv, .inr (1, [.ref mb, .int mr, .int 6, .int mm, .int mq])), (mb, .inl (cI, 20, .inl fb))] hpz)) 0 0 (va_A [(mv, .inr (1, [.ref mb, .int mr, .int 6, .int mm, .int mq])), (mb, .inl (cI, 20, .inl fb))] hpz) := by
  refine Met.ofW (cc := cX1_run) (maxL := 7) (ret := (some .int)) (by decide) rfl ?_
  intro p e s m args below meth c s₁ B hml hv
  obtain ⟨rfl, hsz, hP, hK, hD0, hN, hZ⟩ := hv
  have hx := B.exec
  have hb := B.bytes
  have hr := B.returns
  have hts := atoms_spec (ws := wsX1_run) B.pre
  have hown : s.vm.findClass RX1 = some m.cls := findClass_of_methodNamed B.named
  have hlocks := B.notSynchronized
  subst hsz
  have hD := hD0.self (sz := s.heap.size)
  have hA := zA_of hD
  have hl := lv_entry ([.ref mv, .int 0, .int 0, .int x, .int 2]) (n := 7) (Nat.le_of_ble_eq_true rfl)
  rw [lg_entry_eq]
  generalize (lg_sl ([.ref mv, .int 0, .int 0, .int x, .int 2]) ++ List.replicate (7 - (lg_sl ([.ref mv, .int 0, .int 0, .int x, .int 2])).length) Slot.unset).toArray = ls at hl ⊢
  replace hl : lv_has ls 7 [(0, .ref mv), (1, .int 0), (2, .int 0), (3, .int x), (4, .int 2)] := hl
  refine zw_begin hP hD (fun H locs hP1 hS => ?_)
  clear hP
  have hP := hP1
  clear hP1
  refine lv_iload_n hx hb dX1_run_0 rfl (lv_at hl 1 rfl) ?_
  refine lv_iload_n hx hb dX1_run_1 rfl (lv_at hl 2 rfl) ?_
  refine zc_S (As := [.int 0, .int 0]) (rest := []) ⟨hx, hb, hml, hown, hts⟩ (c_M_bodyFor_0_0 l D cI cJ cZ cP cS po  ) (va_cwS 2 hts gX1_run_X1_bodyFor rfl rfl rfl dh_X1_bodyFor ⟨Nat.le_of_ble_eq_true rfl, Nat.le_of_ble_eq_true rfl⟩) hK hN (hZ.kept hS) rfl hl.1 rfl (Nat.le_of_ble_eq_true rfl) dX1_run_2 ⟨Nat.le_of_ble_eq_true rfl, Nat.le_of_ble_eq_true rfl⟩ (fun r_1 hr_1 => ?_)
  obtain rfl := hr_1
  refine lv_istore (lv' := [(5, .int 10), (0, .ref mv), (1, .int 0), (2, .int 0), (3, .int x), (4, .int 2)]) hx hb dX1_run_5 hl (by decide) rfl (fun ls hl => ?_)
  refine lv_iload hx hb dX1_run_7 (lv_at hl 0 rfl) ?_
  refine lv_iconst (v := (-1)) hx hb dX1_run_9 (by decide) ?_
  refine lv_icmp_eq (tgt := 20) hx hb dX1_run_10 (by decide) (fun c_2 => ?_) (fun c_2 => ?_)
  · exact absurd c_2 (by decide)
  · refine lv_iload hx hb dX1_run_13 (lv_at hl 5 rfl) ?_
    refine lv_bipush (v := 40) hx hb dX1_run_15 (by decide) ?_
    refine lv_icmp_lt (tgt := 22) hx hb dX1_run_17 (by decide) (fun c_3 => ?_) (fun c_3 => ?_)
    · refine lv_aload_n hx hb dX1_run_22 rfl (lv_at hl 1 rfl) ?_
      refine lv_iload hx hb dX1_run_23 (lv_at hl 0 rfl) ?_
      skip
      refine zw_Vv (As := [.int 10]) (rest := []) (wr := []) ⟨hx, hb, hml, hown, hts⟩ (c_M_note l D cI cJ cZ cP cS po mv mb (mr) (6) (mm) (mq) fb (10) hy0 (by omega) H.size) (cwV 1 hts gX1_run_X1_note rfl rfl rfl ⟨rfl, dh_X1_note⟩ ⟨Nat.le_of_ble_eq_true rfl, Nat.le_of_ble_eq_true rfl⟩) hK hN (hZ.kept hS) hP hD hS hA [0, 1] [] rfl rfl (by decide) (by decide) (by decide) (va_recv (q := (RX1, TX1, 5)) hK hP (ci := 1) (q0 := 0) rfl rfl) rfl hl.1 rfl (Nat.le_of_ble_eq_true rfl) dX1_run_25 ⟨Nat.le_of_ble_eq_true rfl, Nat.le_of_ble_eq_true rfl⟩ (fun u_5 H locs hr_4 hP hD hS => ?_)
      obtain ⟨q_6, q_7⟩ := u_5
      try dsimp only at hr_4
      obtain ⟨hbq_6, hr_4⟩ := hr_4
      have h9R := zRe (ws' := [(mv, .inr (1, [.ref mb, .int q_6, .int 6, .int mm, .int mq])), (mb, .inl (cI, 20, .inl q_7))]) hP hD rfl
      clear hP hD
      obtain ⟨hP, hD⟩ := h9R
      refine lv_iload hx hb dX1_run_28 (lv_at hl 5 rfl) ?_
      refine lv_iconst (v := 1) hx hb dX1_run_30 (by decide) ?_
      refine lv_iadd hx hb dX1_run_31 ?_
      refine lv_topi (fun y_8 ey_8 => ?_)
      obtain rfl : y_8 = 3 := ey_8.trans (by decide)
      refine lv_istore (lv' := [(6, .int 3), (5, .int 10), (0, .ref mv), (1, .int 0), (2, .int 0), (3, .int x), (4, .int 2)]) hx hb dX1_run_32 hl (by decide) rfl (fun ls hl => ?_)
      refine lv_iload hx hb dX1_run_34 (lv_at hl 1 rfl) ?_
      refine lv_lookup (off := 92) (tgt := 128) hx hb dX1_run_36 (by decide) (by decide) (by decide) ?_
      refine lv_iload_n hx hb dX1_run_128 rfl (lv_at hl 5 rfl) ?_
      refine lv_aload_n hx hb dX1_run_129 rfl (lv_at hl 2 rfl) ?_
      refine va_get (D := D) (ci := 1) (v := .int mm) (C := RX1) (T := TX1) (N := 5) hx hb hts hi_X1_run_1 hown hK hP 0 rfl rfl 3 (by decide) (hts (.fieldLink RX1 22 "TheLiningsInIt$Moves" "m" "I") (List.mem_of_getElem? (i := 1) rfl)) (fun _ h9 => h9) rfl dX1_run_130 ?_
      refine lv_iadd hx hb dX1_run_133 ?_
      refine lv_topi (fun x_9 ex_9 => ?_)
      exact W.iret (v := x_9) hx hb hr (fun t ht hW => ⟨⟨x_9, (q_6, q_7), rfl, ⟨(show q_6.toInt = mr.toInt + 1 from by omega), trivial⟩, zRet ht hP hD [0, 1] (by decide) rfl⟩, hS.F ht⟩) hS.2.2 dX1_run_134
    · exact absurd c_3 (by decide)
set_option maxHeartbeats 4000000 in
set_option maxRecDepth 100000 in
theorem c_M_run_6_4_0_1 (l : Launch) (D : va_G) (cI cJ cZ cP cS : ClassId) (po : zPool) (mv mb : Nat) (mr mm mq : Int32) (fb : Nat → Int32) (x : Int32) (hy0 : 0 ≤ mr.toInt) (hy1 : mr.toInt ≤ 1100) (hpz : Nat) : Met l yX1_run wsX1_run ({ frames := 3, cells := 0, slots := 0, locals := 72 }) (va_Pc [.ref mv, .int 4, .int 0, .int x, .int 1] (zW D (zKT cI cJ cZ cP cS) po [(mv, .inr (1, [.ref mb, .int mr, .int 6, .int mm, .int mq])), (mb, .inl (cI, 20, .inl fb))] hpz)) (va_Qi (fun (r : Int32) (u : (Int32) × (Nat → Int32)) => u.1.toInt = mr.toInt + 2 ∧ (True)) (zB D [(mv, .inr (1, [.ref mb, .int mr, .int 6, .int mm, .int mq])), (mb, .inl (cI, 20, .inl fb))] hpz (fun (u : (Int32) × (Nat → Int32)) => [(mv, .inr (1, [.ref mb, .int u.1, .int 6, .int mm, .int mq])), (mb, .inl (cI, 20, .inl u.2))])) (va_A [(mv, .inr (1, [.ref mb, .int mr, .int 6, .int mm, .int mq])), (mb, .inl (cI, 20, .inl fb))] hpz)) 0 0 (va_A [(mv, .inr (1, [.ref mb, .int mr, .int 6, .int mm, .int mq])), (mb, .inl (cI, 20, .inl fb))] hpz) := by
  refine Met.ofW (cc := cX1_run) (maxL := 7) (ret := (some .int)) (by decide) rfl ?_
  intro p e s m args below meth c s₁ B hml hv
  obtain ⟨rfl, hsz, hP, hK, hD0, hN, hZ⟩ := hv
  have hx := B.exec
  have hb := B.bytes
  have hr := B.returns
  have hts := atoms_spec (ws := wsX1_run) B.pre
  have hown : s.vm.findClass RX1 = some m.cls := findClass_of_methodNamed B.named
  have hlocks := B.notSynchronized
  subst hsz
  have hD := hD0.self (sz := s.heap.size)
  have hA := zA_of hD
  have hl := lv_entry ([.ref mv, .int 4, .int 0, .int x, .int 1]) (n := 7) (Nat.le_of_ble_eq_true rfl)
  rw [lg_entry_eq]
  generalize (lg_sl ([.ref mv, .int 4, .int 0, .int x, .int 1]) ++ List.replicate (7 - (lg_sl ([.ref mv, .int 4, .int 0, .int x, .int 1])).length) Slot.unset).toArray = ls at hl ⊢
  replace hl : lv_has ls 7 [(0, .ref mv), (1, .int 4), (2, .int 0), (3, .int x), (4, .int 1)] := hl
  refine zw_begin hP hD (fun H locs hP1 hS => ?_)
  clear hP
  have hP := hP1
  clear hP1
  refine lv_iload_n hx hb dX1_run_0 rfl (lv_at hl 1 rfl) ?_
  refine lv_iload_n hx hb dX1_run_1 rfl (lv_at hl 2 rfl) ?_
  refine zc_S (As := [.int 4, .int 0]) (rest := []) ⟨hx, hb, hml, hown, hts⟩ (c_M_bodyFor_4_0 l D cI cJ cZ cP cS po  ) (va_cwS 2 hts gX1_run_X1_bodyFor rfl rfl rfl dh_X1_bodyFor ⟨Nat.le_of_ble_eq_true rfl, Nat.le_of_ble_eq_true rfl⟩) hK hN (hZ.kept hS) rfl hl.1 rfl (Nat.le_of_ble_eq_true rfl) dX1_run_2 ⟨Nat.le_of_ble_eq_true rfl, Nat.le_of_ble_eq_true rfl⟩ (fun r_1 hr_1 => ?_)
  obtain rfl := hr_1
  refine lv_istore (lv' := [(5, .int 51), (0, .ref mv), (1, .int 4), (2, .int 0), (3, .int x), (4, .int 1)]) hx hb dX1_run_5 hl (by decide) rfl (fun ls hl => ?_)
  refine lv_iload hx hb dX1_run_7 (lv_at hl 0 rfl) ?_
  refine lv_iconst (v := (-1)) hx hb dX1_run_9 (by decide) ?_
  refine lv_icmp_eq (tgt := 20) hx hb dX1_run_10 (by decide) (fun c_2 => ?_) (fun c_2 => ?_)
  · exact absurd c_2 (by decide)
  · refine lv_iload hx hb dX1_run_13 (lv_at hl 5 rfl) ?_
    refine lv_bipush (v := 40) hx hb dX1_run_15 (by decide) ?_
    refine lv_icmp_lt (tgt := 22) hx hb dX1_run_17 (by decide) (fun c_3 => ?_) (fun c_3 => ?_)
    · refine lv_aload_n hx hb dX1_run_22 rfl (lv_at hl 1 rfl) ?_
      refine lv_iload hx hb dX1_run_23 (lv_at hl 0 rfl) ?_
      skip
      refine zw_Vv (As := [.int 51]) (rest := []) (wr := []) ⟨hx, hb, hml, hown, hts⟩ (c_M_note l D cI cJ cZ cP cS po mv mb (mr) (6) (mm) (mq) fb (51) hy0 (by omega) H.size) (cwV 1 hts gX1_run_X1_note rfl rfl rfl ⟨rfl, dh_X1_note⟩ ⟨Nat.le_of_ble_eq_true rfl, Nat.le_of_ble_eq_true rfl⟩) hK hN (hZ.kept hS) hP hD hS hA [0, 1] [] rfl rfl (by decide) (by decide) (by decide) (va_recv (q := (RX1, TX1, 5)) hK hP (ci := 1) (q0 := 0) rfl rfl) rfl hl.1 rfl (Nat.le_of_ble_eq_true rfl) dX1_run_25 ⟨Nat.le_of_ble_eq_true rfl, Nat.le_of_ble_eq_true rfl⟩ (fun u_5 H locs hr_4 hP hD hS => ?_)
      obtain ⟨q_6, q_7⟩ := u_5
      try dsimp only at hr_4
      obtain ⟨hbq_6, hr_4⟩ := hr_4
      have h9R := zRe (ws' := [(mv, .inr (1, [.ref mb, .int q_6, .int 6, .int mm, .int mq])), (mb, .inl (cI, 20, .inl q_7))]) hP hD rfl
      clear hP hD
      obtain ⟨hP, hD⟩ := h9R
      refine lv_iload hx hb dX1_run_28 (lv_at hl 5 rfl) ?_
      refine lv_iconst (v := 1) hx hb dX1_run_30 (by decide) ?_
      refine lv_iadd hx hb dX1_run_31 ?_
      refine lv_topi (fun y_8 ey_8 => ?_)
      obtain rfl : y_8 = 2 := ey_8.trans (by decide)
      refine lv_istore (lv' := [(6, .int 2), (5, .int 51), (0, .ref mv), (1, .int 4), (2, .int 0), (3, .int x), (4, .int 1)]) hx hb dX1_run_32 hl (by decide) rfl (fun ls hl => ?_)
      refine lv_iload hx hb dX1_run_34 (lv_at hl 1 rfl) ?_
      refine lv_lookup (off := 195) (tgt := 231) hx hb dX1_run_36 (by decide) (by decide) (by decide) ?_
      refine lv_aload_n hx hb dX1_run_231 rfl (lv_at hl 2 rfl) ?_
      refine lv_iconst (v := 0) hx hb dX1_run_232 (by decide) ?_
      refine lv_iconst (v := 0) hx hb dX1_run_233 (by decide) ?_
      refine lv_iload_n hx hb dX1_run_234 rfl (lv_at hl 5 rfl) ?_
      refine lv_iload hx hb dX1_run_235 (lv_at hl 0 rfl) ?_
      skip
      refine zw_V (As := [.int 0, .int 0, .int x, .int 2]) (rest := []) (wr := []) ⟨hx, hb, hml, hown, hts⟩ (c_M_run_6_0_0_2 l D cI cJ cZ cP cS po mv mb (q_6) (mm) (mq) q_7 (x) (by omega) (by omega) H.size) (cwV 4 hts gX1_run_X1_run rfl rfl rfl ⟨rfl, dh_X1_run⟩ ⟨Nat.le_of_ble_eq_true rfl, Nat.le_of_ble_eq_true rfl⟩) hK hN (hZ.kept hS) hP hD hS hA [0, 1] [] rfl rfl (by decide) (by decide) (by decide) (va_recv (q := (RX1, TX1, 5)) hK hP (ci := 1) (q0 := 0) rfl rfl) rfl hl.1 rfl (Nat.le_of_ble_eq_true rfl) dX1_run_237 ⟨Nat.le_of_ble_eq_true rfl, Nat.le_of_ble_eq_true rfl⟩ (fun r_9 u_10 H locs hr_9 hP hD hS => ?_)
      obtain ⟨q_11, q_12⟩ := u_10
      try dsimp only at hr_9
      obtain ⟨hbq_11, hr_9⟩ := hr_9
      have h9R := zRe (ws' := [(mv, .inr (1, [.ref mb, .int q_11, .int 6, .int mm, .int mq])), (mb, .inl (cI, 20, .inl q_12))]) hP hD rfl
      clear hP hD
      obtain ⟨hP, hD⟩ := h9R
      refine lv_aload_n hx hb dX1_run_240 rfl (lv_at hl 2 rfl) ?_
      refine va_get (D := D) (ci := 1) (v := .int mm) (C := RX1) (T := TX1) (N := 5) hx hb hts hi_X1_run_1 hown hK hP 0 rfl rfl 3 (by decide) (hts (.fieldLink RX1 22 "TheLiningsInIt$Moves" "m" "I") (List.mem_of_getElem? (i := 1) rfl)) (fun _ h9 => h9) rfl dX1_run_241 ?_
      refine lv_isub hx hb dX1_run_244 ?_
      refine lv_topi (fun x_13 ex_13 => ?_)
      exact W.iret (v := x_13) hx hb hr (fun t ht hW => ⟨⟨x_13, (q_11, q_12), rfl, ⟨(show q_11.toInt = mr.toInt + 2 from by omega), trivial⟩, zRet ht hP hD [0, 1] (by decide) rfl⟩, hS.F ht⟩) hS.2.2 dX1_run_245
    · exact absurd c_3 (by decide)
set_option maxHeartbeats 4000000 in
set_option maxRecDepth 100000 in
theorem c_M_run_6_6_0_0 (l : Launch) (D : va_G) (cI cJ cZ cP cS : ClassId) (po : zPool) (mv mb : Nat) (mr mm mq : Int32) (fb : Nat → Int32) (x : Int32) (hy0 : 0 ≤ mr.toInt) (hy1 : mr.toInt ≤ 1000) (hpz : Nat) : Met l yX1_run wsX1_run ({ frames := 4, cells := 0, slots := 0, locals := 98 }) (va_Pc [.ref mv, .int 6, .int 0, .int x, .int 0] (zW D (zKT cI cJ cZ cP cS) po [(mv, .inr (1, [.ref mb, .int mr, .int 6, .int mm, .int mq])), (mb, .inl (cI, 20, .inl fb))] hpz)) (va_Qi (fun (r : Int32) (u : (Int32) × (Nat → Int32)) => u.1.toInt = mr.toInt + 3 ∧ (True)) (zB D [(mv, .inr (1, [.ref mb, .int mr, .int 6, .int mm, .int mq])), (mb, .inl (cI, 20, .inl fb))] hpz (fun (u : (Int32) × (Nat → Int32)) => [(mv, .inr (1, [.ref mb, .int u.1, .int 6, .int mm, .int mq])), (mb, .inl (cI, 20, .inl u.2))])) (va_A [(mv, .inr (1, [.ref mb, .int mr, .int 6, .int mm, .int mq])), (mb, .inl (cI, 20, .inl fb))] hpz)) 0 0 (va_A [(mv, .inr (1, [.ref mb, .int mr, .int 6, .int mm, .int mq])), (mb, .inl (cI, 20, .inl fb))] hpz) := by
  refine Met.ofW (cc := cX1_run) (maxL := 7) (ret := (some .int)) (by decide) rfl ?_
  intro p e s m args below meth c s₁ B hml hv
  obtain ⟨rfl, hsz, hP, hK, hD0, hN, hZ⟩ := hv
  have hx := B.exec
  have hb := B.bytes
  have hr := B.returns
  have hts := atoms_spec (ws := wsX1_run) B.pre
  have hown : s.vm.findClass RX1 = some m.cls := findClass_of_methodNamed B.named
  have hlocks := B.notSynchronized
  subst hsz
  have hD := hD0.self (sz := s.heap.size)
  have hA := zA_of hD
  have hl := lv_entry ([.ref mv, .int 6, .int 0, .int x, .int 0]) (n := 7) (Nat.le_of_ble_eq_true rfl)
  rw [lg_entry_eq]
  generalize (lg_sl ([.ref mv, .int 6, .int 0, .int x, .int 0]) ++ List.replicate (7 - (lg_sl ([.ref mv, .int 6, .int 0, .int x, .int 0])).length) Slot.unset).toArray = ls at hl ⊢
  replace hl : lv_has ls 7 [(0, .ref mv), (1, .int 6), (2, .int 0), (3, .int x), (4, .int 0)] := hl
  refine zw_begin hP hD (fun H locs hP1 hS => ?_)
  clear hP
  have hP := hP1
  clear hP1
  refine lv_iload_n hx hb dX1_run_0 rfl (lv_at hl 1 rfl) ?_
  refine lv_iload_n hx hb dX1_run_1 rfl (lv_at hl 2 rfl) ?_
  refine zc_S (As := [.int 6, .int 0]) (rest := []) ⟨hx, hb, hml, hown, hts⟩ (c_M_bodyFor_6_0 l D cI cJ cZ cP cS po  ) (va_cwS 2 hts gX1_run_X1_bodyFor rfl rfl rfl dh_X1_bodyFor ⟨Nat.le_of_ble_eq_true rfl, Nat.le_of_ble_eq_true rfl⟩) hK hN (hZ.kept hS) rfl hl.1 rfl (Nat.le_of_ble_eq_true rfl) dX1_run_2 ⟨Nat.le_of_ble_eq_true rfl, Nat.le_of_ble_eq_true rfl⟩ (fun r_1 hr_1 => ?_)
  obtain rfl := hr_1
  refine lv_istore (lv' := [(5, .int 70), (0, .ref mv), (1, .int 6), (2, .int 0), (3, .int x), (4, .int 0)]) hx hb dX1_run_5 hl (by decide) rfl (fun ls hl => ?_)
  refine lv_iload hx hb dX1_run_7 (lv_at hl 0 rfl) ?_
  refine lv_iconst (v := (-1)) hx hb dX1_run_9 (by decide) ?_
  refine lv_icmp_eq (tgt := 20) hx hb dX1_run_10 (by decide) (fun c_2 => ?_) (fun c_2 => ?_)
  · exact absurd c_2 (by decide)
  · refine lv_iload hx hb dX1_run_13 (lv_at hl 5 rfl) ?_
    refine lv_bipush (v := 40) hx hb dX1_run_15 (by decide) ?_
    refine lv_icmp_lt (tgt := 22) hx hb dX1_run_17 (by decide) (fun c_3 => ?_) (fun c_3 => ?_)
    · refine lv_aload_n hx hb dX1_run_22 rfl (lv_at hl 1 rfl) ?_
      refine lv_iload hx hb dX1_run_23 (lv_at hl 0 rfl) ?_
      skip
      refine zw_Vv (As := [.int 70]) (rest := []) (wr := []) ⟨hx, hb, hml, hown, hts⟩ (c_M_note l D cI cJ cZ cP cS po mv mb (mr) (6) (mm) (mq) fb (70) hy0 (by omega) H.size) (cwV 1 hts gX1_run_X1_note rfl rfl rfl ⟨rfl, dh_X1_note⟩ ⟨Nat.le_of_ble_eq_true rfl, Nat.le_of_ble_eq_true rfl⟩) hK hN (hZ.kept hS) hP hD hS hA [0, 1] [] rfl rfl (by decide) (by decide) (by decide) (va_recv (q := (RX1, TX1, 5)) hK hP (ci := 1) (q0 := 0) rfl rfl) rfl hl.1 rfl (Nat.le_of_ble_eq_true rfl) dX1_run_25 ⟨Nat.le_of_ble_eq_true rfl, Nat.le_of_ble_eq_true rfl⟩ (fun u_5 H locs hr_4 hP hD hS => ?_)
      obtain ⟨q_6, q_7⟩ := u_5
      try dsimp only at hr_4
      obtain ⟨hbq_6, hr_4⟩ := hr_4
      have h9R := zRe (ws' := [(mv, .inr (1, [.ref mb, .int q_6, .int 6, .int mm, .int mq])), (mb, .inl (cI, 20, .inl q_7))]) hP hD rfl
      clear hP hD
      obtain ⟨hP, hD⟩ := h9R
      refine lv_iload hx hb dX1_run_28 (lv_at hl 5 rfl) ?_
      refine lv_iconst (v := 1) hx hb dX1_run_30 (by decide) ?_
      refine lv_iadd hx hb dX1_run_31 ?_
      refine lv_topi (fun y_8 ey_8 => ?_)
      obtain rfl : y_8 = 1 := ey_8.trans (by decide)
      refine lv_istore (lv' := [(6, .int 1), (5, .int 70), (0, .ref mv), (1, .int 6), (2, .int 0), (3, .int x), (4, .int 0)]) hx hb dX1_run_32 hl (by decide) rfl (fun ls hl => ?_)
      refine lv_iload hx hb dX1_run_34 (lv_at hl 1 rfl) ?_
      refine lv_lookup (off := 222) (tgt := 258) hx hb dX1_run_36 (by decide) (by decide) (by decide) ?_
      refine lv_aload_n hx hb dX1_run_258 rfl (lv_at hl 2 rfl) ?_
      refine lv_iconst (v := 4) hx hb dX1_run_259 (by decide) ?_
      refine lv_iconst (v := 0) hx hb dX1_run_260 (by decide) ?_
      refine lv_iload_n hx hb dX1_run_261 rfl (lv_at hl 5 rfl) ?_
      refine lv_iload hx hb dX1_run_262 (lv_at hl 0 rfl) ?_
      skip
      refine zw_V (As := [.int 4, .int 0, .int x, .int 1]) (rest := []) (wr := []) ⟨hx, hb, hml, hown, hts⟩ (c_M_run_6_4_0_1 l D cI cJ cZ cP cS po mv mb (q_6) (mm) (mq) q_7 (x) (by omega) (by omega) H.size) (cwV 4 hts gX1_run_X1_run rfl rfl rfl ⟨rfl, dh_X1_run⟩ ⟨Nat.le_of_ble_eq_true rfl, Nat.le_of_ble_eq_true rfl⟩) hK hN (hZ.kept hS) hP hD hS hA [0, 1] [] rfl rfl (by decide) (by decide) (by decide) (va_recv (q := (RX1, TX1, 5)) hK hP (ci := 1) (q0 := 0) rfl rfl) rfl hl.1 rfl (Nat.le_of_ble_eq_true rfl) dX1_run_264 ⟨Nat.le_of_ble_eq_true rfl, Nat.le_of_ble_eq_true rfl⟩ (fun r_9 u_10 H locs hr_9 hP hD hS => ?_)
      obtain ⟨q_11, q_12⟩ := u_10
      try dsimp only at hr_9
      obtain ⟨hbq_11, hr_9⟩ := hr_9
      have h9R := zRe (ws' := [(mv, .inr (1, [.ref mb, .int q_11, .int 6, .int mm, .int mq])), (mb, .inl (cI, 20, .inl q_12))]) hP hD rfl
      clear hP hD
      obtain ⟨hP, hD⟩ := h9R
      refine lv_iconst (v := 2) hx hb dX1_run_267 (by decide) ?_
      refine lv_imul hx hb dX1_run_268 ?_
      refine lv_topi (fun x_13 ex_13 => ?_)
      exact W.iret (v := x_13) hx hb hr (fun t ht hW => ⟨⟨x_13, (q_11, q_12), rfl, ⟨(show q_11.toInt = mr.toInt + 3 from by omega), trivial⟩, zRet ht hP hD [0, 1] (by decide) rfl⟩, hS.F ht⟩) hS.2.2 dX1_run_269
    · exact absurd c_3 (by decide)
set_option maxHeartbeats 4000000 in
set_option maxRecDepth 100000 in
theorem c_M_run_6_0_0_4 (l : Launch) (D : va_G) (cI cJ cZ cP cS : ClassId) (po : zPool) (mv mb : Nat) (mr mm mq : Int32) (fb : Nat → Int32) (x : Int32) (hy0 : 0 ≤ mr.toInt) (hy1 : mr.toInt ≤ 1400) (hpz : Nat) : Met l yX1_run wsX1_run ({ frames := 2, cells := 0, slots := 0, locals := 46 }) (va_Pc [.ref mv, .int 0, .int 0, .int x, .int 4] (zW D (zKT cI cJ cZ cP cS) po [(mv, .inr (1, [.ref mb, .int mr, .int 6, .int mm, .int mq])), (mb, .inl (cI, 20, .inl fb))] hpz)) (va_Qi (fun (r : Int32) (u : (Int32) × (Nat → Int32)) => u.1.toInt = mr.toInt + 1 ∧ (True)) (zB D [(mv, .inr (1, [.ref mb, .int mr, .int 6, .int mm, .int mq])), (mb, .inl (cI, 20, .inl fb))] hpz (fun (u : (Int32) × (Nat → Int32)) => [(mv, .inr (1, [.ref mb, .int u.1, .int 6, .int mm, .int mq])), (mb, .inl (cI, 20, .inl u.2))])) (va_A [(mv, .inr (1, [.ref mb, .int mr, .int 6, .int mm, .int mq])), (mb, .inl (cI, 20, .inl fb))] hpz)) 0 0 (va_A [(mv, .inr (1, [.ref mb, .int mr, .int 6, .int mm, .int mq])), (mb, .inl (cI, 20, .inl fb))] hpz) := by
  refine Met.ofW (cc := cX1_run) (maxL := 7) (ret := (some .int)) (by decide) rfl ?_
  intro p e s m args below meth c s₁ B hml hv
  obtain ⟨rfl, hsz, hP, hK, hD0, hN, hZ⟩ := hv
  have hx := B.exec
  have hb := B.bytes
  have hr := B.returns
  have hts := atoms_spec (ws := wsX1_run) B.pre
  have hown : s.vm.findClass RX1 = some m.cls := findClass_of_methodNamed B.named
  have hlocks := B.notSynchronized
  subst hsz
  have hD := hD0.self (sz := s.heap.size)
  have hA := zA_of hD
  have hl := lv_entry ([.ref mv, .int 0, .int 0, .int x, .int 4]) (n := 7) (Nat.le_of_ble_eq_true rfl)
  rw [lg_entry_eq]
  generalize (lg_sl ([.ref mv, .int 0, .int 0, .int x, .int 4]) ++ List.replicate (7 - (lg_sl ([.ref mv, .int 0, .int 0, .int x, .int 4])).length) Slot.unset).toArray = ls at hl ⊢
  replace hl : lv_has ls 7 [(0, .ref mv), (1, .int 0), (2, .int 0), (3, .int x), (4, .int 4)] := hl
  refine zw_begin hP hD (fun H locs hP1 hS => ?_)
  clear hP
  have hP := hP1
  clear hP1
  refine lv_iload_n hx hb dX1_run_0 rfl (lv_at hl 1 rfl) ?_
  refine lv_iload_n hx hb dX1_run_1 rfl (lv_at hl 2 rfl) ?_
  refine zc_S (As := [.int 0, .int 0]) (rest := []) ⟨hx, hb, hml, hown, hts⟩ (c_M_bodyFor_0_0 l D cI cJ cZ cP cS po  ) (va_cwS 2 hts gX1_run_X1_bodyFor rfl rfl rfl dh_X1_bodyFor ⟨Nat.le_of_ble_eq_true rfl, Nat.le_of_ble_eq_true rfl⟩) hK hN (hZ.kept hS) rfl hl.1 rfl (Nat.le_of_ble_eq_true rfl) dX1_run_2 ⟨Nat.le_of_ble_eq_true rfl, Nat.le_of_ble_eq_true rfl⟩ (fun r_1 hr_1 => ?_)
  obtain rfl := hr_1
  refine lv_istore (lv' := [(5, .int 10), (0, .ref mv), (1, .int 0), (2, .int 0), (3, .int x), (4, .int 4)]) hx hb dX1_run_5 hl (by decide) rfl (fun ls hl => ?_)
  refine lv_iload hx hb dX1_run_7 (lv_at hl 0 rfl) ?_
  refine lv_iconst (v := (-1)) hx hb dX1_run_9 (by decide) ?_
  refine lv_icmp_eq (tgt := 20) hx hb dX1_run_10 (by decide) (fun c_2 => ?_) (fun c_2 => ?_)
  · exact absurd c_2 (by decide)
  · refine lv_iload hx hb dX1_run_13 (lv_at hl 5 rfl) ?_
    refine lv_bipush (v := 40) hx hb dX1_run_15 (by decide) ?_
    refine lv_icmp_lt (tgt := 22) hx hb dX1_run_17 (by decide) (fun c_3 => ?_) (fun c_3 => ?_)
    · refine lv_aload_n hx hb dX1_run_22 rfl (lv_at hl 1 rfl) ?_
      refine lv_iload hx hb dX1_run_23 (lv_at hl 0 rfl) ?_
      skip
      refine zw_Vv (As := [.int 10]) (rest := []) (wr := []) ⟨hx, hb, hml, hown, hts⟩ (c_M_note l D cI cJ cZ cP cS po mv mb (mr) (6) (mm) (mq) fb (10) hy0 (by omega) H.size) (cwV 1 hts gX1_run_X1_note rfl rfl rfl ⟨rfl, dh_X1_note⟩ ⟨Nat.le_of_ble_eq_true rfl, Nat.le_of_ble_eq_true rfl⟩) hK hN (hZ.kept hS) hP hD hS hA [0, 1] [] rfl rfl (by decide) (by decide) (by decide) (va_recv (q := (RX1, TX1, 5)) hK hP (ci := 1) (q0 := 0) rfl rfl) rfl hl.1 rfl (Nat.le_of_ble_eq_true rfl) dX1_run_25 ⟨Nat.le_of_ble_eq_true rfl, Nat.le_of_ble_eq_true rfl⟩ (fun u_5 H locs hr_4 hP hD hS => ?_)
      obtain ⟨q_6, q_7⟩ := u_5
      try dsimp only at hr_4
      obtain ⟨hbq_6, hr_4⟩ := hr_4
      have h9R := zRe (ws' := [(mv, .inr (1, [.ref mb, .int q_6, .int 6, .int mm, .int mq])), (mb, .inl (cI, 20, .inl q_7))]) hP hD rfl
      clear hP hD
      obtain ⟨hP, hD⟩ := h9R
      refine lv_iload hx hb dX1_run_28 (lv_at hl 5 rfl) ?_
      refine lv_iconst (v := 1) hx hb dX1_run_30 (by decide) ?_
      refine lv_iadd hx hb dX1_run_31 ?_
      refine lv_topi (fun y_8 ey_8 => ?_)
      obtain rfl : y_8 = 5 := ey_8.trans (by decide)
      refine lv_istore (lv' := [(6, .int 5), (5, .int 10), (0, .ref mv), (1, .int 0), (2, .int 0), (3, .int x), (4, .int 4)]) hx hb dX1_run_32 hl (by decide) rfl (fun ls hl => ?_)
      refine lv_iload hx hb dX1_run_34 (lv_at hl 1 rfl) ?_
      refine lv_lookup (off := 92) (tgt := 128) hx hb dX1_run_36 (by decide) (by decide) (by decide) ?_
      refine lv_iload_n hx hb dX1_run_128 rfl (lv_at hl 5 rfl) ?_
      refine lv_aload_n hx hb dX1_run_129 rfl (lv_at hl 2 rfl) ?_
      refine va_get (D := D) (ci := 1) (v := .int mm) (C := RX1) (T := TX1) (N := 5) hx hb hts hi_X1_run_1 hown hK hP 0 rfl rfl 3 (by decide) (hts (.fieldLink RX1 22 "TheLiningsInIt$Moves" "m" "I") (List.mem_of_getElem? (i := 1) rfl)) (fun _ h9 => h9) rfl dX1_run_130 ?_
      refine lv_iadd hx hb dX1_run_133 ?_
      refine lv_topi (fun x_9 ex_9 => ?_)
      exact W.iret (v := x_9) hx hb hr (fun t ht hW => ⟨⟨x_9, (q_6, q_7), rfl, ⟨(show q_6.toInt = mr.toInt + 1 from by omega), trivial⟩, zRet ht hP hD [0, 1] (by decide) rfl⟩, hS.F ht⟩) hS.2.2 dX1_run_134
    · exact absurd c_3 (by decide)
set_option maxHeartbeats 4000000 in
set_option maxRecDepth 100000 in
theorem c_M_run_6_4_0_3 (l : Launch) (D : va_G) (cI cJ cZ cP cS : ClassId) (po : zPool) (mv mb : Nat) (mr mm mq : Int32) (fb : Nat → Int32) (x : Int32) (hy0 : 0 ≤ mr.toInt) (hy1 : mr.toInt ≤ 1300) (hpz : Nat) : Met l yX1_run wsX1_run ({ frames := 3, cells := 0, slots := 0, locals := 72 }) (va_Pc [.ref mv, .int 4, .int 0, .int x, .int 3] (zW D (zKT cI cJ cZ cP cS) po [(mv, .inr (1, [.ref mb, .int mr, .int 6, .int mm, .int mq])), (mb, .inl (cI, 20, .inl fb))] hpz)) (va_Qi (fun (r : Int32) (u : (Int32) × (Nat → Int32)) => u.1.toInt = mr.toInt + 2 ∧ (True)) (zB D [(mv, .inr (1, [.ref mb, .int mr, .int 6, .int mm, .int mq])), (mb, .inl (cI, 20, .inl fb))] hpz (fun (u : (Int32) × (Nat → Int32)) => [(mv, .inr (1, [.ref mb, .int u.1, .int 6, .int mm, .int mq])), (mb, .inl (cI, 20, .inl u.2))])) (va_A [(mv, .inr (1, [.ref mb, .int mr, .int 6, .int mm, .int mq])), (mb, .inl (cI, 20, .inl fb))] hpz)) 0 0 (va_A [(mv, .inr (1, [.ref mb, .int mr, .int 6, .int mm, .int mq])), (mb, .inl (cI, 20, .inl fb))] hpz) := by
  refine Met.ofW (cc := cX1_run) (maxL := 7) (ret := (some .int)) (by decide) rfl ?_
  intro p e s m args below meth c s₁ B hml hv
  obtain ⟨rfl, hsz, hP, hK, hD0, hN, hZ⟩ := hv
  have hx := B.exec
  have hb := B.bytes
  have hr := B.returns
  have hts := atoms_spec (ws := wsX1_run) B.pre
  have hown : s.vm.findClass RX1 = some m.cls := findClass_of_methodNamed B.named
  have hlocks := B.notSynchronized
  subst hsz
  have hD := hD0.self (sz := s.heap.size)
  have hA := zA_of hD
  have hl := lv_entry ([.ref mv, .int 4, .int 0, .int x, .int 3]) (n := 7) (Nat.le_of_ble_eq_true rfl)
  rw [lg_entry_eq]
  generalize (lg_sl ([.ref mv, .int 4, .int 0, .int x, .int 3]) ++ List.replicate (7 - (lg_sl ([.ref mv, .int 4, .int 0, .int x, .int 3])).length) Slot.unset).toArray = ls at hl ⊢
  replace hl : lv_has ls 7 [(0, .ref mv), (1, .int 4), (2, .int 0), (3, .int x), (4, .int 3)] := hl
  refine zw_begin hP hD (fun H locs hP1 hS => ?_)
  clear hP
  have hP := hP1
  clear hP1
  refine lv_iload_n hx hb dX1_run_0 rfl (lv_at hl 1 rfl) ?_
  refine lv_iload_n hx hb dX1_run_1 rfl (lv_at hl 2 rfl) ?_
  refine zc_S (As := [.int 4, .int 0]) (rest := []) ⟨hx, hb, hml, hown, hts⟩ (c_M_bodyFor_4_0 l D cI cJ cZ cP cS po  ) (va_cwS 2 hts gX1_run_X1_bodyFor rfl rfl rfl dh_X1_bodyFor ⟨Nat.le_of_ble_eq_true rfl, Nat.le_of_ble_eq_true rfl⟩) hK hN (hZ.kept hS) rfl hl.1 rfl (Nat.le_of_ble_eq_true rfl) dX1_run_2 ⟨Nat.le_of_ble_eq_true rfl, Nat.le_of_ble_eq_true rfl⟩ (fun r_1 hr_1 => ?_)
  obtain rfl := hr_1
  refine lv_istore (lv' := [(5, .int 51), (0, .ref mv), (1, .int 4), (2, .int 0), (3, .int x), (4, .int 3)]) hx hb dX1_run_5 hl (by decide) rfl (fun ls hl => ?_)
  refine lv_iload hx hb dX1_run_7 (lv_at hl 0 rfl) ?_
  refine lv_iconst (v := (-1)) hx hb dX1_run_9 (by decide) ?_
  refine lv_icmp_eq (tgt := 20) hx hb dX1_run_10 (by decide) (fun c_2 => ?_) (fun c_2 => ?_)
  · exact absurd c_2 (by decide)
  · refine lv_iload hx hb dX1_run_13 (lv_at hl 5 rfl) ?_
    refine lv_bipush (v := 40) hx hb dX1_run_15 (by decide) ?_
    refine lv_icmp_lt (tgt := 22) hx hb dX1_run_17 (by decide) (fun c_3 => ?_) (fun c_3 => ?_)
    · refine lv_aload_n hx hb dX1_run_22 rfl (lv_at hl 1 rfl) ?_
      refine lv_iload hx hb dX1_run_23 (lv_at hl 0 rfl) ?_
      skip
      refine zw_Vv (As := [.int 51]) (rest := []) (wr := []) ⟨hx, hb, hml, hown, hts⟩ (c_M_note l D cI cJ cZ cP cS po mv mb (mr) (6) (mm) (mq) fb (51) hy0 (by omega) H.size) (cwV 1 hts gX1_run_X1_note rfl rfl rfl ⟨rfl, dh_X1_note⟩ ⟨Nat.le_of_ble_eq_true rfl, Nat.le_of_ble_eq_true rfl⟩) hK hN (hZ.kept hS) hP hD hS hA [0, 1] [] rfl rfl (by decide) (by decide) (by decide) (va_recv (q := (RX1, TX1, 5)) hK hP (ci := 1) (q0 := 0) rfl rfl) rfl hl.1 rfl (Nat.le_of_ble_eq_true rfl) dX1_run_25 ⟨Nat.le_of_ble_eq_true rfl, Nat.le_of_ble_eq_true rfl⟩ (fun u_5 H locs hr_4 hP hD hS => ?_)
      obtain ⟨q_6, q_7⟩ := u_5
      try dsimp only at hr_4
      obtain ⟨hbq_6, hr_4⟩ := hr_4
      have h9R := zRe (ws' := [(mv, .inr (1, [.ref mb, .int q_6, .int 6, .int mm, .int mq])), (mb, .inl (cI, 20, .inl q_7))]) hP hD rfl
      clear hP hD
      obtain ⟨hP, hD⟩ := h9R
      refine lv_iload hx hb dX1_run_28 (lv_at hl 5 rfl) ?_
      refine lv_iconst (v := 1) hx hb dX1_run_30 (by decide) ?_
      refine lv_iadd hx hb dX1_run_31 ?_
      refine lv_topi (fun y_8 ey_8 => ?_)
      obtain rfl : y_8 = 4 := ey_8.trans (by decide)
      refine lv_istore (lv' := [(6, .int 4), (5, .int 51), (0, .ref mv), (1, .int 4), (2, .int 0), (3, .int x), (4, .int 3)]) hx hb dX1_run_32 hl (by decide) rfl (fun ls hl => ?_)
      refine lv_iload hx hb dX1_run_34 (lv_at hl 1 rfl) ?_
      refine lv_lookup (off := 195) (tgt := 231) hx hb dX1_run_36 (by decide) (by decide) (by decide) ?_
      refine lv_aload_n hx hb dX1_run_231 rfl (lv_at hl 2 rfl) ?_
      refine lv_iconst (v := 0) hx hb dX1_run_232 (by decide) ?_
      refine lv_iconst (v := 0) hx hb dX1_run_233 (by decide) ?_
      refine lv_iload_n hx hb dX1_run_234 rfl (lv_at hl 5 rfl) ?_
      refine lv_iload hx hb dX1_run_235 (lv_at hl 0 rfl) ?_
      skip
      refine zw_V (As := [.int 0, .int 0, .int x, .int 4]) (rest := []) (wr := []) ⟨hx, hb, hml, hown, hts⟩ (c_M_run_6_0_0_4 l D cI cJ cZ cP cS po mv mb (q_6) (mm) (mq) q_7 (x) (by omega) (by omega) H.size) (cwV 4 hts gX1_run_X1_run rfl rfl rfl ⟨rfl, dh_X1_run⟩ ⟨Nat.le_of_ble_eq_true rfl, Nat.le_of_ble_eq_true rfl⟩) hK hN (hZ.kept hS) hP hD hS hA [0, 1] [] rfl rfl (by decide) (by decide) (by decide) (va_recv (q := (RX1, TX1, 5)) hK hP (ci := 1) (q0 := 0) rfl rfl) rfl hl.1 rfl (Nat.le_of_ble_eq_true rfl) dX1_run_237 ⟨Nat.le_of_ble_eq_true rfl, Nat.le_of_ble_eq_true rfl⟩ (fun r_9 u_10 H locs hr_9 hP hD hS => ?_)
      obtain ⟨q_11, q_12⟩ := u_10
      try dsimp only at hr_9
      obtain ⟨hbq_11, hr_9⟩ := hr_9
      have h9R := zRe (ws' := [(mv, .inr (1, [.ref mb, .int q_11, .int 6, .int mm, .int mq])), (mb, .inl (cI, 20, .inl q_12))]) hP hD rfl
      clear hP hD
      obtain ⟨hP, hD⟩ := h9R
      refine lv_aload_n hx hb dX1_run_240 rfl (lv_at hl 2 rfl) ?_
      refine va_get (D := D) (ci := 1) (v := .int mm) (C := RX1) (T := TX1) (N := 5) hx hb hts hi_X1_run_1 hown hK hP 0 rfl rfl 3 (by decide) (hts (.fieldLink RX1 22 "TheLiningsInIt$Moves" "m" "I") (List.mem_of_getElem? (i := 1) rfl)) (fun _ h9 => h9) rfl dX1_run_241 ?_
      refine lv_isub hx hb dX1_run_244 ?_
      refine lv_topi (fun x_13 ex_13 => ?_)
      exact W.iret (v := x_13) hx hb hr (fun t ht hW => ⟨⟨x_13, (q_11, q_12), rfl, ⟨(show q_11.toInt = mr.toInt + 2 from by omega), trivial⟩, zRet ht hP hD [0, 1] (by decide) rfl⟩, hS.F ht⟩) hS.2.2 dX1_run_245
    · exact absurd c_3 (by decide)
set_option maxHeartbeats 4000000 in
set_option maxRecDepth 100000 in
theorem c_M_run_6_6_0_2 (l : Launch) (D : va_G) (cI cJ cZ cP cS : ClassId) (po : zPool) (mv mb : Nat) (mr mm mq : Int32) (fb : Nat → Int32) (x : Int32) (hy0 : 0 ≤ mr.toInt) (hy1 : mr.toInt ≤ 1200) (hpz : Nat) : Met l yX1_run wsX1_run ({ frames := 4, cells := 0, slots := 0, locals := 98 }) (va_Pc [.ref mv, .int 6, .int 0, .int x, .int 2] (zW D (zKT cI cJ cZ cP cS) po [(mv, .inr (1, [.ref mb, .int mr, .int 6, .int mm, .int mq])), (mb, .inl (cI, 20, .inl fb))] hpz)) (va_Qi (fun (r : Int32) (u : (Int32) × (Nat → Int32)) => u.1.toInt = mr.toInt + 3 ∧ (True)) (zB D [(mv, .inr (1, [.ref mb, .int mr, .int 6, .int mm, .int mq])), (mb, .inl (cI, 20, .inl fb))] hpz (fun (u : (Int32) × (Nat → Int32)) => [(mv, .inr (1, [.ref mb, .int u.1, .int 6, .int mm, .int mq])), (mb, .inl (cI, 20, .inl u.2))])) (va_A [(mv, .inr (1, [.ref mb, .int mr, .int 6, .int mm, .int mq])), (mb, .inl (cI, 20, .inl fb))] hpz)) 0 0 (va_A [(mv, .inr (1, [.ref mb, .int mr, .int 6, .int mm, .int mq])), (mb, .inl (cI, 20, .inl fb))] hpz) := by
  refine Met.ofW (cc := cX1_run) (maxL := 7) (ret := (some .int)) (by decide) rfl ?_
  intro p e s m args below meth c s₁ B hml hv
  obtain ⟨rfl, hsz, hP, hK, hD0, hN, hZ⟩ := hv
  have hx := B.exec
  have hb := B.bytes
  have hr := B.returns
  have hts := atoms_spec (ws := wsX1_run) B.pre
  have hown : s.vm.findClass RX1 = some m.cls := findClass_of_methodNamed B.named
  have hlocks := B.notSynchronized
  subst hsz
  have hD := hD0.self (sz := s.heap.size)
  have hA := zA_of hD
  have hl := lv_entry ([.ref mv, .int 6, .int 0, .int x, .int 2]) (n := 7) (Nat.le_of_ble_eq_true rfl)
  rw [lg_entry_eq]
  generalize (lg_sl ([.ref mv, .int 6, .int 0, .int x, .int 2]) ++ List.replicate (7 - (lg_sl ([.ref mv, .int 6, .int 0, .int x, .int 2])).length) Slot.unset).toArray = ls at hl ⊢
  replace hl : lv_has ls 7 [(0, .ref mv), (1, .int 6), (2, .int 0), (3, .int x), (4, .int 2)] := hl
  refine zw_begin hP hD (fun H locs hP1 hS => ?_)
  clear hP
  have hP := hP1
  clear hP1
  refine lv_iload_n hx hb dX1_run_0 rfl (lv_at hl 1 rfl) ?_
  refine lv_iload_n hx hb dX1_run_1 rfl (lv_at hl 2 rfl) ?_
  refine zc_S (As := [.int 6, .int 0]) (rest := []) ⟨hx, hb, hml, hown, hts⟩ (c_M_bodyFor_6_0 l D cI cJ cZ cP cS po  ) (va_cwS 2 hts gX1_run_X1_bodyFor rfl rfl rfl dh_X1_bodyFor ⟨Nat.le_of_ble_eq_true rfl, Nat.le_of_ble_eq_true rfl⟩) hK hN (hZ.kept hS) rfl hl.1 rfl (Nat.le_of_ble_eq_true rfl) dX1_run_2 ⟨Nat.le_of_ble_eq_true rfl, Nat.le_of_ble_eq_true rfl⟩ (fun r_1 hr_1 => ?_)
  obtain rfl := hr_1
  refine lv_istore (lv' := [(5, .int 70), (0, .ref mv), (1, .int 6), (2, .int 0), (3, .int x), (4, .int 2)]) hx hb dX1_run_5 hl (by decide) rfl (fun ls hl => ?_)
  refine lv_iload hx hb dX1_run_7 (lv_at hl 0 rfl) ?_
  refine lv_iconst (v := (-1)) hx hb dX1_run_9 (by decide) ?_
  refine lv_icmp_eq (tgt := 20) hx hb dX1_run_10 (by decide) (fun c_2 => ?_) (fun c_2 => ?_)
  · exact absurd c_2 (by decide)
  · refine lv_iload hx hb dX1_run_13 (lv_at hl 5 rfl) ?_
    refine lv_bipush (v := 40) hx hb dX1_run_15 (by decide) ?_
    refine lv_icmp_lt (tgt := 22) hx hb dX1_run_17 (by decide) (fun c_3 => ?_) (fun c_3 => ?_)
    · refine lv_aload_n hx hb dX1_run_22 rfl (lv_at hl 1 rfl) ?_
      refine lv_iload hx hb dX1_run_23 (lv_at hl 0 rfl) ?_
      skip
      refine zw_Vv (As := [.int 70]) (rest := []) (wr := []) ⟨hx, hb, hml, hown, hts⟩ (c_M_note l D cI cJ cZ cP cS po mv mb (mr) (6) (mm) (mq) fb (70) hy0 (by omega) H.size) (cwV 1 hts gX1_run_X1_note rfl rfl rfl ⟨rfl, dh_X1_note⟩ ⟨Nat.le_of_ble_eq_true rfl, Nat.le_of_ble_eq_true rfl⟩) hK hN (hZ.kept hS) hP hD hS hA [0, 1] [] rfl rfl (by decide) (by decide) (by decide) (va_recv (q := (RX1, TX1, 5)) hK hP (ci := 1) (q0 := 0) rfl rfl) rfl hl.1 rfl (Nat.le_of_ble_eq_true rfl) dX1_run_25 ⟨Nat.le_of_ble_eq_true rfl, Nat.le_of_ble_eq_true rfl⟩ (fun u_5 H locs hr_4 hP hD hS => ?_)
      obtain ⟨q_6, q_7⟩ := u_5
      try dsimp only at hr_4
      obtain ⟨hbq_6, hr_4⟩ := hr_4
      have h9R := zRe (ws' := [(mv, .inr (1, [.ref mb, .int q_6, .int 6, .int mm, .int mq])), (mb, .inl (cI, 20, .inl q_7))]) hP hD rfl
      clear hP hD
      obtain ⟨hP, hD⟩ := h9R
      refine lv_iload hx hb dX1_run_28 (lv_at hl 5 rfl) ?_
      refine lv_iconst (v := 1) hx hb dX1_run_30 (by decide) ?_
      refine lv_iadd hx hb dX1_run_31 ?_
      refine lv_topi (fun y_8 ey_8 => ?_)
      obtain rfl : y_8 = 3 := ey_8.trans (by decide)
      refine lv_istore (lv' := [(6, .int 3), (5, .int 70), (0, .ref mv), (1, .int 6), (2, .int 0), (3, .int x), (4, .int 2)]) hx hb dX1_run_32 hl (by decide) rfl (fun ls hl => ?_)
      refine lv_iload hx hb dX1_run_34 (lv_at hl 1 rfl) ?_
      refine lv_lookup (off := 222) (tgt := 258) hx hb dX1_run_36 (by decide) (by decide) (by decide) ?_
      refine lv_aload_n hx hb dX1_run_258 rfl (lv_at hl 2 rfl) ?_
      refine lv_iconst (v := 4) hx hb dX1_run_259 (by decide) ?_
      refine lv_iconst (v := 0) hx hb dX1_run_260 (by decide) ?_
      refine lv_iload_n hx hb dX1_run_261 rfl (lv_at hl 5 rfl) ?_
      refine lv_iload hx hb dX1_run_262 (lv_at hl 0 rfl) ?_
      skip
      refine zw_V (As := [.int 4, .int 0, .int x, .int 3]) (rest := []) (wr := []) ⟨hx, hb, hml, hown, hts⟩ (c_M_run_6_4_0_3 l D cI cJ cZ cP cS po mv mb (q_6) (mm) (mq) q_7 (x) (by omega) (by omega) H.size) (cwV 4 hts gX1_run_X1_run rfl rfl rfl ⟨rfl, dh_X1_run⟩ ⟨Nat.le_of_ble_eq_true rfl, Nat.le_of_ble_eq_true rfl⟩) hK hN (hZ.kept hS) hP hD hS hA [0, 1] [] rfl rfl (by decide) (by decide) (by decide) (va_recv (q := (RX1, TX1, 5)) hK hP (ci := 1) (q0 := 0) rfl rfl) rfl hl.1 rfl (Nat.le_of_ble_eq_true rfl) dX1_run_264 ⟨Nat.le_of_ble_eq_true rfl, Nat.le_of_ble_eq_true rfl⟩ (fun r_9 u_10 H locs hr_9 hP hD hS => ?_)
      obtain ⟨q_11, q_12⟩ := u_10
      try dsimp only at hr_9
      obtain ⟨hbq_11, hr_9⟩ := hr_9
      have h9R := zRe (ws' := [(mv, .inr (1, [.ref mb, .int q_11, .int 6, .int mm, .int mq])), (mb, .inl (cI, 20, .inl q_12))]) hP hD rfl
      clear hP hD
      obtain ⟨hP, hD⟩ := h9R
      refine lv_iconst (v := 2) hx hb dX1_run_267 (by decide) ?_
      refine lv_imul hx hb dX1_run_268 ?_
      refine lv_topi (fun x_13 ex_13 => ?_)
      exact W.iret (v := x_13) hx hb hr (fun t ht hW => ⟨⟨x_13, (q_11, q_12), rfl, ⟨(show q_11.toInt = mr.toInt + 3 from by omega), trivial⟩, zRet ht hP hD [0, 1] (by decide) rfl⟩, hS.F ht⟩) hS.2.2 dX1_run_269
    · exact absurd c_3 (by decide)
set_option maxHeartbeats 4000000 in
set_option maxRecDepth 100000 in
theorem c_M_run_6_4_1_1 (l : Launch) (D : va_G) (cI cJ cZ cP cS : ClassId) (po : zPool) (mv mb : Nat) (mr mm mq : Int32) (fb : Nat → Int32) (x : Int32) (hy0 : 0 ≤ mr.toInt) (hy1 : mr.toInt ≤ 1100) (hpz : Nat) : Met l yX1_run wsX1_run ({ frames := 5, cells := 0, slots := 0, locals := 124 }) (va_Pc [.ref mv, .int 4, .int 1, .int x, .int 1] (zW D (zKT cI cJ cZ cP cS) po [(mv, .inr (1, [.ref mb, .int mr, .int 6, .int mm, .int mq])), (mb, .inl (cI, 20, .inl fb))] hpz)) (va_Qi (fun (r : Int32) (u : (Int32) × (Nat → Int32)) => u.1.toInt = mr.toInt + 4 ∧ (True)) (zB D [(mv, .inr (1, [.ref mb, .int mr, .int 6, .int mm, .int mq])), (mb, .inl (cI, 20, .inl fb))] hpz (fun (u : (Int32) × (Nat → Int32)) => [(mv, .inr (1, [.ref mb, .int u.1, .int 6, .int mm, .int mq])), (mb, .inl (cI, 20, .inl u.2))])) (va_A [(mv, .inr (1, [.ref mb, .int mr, .int 6, .int mm, .int mq])), (mb, .inl (cI, 20, .inl fb))] hpz)) 0 0 (va_A [(mv, .inr (1, [.ref mb, .int mr, .int 6, .int mm, .int mq])), (mb, .inl (cI, 20, .inl fb))] hpz) := by
  refine Met.ofW (cc := cX1_run) (maxL := 7) (ret := (some .int)) (by decide) rfl ?_
  intro p e s m args below meth c s₁ B hml hv
  obtain ⟨rfl, hsz, hP, hK, hD0, hN, hZ⟩ := hv
  have hx := B.exec
  have hb := B.bytes
  have hr := B.returns
  have hts := atoms_spec (ws := wsX1_run) B.pre
  have hown : s.vm.findClass RX1 = some m.cls := findClass_of_methodNamed B.named
  have hlocks := B.notSynchronized
  subst hsz
  have hD := hD0.self (sz := s.heap.size)
  have hA := zA_of hD
  have hl := lv_entry ([.ref mv, .int 4, .int 1, .int x, .int 1]) (n := 7) (Nat.le_of_ble_eq_true rfl)
  rw [lg_entry_eq]
  generalize (lg_sl ([.ref mv, .int 4, .int 1, .int x, .int 1]) ++ List.replicate (7 - (lg_sl ([.ref mv, .int 4, .int 1, .int x, .int 1])).length) Slot.unset).toArray = ls at hl ⊢
  replace hl : lv_has ls 7 [(0, .ref mv), (1, .int 4), (2, .int 1), (3, .int x), (4, .int 1)] := hl
  refine zw_begin hP hD (fun H locs hP1 hS => ?_)
  clear hP
  have hP := hP1
  clear hP1
  refine lv_iload_n hx hb dX1_run_0 rfl (lv_at hl 1 rfl) ?_
  refine lv_iload_n hx hb dX1_run_1 rfl (lv_at hl 2 rfl) ?_
  refine zc_S (As := [.int 4, .int 1]) (rest := []) ⟨hx, hb, hml, hown, hts⟩ (c_M_bodyFor_4_1 l D cI cJ cZ cP cS po  ) (va_cwS 2 hts gX1_run_X1_bodyFor rfl rfl rfl dh_X1_bodyFor ⟨Nat.le_of_ble_eq_true rfl, Nat.le_of_ble_eq_true rfl⟩) hK hN (hZ.kept hS) rfl hl.1 rfl (Nat.le_of_ble_eq_true rfl) dX1_run_2 ⟨Nat.le_of_ble_eq_true rfl, Nat.le_of_ble_eq_true rfl⟩ (fun r_1 hr_1 => ?_)
  obtain rfl := hr_1
  refine lv_istore (lv' := [(5, .int 11), (0, .ref mv), (1, .int 4), (2, .int 1), (3, .int x), (4, .int 1)]) hx hb dX1_run_5 hl (by decide) rfl (fun ls hl => ?_)
  refine lv_iload hx hb dX1_run_7 (lv_at hl 0 rfl) ?_
  refine lv_iconst (v := (-1)) hx hb dX1_run_9 (by decide) ?_
  refine lv_icmp_eq (tgt := 20) hx hb dX1_run_10 (by decide) (fun c_2 => ?_) (fun c_2 => ?_)
  · exact absurd c_2 (by decide)
  · refine lv_iload hx hb dX1_run_13 (lv_at hl 5 rfl) ?_
    refine lv_bipush (v := 40) hx hb dX1_run_15 (by decide) ?_
    refine lv_icmp_lt (tgt := 22) hx hb dX1_run_17 (by decide) (fun c_3 => ?_) (fun c_3 => ?_)
    · refine lv_aload_n hx hb dX1_run_22 rfl (lv_at hl 1 rfl) ?_
      refine lv_iload hx hb dX1_run_23 (lv_at hl 0 rfl) ?_
      skip
      refine zw_Vv (As := [.int 11]) (rest := []) (wr := []) ⟨hx, hb, hml, hown, hts⟩ (c_M_note l D cI cJ cZ cP cS po mv mb (mr) (6) (mm) (mq) fb (11) hy0 (by omega) H.size) (cwV 1 hts gX1_run_X1_note rfl rfl rfl ⟨rfl, dh_X1_note⟩ ⟨Nat.le_of_ble_eq_true rfl, Nat.le_of_ble_eq_true rfl⟩) hK hN (hZ.kept hS) hP hD hS hA [0, 1] [] rfl rfl (by decide) (by decide) (by decide) (va_recv (q := (RX1, TX1, 5)) hK hP (ci := 1) (q0 := 0) rfl rfl) rfl hl.1 rfl (Nat.le_of_ble_eq_true rfl) dX1_run_25 ⟨Nat.le_of_ble_eq_true rfl, Nat.le_of_ble_eq_true rfl⟩ (fun u_5 H locs hr_4 hP hD hS => ?_)
      obtain ⟨q_6, q_7⟩ := u_5
      try dsimp only at hr_4
      obtain ⟨hbq_6, hr_4⟩ := hr_4
      have h9R := zRe (ws' := [(mv, .inr (1, [.ref mb, .int q_6, .int 6, .int mm, .int mq])), (mb, .inl (cI, 20, .inl q_7))]) hP hD rfl
      clear hP hD
      obtain ⟨hP, hD⟩ := h9R
      refine lv_iload hx hb dX1_run_28 (lv_at hl 5 rfl) ?_
      refine lv_iconst (v := 1) hx hb dX1_run_30 (by decide) ?_
      refine lv_iadd hx hb dX1_run_31 ?_
      refine lv_topi (fun y_8 ey_8 => ?_)
      obtain rfl : y_8 = 2 := ey_8.trans (by decide)
      refine lv_istore (lv' := [(6, .int 2), (5, .int 11), (0, .ref mv), (1, .int 4), (2, .int 1), (3, .int x), (4, .int 1)]) hx hb dX1_run_32 hl (by decide) rfl (fun ls hl => ?_)
      refine lv_iload hx hb dX1_run_34 (lv_at hl 1 rfl) ?_
      refine lv_lookup (off := 99) (tgt := 135) hx hb dX1_run_36 (by decide) (by decide) (by decide) ?_
      refine lv_aload_n hx hb dX1_run_135 rfl (lv_at hl 2 rfl) ?_
      refine lv_aload_n hx hb dX1_run_136 rfl (lv_at hl 2 rfl) ?_
      refine va_get (D := D) (ci := 1) (v := .int 6) (C := RX1) (T := TX1) (N := 5) hx hb hts hi_X1_run_1 hown hK hP 0 rfl rfl 2 (by decide) (hts (.fieldLink RX1 19 "TheLiningsInIt$Moves" "kind" "I") (List.mem_of_getElem? (i := 2) rfl)) (fun _ h9 => h9) rfl dX1_run_137 ?_
      refine lv_iconst (v := 0) hx hb dX1_run_140 (by decide) ?_
      refine lv_iload_n hx hb dX1_run_141 rfl (lv_at hl 5 rfl) ?_
      refine lv_iload hx hb dX1_run_142 (lv_at hl 0 rfl) ?_
      skip
      refine zw_V (As := [.int 6, .int 0, .int x, .int 2]) (rest := []) (wr := []) ⟨hx, hb, hml, hown, hts⟩ (c_M_run_6_6_0_2 l D cI cJ cZ cP cS po mv mb (q_6) (mm) (mq) q_7 (x) (by omega) (by omega) H.size) (cwV 4 hts gX1_run_X1_run rfl rfl rfl ⟨rfl, dh_X1_run⟩ ⟨Nat.le_of_ble_eq_true rfl, Nat.le_of_ble_eq_true rfl⟩) hK hN (hZ.kept hS) hP hD hS hA [0, 1] [] rfl rfl (by decide) (by decide) (by decide) (va_recv (q := (RX1, TX1, 5)) hK hP (ci := 1) (q0 := 0) rfl rfl) rfl hl.1 rfl (Nat.le_of_ble_eq_true rfl) dX1_run_144 ⟨Nat.le_of_ble_eq_true rfl, Nat.le_of_ble_eq_true rfl⟩ (fun r_9 u_10 H locs hr_9 hP hD hS => ?_)
      obtain ⟨q_11, q_12⟩ := u_10
      try dsimp only at hr_9
      obtain ⟨hbq_11, hr_9⟩ := hr_9
      have h9R := zRe (ws' := [(mv, .inr (1, [.ref mb, .int q_11, .int 6, .int mm, .int mq])), (mb, .inl (cI, 20, .inl q_12))]) hP hD rfl
      clear hP hD
      obtain ⟨hP, hD⟩ := h9R
      refine lv_iconst (v := 2) hx hb dX1_run_147 (by decide) ?_
      refine lv_imul hx hb dX1_run_148 ?_
      refine lv_topi (fun x_13 ex_13 => ?_)
      exact W.iret (v := x_13) hx hb hr (fun t ht hW => ⟨⟨x_13, (q_11, q_12), rfl, ⟨(show q_11.toInt = mr.toInt + 4 from by omega), trivial⟩, zRet ht hP hD [0, 1] (by decide) rfl⟩, hS.F ht⟩) hS.2.2 dX1_run_149
    · exact absurd c_3 (by decide)
set_option maxHeartbeats 4000000 in
set_option maxRecDepth 100000 in
theorem c_M_run_6_6_1_0 (l : Launch) (D : va_G) (cI cJ cZ cP cS : ClassId) (po : zPool) (mv mb : Nat) (mr mm mq : Int32) (fb : Nat → Int32) (x : Int32) (hy0 : 0 ≤ mr.toInt) (hy1 : mr.toInt ≤ 1000) (hpz : Nat) : Met l yX1_run wsX1_run ({ frames := 6, cells := 0, slots := 0, locals := 150 }) (va_Pc [.ref mv, .int 6, .int 1, .int x, .int 0] (zW D (zKT cI cJ cZ cP cS) po [(mv, .inr (1, [.ref mb, .int mr, .int 6, .int mm, .int mq])), (mb, .inl (cI, 20, .inl fb))] hpz)) (va_Qi (fun (r : Int32) (u : (Int32) × (Nat → Int32)) => u.1.toInt = mr.toInt + 5 ∧ (True)) (zB D [(mv, .inr (1, [.ref mb, .int mr, .int 6, .int mm, .int mq])), (mb, .inl (cI, 20, .inl fb))] hpz (fun (u : (Int32) × (Nat → Int32)) => [(mv, .inr (1, [.ref mb, .int u.1, .int 6, .int mm, .int mq])), (mb, .inl (cI, 20, .inl u.2))])) (va_A [(mv, .inr (1, [.ref mb, .int mr, .int 6, .int mm, .int mq])), (mb, .inl (cI, 20, .inl fb))] hpz)) 0 0 (va_A [(mv, .inr (1, [.ref mb, .int mr, .int 6, .int mm, .int mq])), (mb, .inl (cI, 20, .inl fb))] hpz) := by
  refine Met.ofW (cc := cX1_run) (maxL := 7) (ret := (some .int)) (by decide) rfl ?_
  intro p e s m args below meth c s₁ B hml hv
  obtain ⟨rfl, hsz, hP, hK, hD0, hN, hZ⟩ := hv
  have hx := B.exec
  have hb := B.bytes
  have hr := B.returns
  have hts := atoms_spec (ws := wsX1_run) B.pre
  have hown : s.vm.findClass RX1 = some m.cls := findClass_of_methodNamed B.named
  have hlocks := B.notSynchronized
  subst hsz
  have hD := hD0.self (sz := s.heap.size)
  have hA := zA_of hD
  have hl := lv_entry ([.ref mv, .int 6, .int 1, .int x, .int 0]) (n := 7) (Nat.le_of_ble_eq_true rfl)
  rw [lg_entry_eq]
  generalize (lg_sl ([.ref mv, .int 6, .int 1, .int x, .int 0]) ++ List.replicate (7 - (lg_sl ([.ref mv, .int 6, .int 1, .int x, .int 0])).length) Slot.unset).toArray = ls at hl ⊢
  replace hl : lv_has ls 7 [(0, .ref mv), (1, .int 6), (2, .int 1), (3, .int x), (4, .int 0)] := hl
  refine zw_begin hP hD (fun H locs hP1 hS => ?_)
  clear hP
  have hP := hP1
  clear hP1
  refine lv_iload_n hx hb dX1_run_0 rfl (lv_at hl 1 rfl) ?_
  refine lv_iload_n hx hb dX1_run_1 rfl (lv_at hl 2 rfl) ?_
  refine zc_S (As := [.int 6, .int 1]) (rest := []) ⟨hx, hb, hml, hown, hts⟩ (c_M_bodyFor_6_1 l D cI cJ cZ cP cS po  ) (va_cwS 2 hts gX1_run_X1_bodyFor rfl rfl rfl dh_X1_bodyFor ⟨Nat.le_of_ble_eq_true rfl, Nat.le_of_ble_eq_true rfl⟩) hK hN (hZ.kept hS) rfl hl.1 rfl (Nat.le_of_ble_eq_true rfl) dX1_run_2 ⟨Nat.le_of_ble_eq_true rfl, Nat.le_of_ble_eq_true rfl⟩ (fun r_1 hr_1 => ?_)
  obtain rfl := hr_1
  refine lv_istore (lv' := [(5, .int 71), (0, .ref mv), (1, .int 6), (2, .int 1), (3, .int x), (4, .int 0)]) hx hb dX1_run_5 hl (by decide) rfl (fun ls hl => ?_)
  refine lv_iload hx hb dX1_run_7 (lv_at hl 0 rfl) ?_
  refine lv_iconst (v := (-1)) hx hb dX1_run_9 (by decide) ?_
  refine lv_icmp_eq (tgt := 20) hx hb dX1_run_10 (by decide) (fun c_2 => ?_) (fun c_2 => ?_)
  · exact absurd c_2 (by decide)
  · refine lv_iload hx hb dX1_run_13 (lv_at hl 5 rfl) ?_
    refine lv_bipush (v := 40) hx hb dX1_run_15 (by decide) ?_
    refine lv_icmp_lt (tgt := 22) hx hb dX1_run_17 (by decide) (fun c_3 => ?_) (fun c_3 => ?_)
    · refine lv_aload_n hx hb dX1_run_22 rfl (lv_at hl 1 rfl) ?_
      refine lv_iload hx hb dX1_run_23 (lv_at hl 0 rfl) ?_
      skip
      refine zw_Vv (As := [.int 71]) (rest := []) (wr := []) ⟨hx, hb, hml, hown, hts⟩ (c_M_note l D cI cJ cZ cP cS po mv mb (mr) (6) (mm) (mq) fb (71) hy0 (by omega) H.size) (cwV 1 hts gX1_run_X1_note rfl rfl rfl ⟨rfl, dh_X1_note⟩ ⟨Nat.le_of_ble_eq_true rfl, Nat.le_of_ble_eq_true rfl⟩) hK hN (hZ.kept hS) hP hD hS hA [0, 1] [] rfl rfl (by decide) (by decide) (by decide) (va_recv (q := (RX1, TX1, 5)) hK hP (ci := 1) (q0 := 0) rfl rfl) rfl hl.1 rfl (Nat.le_of_ble_eq_true rfl) dX1_run_25 ⟨Nat.le_of_ble_eq_true rfl, Nat.le_of_ble_eq_true rfl⟩ (fun u_5 H locs hr_4 hP hD hS => ?_)
      obtain ⟨q_6, q_7⟩ := u_5
      try dsimp only at hr_4
      obtain ⟨hbq_6, hr_4⟩ := hr_4
      have h9R := zRe (ws' := [(mv, .inr (1, [.ref mb, .int q_6, .int 6, .int mm, .int mq])), (mb, .inl (cI, 20, .inl q_7))]) hP hD rfl
      clear hP hD
      obtain ⟨hP, hD⟩ := h9R
      refine lv_iload hx hb dX1_run_28 (lv_at hl 5 rfl) ?_
      refine lv_iconst (v := 1) hx hb dX1_run_30 (by decide) ?_
      refine lv_iadd hx hb dX1_run_31 ?_
      refine lv_topi (fun y_8 ey_8 => ?_)
      obtain rfl : y_8 = 1 := ey_8.trans (by decide)
      refine lv_istore (lv' := [(6, .int 1), (5, .int 71), (0, .ref mv), (1, .int 6), (2, .int 1), (3, .int x), (4, .int 0)]) hx hb dX1_run_32 hl (by decide) rfl (fun ls hl => ?_)
      refine lv_iload hx hb dX1_run_34 (lv_at hl 1 rfl) ?_
      refine lv_lookup (off := 234) (tgt := 270) hx hb dX1_run_36 (by decide) (by decide) (by decide) ?_
      refine lv_aload_n hx hb dX1_run_270 rfl (lv_at hl 2 rfl) ?_
      refine lv_iconst (v := 4) hx hb dX1_run_271 (by decide) ?_
      refine lv_iconst (v := 1) hx hb dX1_run_272 (by decide) ?_
      refine lv_iload_n hx hb dX1_run_273 rfl (lv_at hl 5 rfl) ?_
      refine lv_aload_n hx hb dX1_run_274 rfl (lv_at hl 2 rfl) ?_
      refine va_get (D := D) (ci := 1) (v := .int mq) (C := RX1) (T := TX1) (N := 5) hx hb hts hi_X1_run_1 hown hK hP 0 rfl rfl 4 (by decide) (hts (.fieldLink RX1 25 "TheLiningsInIt$Moves" "k" "I") (List.mem_of_getElem? (i := 3) rfl)) (fun _ h9 => h9) rfl dX1_run_275 ?_
      refine lv_isub hx hb dX1_run_278 ?_
      refine lv_topi (fun x_9 ex_9 => ?_)
      refine lv_iload hx hb dX1_run_279 (lv_at hl 0 rfl) ?_
      skip
      refine zw_V (As := [.int 4, .int 1, .int x_9, .int 1]) (rest := []) (wr := []) ⟨hx, hb, hml, hown, hts⟩ (c_M_run_6_4_1_1 l D cI cJ cZ cP cS po mv mb (q_6) (mm) (mq) q_7 (x_9) (by omega) (by omega) H.size) (cwV 4 hts gX1_run_X1_run rfl rfl rfl ⟨rfl, dh_X1_run⟩ ⟨Nat.le_of_ble_eq_true rfl, Nat.le_of_ble_eq_true rfl⟩) hK hN (hZ.kept hS) hP hD hS hA [0, 1] [] rfl rfl (by decide) (by decide) (by decide) (va_recv (q := (RX1, TX1, 5)) hK hP (ci := 1) (q0 := 0) rfl rfl) rfl hl.1 rfl (Nat.le_of_ble_eq_true rfl) dX1_run_281 ⟨Nat.le_of_ble_eq_true rfl, Nat.le_of_ble_eq_true rfl⟩ (fun r_10 u_11 H locs hr_10 hP hD hS => ?_)
      obtain ⟨q_12, q_13⟩ := u_11
      try dsimp only at hr_10
      obtain ⟨hbq_12, hr_10⟩ := hr_10
      have h9R := zRe (ws' := [(mv, .inr (1, [.ref mb, .int q_12, .int 6, .int mm, .int mq])), (mb, .inl (cI, 20, .inl q_13))]) hP hD rfl
      clear hP hD
      obtain ⟨hP, hD⟩ := h9R
      exact W.iret (v := r_10) hx hb hr (fun t ht hW => ⟨⟨r_10, (q_12, q_13), rfl, ⟨(show q_12.toInt = mr.toInt + 5 from by omega), trivial⟩, zRet ht hP hD [0, 1] (by decide) rfl⟩, hS.F ht⟩) hS.2.2 dX1_run_284
    · exact absurd c_3 (by decide)
set_option maxHeartbeats 4000000 in
set_option maxRecDepth 100000 in
theorem c_M_run_6_0_0_6 (l : Launch) (D : va_G) (cI cJ cZ cP cS : ClassId) (po : zPool) (mv mb : Nat) (mr mm mq : Int32) (fb : Nat → Int32) (x : Int32) (hy0 : 0 ≤ mr.toInt) (hy1 : mr.toInt ≤ 1600) (hpz : Nat) : Met l yX1_run wsX1_run ({ frames := 2, cells := 0, slots := 0, locals := 46 }) (va_Pc [.ref mv, .int 0, .int 0, .int x, .int 6] (zW D (zKT cI cJ cZ cP cS) po [(mv, .inr (1, [.ref mb, .int mr, .int 6, .int mm, .int mq])), (mb, .inl (cI, 20, .inl fb))] hpz)) (va_Qi (fun (r : Int32) (u : (Int32) × (Nat → Int32)) => u.1.toInt = mr.toInt + 1 ∧ (True)) (zB D [(mv, .inr (1, [.ref mb, .int mr, .int 6, .int mm, .int mq])), (mb, .inl (cI, 20, .inl fb))] hpz (fun (u : (Int32) × (Nat → Int32)) => [(mv, .inr (1, [.ref mb, .int u.1, .int 6, .int mm, .int mq])), (mb, .inl (cI, 20, .inl u.2))])) (va_A [(mv, .inr (1, [.ref mb, .int mr, .int 6, .int mm, .int mq])), (mb, .inl (cI, 20, .inl fb))] hpz)) 0 0 (va_A [(mv, .inr (1, [.ref mb, .int mr, .int 6, .int mm, .int mq])), (mb, .inl (cI, 20, .inl fb))] hpz) := by
  refine Met.ofW (cc := cX1_run) (maxL := 7) (ret := (some .int)) (by decide) rfl ?_
  intro p e s m args below meth c s₁ B hml hv
  obtain ⟨rfl, hsz, hP, hK, hD0, hN, hZ⟩ := hv
  have hx := B.exec
  have hb := B.bytes
  have hr := B.returns
  have hts := atoms_spec (ws := wsX1_run) B.pre
  have hown : s.vm.findClass RX1 = some m.cls := findClass_of_methodNamed B.named
  have hlocks := B.notSynchronized
  subst hsz
  have hD := hD0.self (sz := s.heap.size)
  have hA := zA_of hD
  have hl := lv_entry ([.ref mv, .int 0, .int 0, .int x, .int 6]) (n := 7) (Nat.le_of_ble_eq_true rfl)
  rw [lg_entry_eq]
  generalize (lg_sl ([.ref mv, .int 0, .int 0, .int x, .int 6]) ++ List.replicate (7 - (lg_sl ([.ref mv, .int 0, .int 0, .int x, .int 6])).length) Slot.unset).toArray = ls at hl ⊢
  replace hl : lv_has ls 7 [(0, .ref mv), (1, .int 0), (2, .int 0), (3, .int x), (4, .int 6)] := hl
  refine zw_begin hP hD (fun H locs hP1 hS => ?_)
  clear hP
  have hP := hP1
  clear hP1
  refine lv_iload_n hx hb dX1_run_0 rfl (lv_at hl 1 rfl) ?_
  refine lv_iload_n hx hb dX1_run_1 rfl (lv_at hl 2 rfl) ?_
  refine zc_S (As := [.int 0, .int 0]) (rest := []) ⟨hx, hb, hml, hown, hts⟩ (c_M_bodyFor_0_0 l D cI cJ cZ cP cS po  ) (va_cwS 2 hts gX1_run_X1_bodyFor rfl rfl rfl dh_X1_bodyFor ⟨Nat.le_of_ble_eq_true rfl, Nat.le_of_ble_eq_true rfl⟩) hK hN (hZ.kept hS) rfl hl.1 rfl (Nat.le_of_ble_eq_true rfl) dX1_run_2 ⟨Nat.le_of_ble_eq_true rfl, Nat.le_of_ble_eq_true rfl⟩ (fun r_1 hr_1 => ?_)
  obtain rfl := hr_1
  refine lv_istore (lv' := [(5, .int 10), (0, .ref mv), (1, .int 0), (2, .int 0), (3, .int x), (4, .int 6)]) hx hb dX1_run_5 hl (by decide) rfl (fun ls hl => ?_)
  refine lv_iload hx hb dX1_run_7 (lv_at hl 0 rfl) ?_
  refine lv_iconst (v := (-1)) hx hb dX1_run_9 (by decide) ?_
  refine lv_icmp_eq (tgt := 20) hx hb dX1_run_10 (by decide) (fun c_2 => ?_) (fun c_2 => ?_)
  · exact absurd c_2 (by decide)
  · refine lv_iload hx hb dX1_run_13 (lv_at hl 5 rfl) ?_
    refine lv_bipush (v := 40) hx hb dX1_run_15 (by decide) ?_
    refine lv_icmp_lt (tgt := 22) hx hb dX1_run_17 (by decide) (fun c_3 => ?_) (fun c_3 => ?_)
    · refine lv_aload_n hx hb dX1_run_22 rfl (lv_at hl 1 rfl) ?_
      refine lv_iload hx hb dX1_run_23 (lv_at hl 0 rfl) ?_
      skip
      refine zw_Vv (As := [.int 10]) (rest := []) (wr := []) ⟨hx, hb, hml, hown, hts⟩ (c_M_note l D cI cJ cZ cP cS po mv mb (mr) (6) (mm) (mq) fb (10) hy0 (by omega) H.size) (cwV 1 hts gX1_run_X1_note rfl rfl rfl ⟨rfl, dh_X1_note⟩ ⟨Nat.le_of_ble_eq_true rfl, Nat.le_of_ble_eq_true rfl⟩) hK hN (hZ.kept hS) hP hD hS hA [0, 1] [] rfl rfl (by decide) (by decide) (by decide) (va_recv (q := (RX1, TX1, 5)) hK hP (ci := 1) (q0 := 0) rfl rfl) rfl hl.1 rfl (Nat.le_of_ble_eq_true rfl) dX1_run_25 ⟨Nat.le_of_ble_eq_true rfl, Nat.le_of_ble_eq_true rfl⟩ (fun u_5 H locs hr_4 hP hD hS => ?_)
      obtain ⟨q_6, q_7⟩ := u_5
      try dsimp only at hr_4
      obtain ⟨hbq_6, hr_4⟩ := hr_4
      have h9R := zRe (ws' := [(mv, .inr (1, [.ref mb, .int q_6, .int 6, .int mm, .int mq])), (mb, .inl (cI, 20, .inl q_7))]) hP hD rfl
      clear hP hD
      obtain ⟨hP, hD⟩ := h9R
      refine lv_iload hx hb dX1_run_28 (lv_at hl 5 rfl) ?_
      refine lv_iconst (v := 1) hx hb dX1_run_30 (by decide) ?_
      refine lv_iadd hx hb dX1_run_31 ?_
      refine lv_topi (fun y_8 ey_8 => ?_)
      obtain rfl : y_8 = 7 := ey_8.trans (by decide)
      refine lv_istore (lv' := [(6, .int 7), (5, .int 10), (0, .ref mv), (1, .int 0), (2, .int 0), (3, .int x), (4, .int 6)]) hx hb dX1_run_32 hl (by decide) rfl (fun ls hl => ?_)
      refine lv_iload hx hb dX1_run_34 (lv_at hl 1 rfl) ?_
      refine lv_lookup (off := 92) (tgt := 128) hx hb dX1_run_36 (by decide) (by decide) (by decide) ?_
      refine lv_iload_n hx hb dX1_run_128 rfl (lv_at hl 5 rfl) ?_
      refine lv_aload_n hx hb dX1_run_129 rfl (lv_at hl 2 rfl) ?_
      refine va_get (D := D) (ci := 1) (v := .int mm) (C := RX1) (T := TX1) (N := 5) hx hb hts hi_X1_run_1 hown hK hP 0 rfl rfl 3 (by decide) (hts (.fieldLink RX1 22 "TheLiningsInIt$Moves" "m" "I") (List.mem_of_getElem? (i := 1) rfl)) (fun _ h9 => h9) rfl dX1_run_130 ?_
      refine lv_iadd hx hb dX1_run_133 ?_
      refine lv_topi (fun x_9 ex_9 => ?_)
      exact W.iret (v := x_9) hx hb hr (fun t ht hW => ⟨⟨x_9, (q_6, q_7), rfl, ⟨(show q_6.toInt = mr.toInt + 1 from by omega), trivial⟩, zRet ht hP hD [0, 1] (by decide) rfl⟩, hS.F ht⟩) hS.2.2 dX1_run_134
    · exact absurd c_3 (by decide)
set_option maxHeartbeats 4000000 in
set_option maxRecDepth 100000 in
theorem c_M_run_6_4_0_5 (l : Launch) (D : va_G) (cI cJ cZ cP cS : ClassId) (po : zPool) (mv mb : Nat) (mr mm mq : Int32) (fb : Nat → Int32) (x : Int32) (hy0 : 0 ≤ mr.toInt) (hy1 : mr.toInt ≤ 1500) (hpz : Nat) : Met l yX1_run wsX1_run ({ frames := 3, cells := 0, slots := 0, locals := 72 }) (va_Pc [.ref mv, .int 4, .int 0, .int x, .int 5] (zW D (zKT cI cJ cZ cP cS) po [(mv, .inr (1, [.ref mb, .int mr, .int 6, .int mm, .int mq])), (mb, .inl (cI, 20, .inl fb))] hpz)) (va_Qi (fun (r : Int32) (u : (Int32) × (Nat → Int32)) => u.1.toInt = mr.toInt + 2 ∧ (True)) (zB D [(mv, .inr (1, [.ref mb, .int mr, .int 6, .int mm, .int mq])), (mb, .inl (cI, 20, .inl fb))] hpz (fun (u : (Int32) × (Nat → Int32)) => [(mv, .inr (1, [.ref mb, .int u.1, .int 6, .int mm, .int mq])), (mb, .inl (cI, 20, .inl u.2))])) (va_A [(mv, .inr (1, [.ref mb, .int mr, .int 6, .int mm, .int mq])), (mb, .inl (cI, 20, .inl fb))] hpz)) 0 0 (va_A [(mv, .inr (1, [.ref mb, .int mr, .int 6, .int mm, .int mq])), (mb, .inl (cI, 20, .inl fb))] hpz) := by
  refine Met.ofW (cc := cX1_run) (maxL := 7) (ret := (some .int)) (by decide) rfl ?_
  intro p e s m args below meth c s₁ B hml hv
  obtain ⟨rfl, hsz, hP, hK, hD0, hN, hZ⟩ := hv
  have hx := B.exec
  have hb := B.bytes
  have hr := B.returns
  have hts := atoms_spec (ws := wsX1_run) B.pre
  have hown : s.vm.findClass RX1 = some m.cls := findClass_of_methodNamed B.named
  have hlocks := B.notSynchronized
  subst hsz
  have hD := hD0.self (sz := s.heap.size)
  have hA := zA_of hD
  have hl := lv_entry ([.ref mv, .int 4, .int 0, .int x, .int 5]) (n := 7) (Nat.le_of_ble_eq_true rfl)
  rw [lg_entry_eq]
  generalize (lg_sl ([.ref mv, .int 4, .int 0, .int x, .int 5]) ++ List.replicate (7 - (lg_sl ([.ref mv, .int 4, .int 0, .int x, .int 5])).length) Slot.unset).toArray = ls at hl ⊢
  replace hl : lv_has ls 7 [(0, .ref mv), (1, .int 4), (2, .int 0), (3, .int x), (4, .int 5)] := hl
  refine zw_begin hP hD (fun H locs hP1 hS => ?_)
  clear hP
  have hP := hP1
  clear hP1
  refine lv_iload_n hx hb dX1_run_0 rfl (lv_at hl 1 rfl) ?_
  refine lv_iload_n hx hb dX1_run_1 rfl (lv_at hl 2 rfl) ?_
  refine zc_S (As := [.int 4, .int 0]) (rest := []) ⟨hx, hb, hml, hown, hts⟩ (c_M_bodyFor_4_0 l D cI cJ cZ cP cS po  ) (va_cwS 2 hts gX1_run_X1_bodyFor rfl rfl rfl dh_X1_bodyFor ⟨Nat.le_of_ble_eq_true rfl, Nat.le_of_ble_eq_true rfl⟩) hK hN (hZ.kept hS) rfl hl.1 rfl (Nat.le_of_ble_eq_true rfl) dX1_run_2 ⟨Nat.le_of_ble_eq_true rfl, Nat.le_of_ble_eq_true rfl⟩ (fun r_1 hr_1 => ?_)
  obtain rfl := hr_1
  refine lv_istore (lv' := [(5, .int 51), (0, .ref mv), (1, .int 4), (2, .int 0), (3, .int x), (4, .int 5)]) hx hb dX1_run_5 hl (by decide) rfl (fun ls hl => ?_)
  refine lv_iload hx hb dX1_run_7 (lv_at hl 0 rfl) ?_
  refine lv_iconst (v := (-1)) hx hb dX1_run_9 (by decide) ?_
  refine lv_icmp_eq (tgt := 20) hx hb dX1_run_10 (by decide) (fun c_2 => ?_) (fun c_2 => ?_)
  · exact absurd c_2 (by decide)
  · refine lv_iload hx hb dX1_run_13 (lv_at hl 5 rfl) ?_
    refine lv_bipush (v := 40) hx hb dX1_run_15 (by decide) ?_
    refine lv_icmp_lt (tgt := 22) hx hb dX1_run_17 (by decide) (fun c_3 => ?_) (fun c_3 => ?_)
    · refine lv_aload_n hx hb dX1_run_22 rfl (lv_at hl 1 rfl) ?_
      refine lv_iload hx hb dX1_run_23 (lv_at hl 0 rfl) ?_
      skip
      refine zw_Vv (As := [.int 51]) (rest := []) (wr := []) ⟨hx, hb, hml, hown, hts⟩ (c_M_note l D cI cJ cZ cP cS po mv mb (mr) (6) (mm) (mq) fb (51) hy0 (by omega) H.size) (cwV 1 hts gX1_run_X1_note rfl rfl rfl ⟨rfl, dh_X1_note⟩ ⟨Nat.le_of_ble_eq_true rfl, Nat.le_of_ble_eq_true rfl⟩) hK hN (hZ.kept hS) hP hD hS hA [0, 1] [] rfl rfl (by decide) (by decide) (by decide) (va_recv (q := (RX1, TX1, 5)) hK hP (ci := 1) (q0 := 0) rfl rfl) rfl hl.1 rfl (Nat.le_of_ble_eq_true rfl) dX1_run_25 ⟨Nat.le_of_ble_eq_true rfl, Nat.le_of_ble_eq_true rfl⟩ (fun u_5 H locs hr_4 hP hD hS => ?_)
      obtain ⟨q_6, q_7⟩ := u_5
      try dsimp only at hr_4
      obtain ⟨hbq_6, hr_4⟩ := hr_4
      have h9R := zRe (ws' := [(mv, .inr (1, [.ref mb, .int q_6, .int 6, .int mm, .int mq])), (mb, .inl (cI, 20, .inl q_7))]) hP hD rfl
      clear hP hD
      obtain ⟨hP, hD⟩ := h9R
      refine lv_iload hx hb dX1_run_28 (lv_at hl 5 rfl) ?_
      refine lv_iconst (v := 1) hx hb dX1_run_30 (by decide) ?_
      refine lv_iadd hx hb dX1_run_31 ?_
      refine lv_topi (fun y_8 ey_8 => ?_)
      obtain rfl : y_8 = 6 := ey_8.trans (by decide)
      refine lv_istore (lv' := [(6, .int 6), (5, .int 51), (0, .ref mv), (1, .int 4), (2, .int 0), (3, .int x), (4, .int 5)]) hx hb dX1_run_32 hl (by decide) rfl (fun ls hl => ?_)
      refine lv_iload hx hb dX1_run_34 (lv_at hl 1 rfl) ?_
      refine lv_lookup (off := 195) (tgt := 231) hx hb dX1_run_36 (by decide) (by decide) (by decide) ?_
      refine lv_aload_n hx hb dX1_run_231 rfl (lv_at hl 2 rfl) ?_
      refine lv_iconst (v := 0) hx hb dX1_run_232 (by decide) ?_
      refine lv_iconst (v := 0) hx hb dX1_run_233 (by decide) ?_
      refine lv_iload_n hx hb dX1_run_234 rfl (lv_at hl 5 rfl) ?_
      refine lv_iload hx hb dX1_run_235 (lv_at hl 0 rfl) ?_
      skip
      refine zw_V (As := [.int 0, .int 0, .int x, .int 6]) (rest := []) (wr := []) ⟨hx, hb, hml, hown, hts⟩ (c_M_run_6_0_0_6 l D cI cJ cZ cP cS po mv mb (q_6) (mm) (mq) q_7 (x) (by omega) (by omega) H.size) (cwV 4 hts gX1_run_X1_run rfl rfl rfl ⟨rfl, dh_X1_run⟩ ⟨Nat.le_of_ble_eq_true rfl, Nat.le_of_ble_eq_true rfl⟩) hK hN (hZ.kept hS) hP hD hS hA [0, 1] [] rfl rfl (by decide) (by decide) (by decide) (va_recv (q := (RX1, TX1, 5)) hK hP (ci := 1) (q0 := 0) rfl rfl) rfl hl.1 rfl (Nat.le_of_ble_eq_true rfl) dX1_run_237 ⟨Nat.le_of_ble_eq_true rfl, Nat.le_of_ble_eq_true rfl⟩ (fun r_9 u_10 H locs hr_9 hP hD hS => ?_)
      obtain ⟨q_11, q_12⟩ := u_10
      try dsimp only at hr_9
      obtain ⟨hbq_11, hr_9⟩ := hr_9
      have h9R := zRe (ws' := [(mv, .inr (1, [.ref mb, .int q_11, .int 6, .int mm, .int mq])), (mb, .inl (cI, 20, .inl q_12))]) hP hD rfl
      clear hP hD
      obtain ⟨hP, hD⟩ := h9R
      refine lv_aload_n hx hb dX1_run_240 rfl (lv_at hl 2 rfl) ?_
      refine va_get (D := D) (ci := 1) (v := .int mm) (C := RX1) (T := TX1) (N := 5) hx hb hts hi_X1_run_1 hown hK hP 0 rfl rfl 3 (by decide) (hts (.fieldLink RX1 22 "TheLiningsInIt$Moves" "m" "I") (List.mem_of_getElem? (i := 1) rfl)) (fun _ h9 => h9) rfl dX1_run_241 ?_
      refine lv_isub hx hb dX1_run_244 ?_
      refine lv_topi (fun x_13 ex_13 => ?_)
      exact W.iret (v := x_13) hx hb hr (fun t ht hW => ⟨⟨x_13, (q_11, q_12), rfl, ⟨(show q_11.toInt = mr.toInt + 2 from by omega), trivial⟩, zRet ht hP hD [0, 1] (by decide) rfl⟩, hS.F ht⟩) hS.2.2 dX1_run_245
    · exact absurd c_3 (by decide)
set_option maxHeartbeats 4000000 in
set_option maxRecDepth 100000 in
theorem c_M_run_6_6_0_4 (l : Launch) (D : va_G) (cI cJ cZ cP cS : ClassId) (po : zPool) (mv mb : Nat) (mr mm mq : Int32) (fb : Nat → Int32) (x : Int32) (hy0 : 0 ≤ mr.toInt) (hy1 : mr.toInt ≤ 1400) (hpz : Nat) : Met l yX1_run wsX1_run ({ frames := 4, cells := 0, slots := 0, locals := 98 }) (va_Pc [.ref mv, .int 6, .int 0, .int x, .int 4] (zW D (zKT cI cJ cZ cP cS) po [(mv, .inr (1, [.ref mb, .int mr, .int 6, .int mm, .int mq])), (mb, .inl (cI, 20, .inl fb))] hpz)) (va_Qi (fun (r : Int32) (u : (Int32) × (Nat → Int32)) => u.1.toInt = mr.toInt + 3 ∧ (True)) (zB D [(mv, .inr (1, [.ref mb, .int mr, .int 6, .int mm, .int mq])), (mb, .inl (cI, 20, .inl fb))] hpz (fun (u : (Int32) × (Nat → Int32)) => [(mv, .inr (1, [.ref mb, .int u.1, .int 6, .int mm, .int mq])), (mb, .inl (cI, 20, .inl u.2))])) (va_A [(mv, .inr (1, [.ref mb, .int mr, .int 6, .int mm, .int mq])), (mb, .inl (cI, 20, .inl fb))] hpz)) 0 0 (va_A [(mv, .inr (1, [.ref mb, .int mr, .int 6, .int mm, .int mq])), (mb, .inl (cI, 20, .inl fb))] hpz) := by
  refine Met.ofW (cc := cX1_run) (maxL := 7) (ret := (some .int)) (by decide) rfl ?_
  intro p e s m args below meth c s₁ B hml hv
  obtain ⟨rfl, hsz, hP, hK, hD0, hN, hZ⟩ := hv
  have hx := B.exec
  have hb := B.bytes
  have hr := B.returns
  have hts := atoms_spec (ws := wsX1_run) B.pre
  have hown : s.vm.findClass RX1 = some m.cls := findClass_of_methodNamed B.named
  have hlocks := B.notSynchronized
  subst hsz
  have hD := hD0.self (sz := s.heap.size)
  have hA := zA_of hD
  have hl := lv_entry ([.ref mv, .int 6, .int 0, .int x, .int 4]) (n := 7) (Nat.le_of_ble_eq_true rfl)
  rw [lg_entry_eq]
  generalize (lg_sl ([.ref mv, .int 6, .int 0, .int x, .int 4]) ++ List.replicate (7 - (lg_sl ([.ref mv, .int 6, .int 0, .int x, .int 4])).length) Slot.unset).toArray = ls at hl ⊢
  replace hl : lv_has ls 7 [(0, .ref mv), (1, .int 6), (2, .int 0), (3, .int x), (4, .int 4)] := hl
  refine zw_begin hP hD (fun H locs hP1 hS => ?_)
  clear hP
  have hP := hP1
  clear hP1
  refine lv_iload_n hx hb dX1_run_0 rfl (lv_at hl 1 rfl) ?_
  refine lv_iload_n hx hb dX1_run_1 rfl (lv_at hl 2 rfl) ?_
  refine zc_S (As := [.int 6, .int 0]) (rest := []) ⟨hx, hb, hml, hown, hts⟩ (c_M_bodyFor_6_0 l D cI cJ cZ cP cS po  ) (va_cwS 2 hts gX1_run_X1_bodyFor rfl rfl rfl dh_X1_bodyFor ⟨Nat.le_of_ble_eq_true rfl, Nat.le_of_ble_eq_true rfl⟩) hK hN (hZ.kept hS) rfl hl.1 rfl (Nat.le_of_ble_eq_true rfl) dX1_run_2 ⟨Nat.le_of_ble_eq_true rfl, Nat.le_of_ble_eq_true rfl⟩ (fun r_1 hr_1 => ?_)
  obtain rfl := hr_1
  refine lv_istore (lv' := [(5, .int 70), (0, .ref mv), (1, .int 6), (2, .int 0), (3, .int x), (4, .int 4)]) hx hb dX1_run_5 hl (by decide) rfl (fun ls hl => ?_)
  refine lv_iload hx hb dX1_run_7 (lv_at hl 0 rfl) ?_
  refine lv_iconst (v := (-1)) hx hb dX1_run_9 (by decide) ?_
  refine lv_icmp_eq (tgt := 20) hx hb dX1_run_10 (by decide) (fun c_2 => ?_) (fun c_2 => ?_)
  · exact absurd c_2 (by decide)
  · refine lv_iload hx hb dX1_run_13 (lv_at hl 5 rfl) ?_
    refine lv_bipush (v := 40) hx hb dX1_run_15 (by decide) ?_
    refine lv_icmp_lt (tgt := 22) hx hb dX1_run_17 (by decide) (fun c_3 => ?_) (fun c_3 => ?_)
    · refine lv_aload_n hx hb dX1_run_22 rfl (lv_at hl 1 rfl) ?_
      refine lv_iload hx hb dX1_run_23 (lv_at hl 0 rfl) ?_
      skip
      refine zw_Vv (As := [.int 70]) (rest := []) (wr := []) ⟨hx, hb, hml, hown, hts⟩ (c_M_note l D cI cJ cZ cP cS po mv mb (mr) (6) (mm) (mq) fb (70) hy0 (by omega) H.size) (cwV 1 hts gX1_run_X1_note rfl rfl rfl ⟨rfl, dh_X1_note⟩ ⟨Nat.le_of_ble_eq_true rfl, Nat.le_of_ble_eq_true rfl⟩) hK hN (hZ.kept hS) hP hD hS hA [0, 1] [] rfl rfl (by decide) (by decide) (by decide) (va_recv (q := (RX1, TX1, 5)) hK hP (ci := 1) (q0 := 0) rfl rfl) rfl hl.1 rfl (Nat.le_of_ble_eq_true rfl) dX1_run_25 ⟨Nat.le_of_ble_eq_true rfl, Nat.le_of_ble_eq_true rfl⟩ (fun u_5 H locs hr_4 hP hD hS => ?_)
      obtain ⟨q_6, q_7⟩ := u_5
      try dsimp only at hr_4
      obtain ⟨hbq_6, hr_4⟩ := hr_4
      have h9R := zRe (ws' := [(mv, .inr (1, [.ref mb, .int q_6, .int 6, .int mm, .int mq])), (mb, .inl (cI, 20, .inl q_7))]) hP hD rfl
      clear hP hD
      obtain ⟨hP, hD⟩ := h9R
      refine lv_iload hx hb dX1_run_28 (lv_at hl 5 rfl) ?_
      refine lv_iconst (v := 1) hx hb dX1_run_30 (by decide) ?_
      refine lv_iadd hx hb dX1_run_31 ?_
      refine lv_topi (fun y_8 ey_8 => ?_)
      obtain rfl : y_8 = 5 := ey_8.trans (by decide)
      refine lv_istore (lv' := [(6, .int 5), (5, .int 70), (0, .ref mv), (1, .int 6), (2, .int 0), (3, .int x), (4, .int 4)]) hx hb dX1_run_32 hl (by decide) rfl (fun ls hl => ?_)
      refine lv_iload hx hb dX1_run_34 (lv_at hl 1 rfl) ?_
      refine lv_lookup (off := 222) (tgt := 258) hx hb dX1_run_36 (by decide) (by decide) (by decide) ?_
      refine lv_aload_n hx hb dX1_run_258 rfl (lv_at hl 2 rfl) ?_
      refine lv_iconst (v := 4) hx hb dX1_run_259 (by decide) ?_
      refine lv_iconst (v := 0) hx hb dX1_run_260 (by decide) ?_
      refine lv_iload_n hx hb dX1_run_261 rfl (lv_at hl 5 rfl) ?_
      refine lv_iload hx hb dX1_run_262 (lv_at hl 0 rfl) ?_
      skip
      refine zw_V (As := [.int 4, .int 0, .int x, .int 5]) (rest := []) (wr := []) ⟨hx, hb, hml, hown, hts⟩ (c_M_run_6_4_0_5 l D cI cJ cZ cP cS po mv mb (q_6) (mm) (mq) q_7 (x) (by omega) (by omega) H.size) (cwV 4 hts gX1_run_X1_run rfl rfl rfl ⟨rfl, dh_X1_run⟩ ⟨Nat.le_of_ble_eq_true rfl, Nat.le_of_ble_eq_true rfl⟩) hK hN (hZ.kept hS) hP hD hS hA [0, 1] [] rfl rfl (by decide) (by decide) (by decide) (va_recv (q := (RX1, TX1, 5)) hK hP (ci := 1) (q0 := 0) rfl rfl) rfl hl.1 rfl (Nat.le_of_ble_eq_true rfl) dX1_run_264 ⟨Nat.le_of_ble_eq_true rfl, Nat.le_of_ble_eq_true rfl⟩ (fun r_9 u_10 H locs hr_9 hP hD hS => ?_)
      obtain ⟨q_11, q_12⟩ := u_10
      try dsimp only at hr_9
      obtain ⟨hbq_11, hr_9⟩ := hr_9
      have h9R := zRe (ws' := [(mv, .inr (1, [.ref mb, .int q_11, .int 6, .int mm, .int mq])), (mb, .inl (cI, 20, .inl q_12))]) hP hD rfl
      clear hP hD
      obtain ⟨hP, hD⟩ := h9R
      refine lv_iconst (v := 2) hx hb dX1_run_267 (by decide) ?_
      refine lv_imul hx hb dX1_run_268 ?_
      refine lv_topi (fun x_13 ex_13 => ?_)
      exact W.iret (v := x_13) hx hb hr (fun t ht hW => ⟨⟨x_13, (q_11, q_12), rfl, ⟨(show q_11.toInt = mr.toInt + 3 from by omega), trivial⟩, zRet ht hP hD [0, 1] (by decide) rfl⟩, hS.F ht⟩) hS.2.2 dX1_run_269
    · exact absurd c_3 (by decide)
set_option maxHeartbeats 4000000 in
set_option maxRecDepth 100000 in
theorem c_M_run_6_4_1_3 (l : Launch) (D : va_G) (cI cJ cZ cP cS : ClassId) (po : zPool) (mv mb : Nat) (mr mm mq : Int32) (fb : Nat → Int32) (x : Int32) (hy0 : 0 ≤ mr.toInt) (hy1 : mr.toInt ≤ 1300) (hpz : Nat) : Met l yX1_run wsX1_run ({ frames := 5, cells := 0, slots := 0, locals := 124 }) (va_Pc [.ref mv, .int 4, .int 1, .int x, .int 3] (zW D (zKT cI cJ cZ cP cS) po [(mv, .inr (1, [.ref mb, .int mr, .int 6, .int mm, .int mq])), (mb, .inl (cI, 20, .inl fb))] hpz)) (va_Qi (fun (r : Int32) (u : (Int32) × (Nat → Int32)) => u.1.toInt = mr.toInt + 4 ∧ (True)) (zB D [(mv, .inr (1, [.ref mb, .int mr, .int 6, .int mm, .int mq])), (mb, .inl (cI, 20, .inl fb))] hpz (fun (u : (Int32) × (Nat → Int32)) => [(mv, .inr (1, [.ref mb, .int u.1, .int 6, .int mm, .int mq])), (mb, .inl (cI, 20, .inl u.2))])) (va_A [(mv, .inr (1, [.ref mb, .int mr, .int 6, .int mm, .int mq])), (mb, .inl (cI, 20, .inl fb))] hpz)) 0 0 (va_A [(mv, .inr (1, [.ref mb, .int mr, .int 6, .int mm, .int mq])), (mb, .inl (cI, 20, .inl fb))] hpz) := by
  refine Met.ofW (cc := cX1_run) (maxL := 7) (ret := (some .int)) (by decide) rfl ?_
  intro p e s m args below meth c s₁ B hml hv
  obtain ⟨rfl, hsz, hP, hK, hD0, hN, hZ⟩ := hv
  have hx := B.exec
  have hb := B.bytes
  have hr := B.returns
  have hts := atoms_spec (ws := wsX1_run) B.pre
  have hown : s.vm.findClass RX1 = some m.cls := findClass_of_methodNamed B.named
  have hlocks := B.notSynchronized
  subst hsz
  have hD := hD0.self (sz := s.heap.size)
  have hA := zA_of hD
  have hl := lv_entry ([.ref mv, .int 4, .int 1, .int x, .int 3]) (n := 7) (Nat.le_of_ble_eq_true rfl)
  rw [lg_entry_eq]
  generalize (lg_sl ([.ref mv, .int 4, .int 1, .int x, .int 3]) ++ List.replicate (7 - (lg_sl ([.ref mv, .int 4, .int 1, .int x, .int 3])).length) Slot.unset).toArray = ls at hl ⊢
  replace hl : lv_has ls 7 [(0, .ref mv), (1, .int 4), (2, .int 1), (3, .int x), (4, .int 3)] := hl
  refine zw_begin hP hD (fun H locs hP1 hS => ?_)
  clear hP
  have hP := hP1
  clear hP1
  refine lv_iload_n hx hb dX1_run_0 rfl (lv_at hl 1 rfl) ?_
  refine lv_iload_n hx hb dX1_run_1 rfl (lv_at hl 2 rfl) ?_
  refine zc_S (As := [.int 4, .int 1]) (rest := []) ⟨hx, hb, hml, hown, hts⟩ (c_M_bodyFor_4_1 l D cI cJ cZ cP cS po  ) (va_cwS 2 hts gX1_run_X1_bodyFor rfl rfl rfl dh_X1_bodyFor ⟨Nat.le_of_ble_eq_true rfl, Nat.le_of_ble_eq_true rfl⟩) hK hN (hZ.kept hS) rfl hl.1 rfl (Nat.le_of_ble_eq_true rfl) dX1_run_2 ⟨Nat.le_of_ble_eq_true rfl, Nat.le_of_ble_eq_true rfl⟩ (fun r_1 hr_1 => ?_)
  obtain rfl := hr_1
  refine lv_istore (lv' := [(5, .int 11), (0, .ref mv), (1, .int 4), (2, .int 1), (3, .int x), (4, .int 3)]) hx hb dX1_run_5 hl (by decide) rfl (fun ls hl => ?_)
  refine lv_iload hx hb dX1_run_7 (lv_at hl 0 rfl) ?_
  refine lv_iconst (v := (-1)) hx hb dX1_run_9 (by decide) ?_
  refine lv_icmp_eq (tgt := 20) hx hb dX1_run_10 (by decide) (fun c_2 => ?_) (fun c_2 => ?_)
  · exact absurd c_2 (by decide)
  · refine lv_iload hx hb dX1_run_13 (lv_at hl 5 rfl) ?_
    refine lv_bipush (v := 40) hx hb dX1_run_15 (by decide) ?_
    refine lv_icmp_lt (tgt := 22) hx hb dX1_run_17 (by decide) (fun c_3 => ?_) (fun c_3 => ?_)
    · refine lv_aload_n hx hb dX1_run_22 rfl (lv_at hl 1 rfl) ?_
      refine lv_iload hx hb dX1_run_23 (lv_at hl 0 rfl) ?_
      skip
      refine zw_Vv (As := [.int 11]) (rest := []) (wr := []) ⟨hx, hb, hml, hown, hts⟩ (c_M_note l D cI cJ cZ cP cS po mv mb (mr) (6) (mm) (mq) fb (11) hy0 (by omega) H.size) (cwV 1 hts gX1_run_X1_note rfl rfl rfl ⟨rfl, dh_X1_note⟩ ⟨Nat.le_of_ble_eq_true rfl, Nat.le_of_ble_eq_true rfl⟩) hK hN (hZ.kept hS) hP hD hS hA [0, 1] [] rfl rfl (by decide) (by decide) (by decide) (va_recv (q := (RX1, TX1, 5)) hK hP (ci := 1) (q0 := 0) rfl rfl) rfl hl.1 rfl (Nat.le_of_ble_eq_true rfl) dX1_run_25 ⟨Nat.le_of_ble_eq_true rfl, Nat.le_of_ble_eq_true rfl⟩ (fun u_5 H locs hr_4 hP hD hS => ?_)
      obtain ⟨q_6, q_7⟩ := u_5
      try dsimp only at hr_4
      obtain ⟨hbq_6, hr_4⟩ := hr_4
      have h9R := zRe (ws' := [(mv, .inr (1, [.ref mb, .int q_6, .int 6, .int mm, .int mq])), (mb, .inl (cI, 20, .inl q_7))]) hP hD rfl
      clear hP hD
      obtain ⟨hP, hD⟩ := h9R
      refine lv_iload hx hb dX1_run_28 (lv_at hl 5 rfl) ?_
      refine lv_iconst (v := 1) hx hb dX1_run_30 (by decide) ?_
      refine lv_iadd hx hb dX1_run_31 ?_
      refine lv_topi (fun y_8 ey_8 => ?_)
      obtain rfl : y_8 = 4 := ey_8.trans (by decide)
      refine lv_istore (lv' := [(6, .int 4), (5, .int 11), (0, .ref mv), (1, .int 4), (2, .int 1), (3, .int x), (4, .int 3)]) hx hb dX1_run_32 hl (by decide) rfl (fun ls hl => ?_)
      refine lv_iload hx hb dX1_run_34 (lv_at hl 1 rfl) ?_
      refine lv_lookup (off := 99) (tgt := 135) hx hb dX1_run_36 (by decide) (by decide) (by decide) ?_
      refine lv_aload_n hx hb dX1_run_135 rfl (lv_at hl 2 rfl) ?_
      refine lv_aload_n hx hb dX1_run_136 rfl (lv_at hl 2 rfl) ?_
      refine va_get (D := D) (ci := 1) (v := .int 6) (C := RX1) (T := TX1) (N := 5) hx hb hts hi_X1_run_1 hown hK hP 0 rfl rfl 2 (by decide) (hts (.fieldLink RX1 19 "TheLiningsInIt$Moves" "kind" "I") (List.mem_of_getElem? (i := 2) rfl)) (fun _ h9 => h9) rfl dX1_run_137 ?_
      refine lv_iconst (v := 0) hx hb dX1_run_140 (by decide) ?_
      refine lv_iload_n hx hb dX1_run_141 rfl (lv_at hl 5 rfl) ?_
      refine lv_iload hx hb dX1_run_142 (lv_at hl 0 rfl) ?_
      skip
      refine zw_V (As := [.int 6, .int 0, .int x, .int 4]) (rest := []) (wr := []) ⟨hx, hb, hml, hown, hts⟩ (c_M_run_6_6_0_4 l D cI cJ cZ cP cS po mv mb (q_6) (mm) (mq) q_7 (x) (by omega) (by omega) H.size) (cwV 4 hts gX1_run_X1_run rfl rfl rfl ⟨rfl, dh_X1_run⟩ ⟨Nat.le_of_ble_eq_true rfl, Nat.le_of_ble_eq_true rfl⟩) hK hN (hZ.kept hS) hP hD hS hA [0, 1] [] rfl rfl (by decide) (by decide) (by decide) (va_recv (q := (RX1, TX1, 5)) hK hP (ci := 1) (q0 := 0) rfl rfl) rfl hl.1 rfl (Nat.le_of_ble_eq_true rfl) dX1_run_144 ⟨Nat.le_of_ble_eq_true rfl, Nat.le_of_ble_eq_true rfl⟩ (fun r_9 u_10 H locs hr_9 hP hD hS => ?_)
      obtain ⟨q_11, q_12⟩ := u_10
      try dsimp only at hr_9
      obtain ⟨hbq_11, hr_9⟩ := hr_9
      have h9R := zRe (ws' := [(mv, .inr (1, [.ref mb, .int q_11, .int 6, .int mm, .int mq])), (mb, .inl (cI, 20, .inl q_12))]) hP hD rfl
      clear hP hD
      obtain ⟨hP, hD⟩ := h9R
      refine lv_iconst (v := 2) hx hb dX1_run_147 (by decide) ?_
      refine lv_imul hx hb dX1_run_148 ?_
      refine lv_topi (fun x_13 ex_13 => ?_)
      exact W.iret (v := x_13) hx hb hr (fun t ht hW => ⟨⟨x_13, (q_11, q_12), rfl, ⟨(show q_11.toInt = mr.toInt + 4 from by omega), trivial⟩, zRet ht hP hD [0, 1] (by decide) rfl⟩, hS.F ht⟩) hS.2.2 dX1_run_149
    · exact absurd c_3 (by decide)
set_option maxHeartbeats 4000000 in
set_option maxRecDepth 100000 in
theorem c_M_run_6_6_1_2 (l : Launch) (D : va_G) (cI cJ cZ cP cS : ClassId) (po : zPool) (mv mb : Nat) (mr mm mq : Int32) (fb : Nat → Int32) (x : Int32) (hy0 : 0 ≤ mr.toInt) (hy1 : mr.toInt ≤ 1200) (hpz : Nat) : Met l yX1_run wsX1_run ({ frames := 6, cells := 0, slots := 0, locals := 150 }) (va_Pc [.ref mv, .int 6, .int 1, .int x, .int 2] (zW D (zKT cI cJ cZ cP cS) po [(mv, .inr (1, [.ref mb, .int mr, .int 6, .int mm, .int mq])), (mb, .inl (cI, 20, .inl fb))] hpz)) (va_Qi (fun (r : Int32) (u : (Int32) × (Nat → Int32)) => u.1.toInt = mr.toInt + 5 ∧ (True)) (zB D [(mv, .inr (1, [.ref mb, .int mr, .int 6, .int mm, .int mq])), (mb, .inl (cI, 20, .inl fb))] hpz (fun (u : (Int32) × (Nat → Int32)) => [(mv, .inr (1, [.ref mb, .int u.1, .int 6, .int mm, .int mq])), (mb, .inl (cI, 20, .inl u.2))])) (va_A [(mv, .inr (1, [.ref mb, .int mr, .int 6, .int mm, .int mq])), (mb, .inl (cI, 20, .inl fb))] hpz)) 0 0 (va_A [(mv, .inr (1, [.ref mb, .int mr, .int 6, .int mm, .int mq])), (mb, .inl (cI, 20, .inl fb))] hpz) := by
  refine Met.ofW (cc := cX1_run) (maxL := 7) (ret := (some .int)) (by decide) rfl ?_
  intro p e s m args below meth c s₁ B hml hv
  obtain ⟨rfl, hsz, hP, hK, hD0, hN, hZ⟩ := hv
  have hx := B.exec
  have hb := B.bytes
  have hr := B.returns
  have hts := atoms_spec (ws := wsX1_run) B.pre
  have hown : s.vm.findClass RX1 = some m.cls := findClass_of_methodNamed B.named
  have hlocks := B.notSynchronized
  subst hsz
  have hD := hD0.self (sz := s.heap.size)
  have hA := zA_of hD
  have hl := lv_entry ([.ref mv, .int 6, .int 1, .int x, .int 2]) (n := 7) (Nat.le_of_ble_eq_true rfl)
  rw [lg_entry_eq]
  generalize (lg_sl ([.ref mv, .int 6, .int 1, .int x, .int 2]) ++ List.replicate (7 - (lg_sl ([.ref mv, .int 6, .int 1, .int x, .int 2])).length) Slot.unset).toArray = ls at hl ⊢
  replace hl : lv_has ls 7 [(0, .ref mv), (1, .int 6), (2, .int 1), (3, .int x), (4, .int 2)] := hl
  refine zw_begin hP hD (fun H locs hP1 hS => ?_)
  clear hP
  have hP := hP1
  clear hP1
  refine lv_iload_n hx hb dX1_run_0 rfl (lv_at hl 1 rfl) ?_
  refine lv_iload_n hx hb dX1_run_1 rfl (lv_at hl 2 rfl) ?_
  refine zc_S (As := [.int 6, .int 1]) (rest := []) ⟨hx, hb, hml, hown, hts⟩ (c_M_bodyFor_6_1 l D cI cJ cZ cP cS po  ) (va_cwS 2 hts gX1_run_X1_bodyFor rfl rfl rfl dh_X1_bodyFor ⟨Nat.le_of_ble_eq_true rfl, Nat.le_of_ble_eq_true rfl⟩) hK hN (hZ.kept hS) rfl hl.1 rfl (Nat.le_of_ble_eq_true rfl) dX1_run_2 ⟨Nat.le_of_ble_eq_true rfl, Nat.le_of_ble_eq_true rfl⟩ (fun r_1 hr_1 => ?_)
  obtain rfl := hr_1
  refine lv_istore (lv' := [(5, .int 71), (0, .ref mv), (1, .int 6), (2, .int 1), (3, .int x), (4, .int 2)]) hx hb dX1_run_5 hl (by decide) rfl (fun ls hl => ?_)
  refine lv_iload hx hb dX1_run_7 (lv_at hl 0 rfl) ?_
  refine lv_iconst (v := (-1)) hx hb dX1_run_9 (by decide) ?_
  refine lv_icmp_eq (tgt := 20) hx hb dX1_run_10 (by decide) (fun c_2 => ?_) (fun c_2 => ?_)
  · exact absurd c_2 (by decide)
  · refine lv_iload hx hb dX1_run_13 (lv_at hl 5 rfl) ?_
    refine lv_bipush (v := 40) hx hb dX1_run_15 (by decide) ?_
    refine lv_icmp_lt (tgt := 22) hx hb dX1_run_17 (by decide) (fun c_3 => ?_) (fun c_3 => ?_)
    · refine lv_aload_n hx hb dX1_run_22 rfl (lv_at hl 1 rfl) ?_
      refine lv_iload hx hb dX1_run_23 (lv_at hl 0 rfl) ?_
      skip
      refine zw_Vv (As := [.int 71]) (rest := []) (wr := []) ⟨hx, hb, hml, hown, hts⟩ (c_M_note l D cI cJ cZ cP cS po mv mb (mr) (6) (mm) (mq) fb (71) hy0 (by omega) H.size) (cwV 1 hts gX1_run_X1_note rfl rfl rfl ⟨rfl, dh_X1_note⟩ ⟨Nat.le_of_ble_eq_true rfl, Nat.le_of_ble_eq_true rfl⟩) hK hN (hZ.kept hS) hP hD hS hA [0, 1] [] rfl rfl (by decide) (by decide) (by decide) (va_recv (q := (RX1, TX1, 5)) hK hP (ci := 1) (q0 := 0) rfl rfl) rfl hl.1 rfl (Nat.le_of_ble_eq_true rfl) dX1_run_25 ⟨Nat.le_of_ble_eq_true rfl, Nat.le_of_ble_eq_true rfl⟩ (fun u_5 H locs hr_4 hP hD hS => ?_)
      obtain ⟨q_6, q_7⟩ := u_5
      try dsimp only at hr_4
      obtain ⟨hbq_6, hr_4⟩ := hr_4
      have h9R := zRe (ws' := [(mv, .inr (1, [.ref mb, .int q_6, .int 6, .int mm, .int mq])), (mb, .inl (cI, 20, .inl q_7))]) hP hD rfl
      clear hP hD
      obtain ⟨hP, hD⟩ := h9R
      refine lv_iload hx hb dX1_run_28 (lv_at hl 5 rfl) ?_
      refine lv_iconst (v := 1) hx hb dX1_run_30 (by decide) ?_
      refine lv_iadd hx hb dX1_run_31 ?_
      refine lv_topi (fun y_8 ey_8 => ?_)
      obtain rfl : y_8 = 3 := ey_8.trans (by decide)
      refine lv_istore (lv' := [(6, .int 3), (5, .int 71), (0, .ref mv), (1, .int 6), (2, .int 1), (3, .int x), (4, .int 2)]) hx hb dX1_run_32 hl (by decide) rfl (fun ls hl => ?_)
      refine lv_iload hx hb dX1_run_34 (lv_at hl 1 rfl) ?_
      refine lv_lookup (off := 234) (tgt := 270) hx hb dX1_run_36 (by decide) (by decide) (by decide) ?_
      refine lv_aload_n hx hb dX1_run_270 rfl (lv_at hl 2 rfl) ?_
      refine lv_iconst (v := 4) hx hb dX1_run_271 (by decide) ?_
      refine lv_iconst (v := 1) hx hb dX1_run_272 (by decide) ?_
      refine lv_iload_n hx hb dX1_run_273 rfl (lv_at hl 5 rfl) ?_
      refine lv_aload_n hx hb dX1_run_274 rfl (lv_at hl 2 rfl) ?_
      refine va_get (D := D) (ci := 1) (v := .int mq) (C := RX1) (T := TX1) (N := 5) hx hb hts hi_X1_run_1 hown hK hP 0 rfl rfl 4 (by decide) (hts (.fieldLink RX1 25 "TheLiningsInIt$Moves" "k" "I") (List.mem_of_getElem? (i := 3) rfl)) (fun _ h9 => h9) rfl dX1_run_275 ?_
      refine lv_isub hx hb dX1_run_278 ?_
      refine lv_topi (fun x_9 ex_9 => ?_)
      refine lv_iload hx hb dX1_run_279 (lv_at hl 0 rfl) ?_
      skip
      refine zw_V (As := [.int 4, .int 1, .int x_9, .int 3]) (rest := []) (wr := []) ⟨hx, hb, hml, hown, hts⟩ (c_M_run_6_4_1_3 l D cI cJ cZ cP cS po mv mb (q_6) (mm) (mq) q_7 (x_9) (by omega) (by omega) H.size) (cwV 4 hts gX1_run_X1_run rfl rfl rfl ⟨rfl, dh_X1_run⟩ ⟨Nat.le_of_ble_eq_true rfl, Nat.le_of_ble_eq_true rfl⟩) hK hN (hZ.kept hS) hP hD hS hA [0, 1] [] rfl rfl (by decide) (by decide) (by decide) (va_recv (q := (RX1, TX1, 5)) hK hP (ci := 1) (q0 := 0) rfl rfl) rfl hl.1 rfl (Nat.le_of_ble_eq_true rfl) dX1_run_281 ⟨Nat.le_of_ble_eq_true rfl, Nat.le_of_ble_eq_true rfl⟩ (fun r_10 u_11 H locs hr_10 hP hD hS => ?_)
      obtain ⟨q_12, q_13⟩ := u_11
      try dsimp only at hr_10
      obtain ⟨hbq_12, hr_10⟩ := hr_10
      have h9R := zRe (ws' := [(mv, .inr (1, [.ref mb, .int q_12, .int 6, .int mm, .int mq])), (mb, .inl (cI, 20, .inl q_13))]) hP hD rfl
      clear hP hD
      obtain ⟨hP, hD⟩ := h9R
      exact W.iret (v := r_10) hx hb hr (fun t ht hW => ⟨⟨r_10, (q_12, q_13), rfl, ⟨(show q_12.toInt = mr.toInt + 5 from by omega), trivial⟩, zRet ht hP hD [0, 1] (by decide) rfl⟩, hS.F ht⟩) hS.2.2 dX1_run_284
    · exact absurd c_3 (by decide)
set_option maxHeartbeats 4000000 in
set_option maxRecDepth 100000 in
theorem c_M_run_6_0_2_1 (l : Launch) (D : va_G) (cI cJ cZ cP cS : ClassId) (po : zPool) (mv mb : Nat) (mr mm mq : Int32) (fb : Nat → Int32) (x : Int32) (hy0 : 0 ≤ mr.toInt) (hy1 : mr.toInt ≤ 1100) (hpz : Nat) : Met l yX1_run wsX1_run ({ frames := 7, cells := 0, slots := 0, locals := 176 }) (va_Pc [.ref mv, .int 0, .int 2, .int x, .int 1] (zW D (zKT cI cJ cZ cP cS) po [(mv, .inr (1, [.ref mb, .int mr, .int 6, .int mm, .int mq])), (mb, .inl (cI, 20, .inl fb))] hpz)) (va_Qi (fun (r : Int32) (u : (Int32) × (Nat → Int32)) => u.1.toInt = mr.toInt + 9 ∧ (True)) (zB D [(mv, .inr (1, [.ref mb, .int mr, .int 6, .int mm, .int mq])), (mb, .inl (cI, 20, .inl fb))] hpz (fun (u : (Int32) × (Nat → Int32)) => [(mv, .inr (1, [.ref mb, .int u.1, .int 6, .int mm, .int mq])), (mb, .inl (cI, 20, .inl u.2))])) (va_A [(mv, .inr (1, [.ref mb, .int mr, .int 6, .int mm, .int mq])), (mb, .inl (cI, 20, .inl fb))] hpz)) 0 0 (va_A [(mv, .inr (1, [.ref mb, .int mr, .int 6, .int mm, .int mq])), (mb, .inl (cI, 20, .inl fb))] hpz) := by
  refine Met.ofW (cc := cX1_run) (maxL := 7) (ret := (some .int)) (by decide) rfl ?_
  intro p e s m args below meth c s₁ B hml hv
  obtain ⟨rfl, hsz, hP, hK, hD0, hN, hZ⟩ := hv
  have hx := B.exec
  have hb := B.bytes
  have hr := B.returns
  have hts := atoms_spec (ws := wsX1_run) B.pre
  have hown : s.vm.findClass RX1 = some m.cls := findClass_of_methodNamed B.named
  have hlocks := B.notSynchronized
  subst hsz
  have hD := hD0.self (sz := s.heap.size)
  have hA := zA_of hD
  have hl := lv_entry ([.ref mv, .int 0, .int 2, .int x, .int 1]) (n := 7) (Nat.le_of_ble_eq_true rfl)
  rw [lg_entry_eq]
  generalize (lg_sl ([.ref mv, .int 0, .int 2, .int x, .int 1]) ++ List.replicate (7 - (lg_sl ([.ref mv, .int 0, .int 2, .int x, .int 1])).length) Slot.unset).toArray = ls at hl ⊢
  replace hl : lv_has ls 7 [(0, .ref mv), (1, .int 0), (2, .int 2), (3, .int x), (4, .int 1)] := hl
  refine zw_begin hP hD (fun H locs hP1 hS => ?_)
  clear hP
  have hP := hP1
  clear hP1
  refine lv_iload_n hx hb dX1_run_0 rfl (lv_at hl 1 rfl) ?_
  refine lv_iload_n hx hb dX1_run_1 rfl (lv_at hl 2 rfl) ?_
  refine zc_S (As := [.int 0, .int 2]) (rest := []) ⟨hx, hb, hml, hown, hts⟩ (c_M_bodyFor_0_2 l D cI cJ cZ cP cS po  ) (va_cwS 2 hts gX1_run_X1_bodyFor rfl rfl rfl dh_X1_bodyFor ⟨Nat.le_of_ble_eq_true rfl, Nat.le_of_ble_eq_true rfl⟩) hK hN (hZ.kept hS) rfl hl.1 rfl (Nat.le_of_ble_eq_true rfl) dX1_run_2 ⟨Nat.le_of_ble_eq_true rfl, Nat.le_of_ble_eq_true rfl⟩ (fun r_1 hr_1 => ?_)
  obtain rfl := hr_1
  refine lv_istore (lv' := [(5, .int 12), (0, .ref mv), (1, .int 0), (2, .int 2), (3, .int x), (4, .int 1)]) hx hb dX1_run_5 hl (by decide) rfl (fun ls hl => ?_)
  refine lv_iload hx hb dX1_run_7 (lv_at hl 0 rfl) ?_
  refine lv_iconst (v := (-1)) hx hb dX1_run_9 (by decide) ?_
  refine lv_icmp_eq (tgt := 20) hx hb dX1_run_10 (by decide) (fun c_2 => ?_) (fun c_2 => ?_)
  · exact absurd c_2 (by decide)
  · refine lv_iload hx hb dX1_run_13 (lv_at hl 5 rfl) ?_
    refine lv_bipush (v := 40) hx hb dX1_run_15 (by decide) ?_
    refine lv_icmp_lt (tgt := 22) hx hb dX1_run_17 (by decide) (fun c_3 => ?_) (fun c_3 => ?_)
    · refine lv_aload_n hx hb dX1_run_22 rfl (lv_at hl 1 rfl) ?_
      refine lv_iload hx hb dX1_run_23 (lv_at hl 0 rfl) ?_
      skip
      refine zw_Vv (As := [.int 12]) (rest := []) (wr := []) ⟨hx, hb, hml, hown, hts⟩ (c_M_note l D cI cJ cZ cP cS po mv mb (mr) (6) (mm) (mq) fb (12) hy0 (by omega) H.size) (cwV 1 hts gX1_run_X1_note rfl rfl rfl ⟨rfl, dh_X1_note⟩ ⟨Nat.le_of_ble_eq_true rfl, Nat.le_of_ble_eq_true rfl⟩) hK hN (hZ.kept hS) hP hD hS hA [0, 1] [] rfl rfl (by decide) (by decide) (by decide) (va_recv (q := (RX1, TX1, 5)) hK hP (ci := 1) (q0 := 0) rfl rfl) rfl hl.1 rfl (Nat.le_of_ble_eq_true rfl) dX1_run_25 ⟨Nat.le_of_ble_eq_true rfl, Nat.le_of_ble_eq_true rfl⟩ (fun u_5 H locs hr_4 hP hD hS => ?_)
      obtain ⟨q_6, q_7⟩ := u_5
      try dsimp only at hr_4
      obtain ⟨hbq_6, hr_4⟩ := hr_4
      have h9R := zRe (ws' := [(mv, .inr (1, [.ref mb, .int q_6, .int 6, .int mm, .int mq])), (mb, .inl (cI, 20, .inl q_7))]) hP hD rfl
      clear hP hD
      obtain ⟨hP, hD⟩ := h9R
      refine lv_iload hx hb dX1_run_28 (lv_at hl 5 rfl) ?_
      refine lv_iconst (v := 1) hx hb dX1_run_30 (by decide) ?_
      refine lv_iadd hx hb dX1_run_31 ?_
      refine lv_topi (fun y_8 ey_8 => ?_)
      obtain rfl : y_8 = 2 := ey_8.trans (by decide)
      refine lv_istore (lv' := [(6, .int 2), (5, .int 12), (0, .ref mv), (1, .int 0), (2, .int 2), (3, .int x), (4, .int 1)]) hx hb dX1_run_32 hl (by decide) rfl (fun ls hl => ?_)
      refine lv_iload hx hb dX1_run_34 (lv_at hl 1 rfl) ?_
      refine lv_lookup (off := 114) (tgt := 150) hx hb dX1_run_36 (by decide) (by decide) (by decide) ?_
      refine lv_aload_n hx hb dX1_run_150 rfl (lv_at hl 2 rfl) ?_
      refine lv_aload_n hx hb dX1_run_151 rfl (lv_at hl 2 rfl) ?_
      refine va_get (D := D) (ci := 1) (v := .int 6) (C := RX1) (T := TX1) (N := 5) hx hb hts hi_X1_run_1 hown hK hP 0 rfl rfl 2 (by decide) (hts (.fieldLink RX1 19 "TheLiningsInIt$Moves" "kind" "I") (List.mem_of_getElem? (i := 2) rfl)) (fun _ h9 => h9) rfl dX1_run_152 ?_
      refine lv_iconst (v := 1) hx hb dX1_run_155 (by decide) ?_
      refine lv_iload_n hx hb dX1_run_156 rfl (lv_at hl 5 rfl) ?_
      refine lv_iload hx hb dX1_run_157 (lv_at hl 0 rfl) ?_
      skip
      refine zw_V (As := [.int 6, .int 1, .int x, .int 2]) (rest := []) (wr := []) ⟨hx, hb, hml, hown, hts⟩ (c_M_run_6_6_1_2 l D cI cJ cZ cP cS po mv mb (q_6) (mm) (mq) q_7 (x) (by omega) (by omega) H.size) (cwV 4 hts gX1_run_X1_run rfl rfl rfl ⟨rfl, dh_X1_run⟩ ⟨Nat.le_of_ble_eq_true rfl, Nat.le_of_ble_eq_true rfl⟩) hK hN (hZ.kept hS) hP hD hS hA [0, 1] [] rfl rfl (by decide) (by decide) (by decide) (va_recv (q := (RX1, TX1, 5)) hK hP (ci := 1) (q0 := 0) rfl rfl) rfl hl.1 rfl (Nat.le_of_ble_eq_true rfl) dX1_run_159 ⟨Nat.le_of_ble_eq_true rfl, Nat.le_of_ble_eq_true rfl⟩ (fun r_9 u_10 H locs hr_9 hP hD hS => ?_)
      obtain ⟨q_11, q_12⟩ := u_10
      try dsimp only at hr_9
      obtain ⟨hbq_11, hr_9⟩ := hr_9
      have h9R := zRe (ws' := [(mv, .inr (1, [.ref mb, .int q_11, .int 6, .int mm, .int mq])), (mb, .inl (cI, 20, .inl q_12))]) hP hD rfl
      clear hP hD
      obtain ⟨hP, hD⟩ := h9R
      refine lv_aload_n hx hb dX1_run_162 rfl (lv_at hl 2 rfl) ?_
      refine lv_aload_n hx hb dX1_run_163 rfl (lv_at hl 2 rfl) ?_
      refine va_get (D := D) (ci := 1) (v := .int 6) (C := RX1) (T := TX1) (N := 5) hx hb hts hi_X1_run_1 hown hK hP 0 rfl rfl 2 (by decide) (hts (.fieldLink RX1 19 "TheLiningsInIt$Moves" "kind" "I") (List.mem_of_getElem? (i := 2) rfl)) (fun _ h9 => h9) rfl dX1_run_164 ?_
      refine lv_iconst (v := 0) hx hb dX1_run_167 (by decide) ?_
      refine lv_iload_n hx hb dX1_run_168 rfl (lv_at hl 5 rfl) ?_
      refine lv_aload_n hx hb dX1_run_169 rfl (lv_at hl 2 rfl) ?_
      refine va_get (D := D) (ci := 1) (v := .int mq) (C := RX1) (T := TX1) (N := 5) hx hb hts hi_X1_run_1 hown hK hP 0 rfl rfl 4 (by decide) (hts (.fieldLink RX1 25 "TheLiningsInIt$Moves" "k" "I") (List.mem_of_getElem? (i := 3) rfl)) (fun _ h9 => h9) rfl dX1_run_170 ?_
      refine lv_isub hx hb dX1_run_173 ?_
      refine lv_topi (fun x_13 ex_13 => ?_)
      refine lv_iload hx hb dX1_run_174 (lv_at hl 0 rfl) ?_
      skip
      refine zw_V (As := [.int 6, .int 0, .int x_13, .int 2]) (rest := [.int r_9]) (wr := []) ⟨hx, hb, hml, hown, hts⟩ (c_M_run_6_6_0_2 l D cI cJ cZ cP cS po mv mb (q_11) (mm) (mq) q_12 (x_13) (by omega) (by omega) H.size) (cwV 4 hts gX1_run_X1_run rfl rfl rfl ⟨rfl, dh_X1_run⟩ ⟨Nat.le_of_ble_eq_true rfl, Nat.le_of_ble_eq_true rfl⟩) hK hN (hZ.kept hS) hP hD hS hA [0, 1] [] rfl rfl (by decide) (by decide) (by decide) (va_recv (q := (RX1, TX1, 5)) hK hP (ci := 1) (q0 := 0) rfl rfl) rfl hl.1 rfl (Nat.le_of_ble_eq_true rfl) dX1_run_176 ⟨Nat.le_of_ble_eq_true rfl, Nat.le_of_ble_eq_true rfl⟩ (fun r_14 u_15 H locs hr_14 hP hD hS => ?_)
      obtain ⟨q_16, q_17⟩ := u_15
      try dsimp only at hr_14
      obtain ⟨hbq_16, hr_14⟩ := hr_14
      have h9R := zRe (ws' := [(mv, .inr (1, [.ref mb, .int q_16, .int 6, .int mm, .int mq])), (mb, .inl (cI, 20, .inl q_17))]) hP hD rfl
      clear hP hD
      obtain ⟨hP, hD⟩ := h9R
      refine lv_ixor hx hb dX1_run_179 ?_
      refine lv_topi (fun x_18 ex_18 => ?_)
      exact W.iret (v := x_18) hx hb hr (fun t ht hW => ⟨⟨x_18, (q_16, q_17), rfl, ⟨(show q_16.toInt = mr.toInt + 9 from by omega), trivial⟩, zRet ht hP hD [0, 1] (by decide) rfl⟩, hS.F ht⟩) hS.2.2 dX1_run_180
    · exact absurd c_3 (by decide)
set_option maxHeartbeats 4000000 in
set_option maxRecDepth 100000 in
theorem c_M_run_6_6_2_0 (l : Launch) (D : va_G) (cI cJ cZ cP cS : ClassId) (po : zPool) (mv mb : Nat) (mr mm mq : Int32) (fb : Nat → Int32) (x : Int32) (hy0 : 0 ≤ mr.toInt) (hy1 : mr.toInt ≤ 1000) (hpz : Nat) : Met l yX1_run wsX1_run ({ frames := 8, cells := 0, slots := 0, locals := 202 }) (va_Pc [.ref mv, .int 6, .int 2, .int x, .int 0] (zW D (zKT cI cJ cZ cP cS) po [(mv, .inr (1, [.ref mb, .int mr, .int 6, .int mm, .int mq])), (mb, .inl (cI, 20, .inl fb))] hpz)) (va_Qi (fun (r : Int32) (u : (Int32) × (Nat → Int32)) => u.1.toInt = mr.toInt + 10 ∧ (True)) (zB D [(mv, .inr (1, [.ref mb, .int mr, .int 6, .int mm, .int mq])), (mb, .inl (cI, 20, .inl fb))] hpz (fun (u : (Int32) × (Nat → Int32)) => [(mv, .inr (1, [.ref mb, .int u.1, .int 6, .int mm, .int mq])), (mb, .inl (cI, 20, .inl u.2))])) (va_A [(mv, .inr (1, [.ref mb, .int mr, .int 6, .int mm, .int mq])), (mb, .inl (cI, 20, .inl fb))] hpz)) 0 0 (va_A [(mv, .inr (1, [.ref mb, .int mr, .int 6, .int mm, .int mq])), (mb, .inl (cI, 20, .inl fb))] hpz) := by
  refine Met.ofW (cc := cX1_run) (maxL := 7) (ret := (some .int)) (by decide) rfl ?_
  intro p e s m args below meth c s₁ B hml hv
  obtain ⟨rfl, hsz, hP, hK, hD0, hN, hZ⟩ := hv
  have hx := B.exec
  have hb := B.bytes
  have hr := B.returns
  have hts := atoms_spec (ws := wsX1_run) B.pre
  have hown : s.vm.findClass RX1 = some m.cls := findClass_of_methodNamed B.named
  have hlocks := B.notSynchronized
  subst hsz
  have hD := hD0.self (sz := s.heap.size)
  have hA := zA_of hD
  have hl := lv_entry ([.ref mv, .int 6, .int 2, .int x, .int 0]) (n := 7) (Nat.le_of_ble_eq_true rfl)
  rw [lg_entry_eq]
  generalize (lg_sl ([.ref mv, .int 6, .int 2, .int x, .int 0]) ++ List.replicate (7 - (lg_sl ([.ref mv, .int 6, .int 2, .int x, .int 0])).length) Slot.unset).toArray = ls at hl ⊢
  replace hl : lv_has ls 7 [(0, .ref mv), (1, .int 6), (2, .int 2), (3, .int x), (4, .int 0)] := hl
  refine zw_begin hP hD (fun H locs hP1 hS => ?_)
  clear hP
  have hP := hP1
  clear hP1
  refine lv_iload_n hx hb dX1_run_0 rfl (lv_at hl 1 rfl) ?_
  refine lv_iload_n hx hb dX1_run_1 rfl (lv_at hl 2 rfl) ?_
  refine zc_S (As := [.int 6, .int 2]) (rest := []) ⟨hx, hb, hml, hown, hts⟩ (c_M_bodyFor_6_2 l D cI cJ cZ cP cS po  ) (va_cwS 2 hts gX1_run_X1_bodyFor rfl rfl rfl dh_X1_bodyFor ⟨Nat.le_of_ble_eq_true rfl, Nat.le_of_ble_eq_true rfl⟩) hK hN (hZ.kept hS) rfl hl.1 rfl (Nat.le_of_ble_eq_true rfl) dX1_run_2 ⟨Nat.le_of_ble_eq_true rfl, Nat.le_of_ble_eq_true rfl⟩ (fun r_1 hr_1 => ?_)
  obtain rfl := hr_1
  refine lv_istore (lv' := [(5, .int 50), (0, .ref mv), (1, .int 6), (2, .int 2), (3, .int x), (4, .int 0)]) hx hb dX1_run_5 hl (by decide) rfl (fun ls hl => ?_)
  refine lv_iload hx hb dX1_run_7 (lv_at hl 0 rfl) ?_
  refine lv_iconst (v := (-1)) hx hb dX1_run_9 (by decide) ?_
  refine lv_icmp_eq (tgt := 20) hx hb dX1_run_10 (by decide) (fun c_2 => ?_) (fun c_2 => ?_)
  · exact absurd c_2 (by decide)
  · refine lv_iload hx hb dX1_run_13 (lv_at hl 5 rfl) ?_
    refine lv_bipush (v := 40) hx hb dX1_run_15 (by decide) ?_
    refine lv_icmp_lt (tgt := 22) hx hb dX1_run_17 (by decide) (fun c_3 => ?_) (fun c_3 => ?_)
    · refine lv_aload_n hx hb dX1_run_22 rfl (lv_at hl 1 rfl) ?_
      refine lv_iload hx hb dX1_run_23 (lv_at hl 0 rfl) ?_
      skip
      refine zw_Vv (As := [.int 50]) (rest := []) (wr := []) ⟨hx, hb, hml, hown, hts⟩ (c_M_note l D cI cJ cZ cP cS po mv mb (mr) (6) (mm) (mq) fb (50) hy0 (by omega) H.size) (cwV 1 hts gX1_run_X1_note rfl rfl rfl ⟨rfl, dh_X1_note⟩ ⟨Nat.le_of_ble_eq_true rfl, Nat.le_of_ble_eq_true rfl⟩) hK hN (hZ.kept hS) hP hD hS hA [0, 1] [] rfl rfl (by decide) (by decide) (by decide) (va_recv (q := (RX1, TX1, 5)) hK hP (ci := 1) (q0 := 0) rfl rfl) rfl hl.1 rfl (Nat.le_of_ble_eq_true rfl) dX1_run_25 ⟨Nat.le_of_ble_eq_true rfl, Nat.le_of_ble_eq_true rfl⟩ (fun u_5 H locs hr_4 hP hD hS => ?_)
      obtain ⟨q_6, q_7⟩ := u_5
      try dsimp only at hr_4
      obtain ⟨hbq_6, hr_4⟩ := hr_4
      have h9R := zRe (ws' := [(mv, .inr (1, [.ref mb, .int q_6, .int 6, .int mm, .int mq])), (mb, .inl (cI, 20, .inl q_7))]) hP hD rfl
      clear hP hD
      obtain ⟨hP, hD⟩ := h9R
      refine lv_iload hx hb dX1_run_28 (lv_at hl 5 rfl) ?_
      refine lv_iconst (v := 1) hx hb dX1_run_30 (by decide) ?_
      refine lv_iadd hx hb dX1_run_31 ?_
      refine lv_topi (fun y_8 ey_8 => ?_)
      obtain rfl : y_8 = 1 := ey_8.trans (by decide)
      refine lv_istore (lv' := [(6, .int 1), (5, .int 50), (0, .ref mv), (1, .int 6), (2, .int 2), (3, .int x), (4, .int 0)]) hx hb dX1_run_32 hl (by decide) rfl (fun ls hl => ?_)
      refine lv_iload hx hb dX1_run_34 (lv_at hl 1 rfl) ?_
      refine lv_lookup (off := 184) (tgt := 220) hx hb dX1_run_36 (by decide) (by decide) (by decide) ?_
      refine lv_aload_n hx hb dX1_run_220 rfl (lv_at hl 2 rfl) ?_
      refine lv_iconst (v := 0) hx hb dX1_run_221 (by decide) ?_
      refine lv_iconst (v := 2) hx hb dX1_run_222 (by decide) ?_
      refine lv_iload_n hx hb dX1_run_223 rfl (lv_at hl 5 rfl) ?_
      refine lv_iload hx hb dX1_run_224 (lv_at hl 0 rfl) ?_
      skip
      refine zw_V (As := [.int 0, .int 2, .int x, .int 1]) (rest := []) (wr := []) ⟨hx, hb, hml, hown, hts⟩ (c_M_run_6_0_2_1 l D cI cJ cZ cP cS po mv mb (q_6) (mm) (mq) q_7 (x) (by omega) (by omega) H.size) (cwV 4 hts gX1_run_X1_run rfl rfl rfl ⟨rfl, dh_X1_run⟩ ⟨Nat.le_of_ble_eq_true rfl, Nat.le_of_ble_eq_true rfl⟩) hK hN (hZ.kept hS) hP hD hS hA [0, 1] [] rfl rfl (by decide) (by decide) (by decide) (va_recv (q := (RX1, TX1, 5)) hK hP (ci := 1) (q0 := 0) rfl rfl) rfl hl.1 rfl (Nat.le_of_ble_eq_true rfl) dX1_run_226 ⟨Nat.le_of_ble_eq_true rfl, Nat.le_of_ble_eq_true rfl⟩ (fun r_9 u_10 H locs hr_9 hP hD hS => ?_)
      obtain ⟨q_11, q_12⟩ := u_10
      try dsimp only at hr_9
      obtain ⟨hbq_11, hr_9⟩ := hr_9
      have h9R := zRe (ws' := [(mv, .inr (1, [.ref mb, .int q_11, .int 6, .int mm, .int mq])), (mb, .inl (cI, 20, .inl q_12))]) hP hD rfl
      clear hP hD
      obtain ⟨hP, hD⟩ := h9R
      refine lv_ineg hx hb dX1_run_229 ?_
      refine lv_topi (fun x_13 ex_13 => ?_)
      exact W.iret (v := x_13) hx hb hr (fun t ht hW => ⟨⟨x_13, (q_11, q_12), rfl, ⟨(show q_11.toInt = mr.toInt + 10 from by omega), trivial⟩, zRet ht hP hD [0, 1] (by decide) rfl⟩, hS.F ht⟩) hS.2.2 dX1_run_230
    · exact absurd c_3 (by decide)
end
section
def wsX1_begin_r1 : List Cond := (Cond.fieldLink RX1 28 "TheLiningsInIt$Pull" "kind" "I") :: (Cond.fieldLink RX1 19 "TheLiningsInIt$Moves" "kind" "I") :: (Cond.fieldLink RX1 22 "TheLiningsInIt$Moves" "m" "I") :: (Cond.fieldLink RX1 31 "TheLiningsInIt$Pull" "a" "I") :: (Cond.fieldLink RX1 25 "TheLiningsInIt$Moves" "k" "I") :: (Cond.methodLink RX1 34 yX1_run) :: (Cond.instanceMethod yX1_run) :: (Cond.selects RX1 yX1_run yX1_run) :: (Cond.initialized RX1) :: (Cond.code yX1_run cX1_run 7 (some .int)) :: (Cond.methodLink RX1 48 yX1_bodyFor) :: (Cond.static yX1_bodyFor) :: (Cond.code yX1_bodyFor cX1_bodyFor 5 (some .int)) :: (Cond.static yX7_within) :: (Cond.initialized RX7) :: (Cond.code yX7_within cX7_within 3 (some .boolean)) :: (Cond.methodLink RX1 55 yX1_ownBody) :: (Cond.static yX1_ownBody) :: (Cond.code yX1_ownBody cX1_ownBody 2 (some .int)) :: (Cond.methodLink RX1 51 yX1_note) :: (Cond.instanceMethod yX1_note) :: (Cond.selects RX1 yX1_note yX1_note) :: (Cond.code yX1_note cX1_note 2 none) :: (Cond.fieldLink RX1 15 "TheLiningsInIt$Moves" "ran" "I") :: []
def wsX1_begin_r2 : List Cond := (Cond.fieldLink RX1 11 "TheLiningsInIt$Moves" "bodies" "[I") :: []
def wsX1_begin : List Cond := (.code yX1_begin cX1_begin 5 (some .int)) :: ((wsX1_begin_r1 ++ wsX1_begin_r2) ++ wsX20 ++ wsX10)
set_option maxRecDepth 20000 in
theorem gl_X1_begin_X10 : GoodIn wsX1_begin wsX10 := (dg_t (dg_r gw_wsX10))
theorem ggX1_begin_X1_run : GoodIn wsX1_begin wsX1_run := (dg_c 10 rfl rfl (dg_c 3 rfl rfl (dg_c 2 rfl rfl (dg_c 5 rfl rfl (dg_c 11 rfl rfl (dg_c 12 rfl rfl (dg_c 9 rfl rfl (dg_c 13 rfl rfl (dg_c 14 rfl rfl (dg_c 15 rfl rfl (dg_c 16 rfl rfl (dg_c 17 rfl rfl (dg_c 18 rfl rfl (dg_c 19 rfl rfl (dg_c 20 rfl rfl (dg_c 21 rfl rfl (dg_c 22 rfl rfl (dg_c 23 rfl rfl (dg_c 24 rfl rfl (dg_c 25 rfl rfl (dg_c 6 rfl rfl (dg_c 7 rfl rfl (dg_c 8 rfl rfl gl_X1_begin_X10)))))))))))))))))))))))
set_option maxRecDepth 20000 in
theorem gX1_begin_X1_run : GoodIn wsX1_begin (wsV RX1 34 RX1 yX1_run wsX1_run) := goodIn_app (dg_c 6 rfl rfl (dg_c 7 rfl rfl (dg_c 8 rfl rfl (dg_c 9 rfl rfl dg_0)))) ggX1_begin_X1_run
theorem dX1_begin_0 : decode cX1_begin 0 = .ok (.aload_n 0, 1) := dq_42 dp_cX1_begin rfl
theorem dX1_begin_1 : decode cX1_begin 1 = .ok (.aload_n 1, 1) := dq_43 dp_cX1_begin rfl
theorem dX1_begin_2 : decode cX1_begin 2 = .ok (.getfield 28, 3) := dq_180 dp_cX1_begin rfl
theorem dX1_begin_5 : decode cX1_begin 5 = .ok (.putfield 19, 3) := dq_181 dp_cX1_begin rfl
theorem dX1_begin_8 : decode cX1_begin 8 = .ok (.aload_n 0, 1) := dq_42 dp_cX1_begin rfl
theorem dX1_begin_9 : decode cX1_begin 9 = .ok (.iload_n 2, 1) := dq_28 dp_cX1_begin rfl
theorem dX1_begin_10 : decode cX1_begin 10 = .ok (.putfield 22, 3) := dq_181 dp_cX1_begin rfl
theorem dX1_begin_13 : decode cX1_begin 13 = .ok (.aload_n 0, 1) := dq_42 dp_cX1_begin rfl
theorem dX1_begin_14 : decode cX1_begin 14 = .ok (.aload_n 1, 1) := dq_43 dp_cX1_begin rfl
theorem dX1_begin_15 : decode cX1_begin 15 = .ok (.getfield 31, 3) := dq_180 dp_cX1_begin rfl
theorem dX1_begin_18 : decode cX1_begin 18 = .ok (.putfield 25, 3) := dq_181 dp_cX1_begin rfl
theorem dX1_begin_21 : decode cX1_begin 21 = .ok (.aload_n 0, 1) := dq_42 dp_cX1_begin rfl
theorem dX1_begin_22 : decode cX1_begin 22 = .ok (.aload_n 0, 1) := dq_42 dp_cX1_begin rfl
theorem dX1_begin_23 : decode cX1_begin 23 = .ok (.getfield 19, 3) := dq_180 dp_cX1_begin rfl
theorem dX1_begin_26 : decode cX1_begin 26 = .ok (.iload_n 3, 1) := dq_29 dp_cX1_begin rfl
theorem dX1_begin_27 : decode cX1_begin 27 = .ok (.iload 4, 2) := dq_21 dp_cX1_begin rfl
theorem dX1_begin_29 : decode cX1_begin 29 = .ok (.iconst 0, 1) := dq_3 dp_cX1_begin rfl
theorem dX1_begin_30 : decode cX1_begin 30 = .ok (.invokevirtual 34, 3) := dq_182 dp_cX1_begin rfl
theorem dX1_begin_33 : decode cX1_begin 33 = .ok (.ireturn, 1) := dq_172 dp_cX1_begin rfl
end
section
theorem gl_X1_begin_X20 : GoodIn wsX1_begin wsX20 := (dg_t (dg_l (dg_r gw_wsX20)))
theorem hi_X1_begin_2 : ∀ w ∈ u_ws RX2 TX2 3, w ∈ wsX1_begin := fun w h => (gl_X1_begin_X20 w h).1
theorem hi_X1_begin_1 : ∀ w ∈ u_ws RX1 TX1 5, w ∈ wsX1_begin := fun w h => (gl_X1_begin_X10 w h).1
set_option maxHeartbeats 4000000 in
set_option maxRecDepth 100000 in
theorem c_M_begin (l : Launch) (D : va_G) (cI cJ cZ cP cS : ClassId) (po : zPool) (mv mb : Nat) (mr mk mm mq : Int32) (fb : Nat → Int32) (nb mo x : Int32) (u0 : Nat) (ki a_ ta : Int32) (hu_u0 : zPu po u0 ki a_ ta) (hr_u0 : zPr ki a_ ta) (hy2 : 0 ≤ mr.toInt) (hy3 : mr.toInt ≤ 1000) (hy4 : 0 ≤ mo.toInt) (hy5 : mo.toInt ≤ 2) (hpz : Nat) : Met l yX1_begin wsX1_begin ({ frames := 9, cells := 0, slots := 0, locals := 228 }) (va_Pc [.ref mv, .ref u0, .int nb, .int mo, .int x] (zW D (zKT cI cJ cZ cP cS) po [(mv, .inr (1, [.ref mb, .int mr, .int mk, .int mm, .int mq])), (mb, .inl (cI, 20, .inl fb))] hpz)) (va_Qi (fun (r : Int32) (u : (Int32) × (Int32) × (Int32) × (Int32) × (Nat → Int32)) => (0 ≤ u.1.toInt ∧ u.1.toInt ≤ 2000) ∧ (True)) (zB D [(mv, .inr (1, [.ref mb, .int mr, .int mk, .int mm, .int mq])), (mb, .inl (cI, 20, .inl fb))] hpz (fun (u : (Int32) × (Int32) × (Int32) × (Int32) × (Nat → Int32)) => [(mv, .inr (1, [.ref mb, .int u.1, .int u.2.1, .int u.2.2.1, .int u.2.2.2.1])), (mb, .inl (cI, 20, .inl u.2.2.2.2))])) (va_A [(mv, .inr (1, [.ref mb, .int mr, .int mk, .int mm, .int mq])), (mb, .inl (cI, 20, .inl fb))] hpz)) 0 0 (va_A [(mv, .inr (1, [.ref mb, .int mr, .int mk, .int mm, .int mq])), (mb, .inl (cI, 20, .inl fb))] hpz) := by
  refine Met.ofW (cc := cX1_begin) (maxL := 5) (ret := (some .int)) (by decide) rfl ?_
  intro p e s m args below meth c s₁ B hml hv
  obtain ⟨rfl, hsz, hP, hK, hD0, hN, hZ⟩ := hv
  have hx := B.exec
  have hb := B.bytes
  have hr := B.returns
  have hts := atoms_spec (ws := wsX1_begin) B.pre
  have hown : s.vm.findClass RX1 = some m.cls := findClass_of_methodNamed B.named
  have hlocks := B.notSynchronized
  subst hsz
  have hD := hD0.self (sz := s.heap.size)
  have hA := zA_of hD
  have hl := lv_entry ([.ref mv, .ref u0, .int nb, .int mo, .int x]) (n := 5) (Nat.le_of_ble_eq_true rfl)
  rw [lg_entry_eq]
  generalize (lg_sl ([.ref mv, .ref u0, .int nb, .int mo, .int x]) ++ List.replicate (5 - (lg_sl ([.ref mv, .ref u0, .int nb, .int mo, .int x])).length) Slot.unset).toArray = ls at hl ⊢
  replace hl : lv_has ls 5 [(0, .ref mv), (1, .ref u0), (2, .int nb), (3, .int mo), (4, .int x)] := hl
  refine zw_begin hP hD (fun H locs hP1 hS => ?_)
  clear hP
  have hP := hP1
  clear hP1
  obtain ⟨⟨p1_u0, p2_u0⟩, ⟨p3_u0, p4_u0⟩, p5_u0, p6_u0⟩ := id hr_u0
  have hsp : ki = 0 ∨ ki = 1 ∨ ki = 2 ∨ ki = 3 ∨ ki = 4 ∨ ki = 5 ∨ ki = 6 := by
    rcases (show ki.toInt = 0 ∨ ki.toInt = 1 ∨ ki.toInt = 2 ∨ ki.toInt = 3 ∨ ki.toInt = 4 ∨ ki.toInt = 5 ∨ ki.toInt = 6 by omega) with h9 | h9 | h9 | h9 | h9 | h9 | h9
    · refine Or.inl ?_; exact zf_val h9 (by decide)
    · refine Or.inr (Or.inl ?_); exact zf_val h9 (by decide)
    · refine Or.inr (Or.inr (Or.inl ?_)); exact zf_val h9 (by decide)
    · refine Or.inr (Or.inr (Or.inr (Or.inl ?_))); exact zf_val h9 (by decide)
    · refine Or.inr (Or.inr (Or.inr (Or.inr (Or.inl ?_)))); exact zf_val h9 (by decide)
    · refine Or.inr (Or.inr (Or.inr (Or.inr (Or.inr (Or.inl ?_))))); exact zf_val h9 (by decide)
    · refine Or.inr (Or.inr (Or.inr (Or.inr (Or.inr (Or.inr (?_)))))); exact zf_val h9 (by decide)
  rcases hsp with rfl | rfl | rfl | rfl | rfl | rfl | rfl
  · refine lv_aload_n hx hb dX1_begin_0 rfl (lv_at hl 0 rfl) ?_
    have hsp : mo = 0 ∨ mo = 1 ∨ mo = 2 := by
      rcases (show mo.toInt = 0 ∨ mo.toInt = 1 ∨ mo.toInt = 2 by omega) with h9 | h9 | h9
      · refine Or.inl ?_; exact zf_val h9 (by decide)
      · refine Or.inr (Or.inl ?_); exact zf_val h9 (by decide)
      · refine Or.inr (Or.inr (?_)); exact zf_val h9 (by decide)
    rcases hsp with rfl | rfl | rfl
    · refine lv_aload_n hx hb dX1_begin_1 rfl (lv_at hl 1 rfl) ?_
      refine va_get (D := D) (ci := 2) (v := .int 0) (C := RX2) (T := TX2) (N := 3) hx hb hts hi_X1_begin_2 hown hK (zPu_P (hZ.kept hS) hu_u0) 0 rfl rfl 0 (by decide) (hts (.fieldLink RX1 28 "TheLiningsInIt$Pull" "kind" "I") (List.mem_of_getElem? (i := 1) rfl)) (fun _ h9 => h9) rfl dX1_begin_2 ?_
      refine va_put (D := D) (ci := 1) (v := .int 0) (ty := .int) (C := RX1) (T := TX1) (N := 5) hx hb hts hi_X1_begin_1 tyX1 tyX1_ok nmX1 hown hK hP hD hS 0 rfl rfl 2 (by decide) (hts (.fieldLink RX1 19 "TheLiningsInIt$Moves" "kind" "I") (List.mem_of_getElem? (i := 2) rfl)) (fun _ h9 => h9) rfl (tyX1_ok 2 (Nat.le_of_ble_eq_true rfl)) rfl rfl (Nat.le_of_ble_eq_true rfl) dX1_begin_5 (fun H locs hP hD hS => ?_)
      have h9R := zRe (ws' := [(mv, .inr (1, [.ref mb, .int mr, .int 0, .int mm, .int mq])), (mb, .inl (cI, 20, .inl fb))]) hP hD rfl
      clear hP hD
      obtain ⟨hP, hD⟩ := h9R
      refine lv_aload_n hx hb dX1_begin_8 rfl (lv_at hl 0 rfl) ?_
      refine lv_iload_n hx hb dX1_begin_9 rfl (lv_at hl 2 rfl) ?_
      refine va_put (D := D) (ci := 1) (v := .int nb) (ty := .int) (C := RX1) (T := TX1) (N := 5) hx hb hts hi_X1_begin_1 tyX1 tyX1_ok nmX1 hown hK hP hD hS 0 rfl rfl 3 (by decide) (hts (.fieldLink RX1 22 "TheLiningsInIt$Moves" "m" "I") (List.mem_of_getElem? (i := 3) rfl)) (fun _ h9 => h9) rfl (tyX1_ok 3 (Nat.le_of_ble_eq_true rfl)) rfl rfl (Nat.le_of_ble_eq_true rfl) dX1_begin_10 (fun H locs hP hD hS => ?_)
      have h9R := zRe (ws' := [(mv, .inr (1, [.ref mb, .int mr, .int 0, .int nb, .int mq])), (mb, .inl (cI, 20, .inl fb))]) hP hD rfl
      clear hP hD
      obtain ⟨hP, hD⟩ := h9R
      refine lv_aload_n hx hb dX1_begin_13 rfl (lv_at hl 0 rfl) ?_
      refine lv_aload_n hx hb dX1_begin_14 rfl (lv_at hl 1 rfl) ?_
      refine va_get (D := D) (ci := 2) (v := .int a_) (C := RX2) (T := TX2) (N := 3) hx hb hts hi_X1_begin_2 hown hK (zPu_P (hZ.kept hS) hu_u0) 0 rfl rfl 1 (by decide) (hts (.fieldLink RX1 31 "TheLiningsInIt$Pull" "a" "I") (List.mem_of_getElem? (i := 4) rfl)) (fun _ h9 => h9) rfl dX1_begin_15 ?_
      refine va_put (D := D) (ci := 1) (v := .int a_) (ty := .int) (C := RX1) (T := TX1) (N := 5) hx hb hts hi_X1_begin_1 tyX1 tyX1_ok nmX1 hown hK hP hD hS 0 rfl rfl 4 (by decide) (hts (.fieldLink RX1 25 "TheLiningsInIt$Moves" "k" "I") (List.mem_of_getElem? (i := 5) rfl)) (fun _ h9 => h9) rfl (tyX1_ok 4 (Nat.le_of_ble_eq_true rfl)) rfl rfl (Nat.le_of_ble_eq_true rfl) dX1_begin_18 (fun H locs hP hD hS => ?_)
      have h9R := zRe (ws' := [(mv, .inr (1, [.ref mb, .int mr, .int 0, .int nb, .int a_])), (mb, .inl (cI, 20, .inl fb))]) hP hD rfl
      clear hP hD
      obtain ⟨hP, hD⟩ := h9R
      refine lv_aload_n hx hb dX1_begin_21 rfl (lv_at hl 0 rfl) ?_
      refine lv_aload_n hx hb dX1_begin_22 rfl (lv_at hl 0 rfl) ?_
      refine va_get (D := D) (ci := 1) (v := .int 0) (C := RX1) (T := TX1) (N := 5) hx hb hts hi_X1_begin_1 hown hK hP 0 rfl rfl 2 (by decide) (hts (.fieldLink RX1 19 "TheLiningsInIt$Moves" "kind" "I") (List.mem_of_getElem? (i := 2) rfl)) (fun _ h9 => h9) rfl dX1_begin_23 ?_
      refine lv_iload_n hx hb dX1_begin_26 rfl (lv_at hl 3 rfl) ?_
      refine lv_iload hx hb dX1_begin_27 (lv_at hl 4 rfl) ?_
      refine lv_iconst (v := 0) hx hb dX1_begin_29 (by decide) ?_
      skip
      refine zw_V (As := [.int 0, .int 0, .int x, .int 0]) (rest := []) (wr := []) ⟨hx, hb, hml, hown, hts⟩ (c_M_run_0_0_0_0 l D cI cJ cZ cP cS po mv mb (mr) (nb) (a_) fb (x) hy2 hy3 H.size) (cwV 4 hts gX1_begin_X1_run rfl rfl rfl ⟨rfl, dh_X1_run⟩ ⟨Nat.le_of_ble_eq_true rfl, Nat.le_of_ble_eq_true rfl⟩) hK hN (hZ.kept hS) hP hD hS hA [0, 1] [] rfl rfl (by decide) (by decide) (by decide) (va_recv (q := (RX1, TX1, 5)) hK hP (ci := 1) (q0 := 0) rfl rfl) rfl hl.1 rfl (Nat.le_of_ble_eq_true rfl) dX1_begin_30 ⟨Nat.le_of_ble_eq_true rfl, Nat.le_of_ble_eq_true rfl⟩ (fun r_1 u_2 H locs hr_1 hP hD hS => ?_)
      obtain ⟨q_3, q_4⟩ := u_2
      try dsimp only at hr_1
      obtain ⟨hbq_3, hr_1⟩ := hr_1
      have h9R := zRe (ws' := [(mv, .inr (1, [.ref mb, .int q_3, .int 0, .int nb, .int a_])), (mb, .inl (cI, 20, .inl q_4))]) hP hD rfl
      clear hP hD
      obtain ⟨hP, hD⟩ := h9R
      exact W.iret (v := r_1) hx hb hr (fun t ht hW => ⟨⟨r_1, (q_3, 0, nb, a_, q_4), rfl, ⟨(show 0 ≤ q_3.toInt ∧ q_3.toInt ≤ 2000 from ⟨by omega, by omega⟩), trivial⟩, zRet ht hP hD [0, 1] (by decide) rfl⟩, hS.F ht⟩) hS.2.2 dX1_begin_33
    · refine lv_aload_n hx hb dX1_begin_1 rfl (lv_at hl 1 rfl) ?_
      refine va_get (D := D) (ci := 2) (v := .int 0) (C := RX2) (T := TX2) (N := 3) hx hb hts hi_X1_begin_2 hown hK (zPu_P (hZ.kept hS) hu_u0) 0 rfl rfl 0 (by decide) (hts (.fieldLink RX1 28 "TheLiningsInIt$Pull" "kind" "I") (List.mem_of_getElem? (i := 1) rfl)) (fun _ h9 => h9) rfl dX1_begin_2 ?_
      refine va_put (D := D) (ci := 1) (v := .int 0) (ty := .int) (C := RX1) (T := TX1) (N := 5) hx hb hts hi_X1_begin_1 tyX1 tyX1_ok nmX1 hown hK hP hD hS 0 rfl rfl 2 (by decide) (hts (.fieldLink RX1 19 "TheLiningsInIt$Moves" "kind" "I") (List.mem_of_getElem? (i := 2) rfl)) (fun _ h9 => h9) rfl (tyX1_ok 2 (Nat.le_of_ble_eq_true rfl)) rfl rfl (Nat.le_of_ble_eq_true rfl) dX1_begin_5 (fun H locs hP hD hS => ?_)
      have h9R := zRe (ws' := [(mv, .inr (1, [.ref mb, .int mr, .int 0, .int mm, .int mq])), (mb, .inl (cI, 20, .inl fb))]) hP hD rfl
      clear hP hD
      obtain ⟨hP, hD⟩ := h9R
      refine lv_aload_n hx hb dX1_begin_8 rfl (lv_at hl 0 rfl) ?_
      refine lv_iload_n hx hb dX1_begin_9 rfl (lv_at hl 2 rfl) ?_
      refine va_put (D := D) (ci := 1) (v := .int nb) (ty := .int) (C := RX1) (T := TX1) (N := 5) hx hb hts hi_X1_begin_1 tyX1 tyX1_ok nmX1 hown hK hP hD hS 0 rfl rfl 3 (by decide) (hts (.fieldLink RX1 22 "TheLiningsInIt$Moves" "m" "I") (List.mem_of_getElem? (i := 3) rfl)) (fun _ h9 => h9) rfl (tyX1_ok 3 (Nat.le_of_ble_eq_true rfl)) rfl rfl (Nat.le_of_ble_eq_true rfl) dX1_begin_10 (fun H locs hP hD hS => ?_)
      have h9R := zRe (ws' := [(mv, .inr (1, [.ref mb, .int mr, .int 0, .int nb, .int mq])), (mb, .inl (cI, 20, .inl fb))]) hP hD rfl
      clear hP hD
      obtain ⟨hP, hD⟩ := h9R
      refine lv_aload_n hx hb dX1_begin_13 rfl (lv_at hl 0 rfl) ?_
      refine lv_aload_n hx hb dX1_begin_14 rfl (lv_at hl 1 rfl) ?_
      refine va_get (D := D) (ci := 2) (v := .int a_) (C := RX2) (T := TX2) (N := 3) hx hb hts hi_X1_begin_2 hown hK (zPu_P (hZ.kept hS) hu_u0) 0 rfl rfl 1 (by decide) (hts (.fieldLink RX1 31 "TheLiningsInIt$Pull" "a" "I") (List.mem_of_getElem? (i := 4) rfl)) (fun _ h9 => h9) rfl dX1_begin_15 ?_
      refine va_put (D := D) (ci := 1) (v := .int a_) (ty := .int) (C := RX1) (T := TX1) (N := 5) hx hb hts hi_X1_begin_1 tyX1 tyX1_ok nmX1 hown hK hP hD hS 0 rfl rfl 4 (by decide) (hts (.fieldLink RX1 25 "TheLiningsInIt$Moves" "k" "I") (List.mem_of_getElem? (i := 5) rfl)) (fun _ h9 => h9) rfl (tyX1_ok 4 (Nat.le_of_ble_eq_true rfl)) rfl rfl (Nat.le_of_ble_eq_true rfl) dX1_begin_18 (fun H locs hP hD hS => ?_)
      have h9R := zRe (ws' := [(mv, .inr (1, [.ref mb, .int mr, .int 0, .int nb, .int a_])), (mb, .inl (cI, 20, .inl fb))]) hP hD rfl
      clear hP hD
      obtain ⟨hP, hD⟩ := h9R
      refine lv_aload_n hx hb dX1_begin_21 rfl (lv_at hl 0 rfl) ?_
      refine lv_aload_n hx hb dX1_begin_22 rfl (lv_at hl 0 rfl) ?_
      refine va_get (D := D) (ci := 1) (v := .int 0) (C := RX1) (T := TX1) (N := 5) hx hb hts hi_X1_begin_1 hown hK hP 0 rfl rfl 2 (by decide) (hts (.fieldLink RX1 19 "TheLiningsInIt$Moves" "kind" "I") (List.mem_of_getElem? (i := 2) rfl)) (fun _ h9 => h9) rfl dX1_begin_23 ?_
      refine lv_iload_n hx hb dX1_begin_26 rfl (lv_at hl 3 rfl) ?_
      refine lv_iload hx hb dX1_begin_27 (lv_at hl 4 rfl) ?_
      refine lv_iconst (v := 0) hx hb dX1_begin_29 (by decide) ?_
      skip
      refine zw_V (As := [.int 0, .int 1, .int x, .int 0]) (rest := []) (wr := []) ⟨hx, hb, hml, hown, hts⟩ (c_M_run_0_0_1_0 l D cI cJ cZ cP cS po mv mb (mr) (nb) (a_) fb (x) hy2 hy3 H.size) (cwV 4 hts gX1_begin_X1_run rfl rfl rfl ⟨rfl, dh_X1_run⟩ ⟨Nat.le_of_ble_eq_true rfl, Nat.le_of_ble_eq_true rfl⟩) hK hN (hZ.kept hS) hP hD hS hA [0, 1] [] rfl rfl (by decide) (by decide) (by decide) (va_recv (q := (RX1, TX1, 5)) hK hP (ci := 1) (q0 := 0) rfl rfl) rfl hl.1 rfl (Nat.le_of_ble_eq_true rfl) dX1_begin_30 ⟨Nat.le_of_ble_eq_true rfl, Nat.le_of_ble_eq_true rfl⟩ (fun r_5 u_6 H locs hr_5 hP hD hS => ?_)
      obtain ⟨q_7, q_8⟩ := u_6
      try dsimp only at hr_5
      obtain ⟨hbq_7, hr_5⟩ := hr_5
      have h9R := zRe (ws' := [(mv, .inr (1, [.ref mb, .int q_7, .int 0, .int nb, .int a_])), (mb, .inl (cI, 20, .inl q_8))]) hP hD rfl
      clear hP hD
      obtain ⟨hP, hD⟩ := h9R
      exact W.iret (v := r_5) hx hb hr (fun t ht hW => ⟨⟨r_5, (q_7, 0, nb, a_, q_8), rfl, ⟨(show 0 ≤ q_7.toInt ∧ q_7.toInt ≤ 2000 from ⟨by omega, by omega⟩), trivial⟩, zRet ht hP hD [0, 1] (by decide) rfl⟩, hS.F ht⟩) hS.2.2 dX1_begin_33
    · refine lv_aload_n hx hb dX1_begin_1 rfl (lv_at hl 1 rfl) ?_
      refine va_get (D := D) (ci := 2) (v := .int 0) (C := RX2) (T := TX2) (N := 3) hx hb hts hi_X1_begin_2 hown hK (zPu_P (hZ.kept hS) hu_u0) 0 rfl rfl 0 (by decide) (hts (.fieldLink RX1 28 "TheLiningsInIt$Pull" "kind" "I") (List.mem_of_getElem? (i := 1) rfl)) (fun _ h9 => h9) rfl dX1_begin_2 ?_
      refine va_put (D := D) (ci := 1) (v := .int 0) (ty := .int) (C := RX1) (T := TX1) (N := 5) hx hb hts hi_X1_begin_1 tyX1 tyX1_ok nmX1 hown hK hP hD hS 0 rfl rfl 2 (by decide) (hts (.fieldLink RX1 19 "TheLiningsInIt$Moves" "kind" "I") (List.mem_of_getElem? (i := 2) rfl)) (fun _ h9 => h9) rfl (tyX1_ok 2 (Nat.le_of_ble_eq_true rfl)) rfl rfl (Nat.le_of_ble_eq_true rfl) dX1_begin_5 (fun H locs hP hD hS => ?_)
      have h9R := zRe (ws' := [(mv, .inr (1, [.ref mb, .int mr, .int 0, .int mm, .int mq])), (mb, .inl (cI, 20, .inl fb))]) hP hD rfl
      clear hP hD
      obtain ⟨hP, hD⟩ := h9R
      refine lv_aload_n hx hb dX1_begin_8 rfl (lv_at hl 0 rfl) ?_
      refine lv_iload_n hx hb dX1_begin_9 rfl (lv_at hl 2 rfl) ?_
      refine va_put (D := D) (ci := 1) (v := .int nb) (ty := .int) (C := RX1) (T := TX1) (N := 5) hx hb hts hi_X1_begin_1 tyX1 tyX1_ok nmX1 hown hK hP hD hS 0 rfl rfl 3 (by decide) (hts (.fieldLink RX1 22 "TheLiningsInIt$Moves" "m" "I") (List.mem_of_getElem? (i := 3) rfl)) (fun _ h9 => h9) rfl (tyX1_ok 3 (Nat.le_of_ble_eq_true rfl)) rfl rfl (Nat.le_of_ble_eq_true rfl) dX1_begin_10 (fun H locs hP hD hS => ?_)
      have h9R := zRe (ws' := [(mv, .inr (1, [.ref mb, .int mr, .int 0, .int nb, .int mq])), (mb, .inl (cI, 20, .inl fb))]) hP hD rfl
      clear hP hD
      obtain ⟨hP, hD⟩ := h9R
      refine lv_aload_n hx hb dX1_begin_13 rfl (lv_at hl 0 rfl) ?_
      refine lv_aload_n hx hb dX1_begin_14 rfl (lv_at hl 1 rfl) ?_
      refine va_get (D := D) (ci := 2) (v := .int a_) (C := RX2) (T := TX2) (N := 3) hx hb hts hi_X1_begin_2 hown hK (zPu_P (hZ.kept hS) hu_u0) 0 rfl rfl 1 (by decide) (hts (.fieldLink RX1 31 "TheLiningsInIt$Pull" "a" "I") (List.mem_of_getElem? (i := 4) rfl)) (fun _ h9 => h9) rfl dX1_begin_15 ?_
      refine va_put (D := D) (ci := 1) (v := .int a_) (ty := .int) (C := RX1) (T := TX1) (N := 5) hx hb hts hi_X1_begin_1 tyX1 tyX1_ok nmX1 hown hK hP hD hS 0 rfl rfl 4 (by decide) (hts (.fieldLink RX1 25 "TheLiningsInIt$Moves" "k" "I") (List.mem_of_getElem? (i := 5) rfl)) (fun _ h9 => h9) rfl (tyX1_ok 4 (Nat.le_of_ble_eq_true rfl)) rfl rfl (Nat.le_of_ble_eq_true rfl) dX1_begin_18 (fun H locs hP hD hS => ?_)
      have h9R := zRe (ws' := [(mv, .inr (1, [.ref mb, .int mr, .int 0, .int nb, .int a_])), (mb, .inl (cI, 20, .inl fb))]) hP hD rfl
      clear hP hD
      obtain ⟨hP, hD⟩ := h9R
      refine lv_aload_n hx hb dX1_begin_21 rfl (lv_at hl 0 rfl) ?_
      refine lv_aload_n hx hb dX1_begin_22 rfl (lv_at hl 0 rfl) ?_
      refine va_get (D := D) (ci := 1) (v := .int 0) (C := RX1) (T := TX1) (N := 5) hx hb hts hi_X1_begin_1 hown hK hP 0 rfl rfl 2 (by decide) (hts (.fieldLink RX1 19 "TheLiningsInIt$Moves" "kind" "I") (List.mem_of_getElem? (i := 2) rfl)) (fun _ h9 => h9) rfl dX1_begin_23 ?_
      refine lv_iload_n hx hb dX1_begin_26 rfl (lv_at hl 3 rfl) ?_
      refine lv_iload hx hb dX1_begin_27 (lv_at hl 4 rfl) ?_
      refine lv_iconst (v := 0) hx hb dX1_begin_29 (by decide) ?_
      skip
      refine zw_V (As := [.int 0, .int 2, .int x, .int 0]) (rest := []) (wr := []) ⟨hx, hb, hml, hown, hts⟩ (c_M_run_0_0_2_0 l D cI cJ cZ cP cS po mv mb (mr) (nb) (a_) fb (x) hy2 hy3 H.size) (cwV 4 hts gX1_begin_X1_run rfl rfl rfl ⟨rfl, dh_X1_run⟩ ⟨Nat.le_of_ble_eq_true rfl, Nat.le_of_ble_eq_true rfl⟩) hK hN (hZ.kept hS) hP hD hS hA [0, 1] [] rfl rfl (by decide) (by decide) (by decide) (va_recv (q := (RX1, TX1, 5)) hK hP (ci := 1) (q0 := 0) rfl rfl) rfl hl.1 rfl (Nat.le_of_ble_eq_true rfl) dX1_begin_30 ⟨Nat.le_of_ble_eq_true rfl, Nat.le_of_ble_eq_true rfl⟩ (fun r_9 u_10 H locs hr_9 hP hD hS => ?_)
      obtain ⟨q_11, q_12⟩ := u_10
      try dsimp only at hr_9
      obtain ⟨hbq_11, hr_9⟩ := hr_9
      have h9R := zRe (ws' := [(mv, .inr (1, [.ref mb, .int q_11, .int 0, .int nb, .int a_])), (mb, .inl (cI, 20, .inl q_12))]) hP hD rfl
      clear hP hD
      obtain ⟨hP, hD⟩ := h9R
      exact W.iret (v := r_9) hx hb hr (fun t ht hW => ⟨⟨r_9, (q_11, 0, nb, a_, q_12), rfl, ⟨(show 0 ≤ q_11.toInt ∧ q_11.toInt ≤ 2000 from ⟨by omega, by omega⟩), trivial⟩, zRet ht hP hD [0, 1] (by decide) rfl⟩, hS.F ht⟩) hS.2.2 dX1_begin_33
  · refine lv_aload_n hx hb dX1_begin_0 rfl (lv_at hl 0 rfl) ?_
    have hsp : mo = 0 ∨ mo = 1 ∨ mo = 2 := by
      rcases (show mo.toInt = 0 ∨ mo.toInt = 1 ∨ mo.toInt = 2 by omega) with h9 | h9 | h9
      · refine Or.inl ?_; exact zf_val h9 (by decide)
      · refine Or.inr (Or.inl ?_); exact zf_val h9 (by decide)
      · refine Or.inr (Or.inr (?_)); exact zf_val h9 (by decide)
    rcases hsp with rfl | rfl | rfl
    · refine lv_aload_n hx hb dX1_begin_1 rfl (lv_at hl 1 rfl) ?_
      refine va_get (D := D) (ci := 2) (v := .int 1) (C := RX2) (T := TX2) (N := 3) hx hb hts hi_X1_begin_2 hown hK (zPu_P (hZ.kept hS) hu_u0) 0 rfl rfl 0 (by decide) (hts (.fieldLink RX1 28 "TheLiningsInIt$Pull" "kind" "I") (List.mem_of_getElem? (i := 1) rfl)) (fun _ h9 => h9) rfl dX1_begin_2 ?_
      refine va_put (D := D) (ci := 1) (v := .int 1) (ty := .int) (C := RX1) (T := TX1) (N := 5) hx hb hts hi_X1_begin_1 tyX1 tyX1_ok nmX1 hown hK hP hD hS 0 rfl rfl 2 (by decide) (hts (.fieldLink RX1 19 "TheLiningsInIt$Moves" "kind" "I") (List.mem_of_getElem? (i := 2) rfl)) (fun _ h9 => h9) rfl (tyX1_ok 2 (Nat.le_of_ble_eq_true rfl)) rfl rfl (Nat.le_of_ble_eq_true rfl) dX1_begin_5 (fun H locs hP hD hS => ?_)
      have h9R := zRe (ws' := [(mv, .inr (1, [.ref mb, .int mr, .int 1, .int mm, .int mq])), (mb, .inl (cI, 20, .inl fb))]) hP hD rfl
      clear hP hD
      obtain ⟨hP, hD⟩ := h9R
      refine lv_aload_n hx hb dX1_begin_8 rfl (lv_at hl 0 rfl) ?_
      refine lv_iload_n hx hb dX1_begin_9 rfl (lv_at hl 2 rfl) ?_
      refine va_put (D := D) (ci := 1) (v := .int nb) (ty := .int) (C := RX1) (T := TX1) (N := 5) hx hb hts hi_X1_begin_1 tyX1 tyX1_ok nmX1 hown hK hP hD hS 0 rfl rfl 3 (by decide) (hts (.fieldLink RX1 22 "TheLiningsInIt$Moves" "m" "I") (List.mem_of_getElem? (i := 3) rfl)) (fun _ h9 => h9) rfl (tyX1_ok 3 (Nat.le_of_ble_eq_true rfl)) rfl rfl (Nat.le_of_ble_eq_true rfl) dX1_begin_10 (fun H locs hP hD hS => ?_)
      have h9R := zRe (ws' := [(mv, .inr (1, [.ref mb, .int mr, .int 1, .int nb, .int mq])), (mb, .inl (cI, 20, .inl fb))]) hP hD rfl
      clear hP hD
      obtain ⟨hP, hD⟩ := h9R
      refine lv_aload_n hx hb dX1_begin_13 rfl (lv_at hl 0 rfl) ?_
      refine lv_aload_n hx hb dX1_begin_14 rfl (lv_at hl 1 rfl) ?_
      refine va_get (D := D) (ci := 2) (v := .int a_) (C := RX2) (T := TX2) (N := 3) hx hb hts hi_X1_begin_2 hown hK (zPu_P (hZ.kept hS) hu_u0) 0 rfl rfl 1 (by decide) (hts (.fieldLink RX1 31 "TheLiningsInIt$Pull" "a" "I") (List.mem_of_getElem? (i := 4) rfl)) (fun _ h9 => h9) rfl dX1_begin_15 ?_
      refine va_put (D := D) (ci := 1) (v := .int a_) (ty := .int) (C := RX1) (T := TX1) (N := 5) hx hb hts hi_X1_begin_1 tyX1 tyX1_ok nmX1 hown hK hP hD hS 0 rfl rfl 4 (by decide) (hts (.fieldLink RX1 25 "TheLiningsInIt$Moves" "k" "I") (List.mem_of_getElem? (i := 5) rfl)) (fun _ h9 => h9) rfl (tyX1_ok 4 (Nat.le_of_ble_eq_true rfl)) rfl rfl (Nat.le_of_ble_eq_true rfl) dX1_begin_18 (fun H locs hP hD hS => ?_)
      have h9R := zRe (ws' := [(mv, .inr (1, [.ref mb, .int mr, .int 1, .int nb, .int a_])), (mb, .inl (cI, 20, .inl fb))]) hP hD rfl
      clear hP hD
      obtain ⟨hP, hD⟩ := h9R
      refine lv_aload_n hx hb dX1_begin_21 rfl (lv_at hl 0 rfl) ?_
      refine lv_aload_n hx hb dX1_begin_22 rfl (lv_at hl 0 rfl) ?_
      refine va_get (D := D) (ci := 1) (v := .int 1) (C := RX1) (T := TX1) (N := 5) hx hb hts hi_X1_begin_1 hown hK hP 0 rfl rfl 2 (by decide) (hts (.fieldLink RX1 19 "TheLiningsInIt$Moves" "kind" "I") (List.mem_of_getElem? (i := 2) rfl)) (fun _ h9 => h9) rfl dX1_begin_23 ?_
      refine lv_iload_n hx hb dX1_begin_26 rfl (lv_at hl 3 rfl) ?_
      refine lv_iload hx hb dX1_begin_27 (lv_at hl 4 rfl) ?_
      refine lv_iconst (v := 0) hx hb dX1_begin_29 (by decide) ?_
      skip
      refine zw_V (As := [.int 1, .int 0, .int x, .int 0]) (rest := []) (wr := []) ⟨hx, hb, hml, hown, hts⟩ (c_M_run_1_1_0_0 l D cI cJ cZ cP cS po mv mb (mr) (nb) (a_) fb (x) hy2 hy3 H.size) (cwV 4 hts gX1_begin_X1_run rfl rfl rfl ⟨rfl, dh_X1_run⟩ ⟨Nat.le_of_ble_eq_true rfl, Nat.le_of_ble_eq_true rfl⟩) hK hN (hZ.kept hS) hP hD hS hA [0, 1] [] rfl rfl (by decide) (by decide) (by decide) (va_recv (q := (RX1, TX1, 5)) hK hP (ci := 1) (q0 := 0) rfl rfl) rfl hl.1 rfl (Nat.le_of_ble_eq_true rfl) dX1_begin_30 ⟨Nat.le_of_ble_eq_true rfl, Nat.le_of_ble_eq_true rfl⟩ (fun r_13 u_14 H locs hr_13 hP hD hS => ?_)
      obtain ⟨q_15, q_16⟩ := u_14
      try dsimp only at hr_13
      obtain ⟨hbq_15, hr_13⟩ := hr_13
      have h9R := zRe (ws' := [(mv, .inr (1, [.ref mb, .int q_15, .int 1, .int nb, .int a_])), (mb, .inl (cI, 20, .inl q_16))]) hP hD rfl
      clear hP hD
      obtain ⟨hP, hD⟩ := h9R
      exact W.iret (v := r_13) hx hb hr (fun t ht hW => ⟨⟨r_13, (q_15, 1, nb, a_, q_16), rfl, ⟨(show 0 ≤ q_15.toInt ∧ q_15.toInt ≤ 2000 from ⟨by omega, by omega⟩), trivial⟩, zRet ht hP hD [0, 1] (by decide) rfl⟩, hS.F ht⟩) hS.2.2 dX1_begin_33
    · refine lv_aload_n hx hb dX1_begin_1 rfl (lv_at hl 1 rfl) ?_
      refine va_get (D := D) (ci := 2) (v := .int 1) (C := RX2) (T := TX2) (N := 3) hx hb hts hi_X1_begin_2 hown hK (zPu_P (hZ.kept hS) hu_u0) 0 rfl rfl 0 (by decide) (hts (.fieldLink RX1 28 "TheLiningsInIt$Pull" "kind" "I") (List.mem_of_getElem? (i := 1) rfl)) (fun _ h9 => h9) rfl dX1_begin_2 ?_
      refine va_put (D := D) (ci := 1) (v := .int 1) (ty := .int) (C := RX1) (T := TX1) (N := 5) hx hb hts hi_X1_begin_1 tyX1 tyX1_ok nmX1 hown hK hP hD hS 0 rfl rfl 2 (by decide) (hts (.fieldLink RX1 19 "TheLiningsInIt$Moves" "kind" "I") (List.mem_of_getElem? (i := 2) rfl)) (fun _ h9 => h9) rfl (tyX1_ok 2 (Nat.le_of_ble_eq_true rfl)) rfl rfl (Nat.le_of_ble_eq_true rfl) dX1_begin_5 (fun H locs hP hD hS => ?_)
      have h9R := zRe (ws' := [(mv, .inr (1, [.ref mb, .int mr, .int 1, .int mm, .int mq])), (mb, .inl (cI, 20, .inl fb))]) hP hD rfl
      clear hP hD
      obtain ⟨hP, hD⟩ := h9R
      refine lv_aload_n hx hb dX1_begin_8 rfl (lv_at hl 0 rfl) ?_
      refine lv_iload_n hx hb dX1_begin_9 rfl (lv_at hl 2 rfl) ?_
      refine va_put (D := D) (ci := 1) (v := .int nb) (ty := .int) (C := RX1) (T := TX1) (N := 5) hx hb hts hi_X1_begin_1 tyX1 tyX1_ok nmX1 hown hK hP hD hS 0 rfl rfl 3 (by decide) (hts (.fieldLink RX1 22 "TheLiningsInIt$Moves" "m" "I") (List.mem_of_getElem? (i := 3) rfl)) (fun _ h9 => h9) rfl (tyX1_ok 3 (Nat.le_of_ble_eq_true rfl)) rfl rfl (Nat.le_of_ble_eq_true rfl) dX1_begin_10 (fun H locs hP hD hS => ?_)
      have h9R := zRe (ws' := [(mv, .inr (1, [.ref mb, .int mr, .int 1, .int nb, .int mq])), (mb, .inl (cI, 20, .inl fb))]) hP hD rfl
      clear hP hD
      obtain ⟨hP, hD⟩ := h9R
      refine lv_aload_n hx hb dX1_begin_13 rfl (lv_at hl 0 rfl) ?_
      refine lv_aload_n hx hb dX1_begin_14 rfl (lv_at hl 1 rfl) ?_
      refine va_get (D := D) (ci := 2) (v := .int a_) (C := RX2) (T := TX2) (N := 3) hx hb hts hi_X1_begin_2 hown hK (zPu_P (hZ.kept hS) hu_u0) 0 rfl rfl 1 (by decide) (hts (.fieldLink RX1 31 "TheLiningsInIt$Pull" "a" "I") (List.mem_of_getElem? (i := 4) rfl)) (fun _ h9 => h9) rfl dX1_begin_15 ?_
      refine va_put (D := D) (ci := 1) (v := .int a_) (ty := .int) (C := RX1) (T := TX1) (N := 5) hx hb hts hi_X1_begin_1 tyX1 tyX1_ok nmX1 hown hK hP hD hS 0 rfl rfl 4 (by decide) (hts (.fieldLink RX1 25 "TheLiningsInIt$Moves" "k" "I") (List.mem_of_getElem? (i := 5) rfl)) (fun _ h9 => h9) rfl (tyX1_ok 4 (Nat.le_of_ble_eq_true rfl)) rfl rfl (Nat.le_of_ble_eq_true rfl) dX1_begin_18 (fun H locs hP hD hS => ?_)
      have h9R := zRe (ws' := [(mv, .inr (1, [.ref mb, .int mr, .int 1, .int nb, .int a_])), (mb, .inl (cI, 20, .inl fb))]) hP hD rfl
      clear hP hD
      obtain ⟨hP, hD⟩ := h9R
      refine lv_aload_n hx hb dX1_begin_21 rfl (lv_at hl 0 rfl) ?_
      refine lv_aload_n hx hb dX1_begin_22 rfl (lv_at hl 0 rfl) ?_
      refine va_get (D := D) (ci := 1) (v := .int 1) (C := RX1) (T := TX1) (N := 5) hx hb hts hi_X1_begin_1 hown hK hP 0 rfl rfl 2 (by decide) (hts (.fieldLink RX1 19 "TheLiningsInIt$Moves" "kind" "I") (List.mem_of_getElem? (i := 2) rfl)) (fun _ h9 => h9) rfl dX1_begin_23 ?_
      refine lv_iload_n hx hb dX1_begin_26 rfl (lv_at hl 3 rfl) ?_
      refine lv_iload hx hb dX1_begin_27 (lv_at hl 4 rfl) ?_
      refine lv_iconst (v := 0) hx hb dX1_begin_29 (by decide) ?_
      skip
      refine zw_V (As := [.int 1, .int 1, .int x, .int 0]) (rest := []) (wr := []) ⟨hx, hb, hml, hown, hts⟩ (c_M_run_1_1_1_0 l D cI cJ cZ cP cS po mv mb (mr) (nb) (a_) fb (x) hy2 hy3 H.size) (cwV 4 hts gX1_begin_X1_run rfl rfl rfl ⟨rfl, dh_X1_run⟩ ⟨Nat.le_of_ble_eq_true rfl, Nat.le_of_ble_eq_true rfl⟩) hK hN (hZ.kept hS) hP hD hS hA [0, 1] [] rfl rfl (by decide) (by decide) (by decide) (va_recv (q := (RX1, TX1, 5)) hK hP (ci := 1) (q0 := 0) rfl rfl) rfl hl.1 rfl (Nat.le_of_ble_eq_true rfl) dX1_begin_30 ⟨Nat.le_of_ble_eq_true rfl, Nat.le_of_ble_eq_true rfl⟩ (fun r_17 u_18 H locs hr_17 hP hD hS => ?_)
      obtain ⟨q_19, q_20⟩ := u_18
      try dsimp only at hr_17
      obtain ⟨hbq_19, hr_17⟩ := hr_17
      have h9R := zRe (ws' := [(mv, .inr (1, [.ref mb, .int q_19, .int 1, .int nb, .int a_])), (mb, .inl (cI, 20, .inl q_20))]) hP hD rfl
      clear hP hD
      obtain ⟨hP, hD⟩ := h9R
      exact W.iret (v := r_17) hx hb hr (fun t ht hW => ⟨⟨r_17, (q_19, 1, nb, a_, q_20), rfl, ⟨(show 0 ≤ q_19.toInt ∧ q_19.toInt ≤ 2000 from ⟨by omega, by omega⟩), trivial⟩, zRet ht hP hD [0, 1] (by decide) rfl⟩, hS.F ht⟩) hS.2.2 dX1_begin_33
    · refine lv_aload_n hx hb dX1_begin_1 rfl (lv_at hl 1 rfl) ?_
      refine va_get (D := D) (ci := 2) (v := .int 1) (C := RX2) (T := TX2) (N := 3) hx hb hts hi_X1_begin_2 hown hK (zPu_P (hZ.kept hS) hu_u0) 0 rfl rfl 0 (by decide) (hts (.fieldLink RX1 28 "TheLiningsInIt$Pull" "kind" "I") (List.mem_of_getElem? (i := 1) rfl)) (fun _ h9 => h9) rfl dX1_begin_2 ?_
      refine va_put (D := D) (ci := 1) (v := .int 1) (ty := .int) (C := RX1) (T := TX1) (N := 5) hx hb hts hi_X1_begin_1 tyX1 tyX1_ok nmX1 hown hK hP hD hS 0 rfl rfl 2 (by decide) (hts (.fieldLink RX1 19 "TheLiningsInIt$Moves" "kind" "I") (List.mem_of_getElem? (i := 2) rfl)) (fun _ h9 => h9) rfl (tyX1_ok 2 (Nat.le_of_ble_eq_true rfl)) rfl rfl (Nat.le_of_ble_eq_true rfl) dX1_begin_5 (fun H locs hP hD hS => ?_)
      have h9R := zRe (ws' := [(mv, .inr (1, [.ref mb, .int mr, .int 1, .int mm, .int mq])), (mb, .inl (cI, 20, .inl fb))]) hP hD rfl
      clear hP hD
      obtain ⟨hP, hD⟩ := h9R
      refine lv_aload_n hx hb dX1_begin_8 rfl (lv_at hl 0 rfl) ?_
      refine lv_iload_n hx hb dX1_begin_9 rfl (lv_at hl 2 rfl) ?_
      refine va_put (D := D) (ci := 1) (v := .int nb) (ty := .int) (C := RX1) (T := TX1) (N := 5) hx hb hts hi_X1_begin_1 tyX1 tyX1_ok nmX1 hown hK hP hD hS 0 rfl rfl 3 (by decide) (hts (.fieldLink RX1 22 "TheLiningsInIt$Moves" "m" "I") (List.mem_of_getElem? (i := 3) rfl)) (fun _ h9 => h9) rfl (tyX1_ok 3 (Nat.le_of_ble_eq_true rfl)) rfl rfl (Nat.le_of_ble_eq_true rfl) dX1_begin_10 (fun H locs hP hD hS => ?_)
      have h9R := zRe (ws' := [(mv, .inr (1, [.ref mb, .int mr, .int 1, .int nb, .int mq])), (mb, .inl (cI, 20, .inl fb))]) hP hD rfl
      clear hP hD
      obtain ⟨hP, hD⟩ := h9R
      refine lv_aload_n hx hb dX1_begin_13 rfl (lv_at hl 0 rfl) ?_
      refine lv_aload_n hx hb dX1_begin_14 rfl (lv_at hl 1 rfl) ?_
      refine va_get (D := D) (ci := 2) (v := .int a_) (C := RX2) (T := TX2) (N := 3) hx hb hts hi_X1_begin_2 hown hK (zPu_P (hZ.kept hS) hu_u0) 0 rfl rfl 1 (by decide) (hts (.fieldLink RX1 31 "TheLiningsInIt$Pull" "a" "I") (List.mem_of_getElem? (i := 4) rfl)) (fun _ h9 => h9) rfl dX1_begin_15 ?_
      refine va_put (D := D) (ci := 1) (v := .int a_) (ty := .int) (C := RX1) (T := TX1) (N := 5) hx hb hts hi_X1_begin_1 tyX1 tyX1_ok nmX1 hown hK hP hD hS 0 rfl rfl 4 (by decide) (hts (.fieldLink RX1 25 "TheLiningsInIt$Moves" "k" "I") (List.mem_of_getElem? (i := 5) rfl)) (fun _ h9 => h9) rfl (tyX1_ok 4 (Nat.le_of_ble_eq_true rfl)) rfl rfl (Nat.le_of_ble_eq_true rfl) dX1_begin_18 (fun H locs hP hD hS => ?_)
      have h9R := zRe (ws' := [(mv, .inr (1, [.ref mb, .int mr, .int 1, .int nb, .int a_])), (mb, .inl (cI, 20, .inl fb))]) hP hD rfl
      clear hP hD
      obtain ⟨hP, hD⟩ := h9R
      refine lv_aload_n hx hb dX1_begin_21 rfl (lv_at hl 0 rfl) ?_
      refine lv_aload_n hx hb dX1_begin_22 rfl (lv_at hl 0 rfl) ?_
      refine va_get (D := D) (ci := 1) (v := .int 1) (C := RX1) (T := TX1) (N := 5) hx hb hts hi_X1_begin_1 hown hK hP 0 rfl rfl 2 (by decide) (hts (.fieldLink RX1 19 "TheLiningsInIt$Moves" "kind" "I") (List.mem_of_getElem? (i := 2) rfl)) (fun _ h9 => h9) rfl dX1_begin_23 ?_
      refine lv_iload_n hx hb dX1_begin_26 rfl (lv_at hl 3 rfl) ?_
      refine lv_iload hx hb dX1_begin_27 (lv_at hl 4 rfl) ?_
      refine lv_iconst (v := 0) hx hb dX1_begin_29 (by decide) ?_
      skip
      refine zw_V (As := [.int 1, .int 2, .int x, .int 0]) (rest := []) (wr := []) ⟨hx, hb, hml, hown, hts⟩ (c_M_run_1_1_2_0 l D cI cJ cZ cP cS po mv mb (mr) (nb) (a_) fb (x) hy2 hy3 H.size) (cwV 4 hts gX1_begin_X1_run rfl rfl rfl ⟨rfl, dh_X1_run⟩ ⟨Nat.le_of_ble_eq_true rfl, Nat.le_of_ble_eq_true rfl⟩) hK hN (hZ.kept hS) hP hD hS hA [0, 1] [] rfl rfl (by decide) (by decide) (by decide) (va_recv (q := (RX1, TX1, 5)) hK hP (ci := 1) (q0 := 0) rfl rfl) rfl hl.1 rfl (Nat.le_of_ble_eq_true rfl) dX1_begin_30 ⟨Nat.le_of_ble_eq_true rfl, Nat.le_of_ble_eq_true rfl⟩ (fun r_21 u_22 H locs hr_21 hP hD hS => ?_)
      obtain ⟨q_23, q_24⟩ := u_22
      try dsimp only at hr_21
      obtain ⟨hbq_23, hr_21⟩ := hr_21
      have h9R := zRe (ws' := [(mv, .inr (1, [.ref mb, .int q_23, .int 1, .int nb, .int a_])), (mb, .inl (cI, 20, .inl q_24))]) hP hD rfl
      clear hP hD
      obtain ⟨hP, hD⟩ := h9R
      exact W.iret (v := r_21) hx hb hr (fun t ht hW => ⟨⟨r_21, (q_23, 1, nb, a_, q_24), rfl, ⟨(show 0 ≤ q_23.toInt ∧ q_23.toInt ≤ 2000 from ⟨by omega, by omega⟩), trivial⟩, zRet ht hP hD [0, 1] (by decide) rfl⟩, hS.F ht⟩) hS.2.2 dX1_begin_33
  · refine lv_aload_n hx hb dX1_begin_0 rfl (lv_at hl 0 rfl) ?_
    have hsp : mo = 0 ∨ mo = 1 ∨ mo = 2 := by
      rcases (show mo.toInt = 0 ∨ mo.toInt = 1 ∨ mo.toInt = 2 by omega) with h9 | h9 | h9
      · refine Or.inl ?_; exact zf_val h9 (by decide)
      · refine Or.inr (Or.inl ?_); exact zf_val h9 (by decide)
      · refine Or.inr (Or.inr (?_)); exact zf_val h9 (by decide)
    rcases hsp with rfl | rfl | rfl
    · refine lv_aload_n hx hb dX1_begin_1 rfl (lv_at hl 1 rfl) ?_
      refine va_get (D := D) (ci := 2) (v := .int 2) (C := RX2) (T := TX2) (N := 3) hx hb hts hi_X1_begin_2 hown hK (zPu_P (hZ.kept hS) hu_u0) 0 rfl rfl 0 (by decide) (hts (.fieldLink RX1 28 "TheLiningsInIt$Pull" "kind" "I") (List.mem_of_getElem? (i := 1) rfl)) (fun _ h9 => h9) rfl dX1_begin_2 ?_
      refine va_put (D := D) (ci := 1) (v := .int 2) (ty := .int) (C := RX1) (T := TX1) (N := 5) hx hb hts hi_X1_begin_1 tyX1 tyX1_ok nmX1 hown hK hP hD hS 0 rfl rfl 2 (by decide) (hts (.fieldLink RX1 19 "TheLiningsInIt$Moves" "kind" "I") (List.mem_of_getElem? (i := 2) rfl)) (fun _ h9 => h9) rfl (tyX1_ok 2 (Nat.le_of_ble_eq_true rfl)) rfl rfl (Nat.le_of_ble_eq_true rfl) dX1_begin_5 (fun H locs hP hD hS => ?_)
      have h9R := zRe (ws' := [(mv, .inr (1, [.ref mb, .int mr, .int 2, .int mm, .int mq])), (mb, .inl (cI, 20, .inl fb))]) hP hD rfl
      clear hP hD
      obtain ⟨hP, hD⟩ := h9R
      refine lv_aload_n hx hb dX1_begin_8 rfl (lv_at hl 0 rfl) ?_
      refine lv_iload_n hx hb dX1_begin_9 rfl (lv_at hl 2 rfl) ?_
      refine va_put (D := D) (ci := 1) (v := .int nb) (ty := .int) (C := RX1) (T := TX1) (N := 5) hx hb hts hi_X1_begin_1 tyX1 tyX1_ok nmX1 hown hK hP hD hS 0 rfl rfl 3 (by decide) (hts (.fieldLink RX1 22 "TheLiningsInIt$Moves" "m" "I") (List.mem_of_getElem? (i := 3) rfl)) (fun _ h9 => h9) rfl (tyX1_ok 3 (Nat.le_of_ble_eq_true rfl)) rfl rfl (Nat.le_of_ble_eq_true rfl) dX1_begin_10 (fun H locs hP hD hS => ?_)
      have h9R := zRe (ws' := [(mv, .inr (1, [.ref mb, .int mr, .int 2, .int nb, .int mq])), (mb, .inl (cI, 20, .inl fb))]) hP hD rfl
      clear hP hD
      obtain ⟨hP, hD⟩ := h9R
      refine lv_aload_n hx hb dX1_begin_13 rfl (lv_at hl 0 rfl) ?_
      refine lv_aload_n hx hb dX1_begin_14 rfl (lv_at hl 1 rfl) ?_
      refine va_get (D := D) (ci := 2) (v := .int a_) (C := RX2) (T := TX2) (N := 3) hx hb hts hi_X1_begin_2 hown hK (zPu_P (hZ.kept hS) hu_u0) 0 rfl rfl 1 (by decide) (hts (.fieldLink RX1 31 "TheLiningsInIt$Pull" "a" "I") (List.mem_of_getElem? (i := 4) rfl)) (fun _ h9 => h9) rfl dX1_begin_15 ?_
      refine va_put (D := D) (ci := 1) (v := .int a_) (ty := .int) (C := RX1) (T := TX1) (N := 5) hx hb hts hi_X1_begin_1 tyX1 tyX1_ok nmX1 hown hK hP hD hS 0 rfl rfl 4 (by decide) (hts (.fieldLink RX1 25 "TheLiningsInIt$Moves" "k" "I") (List.mem_of_getElem? (i := 5) rfl)) (fun _ h9 => h9) rfl (tyX1_ok 4 (Nat.le_of_ble_eq_true rfl)) rfl rfl (Nat.le_of_ble_eq_true rfl) dX1_begin_18 (fun H locs hP hD hS => ?_)
      have h9R := zRe (ws' := [(mv, .inr (1, [.ref mb, .int mr, .int 2, .int nb, .int a_])), (mb, .inl (cI, 20, .inl fb))]) hP hD rfl
      clear hP hD
      obtain ⟨hP, hD⟩ := h9R
      refine lv_aload_n hx hb dX1_begin_21 rfl (lv_at hl 0 rfl) ?_
      refine lv_aload_n hx hb dX1_begin_22 rfl (lv_at hl 0 rfl) ?_
      refine va_get (D := D) (ci := 1) (v := .int 2) (C := RX1) (T := TX1) (N := 5) hx hb hts hi_X1_begin_1 hown hK hP 0 rfl rfl 2 (by decide) (hts (.fieldLink RX1 19 "TheLiningsInIt$Moves" "kind" "I") (List.mem_of_getElem? (i := 2) rfl)) (fun _ h9 => h9) rfl dX1_begin_23 ?_
      refine lv_iload_n hx hb dX1_begin_26 rfl (lv_at hl 3 rfl) ?_
      refine lv_iload hx hb dX1_begin_27 (lv_at hl 4 rfl) ?_
      refine lv_iconst (v := 0) hx hb dX1_begin_29 (by decide) ?_
      skip
      refine zw_V (As := [.int 2, .int 0, .int x, .int 0]) (rest := []) (wr := []) ⟨hx, hb, hml, hown, hts⟩ (c_M_run_2_2_0_0 l D cI cJ cZ cP cS po mv mb (mr) (nb) (a_) fb (x) hy2 hy3 H.size) (cwV 4 hts gX1_begin_X1_run rfl rfl rfl ⟨rfl, dh_X1_run⟩ ⟨Nat.le_of_ble_eq_true rfl, Nat.le_of_ble_eq_true rfl⟩) hK hN (hZ.kept hS) hP hD hS hA [0, 1] [] rfl rfl (by decide) (by decide) (by decide) (va_recv (q := (RX1, TX1, 5)) hK hP (ci := 1) (q0 := 0) rfl rfl) rfl hl.1 rfl (Nat.le_of_ble_eq_true rfl) dX1_begin_30 ⟨Nat.le_of_ble_eq_true rfl, Nat.le_of_ble_eq_true rfl⟩ (fun r_25 u_26 H locs hr_25 hP hD hS => ?_)
      obtain ⟨q_27, q_28⟩ := u_26
      try dsimp only at hr_25
      obtain ⟨hbq_27, hr_25⟩ := hr_25
      have h9R := zRe (ws' := [(mv, .inr (1, [.ref mb, .int q_27, .int 2, .int nb, .int a_])), (mb, .inl (cI, 20, .inl q_28))]) hP hD rfl
      clear hP hD
      obtain ⟨hP, hD⟩ := h9R
      exact W.iret (v := r_25) hx hb hr (fun t ht hW => ⟨⟨r_25, (q_27, 2, nb, a_, q_28), rfl, ⟨(show 0 ≤ q_27.toInt ∧ q_27.toInt ≤ 2000 from ⟨by omega, by omega⟩), trivial⟩, zRet ht hP hD [0, 1] (by decide) rfl⟩, hS.F ht⟩) hS.2.2 dX1_begin_33
    · refine lv_aload_n hx hb dX1_begin_1 rfl (lv_at hl 1 rfl) ?_
      refine va_get (D := D) (ci := 2) (v := .int 2) (C := RX2) (T := TX2) (N := 3) hx hb hts hi_X1_begin_2 hown hK (zPu_P (hZ.kept hS) hu_u0) 0 rfl rfl 0 (by decide) (hts (.fieldLink RX1 28 "TheLiningsInIt$Pull" "kind" "I") (List.mem_of_getElem? (i := 1) rfl)) (fun _ h9 => h9) rfl dX1_begin_2 ?_
      refine va_put (D := D) (ci := 1) (v := .int 2) (ty := .int) (C := RX1) (T := TX1) (N := 5) hx hb hts hi_X1_begin_1 tyX1 tyX1_ok nmX1 hown hK hP hD hS 0 rfl rfl 2 (by decide) (hts (.fieldLink RX1 19 "TheLiningsInIt$Moves" "kind" "I") (List.mem_of_getElem? (i := 2) rfl)) (fun _ h9 => h9) rfl (tyX1_ok 2 (Nat.le_of_ble_eq_true rfl)) rfl rfl (Nat.le_of_ble_eq_true rfl) dX1_begin_5 (fun H locs hP hD hS => ?_)
      have h9R := zRe (ws' := [(mv, .inr (1, [.ref mb, .int mr, .int 2, .int mm, .int mq])), (mb, .inl (cI, 20, .inl fb))]) hP hD rfl
      clear hP hD
      obtain ⟨hP, hD⟩ := h9R
      refine lv_aload_n hx hb dX1_begin_8 rfl (lv_at hl 0 rfl) ?_
      refine lv_iload_n hx hb dX1_begin_9 rfl (lv_at hl 2 rfl) ?_
      refine va_put (D := D) (ci := 1) (v := .int nb) (ty := .int) (C := RX1) (T := TX1) (N := 5) hx hb hts hi_X1_begin_1 tyX1 tyX1_ok nmX1 hown hK hP hD hS 0 rfl rfl 3 (by decide) (hts (.fieldLink RX1 22 "TheLiningsInIt$Moves" "m" "I") (List.mem_of_getElem? (i := 3) rfl)) (fun _ h9 => h9) rfl (tyX1_ok 3 (Nat.le_of_ble_eq_true rfl)) rfl rfl (Nat.le_of_ble_eq_true rfl) dX1_begin_10 (fun H locs hP hD hS => ?_)
      have h9R := zRe (ws' := [(mv, .inr (1, [.ref mb, .int mr, .int 2, .int nb, .int mq])), (mb, .inl (cI, 20, .inl fb))]) hP hD rfl
      clear hP hD
      obtain ⟨hP, hD⟩ := h9R
      refine lv_aload_n hx hb dX1_begin_13 rfl (lv_at hl 0 rfl) ?_
      refine lv_aload_n hx hb dX1_begin_14 rfl (lv_at hl 1 rfl) ?_
      refine va_get (D := D) (ci := 2) (v := .int a_) (C := RX2) (T := TX2) (N := 3) hx hb hts hi_X1_begin_2 hown hK (zPu_P (hZ.kept hS) hu_u0) 0 rfl rfl 1 (by decide) (hts (.fieldLink RX1 31 "TheLiningsInIt$Pull" "a" "I") (List.mem_of_getElem? (i := 4) rfl)) (fun _ h9 => h9) rfl dX1_begin_15 ?_
      refine va_put (D := D) (ci := 1) (v := .int a_) (ty := .int) (C := RX1) (T := TX1) (N := 5) hx hb hts hi_X1_begin_1 tyX1 tyX1_ok nmX1 hown hK hP hD hS 0 rfl rfl 4 (by decide) (hts (.fieldLink RX1 25 "TheLiningsInIt$Moves" "k" "I") (List.mem_of_getElem? (i := 5) rfl)) (fun _ h9 => h9) rfl (tyX1_ok 4 (Nat.le_of_ble_eq_true rfl)) rfl rfl (Nat.le_of_ble_eq_true rfl) dX1_begin_18 (fun H locs hP hD hS => ?_)
      have h9R := zRe (ws' := [(mv, .inr (1, [.ref mb, .int mr, .int 2, .int nb, .int a_])), (mb, .inl (cI, 20, .inl fb))]) hP hD rfl
      clear hP hD
      obtain ⟨hP, hD⟩ := h9R
      refine lv_aload_n hx hb dX1_begin_21 rfl (lv_at hl 0 rfl) ?_
      refine lv_aload_n hx hb dX1_begin_22 rfl (lv_at hl 0 rfl) ?_
      refine va_get (D := D) (ci := 1) (v := .int 2) (C := RX1) (T := TX1) (N := 5) hx hb hts hi_X1_begin_1 hown hK hP 0 rfl rfl 2 (by decide) (hts (.fieldLink RX1 19 "TheLiningsInIt$Moves" "kind" "I") (List.mem_of_getElem? (i := 2) rfl)) (fun _ h9 => h9) rfl dX1_begin_23 ?_
      refine lv_iload_n hx hb dX1_begin_26 rfl (lv_at hl 3 rfl) ?_
      refine lv_iload hx hb dX1_begin_27 (lv_at hl 4 rfl) ?_
      refine lv_iconst (v := 0) hx hb dX1_begin_29 (by decide) ?_
      skip
      refine zw_V (As := [.int 2, .int 1, .int x, .int 0]) (rest := []) (wr := []) ⟨hx, hb, hml, hown, hts⟩ (c_M_run_2_2_1_0 l D cI cJ cZ cP cS po mv mb (mr) (nb) (a_) fb (x) hy2 hy3 H.size) (cwV 4 hts gX1_begin_X1_run rfl rfl rfl ⟨rfl, dh_X1_run⟩ ⟨Nat.le_of_ble_eq_true rfl, Nat.le_of_ble_eq_true rfl⟩) hK hN (hZ.kept hS) hP hD hS hA [0, 1] [] rfl rfl (by decide) (by decide) (by decide) (va_recv (q := (RX1, TX1, 5)) hK hP (ci := 1) (q0 := 0) rfl rfl) rfl hl.1 rfl (Nat.le_of_ble_eq_true rfl) dX1_begin_30 ⟨Nat.le_of_ble_eq_true rfl, Nat.le_of_ble_eq_true rfl⟩ (fun r_29 u_30 H locs hr_29 hP hD hS => ?_)
      obtain ⟨q_31, q_32⟩ := u_30
      try dsimp only at hr_29
      obtain ⟨hbq_31, hr_29⟩ := hr_29
      have h9R := zRe (ws' := [(mv, .inr (1, [.ref mb, .int q_31, .int 2, .int nb, .int a_])), (mb, .inl (cI, 20, .inl q_32))]) hP hD rfl
      clear hP hD
      obtain ⟨hP, hD⟩ := h9R
      exact W.iret (v := r_29) hx hb hr (fun t ht hW => ⟨⟨r_29, (q_31, 2, nb, a_, q_32), rfl, ⟨(show 0 ≤ q_31.toInt ∧ q_31.toInt ≤ 2000 from ⟨by omega, by omega⟩), trivial⟩, zRet ht hP hD [0, 1] (by decide) rfl⟩, hS.F ht⟩) hS.2.2 dX1_begin_33
    · refine lv_aload_n hx hb dX1_begin_1 rfl (lv_at hl 1 rfl) ?_
      refine va_get (D := D) (ci := 2) (v := .int 2) (C := RX2) (T := TX2) (N := 3) hx hb hts hi_X1_begin_2 hown hK (zPu_P (hZ.kept hS) hu_u0) 0 rfl rfl 0 (by decide) (hts (.fieldLink RX1 28 "TheLiningsInIt$Pull" "kind" "I") (List.mem_of_getElem? (i := 1) rfl)) (fun _ h9 => h9) rfl dX1_begin_2 ?_
      refine va_put (D := D) (ci := 1) (v := .int 2) (ty := .int) (C := RX1) (T := TX1) (N := 5) hx hb hts hi_X1_begin_1 tyX1 tyX1_ok nmX1 hown hK hP hD hS 0 rfl rfl 2 (by decide) (hts (.fieldLink RX1 19 "TheLiningsInIt$Moves" "kind" "I") (List.mem_of_getElem? (i := 2) rfl)) (fun _ h9 => h9) rfl (tyX1_ok 2 (Nat.le_of_ble_eq_true rfl)) rfl rfl (Nat.le_of_ble_eq_true rfl) dX1_begin_5 (fun H locs hP hD hS => ?_)
      have h9R := zRe (ws' := [(mv, .inr (1, [.ref mb, .int mr, .int 2, .int mm, .int mq])), (mb, .inl (cI, 20, .inl fb))]) hP hD rfl
      clear hP hD
      obtain ⟨hP, hD⟩ := h9R
      refine lv_aload_n hx hb dX1_begin_8 rfl (lv_at hl 0 rfl) ?_
      refine lv_iload_n hx hb dX1_begin_9 rfl (lv_at hl 2 rfl) ?_
      refine va_put (D := D) (ci := 1) (v := .int nb) (ty := .int) (C := RX1) (T := TX1) (N := 5) hx hb hts hi_X1_begin_1 tyX1 tyX1_ok nmX1 hown hK hP hD hS 0 rfl rfl 3 (by decide) (hts (.fieldLink RX1 22 "TheLiningsInIt$Moves" "m" "I") (List.mem_of_getElem? (i := 3) rfl)) (fun _ h9 => h9) rfl (tyX1_ok 3 (Nat.le_of_ble_eq_true rfl)) rfl rfl (Nat.le_of_ble_eq_true rfl) dX1_begin_10 (fun H locs hP hD hS => ?_)
      have h9R := zRe (ws' := [(mv, .inr (1, [.ref mb, .int mr, .int 2, .int nb, .int mq])), (mb, .inl (cI, 20, .inl fb))]) hP hD rfl
      clear hP hD
      obtain ⟨hP, hD⟩ := h9R
      refine lv_aload_n hx hb dX1_begin_13 rfl (lv_at hl 0 rfl) ?_
      refine lv_aload_n hx hb dX1_begin_14 rfl (lv_at hl 1 rfl) ?_
      refine va_get (D := D) (ci := 2) (v := .int a_) (C := RX2) (T := TX2) (N := 3) hx hb hts hi_X1_begin_2 hown hK (zPu_P (hZ.kept hS) hu_u0) 0 rfl rfl 1 (by decide) (hts (.fieldLink RX1 31 "TheLiningsInIt$Pull" "a" "I") (List.mem_of_getElem? (i := 4) rfl)) (fun _ h9 => h9) rfl dX1_begin_15 ?_
      refine va_put (D := D) (ci := 1) (v := .int a_) (ty := .int) (C := RX1) (T := TX1) (N := 5) hx hb hts hi_X1_begin_1 tyX1 tyX1_ok nmX1 hown hK hP hD hS 0 rfl rfl 4 (by decide) (hts (.fieldLink RX1 25 "TheLiningsInIt$Moves" "k" "I") (List.mem_of_getElem? (i := 5) rfl)) (fun _ h9 => h9) rfl (tyX1_ok 4 (Nat.le_of_ble_eq_true rfl)) rfl rfl (Nat.le_of_ble_eq_true rfl) dX1_begin_18 (fun H locs hP hD hS => ?_)
      have h9R := zRe (ws' := [(mv, .inr (1, [.ref mb, .int mr, .int 2, .int nb, .int a_])), (mb, .inl (cI, 20, .inl fb))]) hP hD rfl
      clear hP hD
      obtain ⟨hP, hD⟩ := h9R
      refine lv_aload_n hx hb dX1_begin_21 rfl (lv_at hl 0 rfl) ?_
      refine lv_aload_n hx hb dX1_begin_22 rfl (lv_at hl 0 rfl) ?_
      refine va_get (D := D) (ci := 1) (v := .int 2) (C := RX1) (T := TX1) (N := 5) hx hb hts hi_X1_begin_1 hown hK hP 0 rfl rfl 2 (by decide) (hts (.fieldLink RX1 19 "TheLiningsInIt$Moves" "kind" "I") (List.mem_of_getElem? (i := 2) rfl)) (fun _ h9 => h9) rfl dX1_begin_23 ?_
      refine lv_iload_n hx hb dX1_begin_26 rfl (lv_at hl 3 rfl) ?_
      refine lv_iload hx hb dX1_begin_27 (lv_at hl 4 rfl) ?_
      refine lv_iconst (v := 0) hx hb dX1_begin_29 (by decide) ?_
      skip
      refine zw_V (As := [.int 2, .int 2, .int x, .int 0]) (rest := []) (wr := []) ⟨hx, hb, hml, hown, hts⟩ (c_M_run_2_2_2_0 l D cI cJ cZ cP cS po mv mb (mr) (nb) (a_) fb (x) hy2 hy3 H.size) (cwV 4 hts gX1_begin_X1_run rfl rfl rfl ⟨rfl, dh_X1_run⟩ ⟨Nat.le_of_ble_eq_true rfl, Nat.le_of_ble_eq_true rfl⟩) hK hN (hZ.kept hS) hP hD hS hA [0, 1] [] rfl rfl (by decide) (by decide) (by decide) (va_recv (q := (RX1, TX1, 5)) hK hP (ci := 1) (q0 := 0) rfl rfl) rfl hl.1 rfl (Nat.le_of_ble_eq_true rfl) dX1_begin_30 ⟨Nat.le_of_ble_eq_true rfl, Nat.le_of_ble_eq_true rfl⟩ (fun r_33 u_34 H locs hr_33 hP hD hS => ?_)
      obtain ⟨q_35, q_36⟩ := u_34
      try dsimp only at hr_33
      obtain ⟨hbq_35, hr_33⟩ := hr_33
      have h9R := zRe (ws' := [(mv, .inr (1, [.ref mb, .int q_35, .int 2, .int nb, .int a_])), (mb, .inl (cI, 20, .inl q_36))]) hP hD rfl
      clear hP hD
      obtain ⟨hP, hD⟩ := h9R
      exact W.iret (v := r_33) hx hb hr (fun t ht hW => ⟨⟨r_33, (q_35, 2, nb, a_, q_36), rfl, ⟨(show 0 ≤ q_35.toInt ∧ q_35.toInt ≤ 2000 from ⟨by omega, by omega⟩), trivial⟩, zRet ht hP hD [0, 1] (by decide) rfl⟩, hS.F ht⟩) hS.2.2 dX1_begin_33
  · refine lv_aload_n hx hb dX1_begin_0 rfl (lv_at hl 0 rfl) ?_
    have hsp : mo = 0 ∨ mo = 1 ∨ mo = 2 := by
      rcases (show mo.toInt = 0 ∨ mo.toInt = 1 ∨ mo.toInt = 2 by omega) with h9 | h9 | h9
      · refine Or.inl ?_; exact zf_val h9 (by decide)
      · refine Or.inr (Or.inl ?_); exact zf_val h9 (by decide)
      · refine Or.inr (Or.inr (?_)); exact zf_val h9 (by decide)
    rcases hsp with rfl | rfl | rfl
    · refine lv_aload_n hx hb dX1_begin_1 rfl (lv_at hl 1 rfl) ?_
      refine va_get (D := D) (ci := 2) (v := .int 3) (C := RX2) (T := TX2) (N := 3) hx hb hts hi_X1_begin_2 hown hK (zPu_P (hZ.kept hS) hu_u0) 0 rfl rfl 0 (by decide) (hts (.fieldLink RX1 28 "TheLiningsInIt$Pull" "kind" "I") (List.mem_of_getElem? (i := 1) rfl)) (fun _ h9 => h9) rfl dX1_begin_2 ?_
      refine va_put (D := D) (ci := 1) (v := .int 3) (ty := .int) (C := RX1) (T := TX1) (N := 5) hx hb hts hi_X1_begin_1 tyX1 tyX1_ok nmX1 hown hK hP hD hS 0 rfl rfl 2 (by decide) (hts (.fieldLink RX1 19 "TheLiningsInIt$Moves" "kind" "I") (List.mem_of_getElem? (i := 2) rfl)) (fun _ h9 => h9) rfl (tyX1_ok 2 (Nat.le_of_ble_eq_true rfl)) rfl rfl (Nat.le_of_ble_eq_true rfl) dX1_begin_5 (fun H locs hP hD hS => ?_)
      have h9R := zRe (ws' := [(mv, .inr (1, [.ref mb, .int mr, .int 3, .int mm, .int mq])), (mb, .inl (cI, 20, .inl fb))]) hP hD rfl
      clear hP hD
      obtain ⟨hP, hD⟩ := h9R
      refine lv_aload_n hx hb dX1_begin_8 rfl (lv_at hl 0 rfl) ?_
      refine lv_iload_n hx hb dX1_begin_9 rfl (lv_at hl 2 rfl) ?_
      refine va_put (D := D) (ci := 1) (v := .int nb) (ty := .int) (C := RX1) (T := TX1) (N := 5) hx hb hts hi_X1_begin_1 tyX1 tyX1_ok nmX1 hown hK hP hD hS 0 rfl rfl 3 (by decide) (hts (.fieldLink RX1 22 "TheLiningsInIt$Moves" "m" "I") (List.mem_of_getElem? (i := 3) rfl)) (fun _ h9 => h9) rfl (tyX1_ok 3 (Nat.le_of_ble_eq_true rfl)) rfl rfl (Nat.le_of_ble_eq_true rfl) dX1_begin_10 (fun H locs hP hD hS => ?_)
      have h9R := zRe (ws' := [(mv, .inr (1, [.ref mb, .int mr, .int 3, .int nb, .int mq])), (mb, .inl (cI, 20, .inl fb))]) hP hD rfl
      clear hP hD
      obtain ⟨hP, hD⟩ := h9R
      refine lv_aload_n hx hb dX1_begin_13 rfl (lv_at hl 0 rfl) ?_
      refine lv_aload_n hx hb dX1_begin_14 rfl (lv_at hl 1 rfl) ?_
      refine va_get (D := D) (ci := 2) (v := .int a_) (C := RX2) (T := TX2) (N := 3) hx hb hts hi_X1_begin_2 hown hK (zPu_P (hZ.kept hS) hu_u0) 0 rfl rfl 1 (by decide) (hts (.fieldLink RX1 31 "TheLiningsInIt$Pull" "a" "I") (List.mem_of_getElem? (i := 4) rfl)) (fun _ h9 => h9) rfl dX1_begin_15 ?_
      refine va_put (D := D) (ci := 1) (v := .int a_) (ty := .int) (C := RX1) (T := TX1) (N := 5) hx hb hts hi_X1_begin_1 tyX1 tyX1_ok nmX1 hown hK hP hD hS 0 rfl rfl 4 (by decide) (hts (.fieldLink RX1 25 "TheLiningsInIt$Moves" "k" "I") (List.mem_of_getElem? (i := 5) rfl)) (fun _ h9 => h9) rfl (tyX1_ok 4 (Nat.le_of_ble_eq_true rfl)) rfl rfl (Nat.le_of_ble_eq_true rfl) dX1_begin_18 (fun H locs hP hD hS => ?_)
      have h9R := zRe (ws' := [(mv, .inr (1, [.ref mb, .int mr, .int 3, .int nb, .int a_])), (mb, .inl (cI, 20, .inl fb))]) hP hD rfl
      clear hP hD
      obtain ⟨hP, hD⟩ := h9R
      refine lv_aload_n hx hb dX1_begin_21 rfl (lv_at hl 0 rfl) ?_
      refine lv_aload_n hx hb dX1_begin_22 rfl (lv_at hl 0 rfl) ?_
      refine va_get (D := D) (ci := 1) (v := .int 3) (C := RX1) (T := TX1) (N := 5) hx hb hts hi_X1_begin_1 hown hK hP 0 rfl rfl 2 (by decide) (hts (.fieldLink RX1 19 "TheLiningsInIt$Moves" "kind" "I") (List.mem_of_getElem? (i := 2) rfl)) (fun _ h9 => h9) rfl dX1_begin_23 ?_
      refine lv_iload_n hx hb dX1_begin_26 rfl (lv_at hl 3 rfl) ?_
      refine lv_iload hx hb dX1_begin_27 (lv_at hl 4 rfl) ?_
      refine lv_iconst (v := 0) hx hb dX1_begin_29 (by decide) ?_
      skip
      refine zw_V (As := [.int 3, .int 0, .int x, .int 0]) (rest := []) (wr := []) ⟨hx, hb, hml, hown, hts⟩ (c_M_run_3_3_0_0 l D cI cJ cZ cP cS po mv mb (mr) (nb) (a_) fb (x) hy2 hy3 H.size) (cwV 4 hts gX1_begin_X1_run rfl rfl rfl ⟨rfl, dh_X1_run⟩ ⟨Nat.le_of_ble_eq_true rfl, Nat.le_of_ble_eq_true rfl⟩) hK hN (hZ.kept hS) hP hD hS hA [0, 1] [] rfl rfl (by decide) (by decide) (by decide) (va_recv (q := (RX1, TX1, 5)) hK hP (ci := 1) (q0 := 0) rfl rfl) rfl hl.1 rfl (Nat.le_of_ble_eq_true rfl) dX1_begin_30 ⟨Nat.le_of_ble_eq_true rfl, Nat.le_of_ble_eq_true rfl⟩ (fun r_37 u_38 H locs hr_37 hP hD hS => ?_)
      obtain ⟨q_39, q_40⟩ := u_38
      try dsimp only at hr_37
      obtain ⟨hbq_39, hr_37⟩ := hr_37
      have h9R := zRe (ws' := [(mv, .inr (1, [.ref mb, .int q_39, .int 3, .int nb, .int a_])), (mb, .inl (cI, 20, .inl q_40))]) hP hD rfl
      clear hP hD
      obtain ⟨hP, hD⟩ := h9R
      exact W.iret (v := r_37) hx hb hr (fun t ht hW => ⟨⟨r_37, (q_39, 3, nb, a_, q_40), rfl, ⟨(show 0 ≤ q_39.toInt ∧ q_39.toInt ≤ 2000 from ⟨by omega, by omega⟩), trivial⟩, zRet ht hP hD [0, 1] (by decide) rfl⟩, hS.F ht⟩) hS.2.2 dX1_begin_33
    · refine lv_aload_n hx hb dX1_begin_1 rfl (lv_at hl 1 rfl) ?_
      refine va_get (D := D) (ci := 2) (v := .int 3) (C := RX2) (T := TX2) (N := 3) hx hb hts hi_X1_begin_2 hown hK (zPu_P (hZ.kept hS) hu_u0) 0 rfl rfl 0 (by decide) (hts (.fieldLink RX1 28 "TheLiningsInIt$Pull" "kind" "I") (List.mem_of_getElem? (i := 1) rfl)) (fun _ h9 => h9) rfl dX1_begin_2 ?_
      refine va_put (D := D) (ci := 1) (v := .int 3) (ty := .int) (C := RX1) (T := TX1) (N := 5) hx hb hts hi_X1_begin_1 tyX1 tyX1_ok nmX1 hown hK hP hD hS 0 rfl rfl 2 (by decide) (hts (.fieldLink RX1 19 "TheLiningsInIt$Moves" "kind" "I") (List.mem_of_getElem? (i := 2) rfl)) (fun _ h9 => h9) rfl (tyX1_ok 2 (Nat.le_of_ble_eq_true rfl)) rfl rfl (Nat.le_of_ble_eq_true rfl) dX1_begin_5 (fun H locs hP hD hS => ?_)
      have h9R := zRe (ws' := [(mv, .inr (1, [.ref mb, .int mr, .int 3, .int mm, .int mq])), (mb, .inl (cI, 20, .inl fb))]) hP hD rfl
      clear hP hD
      obtain ⟨hP, hD⟩ := h9R
      refine lv_aload_n hx hb dX1_begin_8 rfl (lv_at hl 0 rfl) ?_
      refine lv_iload_n hx hb dX1_begin_9 rfl (lv_at hl 2 rfl) ?_
      refine va_put (D := D) (ci := 1) (v := .int nb) (ty := .int) (C := RX1) (T := TX1) (N := 5) hx hb hts hi_X1_begin_1 tyX1 tyX1_ok nmX1 hown hK hP hD hS 0 rfl rfl 3 (by decide) (hts (.fieldLink RX1 22 "TheLiningsInIt$Moves" "m" "I") (List.mem_of_getElem? (i := 3) rfl)) (fun _ h9 => h9) rfl (tyX1_ok 3 (Nat.le_of_ble_eq_true rfl)) rfl rfl (Nat.le_of_ble_eq_true rfl) dX1_begin_10 (fun H locs hP hD hS => ?_)
      have h9R := zRe (ws' := [(mv, .inr (1, [.ref mb, .int mr, .int 3, .int nb, .int mq])), (mb, .inl (cI, 20, .inl fb))]) hP hD rfl
      clear hP hD
      obtain ⟨hP, hD⟩ := h9R
      refine lv_aload_n hx hb dX1_begin_13 rfl (lv_at hl 0 rfl) ?_
      refine lv_aload_n hx hb dX1_begin_14 rfl (lv_at hl 1 rfl) ?_
      refine va_get (D := D) (ci := 2) (v := .int a_) (C := RX2) (T := TX2) (N := 3) hx hb hts hi_X1_begin_2 hown hK (zPu_P (hZ.kept hS) hu_u0) 0 rfl rfl 1 (by decide) (hts (.fieldLink RX1 31 "TheLiningsInIt$Pull" "a" "I") (List.mem_of_getElem? (i := 4) rfl)) (fun _ h9 => h9) rfl dX1_begin_15 ?_
      refine va_put (D := D) (ci := 1) (v := .int a_) (ty := .int) (C := RX1) (T := TX1) (N := 5) hx hb hts hi_X1_begin_1 tyX1 tyX1_ok nmX1 hown hK hP hD hS 0 rfl rfl 4 (by decide) (hts (.fieldLink RX1 25 "TheLiningsInIt$Moves" "k" "I") (List.mem_of_getElem? (i := 5) rfl)) (fun _ h9 => h9) rfl (tyX1_ok 4 (Nat.le_of_ble_eq_true rfl)) rfl rfl (Nat.le_of_ble_eq_true rfl) dX1_begin_18 (fun H locs hP hD hS => ?_)
      have h9R := zRe (ws' := [(mv, .inr (1, [.ref mb, .int mr, .int 3, .int nb, .int a_])), (mb, .inl (cI, 20, .inl fb))]) hP hD rfl
      clear hP hD
      obtain ⟨hP, hD⟩ := h9R
      refine lv_aload_n hx hb dX1_begin_21 rfl (lv_at hl 0 rfl) ?_
      refine lv_aload_n hx hb dX1_begin_22 rfl (lv_at hl 0 rfl) ?_
      refine va_get (D := D) (ci := 1) (v := .int 3) (C := RX1) (T := TX1) (N := 5) hx hb hts hi_X1_begin_1 hown hK hP 0 rfl rfl 2 (by decide) (hts (.fieldLink RX1 19 "TheLiningsInIt$Moves" "kind" "I") (List.mem_of_getElem? (i := 2) rfl)) (fun _ h9 => h9) rfl dX1_begin_23 ?_
      refine lv_iload_n hx hb dX1_begin_26 rfl (lv_at hl 3 rfl) ?_
      refine lv_iload hx hb dX1_begin_27 (lv_at hl 4 rfl) ?_
      refine lv_iconst (v := 0) hx hb dX1_begin_29 (by decide) ?_
      skip
      refine zw_V (As := [.int 3, .int 1, .int x, .int 0]) (rest := []) (wr := []) ⟨hx, hb, hml, hown, hts⟩ (c_M_run_3_3_1_0 l D cI cJ cZ cP cS po mv mb (mr) (nb) (a_) fb (x) hy2 hy3 H.size) (cwV 4 hts gX1_begin_X1_run rfl rfl rfl ⟨rfl, dh_X1_run⟩ ⟨Nat.le_of_ble_eq_true rfl, Nat.le_of_ble_eq_true rfl⟩) hK hN (hZ.kept hS) hP hD hS hA [0, 1] [] rfl rfl (by decide) (by decide) (by decide) (va_recv (q := (RX1, TX1, 5)) hK hP (ci := 1) (q0 := 0) rfl rfl) rfl hl.1 rfl (Nat.le_of_ble_eq_true rfl) dX1_begin_30 ⟨Nat.le_of_ble_eq_true rfl, Nat.le_of_ble_eq_true rfl⟩ (fun r_41 u_42 H locs hr_41 hP hD hS => ?_)
      obtain ⟨q_43, q_44⟩ := u_42
      try dsimp only at hr_41
      obtain ⟨hbq_43, hr_41⟩ := hr_41
      have h9R := zRe (ws' := [(mv, .inr (1, [.ref mb, .int q_43, .int 3, .int nb, .int a_])), (mb, .inl (cI, 20, .inl q_44))]) hP hD rfl
      clear hP hD
      obtain ⟨hP, hD⟩ := h9R
      exact W.iret (v := r_41) hx hb hr (fun t ht hW => ⟨⟨r_41, (q_43, 3, nb, a_, q_44), rfl, ⟨(show 0 ≤ q_43.toInt ∧ q_43.toInt ≤ 2000 from ⟨by omega, by omega⟩), trivial⟩, zRet ht hP hD [0, 1] (by decide) rfl⟩, hS.F ht⟩) hS.2.2 dX1_begin_33
    · refine lv_aload_n hx hb dX1_begin_1 rfl (lv_at hl 1 rfl) ?_
      refine va_get (D := D) (ci := 2) (v := .int 3) (C := RX2) (T := TX2) (N := 3) hx hb hts hi_X1_begin_2 hown hK (zPu_P (hZ.kept hS) hu_u0) 0 rfl rfl 0 (by decide) (hts (.fieldLink RX1 28 "TheLiningsInIt$Pull" "kind" "I") (List.mem_of_getElem? (i := 1) rfl)) (fun _ h9 => h9) rfl dX1_begin_2 ?_
      refine va_put (D := D) (ci := 1) (v := .int 3) (ty := .int) (C := RX1) (T := TX1) (N := 5) hx hb hts hi_X1_begin_1 tyX1 tyX1_ok nmX1 hown hK hP hD hS 0 rfl rfl 2 (by decide) (hts (.fieldLink RX1 19 "TheLiningsInIt$Moves" "kind" "I") (List.mem_of_getElem? (i := 2) rfl)) (fun _ h9 => h9) rfl (tyX1_ok 2 (Nat.le_of_ble_eq_true rfl)) rfl rfl (Nat.le_of_ble_eq_true rfl) dX1_begin_5 (fun H locs hP hD hS => ?_)
      have h9R := zRe (ws' := [(mv, .inr (1, [.ref mb, .int mr, .int 3, .int mm, .int mq])), (mb, .inl (cI, 20, .inl fb))]) hP hD rfl
      clear hP hD
      obtain ⟨hP, hD⟩ := h9R
      refine lv_aload_n hx hb dX1_begin_8 rfl (lv_at hl 0 rfl) ?_
      refine lv_iload_n hx hb dX1_begin_9 rfl (lv_at hl 2 rfl) ?_
      refine va_put (D := D) (ci := 1) (v := .int nb) (ty := .int) (C := RX1) (T := TX1) (N := 5) hx hb hts hi_X1_begin_1 tyX1 tyX1_ok nmX1 hown hK hP hD hS 0 rfl rfl 3 (by decide) (hts (.fieldLink RX1 22 "TheLiningsInIt$Moves" "m" "I") (List.mem_of_getElem? (i := 3) rfl)) (fun _ h9 => h9) rfl (tyX1_ok 3 (Nat.le_of_ble_eq_true rfl)) rfl rfl (Nat.le_of_ble_eq_true rfl) dX1_begin_10 (fun H locs hP hD hS => ?_)
      have h9R := zRe (ws' := [(mv, .inr (1, [.ref mb, .int mr, .int 3, .int nb, .int mq])), (mb, .inl (cI, 20, .inl fb))]) hP hD rfl
      clear hP hD
      obtain ⟨hP, hD⟩ := h9R
      refine lv_aload_n hx hb dX1_begin_13 rfl (lv_at hl 0 rfl) ?_
      refine lv_aload_n hx hb dX1_begin_14 rfl (lv_at hl 1 rfl) ?_
      refine va_get (D := D) (ci := 2) (v := .int a_) (C := RX2) (T := TX2) (N := 3) hx hb hts hi_X1_begin_2 hown hK (zPu_P (hZ.kept hS) hu_u0) 0 rfl rfl 1 (by decide) (hts (.fieldLink RX1 31 "TheLiningsInIt$Pull" "a" "I") (List.mem_of_getElem? (i := 4) rfl)) (fun _ h9 => h9) rfl dX1_begin_15 ?_
      refine va_put (D := D) (ci := 1) (v := .int a_) (ty := .int) (C := RX1) (T := TX1) (N := 5) hx hb hts hi_X1_begin_1 tyX1 tyX1_ok nmX1 hown hK hP hD hS 0 rfl rfl 4 (by decide) (hts (.fieldLink RX1 25 "TheLiningsInIt$Moves" "k" "I") (List.mem_of_getElem? (i := 5) rfl)) (fun _ h9 => h9) rfl (tyX1_ok 4 (Nat.le_of_ble_eq_true rfl)) rfl rfl (Nat.le_of_ble_eq_true rfl) dX1_begin_18 (fun H locs hP hD hS => ?_)
      have h9R := zRe (ws' := [(mv, .inr (1, [.ref mb, .int mr, .int 3, .int nb, .int a_])), (mb, .inl (cI, 20, .inl fb))]) hP hD rfl
      clear hP hD
      obtain ⟨hP, hD⟩ := h9R
      refine lv_aload_n hx hb dX1_begin_21 rfl (lv_at hl 0 rfl) ?_
      refine lv_aload_n hx hb dX1_begin_22 rfl (lv_at hl 0 rfl) ?_
      refine va_get (D := D) (ci := 1) (v := .int 3) (C := RX1) (T := TX1) (N := 5) hx hb hts hi_X1_begin_1 hown hK hP 0 rfl rfl 2 (by decide) (hts (.fieldLink RX1 19 "TheLiningsInIt$Moves" "kind" "I") (List.mem_of_getElem? (i := 2) rfl)) (fun _ h9 => h9) rfl dX1_begin_23 ?_
      refine lv_iload_n hx hb dX1_begin_26 rfl (lv_at hl 3 rfl) ?_
      refine lv_iload hx hb dX1_begin_27 (lv_at hl 4 rfl) ?_
      refine lv_iconst (v := 0) hx hb dX1_begin_29 (by decide) ?_
      skip
      refine zw_V (As := [.int 3, .int 2, .int x, .int 0]) (rest := []) (wr := []) ⟨hx, hb, hml, hown, hts⟩ (c_M_run_3_3_2_0 l D cI cJ cZ cP cS po mv mb (mr) (nb) (a_) fb (x) hy2 hy3 H.size) (cwV 4 hts gX1_begin_X1_run rfl rfl rfl ⟨rfl, dh_X1_run⟩ ⟨Nat.le_of_ble_eq_true rfl, Nat.le_of_ble_eq_true rfl⟩) hK hN (hZ.kept hS) hP hD hS hA [0, 1] [] rfl rfl (by decide) (by decide) (by decide) (va_recv (q := (RX1, TX1, 5)) hK hP (ci := 1) (q0 := 0) rfl rfl) rfl hl.1 rfl (Nat.le_of_ble_eq_true rfl) dX1_begin_30 ⟨Nat.le_of_ble_eq_true rfl, Nat.le_of_ble_eq_true rfl⟩ (fun r_45 u_46 H locs hr_45 hP hD hS => ?_)
      obtain ⟨q_47, q_48⟩ := u_46
      try dsimp only at hr_45
      obtain ⟨hbq_47, hr_45⟩ := hr_45
      have h9R := zRe (ws' := [(mv, .inr (1, [.ref mb, .int q_47, .int 3, .int nb, .int a_])), (mb, .inl (cI, 20, .inl q_48))]) hP hD rfl
      clear hP hD
      obtain ⟨hP, hD⟩ := h9R
      exact W.iret (v := r_45) hx hb hr (fun t ht hW => ⟨⟨r_45, (q_47, 3, nb, a_, q_48), rfl, ⟨(show 0 ≤ q_47.toInt ∧ q_47.toInt ≤ 2000 from ⟨by omega, by omega⟩), trivial⟩, zRet ht hP hD [0, 1] (by decide) rfl⟩, hS.F ht⟩) hS.2.2 dX1_begin_33
  · refine lv_aload_n hx hb dX1_begin_0 rfl (lv_at hl 0 rfl) ?_
    have hsp : mo = 0 ∨ mo = 1 ∨ mo = 2 := by
      rcases (show mo.toInt = 0 ∨ mo.toInt = 1 ∨ mo.toInt = 2 by omega) with h9 | h9 | h9
      · refine Or.inl ?_; exact zf_val h9 (by decide)
      · refine Or.inr (Or.inl ?_); exact zf_val h9 (by decide)
      · refine Or.inr (Or.inr (?_)); exact zf_val h9 (by decide)
    rcases hsp with rfl | rfl | rfl
    · refine lv_aload_n hx hb dX1_begin_1 rfl (lv_at hl 1 rfl) ?_
      refine va_get (D := D) (ci := 2) (v := .int 4) (C := RX2) (T := TX2) (N := 3) hx hb hts hi_X1_begin_2 hown hK (zPu_P (hZ.kept hS) hu_u0) 0 rfl rfl 0 (by decide) (hts (.fieldLink RX1 28 "TheLiningsInIt$Pull" "kind" "I") (List.mem_of_getElem? (i := 1) rfl)) (fun _ h9 => h9) rfl dX1_begin_2 ?_
      refine va_put (D := D) (ci := 1) (v := .int 4) (ty := .int) (C := RX1) (T := TX1) (N := 5) hx hb hts hi_X1_begin_1 tyX1 tyX1_ok nmX1 hown hK hP hD hS 0 rfl rfl 2 (by decide) (hts (.fieldLink RX1 19 "TheLiningsInIt$Moves" "kind" "I") (List.mem_of_getElem? (i := 2) rfl)) (fun _ h9 => h9) rfl (tyX1_ok 2 (Nat.le_of_ble_eq_true rfl)) rfl rfl (Nat.le_of_ble_eq_true rfl) dX1_begin_5 (fun H locs hP hD hS => ?_)
      have h9R := zRe (ws' := [(mv, .inr (1, [.ref mb, .int mr, .int 4, .int mm, .int mq])), (mb, .inl (cI, 20, .inl fb))]) hP hD rfl
      clear hP hD
      obtain ⟨hP, hD⟩ := h9R
      refine lv_aload_n hx hb dX1_begin_8 rfl (lv_at hl 0 rfl) ?_
      refine lv_iload_n hx hb dX1_begin_9 rfl (lv_at hl 2 rfl) ?_
      refine va_put (D := D) (ci := 1) (v := .int nb) (ty := .int) (C := RX1) (T := TX1) (N := 5) hx hb hts hi_X1_begin_1 tyX1 tyX1_ok nmX1 hown hK hP hD hS 0 rfl rfl 3 (by decide) (hts (.fieldLink RX1 22 "TheLiningsInIt$Moves" "m" "I") (List.mem_of_getElem? (i := 3) rfl)) (fun _ h9 => h9) rfl (tyX1_ok 3 (Nat.le_of_ble_eq_true rfl)) rfl rfl (Nat.le_of_ble_eq_true rfl) dX1_begin_10 (fun H locs hP hD hS => ?_)
      have h9R := zRe (ws' := [(mv, .inr (1, [.ref mb, .int mr, .int 4, .int nb, .int mq])), (mb, .inl (cI, 20, .inl fb))]) hP hD rfl
      clear hP hD
      obtain ⟨hP, hD⟩ := h9R
      refine lv_aload_n hx hb dX1_begin_13 rfl (lv_at hl 0 rfl) ?_
      refine lv_aload_n hx hb dX1_begin_14 rfl (lv_at hl 1 rfl) ?_
      refine va_get (D := D) (ci := 2) (v := .int a_) (C := RX2) (T := TX2) (N := 3) hx hb hts hi_X1_begin_2 hown hK (zPu_P (hZ.kept hS) hu_u0) 0 rfl rfl 1 (by decide) (hts (.fieldLink RX1 31 "TheLiningsInIt$Pull" "a" "I") (List.mem_of_getElem? (i := 4) rfl)) (fun _ h9 => h9) rfl dX1_begin_15 ?_
      refine va_put (D := D) (ci := 1) (v := .int a_) (ty := .int) (C := RX1) (T := TX1) (N := 5) hx hb hts hi_X1_begin_1 tyX1 tyX1_ok nmX1 hown hK hP hD hS 0 rfl rfl 4 (by decide) (hts (.fieldLink RX1 25 "TheLiningsInIt$Moves" "k" "I") (List.mem_of_getElem? (i := 5) rfl)) (fun _ h9 => h9) rfl (tyX1_ok 4 (Nat.le_of_ble_eq_true rfl)) rfl rfl (Nat.le_of_ble_eq_true rfl) dX1_begin_18 (fun H locs hP hD hS => ?_)
      have h9R := zRe (ws' := [(mv, .inr (1, [.ref mb, .int mr, .int 4, .int nb, .int a_])), (mb, .inl (cI, 20, .inl fb))]) hP hD rfl
      clear hP hD
      obtain ⟨hP, hD⟩ := h9R
      refine lv_aload_n hx hb dX1_begin_21 rfl (lv_at hl 0 rfl) ?_
      refine lv_aload_n hx hb dX1_begin_22 rfl (lv_at hl 0 rfl) ?_
      refine va_get (D := D) (ci := 1) (v := .int 4) (C := RX1) (T := TX1) (N := 5) hx hb hts hi_X1_begin_1 hown hK hP 0 rfl rfl 2 (by decide) (hts (.fieldLink RX1 19 "TheLiningsInIt$Moves" "kind" "I") (List.mem_of_getElem? (i := 2) rfl)) (fun _ h9 => h9) rfl dX1_begin_23 ?_
      refine lv_iload_n hx hb dX1_begin_26 rfl (lv_at hl 3 rfl) ?_
      refine lv_iload hx hb dX1_begin_27 (lv_at hl 4 rfl) ?_
      refine lv_iconst (v := 0) hx hb dX1_begin_29 (by decide) ?_
      skip
      refine zw_V (As := [.int 4, .int 0, .int x, .int 0]) (rest := []) (wr := []) ⟨hx, hb, hml, hown, hts⟩ (c_M_run_4_4_0_0 l D cI cJ cZ cP cS po mv mb (mr) (nb) (a_) fb (x) hy2 hy3 H.size) (cwV 4 hts gX1_begin_X1_run rfl rfl rfl ⟨rfl, dh_X1_run⟩ ⟨Nat.le_of_ble_eq_true rfl, Nat.le_of_ble_eq_true rfl⟩) hK hN (hZ.kept hS) hP hD hS hA [0, 1] [] rfl rfl (by decide) (by decide) (by decide) (va_recv (q := (RX1, TX1, 5)) hK hP (ci := 1) (q0 := 0) rfl rfl) rfl hl.1 rfl (Nat.le_of_ble_eq_true rfl) dX1_begin_30 ⟨Nat.le_of_ble_eq_true rfl, Nat.le_of_ble_eq_true rfl⟩ (fun r_49 u_50 H locs hr_49 hP hD hS => ?_)
      obtain ⟨q_51, q_52⟩ := u_50
      try dsimp only at hr_49
      obtain ⟨hbq_51, hr_49⟩ := hr_49
      have h9R := zRe (ws' := [(mv, .inr (1, [.ref mb, .int q_51, .int 4, .int nb, .int a_])), (mb, .inl (cI, 20, .inl q_52))]) hP hD rfl
      clear hP hD
      obtain ⟨hP, hD⟩ := h9R
      exact W.iret (v := r_49) hx hb hr (fun t ht hW => ⟨⟨r_49, (q_51, 4, nb, a_, q_52), rfl, ⟨(show 0 ≤ q_51.toInt ∧ q_51.toInt ≤ 2000 from ⟨by omega, by omega⟩), trivial⟩, zRet ht hP hD [0, 1] (by decide) rfl⟩, hS.F ht⟩) hS.2.2 dX1_begin_33
    · refine lv_aload_n hx hb dX1_begin_1 rfl (lv_at hl 1 rfl) ?_
      refine va_get (D := D) (ci := 2) (v := .int 4) (C := RX2) (T := TX2) (N := 3) hx hb hts hi_X1_begin_2 hown hK (zPu_P (hZ.kept hS) hu_u0) 0 rfl rfl 0 (by decide) (hts (.fieldLink RX1 28 "TheLiningsInIt$Pull" "kind" "I") (List.mem_of_getElem? (i := 1) rfl)) (fun _ h9 => h9) rfl dX1_begin_2 ?_
      refine va_put (D := D) (ci := 1) (v := .int 4) (ty := .int) (C := RX1) (T := TX1) (N := 5) hx hb hts hi_X1_begin_1 tyX1 tyX1_ok nmX1 hown hK hP hD hS 0 rfl rfl 2 (by decide) (hts (.fieldLink RX1 19 "TheLiningsInIt$Moves" "kind" "I") (List.mem_of_getElem? (i := 2) rfl)) (fun _ h9 => h9) rfl (tyX1_ok 2 (Nat.le_of_ble_eq_true rfl)) rfl rfl (Nat.le_of_ble_eq_true rfl) dX1_begin_5 (fun H locs hP hD hS => ?_)
      have h9R := zRe (ws' := [(mv, .inr (1, [.ref mb, .int mr, .int 4, .int mm, .int mq])), (mb, .inl (cI, 20, .inl fb))]) hP hD rfl
      clear hP hD
      obtain ⟨hP, hD⟩ := h9R
      refine lv_aload_n hx hb dX1_begin_8 rfl (lv_at hl 0 rfl) ?_
      refine lv_iload_n hx hb dX1_begin_9 rfl (lv_at hl 2 rfl) ?_
      refine va_put (D := D) (ci := 1) (v := .int nb) (ty := .int) (C := RX1) (T := TX1) (N := 5) hx hb hts hi_X1_begin_1 tyX1 tyX1_ok nmX1 hown hK hP hD hS 0 rfl rfl 3 (by decide) (hts (.fieldLink RX1 22 "TheLiningsInIt$Moves" "m" "I") (List.mem_of_getElem? (i := 3) rfl)) (fun _ h9 => h9) rfl (tyX1_ok 3 (Nat.le_of_ble_eq_true rfl)) rfl rfl (Nat.le_of_ble_eq_true rfl) dX1_begin_10 (fun H locs hP hD hS => ?_)
      have h9R := zRe (ws' := [(mv, .inr (1, [.ref mb, .int mr, .int 4, .int nb, .int mq])), (mb, .inl (cI, 20, .inl fb))]) hP hD rfl
      clear hP hD
      obtain ⟨hP, hD⟩ := h9R
      refine lv_aload_n hx hb dX1_begin_13 rfl (lv_at hl 0 rfl) ?_
      refine lv_aload_n hx hb dX1_begin_14 rfl (lv_at hl 1 rfl) ?_
      refine va_get (D := D) (ci := 2) (v := .int a_) (C := RX2) (T := TX2) (N := 3) hx hb hts hi_X1_begin_2 hown hK (zPu_P (hZ.kept hS) hu_u0) 0 rfl rfl 1 (by decide) (hts (.fieldLink RX1 31 "TheLiningsInIt$Pull" "a" "I") (List.mem_of_getElem? (i := 4) rfl)) (fun _ h9 => h9) rfl dX1_begin_15 ?_
      refine va_put (D := D) (ci := 1) (v := .int a_) (ty := .int) (C := RX1) (T := TX1) (N := 5) hx hb hts hi_X1_begin_1 tyX1 tyX1_ok nmX1 hown hK hP hD hS 0 rfl rfl 4 (by decide) (hts (.fieldLink RX1 25 "TheLiningsInIt$Moves" "k" "I") (List.mem_of_getElem? (i := 5) rfl)) (fun _ h9 => h9) rfl (tyX1_ok 4 (Nat.le_of_ble_eq_true rfl)) rfl rfl (Nat.le_of_ble_eq_true rfl) dX1_begin_18 (fun H locs hP hD hS => ?_)
      have h9R := zRe (ws' := [(mv, .inr (1, [.ref mb, .int mr, .int 4, .int nb, .int a_])), (mb, .inl (cI, 20, .inl fb))]) hP hD rfl
      clear hP hD
      obtain ⟨hP, hD⟩ := h9R
      refine lv_aload_n hx hb dX1_begin_21 rfl (lv_at hl 0 rfl) ?_
      refine lv_aload_n hx hb dX1_begin_22 rfl (lv_at hl 0 rfl) ?_
      refine va_get (D := D) (ci := 1) (v := .int 4) (C := RX1) (T := TX1) (N := 5) hx hb hts hi_X1_begin_1 hown hK hP 0 rfl rfl 2 (by decide) (hts (.fieldLink RX1 19 "TheLiningsInIt$Moves" "kind" "I") (List.mem_of_getElem? (i := 2) rfl)) (fun _ h9 => h9) rfl dX1_begin_23 ?_
      refine lv_iload_n hx hb dX1_begin_26 rfl (lv_at hl 3 rfl) ?_
      refine lv_iload hx hb dX1_begin_27 (lv_at hl 4 rfl) ?_
      refine lv_iconst (v := 0) hx hb dX1_begin_29 (by decide) ?_
      skip
      refine zw_V (As := [.int 4, .int 1, .int x, .int 0]) (rest := []) (wr := []) ⟨hx, hb, hml, hown, hts⟩ (c_M_run_4_4_1_0 l D cI cJ cZ cP cS po mv mb (mr) (nb) (a_) fb (x) hy2 hy3 H.size) (cwV 4 hts gX1_begin_X1_run rfl rfl rfl ⟨rfl, dh_X1_run⟩ ⟨Nat.le_of_ble_eq_true rfl, Nat.le_of_ble_eq_true rfl⟩) hK hN (hZ.kept hS) hP hD hS hA [0, 1] [] rfl rfl (by decide) (by decide) (by decide) (va_recv (q := (RX1, TX1, 5)) hK hP (ci := 1) (q0 := 0) rfl rfl) rfl hl.1 rfl (Nat.le_of_ble_eq_true rfl) dX1_begin_30 ⟨Nat.le_of_ble_eq_true rfl, Nat.le_of_ble_eq_true rfl⟩ (fun r_53 u_54 H locs hr_53 hP hD hS => ?_)
      obtain ⟨q_55, q_56⟩ := u_54
      try dsimp only at hr_53
      obtain ⟨hbq_55, hr_53⟩ := hr_53
      have h9R := zRe (ws' := [(mv, .inr (1, [.ref mb, .int q_55, .int 4, .int nb, .int a_])), (mb, .inl (cI, 20, .inl q_56))]) hP hD rfl
      clear hP hD
      obtain ⟨hP, hD⟩ := h9R
      exact W.iret (v := r_53) hx hb hr (fun t ht hW => ⟨⟨r_53, (q_55, 4, nb, a_, q_56), rfl, ⟨(show 0 ≤ q_55.toInt ∧ q_55.toInt ≤ 2000 from ⟨by omega, by omega⟩), trivial⟩, zRet ht hP hD [0, 1] (by decide) rfl⟩, hS.F ht⟩) hS.2.2 dX1_begin_33
    · refine lv_aload_n hx hb dX1_begin_1 rfl (lv_at hl 1 rfl) ?_
      refine va_get (D := D) (ci := 2) (v := .int 4) (C := RX2) (T := TX2) (N := 3) hx hb hts hi_X1_begin_2 hown hK (zPu_P (hZ.kept hS) hu_u0) 0 rfl rfl 0 (by decide) (hts (.fieldLink RX1 28 "TheLiningsInIt$Pull" "kind" "I") (List.mem_of_getElem? (i := 1) rfl)) (fun _ h9 => h9) rfl dX1_begin_2 ?_
      refine va_put (D := D) (ci := 1) (v := .int 4) (ty := .int) (C := RX1) (T := TX1) (N := 5) hx hb hts hi_X1_begin_1 tyX1 tyX1_ok nmX1 hown hK hP hD hS 0 rfl rfl 2 (by decide) (hts (.fieldLink RX1 19 "TheLiningsInIt$Moves" "kind" "I") (List.mem_of_getElem? (i := 2) rfl)) (fun _ h9 => h9) rfl (tyX1_ok 2 (Nat.le_of_ble_eq_true rfl)) rfl rfl (Nat.le_of_ble_eq_true rfl) dX1_begin_5 (fun H locs hP hD hS => ?_)
      have h9R := zRe (ws' := [(mv, .inr (1, [.ref mb, .int mr, .int 4, .int mm, .int mq])), (mb, .inl (cI, 20, .inl fb))]) hP hD rfl
      clear hP hD
      obtain ⟨hP, hD⟩ := h9R
      refine lv_aload_n hx hb dX1_begin_8 rfl (lv_at hl 0 rfl) ?_
      refine lv_iload_n hx hb dX1_begin_9 rfl (lv_at hl 2 rfl) ?_
      refine va_put (D := D) (ci := 1) (v := .int nb) (ty := .int) (C := RX1) (T := TX1) (N := 5) hx hb hts hi_X1_begin_1 tyX1 tyX1_ok nmX1 hown hK hP hD hS 0 rfl rfl 3 (by decide) (hts (.fieldLink RX1 22 "TheLiningsInIt$Moves" "m" "I") (List.mem_of_getElem? (i := 3) rfl)) (fun _ h9 => h9) rfl (tyX1_ok 3 (Nat.le_of_ble_eq_true rfl)) rfl rfl (Nat.le_of_ble_eq_true rfl) dX1_begin_10 (fun H locs hP hD hS => ?_)
      have h9R := zRe (ws' := [(mv, .inr (1, [.ref mb, .int mr, .int 4, .int nb, .int mq])), (mb, .inl (cI, 20, .inl fb))]) hP hD rfl
      clear hP hD
      obtain ⟨hP, hD⟩ := h9R
      refine lv_aload_n hx hb dX1_begin_13 rfl (lv_at hl 0 rfl) ?_
      refine lv_aload_n hx hb dX1_begin_14 rfl (lv_at hl 1 rfl) ?_
      refine va_get (D := D) (ci := 2) (v := .int a_) (C := RX2) (T := TX2) (N := 3) hx hb hts hi_X1_begin_2 hown hK (zPu_P (hZ.kept hS) hu_u0) 0 rfl rfl 1 (by decide) (hts (.fieldLink RX1 31 "TheLiningsInIt$Pull" "a" "I") (List.mem_of_getElem? (i := 4) rfl)) (fun _ h9 => h9) rfl dX1_begin_15 ?_
      refine va_put (D := D) (ci := 1) (v := .int a_) (ty := .int) (C := RX1) (T := TX1) (N := 5) hx hb hts hi_X1_begin_1 tyX1 tyX1_ok nmX1 hown hK hP hD hS 0 rfl rfl 4 (by decide) (hts (.fieldLink RX1 25 "TheLiningsInIt$Moves" "k" "I") (List.mem_of_getElem? (i := 5) rfl)) (fun _ h9 => h9) rfl (tyX1_ok 4 (Nat.le_of_ble_eq_true rfl)) rfl rfl (Nat.le_of_ble_eq_true rfl) dX1_begin_18 (fun H locs hP hD hS => ?_)
      have h9R := zRe (ws' := [(mv, .inr (1, [.ref mb, .int mr, .int 4, .int nb, .int a_])), (mb, .inl (cI, 20, .inl fb))]) hP hD rfl
      clear hP hD
      obtain ⟨hP, hD⟩ := h9R
      refine lv_aload_n hx hb dX1_begin_21 rfl (lv_at hl 0 rfl) ?_
      refine lv_aload_n hx hb dX1_begin_22 rfl (lv_at hl 0 rfl) ?_
      refine va_get (D := D) (ci := 1) (v := .int 4) (C := RX1) (T := TX1) (N := 5) hx hb hts hi_X1_begin_1 hown hK hP 0 rfl rfl 2 (by decide) (hts (.fieldLink RX1 19 "TheLiningsInIt$Moves" "kind" "I") (List.mem_of_getElem? (i := 2) rfl)) (fun _ h9 => h9) rfl dX1_begin_23 ?_
      refine lv_iload_n hx hb dX1_begin_26 rfl (lv_at hl 3 rfl) ?_
      refine lv_iload hx hb dX1_begin_27 (lv_at hl 4 rfl) ?_
      refine lv_iconst (v := 0) hx hb dX1_begin_29 (by decide) ?_
      skip
      refine zw_V (As := [.int 4, .int 2, .int x, .int 0]) (rest := []) (wr := []) ⟨hx, hb, hml, hown, hts⟩ (c_M_run_4_4_2_0 l D cI cJ cZ cP cS po mv mb (mr) (nb) (a_) fb (x) hy2 hy3 H.size) (cwV 4 hts gX1_begin_X1_run rfl rfl rfl ⟨rfl, dh_X1_run⟩ ⟨Nat.le_of_ble_eq_true rfl, Nat.le_of_ble_eq_true rfl⟩) hK hN (hZ.kept hS) hP hD hS hA [0, 1] [] rfl rfl (by decide) (by decide) (by decide) (va_recv (q := (RX1, TX1, 5)) hK hP (ci := 1) (q0 := 0) rfl rfl) rfl hl.1 rfl (Nat.le_of_ble_eq_true rfl) dX1_begin_30 ⟨Nat.le_of_ble_eq_true rfl, Nat.le_of_ble_eq_true rfl⟩ (fun r_57 u_58 H locs hr_57 hP hD hS => ?_)
      obtain ⟨q_59, q_60⟩ := u_58
      try dsimp only at hr_57
      obtain ⟨hbq_59, hr_57⟩ := hr_57
      have h9R := zRe (ws' := [(mv, .inr (1, [.ref mb, .int q_59, .int 4, .int nb, .int a_])), (mb, .inl (cI, 20, .inl q_60))]) hP hD rfl
      clear hP hD
      obtain ⟨hP, hD⟩ := h9R
      exact W.iret (v := r_57) hx hb hr (fun t ht hW => ⟨⟨r_57, (q_59, 4, nb, a_, q_60), rfl, ⟨(show 0 ≤ q_59.toInt ∧ q_59.toInt ≤ 2000 from ⟨by omega, by omega⟩), trivial⟩, zRet ht hP hD [0, 1] (by decide) rfl⟩, hS.F ht⟩) hS.2.2 dX1_begin_33
  · refine lv_aload_n hx hb dX1_begin_0 rfl (lv_at hl 0 rfl) ?_
    have hsp : mo = 0 ∨ mo = 1 ∨ mo = 2 := by
      rcases (show mo.toInt = 0 ∨ mo.toInt = 1 ∨ mo.toInt = 2 by omega) with h9 | h9 | h9
      · refine Or.inl ?_; exact zf_val h9 (by decide)
      · refine Or.inr (Or.inl ?_); exact zf_val h9 (by decide)
      · refine Or.inr (Or.inr (?_)); exact zf_val h9 (by decide)
    rcases hsp with rfl | rfl | rfl
    · refine lv_aload_n hx hb dX1_begin_1 rfl (lv_at hl 1 rfl) ?_
      refine va_get (D := D) (ci := 2) (v := .int 5) (C := RX2) (T := TX2) (N := 3) hx hb hts hi_X1_begin_2 hown hK (zPu_P (hZ.kept hS) hu_u0) 0 rfl rfl 0 (by decide) (hts (.fieldLink RX1 28 "TheLiningsInIt$Pull" "kind" "I") (List.mem_of_getElem? (i := 1) rfl)) (fun _ h9 => h9) rfl dX1_begin_2 ?_
      refine va_put (D := D) (ci := 1) (v := .int 5) (ty := .int) (C := RX1) (T := TX1) (N := 5) hx hb hts hi_X1_begin_1 tyX1 tyX1_ok nmX1 hown hK hP hD hS 0 rfl rfl 2 (by decide) (hts (.fieldLink RX1 19 "TheLiningsInIt$Moves" "kind" "I") (List.mem_of_getElem? (i := 2) rfl)) (fun _ h9 => h9) rfl (tyX1_ok 2 (Nat.le_of_ble_eq_true rfl)) rfl rfl (Nat.le_of_ble_eq_true rfl) dX1_begin_5 (fun H locs hP hD hS => ?_)
      have h9R := zRe (ws' := [(mv, .inr (1, [.ref mb, .int mr, .int 5, .int mm, .int mq])), (mb, .inl (cI, 20, .inl fb))]) hP hD rfl
      clear hP hD
      obtain ⟨hP, hD⟩ := h9R
      refine lv_aload_n hx hb dX1_begin_8 rfl (lv_at hl 0 rfl) ?_
      refine lv_iload_n hx hb dX1_begin_9 rfl (lv_at hl 2 rfl) ?_
      refine va_put (D := D) (ci := 1) (v := .int nb) (ty := .int) (C := RX1) (T := TX1) (N := 5) hx hb hts hi_X1_begin_1 tyX1 tyX1_ok nmX1 hown hK hP hD hS 0 rfl rfl 3 (by decide) (hts (.fieldLink RX1 22 "TheLiningsInIt$Moves" "m" "I") (List.mem_of_getElem? (i := 3) rfl)) (fun _ h9 => h9) rfl (tyX1_ok 3 (Nat.le_of_ble_eq_true rfl)) rfl rfl (Nat.le_of_ble_eq_true rfl) dX1_begin_10 (fun H locs hP hD hS => ?_)
      have h9R := zRe (ws' := [(mv, .inr (1, [.ref mb, .int mr, .int 5, .int nb, .int mq])), (mb, .inl (cI, 20, .inl fb))]) hP hD rfl
      clear hP hD
      obtain ⟨hP, hD⟩ := h9R
      refine lv_aload_n hx hb dX1_begin_13 rfl (lv_at hl 0 rfl) ?_
      refine lv_aload_n hx hb dX1_begin_14 rfl (lv_at hl 1 rfl) ?_
      refine va_get (D := D) (ci := 2) (v := .int a_) (C := RX2) (T := TX2) (N := 3) hx hb hts hi_X1_begin_2 hown hK (zPu_P (hZ.kept hS) hu_u0) 0 rfl rfl 1 (by decide) (hts (.fieldLink RX1 31 "TheLiningsInIt$Pull" "a" "I") (List.mem_of_getElem? (i := 4) rfl)) (fun _ h9 => h9) rfl dX1_begin_15 ?_
      refine va_put (D := D) (ci := 1) (v := .int a_) (ty := .int) (C := RX1) (T := TX1) (N := 5) hx hb hts hi_X1_begin_1 tyX1 tyX1_ok nmX1 hown hK hP hD hS 0 rfl rfl 4 (by decide) (hts (.fieldLink RX1 25 "TheLiningsInIt$Moves" "k" "I") (List.mem_of_getElem? (i := 5) rfl)) (fun _ h9 => h9) rfl (tyX1_ok 4 (Nat.le_of_ble_eq_true rfl)) rfl rfl (Nat.le_of_ble_eq_true rfl) dX1_begin_18 (fun H locs hP hD hS => ?_)
      have h9R := zRe (ws' := [(mv, .inr (1, [.ref mb, .int mr, .int 5, .int nb, .int a_])), (mb, .inl (cI, 20, .inl fb))]) hP hD rfl
      clear hP hD
      obtain ⟨hP, hD⟩ := h9R
      refine lv_aload_n hx hb dX1_begin_21 rfl (lv_at hl 0 rfl) ?_
      refine lv_aload_n hx hb dX1_begin_22 rfl (lv_at hl 0 rfl) ?_
      refine va_get (D := D) (ci := 1) (v := .int 5) (C := RX1) (T := TX1) (N := 5) hx hb hts hi_X1_begin_1 hown hK hP 0 rfl rfl 2 (by decide) (hts (.fieldLink RX1 19 "TheLiningsInIt$Moves" "kind" "I") (List.mem_of_getElem? (i := 2) rfl)) (fun _ h9 => h9) rfl dX1_begin_23 ?_
      refine lv_iload_n hx hb dX1_begin_26 rfl (lv_at hl 3 rfl) ?_
      refine lv_iload hx hb dX1_begin_27 (lv_at hl 4 rfl) ?_
      refine lv_iconst (v := 0) hx hb dX1_begin_29 (by decide) ?_
      skip
      refine zw_V (As := [.int 5, .int 0, .int x, .int 0]) (rest := []) (wr := []) ⟨hx, hb, hml, hown, hts⟩ (c_M_run_5_5_0_0 l D cI cJ cZ cP cS po mv mb (mr) (nb) (a_) fb (x) hy2 hy3 H.size) (cwV 4 hts gX1_begin_X1_run rfl rfl rfl ⟨rfl, dh_X1_run⟩ ⟨Nat.le_of_ble_eq_true rfl, Nat.le_of_ble_eq_true rfl⟩) hK hN (hZ.kept hS) hP hD hS hA [0, 1] [] rfl rfl (by decide) (by decide) (by decide) (va_recv (q := (RX1, TX1, 5)) hK hP (ci := 1) (q0 := 0) rfl rfl) rfl hl.1 rfl (Nat.le_of_ble_eq_true rfl) dX1_begin_30 ⟨Nat.le_of_ble_eq_true rfl, Nat.le_of_ble_eq_true rfl⟩ (fun r_61 u_62 H locs hr_61 hP hD hS => ?_)
      obtain ⟨q_63, q_64⟩ := u_62
      try dsimp only at hr_61
      obtain ⟨hbq_63, hr_61⟩ := hr_61
      have h9R := zRe (ws' := [(mv, .inr (1, [.ref mb, .int q_63, .int 5, .int nb, .int a_])), (mb, .inl (cI, 20, .inl q_64))]) hP hD rfl
      clear hP hD
      obtain ⟨hP, hD⟩ := h9R
      exact W.iret (v := r_61) hx hb hr (fun t ht hW => ⟨⟨r_61, (q_63, 5, nb, a_, q_64), rfl, ⟨(show 0 ≤ q_63.toInt ∧ q_63.toInt ≤ 2000 from ⟨by omega, by omega⟩), trivial⟩, zRet ht hP hD [0, 1] (by decide) rfl⟩, hS.F ht⟩) hS.2.2 dX1_begin_33
    · refine lv_aload_n hx hb dX1_begin_1 rfl (lv_at hl 1 rfl) ?_
      refine va_get (D := D) (ci := 2) (v := .int 5) (C := RX2) (T := TX2) (N := 3) hx hb hts hi_X1_begin_2 hown hK (zPu_P (hZ.kept hS) hu_u0) 0 rfl rfl 0 (by decide) (hts (.fieldLink RX1 28 "TheLiningsInIt$Pull" "kind" "I") (List.mem_of_getElem? (i := 1) rfl)) (fun _ h9 => h9) rfl dX1_begin_2 ?_
      refine va_put (D := D) (ci := 1) (v := .int 5) (ty := .int) (C := RX1) (T := TX1) (N := 5) hx hb hts hi_X1_begin_1 tyX1 tyX1_ok nmX1 hown hK hP hD hS 0 rfl rfl 2 (by decide) (hts (.fieldLink RX1 19 "TheLiningsInIt$Moves" "kind" "I") (List.mem_of_getElem? (i := 2) rfl)) (fun _ h9 => h9) rfl (tyX1_ok 2 (Nat.le_of_ble_eq_true rfl)) rfl rfl (Nat.le_of_ble_eq_true rfl) dX1_begin_5 (fun H locs hP hD hS => ?_)
      have h9R := zRe (ws' := [(mv, .inr (1, [.ref mb, .int mr, .int 5, .int mm, .int mq])), (mb, .inl (cI, 20, .inl fb))]) hP hD rfl
      clear hP hD
      obtain ⟨hP, hD⟩ := h9R
      refine lv_aload_n hx hb dX1_begin_8 rfl (lv_at hl 0 rfl) ?_
      refine lv_iload_n hx hb dX1_begin_9 rfl (lv_at hl 2 rfl) ?_
      refine va_put (D := D) (ci := 1) (v := .int nb) (ty := .int) (C := RX1) (T := TX1) (N := 5) hx hb hts hi_X1_begin_1 tyX1 tyX1_ok nmX1 hown hK hP hD hS 0 rfl rfl 3 (by decide) (hts (.fieldLink RX1 22 "TheLiningsInIt$Moves" "m" "I") (List.mem_of_getElem? (i := 3) rfl)) (fun _ h9 => h9) rfl (tyX1_ok 3 (Nat.le_of_ble_eq_true rfl)) rfl rfl (Nat.le_of_ble_eq_true rfl) dX1_begin_10 (fun H locs hP hD hS => ?_)
      have h9R := zRe (ws' := [(mv, .inr (1, [.ref mb, .int mr, .int 5, .int nb, .int mq])), (mb, .inl (cI, 20, .inl fb))]) hP hD rfl
      clear hP hD
      obtain ⟨hP, hD⟩ := h9R
      refine lv_aload_n hx hb dX1_begin_13 rfl (lv_at hl 0 rfl) ?_
      refine lv_aload_n hx hb dX1_begin_14 rfl (lv_at hl 1 rfl) ?_
      refine va_get (D := D) (ci := 2) (v := .int a_) (C := RX2) (T := TX2) (N := 3) hx hb hts hi_X1_begin_2 hown hK (zPu_P (hZ.kept hS) hu_u0) 0 rfl rfl 1 (by decide) (hts (.fieldLink RX1 31 "TheLiningsInIt$Pull" "a" "I") (List.mem_of_getElem? (i := 4) rfl)) (fun _ h9 => h9) rfl dX1_begin_15 ?_
      refine va_put (D := D) (ci := 1) (v := .int a_) (ty := .int) (C := RX1) (T := TX1) (N := 5) hx hb hts hi_X1_begin_1 tyX1 tyX1_ok nmX1 hown hK hP hD hS 0 rfl rfl 4 (by decide) (hts (.fieldLink RX1 25 "TheLiningsInIt$Moves" "k" "I") (List.mem_of_getElem? (i := 5) rfl)) (fun _ h9 => h9) rfl (tyX1_ok 4 (Nat.le_of_ble_eq_true rfl)) rfl rfl (Nat.le_of_ble_eq_true rfl) dX1_begin_18 (fun H locs hP hD hS => ?_)
      have h9R := zRe (ws' := [(mv, .inr (1, [.ref mb, .int mr, .int 5, .int nb, .int a_])), (mb, .inl (cI, 20, .inl fb))]) hP hD rfl
      clear hP hD
      obtain ⟨hP, hD⟩ := h9R
      refine lv_aload_n hx hb dX1_begin_21 rfl (lv_at hl 0 rfl) ?_
      refine lv_aload_n hx hb dX1_begin_22 rfl (lv_at hl 0 rfl) ?_
      refine va_get (D := D) (ci := 1) (v := .int 5) (C := RX1) (T := TX1) (N := 5) hx hb hts hi_X1_begin_1 hown hK hP 0 rfl rfl 2 (by decide) (hts (.fieldLink RX1 19 "TheLiningsInIt$Moves" "kind" "I") (List.mem_of_getElem? (i := 2) rfl)) (fun _ h9 => h9) rfl dX1_begin_23 ?_
      refine lv_iload_n hx hb dX1_begin_26 rfl (lv_at hl 3 rfl) ?_
      refine lv_iload hx hb dX1_begin_27 (lv_at hl 4 rfl) ?_
      refine lv_iconst (v := 0) hx hb dX1_begin_29 (by decide) ?_
      skip
      refine zw_V (As := [.int 5, .int 1, .int x, .int 0]) (rest := []) (wr := []) ⟨hx, hb, hml, hown, hts⟩ (c_M_run_5_5_1_0 l D cI cJ cZ cP cS po mv mb (mr) (nb) (a_) fb (x) hy2 hy3 H.size) (cwV 4 hts gX1_begin_X1_run rfl rfl rfl ⟨rfl, dh_X1_run⟩ ⟨Nat.le_of_ble_eq_true rfl, Nat.le_of_ble_eq_true rfl⟩) hK hN (hZ.kept hS) hP hD hS hA [0, 1] [] rfl rfl (by decide) (by decide) (by decide) (va_recv (q := (RX1, TX1, 5)) hK hP (ci := 1) (q0 := 0) rfl rfl) rfl hl.1 rfl (Nat.le_of_ble_eq_true rfl) dX1_begin_30 ⟨Nat.le_of_ble_eq_true rfl, Nat.le_of_ble_eq_true rfl⟩ (fun r_65 u_66 H locs hr_65 hP hD hS => ?_)
      obtain ⟨q_67, q_68⟩ := u_66
      try dsimp only at hr_65
      obtain ⟨hbq_67, hr_65⟩ := hr_65
      have h9R := zRe (ws' := [(mv, .inr (1, [.ref mb, .int q_67, .int 5, .int nb, .int a_])), (mb, .inl (cI, 20, .inl q_68))]) hP hD rfl
      clear hP hD
      obtain ⟨hP, hD⟩ := h9R
      exact W.iret (v := r_65) hx hb hr (fun t ht hW => ⟨⟨r_65, (q_67, 5, nb, a_, q_68), rfl, ⟨(show 0 ≤ q_67.toInt ∧ q_67.toInt ≤ 2000 from ⟨by omega, by omega⟩), trivial⟩, zRet ht hP hD [0, 1] (by decide) rfl⟩, hS.F ht⟩) hS.2.2 dX1_begin_33
    · refine lv_aload_n hx hb dX1_begin_1 rfl (lv_at hl 1 rfl) ?_
      refine va_get (D := D) (ci := 2) (v := .int 5) (C := RX2) (T := TX2) (N := 3) hx hb hts hi_X1_begin_2 hown hK (zPu_P (hZ.kept hS) hu_u0) 0 rfl rfl 0 (by decide) (hts (.fieldLink RX1 28 "TheLiningsInIt$Pull" "kind" "I") (List.mem_of_getElem? (i := 1) rfl)) (fun _ h9 => h9) rfl dX1_begin_2 ?_
      refine va_put (D := D) (ci := 1) (v := .int 5) (ty := .int) (C := RX1) (T := TX1) (N := 5) hx hb hts hi_X1_begin_1 tyX1 tyX1_ok nmX1 hown hK hP hD hS 0 rfl rfl 2 (by decide) (hts (.fieldLink RX1 19 "TheLiningsInIt$Moves" "kind" "I") (List.mem_of_getElem? (i := 2) rfl)) (fun _ h9 => h9) rfl (tyX1_ok 2 (Nat.le_of_ble_eq_true rfl)) rfl rfl (Nat.le_of_ble_eq_true rfl) dX1_begin_5 (fun H locs hP hD hS => ?_)
      have h9R := zRe (ws' := [(mv, .inr (1, [.ref mb, .int mr, .int 5, .int mm, .int mq])), (mb, .inl (cI, 20, .inl fb))]) hP hD rfl
      clear hP hD
      obtain ⟨hP, hD⟩ := h9R
      refine lv_aload_n hx hb dX1_begin_8 rfl (lv_at hl 0 rfl) ?_
      refine lv_iload_n hx hb dX1_begin_9 rfl (lv_at hl 2 rfl) ?_
      refine va_put (D := D) (ci := 1) (v := .int nb) (ty := .int) (C := RX1) (T := TX1) (N := 5) hx hb hts hi_X1_begin_1 tyX1 tyX1_ok nmX1 hown hK hP hD hS 0 rfl rfl 3 (by decide) (hts (.fieldLink RX1 22 "TheLiningsInIt$Moves" "m" "I") (List.mem_of_getElem? (i := 3) rfl)) (fun _ h9 => h9) rfl (tyX1_ok 3 (Nat.le_of_ble_eq_true rfl)) rfl rfl (Nat.le_of_ble_eq_true rfl) dX1_begin_10 (fun H locs hP hD hS => ?_)
      have h9R := zRe (ws' := [(mv, .inr (1, [.ref mb, .int mr, .int 5, .int nb, .int mq])), (mb, .inl (cI, 20, .inl fb))]) hP hD rfl
      clear hP hD
      obtain ⟨hP, hD⟩ := h9R
      refine lv_aload_n hx hb dX1_begin_13 rfl (lv_at hl 0 rfl) ?_
      refine lv_aload_n hx hb dX1_begin_14 rfl (lv_at hl 1 rfl) ?_
      refine va_get (D := D) (ci := 2) (v := .int a_) (C := RX2) (T := TX2) (N := 3) hx hb hts hi_X1_begin_2 hown hK (zPu_P (hZ.kept hS) hu_u0) 0 rfl rfl 1 (by decide) (hts (.fieldLink RX1 31 "TheLiningsInIt$Pull" "a" "I") (List.mem_of_getElem? (i := 4) rfl)) (fun _ h9 => h9) rfl dX1_begin_15 ?_
      refine va_put (D := D) (ci := 1) (v := .int a_) (ty := .int) (C := RX1) (T := TX1) (N := 5) hx hb hts hi_X1_begin_1 tyX1 tyX1_ok nmX1 hown hK hP hD hS 0 rfl rfl 4 (by decide) (hts (.fieldLink RX1 25 "TheLiningsInIt$Moves" "k" "I") (List.mem_of_getElem? (i := 5) rfl)) (fun _ h9 => h9) rfl (tyX1_ok 4 (Nat.le_of_ble_eq_true rfl)) rfl rfl (Nat.le_of_ble_eq_true rfl) dX1_begin_18 (fun H locs hP hD hS => ?_)
      have h9R := zRe (ws' := [(mv, .inr (1, [.ref mb, .int mr, .int 5, .int nb, .int a_])), (mb, .inl (cI, 20, .inl fb))]) hP hD rfl
      clear hP hD
      obtain ⟨hP, hD⟩ := h9R
      refine lv_aload_n hx hb dX1_begin_21 rfl (lv_at hl 0 rfl) ?_
      refine lv_aload_n hx hb dX1_begin_22 rfl (lv_at hl 0 rfl) ?_
      refine va_get (D := D) (ci := 1) (v := .int 5) (C := RX1) (T := TX1) (N := 5) hx hb hts hi_X1_begin_1 hown hK hP 0 rfl rfl 2 (by decide) (hts (.fieldLink RX1 19 "TheLiningsInIt$Moves" "kind" "I") (List.mem_of_getElem? (i := 2) rfl)) (fun _ h9 => h9) rfl dX1_begin_23 ?_
      refine lv_iload_n hx hb dX1_begin_26 rfl (lv_at hl 3 rfl) ?_
      refine lv_iload hx hb dX1_begin_27 (lv_at hl 4 rfl) ?_
      refine lv_iconst (v := 0) hx hb dX1_begin_29 (by decide) ?_
      skip
      refine zw_V (As := [.int 5, .int 2, .int x, .int 0]) (rest := []) (wr := []) ⟨hx, hb, hml, hown, hts⟩ (c_M_run_5_5_2_0 l D cI cJ cZ cP cS po mv mb (mr) (nb) (a_) fb (x) hy2 hy3 H.size) (cwV 4 hts gX1_begin_X1_run rfl rfl rfl ⟨rfl, dh_X1_run⟩ ⟨Nat.le_of_ble_eq_true rfl, Nat.le_of_ble_eq_true rfl⟩) hK hN (hZ.kept hS) hP hD hS hA [0, 1] [] rfl rfl (by decide) (by decide) (by decide) (va_recv (q := (RX1, TX1, 5)) hK hP (ci := 1) (q0 := 0) rfl rfl) rfl hl.1 rfl (Nat.le_of_ble_eq_true rfl) dX1_begin_30 ⟨Nat.le_of_ble_eq_true rfl, Nat.le_of_ble_eq_true rfl⟩ (fun r_69 u_70 H locs hr_69 hP hD hS => ?_)
      obtain ⟨q_71, q_72⟩ := u_70
      try dsimp only at hr_69
      obtain ⟨hbq_71, hr_69⟩ := hr_69
      have h9R := zRe (ws' := [(mv, .inr (1, [.ref mb, .int q_71, .int 5, .int nb, .int a_])), (mb, .inl (cI, 20, .inl q_72))]) hP hD rfl
      clear hP hD
      obtain ⟨hP, hD⟩ := h9R
      exact W.iret (v := r_69) hx hb hr (fun t ht hW => ⟨⟨r_69, (q_71, 5, nb, a_, q_72), rfl, ⟨(show 0 ≤ q_71.toInt ∧ q_71.toInt ≤ 2000 from ⟨by omega, by omega⟩), trivial⟩, zRet ht hP hD [0, 1] (by decide) rfl⟩, hS.F ht⟩) hS.2.2 dX1_begin_33
  · refine lv_aload_n hx hb dX1_begin_0 rfl (lv_at hl 0 rfl) ?_
    have hsp : mo = 0 ∨ mo = 1 ∨ mo = 2 := by
      rcases (show mo.toInt = 0 ∨ mo.toInt = 1 ∨ mo.toInt = 2 by omega) with h9 | h9 | h9
      · refine Or.inl ?_; exact zf_val h9 (by decide)
      · refine Or.inr (Or.inl ?_); exact zf_val h9 (by decide)
      · refine Or.inr (Or.inr (?_)); exact zf_val h9 (by decide)
    rcases hsp with rfl | rfl | rfl
    · refine lv_aload_n hx hb dX1_begin_1 rfl (lv_at hl 1 rfl) ?_
      refine va_get (D := D) (ci := 2) (v := .int 6) (C := RX2) (T := TX2) (N := 3) hx hb hts hi_X1_begin_2 hown hK (zPu_P (hZ.kept hS) hu_u0) 0 rfl rfl 0 (by decide) (hts (.fieldLink RX1 28 "TheLiningsInIt$Pull" "kind" "I") (List.mem_of_getElem? (i := 1) rfl)) (fun _ h9 => h9) rfl dX1_begin_2 ?_
      refine va_put (D := D) (ci := 1) (v := .int 6) (ty := .int) (C := RX1) (T := TX1) (N := 5) hx hb hts hi_X1_begin_1 tyX1 tyX1_ok nmX1 hown hK hP hD hS 0 rfl rfl 2 (by decide) (hts (.fieldLink RX1 19 "TheLiningsInIt$Moves" "kind" "I") (List.mem_of_getElem? (i := 2) rfl)) (fun _ h9 => h9) rfl (tyX1_ok 2 (Nat.le_of_ble_eq_true rfl)) rfl rfl (Nat.le_of_ble_eq_true rfl) dX1_begin_5 (fun H locs hP hD hS => ?_)
      have h9R := zRe (ws' := [(mv, .inr (1, [.ref mb, .int mr, .int 6, .int mm, .int mq])), (mb, .inl (cI, 20, .inl fb))]) hP hD rfl
      clear hP hD
      obtain ⟨hP, hD⟩ := h9R
      refine lv_aload_n hx hb dX1_begin_8 rfl (lv_at hl 0 rfl) ?_
      refine lv_iload_n hx hb dX1_begin_9 rfl (lv_at hl 2 rfl) ?_
      refine va_put (D := D) (ci := 1) (v := .int nb) (ty := .int) (C := RX1) (T := TX1) (N := 5) hx hb hts hi_X1_begin_1 tyX1 tyX1_ok nmX1 hown hK hP hD hS 0 rfl rfl 3 (by decide) (hts (.fieldLink RX1 22 "TheLiningsInIt$Moves" "m" "I") (List.mem_of_getElem? (i := 3) rfl)) (fun _ h9 => h9) rfl (tyX1_ok 3 (Nat.le_of_ble_eq_true rfl)) rfl rfl (Nat.le_of_ble_eq_true rfl) dX1_begin_10 (fun H locs hP hD hS => ?_)
      have h9R := zRe (ws' := [(mv, .inr (1, [.ref mb, .int mr, .int 6, .int nb, .int mq])), (mb, .inl (cI, 20, .inl fb))]) hP hD rfl
      clear hP hD
      obtain ⟨hP, hD⟩ := h9R
      refine lv_aload_n hx hb dX1_begin_13 rfl (lv_at hl 0 rfl) ?_
      refine lv_aload_n hx hb dX1_begin_14 rfl (lv_at hl 1 rfl) ?_
      refine va_get (D := D) (ci := 2) (v := .int a_) (C := RX2) (T := TX2) (N := 3) hx hb hts hi_X1_begin_2 hown hK (zPu_P (hZ.kept hS) hu_u0) 0 rfl rfl 1 (by decide) (hts (.fieldLink RX1 31 "TheLiningsInIt$Pull" "a" "I") (List.mem_of_getElem? (i := 4) rfl)) (fun _ h9 => h9) rfl dX1_begin_15 ?_
      refine va_put (D := D) (ci := 1) (v := .int a_) (ty := .int) (C := RX1) (T := TX1) (N := 5) hx hb hts hi_X1_begin_1 tyX1 tyX1_ok nmX1 hown hK hP hD hS 0 rfl rfl 4 (by decide) (hts (.fieldLink RX1 25 "TheLiningsInIt$Moves" "k" "I") (List.mem_of_getElem? (i := 5) rfl)) (fun _ h9 => h9) rfl (tyX1_ok 4 (Nat.le_of_ble_eq_true rfl)) rfl rfl (Nat.le_of_ble_eq_true rfl) dX1_begin_18 (fun H locs hP hD hS => ?_)
      have h9R := zRe (ws' := [(mv, .inr (1, [.ref mb, .int mr, .int 6, .int nb, .int a_])), (mb, .inl (cI, 20, .inl fb))]) hP hD rfl
      clear hP hD
      obtain ⟨hP, hD⟩ := h9R
      refine lv_aload_n hx hb dX1_begin_21 rfl (lv_at hl 0 rfl) ?_
      refine lv_aload_n hx hb dX1_begin_22 rfl (lv_at hl 0 rfl) ?_
      refine va_get (D := D) (ci := 1) (v := .int 6) (C := RX1) (T := TX1) (N := 5) hx hb hts hi_X1_begin_1 hown hK hP 0 rfl rfl 2 (by decide) (hts (.fieldLink RX1 19 "TheLiningsInIt$Moves" "kind" "I") (List.mem_of_getElem? (i := 2) rfl)) (fun _ h9 => h9) rfl dX1_begin_23 ?_
      refine lv_iload_n hx hb dX1_begin_26 rfl (lv_at hl 3 rfl) ?_
      refine lv_iload hx hb dX1_begin_27 (lv_at hl 4 rfl) ?_
      refine lv_iconst (v := 0) hx hb dX1_begin_29 (by decide) ?_
      skip
      refine zw_V (As := [.int 6, .int 0, .int x, .int 0]) (rest := []) (wr := []) ⟨hx, hb, hml, hown, hts⟩ (c_M_run_6_6_0_0 l D cI cJ cZ cP cS po mv mb (mr) (nb) (a_) fb (x) hy2 hy3 H.size) (cwV 4 hts gX1_begin_X1_run rfl rfl rfl ⟨rfl, dh_X1_run⟩ ⟨Nat.le_of_ble_eq_true rfl, Nat.le_of_ble_eq_true rfl⟩) hK hN (hZ.kept hS) hP hD hS hA [0, 1] [] rfl rfl (by decide) (by decide) (by decide) (va_recv (q := (RX1, TX1, 5)) hK hP (ci := 1) (q0 := 0) rfl rfl) rfl hl.1 rfl (Nat.le_of_ble_eq_true rfl) dX1_begin_30 ⟨Nat.le_of_ble_eq_true rfl, Nat.le_of_ble_eq_true rfl⟩ (fun r_73 u_74 H locs hr_73 hP hD hS => ?_)
      obtain ⟨q_75, q_76⟩ := u_74
      try dsimp only at hr_73
      obtain ⟨hbq_75, hr_73⟩ := hr_73
      have h9R := zRe (ws' := [(mv, .inr (1, [.ref mb, .int q_75, .int 6, .int nb, .int a_])), (mb, .inl (cI, 20, .inl q_76))]) hP hD rfl
      clear hP hD
      obtain ⟨hP, hD⟩ := h9R
      exact W.iret (v := r_73) hx hb hr (fun t ht hW => ⟨⟨r_73, (q_75, 6, nb, a_, q_76), rfl, ⟨(show 0 ≤ q_75.toInt ∧ q_75.toInt ≤ 2000 from ⟨by omega, by omega⟩), trivial⟩, zRet ht hP hD [0, 1] (by decide) rfl⟩, hS.F ht⟩) hS.2.2 dX1_begin_33
    · refine lv_aload_n hx hb dX1_begin_1 rfl (lv_at hl 1 rfl) ?_
      refine va_get (D := D) (ci := 2) (v := .int 6) (C := RX2) (T := TX2) (N := 3) hx hb hts hi_X1_begin_2 hown hK (zPu_P (hZ.kept hS) hu_u0) 0 rfl rfl 0 (by decide) (hts (.fieldLink RX1 28 "TheLiningsInIt$Pull" "kind" "I") (List.mem_of_getElem? (i := 1) rfl)) (fun _ h9 => h9) rfl dX1_begin_2 ?_
      refine va_put (D := D) (ci := 1) (v := .int 6) (ty := .int) (C := RX1) (T := TX1) (N := 5) hx hb hts hi_X1_begin_1 tyX1 tyX1_ok nmX1 hown hK hP hD hS 0 rfl rfl 2 (by decide) (hts (.fieldLink RX1 19 "TheLiningsInIt$Moves" "kind" "I") (List.mem_of_getElem? (i := 2) rfl)) (fun _ h9 => h9) rfl (tyX1_ok 2 (Nat.le_of_ble_eq_true rfl)) rfl rfl (Nat.le_of_ble_eq_true rfl) dX1_begin_5 (fun H locs hP hD hS => ?_)
      have h9R := zRe (ws' := [(mv, .inr (1, [.ref mb, .int mr, .int 6, .int mm, .int mq])), (mb, .inl (cI, 20, .inl fb))]) hP hD rfl
      clear hP hD
      obtain ⟨hP, hD⟩ := h9R
      refine lv_aload_n hx hb dX1_begin_8 rfl (lv_at hl 0 rfl) ?_
      refine lv_iload_n hx hb dX1_begin_9 rfl (lv_at hl 2 rfl) ?_
      refine va_put (D := D) (ci := 1) (v := .int nb) (ty := .int) (C := RX1) (T := TX1) (N := 5) hx hb hts hi_X1_begin_1 tyX1 tyX1_ok nmX1 hown hK hP hD hS 0 rfl rfl 3 (by decide) (hts (.fieldLink RX1 22 "TheLiningsInIt$Moves" "m" "I") (List.mem_of_getElem? (i := 3) rfl)) (fun _ h9 => h9) rfl (tyX1_ok 3 (Nat.le_of_ble_eq_true rfl)) rfl rfl (Nat.le_of_ble_eq_true rfl) dX1_begin_10 (fun H locs hP hD hS => ?_)
      have h9R := zRe (ws' := [(mv, .inr (1, [.ref mb, .int mr, .int 6, .int nb, .int mq])), (mb, .inl (cI, 20, .inl fb))]) hP hD rfl
      clear hP hD
      obtain ⟨hP, hD⟩ := h9R
      refine lv_aload_n hx hb dX1_begin_13 rfl (lv_at hl 0 rfl) ?_
      refine lv_aload_n hx hb dX1_begin_14 rfl (lv_at hl 1 rfl) ?_
      refine va_get (D := D) (ci := 2) (v := .int a_) (C := RX2) (T := TX2) (N := 3) hx hb hts hi_X1_begin_2 hown hK (zPu_P (hZ.kept hS) hu_u0) 0 rfl rfl 1 (by decide) (hts (.fieldLink RX1 31 "TheLiningsInIt$Pull" "a" "I") (List.mem_of_getElem? (i := 4) rfl)) (fun _ h9 => h9) rfl dX1_begin_15 ?_
      refine va_put (D := D) (ci := 1) (v := .int a_) (ty := .int) (C := RX1) (T := TX1) (N := 5) hx hb hts hi_X1_begin_1 tyX1 tyX1_ok nmX1 hown hK hP hD hS 0 rfl rfl 4 (by decide) (hts (.fieldLink RX1 25 "TheLiningsInIt$Moves" "k" "I") (List.mem_of_getElem? (i := 5) rfl)) (fun _ h9 => h9) rfl (tyX1_ok 4 (Nat.le_of_ble_eq_true rfl)) rfl rfl (Nat.le_of_ble_eq_true rfl) dX1_begin_18 (fun H locs hP hD hS => ?_)
      have h9R := zRe (ws' := [(mv, .inr (1, [.ref mb, .int mr, .int 6, .int nb, .int a_])), (mb, .inl (cI, 20, .inl fb))]) hP hD rfl
      clear hP hD
      obtain ⟨hP, hD⟩ := h9R
      refine lv_aload_n hx hb dX1_begin_21 rfl (lv_at hl 0 rfl) ?_
      refine lv_aload_n hx hb dX1_begin_22 rfl (lv_at hl 0 rfl) ?_
      refine va_get (D := D) (ci := 1) (v := .int 6) (C := RX1) (T := TX1) (N := 5) hx hb hts hi_X1_begin_1 hown hK hP 0 rfl rfl 2 (by decide) (hts (.fieldLink RX1 19 "TheLiningsInIt$Moves" "kind" "I") (List.mem_of_getElem? (i := 2) rfl)) (fun _ h9 => h9) rfl dX1_begin_23 ?_
      refine lv_iload_n hx hb dX1_begin_26 rfl (lv_at hl 3 rfl) ?_
      refine lv_iload hx hb dX1_begin_27 (lv_at hl 4 rfl) ?_
      refine lv_iconst (v := 0) hx hb dX1_begin_29 (by decide) ?_
      skip
      refine zw_V (As := [.int 6, .int 1, .int x, .int 0]) (rest := []) (wr := []) ⟨hx, hb, hml, hown, hts⟩ (c_M_run_6_6_1_0 l D cI cJ cZ cP cS po mv mb (mr) (nb) (a_) fb (x) hy2 hy3 H.size) (cwV 4 hts gX1_begin_X1_run rfl rfl rfl ⟨rfl, dh_X1_run⟩ ⟨Nat.le_of_ble_eq_true rfl, Nat.le_of_ble_eq_true rfl⟩) hK hN (hZ.kept hS) hP hD hS hA [0, 1] [] rfl rfl (by decide) (by decide) (by decide) (va_recv (q := (RX1, TX1, 5)) hK hP (ci := 1) (q0 := 0) rfl rfl) rfl hl.1 rfl (Nat.le_of_ble_eq_true rfl) dX1_begin_30 ⟨Nat.le_of_ble_eq_true rfl, Nat.le_of_ble_eq_true rfl⟩ (fun r_77 u_78 H locs hr_77 hP hD hS => ?_)
      obtain ⟨q_79, q_80⟩ := u_78
      try dsimp only at hr_77
      obtain ⟨hbq_79, hr_77⟩ := hr_77
      have h9R := zRe (ws' := [(mv, .inr (1, [.ref mb, .int q_79, .int 6, .int nb, .int a_])), (mb, .inl (cI, 20, .inl q_80))]) hP hD rfl
      clear hP hD
      obtain ⟨hP, hD⟩ := h9R
      exact W.iret (v := r_77) hx hb hr (fun t ht hW => ⟨⟨r_77, (q_79, 6, nb, a_, q_80), rfl, ⟨(show 0 ≤ q_79.toInt ∧ q_79.toInt ≤ 2000 from ⟨by omega, by omega⟩), trivial⟩, zRet ht hP hD [0, 1] (by decide) rfl⟩, hS.F ht⟩) hS.2.2 dX1_begin_33
    · refine lv_aload_n hx hb dX1_begin_1 rfl (lv_at hl 1 rfl) ?_
      refine va_get (D := D) (ci := 2) (v := .int 6) (C := RX2) (T := TX2) (N := 3) hx hb hts hi_X1_begin_2 hown hK (zPu_P (hZ.kept hS) hu_u0) 0 rfl rfl 0 (by decide) (hts (.fieldLink RX1 28 "TheLiningsInIt$Pull" "kind" "I") (List.mem_of_getElem? (i := 1) rfl)) (fun _ h9 => h9) rfl dX1_begin_2 ?_
      refine va_put (D := D) (ci := 1) (v := .int 6) (ty := .int) (C := RX1) (T := TX1) (N := 5) hx hb hts hi_X1_begin_1 tyX1 tyX1_ok nmX1 hown hK hP hD hS 0 rfl rfl 2 (by decide) (hts (.fieldLink RX1 19 "TheLiningsInIt$Moves" "kind" "I") (List.mem_of_getElem? (i := 2) rfl)) (fun _ h9 => h9) rfl (tyX1_ok 2 (Nat.le_of_ble_eq_true rfl)) rfl rfl (Nat.le_of_ble_eq_true rfl) dX1_begin_5 (fun H locs hP hD hS => ?_)
      have h9R := zRe (ws' := [(mv, .inr (1, [.ref mb, .int mr, .int 6, .int mm, .int mq])), (mb, .inl (cI, 20, .inl fb))]) hP hD rfl
      clear hP hD
      obtain ⟨hP, hD⟩ := h9R
      refine lv_aload_n hx hb dX1_begin_8 rfl (lv_at hl 0 rfl) ?_
      refine lv_iload_n hx hb dX1_begin_9 rfl (lv_at hl 2 rfl) ?_
      refine va_put (D := D) (ci := 1) (v := .int nb) (ty := .int) (C := RX1) (T := TX1) (N := 5) hx hb hts hi_X1_begin_1 tyX1 tyX1_ok nmX1 hown hK hP hD hS 0 rfl rfl 3 (by decide) (hts (.fieldLink RX1 22 "TheLiningsInIt$Moves" "m" "I") (List.mem_of_getElem? (i := 3) rfl)) (fun _ h9 => h9) rfl (tyX1_ok 3 (Nat.le_of_ble_eq_true rfl)) rfl rfl (Nat.le_of_ble_eq_true rfl) dX1_begin_10 (fun H locs hP hD hS => ?_)
      have h9R := zRe (ws' := [(mv, .inr (1, [.ref mb, .int mr, .int 6, .int nb, .int mq])), (mb, .inl (cI, 20, .inl fb))]) hP hD rfl
      clear hP hD
      obtain ⟨hP, hD⟩ := h9R
      refine lv_aload_n hx hb dX1_begin_13 rfl (lv_at hl 0 rfl) ?_
      refine lv_aload_n hx hb dX1_begin_14 rfl (lv_at hl 1 rfl) ?_
      refine va_get (D := D) (ci := 2) (v := .int a_) (C := RX2) (T := TX2) (N := 3) hx hb hts hi_X1_begin_2 hown hK (zPu_P (hZ.kept hS) hu_u0) 0 rfl rfl 1 (by decide) (hts (.fieldLink RX1 31 "TheLiningsInIt$Pull" "a" "I") (List.mem_of_getElem? (i := 4) rfl)) (fun _ h9 => h9) rfl dX1_begin_15 ?_
      refine va_put (D := D) (ci := 1) (v := .int a_) (ty := .int) (C := RX1) (T := TX1) (N := 5) hx hb hts hi_X1_begin_1 tyX1 tyX1_ok nmX1 hown hK hP hD hS 0 rfl rfl 4 (by decide) (hts (.fieldLink RX1 25 "TheLiningsInIt$Moves" "k" "I") (List.mem_of_getElem? (i := 5) rfl)) (fun _ h9 => h9) rfl (tyX1_ok 4 (Nat.le_of_ble_eq_true rfl)) rfl rfl (Nat.le_of_ble_eq_true rfl) dX1_begin_18 (fun H locs hP hD hS => ?_)
      have h9R := zRe (ws' := [(mv, .inr (1, [.ref mb, .int mr, .int 6, .int nb, .int a_])), (mb, .inl (cI, 20, .inl fb))]) hP hD rfl
      clear hP hD
      obtain ⟨hP, hD⟩ := h9R
      refine lv_aload_n hx hb dX1_begin_21 rfl (lv_at hl 0 rfl) ?_
      refine lv_aload_n hx hb dX1_begin_22 rfl (lv_at hl 0 rfl) ?_
      refine va_get (D := D) (ci := 1) (v := .int 6) (C := RX1) (T := TX1) (N := 5) hx hb hts hi_X1_begin_1 hown hK hP 0 rfl rfl 2 (by decide) (hts (.fieldLink RX1 19 "TheLiningsInIt$Moves" "kind" "I") (List.mem_of_getElem? (i := 2) rfl)) (fun _ h9 => h9) rfl dX1_begin_23 ?_
      refine lv_iload_n hx hb dX1_begin_26 rfl (lv_at hl 3 rfl) ?_
      refine lv_iload hx hb dX1_begin_27 (lv_at hl 4 rfl) ?_
      refine lv_iconst (v := 0) hx hb dX1_begin_29 (by decide) ?_
      skip
      refine zw_V (As := [.int 6, .int 2, .int x, .int 0]) (rest := []) (wr := []) ⟨hx, hb, hml, hown, hts⟩ (c_M_run_6_6_2_0 l D cI cJ cZ cP cS po mv mb (mr) (nb) (a_) fb (x) hy2 hy3 H.size) (cwV 4 hts gX1_begin_X1_run rfl rfl rfl ⟨rfl, dh_X1_run⟩ ⟨Nat.le_of_ble_eq_true rfl, Nat.le_of_ble_eq_true rfl⟩) hK hN (hZ.kept hS) hP hD hS hA [0, 1] [] rfl rfl (by decide) (by decide) (by decide) (va_recv (q := (RX1, TX1, 5)) hK hP (ci := 1) (q0 := 0) rfl rfl) rfl hl.1 rfl (Nat.le_of_ble_eq_true rfl) dX1_begin_30 ⟨Nat.le_of_ble_eq_true rfl, Nat.le_of_ble_eq_true rfl⟩ (fun r_81 u_82 H locs hr_81 hP hD hS => ?_)
      obtain ⟨q_83, q_84⟩ := u_82
      try dsimp only at hr_81
      obtain ⟨hbq_83, hr_81⟩ := hr_81
      have h9R := zRe (ws' := [(mv, .inr (1, [.ref mb, .int q_83, .int 6, .int nb, .int a_])), (mb, .inl (cI, 20, .inl q_84))]) hP hD rfl
      clear hP hD
      obtain ⟨hP, hD⟩ := h9R
      exact W.iret (v := r_81) hx hb hr (fun t ht hW => ⟨⟨r_81, (q_83, 6, nb, a_, q_84), rfl, ⟨(show 0 ≤ q_83.toInt ∧ q_83.toInt ≤ 2000 from ⟨by omega, by omega⟩), trivial⟩, zRet ht hP hD [0, 1] (by decide) rfl⟩, hS.F ht⟩) hS.2.2 dX1_begin_33
end
section
/-! the ten words as texts; calls of static methods that write or answer a reference; new pulls -/
theorem zs_len (i : Nat) (hi : i < 10) : (Int32.ofNat (zLen.getD i 0)).toInt = (zLen.getD i 0 : Nat) ∧ 2 ≤ (Int32.ofNat (zLen.getD i 0)).toInt ∧ (Int32.ofNat (zLen.getD i 0)).toInt ≤ 7 := by
  have h : ∀ i : Nat, i < 10 → (Int32.ofNat (zLen.getD i 0)).toInt = (zLen.getD i 0 : Nat) ∧ 2 ≤ (Int32.ofNat (zLen.getD i 0)).toInt ∧ (Int32.ofNat (zLen.getD i 0)).toInt ≤ 7 := by decide +kernel
  exact h i hi
theorem zs_shr0 (x : Int32) : x >>> ((0 : Int32) &&& 31) = x := by
  have h : ((0 : Int32) &&& 31) = 0 := by decide
  rw [h]
  apply Int32.toInt_inj.mp
  simp
/-- a byte of a word, as its char -/
theorem zs_chr (i k : Nat) (hi : i < 10) (hk : k < zLen.getD i 0) : ((((zByt.getD i []).getD k 0) &&& 255).toUInt32 % 65536).toInt32 = (zByt.getD i []).getD k 0 ∧ narrow .char (.int ((zByt.getD i []).getD k 0)) = .int ((zByt.getD i []).getD k 0) := by
  have h : ∀ i : Nat, i < 10 → ∀ k : Nat, k < zLen.getD i 0 → ((((zByt.getD i []).getD k 0) &&& 255).toUInt32 % 65536).toInt32 = (zByt.getD i []).getD k 0 ∧ narrow .char (.int ((zByt.getD i []).getD k 0)) = .int ((zByt.getD i []).getD k 0) := by decide +kernel
  exact h i hi k hk
section ZC
variable {p : Program} {l : Launch} {e : Env} {R : Room} {s : State} {m : MethodId} {args : Array Value} {below : List Frame} {meth : Method} {c : Code} {H : Heap} {locs : List Loc} {cells slots : Nat} {Q : State → Prop} {pc : Nat} {ls : Array Slot}
variable {y : MethodName} {bytes cc : ByteArray} {maxL nL mc ms n index : Nat} {ret : Option FieldType} {wsY : List Cond} {rm : Room} {Ts : List Cond} {own C : String} {b : Addr} {As rest st0 : List Value} {wc ws wr : va_W} {D : va_G} {po : zPool} {tys : List (ClassId × FieldType)} {A : Nat → Prop} {H0 : Heap}
theorem zc_Sq {post : Option Nat → Prop} (S : CallFix p m c cc nL s args Ts own) (hM : Met l y wsY rm (va_Pc As (zR D tys po [])) (va_Sq post) 0 0 (fun _ => False)) (cw : CallB R s args own index y bytes maxL ret wsY rm 0 0 n ∧ (Cond.static y).before args s = true) (hK : va_K D vwCl tys s) (hN : zN s) {AZ : Nat → Prop} (hZ : zE D po AZ s H) (hn : As.length = n) (hz : ls.size = nL) (hst : st0 = As.reverse ++ rest) (hw : (rest.map fun v => v.category).sum ≤ 8) (hdg : decode cc pc = .ok (.invokestatic index, 3)) (hf : cells + 0 ≤ R.cells ∧ slots + 0 ≤ R.slots)
    (kk : ∀ r : Option Nat, post r → W p l e R s m args below meth c H locs cells slots Q (F0 m (pc + 3) ls (va_rf r :: rest))) : W p l e R s m args below meth c H locs cells slots Q (F0 m pc ls st0) :=
  va_csq (W.runS S hM cw ⟨zR_fb, fun U hU hW => ⟨rfl, zP_nil, va_K.moved hW.alike hK, hN.warm hW, by rw [hU]; exact (hZ.warm hW).narrow (fun _ h => h.elim)⟩⟩ rfl hn hz hst (lv_room hw) hdg hf) kk
theorem zw_Si {S' : Type} {post : Int32 → S' → Prop} {wq : S' → va_W} (S : CallFix p m c cc nL s args Ts own) (hM : Met l y wsY rm (va_Pc As (zW D tys po wc H.size)) (va_Qi post (zB D wc H.size wq) (va_A wc H.size)) mc ms (va_A wc H.size)) (cw : CallB R s args own index y bytes maxL ret wsY rm mc ms n ∧ (Cond.static y).before args s = true) (hK : va_K D vwCl tys s) (hN : zN s) (hZ : zE D po A s H) (hP : va_P D vwCl ws H) (hD : va_D A ws) (hS : va_S A H0 H locs) (hA : ∀ q, H0.size ≤ q → A q)
    (isC isR : List Nat) (hC : isC.map (fun i => ws[i]?) = wc.map some) (hR : isR.map (fun i => ws[i]?) = wr.map some) (hnC : va_nd isC = true) (hnR : va_nd isR = true) (hdis : ∀ i ∈ isR, i ∉ isC)
    (hn : As.length = n) (hz : ls.size = nL) (hst : st0 = As.reverse ++ rest) (hw : (rest.map fun v => v.category).sum ≤ 8) (hdg : decode cc pc = .ok (.invokestatic index, 3)) (hf : cells + mc ≤ R.cells ∧ slots + ms ≤ R.slots)
    (kk : ∀ (r : Int32) (u : S') (H1 : Heap) (locs1 : List Loc), post r u → va_P D vwCl (wr ++ wq u) H1 → va_D A (wr ++ wq u) → va_S A H0 H1 locs1 → W p l e R s m args below meth c H1 locs1 (cells + mc) (slots + ms) Q (F0 m (pc + 3) ls (.int r :: rest))) : W p l e R s m args below meth c H locs cells slots Q (F0 m pc ls st0) := by
  have hF := va_free (wc := wc) hD hS hA isC hC
  have hPc := zP_of hP hC
  have hDc : va_D (fun _ => True) wc := (hD.sub isC hnC hC).weaken (fun _ _ _ _ => trivial)
  refine va_calli (va_runS S hM cw ⟨zW_fb, fun U hU hW => ⟨rfl, by rw [hU], by rw [hU]; exact hPc, va_K.moved hW.alike hK, hDc, hN.warm hW, by rw [hU]; exact (hZ.warm hW).narrow hF⟩⟩ rfl hn hz hst (lv_room hw) hdg hf) hS (fun q _ h => hF q h) hF (fun r u t H1 locs1 ht hvm hw hB hz1 hk1 hS1 => ?_)
  obtain ⟨hP1, hD1⟩ := hB
  rw [ht] at hP1
  obtain ⟨hP2, hD2⟩ := va_join hP hD isC isR hC hR hnR hdis hk1 hF hP1 hD1
  exact kk r u H1 locs1 hw hP2 hD2 hS1
end ZC
/-- an item: its word and its numbers, as the reader lets them stand -/
def zItv (w a b c : Int) : Prop := (0 ≤ w ∧ w ≤ 9) ∧ (w = 0 → 4 ≤ a ∧ a ≤ 40) ∧ (w = 1 → 0 ≤ a ∧ a ≤ 39) ∧ (w = 2 → (0 ≤ a ∧ a ≤ 39) ∧ 0 ≤ b ∧ b ≤ 9) ∧ (w = 3 → (0 ≤ a ∧ a ≤ 6) ∧ (0 ≤ b ∧ b ≤ 9) ∧ 1 ≤ c ∧ c ≤ 60) ∧ (w = 4 → 0 ≤ a ∧ a ≤ 24) ∧ (w = 5 → 0 ≤ a ∧ a ≤ 300) ∧ (w = 6 → 0 ≤ a ∧ a ≤ 9) ∧ (w = 7 → 1 ≤ a ∧ a ≤ 9) ∧ (w = 8 → (0 ≤ a ∧ a ≤ 2) ∧ 0 ≤ b ∧ b ≤ 99) ∧ (w = 9 → 0 ≤ a ∧ a ≤ 40)
def zIt (f : Nat → Int32) (s : Nat) : Prop := zItv (f s).toInt (f (s + 1)).toInt (f (s + 2)).toInt (f (s + 3)).toInt
theorem zIt_mk {f : Nat → Int32} {s : Nat} {w a b c : Int32} (h0 : f (s + 0) = w) (h1 : f (s + 1) = a) (h2 : f (s + 2) = b) (h3 : f (s + 3) = c) (h : zItv w.toInt a.toInt b.toInt c.toInt) : zIt f s := by
  unfold zIt; rw [show f s = w from h0, h1, h2, h3]; exact h
theorem zIt_keep {f g : Nat → Int32} {s n : Nat} (h : ∀ j : Nat, j < n → g j = f j) (hn : s + 3 < n) (hf : zIt f s) : zIt g s := by
  unfold zIt; rw [h s (by omega), h (s + 1) (by omega), h (s + 2) (by omega), h (s + 3) (by omega)]; exact hf
/-! worlds with a tail of new pulls -/
theorem zC_app {X pl wc : va_W} {is : List Nat} (h : is.map (fun i => X[i]?) = wc.map some) : is.map (fun i => (X ++ pl)[i]?) = wc.map some := by
  rw [← h]
  apply List.map_congr_left
  intro i hi
  have h1 : X[i]? ∈ is.map (fun i => X[i]?) := List.mem_map_of_mem hi
  rw [h] at h1
  obtain ⟨q, -, e⟩ := List.mem_map.mp h1
  rw [List.getElem?_append_left (List.getElem?_eq_some_iff.mp e.symm).1]
theorem zT_app {X Y : va_W} {np tl : List (Nat × Int32 × Int32 × Int32)} : (X ++ (Y ++ np.map zPo)) ++ tl.map zPo = (X ++ Y) ++ (np ++ tl).map zPo := by simp
theorem zcells {p : Program} {l : Launch} {e : Env} {R : Room} {s : State} {m : MethodId} {args : Array Value} {below : List Frame} {meth : Method} {c : Code} {H : Heap} {locs : List Loc} {cells slots : Nat} {Q : State → Prop} {g : JFrame} (k : ∀ kc ks : Nat, kc = cells → ks = slots → W p l e R s m args below meth c H locs kc ks Q g) : W p l e R s m args below meth c H locs cells slots Q g := k _ _ rfl rfl
section ZT
variable {p : Program} {l : Launch} {e : Env} {R : Room} {s : State} {m : MethodId} {args : Array Value} {below : List Frame} {meth : Method} {c : Code} {H : Heap} {locs : List Loc} {cells slots : Nat} {Q : State → Prop} {pc : Nat} {ls : Array Slot}
variable {y : MethodName} {bytes cc : ByteArray} {maxL nL mc ms n index : Nat} {ret : Option FieldType} {wsY : List Cond} {rm : Room} {Ts : List Cond} {own C : String} {b : Addr} {As rest st0 : List Value} {wc ws wr pl : va_W} {D : va_G} {po : zPool} {tys : List (ClassId × FieldType)} {A : Nat → Prop} {H0 : Heap}
theorem zt_free (hD : va_D A (ws ++ pl)) (hS : va_S A H0 H locs) (hA : ∀ q, H0.size ≤ q → A q) {isC : List Nat} (hC : isC.map (fun i => ws[i]?) = wc.map some) : ∀ q, va_A wc H.size q → A q := va_free (wc := wc) hD hS hA isC (zC_app hC)
theorem zt_Vv {S' : Type} {post : S' → Prop} {wq : S' → va_W} (S : CallFix p m c cc nL s args Ts own) (hM : Met l y wsY rm (va_Pc (.ref b :: As) (zW D tys po wc H.size)) (va_Qv post (zB D wc H.size wq) (va_A wc H.size)) mc ms (va_A wc H.size)) (cw : CallW R s args own C index y bytes maxL ret wsY rm mc ms n) (hK : va_K D vwCl tys s) (hN : zN s) (hP : va_P D vwCl (ws ++ pl) H) (hD : va_D A (ws ++ pl)) (hS : va_S A H0 H locs) (hA : ∀ q, H0.size ≤ q → A q)
    (isC isR : List Nat) (hC : isC.map (fun i => ws[i]?) = wc.map some) (hR : isR.map (fun i => ws[i]?) = wr.map some) (hnC : va_nd isC = true) (hnR : va_nd isR = true) (hdis : ∀ i ∈ isR, i ∉ isC) (hZ : zE D po (va_A wc H.size) s H)
    (rv : ∃ cell : Cell, H[b]? = some cell ∧ cell.vm.isStatics = false ∧ s.vm.findClass C = some cell.cls) (hn : As.length = n) (hz : ls.size = nL) (hst : st0 = As.reverse ++ .ref b :: rest) (hw : (rest.map fun v => v.category).sum ≤ 8) (hdg : decode cc pc = .ok (.invokevirtual index, 3)) (hf : cells + mc ≤ R.cells ∧ slots + ms ≤ R.slots)
    (kk : ∀ (u : S') (H1 : Heap) (locs1 : List Loc), post u → va_P D vwCl ((wr ++ wq u) ++ pl) H1 → va_D A ((wr ++ wq u) ++ pl) → va_S A H0 H1 locs1 → W p l e R s m args below meth c H1 locs1 (cells + mc) (slots + ms) Q (F0 m (pc + 3) ls rest)) : W p l e R s m args below meth c H locs cells slots Q (F0 m pc ls st0) := by
  have hF := zt_free (wc := wc) hD hS hA hC
  have hPc := zP_of hP (zC_app (pl := pl) hC)
  have hDc : va_D (fun _ => True) wc := (hD.sub isC hnC (zC_app hC)).weaken (fun _ _ _ _ => trivial)
  refine va_callv (va_runV S hM cw ⟨zW_fb, rv, fun U hU hW => ⟨rfl, by rw [hU], by rw [hU]; exact hPc, va_K.moved hW.alike hK, hDc, hN.warm hW, by rw [hU]; exact hZ.warm hW⟩⟩ rfl hn hz hst (lv_room hw) hdg hf) hS (fun q _ h => hF q h) hF (fun u t H1 locs1 ht hvm hw hB hz1 hk1 hS1 => ?_)
  obtain ⟨hP1, hD1⟩ := hB
  rw [ht] at hP1
  obtain ⟨hP2, hD2⟩ := va_joinQ hP hD isC isR hC hR hnR hdis hk1 hF hP1 hD1
  exact kk u H1 locs1 hw hP2 hD2 hS1
theorem zt_V {S' : Type} {post : Int32 → S' → Prop} {wq : S' → va_W} (S : CallFix p m c cc nL s args Ts own) (hM : Met l y wsY rm (va_Pc (.ref b :: As) (zW D tys po wc H.size)) (va_Qi post (zB D wc H.size wq) (va_A wc H.size)) mc ms (va_A wc H.size)) (cw : CallW R s args own C index y bytes maxL ret wsY rm mc ms n) (hK : va_K D vwCl tys s) (hN : zN s) (hP : va_P D vwCl (ws ++ pl) H) (hD : va_D A (ws ++ pl)) (hS : va_S A H0 H locs) (hA : ∀ q, H0.size ≤ q → A q)
    (isC isR : List Nat) (hC : isC.map (fun i => ws[i]?) = wc.map some) (hR : isR.map (fun i => ws[i]?) = wr.map some) (hnC : va_nd isC = true) (hnR : va_nd isR = true) (hdis : ∀ i ∈ isR, i ∉ isC) (hZ : zE D po (va_A wc H.size) s H)
    (rv : ∃ cell : Cell, H[b]? = some cell ∧ cell.vm.isStatics = false ∧ s.vm.findClass C = some cell.cls) (hn : As.length = n) (hz : ls.size = nL) (hst : st0 = As.reverse ++ .ref b :: rest) (hw : (rest.map fun v => v.category).sum ≤ 8) (hdg : decode cc pc = .ok (.invokevirtual index, 3)) (hf : cells + mc ≤ R.cells ∧ slots + ms ≤ R.slots)
    (kk : ∀ (r : Int32) (u : S') (H1 : Heap) (locs1 : List Loc), post r u → va_P D vwCl ((wr ++ wq u) ++ pl) H1 → va_D A ((wr ++ wq u) ++ pl) → va_S A H0 H1 locs1 → W p l e R s m args below meth c H1 locs1 (cells + mc) (slots + ms) Q (F0 m (pc + 3) ls (.int r :: rest))) : W p l e R s m args below meth c H locs cells slots Q (F0 m pc ls st0) := by
  have hF := zt_free (wc := wc) hD hS hA hC
  have hPc := zP_of hP (zC_app (pl := pl) hC)
  have hDc : va_D (fun _ => True) wc := (hD.sub isC hnC (zC_app hC)).weaken (fun _ _ _ _ => trivial)
  refine va_calli (va_runV S hM cw ⟨zW_fb, rv, fun U hU hW => ⟨rfl, by rw [hU], by rw [hU]; exact hPc, va_K.moved hW.alike hK, hDc, hN.warm hW, by rw [hU]; exact hZ.warm hW⟩⟩ rfl hn hz hst (lv_room hw) hdg hf) hS (fun q _ h => hF q h) hF (fun r u t H1 locs1 ht hvm hw hB hz1 hk1 hS1 => ?_)
  obtain ⟨hP1, hD1⟩ := hB
  rw [ht] at hP1
  obtain ⟨hP2, hD2⟩ := va_joinQ hP hD isC isR hC hR hnR hdis hk1 hF hP1 hD1
  exact kk r u H1 locs1 hw hP2 hD2 hS1
theorem zt_Vl {S' : Type} {post : Int64 → S' → Prop} {wq : S' → va_W} (S : CallFix p m c cc nL s args Ts own) (hM : Met l y wsY rm (va_Pc (.ref b :: As) (zW D tys po wc H.size)) (va_Ql post (zB D wc H.size wq) (va_A wc H.size)) mc ms (va_A wc H.size)) (cw : CallW R s args own C index y bytes maxL ret wsY rm mc ms n) (hK : va_K D vwCl tys s) (hN : zN s) (hP : va_P D vwCl (ws ++ pl) H) (hD : va_D A (ws ++ pl)) (hS : va_S A H0 H locs) (hA : ∀ q, H0.size ≤ q → A q)
    (isC isR : List Nat) (hC : isC.map (fun i => ws[i]?) = wc.map some) (hR : isR.map (fun i => ws[i]?) = wr.map some) (hnC : va_nd isC = true) (hnR : va_nd isR = true) (hdis : ∀ i ∈ isR, i ∉ isC) (hZ : zE D po (va_A wc H.size) s H)
    (rv : ∃ cell : Cell, H[b]? = some cell ∧ cell.vm.isStatics = false ∧ s.vm.findClass C = some cell.cls) (hn : As.length = n) (hz : ls.size = nL) (hst : st0 = As.reverse ++ .ref b :: rest) (hw : (rest.map fun v => v.category).sum ≤ 8) (hdg : decode cc pc = .ok (.invokevirtual index, 3)) (hf : cells + mc ≤ R.cells ∧ slots + ms ≤ R.slots)
    (kk : ∀ (r : Int64) (u : S') (H1 : Heap) (locs1 : List Loc), post r u → va_P D vwCl ((wr ++ wq u) ++ pl) H1 → va_D A ((wr ++ wq u) ++ pl) → va_S A H0 H1 locs1 → W p l e R s m args below meth c H1 locs1 (cells + mc) (slots + ms) Q (F0 m (pc + 3) ls (.long r :: rest))) : W p l e R s m args below meth c H locs cells slots Q (F0 m pc ls st0) := by
  have hF := zt_free (wc := wc) hD hS hA hC
  have hPc := zP_of hP (zC_app (pl := pl) hC)
  have hDc : va_D (fun _ => True) wc := (hD.sub isC hnC (zC_app hC)).weaken (fun _ _ _ _ => trivial)
  refine va_calll (va_runV S hM cw ⟨zW_fb, rv, fun U hU hW => ⟨rfl, by rw [hU], by rw [hU]; exact hPc, va_K.moved hW.alike hK, hDc, hN.warm hW, by rw [hU]; exact hZ.warm hW⟩⟩ rfl hn hz hst (lv_room hw) hdg hf) hS (fun q _ h => hF q h) hF (fun r u t H1 locs1 ht hvm hw hB hz1 hk1 hS1 => ?_)
  obtain ⟨hP1, hD1⟩ := hB
  rw [ht] at hP1
  obtain ⟨hP2, hD2⟩ := va_joinQ hP hD isC isR hC hR hnR hdis hk1 hF hP1 hD1
  exact kk r u H1 locs1 hw hP2 hD2 hS1
end ZT
/-- the pulls of a row, among a list of pulls, with these kinds, numbers A and seconds -/
def zJL (L : List (Nat × Int32 × Int32 × Int32)) (f : Nat → Option Nat) (n : Int32) (K A T : Nat → Int32) : Prop := ∀ j : Nat, (j : Int) < n.toInt → ∃ u : Nat, f j = some u ∧ (u, K j, A j, T j) ∈ L
def zWL (L : List (Nat × Int32 × Int32 × Int32)) (f : Nat → Option Nat) : Prop := ∀ j : Nat, f j = none ∨ ∃ (u : Nat) (k a t : Int32), f j = some u ∧ (u, k, a, t) ∈ L
/-- a row of pulls, and what it is behind the making of these new ones -/
def zExt (np : List (Nat × Int32 × Int32 × Int32)) (f : Nat → Option Nat) (n : Int32) (K A T : Nat → Int32) (f2 : Nat → Option Nat) (n2 : Int32) (K2 A2 T2 : Nat → Int32) : Prop := ∀ L : List (Nat × Int32 × Int32 × Int32), zJL L f n K A T → zWL L f → zJL (np ++ L) f2 n2 K2 A2 T2 ∧ zWL (np ++ L) f2
theorem zExt.refl {f : Nat → Option Nat} {n : Int32} {K A T : Nat → Int32} : zExt [] f n K A T f n K A T := fun _ h1 h2 => ⟨h1, h2⟩
theorem zExt.trans {np nq : List (Nat × Int32 × Int32 × Int32)} {f f2 f3 : Nat → Option Nat} {n n2 n3 : Int32} {K A T K2 A2 T2 K3 A3 T3 : Nat → Int32} (h1 : zExt np f n K A T f2 n2 K2 A2 T2) (h2 : zExt nq f2 n2 K2 A2 T2 f3 n3 K3 A3 T3) : zExt (nq ++ np) f n K A T f3 n3 K3 A3 T3 := fun L h3 h4 => by
  obtain ⟨h5, h6⟩ := h1 L h3 h4
  rw [List.append_assoc]
  exact h2 _ h5 h6
theorem zExt_new {q : Nat} {ki a t : Int32} {f : Nat → Option Nat} {n n2 : Int32} {K A T : Nat → Int32} (h0 : 0 ≤ n.toInt) (h : n2.toInt = n.toInt + 1) : zExt [(q, ki, a, t)] f n K A T (va_up f n.toNatClampNeg (some q)) n2 (upd K n.toNatClampNeg ki) (upd A n.toNatClampNeg a) (upd T n.toNatClampNeg t) := by
  intro L h1 h2
  have hn : n.toNatClampNeg = n.toInt.toNat := rfl
  refine ⟨fun j hj => ?_, fun j => ?_⟩
  · by_cases e : j = n.toNatClampNeg
    · subst e
      refine ⟨q, by simp [va_up], ?_⟩
      simp [upd]
    · obtain ⟨u, h3, h4⟩ := h1 j (by omega)
      refine ⟨u, by simp only [va_up]; rw [if_neg e]; exact h3, ?_⟩
      simp only [upd]; rw [if_neg e, if_neg e, if_neg e]
      exact List.mem_cons_of_mem _ h4
  · by_cases e : j = n.toNatClampNeg
    · subst e
      exact Or.inr ⟨q, ki, a, t, by simp [va_up], by simp⟩
    · rcases h2 j with h3 | ⟨u, k, a', t', h3, h4⟩
      · exact Or.inl (by simp only [va_up]; rw [if_neg e]; exact h3)
      · exact Or.inr ⟨u, k, a', t', by simp only [va_up]; rw [if_neg e]; exact h3, List.mem_cons_of_mem _ h4⟩
/-- what row answers -/
def zRow (s o n : Int) : Int := if s < 0 then -1 else if 7 < s then -1 else if n < 0 then -4 else if o < 0 then -6 else if 3 < o then -6 else if 160 < n then -7 else 1
end
