set_option maxHeartbeats 4000000 in
set_option maxRecDepth 100000 in
theorem c_F_M_note (l : Launch) (D : va_G) (cI cJ cZ cP cS : ClassId) (po : zPool) (mv mb : Nat) (mr mk mm mq : Int32) (fb : Nat → Int32) (bo : Int32) (hy0 : 0 ≤ mr.toInt) (hy1 : mr.toInt ≤ 100000) (hpz : Nat) : Met l yX1_note wsX1_note ({ frames := 0, cells := 0, slots := 0, locals := 0 }) (va_Pc [.ref mv, .int bo] (zW D (zKT cI cJ cZ cP cS) po [(mv, .inr (1, [.ref mb, .int mr, .int mk, .int mm, .int mq])), (mb, .inl (cI, 20, .inl fb))] hpz)) (va_Qv (fun (u : (Int32) × (Nat → Int32)) => u.1.toInt = mr.toInt + 1 ∧ (u.2 = zTr fb mr.toInt [bo]) ∧ (True)) (zB D [(mv, .inr (1, [.ref mb, .int mr, .int mk, .int mm, .int mq])), (mb, .inl (cI, 20, .inl fb))] hpz (fun (u : (Int32) × (Nat → Int32)) => [(mv, .inr (1, [.ref mb, .int u.1, .int mk, .int mm, .int mq])), (mb, .inl (cI, 20, .inl u.2))])) (va_A [(mv, .inr (1, [.ref mb, .int mr, .int mk, .int mm, .int mq])), (mb, .inl (cI, 20, .inl fb))] hpz)) 0 0 (va_A [(mv, .inr (1, [.ref mb, .int mr, .int mk, .int mm, .int mq])), (mb, .inl (cI, 20, .inl fb))] hpz) := by
  refine Met.ofW (cc := cX1_note) (maxL := 2) (ret := none) (by decide) rfl ?_
  intro p e s m args below meth c s₁ B hml hv
  obtain ⟨rfl, hsz, hP, hK, hD0, hN, hZ⟩ := hv
  have hx := B.exec
  have hb := B.bytes
  have hr := B.returns
  have hts := atoms_spec (ws := wsX1_note) B.pre
  have hown : s.vm.findClass RX1 = some m.cls := findClass_of_methodNamed B.named
  have hlocks := B.notSynchronized
  subst hsz
  have hD := hD0.self (sz := s.heap.size)
  have hA := zA_of hD
  have hl := lv_entry ([.ref mv, .int bo]) (n := 2) (Nat.le_of_ble_eq_true rfl)
  rw [lg_entry_eq]
  generalize (lg_sl ([.ref mv, .int bo]) ++ List.replicate (2 - (lg_sl ([.ref mv, .int bo])).length) Slot.unset).toArray = ls at hl ⊢
  replace hl : lv_has ls 2 [(0, .ref mv), (1, .int bo)] := hl
  refine zw_begin hP hD (fun H locs hP1 hS => ?_)
  clear hP
  have hP := hP1
  clear hP1
  refine lv_aload_n hx hb dX1_note_0 rfl (lv_at hl 0 rfl) ?_
  refine va_get (D := D) (ci := 1) (v := .int mr) (C := RX1) (T := TX1) (N := 5) hx hb hts hi_X1_note_1 hown hK hP 0 rfl rfl 1 (by decide) (hts (.fieldLink RX1 15 "TheLiningsInIt$Moves" "ran" "I") (List.mem_of_getElem? (i := 1) rfl)) (fun _ h9 => h9) rfl dX1_note_1 ?_
  refine lv_bipush (v := 20) hx hb dX1_note_4 (by decide) ?_
  refine lv_icmp_ge (tgt := 19) hx hb dX1_note_6 (by decide) (fun c_1 => ?_) (fun c_1 => ?_)
  · have fc_1 : 20 ≤ mr.toInt := zf_le c_1 (by decide) rfl
    refine lv_aload_n hx hb dX1_note_19 rfl (lv_at hl 0 rfl) ?_
    refine lv_dup hx hb dX1_note_20 rfl ?_
    refine va_get (D := D) (ci := 1) (v := .int mr) (C := RX1) (T := TX1) (N := 5) hx hb hts hi_X1_note_1 hown hK hP 0 rfl rfl 1 (by decide) (hts (.fieldLink RX1 15 "TheLiningsInIt$Moves" "ran" "I") (List.mem_of_getElem? (i := 1) rfl)) (fun _ h9 => h9) rfl dX1_note_21 ?_
    refine lv_iconst (v := 1) hx hb dX1_note_24 (by decide) ?_
    refine lv_iadd hx hb dX1_note_25 ?_
    refine lv_topi (fun x_2 ex_2 => ?_)
    have qx_2 : x_2.toInt = mr.toInt + 1 := by rw [ex_2]; exact zf_add rfl (by decide) (by omega) (by omega)
    refine va_put (D := D) (ci := 1) (v := .int x_2) (ty := .int) (C := RX1) (T := TX1) (N := 5) hx hb hts hi_X1_note_1 tyX1 tyX1_ok nmX1 hown hK hP hD hS 0 rfl rfl 1 (by decide) (hts (.fieldLink RX1 15 "TheLiningsInIt$Moves" "ran" "I") (List.mem_of_getElem? (i := 1) rfl)) (fun _ h9 => h9) rfl (tyX1_ok 1 (Nat.le_of_ble_eq_true rfl)) rfl rfl (Nat.le_of_ble_eq_true rfl) dX1_note_26 (fun H locs hP hD hS => ?_)
    have h9R := zRe (ws' := [(mv, .inr (1, [.ref mb, .int x_2, .int mk, .int mm, .int mq])), (mb, .inl (cI, 20, .inl fb))]) hP hD rfl
    clear hP hD
    obtain ⟨hP, hD⟩ := h9R
    exact W.vret hx hb hr (fun t ht hW => ⟨⟨(x_2, fb), rfl, ⟨(show x_2.toInt = mr.toInt + 1 from by omega), (show fb = zTr fb mr.toInt [bo] from by (exact zTr_n (by omega))), trivial⟩, zRet ht hP hD [0, 1] (by decide) rfl⟩, hS.F ht⟩) hS.2.2 dX1_note_29
  · have fc_1 : mr.toInt < 20 := zf_nle c_1 (by decide) rfl
    refine lv_aload_n hx hb dX1_note_9 rfl (lv_at hl 0 rfl) ?_
    refine va_get (D := D) (ci := 1) (v := .ref mb) (C := RX1) (T := TX1) (N := 5) hx hb hts hi_X1_note_1 hown hK hP 0 rfl rfl 0 (by decide) (hts (.fieldLink RX1 11 "TheLiningsInIt$Moves" "bodies" "[I") (List.mem_of_getElem? (i := 2) rfl)) (fun _ h9 => h9) rfl dX1_note_10 ?_
    refine lv_aload_n hx hb dX1_note_13 rfl (lv_at hl 0 rfl) ?_
    refine va_get (D := D) (ci := 1) (v := .int mr) (C := RX1) (T := TX1) (N := 5) hx hb hts hi_X1_note_1 hown hK hP 0 rfl rfl 1 (by decide) (hts (.fieldLink RX1 15 "TheLiningsInIt$Moves" "ran" "I") (List.mem_of_getElem? (i := 1) rfl)) (fun _ h9 => h9) rfl dX1_note_14 ?_
    refine lv_iload_n hx hb dX1_note_17 rfl (lv_at hl 1 rfl) ?_
    refine va_iast hx hb hK hP hD hS 1 0 rfl rfl (zf_in (by omega) (by omega)) dX1_note_18 (fun H locs hP hD hS => ?_)
    obtain ⟨g_3, hg_3⟩ : ∃ g : Nat → Int32, g = upd fb mr.toNatClampNeg bo := ⟨_, rfl⟩
    rw [← hg_3] at hP hD
    have h9R := zRe (ws' := [(mv, .inr (1, [.ref mb, .int mr, .int mk, .int mm, .int mq])), (mb, .inl (cI, 20, .inl g_3))]) hP hD rfl
    clear hP hD
    obtain ⟨hP, hD⟩ := h9R
    refine lv_aload_n hx hb dX1_note_19 rfl (lv_at hl 0 rfl) ?_
    refine lv_dup hx hb dX1_note_20 rfl ?_
    refine va_get (D := D) (ci := 1) (v := .int mr) (C := RX1) (T := TX1) (N := 5) hx hb hts hi_X1_note_1 hown hK hP 0 rfl rfl 1 (by decide) (hts (.fieldLink RX1 15 "TheLiningsInIt$Moves" "ran" "I") (List.mem_of_getElem? (i := 1) rfl)) (fun _ h9 => h9) rfl dX1_note_21 ?_
    refine lv_iconst (v := 1) hx hb dX1_note_24 (by decide) ?_
    refine lv_iadd hx hb dX1_note_25 ?_
    refine lv_topi (fun x_4 ex_4 => ?_)
    have qx_4 : x_4.toInt = mr.toInt + 1 := dw_incK ex_4 fc_1 (by decide)
    refine va_put (D := D) (ci := 1) (v := .int x_4) (ty := .int) (C := RX1) (T := TX1) (N := 5) hx hb hts hi_X1_note_1 tyX1 tyX1_ok nmX1 hown hK hP hD hS 0 rfl rfl 1 (by decide) (hts (.fieldLink RX1 15 "TheLiningsInIt$Moves" "ran" "I") (List.mem_of_getElem? (i := 1) rfl)) (fun _ h9 => h9) rfl (tyX1_ok 1 (Nat.le_of_ble_eq_true rfl)) rfl rfl (Nat.le_of_ble_eq_true rfl) dX1_note_26 (fun H locs hP hD hS => ?_)
    have h9R := zRe (ws' := [(mv, .inr (1, [.ref mb, .int x_4, .int mk, .int mm, .int mq])), (mb, .inl (cI, 20, .inl g_3))]) hP hD rfl
    clear hP hD
    obtain ⟨hP, hD⟩ := h9R
    exact W.vret hx hb hr (fun t ht hW => ⟨⟨(x_4, g_3), rfl, ⟨(show x_4.toInt = mr.toInt + 1 from by omega), (show g_3 = zTr fb mr.toInt [bo] from by (rw [hg_3]; exact zTr_y (by omega) (by omega))), trivial⟩, zRet ht hP hD [0, 1] (by decide) rfl⟩, hS.F ht⟩) hS.2.2 dX1_note_29
set_option maxHeartbeats 4000000 in
set_option maxRecDepth 100000 in
theorem c_F_M_run_0_0_0_0 (l : Launch) (D : va_G) (cI cJ cZ cP cS : ClassId) (po : zPool) (mv mb : Nat) (mr mm mq : Int32) (fb : Nat → Int32) (x : Int32) (hy0 : 0 ≤ mr.toInt) (hy1 : mr.toInt ≤ 1000) (hpz : Nat) : Met l yX1_run wsX1_run ({ frames := 2, cells := 0, slots := 0, locals := 46 }) (va_Pc [.ref mv, .int 0, .int 0, .int x, .int 0] (zW D (zKT cI cJ cZ cP cS) po [(mv, .inr (1, [.ref mb, .int mr, .int 0, .int mm, .int mq])), (mb, .inl (cI, 20, .inl fb))] hpz)) (va_Qi (fun (r : Int32) (u : (Int32) × (Nat → Int32)) => u.1.toInt = mr.toInt + 1 ∧ (r = (x + mm)) ∧ (u.2 = zTr fb mr.toInt [10]) ∧ (True)) (zB D [(mv, .inr (1, [.ref mb, .int mr, .int 0, .int mm, .int mq])), (mb, .inl (cI, 20, .inl fb))] hpz (fun (u : (Int32) × (Nat → Int32)) => [(mv, .inr (1, [.ref mb, .int u.1, .int 0, .int mm, .int mq])), (mb, .inl (cI, 20, .inl u.2))])) (va_A [(mv, .inr (1, [.ref mb, .int mr, .int 0, .int mm, .int mq])), (mb, .inl (cI, 20, .inl fb))] hpz)) 0 0 (va_A [(mv, .inr (1, [.ref mb, .int mr, .int 0, .int mm, .int mq])), (mb, .inl (cI, 20, .inl fb))] hpz) := by
  refine Met.ofW (cc := cX1_run) (maxL := 7) (ret := (some .int)) (by decide) rfl ?_
  intro p e s m args below meth c s₁ B hml hv
  obtain ⟨rfl, hsz, hP, hK, hD0, hN, hZ⟩ := hv
  have hx := B.exec
  have hb := B.bytes
  have hr := B.returns
  have hts := atoms_spec (ws := wsX1_run) B.pre
  have hown : s.vm.findClass RX1 = some m.cls := findClass_of_methodNamed B.named
  have hlocks := B.notSynchronized
  subst hsz
  have hD := hD0.self (sz := s.heap.size)
  have hA := zA_of hD
  have hl := lv_entry ([.ref mv, .int 0, .int 0, .int x, .int 0]) (n := 7) (Nat.le_of_ble_eq_true rfl)
  rw [lg_entry_eq]
  generalize (lg_sl ([.ref mv, .int 0, .int 0, .int x, .int 0]) ++ List.replicate (7 - (lg_sl ([.ref mv, .int 0, .int 0, .int x, .int 0])).length) Slot.unset).toArray = ls at hl ⊢
  replace hl : lv_has ls 7 [(0, .ref mv), (1, .int 0), (2, .int 0), (3, .int x), (4, .int 0)] := hl
  refine zw_begin hP hD (fun H locs hP1 hS => ?_)
  clear hP
  have hP := hP1
  clear hP1
  refine lv_iload_n hx hb dX1_run_0 rfl (lv_at hl 1 rfl) ?_
  refine lv_iload_n hx hb dX1_run_1 rfl (lv_at hl 2 rfl) ?_
  refine zc_S (As := [.int 0, .int 0]) (rest := []) ⟨hx, hb, hml, hown, hts⟩ (c_M_bodyFor_0_0 l D cI cJ cZ cP cS po  ) (va_cwS 2 hts gX1_run_X1_bodyFor rfl rfl rfl dh_X1_bodyFor ⟨Nat.le_of_ble_eq_true rfl, Nat.le_of_ble_eq_true rfl⟩) hK hN (hZ.kept hS) rfl hl.1 rfl (Nat.le_of_ble_eq_true rfl) dX1_run_2 ⟨Nat.le_of_ble_eq_true rfl, Nat.le_of_ble_eq_true rfl⟩ (fun r_1 hr_1 => ?_)
  obtain rfl := hr_1
  refine lv_istore (lv' := [(5, .int 10), (0, .ref mv), (1, .int 0), (2, .int 0), (3, .int x), (4, .int 0)]) hx hb dX1_run_5 hl (by decide) rfl (fun ls hl => ?_)
  refine lv_iload hx hb dX1_run_7 (lv_at hl 0 rfl) ?_
  refine lv_iconst (v := (-1)) hx hb dX1_run_9 (by decide) ?_
  refine lv_icmp_eq (tgt := 20) hx hb dX1_run_10 (by decide) (fun c_2 => ?_) (fun c_2 => ?_)
  · exact absurd c_2 (by decide)
  · refine lv_iload hx hb dX1_run_13 (lv_at hl 5 rfl) ?_
    refine lv_bipush (v := 40) hx hb dX1_run_15 (by decide) ?_
    refine lv_icmp_lt (tgt := 22) hx hb dX1_run_17 (by decide) (fun c_3 => ?_) (fun c_3 => ?_)
    · refine lv_aload_n hx hb dX1_run_22 rfl (lv_at hl 1 rfl) ?_
      refine lv_iload hx hb dX1_run_23 (lv_at hl 0 rfl) ?_
      skip
      refine zw_Vv (As := [.int 10]) (rest := []) (wr := []) ⟨hx, hb, hml, hown, hts⟩ (c_F_M_note l D cI cJ cZ cP cS po mv mb (mr) (0) (mm) (mq) fb (10) hy0 (by omega) H.size) (cwV 1 hts gX1_run_X1_note rfl rfl rfl ⟨rfl, dh_X1_note⟩ ⟨Nat.le_of_ble_eq_true rfl, Nat.le_of_ble_eq_true rfl⟩) hK hN (hZ.kept hS) hP hD hS hA [0, 1] [] rfl rfl (by decide) (by decide) (by decide) (va_recv (q := (RX1, TX1, 5)) hK hP (ci := 1) (q0 := 0) rfl rfl) rfl hl.1 rfl (Nat.le_of_ble_eq_true rfl) dX1_run_25 ⟨Nat.le_of_ble_eq_true rfl, Nat.le_of_ble_eq_true rfl⟩ (fun u_5 H locs hr_4 hP hD hS => ?_)
      obtain ⟨q_6, q_7⟩ := u_5
      try dsimp only at hr_4
      obtain ⟨hbq_6, hsr_4_0, hr_4⟩ := hr_4
      have h9R := zRe (ws' := [(mv, .inr (1, [.ref mb, .int q_6, .int 0, .int mm, .int mq])), (mb, .inl (cI, 20, .inl q_7))]) hP hD rfl
      clear hP hD
      obtain ⟨hP, hD⟩ := h9R
      refine lv_iload hx hb dX1_run_28 (lv_at hl 5 rfl) ?_
      refine lv_iconst (v := 1) hx hb dX1_run_30 (by decide) ?_
      refine lv_iadd hx hb dX1_run_31 ?_
      refine lv_topi (fun y_8 ey_8 => ?_)
      obtain rfl : y_8 = 1 := ey_8.trans (by decide)
      refine lv_istore (lv' := [(6, .int 1), (5, .int 10), (0, .ref mv), (1, .int 0), (2, .int 0), (3, .int x), (4, .int 0)]) hx hb dX1_run_32 hl (by decide) rfl (fun ls hl => ?_)
      refine lv_iload hx hb dX1_run_34 (lv_at hl 1 rfl) ?_
      refine lv_lookup (off := 92) (tgt := 128) hx hb dX1_run_36 (by decide) (by decide) (by decide) ?_
      refine lv_iload_n hx hb dX1_run_128 rfl (lv_at hl 5 rfl) ?_
      refine lv_aload_n hx hb dX1_run_129 rfl (lv_at hl 2 rfl) ?_
      refine va_get (D := D) (ci := 1) (v := .int mm) (C := RX1) (T := TX1) (N := 5) hx hb hts hi_X1_run_1 hown hK hP 0 rfl rfl 3 (by decide) (hts (.fieldLink RX1 22 "TheLiningsInIt$Moves" "m" "I") (List.mem_of_getElem? (i := 1) rfl)) (fun _ h9 => h9) rfl dX1_run_130 ?_
      refine lv_iadd hx hb dX1_run_133 ?_
      refine lv_topi (fun x_9 ex_9 => ?_)
      exact W.iret (v := x_9) hx hb hr (fun t ht hW => ⟨⟨x_9, (q_6, q_7), rfl, ⟨(show q_6.toInt = mr.toInt + 1 from by omega), (show (x_9 : Int32) = (x + mm) from by ((try rw [ex_9]); (try rw [ex_9]); first | done | rfl)), (show q_7 = zTr fb mr.toInt [10] from by (rw [hsr_4_0]; first | done | rfl)), trivial⟩, zRet ht hP hD [0, 1] (by decide) rfl⟩, hS.F ht⟩) hS.2.2 dX1_run_134
    · exact absurd c_3 (by decide)
set_option maxHeartbeats 4000000 in
set_option maxRecDepth 100000 in
theorem c_F_M_run_0_0_0_1 (l : Launch) (D : va_G) (cI cJ cZ cP cS : ClassId) (po : zPool) (mv mb : Nat) (mr mm mq : Int32) (fb : Nat → Int32) (x : Int32) (hy0 : 0 ≤ mr.toInt) (hy1 : mr.toInt ≤ 1100) (hpz : Nat) : Met l yX1_run wsX1_run ({ frames := 2, cells := 0, slots := 0, locals := 46 }) (va_Pc [.ref mv, .int 0, .int 0, .int x, .int 1] (zW D (zKT cI cJ cZ cP cS) po [(mv, .inr (1, [.ref mb, .int mr, .int 0, .int mm, .int mq])), (mb, .inl (cI, 20, .inl fb))] hpz)) (va_Qi (fun (r : Int32) (u : (Int32) × (Nat → Int32)) => u.1.toInt = mr.toInt + 1 ∧ (r = (x + mm)) ∧ (u.2 = zTr fb mr.toInt [10]) ∧ (True)) (zB D [(mv, .inr (1, [.ref mb, .int mr, .int 0, .int mm, .int mq])), (mb, .inl (cI, 20, .inl fb))] hpz (fun (u : (Int32) × (Nat → Int32)) => [(mv, .inr (1, [.ref mb, .int u.1, .int 0, .int mm, .int mq])), (mb, .inl (cI, 20, .inl u.2))])) (va_A [(mv, .inr (1, [.ref mb, .int mr, .int 0, .int mm, .int mq])), (mb, .inl (cI, 20, .inl fb))] hpz)) 0 0 (va_A [(mv, .inr (1, [.ref mb, .int mr, .int 0, .int mm, .int mq])), (mb, .inl (cI, 20, .inl fb))] hpz) := by
  refine Met.ofW (cc := cX1_run) (maxL := 7) (ret := (some .int)) (by decide) rfl ?_
  intro p e s m args below meth c s₁ B hml hv
  obtain ⟨rfl, hsz, hP, hK, hD0, hN, hZ⟩ := hv
  have hx := B.exec
  have hb := B.bytes
  have hr := B.returns
  have hts := atoms_spec (ws := wsX1_run) B.pre
  have hown : s.vm.findClass RX1 = some m.cls := findClass_of_methodNamed B.named
  have hlocks := B.notSynchronized
  subst hsz
  have hD := hD0.self (sz := s.heap.size)
  have hA := zA_of hD
  have hl := lv_entry ([.ref mv, .int 0, .int 0, .int x, .int 1]) (n := 7) (Nat.le_of_ble_eq_true rfl)
  rw [lg_entry_eq]
  generalize (lg_sl ([.ref mv, .int 0, .int 0, .int x, .int 1]) ++ List.replicate (7 - (lg_sl ([.ref mv, .int 0, .int 0, .int x, .int 1])).length) Slot.unset).toArray = ls at hl ⊢
  replace hl : lv_has ls 7 [(0, .ref mv), (1, .int 0), (2, .int 0), (3, .int x), (4, .int 1)] := hl
  refine zw_begin hP hD (fun H locs hP1 hS => ?_)
  clear hP
  have hP := hP1
  clear hP1
  refine lv_iload_n hx hb dX1_run_0 rfl (lv_at hl 1 rfl) ?_
  refine lv_iload_n hx hb dX1_run_1 rfl (lv_at hl 2 rfl) ?_
  refine zc_S (As := [.int 0, .int 0]) (rest := []) ⟨hx, hb, hml, hown, hts⟩ (c_M_bodyFor_0_0 l D cI cJ cZ cP cS po  ) (va_cwS 2 hts gX1_run_X1_bodyFor rfl rfl rfl dh_X1_bodyFor ⟨Nat.le_of_ble_eq_true rfl, Nat.le_of_ble_eq_true rfl⟩) hK hN (hZ.kept hS) rfl hl.1 rfl (Nat.le_of_ble_eq_true rfl) dX1_run_2 ⟨Nat.le_of_ble_eq_true rfl, Nat.le_of_ble_eq_true rfl⟩ (fun r_1 hr_1 => ?_)
  obtain rfl := hr_1
  refine lv_istore (lv' := [(5, .int 10), (0, .ref mv), (1, .int 0), (2, .int 0), (3, .int x), (4, .int 1)]) hx hb dX1_run_5 hl (by decide) rfl (fun ls hl => ?_)
  refine lv_iload hx hb dX1_run_7 (lv_at hl 0 rfl) ?_
  refine lv_iconst (v := (-1)) hx hb dX1_run_9 (by decide) ?_
  refine lv_icmp_eq (tgt := 20) hx hb dX1_run_10 (by decide) (fun c_2 => ?_) (fun c_2 => ?_)
  · exact absurd c_2 (by decide)
  · refine lv_iload hx hb dX1_run_13 (lv_at hl 5 rfl) ?_
    refine lv_bipush (v := 40) hx hb dX1_run_15 (by decide) ?_
    refine lv_icmp_lt (tgt := 22) hx hb dX1_run_17 (by decide) (fun c_3 => ?_) (fun c_3 => ?_)
    · refine lv_aload_n hx hb dX1_run_22 rfl (lv_at hl 1 rfl) ?_
      refine lv_iload hx hb dX1_run_23 (lv_at hl 0 rfl) ?_
      skip
      refine zw_Vv (As := [.int 10]) (rest := []) (wr := []) ⟨hx, hb, hml, hown, hts⟩ (c_F_M_note l D cI cJ cZ cP cS po mv mb (mr) (0) (mm) (mq) fb (10) hy0 (by omega) H.size) (cwV 1 hts gX1_run_X1_note rfl rfl rfl ⟨rfl, dh_X1_note⟩ ⟨Nat.le_of_ble_eq_true rfl, Nat.le_of_ble_eq_true rfl⟩) hK hN (hZ.kept hS) hP hD hS hA [0, 1] [] rfl rfl (by decide) (by decide) (by decide) (va_recv (q := (RX1, TX1, 5)) hK hP (ci := 1) (q0 := 0) rfl rfl) rfl hl.1 rfl (Nat.le_of_ble_eq_true rfl) dX1_run_25 ⟨Nat.le_of_ble_eq_true rfl, Nat.le_of_ble_eq_true rfl⟩ (fun u_5 H locs hr_4 hP hD hS => ?_)
      obtain ⟨q_6, q_7⟩ := u_5
      try dsimp only at hr_4
      obtain ⟨hbq_6, hsr_4_0, hr_4⟩ := hr_4
      have h9R := zRe (ws' := [(mv, .inr (1, [.ref mb, .int q_6, .int 0, .int mm, .int mq])), (mb, .inl (cI, 20, .inl q_7))]) hP hD rfl
      clear hP hD
      obtain ⟨hP, hD⟩ := h9R
      refine lv_iload hx hb dX1_run_28 (lv_at hl 5 rfl) ?_
      refine lv_iconst (v := 1) hx hb dX1_run_30 (by decide) ?_
      refine lv_iadd hx hb dX1_run_31 ?_
      refine lv_topi (fun y_8 ey_8 => ?_)
      obtain rfl : y_8 = 2 := ey_8.trans (by decide)
      refine lv_istore (lv' := [(6, .int 2), (5, .int 10), (0, .ref mv), (1, .int 0), (2, .int 0), (3, .int x), (4, .int 1)]) hx hb dX1_run_32 hl (by decide) rfl (fun ls hl => ?_)
      refine lv_iload hx hb dX1_run_34 (lv_at hl 1 rfl) ?_
      refine lv_lookup (off := 92) (tgt := 128) hx hb dX1_run_36 (by decide) (by decide) (by decide) ?_
      refine lv_iload_n hx hb dX1_run_128 rfl (lv_at hl 5 rfl) ?_
      refine lv_aload_n hx hb dX1_run_129 rfl (lv_at hl 2 rfl) ?_
      refine va_get (D := D) (ci := 1) (v := .int mm) (C := RX1) (T := TX1) (N := 5) hx hb hts hi_X1_run_1 hown hK hP 0 rfl rfl 3 (by decide) (hts (.fieldLink RX1 22 "TheLiningsInIt$Moves" "m" "I") (List.mem_of_getElem? (i := 1) rfl)) (fun _ h9 => h9) rfl dX1_run_130 ?_
      refine lv_iadd hx hb dX1_run_133 ?_
      refine lv_topi (fun x_9 ex_9 => ?_)
      exact W.iret (v := x_9) hx hb hr (fun t ht hW => ⟨⟨x_9, (q_6, q_7), rfl, ⟨(show q_6.toInt = mr.toInt + 1 from by omega), (show (x_9 : Int32) = (x + mm) from by ((try rw [ex_9]); (try rw [ex_9]); first | done | rfl)), (show q_7 = zTr fb mr.toInt [10] from by (rw [hsr_4_0]; first | done | rfl)), trivial⟩, zRet ht hP hD [0, 1] (by decide) rfl⟩, hS.F ht⟩) hS.2.2 dX1_run_134
    · exact absurd c_3 (by decide)
set_option maxHeartbeats 4000000 in
set_option maxRecDepth 100000 in
theorem c_F_M_run_0_0_1_0 (l : Launch) (D : va_G) (cI cJ cZ cP cS : ClassId) (po : zPool) (mv mb : Nat) (mr mm mq : Int32) (fb : Nat → Int32) (x : Int32) (hy0 : 0 ≤ mr.toInt) (hy1 : mr.toInt ≤ 1000) (hpz : Nat) : Met l yX1_run wsX1_run ({ frames := 3, cells := 0, slots := 0, locals := 72 }) (va_Pc [.ref mv, .int 0, .int 1, .int x, .int 0] (zW D (zKT cI cJ cZ cP cS) po [(mv, .inr (1, [.ref mb, .int mr, .int 0, .int mm, .int mq])), (mb, .inl (cI, 20, .inl fb))] hpz)) (va_Qi (fun (r : Int32) (u : (Int32) × (Nat → Int32)) => u.1.toInt = mr.toInt + 2 ∧ (r = ((x + mm) * 2)) ∧ (u.2 = zTr fb mr.toInt [11, 10]) ∧ (True)) (zB D [(mv, .inr (1, [.ref mb, .int mr, .int 0, .int mm, .int mq])), (mb, .inl (cI, 20, .inl fb))] hpz (fun (u : (Int32) × (Nat → Int32)) => [(mv, .inr (1, [.ref mb, .int u.1, .int 0, .int mm, .int mq])), (mb, .inl (cI, 20, .inl u.2))])) (va_A [(mv, .inr (1, [.ref mb, .int mr, .int 0, .int mm, .int mq])), (mb, .inl (cI, 20, .inl fb))] hpz)) 0 0 (va_A [(mv, .inr (1, [.ref mb, .int mr, .int 0, .int mm, .int mq])), (mb, .inl (cI, 20, .inl fb))] hpz) := by
  refine Met.ofW (cc := cX1_run) (maxL := 7) (ret := (some .int)) (by decide) rfl ?_
  intro p e s m args below meth c s₁ B hml hv
  obtain ⟨rfl, hsz, hP, hK, hD0, hN, hZ⟩ := hv
  have hx := B.exec
  have hb := B.bytes
  have hr := B.returns
  have hts := atoms_spec (ws := wsX1_run) B.pre
  have hown : s.vm.findClass RX1 = some m.cls := findClass_of_methodNamed B.named
  have hlocks := B.notSynchronized
  subst hsz
  have hD := hD0.self (sz := s.heap.size)
  have hA := zA_of hD
  have hl := lv_entry ([.ref mv, .int 0, .int 1, .int x, .int 0]) (n := 7) (Nat.le_of_ble_eq_true rfl)
  rw [lg_entry_eq]
  generalize (lg_sl ([.ref mv, .int 0, .int 1, .int x, .int 0]) ++ List.replicate (7 - (lg_sl ([.ref mv, .int 0, .int 1, .int x, .int 0])).length) Slot.unset).toArray = ls at hl ⊢
  replace hl : lv_has ls 7 [(0, .ref mv), (1, .int 0), (2, .int 1), (3, .int x), (4, .int 0)] := hl
  refine zw_begin hP hD (fun H locs hP1 hS => ?_)
  clear hP
  have hP := hP1
  clear hP1
  refine lv_iload_n hx hb dX1_run_0 rfl (lv_at hl 1 rfl) ?_
  refine lv_iload_n hx hb dX1_run_1 rfl (lv_at hl 2 rfl) ?_
  refine zc_S (As := [.int 0, .int 1]) (rest := []) ⟨hx, hb, hml, hown, hts⟩ (c_M_bodyFor_0_1 l D cI cJ cZ cP cS po  ) (va_cwS 2 hts gX1_run_X1_bodyFor rfl rfl rfl dh_X1_bodyFor ⟨Nat.le_of_ble_eq_true rfl, Nat.le_of_ble_eq_true rfl⟩) hK hN (hZ.kept hS) rfl hl.1 rfl (Nat.le_of_ble_eq_true rfl) dX1_run_2 ⟨Nat.le_of_ble_eq_true rfl, Nat.le_of_ble_eq_true rfl⟩ (fun r_1 hr_1 => ?_)
  obtain rfl := hr_1
  refine lv_istore (lv' := [(5, .int 11), (0, .ref mv), (1, .int 0), (2, .int 1), (3, .int x), (4, .int 0)]) hx hb dX1_run_5 hl (by decide) rfl (fun ls hl => ?_)
  refine lv_iload hx hb dX1_run_7 (lv_at hl 0 rfl) ?_
  refine lv_iconst (v := (-1)) hx hb dX1_run_9 (by decide) ?_
  refine lv_icmp_eq (tgt := 20) hx hb dX1_run_10 (by decide) (fun c_2 => ?_) (fun c_2 => ?_)
  · exact absurd c_2 (by decide)
  · refine lv_iload hx hb dX1_run_13 (lv_at hl 5 rfl) ?_
    refine lv_bipush (v := 40) hx hb dX1_run_15 (by decide) ?_
    refine lv_icmp_lt (tgt := 22) hx hb dX1_run_17 (by decide) (fun c_3 => ?_) (fun c_3 => ?_)
    · refine lv_aload_n hx hb dX1_run_22 rfl (lv_at hl 1 rfl) ?_
      refine lv_iload hx hb dX1_run_23 (lv_at hl 0 rfl) ?_
      skip
      refine zw_Vv (As := [.int 11]) (rest := []) (wr := []) ⟨hx, hb, hml, hown, hts⟩ (c_F_M_note l D cI cJ cZ cP cS po mv mb (mr) (0) (mm) (mq) fb (11) hy0 (by omega) H.size) (cwV 1 hts gX1_run_X1_note rfl rfl rfl ⟨rfl, dh_X1_note⟩ ⟨Nat.le_of_ble_eq_true rfl, Nat.le_of_ble_eq_true rfl⟩) hK hN (hZ.kept hS) hP hD hS hA [0, 1] [] rfl rfl (by decide) (by decide) (by decide) (va_recv (q := (RX1, TX1, 5)) hK hP (ci := 1) (q0 := 0) rfl rfl) rfl hl.1 rfl (Nat.le_of_ble_eq_true rfl) dX1_run_25 ⟨Nat.le_of_ble_eq_true rfl, Nat.le_of_ble_eq_true rfl⟩ (fun u_5 H locs hr_4 hP hD hS => ?_)
      obtain ⟨q_6, q_7⟩ := u_5
      try dsimp only at hr_4
      obtain ⟨hbq_6, hsr_4_0, hr_4⟩ := hr_4
      have h9R := zRe (ws' := [(mv, .inr (1, [.ref mb, .int q_6, .int 0, .int mm, .int mq])), (mb, .inl (cI, 20, .inl q_7))]) hP hD rfl
      clear hP hD
      obtain ⟨hP, hD⟩ := h9R
      refine lv_iload hx hb dX1_run_28 (lv_at hl 5 rfl) ?_
      refine lv_iconst (v := 1) hx hb dX1_run_30 (by decide) ?_
      refine lv_iadd hx hb dX1_run_31 ?_
      refine lv_topi (fun y_8 ey_8 => ?_)
      obtain rfl : y_8 = 1 := ey_8.trans (by decide)
      refine lv_istore (lv' := [(6, .int 1), (5, .int 11), (0, .ref mv), (1, .int 0), (2, .int 1), (3, .int x), (4, .int 0)]) hx hb dX1_run_32 hl (by decide) rfl (fun ls hl => ?_)
      refine lv_iload hx hb dX1_run_34 (lv_at hl 1 rfl) ?_
      refine lv_lookup (off := 99) (tgt := 135) hx hb dX1_run_36 (by decide) (by decide) (by decide) ?_
      refine lv_aload_n hx hb dX1_run_135 rfl (lv_at hl 2 rfl) ?_
      refine lv_aload_n hx hb dX1_run_136 rfl (lv_at hl 2 rfl) ?_
      refine va_get (D := D) (ci := 1) (v := .int 0) (C := RX1) (T := TX1) (N := 5) hx hb hts hi_X1_run_1 hown hK hP 0 rfl rfl 2 (by decide) (hts (.fieldLink RX1 19 "TheLiningsInIt$Moves" "kind" "I") (List.mem_of_getElem? (i := 2) rfl)) (fun _ h9 => h9) rfl dX1_run_137 ?_
      refine lv_iconst (v := 0) hx hb dX1_run_140 (by decide) ?_
      refine lv_iload_n hx hb dX1_run_141 rfl (lv_at hl 5 rfl) ?_
      refine lv_iload hx hb dX1_run_142 (lv_at hl 0 rfl) ?_
      skip
      refine zw_V (As := [.int 0, .int 0, .int x, .int 1]) (rest := []) (wr := []) ⟨hx, hb, hml, hown, hts⟩ (c_F_M_run_0_0_0_1 l D cI cJ cZ cP cS po mv mb (q_6) (mm) (mq) q_7 (x) (by omega) (by omega) H.size) (cwV 4 hts gX1_run_X1_run rfl rfl rfl ⟨rfl, dh_X1_run⟩ ⟨Nat.le_of_ble_eq_true rfl, Nat.le_of_ble_eq_true rfl⟩) hK hN (hZ.kept hS) hP hD hS hA [0, 1] [] rfl rfl (by decide) (by decide) (by decide) (va_recv (q := (RX1, TX1, 5)) hK hP (ci := 1) (q0 := 0) rfl rfl) rfl hl.1 rfl (Nat.le_of_ble_eq_true rfl) dX1_run_144 ⟨Nat.le_of_ble_eq_true rfl, Nat.le_of_ble_eq_true rfl⟩ (fun r_9 u_10 H locs hr_9 hP hD hS => ?_)
      obtain ⟨q_11, q_12⟩ := u_10
      try dsimp only at hr_9
      obtain ⟨hbq_11, hsr_9_0, hsr_9_1, hr_9⟩ := hr_9
      have h9R := zRe (ws' := [(mv, .inr (1, [.ref mb, .int q_11, .int 0, .int mm, .int mq])), (mb, .inl (cI, 20, .inl q_12))]) hP hD rfl
      clear hP hD
      obtain ⟨hP, hD⟩ := h9R
      refine lv_iconst (v := 2) hx hb dX1_run_147 (by decide) ?_
      refine lv_imul hx hb dX1_run_148 ?_
      refine lv_topi (fun x_13 ex_13 => ?_)
      exact W.iret (v := x_13) hx hb hr (fun t ht hW => ⟨⟨x_13, (q_11, q_12), rfl, ⟨(show q_11.toInt = mr.toInt + 2 from by omega), (show (x_13 : Int32) = ((x + mm) * 2) from by ((try rw [ex_13]); (try rw [hsr_9_0]); (try rw [ex_13]); first | done | rfl)), (show q_12 = zTr fb mr.toInt [11, 10] from by (rw [hsr_9_1]; rw [hsr_4_0]; rw [zTr_app (by (have q : (([11] : List Int32).length : Int) = 1 := rfl; omega))]; first | done | rfl)), trivial⟩, zRet ht hP hD [0, 1] (by decide) rfl⟩, hS.F ht⟩) hS.2.2 dX1_run_149
    · exact absurd c_3 (by decide)
set_option maxHeartbeats 4000000 in
set_option maxRecDepth 100000 in
theorem c_F_M_run_0_0_0_2 (l : Launch) (D : va_G) (cI cJ cZ cP cS : ClassId) (po : zPool) (mv mb : Nat) (mr mm mq : Int32) (fb : Nat → Int32) (x : Int32) (hy0 : 0 ≤ mr.toInt) (hy1 : mr.toInt ≤ 1200) (hpz : Nat) : Met l yX1_run wsX1_run ({ frames := 2, cells := 0, slots := 0, locals := 46 }) (va_Pc [.ref mv, .int 0, .int 0, .int x, .int 2] (zW D (zKT cI cJ cZ cP cS) po [(mv, .inr (1, [.ref mb, .int mr, .int 0, .int mm, .int mq])), (mb, .inl (cI, 20, .inl fb))] hpz)) (va_Qi (fun (r : Int32) (u : (Int32) × (Nat → Int32)) => u.1.toInt = mr.toInt + 1 ∧ (r = (x + mm)) ∧ (u.2 = zTr fb mr.toInt [10]) ∧ (True)) (zB D [(mv, .inr (1, [.ref mb, .int mr, .int 0, .int mm, .int mq])), (mb, .inl (cI, 20, .inl fb))] hpz (fun (u : (Int32) × (Nat → Int32)) => [(mv, .inr (1, [.ref mb, .int u.1, .int 0, .int mm, .int mq])), (mb, .inl (cI, 20, .inl u.2))])) (va_A [(mv, .inr (1, [.ref mb, .int mr, .int 0, .int mm, .int mq])), (mb, .inl (cI, 20, .inl fb))] hpz)) 0 0 (va_A [(mv, .inr (1, [.ref mb, .int mr, .int 0, .int mm, .int mq])), (mb, .inl (cI, 20, .inl fb))] hpz) := by
  refine Met.ofW (cc := cX1_run) (maxL := 7) (ret := (some .int)) (by decide) rfl ?_
  intro p e s m args below meth c s₁ B hml hv
  obtain ⟨rfl, hsz, hP, hK, hD0, hN, hZ⟩ := hv
  have hx := B.exec
  have hb := B.bytes
  have hr := B.returns
  have hts := atoms_spec (ws := wsX1_run) B.pre
  have hown : s.vm.findClass RX1 = some m.cls := findClass_of_methodNamed B.named
  have hlocks := B.notSynchronized
  subst hsz
  have hD := hD0.self (sz := s.heap.size)
  have hA := zA_of hD
  have hl := lv_entry ([.ref mv, .int 0, .int 0, .int x, .int 2]) (n := 7) (Nat.le_of_ble_eq_true rfl)
  rw [lg_entry_eq]
  generalize (lg_sl ([.ref mv, .int 0, .int 0, .int x, .int 2]) ++ List.replicate (7 - (lg_sl ([.ref mv, .int 0, .int 0, .int x, .int 2])).length) Slot.unset).toArray = ls at hl ⊢
  replace hl : lv_has ls 7 [(0, .ref mv), (1, .int 0), (2, .int 0), (3, .int x), (4, .int 2)] := hl
  refine zw_begin hP hD (fun H locs hP1 hS => ?_)
  clear hP
  have hP := hP1
  clear hP1
  refine lv_iload_n hx hb dX1_run_0 rfl (lv_at hl 1 rfl) ?_
  refine lv_iload_n hx hb dX1_run_1 rfl (lv_at hl 2 rfl) ?_
  refine zc_S (As := [.int 0, .int 0]) (rest := []) ⟨hx, hb, hml, hown, hts⟩ (c_M_bodyFor_0_0 l D cI cJ cZ cP cS po  ) (va_cwS 2 hts gX1_run_X1_bodyFor rfl rfl rfl dh_X1_bodyFor ⟨Nat.le_of_ble_eq_true rfl, Nat.le_of_ble_eq_true rfl⟩) hK hN (hZ.kept hS) rfl hl.1 rfl (Nat.le_of_ble_eq_true rfl) dX1_run_2 ⟨Nat.le_of_ble_eq_true rfl, Nat.le_of_ble_eq_true rfl⟩ (fun r_1 hr_1 => ?_)
  obtain rfl := hr_1
  refine lv_istore (lv' := [(5, .int 10), (0, .ref mv), (1, .int 0), (2, .int 0), (3, .int x), (4, .int 2)]) hx hb dX1_run_5 hl (by decide) rfl (fun ls hl => ?_)
  refine lv_iload hx hb dX1_run_7 (lv_at hl 0 rfl) ?_
  refine lv_iconst (v := (-1)) hx hb dX1_run_9 (by decide) ?_
  refine lv_icmp_eq (tgt := 20) hx hb dX1_run_10 (by decide) (fun c_2 => ?_) (fun c_2 => ?_)
  · exact absurd c_2 (by decide)
  · refine lv_iload hx hb dX1_run_13 (lv_at hl 5 rfl) ?_
    refine lv_bipush (v := 40) hx hb dX1_run_15 (by decide) ?_
    refine lv_icmp_lt (tgt := 22) hx hb dX1_run_17 (by decide) (fun c_3 => ?_) (fun c_3 => ?_)
    · refine lv_aload_n hx hb dX1_run_22 rfl (lv_at hl 1 rfl) ?_
      refine lv_iload hx hb dX1_run_23 (lv_at hl 0 rfl) ?_
      skip
      refine zw_Vv (As := [.int 10]) (rest := []) (wr := []) ⟨hx, hb, hml, hown, hts⟩ (c_F_M_note l D cI cJ cZ cP cS po mv mb (mr) (0) (mm) (mq) fb (10) hy0 (by omega) H.size) (cwV 1 hts gX1_run_X1_note rfl rfl rfl ⟨rfl, dh_X1_note⟩ ⟨Nat.le_of_ble_eq_true rfl, Nat.le_of_ble_eq_true rfl⟩) hK hN (hZ.kept hS) hP hD hS hA [0, 1] [] rfl rfl (by decide) (by decide) (by decide) (va_recv (q := (RX1, TX1, 5)) hK hP (ci := 1) (q0 := 0) rfl rfl) rfl hl.1 rfl (Nat.le_of_ble_eq_true rfl) dX1_run_25 ⟨Nat.le_of_ble_eq_true rfl, Nat.le_of_ble_eq_true rfl⟩ (fun u_5 H locs hr_4 hP hD hS => ?_)
      obtain ⟨q_6, q_7⟩ := u_5
      try dsimp only at hr_4
      obtain ⟨hbq_6, hsr_4_0, hr_4⟩ := hr_4
      have h9R := zRe (ws' := [(mv, .inr (1, [.ref mb, .int q_6, .int 0, .int mm, .int mq])), (mb, .inl (cI, 20, .inl q_7))]) hP hD rfl
      clear hP hD
      obtain ⟨hP, hD⟩ := h9R
      refine lv_iload hx hb dX1_run_28 (lv_at hl 5 rfl) ?_
      refine lv_iconst (v := 1) hx hb dX1_run_30 (by decide) ?_
      refine lv_iadd hx hb dX1_run_31 ?_
      refine lv_topi (fun y_8 ey_8 => ?_)
      obtain rfl : y_8 = 3 := ey_8.trans (by decide)
      refine lv_istore (lv' := [(6, .int 3), (5, .int 10), (0, .ref mv), (1, .int 0), (2, .int 0), (3, .int x), (4, .int 2)]) hx hb dX1_run_32 hl (by decide) rfl (fun ls hl => ?_)
      refine lv_iload hx hb dX1_run_34 (lv_at hl 1 rfl) ?_
      refine lv_lookup (off := 92) (tgt := 128) hx hb dX1_run_36 (by decide) (by decide) (by decide) ?_
      refine lv_iload_n hx hb dX1_run_128 rfl (lv_at hl 5 rfl) ?_
      refine lv_aload_n hx hb dX1_run_129 rfl (lv_at hl 2 rfl) ?_
      refine va_get (D := D) (ci := 1) (v := .int mm) (C := RX1) (T := TX1) (N := 5) hx hb hts hi_X1_run_1 hown hK hP 0 rfl rfl 3 (by decide) (hts (.fieldLink RX1 22 "TheLiningsInIt$Moves" "m" "I") (List.mem_of_getElem? (i := 1) rfl)) (fun _ h9 => h9) rfl dX1_run_130 ?_
      refine lv_iadd hx hb dX1_run_133 ?_
      refine lv_topi (fun x_9 ex_9 => ?_)
      exact W.iret (v := x_9) hx hb hr (fun t ht hW => ⟨⟨x_9, (q_6, q_7), rfl, ⟨(show q_6.toInt = mr.toInt + 1 from by omega), (show (x_9 : Int32) = (x + mm) from by ((try rw [ex_9]); (try rw [ex_9]); first | done | rfl)), (show q_7 = zTr fb mr.toInt [10] from by (rw [hsr_4_0]; first | done | rfl)), trivial⟩, zRet ht hP hD [0, 1] (by decide) rfl⟩, hS.F ht⟩) hS.2.2 dX1_run_134
    · exact absurd c_3 (by decide)
set_option maxHeartbeats 4000000 in
set_option maxRecDepth 100000 in
theorem c_F_M_run_0_0_1_1 (l : Launch) (D : va_G) (cI cJ cZ cP cS : ClassId) (po : zPool) (mv mb : Nat) (mr mm mq : Int32) (fb : Nat → Int32) (x : Int32) (hy0 : 0 ≤ mr.toInt) (hy1 : mr.toInt ≤ 1100) (hpz : Nat) : Met l yX1_run wsX1_run ({ frames := 3, cells := 0, slots := 0, locals := 72 }) (va_Pc [.ref mv, .int 0, .int 1, .int x, .int 1] (zW D (zKT cI cJ cZ cP cS) po [(mv, .inr (1, [.ref mb, .int mr, .int 0, .int mm, .int mq])), (mb, .inl (cI, 20, .inl fb))] hpz)) (va_Qi (fun (r : Int32) (u : (Int32) × (Nat → Int32)) => u.1.toInt = mr.toInt + 2 ∧ (r = ((x + mm) * 2)) ∧ (u.2 = zTr fb mr.toInt [11, 10]) ∧ (True)) (zB D [(mv, .inr (1, [.ref mb, .int mr, .int 0, .int mm, .int mq])), (mb, .inl (cI, 20, .inl fb))] hpz (fun (u : (Int32) × (Nat → Int32)) => [(mv, .inr (1, [.ref mb, .int u.1, .int 0, .int mm, .int mq])), (mb, .inl (cI, 20, .inl u.2))])) (va_A [(mv, .inr (1, [.ref mb, .int mr, .int 0, .int mm, .int mq])), (mb, .inl (cI, 20, .inl fb))] hpz)) 0 0 (va_A [(mv, .inr (1, [.ref mb, .int mr, .int 0, .int mm, .int mq])), (mb, .inl (cI, 20, .inl fb))] hpz) := by
  refine Met.ofW (cc := cX1_run) (maxL := 7) (ret := (some .int)) (by decide) rfl ?_
  intro p e s m args below meth c s₁ B hml hv
  obtain ⟨rfl, hsz, hP, hK, hD0, hN, hZ⟩ := hv
  have hx := B.exec
  have hb := B.bytes
  have hr := B.returns
  have hts := atoms_spec (ws := wsX1_run) B.pre
  have hown : s.vm.findClass RX1 = some m.cls := findClass_of_methodNamed B.named
  have hlocks := B.notSynchronized
  subst hsz
  have hD := hD0.self (sz := s.heap.size)
  have hA := zA_of hD
  have hl := lv_entry ([.ref mv, .int 0, .int 1, .int x, .int 1]) (n := 7) (Nat.le_of_ble_eq_true rfl)
  rw [lg_entry_eq]
  generalize (lg_sl ([.ref mv, .int 0, .int 1, .int x, .int 1]) ++ List.replicate (7 - (lg_sl ([.ref mv, .int 0, .int 1, .int x, .int 1])).length) Slot.unset).toArray = ls at hl ⊢
  replace hl : lv_has ls 7 [(0, .ref mv), (1, .int 0), (2, .int 1), (3, .int x), (4, .int 1)] := hl
  refine zw_begin hP hD (fun H locs hP1 hS => ?_)
  clear hP
  have hP := hP1
  clear hP1
  refine lv_iload_n hx hb dX1_run_0 rfl (lv_at hl 1 rfl) ?_
  refine lv_iload_n hx hb dX1_run_1 rfl (lv_at hl 2 rfl) ?_
  refine zc_S (As := [.int 0, .int 1]) (rest := []) ⟨hx, hb, hml, hown, hts⟩ (c_M_bodyFor_0_1 l D cI cJ cZ cP cS po  ) (va_cwS 2 hts gX1_run_X1_bodyFor rfl rfl rfl dh_X1_bodyFor ⟨Nat.le_of_ble_eq_true rfl, Nat.le_of_ble_eq_true rfl⟩) hK hN (hZ.kept hS) rfl hl.1 rfl (Nat.le_of_ble_eq_true rfl) dX1_run_2 ⟨Nat.le_of_ble_eq_true rfl, Nat.le_of_ble_eq_true rfl⟩ (fun r_1 hr_1 => ?_)
  obtain rfl := hr_1
  refine lv_istore (lv' := [(5, .int 11), (0, .ref mv), (1, .int 0), (2, .int 1), (3, .int x), (4, .int 1)]) hx hb dX1_run_5 hl (by decide) rfl (fun ls hl => ?_)
  refine lv_iload hx hb dX1_run_7 (lv_at hl 0 rfl) ?_
  refine lv_iconst (v := (-1)) hx hb dX1_run_9 (by decide) ?_
  refine lv_icmp_eq (tgt := 20) hx hb dX1_run_10 (by decide) (fun c_2 => ?_) (fun c_2 => ?_)
  · exact absurd c_2 (by decide)
  · refine lv_iload hx hb dX1_run_13 (lv_at hl 5 rfl) ?_
    refine lv_bipush (v := 40) hx hb dX1_run_15 (by decide) ?_
    refine lv_icmp_lt (tgt := 22) hx hb dX1_run_17 (by decide) (fun c_3 => ?_) (fun c_3 => ?_)
    · refine lv_aload_n hx hb dX1_run_22 rfl (lv_at hl 1 rfl) ?_
      refine lv_iload hx hb dX1_run_23 (lv_at hl 0 rfl) ?_
      skip
      refine zw_Vv (As := [.int 11]) (rest := []) (wr := []) ⟨hx, hb, hml, hown, hts⟩ (c_F_M_note l D cI cJ cZ cP cS po mv mb (mr) (0) (mm) (mq) fb (11) hy0 (by omega) H.size) (cwV 1 hts gX1_run_X1_note rfl rfl rfl ⟨rfl, dh_X1_note⟩ ⟨Nat.le_of_ble_eq_true rfl, Nat.le_of_ble_eq_true rfl⟩) hK hN (hZ.kept hS) hP hD hS hA [0, 1] [] rfl rfl (by decide) (by decide) (by decide) (va_recv (q := (RX1, TX1, 5)) hK hP (ci := 1) (q0 := 0) rfl rfl) rfl hl.1 rfl (Nat.le_of_ble_eq_true rfl) dX1_run_25 ⟨Nat.le_of_ble_eq_true rfl, Nat.le_of_ble_eq_true rfl⟩ (fun u_5 H locs hr_4 hP hD hS => ?_)
      obtain ⟨q_6, q_7⟩ := u_5
      try dsimp only at hr_4
      obtain ⟨hbq_6, hsr_4_0, hr_4⟩ := hr_4
      have h9R := zRe (ws' := [(mv, .inr (1, [.ref mb, .int q_6, .int 0, .int mm, .int mq])), (mb, .inl (cI, 20, .inl q_7))]) hP hD rfl
      clear hP hD
      obtain ⟨hP, hD⟩ := h9R
      refine lv_iload hx hb dX1_run_28 (lv_at hl 5 rfl) ?_
      refine lv_iconst (v := 1) hx hb dX1_run_30 (by decide) ?_
      refine lv_iadd hx hb dX1_run_31 ?_
      refine lv_topi (fun y_8 ey_8 => ?_)
      obtain rfl : y_8 = 2 := ey_8.trans (by decide)
      refine lv_istore (lv' := [(6, .int 2), (5, .int 11), (0, .ref mv), (1, .int 0), (2, .int 1), (3, .int x), (4, .int 1)]) hx hb dX1_run_32 hl (by decide) rfl (fun ls hl => ?_)
      refine lv_iload hx hb dX1_run_34 (lv_at hl 1 rfl) ?_
      refine lv_lookup (off := 99) (tgt := 135) hx hb dX1_run_36 (by decide) (by decide) (by decide) ?_
      refine lv_aload_n hx hb dX1_run_135 rfl (lv_at hl 2 rfl) ?_
      refine lv_aload_n hx hb dX1_run_136 rfl (lv_at hl 2 rfl) ?_
      refine va_get (D := D) (ci := 1) (v := .int 0) (C := RX1) (T := TX1) (N := 5) hx hb hts hi_X1_run_1 hown hK hP 0 rfl rfl 2 (by decide) (hts (.fieldLink RX1 19 "TheLiningsInIt$Moves" "kind" "I") (List.mem_of_getElem? (i := 2) rfl)) (fun _ h9 => h9) rfl dX1_run_137 ?_
      refine lv_iconst (v := 0) hx hb dX1_run_140 (by decide) ?_
      refine lv_iload_n hx hb dX1_run_141 rfl (lv_at hl 5 rfl) ?_
      refine lv_iload hx hb dX1_run_142 (lv_at hl 0 rfl) ?_
      skip
      refine zw_V (As := [.int 0, .int 0, .int x, .int 2]) (rest := []) (wr := []) ⟨hx, hb, hml, hown, hts⟩ (c_F_M_run_0_0_0_2 l D cI cJ cZ cP cS po mv mb (q_6) (mm) (mq) q_7 (x) (by omega) (by omega) H.size) (cwV 4 hts gX1_run_X1_run rfl rfl rfl ⟨rfl, dh_X1_run⟩ ⟨Nat.le_of_ble_eq_true rfl, Nat.le_of_ble_eq_true rfl⟩) hK hN (hZ.kept hS) hP hD hS hA [0, 1] [] rfl rfl (by decide) (by decide) (by decide) (va_recv (q := (RX1, TX1, 5)) hK hP (ci := 1) (q0 := 0) rfl rfl) rfl hl.1 rfl (Nat.le_of_ble_eq_true rfl) dX1_run_144 ⟨Nat.le_of_ble_eq_true rfl, Nat.le_of_ble_eq_true rfl⟩ (fun r_9 u_10 H locs hr_9 hP hD hS => ?_)
      obtain ⟨q_11, q_12⟩ := u_10
      try dsimp only at hr_9
      obtain ⟨hbq_11, hsr_9_0, hsr_9_1, hr_9⟩ := hr_9
      have h9R := zRe (ws' := [(mv, .inr (1, [.ref mb, .int q_11, .int 0, .int mm, .int mq])), (mb, .inl (cI, 20, .inl q_12))]) hP hD rfl
      clear hP hD
      obtain ⟨hP, hD⟩ := h9R
      refine lv_iconst (v := 2) hx hb dX1_run_147 (by decide) ?_
      refine lv_imul hx hb dX1_run_148 ?_
      refine lv_topi (fun x_13 ex_13 => ?_)
      exact W.iret (v := x_13) hx hb hr (fun t ht hW => ⟨⟨x_13, (q_11, q_12), rfl, ⟨(show q_11.toInt = mr.toInt + 2 from by omega), (show (x_13 : Int32) = ((x + mm) * 2) from by ((try rw [ex_13]); (try rw [hsr_9_0]); (try rw [ex_13]); first | done | rfl)), (show q_12 = zTr fb mr.toInt [11, 10] from by (rw [hsr_9_1]; rw [hsr_4_0]; rw [zTr_app (by (have q : (([11] : List Int32).length : Int) = 1 := rfl; omega))]; first | done | rfl)), trivial⟩, zRet ht hP hD [0, 1] (by decide) rfl⟩, hS.F ht⟩) hS.2.2 dX1_run_149
    · exact absurd c_3 (by decide)
set_option maxHeartbeats 4000000 in
set_option maxRecDepth 100000 in
theorem c_F_M_run_0_0_2_0 (l : Launch) (D : va_G) (cI cJ cZ cP cS : ClassId) (po : zPool) (mv mb : Nat) (mr mm mq : Int32) (fb : Nat → Int32) (x : Int32) (hy0 : 0 ≤ mr.toInt) (hy1 : mr.toInt ≤ 1000) (hpz : Nat) : Met l yX1_run wsX1_run ({ frames := 4, cells := 0, slots := 0, locals := 98 }) (va_Pc [.ref mv, .int 0, .int 2, .int x, .int 0] (zW D (zKT cI cJ cZ cP cS) po [(mv, .inr (1, [.ref mb, .int mr, .int 0, .int mm, .int mq])), (mb, .inl (cI, 20, .inl fb))] hpz)) (va_Qi (fun (r : Int32) (u : (Int32) × (Nat → Int32)) => u.1.toInt = mr.toInt + 4 ∧ (r = (((x + mm) * 2) ^^^ ((x - mq) + mm))) ∧ (u.2 = zTr fb mr.toInt [12, 11, 10, 10]) ∧ (True)) (zB D [(mv, .inr (1, [.ref mb, .int mr, .int 0, .int mm, .int mq])), (mb, .inl (cI, 20, .inl fb))] hpz (fun (u : (Int32) × (Nat → Int32)) => [(mv, .inr (1, [.ref mb, .int u.1, .int 0, .int mm, .int mq])), (mb, .inl (cI, 20, .inl u.2))])) (va_A [(mv, .inr (1, [.ref mb, .int mr, .int 0, .int mm, .int mq])), (mb, .inl (cI, 20, .inl fb))] hpz)) 0 0 (va_A [(mv, .inr (1, [.ref mb, .int mr, .int 0, .int mm, .int mq])), (mb, .inl (cI, 20, .inl fb))] hpz) := by
  refine Met.ofW (cc := cX1_run) (maxL := 7) (ret := (some .int)) (by decide) rfl ?_
  intro p e s m args below meth c s₁ B hml hv
  obtain ⟨rfl, hsz, hP, hK, hD0, hN, hZ⟩ := hv
  have hx := B.exec
  have hb := B.bytes
  have hr := B.returns
  have hts := atoms_spec (ws := wsX1_run) B.pre
  have hown : s.vm.findClass RX1 = some m.cls := findClass_of_methodNamed B.named
  have hlocks := B.notSynchronized
  subst hsz
  have hD := hD0.self (sz := s.heap.size)
  have hA := zA_of hD
  have hl := lv_entry ([.ref mv, .int 0, .int 2, .int x, .int 0]) (n := 7) (Nat.le_of_ble_eq_true rfl)
  rw [lg_entry_eq]
  generalize (lg_sl ([.ref mv, .int 0, .int 2, .int x, .int 0]) ++ List.replicate (7 - (lg_sl ([.ref mv, .int 0, .int 2, .int x, .int 0])).length) Slot.unset).toArray = ls at hl ⊢
  replace hl : lv_has ls 7 [(0, .ref mv), (1, .int 0), (2, .int 2), (3, .int x), (4, .int 0)] := hl
  refine zw_begin hP hD (fun H locs hP1 hS => ?_)
  clear hP
  have hP := hP1
  clear hP1
  refine lv_iload_n hx hb dX1_run_0 rfl (lv_at hl 1 rfl) ?_
  refine lv_iload_n hx hb dX1_run_1 rfl (lv_at hl 2 rfl) ?_
  refine zc_S (As := [.int 0, .int 2]) (rest := []) ⟨hx, hb, hml, hown, hts⟩ (c_M_bodyFor_0_2 l D cI cJ cZ cP cS po  ) (va_cwS 2 hts gX1_run_X1_bodyFor rfl rfl rfl dh_X1_bodyFor ⟨Nat.le_of_ble_eq_true rfl, Nat.le_of_ble_eq_true rfl⟩) hK hN (hZ.kept hS) rfl hl.1 rfl (Nat.le_of_ble_eq_true rfl) dX1_run_2 ⟨Nat.le_of_ble_eq_true rfl, Nat.le_of_ble_eq_true rfl⟩ (fun r_1 hr_1 => ?_)
  obtain rfl := hr_1
  refine lv_istore (lv' := [(5, .int 12), (0, .ref mv), (1, .int 0), (2, .int 2), (3, .int x), (4, .int 0)]) hx hb dX1_run_5 hl (by decide) rfl (fun ls hl => ?_)
  refine lv_iload hx hb dX1_run_7 (lv_at hl 0 rfl) ?_
  refine lv_iconst (v := (-1)) hx hb dX1_run_9 (by decide) ?_
  refine lv_icmp_eq (tgt := 20) hx hb dX1_run_10 (by decide) (fun c_2 => ?_) (fun c_2 => ?_)
  · exact absurd c_2 (by decide)
  · refine lv_iload hx hb dX1_run_13 (lv_at hl 5 rfl) ?_
    refine lv_bipush (v := 40) hx hb dX1_run_15 (by decide) ?_
    refine lv_icmp_lt (tgt := 22) hx hb dX1_run_17 (by decide) (fun c_3 => ?_) (fun c_3 => ?_)
    · refine lv_aload_n hx hb dX1_run_22 rfl (lv_at hl 1 rfl) ?_
      refine lv_iload hx hb dX1_run_23 (lv_at hl 0 rfl) ?_
      skip
      refine zw_Vv (As := [.int 12]) (rest := []) (wr := []) ⟨hx, hb, hml, hown, hts⟩ (c_F_M_note l D cI cJ cZ cP cS po mv mb (mr) (0) (mm) (mq) fb (12) hy0 (by omega) H.size) (cwV 1 hts gX1_run_X1_note rfl rfl rfl ⟨rfl, dh_X1_note⟩ ⟨Nat.le_of_ble_eq_true rfl, Nat.le_of_ble_eq_true rfl⟩) hK hN (hZ.kept hS) hP hD hS hA [0, 1] [] rfl rfl (by decide) (by decide) (by decide) (va_recv (q := (RX1, TX1, 5)) hK hP (ci := 1) (q0 := 0) rfl rfl) rfl hl.1 rfl (Nat.le_of_ble_eq_true rfl) dX1_run_25 ⟨Nat.le_of_ble_eq_true rfl, Nat.le_of_ble_eq_true rfl⟩ (fun u_5 H locs hr_4 hP hD hS => ?_)
      obtain ⟨q_6, q_7⟩ := u_5
      try dsimp only at hr_4
      obtain ⟨hbq_6, hsr_4_0, hr_4⟩ := hr_4
      have h9R := zRe (ws' := [(mv, .inr (1, [.ref mb, .int q_6, .int 0, .int mm, .int mq])), (mb, .inl (cI, 20, .inl q_7))]) hP hD rfl
      clear hP hD
      obtain ⟨hP, hD⟩ := h9R
      refine lv_iload hx hb dX1_run_28 (lv_at hl 5 rfl) ?_
      refine lv_iconst (v := 1) hx hb dX1_run_30 (by decide) ?_
      refine lv_iadd hx hb dX1_run_31 ?_
      refine lv_topi (fun y_8 ey_8 => ?_)
      obtain rfl : y_8 = 1 := ey_8.trans (by decide)
      refine lv_istore (lv' := [(6, .int 1), (5, .int 12), (0, .ref mv), (1, .int 0), (2, .int 2), (3, .int x), (4, .int 0)]) hx hb dX1_run_32 hl (by decide) rfl (fun ls hl => ?_)
      refine lv_iload hx hb dX1_run_34 (lv_at hl 1 rfl) ?_
      refine lv_lookup (off := 114) (tgt := 150) hx hb dX1_run_36 (by decide) (by decide) (by decide) ?_
      refine lv_aload_n hx hb dX1_run_150 rfl (lv_at hl 2 rfl) ?_
      refine lv_aload_n hx hb dX1_run_151 rfl (lv_at hl 2 rfl) ?_
      refine va_get (D := D) (ci := 1) (v := .int 0) (C := RX1) (T := TX1) (N := 5) hx hb hts hi_X1_run_1 hown hK hP 0 rfl rfl 2 (by decide) (hts (.fieldLink RX1 19 "TheLiningsInIt$Moves" "kind" "I") (List.mem_of_getElem? (i := 2) rfl)) (fun _ h9 => h9) rfl dX1_run_152 ?_
      refine lv_iconst (v := 1) hx hb dX1_run_155 (by decide) ?_
      refine lv_iload_n hx hb dX1_run_156 rfl (lv_at hl 5 rfl) ?_
      refine lv_iload hx hb dX1_run_157 (lv_at hl 0 rfl) ?_
      skip
      refine zw_V (As := [.int 0, .int 1, .int x, .int 1]) (rest := []) (wr := []) ⟨hx, hb, hml, hown, hts⟩ (c_F_M_run_0_0_1_1 l D cI cJ cZ cP cS po mv mb (q_6) (mm) (mq) q_7 (x) (by omega) (by omega) H.size) (cwV 4 hts gX1_run_X1_run rfl rfl rfl ⟨rfl, dh_X1_run⟩ ⟨Nat.le_of_ble_eq_true rfl, Nat.le_of_ble_eq_true rfl⟩) hK hN (hZ.kept hS) hP hD hS hA [0, 1] [] rfl rfl (by decide) (by decide) (by decide) (va_recv (q := (RX1, TX1, 5)) hK hP (ci := 1) (q0 := 0) rfl rfl) rfl hl.1 rfl (Nat.le_of_ble_eq_true rfl) dX1_run_159 ⟨Nat.le_of_ble_eq_true rfl, Nat.le_of_ble_eq_true rfl⟩ (fun r_9 u_10 H locs hr_9 hP hD hS => ?_)
      obtain ⟨q_11, q_12⟩ := u_10
      try dsimp only at hr_9
      obtain ⟨hbq_11, hsr_9_0, hsr_9_1, hr_9⟩ := hr_9
      have h9R := zRe (ws' := [(mv, .inr (1, [.ref mb, .int q_11, .int 0, .int mm, .int mq])), (mb, .inl (cI, 20, .inl q_12))]) hP hD rfl
      clear hP hD
      obtain ⟨hP, hD⟩ := h9R
      refine lv_aload_n hx hb dX1_run_162 rfl (lv_at hl 2 rfl) ?_
      refine lv_aload_n hx hb dX1_run_163 rfl (lv_at hl 2 rfl) ?_
      refine va_get (D := D) (ci := 1) (v := .int 0) (C := RX1) (T := TX1) (N := 5) hx hb hts hi_X1_run_1 hown hK hP 0 rfl rfl 2 (by decide) (hts (.fieldLink RX1 19 "TheLiningsInIt$Moves" "kind" "I") (List.mem_of_getElem? (i := 2) rfl)) (fun _ h9 => h9) rfl dX1_run_164 ?_
      refine lv_iconst (v := 0) hx hb dX1_run_167 (by decide) ?_
      refine lv_iload_n hx hb dX1_run_168 rfl (lv_at hl 5 rfl) ?_
      refine lv_aload_n hx hb dX1_run_169 rfl (lv_at hl 2 rfl) ?_
      refine va_get (D := D) (ci := 1) (v := .int mq) (C := RX1) (T := TX1) (N := 5) hx hb hts hi_X1_run_1 hown hK hP 0 rfl rfl 4 (by decide) (hts (.fieldLink RX1 25 "TheLiningsInIt$Moves" "k" "I") (List.mem_of_getElem? (i := 3) rfl)) (fun _ h9 => h9) rfl dX1_run_170 ?_
      refine lv_isub hx hb dX1_run_173 ?_
      refine lv_topi (fun x_13 ex_13 => ?_)
      refine lv_iload hx hb dX1_run_174 (lv_at hl 0 rfl) ?_
      skip
      refine zw_V (As := [.int 0, .int 0, .int x_13, .int 1]) (rest := [.int r_9]) (wr := []) ⟨hx, hb, hml, hown, hts⟩ (c_F_M_run_0_0_0_1 l D cI cJ cZ cP cS po mv mb (q_11) (mm) (mq) q_12 (x_13) (by omega) (by omega) H.size) (cwV 4 hts gX1_run_X1_run rfl rfl rfl ⟨rfl, dh_X1_run⟩ ⟨Nat.le_of_ble_eq_true rfl, Nat.le_of_ble_eq_true rfl⟩) hK hN (hZ.kept hS) hP hD hS hA [0, 1] [] rfl rfl (by decide) (by decide) (by decide) (va_recv (q := (RX1, TX1, 5)) hK hP (ci := 1) (q0 := 0) rfl rfl) rfl hl.1 rfl (Nat.le_of_ble_eq_true rfl) dX1_run_176 ⟨Nat.le_of_ble_eq_true rfl, Nat.le_of_ble_eq_true rfl⟩ (fun r_14 u_15 H locs hr_14 hP hD hS => ?_)
      obtain ⟨q_16, q_17⟩ := u_15
      try dsimp only at hr_14
      obtain ⟨hbq_16, hsr_14_0, hsr_14_1, hr_14⟩ := hr_14
      have h9R := zRe (ws' := [(mv, .inr (1, [.ref mb, .int q_16, .int 0, .int mm, .int mq])), (mb, .inl (cI, 20, .inl q_17))]) hP hD rfl
      clear hP hD
      obtain ⟨hP, hD⟩ := h9R
      refine lv_ixor hx hb dX1_run_179 ?_
      refine lv_topi (fun x_18 ex_18 => ?_)
      exact W.iret (v := x_18) hx hb hr (fun t ht hW => ⟨⟨x_18, (q_16, q_17), rfl, ⟨(show q_16.toInt = mr.toInt + 4 from by omega), (show (x_18 : Int32) = (((x + mm) * 2) ^^^ ((x - mq) + mm)) from by ((try rw [ex_18]); (try rw [ex_13]); (try rw [hsr_9_0]); (try rw [hsr_14_0]); (try rw [ex_18]); (try rw [ex_13]); first | done | rfl)), (show q_17 = zTr fb mr.toInt [12, 11, 10, 10] from by (rw [hsr_14_1]; rw [hsr_9_1]; rw [hsr_4_0]; rw [zTr_app (by (have q : (([11, 10] : List Int32).length : Int) = 2 := rfl; omega))]; rw [zTr_app (by (have q : (([12] : List Int32).length : Int) = 1 := rfl; omega))]; first | done | rfl)), trivial⟩, zRet ht hP hD [0, 1] (by decide) rfl⟩, hS.F ht⟩) hS.2.2 dX1_run_180
    · exact absurd c_3 (by decide)
set_option maxHeartbeats 4000000 in
set_option maxRecDepth 100000 in
theorem c_F_M_run_1_0_0_1 (l : Launch) (D : va_G) (cI cJ cZ cP cS : ClassId) (po : zPool) (mv mb : Nat) (mr mm mq : Int32) (fb : Nat → Int32) (x : Int32) (hy0 : 0 ≤ mr.toInt) (hy1 : mr.toInt ≤ 1100) (hpz : Nat) : Met l yX1_run wsX1_run ({ frames := 2, cells := 0, slots := 0, locals := 46 }) (va_Pc [.ref mv, .int 0, .int 0, .int x, .int 1] (zW D (zKT cI cJ cZ cP cS) po [(mv, .inr (1, [.ref mb, .int mr, .int 1, .int mm, .int mq])), (mb, .inl (cI, 20, .inl fb))] hpz)) (va_Qi (fun (r : Int32) (u : (Int32) × (Nat → Int32)) => u.1.toInt = mr.toInt + 1 ∧ (r = (x + mm)) ∧ (u.2 = zTr fb mr.toInt [10]) ∧ (True)) (zB D [(mv, .inr (1, [.ref mb, .int mr, .int 1, .int mm, .int mq])), (mb, .inl (cI, 20, .inl fb))] hpz (fun (u : (Int32) × (Nat → Int32)) => [(mv, .inr (1, [.ref mb, .int u.1, .int 1, .int mm, .int mq])), (mb, .inl (cI, 20, .inl u.2))])) (va_A [(mv, .inr (1, [.ref mb, .int mr, .int 1, .int mm, .int mq])), (mb, .inl (cI, 20, .inl fb))] hpz)) 0 0 (va_A [(mv, .inr (1, [.ref mb, .int mr, .int 1, .int mm, .int mq])), (mb, .inl (cI, 20, .inl fb))] hpz) := by
  refine Met.ofW (cc := cX1_run) (maxL := 7) (ret := (some .int)) (by decide) rfl ?_
  intro p e s m args below meth c s₁ B hml hv
  obtain ⟨rfl, hsz, hP, hK, hD0, hN, hZ⟩ := hv
  have hx := B.exec
  have hb := B.bytes
  have hr := B.returns
  have hts := atoms_spec (ws := wsX1_run) B.pre
  have hown : s.vm.findClass RX1 = some m.cls := findClass_of_methodNamed B.named
  have hlocks := B.notSynchronized
  subst hsz
  have hD := hD0.self (sz := s.heap.size)
  have hA := zA_of hD
  have hl := lv_entry ([.ref mv, .int 0, .int 0, .int x, .int 1]) (n := 7) (Nat.le_of_ble_eq_true rfl)
  rw [lg_entry_eq]
  generalize (lg_sl ([.ref mv, .int 0, .int 0, .int x, .int 1]) ++ List.replicate (7 - (lg_sl ([.ref mv, .int 0, .int 0, .int x, .int 1])).length) Slot.unset).toArray = ls at hl ⊢
  replace hl : lv_has ls 7 [(0, .ref mv), (1, .int 0), (2, .int 0), (3, .int x), (4, .int 1)] := hl
  refine zw_begin hP hD (fun H locs hP1 hS => ?_)
  clear hP
  have hP := hP1
  clear hP1
  refine lv_iload_n hx hb dX1_run_0 rfl (lv_at hl 1 rfl) ?_
  refine lv_iload_n hx hb dX1_run_1 rfl (lv_at hl 2 rfl) ?_
  refine zc_S (As := [.int 0, .int 0]) (rest := []) ⟨hx, hb, hml, hown, hts⟩ (c_M_bodyFor_0_0 l D cI cJ cZ cP cS po  ) (va_cwS 2 hts gX1_run_X1_bodyFor rfl rfl rfl dh_X1_bodyFor ⟨Nat.le_of_ble_eq_true rfl, Nat.le_of_ble_eq_true rfl⟩) hK hN (hZ.kept hS) rfl hl.1 rfl (Nat.le_of_ble_eq_true rfl) dX1_run_2 ⟨Nat.le_of_ble_eq_true rfl, Nat.le_of_ble_eq_true rfl⟩ (fun r_1 hr_1 => ?_)
  obtain rfl := hr_1
  refine lv_istore (lv' := [(5, .int 10), (0, .ref mv), (1, .int 0), (2, .int 0), (3, .int x), (4, .int 1)]) hx hb dX1_run_5 hl (by decide) rfl (fun ls hl => ?_)
  refine lv_iload hx hb dX1_run_7 (lv_at hl 0 rfl) ?_
  refine lv_iconst (v := (-1)) hx hb dX1_run_9 (by decide) ?_
  refine lv_icmp_eq (tgt := 20) hx hb dX1_run_10 (by decide) (fun c_2 => ?_) (fun c_2 => ?_)
  · exact absurd c_2 (by decide)
  · refine lv_iload hx hb dX1_run_13 (lv_at hl 5 rfl) ?_
    refine lv_bipush (v := 40) hx hb dX1_run_15 (by decide) ?_
    refine lv_icmp_lt (tgt := 22) hx hb dX1_run_17 (by decide) (fun c_3 => ?_) (fun c_3 => ?_)
    · refine lv_aload_n hx hb dX1_run_22 rfl (lv_at hl 1 rfl) ?_
      refine lv_iload hx hb dX1_run_23 (lv_at hl 0 rfl) ?_
      skip
      refine zw_Vv (As := [.int 10]) (rest := []) (wr := []) ⟨hx, hb, hml, hown, hts⟩ (c_F_M_note l D cI cJ cZ cP cS po mv mb (mr) (1) (mm) (mq) fb (10) hy0 (by omega) H.size) (cwV 1 hts gX1_run_X1_note rfl rfl rfl ⟨rfl, dh_X1_note⟩ ⟨Nat.le_of_ble_eq_true rfl, Nat.le_of_ble_eq_true rfl⟩) hK hN (hZ.kept hS) hP hD hS hA [0, 1] [] rfl rfl (by decide) (by decide) (by decide) (va_recv (q := (RX1, TX1, 5)) hK hP (ci := 1) (q0 := 0) rfl rfl) rfl hl.1 rfl (Nat.le_of_ble_eq_true rfl) dX1_run_25 ⟨Nat.le_of_ble_eq_true rfl, Nat.le_of_ble_eq_true rfl⟩ (fun u_5 H locs hr_4 hP hD hS => ?_)
      obtain ⟨q_6, q_7⟩ := u_5
      try dsimp only at hr_4
      obtain ⟨hbq_6, hsr_4_0, hr_4⟩ := hr_4
      have h9R := zRe (ws' := [(mv, .inr (1, [.ref mb, .int q_6, .int 1, .int mm, .int mq])), (mb, .inl (cI, 20, .inl q_7))]) hP hD rfl
      clear hP hD
      obtain ⟨hP, hD⟩ := h9R
      refine lv_iload hx hb dX1_run_28 (lv_at hl 5 rfl) ?_
      refine lv_iconst (v := 1) hx hb dX1_run_30 (by decide) ?_
      refine lv_iadd hx hb dX1_run_31 ?_
      refine lv_topi (fun y_8 ey_8 => ?_)
      obtain rfl : y_8 = 2 := ey_8.trans (by decide)
      refine lv_istore (lv' := [(6, .int 2), (5, .int 10), (0, .ref mv), (1, .int 0), (2, .int 0), (3, .int x), (4, .int 1)]) hx hb dX1_run_32 hl (by decide) rfl (fun ls hl => ?_)
      refine lv_iload hx hb dX1_run_34 (lv_at hl 1 rfl) ?_
      refine lv_lookup (off := 92) (tgt := 128) hx hb dX1_run_36 (by decide) (by decide) (by decide) ?_
      refine lv_iload_n hx hb dX1_run_128 rfl (lv_at hl 5 rfl) ?_
      refine lv_aload_n hx hb dX1_run_129 rfl (lv_at hl 2 rfl) ?_
      refine va_get (D := D) (ci := 1) (v := .int mm) (C := RX1) (T := TX1) (N := 5) hx hb hts hi_X1_run_1 hown hK hP 0 rfl rfl 3 (by decide) (hts (.fieldLink RX1 22 "TheLiningsInIt$Moves" "m" "I") (List.mem_of_getElem? (i := 1) rfl)) (fun _ h9 => h9) rfl dX1_run_130 ?_
      refine lv_iadd hx hb dX1_run_133 ?_
      refine lv_topi (fun x_9 ex_9 => ?_)
      exact W.iret (v := x_9) hx hb hr (fun t ht hW => ⟨⟨x_9, (q_6, q_7), rfl, ⟨(show q_6.toInt = mr.toInt + 1 from by omega), (show (x_9 : Int32) = (x + mm) from by ((try rw [ex_9]); (try rw [ex_9]); first | done | rfl)), (show q_7 = zTr fb mr.toInt [10] from by (rw [hsr_4_0]; first | done | rfl)), trivial⟩, zRet ht hP hD [0, 1] (by decide) rfl⟩, hS.F ht⟩) hS.2.2 dX1_run_134
    · exact absurd c_3 (by decide)
set_option maxHeartbeats 4000000 in
set_option maxRecDepth 100000 in
theorem c_F_M_run_1_1_0_0 (l : Launch) (D : va_G) (cI cJ cZ cP cS : ClassId) (po : zPool) (mv mb : Nat) (mr mm mq : Int32) (fb : Nat → Int32) (x : Int32) (hy0 : 0 ≤ mr.toInt) (hy1 : mr.toInt ≤ 1000) (hpz : Nat) : Met l yX1_run wsX1_run ({ frames := 3, cells := 0, slots := 0, locals := 72 }) (va_Pc [.ref mv, .int 1, .int 0, .int x, .int 0] (zW D (zKT cI cJ cZ cP cS) po [(mv, .inr (1, [.ref mb, .int mr, .int 1, .int mm, .int mq])), (mb, .inl (cI, 20, .inl fb))] hpz)) (va_Qi (fun (r : Int32) (u : (Int32) × (Nat → Int32)) => u.1.toInt = mr.toInt + 2 ∧ (r = ((x + mm) + mq)) ∧ (u.2 = zTr fb mr.toInt [20, 10]) ∧ (True)) (zB D [(mv, .inr (1, [.ref mb, .int mr, .int 1, .int mm, .int mq])), (mb, .inl (cI, 20, .inl fb))] hpz (fun (u : (Int32) × (Nat → Int32)) => [(mv, .inr (1, [.ref mb, .int u.1, .int 1, .int mm, .int mq])), (mb, .inl (cI, 20, .inl u.2))])) (va_A [(mv, .inr (1, [.ref mb, .int mr, .int 1, .int mm, .int mq])), (mb, .inl (cI, 20, .inl fb))] hpz)) 0 0 (va_A [(mv, .inr (1, [.ref mb, .int mr, .int 1, .int mm, .int mq])), (mb, .inl (cI, 20, .inl fb))] hpz) := by
  refine Met.ofW (cc := cX1_run) (maxL := 7) (ret := (some .int)) (by decide) rfl ?_
  intro p e s m args below meth c s₁ B hml hv
  obtain ⟨rfl, hsz, hP, hK, hD0, hN, hZ⟩ := hv
  have hx := B.exec
  have hb := B.bytes
  have hr := B.returns
  have hts := atoms_spec (ws := wsX1_run) B.pre
  have hown : s.vm.findClass RX1 = some m.cls := findClass_of_methodNamed B.named
  have hlocks := B.notSynchronized
  subst hsz
  have hD := hD0.self (sz := s.heap.size)
  have hA := zA_of hD
  have hl := lv_entry ([.ref mv, .int 1, .int 0, .int x, .int 0]) (n := 7) (Nat.le_of_ble_eq_true rfl)
  rw [lg_entry_eq]
  generalize (lg_sl ([.ref mv, .int 1, .int 0, .int x, .int 0]) ++ List.replicate (7 - (lg_sl ([.ref mv, .int 1, .int 0, .int x, .int 0])).length) Slot.unset).toArray = ls at hl ⊢
  replace hl : lv_has ls 7 [(0, .ref mv), (1, .int 1), (2, .int 0), (3, .int x), (4, .int 0)] := hl
  refine zw_begin hP hD (fun H locs hP1 hS => ?_)
  clear hP
  have hP := hP1
  clear hP1
  refine lv_iload_n hx hb dX1_run_0 rfl (lv_at hl 1 rfl) ?_
  refine lv_iload_n hx hb dX1_run_1 rfl (lv_at hl 2 rfl) ?_
  refine zc_S (As := [.int 1, .int 0]) (rest := []) ⟨hx, hb, hml, hown, hts⟩ (c_M_bodyFor_1_0 l D cI cJ cZ cP cS po  ) (va_cwS 2 hts gX1_run_X1_bodyFor rfl rfl rfl dh_X1_bodyFor ⟨Nat.le_of_ble_eq_true rfl, Nat.le_of_ble_eq_true rfl⟩) hK hN (hZ.kept hS) rfl hl.1 rfl (Nat.le_of_ble_eq_true rfl) dX1_run_2 ⟨Nat.le_of_ble_eq_true rfl, Nat.le_of_ble_eq_true rfl⟩ (fun r_1 hr_1 => ?_)
  obtain rfl := hr_1
  refine lv_istore (lv' := [(5, .int 20), (0, .ref mv), (1, .int 1), (2, .int 0), (3, .int x), (4, .int 0)]) hx hb dX1_run_5 hl (by decide) rfl (fun ls hl => ?_)
  refine lv_iload hx hb dX1_run_7 (lv_at hl 0 rfl) ?_
  refine lv_iconst (v := (-1)) hx hb dX1_run_9 (by decide) ?_
  refine lv_icmp_eq (tgt := 20) hx hb dX1_run_10 (by decide) (fun c_2 => ?_) (fun c_2 => ?_)
  · exact absurd c_2 (by decide)
  · refine lv_iload hx hb dX1_run_13 (lv_at hl 5 rfl) ?_
    refine lv_bipush (v := 40) hx hb dX1_run_15 (by decide) ?_
    refine lv_icmp_lt (tgt := 22) hx hb dX1_run_17 (by decide) (fun c_3 => ?_) (fun c_3 => ?_)
    · refine lv_aload_n hx hb dX1_run_22 rfl (lv_at hl 1 rfl) ?_
      refine lv_iload hx hb dX1_run_23 (lv_at hl 0 rfl) ?_
      skip
      refine zw_Vv (As := [.int 20]) (rest := []) (wr := []) ⟨hx, hb, hml, hown, hts⟩ (c_F_M_note l D cI cJ cZ cP cS po mv mb (mr) (1) (mm) (mq) fb (20) hy0 (by omega) H.size) (cwV 1 hts gX1_run_X1_note rfl rfl rfl ⟨rfl, dh_X1_note⟩ ⟨Nat.le_of_ble_eq_true rfl, Nat.le_of_ble_eq_true rfl⟩) hK hN (hZ.kept hS) hP hD hS hA [0, 1] [] rfl rfl (by decide) (by decide) (by decide) (va_recv (q := (RX1, TX1, 5)) hK hP (ci := 1) (q0 := 0) rfl rfl) rfl hl.1 rfl (Nat.le_of_ble_eq_true rfl) dX1_run_25 ⟨Nat.le_of_ble_eq_true rfl, Nat.le_of_ble_eq_true rfl⟩ (fun u_5 H locs hr_4 hP hD hS => ?_)
      obtain ⟨q_6, q_7⟩ := u_5
      try dsimp only at hr_4
      obtain ⟨hbq_6, hsr_4_0, hr_4⟩ := hr_4
      have h9R := zRe (ws' := [(mv, .inr (1, [.ref mb, .int q_6, .int 1, .int mm, .int mq])), (mb, .inl (cI, 20, .inl q_7))]) hP hD rfl
      clear hP hD
      obtain ⟨hP, hD⟩ := h9R
      refine lv_iload hx hb dX1_run_28 (lv_at hl 5 rfl) ?_
      refine lv_iconst (v := 1) hx hb dX1_run_30 (by decide) ?_
      refine lv_iadd hx hb dX1_run_31 ?_
      refine lv_topi (fun y_8 ey_8 => ?_)
      obtain rfl : y_8 = 1 := ey_8.trans (by decide)
      refine lv_istore (lv' := [(6, .int 1), (5, .int 20), (0, .ref mv), (1, .int 1), (2, .int 0), (3, .int x), (4, .int 0)]) hx hb dX1_run_32 hl (by decide) rfl (fun ls hl => ?_)
      refine lv_iload hx hb dX1_run_34 (lv_at hl 1 rfl) ?_
      refine lv_lookup (off := 145) (tgt := 181) hx hb dX1_run_36 (by decide) (by decide) (by decide) ?_
      refine lv_aload_n hx hb dX1_run_181 rfl (lv_at hl 2 rfl) ?_
      refine lv_iconst (v := 0) hx hb dX1_run_182 (by decide) ?_
      refine lv_iconst (v := 0) hx hb dX1_run_183 (by decide) ?_
      refine lv_iload_n hx hb dX1_run_184 rfl (lv_at hl 5 rfl) ?_
      refine lv_iload hx hb dX1_run_185 (lv_at hl 0 rfl) ?_
      skip
      refine zw_V (As := [.int 0, .int 0, .int x, .int 1]) (rest := []) (wr := []) ⟨hx, hb, hml, hown, hts⟩ (c_F_M_run_1_0_0_1 l D cI cJ cZ cP cS po mv mb (q_6) (mm) (mq) q_7 (x) (by omega) (by omega) H.size) (cwV 4 hts gX1_run_X1_run rfl rfl rfl ⟨rfl, dh_X1_run⟩ ⟨Nat.le_of_ble_eq_true rfl, Nat.le_of_ble_eq_true rfl⟩) hK hN (hZ.kept hS) hP hD hS hA [0, 1] [] rfl rfl (by decide) (by decide) (by decide) (va_recv (q := (RX1, TX1, 5)) hK hP (ci := 1) (q0 := 0) rfl rfl) rfl hl.1 rfl (Nat.le_of_ble_eq_true rfl) dX1_run_187 ⟨Nat.le_of_ble_eq_true rfl, Nat.le_of_ble_eq_true rfl⟩ (fun r_9 u_10 H locs hr_9 hP hD hS => ?_)
      obtain ⟨q_11, q_12⟩ := u_10
      try dsimp only at hr_9
      obtain ⟨hbq_11, hsr_9_0, hsr_9_1, hr_9⟩ := hr_9
      have h9R := zRe (ws' := [(mv, .inr (1, [.ref mb, .int q_11, .int 1, .int mm, .int mq])), (mb, .inl (cI, 20, .inl q_12))]) hP hD rfl
      clear hP hD
      obtain ⟨hP, hD⟩ := h9R
      refine lv_aload_n hx hb dX1_run_190 rfl (lv_at hl 2 rfl) ?_
      refine va_get (D := D) (ci := 1) (v := .int mq) (C := RX1) (T := TX1) (N := 5) hx hb hts hi_X1_run_1 hown hK hP 0 rfl rfl 4 (by decide) (hts (.fieldLink RX1 25 "TheLiningsInIt$Moves" "k" "I") (List.mem_of_getElem? (i := 3) rfl)) (fun _ h9 => h9) rfl dX1_run_191 ?_
      refine lv_iadd hx hb dX1_run_194 ?_
      refine lv_topi (fun x_13 ex_13 => ?_)
      exact W.iret (v := x_13) hx hb hr (fun t ht hW => ⟨⟨x_13, (q_11, q_12), rfl, ⟨(show q_11.toInt = mr.toInt + 2 from by omega), (show (x_13 : Int32) = ((x + mm) + mq) from by ((try rw [ex_13]); (try rw [hsr_9_0]); (try rw [ex_13]); first | done | rfl)), (show q_12 = zTr fb mr.toInt [20, 10] from by (rw [hsr_9_1]; rw [hsr_4_0]; rw [zTr_app (by (have q : (([20] : List Int32).length : Int) = 1 := rfl; omega))]; first | done | rfl)), trivial⟩, zRet ht hP hD [0, 1] (by decide) rfl⟩, hS.F ht⟩) hS.2.2 dX1_run_195
    · exact absurd c_3 (by decide)
set_option maxHeartbeats 4000000 in
set_option maxRecDepth 100000 in
theorem c_F_M_run_1_0_0_2 (l : Launch) (D : va_G) (cI cJ cZ cP cS : ClassId) (po : zPool) (mv mb : Nat) (mr mm mq : Int32) (fb : Nat → Int32) (x : Int32) (hy0 : 0 ≤ mr.toInt) (hy1 : mr.toInt ≤ 1200) (hpz : Nat) : Met l yX1_run wsX1_run ({ frames := 2, cells := 0, slots := 0, locals := 46 }) (va_Pc [.ref mv, .int 0, .int 0, .int x, .int 2] (zW D (zKT cI cJ cZ cP cS) po [(mv, .inr (1, [.ref mb, .int mr, .int 1, .int mm, .int mq])), (mb, .inl (cI, 20, .inl fb))] hpz)) (va_Qi (fun (r : Int32) (u : (Int32) × (Nat → Int32)) => u.1.toInt = mr.toInt + 1 ∧ (r = (x + mm)) ∧ (u.2 = zTr fb mr.toInt [10]) ∧ (True)) (zB D [(mv, .inr (1, [.ref mb, .int mr, .int 1, .int mm, .int mq])), (mb, .inl (cI, 20, .inl fb))] hpz (fun (u : (Int32) × (Nat → Int32)) => [(mv, .inr (1, [.ref mb, .int u.1, .int 1, .int mm, .int mq])), (mb, .inl (cI, 20, .inl u.2))])) (va_A [(mv, .inr (1, [.ref mb, .int mr, .int 1, .int mm, .int mq])), (mb, .inl (cI, 20, .inl fb))] hpz)) 0 0 (va_A [(mv, .inr (1, [.ref mb, .int mr, .int 1, .int mm, .int mq])), (mb, .inl (cI, 20, .inl fb))] hpz) := by
  refine Met.ofW (cc := cX1_run) (maxL := 7) (ret := (some .int)) (by decide) rfl ?_
  intro p e s m args below meth c s₁ B hml hv
  obtain ⟨rfl, hsz, hP, hK, hD0, hN, hZ⟩ := hv
  have hx := B.exec
  have hb := B.bytes
  have hr := B.returns
  have hts := atoms_spec (ws := wsX1_run) B.pre
  have hown : s.vm.findClass RX1 = some m.cls := findClass_of_methodNamed B.named
  have hlocks := B.notSynchronized
  subst hsz
  have hD := hD0.self (sz := s.heap.size)
  have hA := zA_of hD
  have hl := lv_entry ([.ref mv, .int 0, .int 0, .int x, .int 2]) (n := 7) (Nat.le_of_ble_eq_true rfl)
  rw [lg_entry_eq]
  generalize (lg_sl ([.ref mv, .int 0, .int 0, .int x, .int 2]) ++ List.replicate (7 - (lg_sl ([.ref mv, .int 0, .int 0, .int x, .int 2])).length) Slot.unset).toArray = ls at hl ⊢
  replace hl : lv_has ls 7 [(0, .ref mv), (1, .int 0), (2, .int 0), (3, .int x), (4, .int 2)] := hl
  refine zw_begin hP hD (fun H locs hP1 hS => ?_)
  clear hP
  have hP := hP1
  clear hP1
  refine lv_iload_n hx hb dX1_run_0 rfl (lv_at hl 1 rfl) ?_
  refine lv_iload_n hx hb dX1_run_1 rfl (lv_at hl 2 rfl) ?_
  refine zc_S (As := [.int 0, .int 0]) (rest := []) ⟨hx, hb, hml, hown, hts⟩ (c_M_bodyFor_0_0 l D cI cJ cZ cP cS po  ) (va_cwS 2 hts gX1_run_X1_bodyFor rfl rfl rfl dh_X1_bodyFor ⟨Nat.le_of_ble_eq_true rfl, Nat.le_of_ble_eq_true rfl⟩) hK hN (hZ.kept hS) rfl hl.1 rfl (Nat.le_of_ble_eq_true rfl) dX1_run_2 ⟨Nat.le_of_ble_eq_true rfl, Nat.le_of_ble_eq_true rfl⟩ (fun r_1 hr_1 => ?_)
  obtain rfl := hr_1
  refine lv_istore (lv' := [(5, .int 10), (0, .ref mv), (1, .int 0), (2, .int 0), (3, .int x), (4, .int 2)]) hx hb dX1_run_5 hl (by decide) rfl (fun ls hl => ?_)
  refine lv_iload hx hb dX1_run_7 (lv_at hl 0 rfl) ?_
  refine lv_iconst (v := (-1)) hx hb dX1_run_9 (by decide) ?_
  refine lv_icmp_eq (tgt := 20) hx hb dX1_run_10 (by decide) (fun c_2 => ?_) (fun c_2 => ?_)
  · exact absurd c_2 (by decide)
  · refine lv_iload hx hb dX1_run_13 (lv_at hl 5 rfl) ?_
    refine lv_bipush (v := 40) hx hb dX1_run_15 (by decide) ?_
    refine lv_icmp_lt (tgt := 22) hx hb dX1_run_17 (by decide) (fun c_3 => ?_) (fun c_3 => ?_)
    · refine lv_aload_n hx hb dX1_run_22 rfl (lv_at hl 1 rfl) ?_
      refine lv_iload hx hb dX1_run_23 (lv_at hl 0 rfl) ?_
      skip
      refine zw_Vv (As := [.int 10]) (rest := []) (wr := []) ⟨hx, hb, hml, hown, hts⟩ (c_F_M_note l D cI cJ cZ cP cS po mv mb (mr) (1) (mm) (mq) fb (10) hy0 (by omega) H.size) (cwV 1 hts gX1_run_X1_note rfl rfl rfl ⟨rfl, dh_X1_note⟩ ⟨Nat.le_of_ble_eq_true rfl, Nat.le_of_ble_eq_true rfl⟩) hK hN (hZ.kept hS) hP hD hS hA [0, 1] [] rfl rfl (by decide) (by decide) (by decide) (va_recv (q := (RX1, TX1, 5)) hK hP (ci := 1) (q0 := 0) rfl rfl) rfl hl.1 rfl (Nat.le_of_ble_eq_true rfl) dX1_run_25 ⟨Nat.le_of_ble_eq_true rfl, Nat.le_of_ble_eq_true rfl⟩ (fun u_5 H locs hr_4 hP hD hS => ?_)
      obtain ⟨q_6, q_7⟩ := u_5
      try dsimp only at hr_4
      obtain ⟨hbq_6, hsr_4_0, hr_4⟩ := hr_4
      have h9R := zRe (ws' := [(mv, .inr (1, [.ref mb, .int q_6, .int 1, .int mm, .int mq])), (mb, .inl (cI, 20, .inl q_7))]) hP hD rfl
      clear hP hD
      obtain ⟨hP, hD⟩ := h9R
      refine lv_iload hx hb dX1_run_28 (lv_at hl 5 rfl) ?_
      refine lv_iconst (v := 1) hx hb dX1_run_30 (by decide) ?_
      refine lv_iadd hx hb dX1_run_31 ?_
      refine lv_topi (fun y_8 ey_8 => ?_)
      obtain rfl : y_8 = 3 := ey_8.trans (by decide)
      refine lv_istore (lv' := [(6, .int 3), (5, .int 10), (0, .ref mv), (1, .int 0), (2, .int 0), (3, .int x), (4, .int 2)]) hx hb dX1_run_32 hl (by decide) rfl (fun ls hl => ?_)
      refine lv_iload hx hb dX1_run_34 (lv_at hl 1 rfl) ?_
      refine lv_lookup (off := 92) (tgt := 128) hx hb dX1_run_36 (by decide) (by decide) (by decide) ?_
      refine lv_iload_n hx hb dX1_run_128 rfl (lv_at hl 5 rfl) ?_
      refine lv_aload_n hx hb dX1_run_129 rfl (lv_at hl 2 rfl) ?_
      refine va_get (D := D) (ci := 1) (v := .int mm) (C := RX1) (T := TX1) (N := 5) hx hb hts hi_X1_run_1 hown hK hP 0 rfl rfl 3 (by decide) (hts (.fieldLink RX1 22 "TheLiningsInIt$Moves" "m" "I") (List.mem_of_getElem? (i := 1) rfl)) (fun _ h9 => h9) rfl dX1_run_130 ?_
      refine lv_iadd hx hb dX1_run_133 ?_
      refine lv_topi (fun x_9 ex_9 => ?_)
      exact W.iret (v := x_9) hx hb hr (fun t ht hW => ⟨⟨x_9, (q_6, q_7), rfl, ⟨(show q_6.toInt = mr.toInt + 1 from by omega), (show (x_9 : Int32) = (x + mm) from by ((try rw [ex_9]); (try rw [ex_9]); first | done | rfl)), (show q_7 = zTr fb mr.toInt [10] from by (rw [hsr_4_0]; first | done | rfl)), trivial⟩, zRet ht hP hD [0, 1] (by decide) rfl⟩, hS.F ht⟩) hS.2.2 dX1_run_134
    · exact absurd c_3 (by decide)
set_option maxHeartbeats 4000000 in
set_option maxRecDepth 100000 in
theorem c_F_M_run_1_1_0_1 (l : Launch) (D : va_G) (cI cJ cZ cP cS : ClassId) (po : zPool) (mv mb : Nat) (mr mm mq : Int32) (fb : Nat → Int32) (x : Int32) (hy0 : 0 ≤ mr.toInt) (hy1 : mr.toInt ≤ 1100) (hpz : Nat) : Met l yX1_run wsX1_run ({ frames := 3, cells := 0, slots := 0, locals := 72 }) (va_Pc [.ref mv, .int 1, .int 0, .int x, .int 1] (zW D (zKT cI cJ cZ cP cS) po [(mv, .inr (1, [.ref mb, .int mr, .int 1, .int mm, .int mq])), (mb, .inl (cI, 20, .inl fb))] hpz)) (va_Qi (fun (r : Int32) (u : (Int32) × (Nat → Int32)) => u.1.toInt = mr.toInt + 2 ∧ (r = ((x + mm) + mq)) ∧ (u.2 = zTr fb mr.toInt [20, 10]) ∧ (True)) (zB D [(mv, .inr (1, [.ref mb, .int mr, .int 1, .int mm, .int mq])), (mb, .inl (cI, 20, .inl fb))] hpz (fun (u : (Int32) × (Nat → Int32)) => [(mv, .inr (1, [.ref mb, .int u.1, .int 1, .int mm, .int mq])), (mb, .inl (cI, 20, .inl u.2))])) (va_A [(mv, .inr (1, [.ref mb, .int mr, .int 1, .int mm, .int mq])), (mb, .inl (cI, 20, .inl fb))] hpz)) 0 0 (va_A [(mv, .inr (1, [.ref mb, .int mr, .int 1, .int mm, .int mq])), (mb, .inl (cI, 20, .inl fb))] hpz) := by
  refine Met.ofW (cc := cX1_run) (maxL := 7) (ret := (some .int)) (by decide) rfl ?_
  intro p e s m args below meth c s₁ B hml hv
  obtain ⟨rfl, hsz, hP, hK, hD0, hN, hZ⟩ := hv
  have hx := B.exec
  have hb := B.bytes
  have hr := B.returns
  have hts := atoms_spec (ws := wsX1_run) B.pre
  have hown : s.vm.findClass RX1 = some m.cls := findClass_of_methodNamed B.named
  have hlocks := B.notSynchronized
  subst hsz
  have hD := hD0.self (sz := s.heap.size)
  have hA := zA_of hD
  have hl := lv_entry ([.ref mv, .int 1, .int 0, .int x, .int 1]) (n := 7) (Nat.le_of_ble_eq_true rfl)
  rw [lg_entry_eq]
  generalize (lg_sl ([.ref mv, .int 1, .int 0, .int x, .int 1]) ++ List.replicate (7 - (lg_sl ([.ref mv, .int 1, .int 0, .int x, .int 1])).length) Slot.unset).toArray = ls at hl ⊢
  replace hl : lv_has ls 7 [(0, .ref mv), (1, .int 1), (2, .int 0), (3, .int x), (4, .int 1)] := hl
  refine zw_begin hP hD (fun H locs hP1 hS => ?_)
  clear hP
  have hP := hP1
  clear hP1
  refine lv_iload_n hx hb dX1_run_0 rfl (lv_at hl 1 rfl) ?_
  refine lv_iload_n hx hb dX1_run_1 rfl (lv_at hl 2 rfl) ?_
  refine zc_S (As := [.int 1, .int 0]) (rest := []) ⟨hx, hb, hml, hown, hts⟩ (c_M_bodyFor_1_0 l D cI cJ cZ cP cS po  ) (va_cwS 2 hts gX1_run_X1_bodyFor rfl rfl rfl dh_X1_bodyFor ⟨Nat.le_of_ble_eq_true rfl, Nat.le_of_ble_eq_true rfl⟩) hK hN (hZ.kept hS) rfl hl.1 rfl (Nat.le_of_ble_eq_true rfl) dX1_run_2 ⟨Nat.le_of_ble_eq_true rfl, Nat.le_of_ble_eq_true rfl⟩ (fun r_1 hr_1 => ?_)
  obtain rfl := hr_1
  refine lv_istore (lv' := [(5, .int 20), (0, .ref mv), (1, .int 1), (2, .int 0), (3, .int x), (4, .int 1)]) hx hb dX1_run_5 hl (by decide) rfl (fun ls hl => ?_)
  refine lv_iload hx hb dX1_run_7 (lv_at hl 0 rfl) ?_
  refine lv_iconst (v := (-1)) hx hb dX1_run_9 (by decide) ?_
  refine lv_icmp_eq (tgt := 20) hx hb dX1_run_10 (by decide) (fun c_2 => ?_) (fun c_2 => ?_)
  · exact absurd c_2 (by decide)
  · refine lv_iload hx hb dX1_run_13 (lv_at hl 5 rfl) ?_
    refine lv_bipush (v := 40) hx hb dX1_run_15 (by decide) ?_
    refine lv_icmp_lt (tgt := 22) hx hb dX1_run_17 (by decide) (fun c_3 => ?_) (fun c_3 => ?_)
    · refine lv_aload_n hx hb dX1_run_22 rfl (lv_at hl 1 rfl) ?_
      refine lv_iload hx hb dX1_run_23 (lv_at hl 0 rfl) ?_
      skip
      refine zw_Vv (As := [.int 20]) (rest := []) (wr := []) ⟨hx, hb, hml, hown, hts⟩ (c_F_M_note l D cI cJ cZ cP cS po mv mb (mr) (1) (mm) (mq) fb (20) hy0 (by omega) H.size) (cwV 1 hts gX1_run_X1_note rfl rfl rfl ⟨rfl, dh_X1_note⟩ ⟨Nat.le_of_ble_eq_true rfl, Nat.le_of_ble_eq_true rfl⟩) hK hN (hZ.kept hS) hP hD hS hA [0, 1] [] rfl rfl (by decide) (by decide) (by decide) (va_recv (q := (RX1, TX1, 5)) hK hP (ci := 1) (q0 := 0) rfl rfl) rfl hl.1 rfl (Nat.le_of_ble_eq_true rfl) dX1_run_25 ⟨Nat.le_of_ble_eq_true rfl, Nat.le_of_ble_eq_true rfl⟩ (fun u_5 H locs hr_4 hP hD hS => ?_)
      obtain ⟨q_6, q_7⟩ := u_5
      try dsimp only at hr_4
      obtain ⟨hbq_6, hsr_4_0, hr_4⟩ := hr_4
      have h9R := zRe (ws' := [(mv, .inr (1, [.ref mb, .int q_6, .int 1, .int mm, .int mq])), (mb, .inl (cI, 20, .inl q_7))]) hP hD rfl
      clear hP hD
      obtain ⟨hP, hD⟩ := h9R
      refine lv_iload hx hb dX1_run_28 (lv_at hl 5 rfl) ?_
      refine lv_iconst (v := 1) hx hb dX1_run_30 (by decide) ?_
      refine lv_iadd hx hb dX1_run_31 ?_
      refine lv_topi (fun y_8 ey_8 => ?_)
      obtain rfl : y_8 = 2 := ey_8.trans (by decide)
      refine lv_istore (lv' := [(6, .int 2), (5, .int 20), (0, .ref mv), (1, .int 1), (2, .int 0), (3, .int x), (4, .int 1)]) hx hb dX1_run_32 hl (by decide) rfl (fun ls hl => ?_)
      refine lv_iload hx hb dX1_run_34 (lv_at hl 1 rfl) ?_
      refine lv_lookup (off := 145) (tgt := 181) hx hb dX1_run_36 (by decide) (by decide) (by decide) ?_
      refine lv_aload_n hx hb dX1_run_181 rfl (lv_at hl 2 rfl) ?_
      refine lv_iconst (v := 0) hx hb dX1_run_182 (by decide) ?_
      refine lv_iconst (v := 0) hx hb dX1_run_183 (by decide) ?_
      refine lv_iload_n hx hb dX1_run_184 rfl (lv_at hl 5 rfl) ?_
      refine lv_iload hx hb dX1_run_185 (lv_at hl 0 rfl) ?_
      skip
      refine zw_V (As := [.int 0, .int 0, .int x, .int 2]) (rest := []) (wr := []) ⟨hx, hb, hml, hown, hts⟩ (c_F_M_run_1_0_0_2 l D cI cJ cZ cP cS po mv mb (q_6) (mm) (mq) q_7 (x) (by omega) (by omega) H.size) (cwV 4 hts gX1_run_X1_run rfl rfl rfl ⟨rfl, dh_X1_run⟩ ⟨Nat.le_of_ble_eq_true rfl, Nat.le_of_ble_eq_true rfl⟩) hK hN (hZ.kept hS) hP hD hS hA [0, 1] [] rfl rfl (by decide) (by decide) (by decide) (va_recv (q := (RX1, TX1, 5)) hK hP (ci := 1) (q0 := 0) rfl rfl) rfl hl.1 rfl (Nat.le_of_ble_eq_true rfl) dX1_run_187 ⟨Nat.le_of_ble_eq_true rfl, Nat.le_of_ble_eq_true rfl⟩ (fun r_9 u_10 H locs hr_9 hP hD hS => ?_)
      obtain ⟨q_11, q_12⟩ := u_10
      try dsimp only at hr_9
      obtain ⟨hbq_11, hsr_9_0, hsr_9_1, hr_9⟩ := hr_9
      have h9R := zRe (ws' := [(mv, .inr (1, [.ref mb, .int q_11, .int 1, .int mm, .int mq])), (mb, .inl (cI, 20, .inl q_12))]) hP hD rfl
      clear hP hD
      obtain ⟨hP, hD⟩ := h9R
      refine lv_aload_n hx hb dX1_run_190 rfl (lv_at hl 2 rfl) ?_
      refine va_get (D := D) (ci := 1) (v := .int mq) (C := RX1) (T := TX1) (N := 5) hx hb hts hi_X1_run_1 hown hK hP 0 rfl rfl 4 (by decide) (hts (.fieldLink RX1 25 "TheLiningsInIt$Moves" "k" "I") (List.mem_of_getElem? (i := 3) rfl)) (fun _ h9 => h9) rfl dX1_run_191 ?_
      refine lv_iadd hx hb dX1_run_194 ?_
      refine lv_topi (fun x_13 ex_13 => ?_)
      exact W.iret (v := x_13) hx hb hr (fun t ht hW => ⟨⟨x_13, (q_11, q_12), rfl, ⟨(show q_11.toInt = mr.toInt + 2 from by omega), (show (x_13 : Int32) = ((x + mm) + mq) from by ((try rw [ex_13]); (try rw [hsr_9_0]); (try rw [ex_13]); first | done | rfl)), (show q_12 = zTr fb mr.toInt [20, 10] from by (rw [hsr_9_1]; rw [hsr_4_0]; rw [zTr_app (by (have q : (([20] : List Int32).length : Int) = 1 := rfl; omega))]; first | done | rfl)), trivial⟩, zRet ht hP hD [0, 1] (by decide) rfl⟩, hS.F ht⟩) hS.2.2 dX1_run_195
    · exact absurd c_3 (by decide)
set_option maxHeartbeats 4000000 in
set_option maxRecDepth 100000 in
theorem c_F_M_run_1_1_1_0 (l : Launch) (D : va_G) (cI cJ cZ cP cS : ClassId) (po : zPool) (mv mb : Nat) (mr mm mq : Int32) (fb : Nat → Int32) (x : Int32) (hy0 : 0 ≤ mr.toInt) (hy1 : mr.toInt ≤ 1000) (hpz : Nat) : Met l yX1_run wsX1_run ({ frames := 4, cells := 0, slots := 0, locals := 98 }) (va_Pc [.ref mv, .int 1, .int 1, .int x, .int 0] (zW D (zKT cI cJ cZ cP cS) po [(mv, .inr (1, [.ref mb, .int mr, .int 1, .int mm, .int mq])), (mb, .inl (cI, 20, .inl fb))] hpz)) (va_Qi (fun (r : Int32) (u : (Int32) × (Nat → Int32)) => u.1.toInt = mr.toInt + 3 ∧ (r = (((x + mm) + mq) * 2)) ∧ (u.2 = zTr fb mr.toInt [11, 20, 10]) ∧ (True)) (zB D [(mv, .inr (1, [.ref mb, .int mr, .int 1, .int mm, .int mq])), (mb, .inl (cI, 20, .inl fb))] hpz (fun (u : (Int32) × (Nat → Int32)) => [(mv, .inr (1, [.ref mb, .int u.1, .int 1, .int mm, .int mq])), (mb, .inl (cI, 20, .inl u.2))])) (va_A [(mv, .inr (1, [.ref mb, .int mr, .int 1, .int mm, .int mq])), (mb, .inl (cI, 20, .inl fb))] hpz)) 0 0 (va_A [(mv, .inr (1, [.ref mb, .int mr, .int 1, .int mm, .int mq])), (mb, .inl (cI, 20, .inl fb))] hpz) := by
  refine Met.ofW (cc := cX1_run) (maxL := 7) (ret := (some .int)) (by decide) rfl ?_
  intro p e s m args below meth c s₁ B hml hv
  obtain ⟨rfl, hsz, hP, hK, hD0, hN, hZ⟩ := hv
  have hx := B.exec
  have hb := B.bytes
  have hr := B.returns
  have hts := atoms_spec (ws := wsX1_run) B.pre
  have hown : s.vm.findClass RX1 = some m.cls := findClass_of_methodNamed B.named
  have hlocks := B.notSynchronized
  subst hsz
  have hD := hD0.self (sz := s.heap.size)
  have hA := zA_of hD
  have hl := lv_entry ([.ref mv, .int 1, .int 1, .int x, .int 0]) (n := 7) (Nat.le_of_ble_eq_true rfl)
  rw [lg_entry_eq]
  generalize (lg_sl ([.ref mv, .int 1, .int 1, .int x, .int 0]) ++ List.replicate (7 - (lg_sl ([.ref mv, .int 1, .int 1, .int x, .int 0])).length) Slot.unset).toArray = ls at hl ⊢
  replace hl : lv_has ls 7 [(0, .ref mv), (1, .int 1), (2, .int 1), (3, .int x), (4, .int 0)] := hl
  refine zw_begin hP hD (fun H locs hP1 hS => ?_)
  clear hP
  have hP := hP1
  clear hP1
  refine lv_iload_n hx hb dX1_run_0 rfl (lv_at hl 1 rfl) ?_
  refine lv_iload_n hx hb dX1_run_1 rfl (lv_at hl 2 rfl) ?_
  refine zc_S (As := [.int 1, .int 1]) (rest := []) ⟨hx, hb, hml, hown, hts⟩ (c_M_bodyFor_1_1 l D cI cJ cZ cP cS po  ) (va_cwS 2 hts gX1_run_X1_bodyFor rfl rfl rfl dh_X1_bodyFor ⟨Nat.le_of_ble_eq_true rfl, Nat.le_of_ble_eq_true rfl⟩) hK hN (hZ.kept hS) rfl hl.1 rfl (Nat.le_of_ble_eq_true rfl) dX1_run_2 ⟨Nat.le_of_ble_eq_true rfl, Nat.le_of_ble_eq_true rfl⟩ (fun r_1 hr_1 => ?_)
  obtain rfl := hr_1
  refine lv_istore (lv' := [(5, .int 11), (0, .ref mv), (1, .int 1), (2, .int 1), (3, .int x), (4, .int 0)]) hx hb dX1_run_5 hl (by decide) rfl (fun ls hl => ?_)
  refine lv_iload hx hb dX1_run_7 (lv_at hl 0 rfl) ?_
  refine lv_iconst (v := (-1)) hx hb dX1_run_9 (by decide) ?_
  refine lv_icmp_eq (tgt := 20) hx hb dX1_run_10 (by decide) (fun c_2 => ?_) (fun c_2 => ?_)
  · exact absurd c_2 (by decide)
  · refine lv_iload hx hb dX1_run_13 (lv_at hl 5 rfl) ?_
    refine lv_bipush (v := 40) hx hb dX1_run_15 (by decide) ?_
    refine lv_icmp_lt (tgt := 22) hx hb dX1_run_17 (by decide) (fun c_3 => ?_) (fun c_3 => ?_)
    · refine lv_aload_n hx hb dX1_run_22 rfl (lv_at hl 1 rfl) ?_
      refine lv_iload hx hb dX1_run_23 (lv_at hl 0 rfl) ?_
      skip
      refine zw_Vv (As := [.int 11]) (rest := []) (wr := []) ⟨hx, hb, hml, hown, hts⟩ (c_F_M_note l D cI cJ cZ cP cS po mv mb (mr) (1) (mm) (mq) fb (11) hy0 (by omega) H.size) (cwV 1 hts gX1_run_X1_note rfl rfl rfl ⟨rfl, dh_X1_note⟩ ⟨Nat.le_of_ble_eq_true rfl, Nat.le_of_ble_eq_true rfl⟩) hK hN (hZ.kept hS) hP hD hS hA [0, 1] [] rfl rfl (by decide) (by decide) (by decide) (va_recv (q := (RX1, TX1, 5)) hK hP (ci := 1) (q0 := 0) rfl rfl) rfl hl.1 rfl (Nat.le_of_ble_eq_true rfl) dX1_run_25 ⟨Nat.le_of_ble_eq_true rfl, Nat.le_of_ble_eq_true rfl⟩ (fun u_5 H locs hr_4 hP hD hS => ?_)
      obtain ⟨q_6, q_7⟩ := u_5
      try dsimp only at hr_4
      obtain ⟨hbq_6, hsr_4_0, hr_4⟩ := hr_4
      have h9R := zRe (ws' := [(mv, .inr (1, [.ref mb, .int q_6, .int 1, .int mm, .int mq])), (mb, .inl (cI, 20, .inl q_7))]) hP hD rfl
      clear hP hD
      obtain ⟨hP, hD⟩ := h9R
      refine lv_iload hx hb dX1_run_28 (lv_at hl 5 rfl) ?_
      refine lv_iconst (v := 1) hx hb dX1_run_30 (by decide) ?_
      refine lv_iadd hx hb dX1_run_31 ?_
      refine lv_topi (fun y_8 ey_8 => ?_)
      obtain rfl : y_8 = 1 := ey_8.trans (by decide)
      refine lv_istore (lv' := [(6, .int 1), (5, .int 11), (0, .ref mv), (1, .int 1), (2, .int 1), (3, .int x), (4, .int 0)]) hx hb dX1_run_32 hl (by decide) rfl (fun ls hl => ?_)
      refine lv_iload hx hb dX1_run_34 (lv_at hl 1 rfl) ?_
      refine lv_lookup (off := 99) (tgt := 135) hx hb dX1_run_36 (by decide) (by decide) (by decide) ?_
      refine lv_aload_n hx hb dX1_run_135 rfl (lv_at hl 2 rfl) ?_
      refine lv_aload_n hx hb dX1_run_136 rfl (lv_at hl 2 rfl) ?_
      refine va_get (D := D) (ci := 1) (v := .int 1) (C := RX1) (T := TX1) (N := 5) hx hb hts hi_X1_run_1 hown hK hP 0 rfl rfl 2 (by decide) (hts (.fieldLink RX1 19 "TheLiningsInIt$Moves" "kind" "I") (List.mem_of_getElem? (i := 2) rfl)) (fun _ h9 => h9) rfl dX1_run_137 ?_
      refine lv_iconst (v := 0) hx hb dX1_run_140 (by decide) ?_
      refine lv_iload_n hx hb dX1_run_141 rfl (lv_at hl 5 rfl) ?_
      refine lv_iload hx hb dX1_run_142 (lv_at hl 0 rfl) ?_
      skip
      refine zw_V (As := [.int 1, .int 0, .int x, .int 1]) (rest := []) (wr := []) ⟨hx, hb, hml, hown, hts⟩ (c_F_M_run_1_1_0_1 l D cI cJ cZ cP cS po mv mb (q_6) (mm) (mq) q_7 (x) (by omega) (by omega) H.size) (cwV 4 hts gX1_run_X1_run rfl rfl rfl ⟨rfl, dh_X1_run⟩ ⟨Nat.le_of_ble_eq_true rfl, Nat.le_of_ble_eq_true rfl⟩) hK hN (hZ.kept hS) hP hD hS hA [0, 1] [] rfl rfl (by decide) (by decide) (by decide) (va_recv (q := (RX1, TX1, 5)) hK hP (ci := 1) (q0 := 0) rfl rfl) rfl hl.1 rfl (Nat.le_of_ble_eq_true rfl) dX1_run_144 ⟨Nat.le_of_ble_eq_true rfl, Nat.le_of_ble_eq_true rfl⟩ (fun r_9 u_10 H locs hr_9 hP hD hS => ?_)
      obtain ⟨q_11, q_12⟩ := u_10
      try dsimp only at hr_9
      obtain ⟨hbq_11, hsr_9_0, hsr_9_1, hr_9⟩ := hr_9
      have h9R := zRe (ws' := [(mv, .inr (1, [.ref mb, .int q_11, .int 1, .int mm, .int mq])), (mb, .inl (cI, 20, .inl q_12))]) hP hD rfl
      clear hP hD
      obtain ⟨hP, hD⟩ := h9R
      refine lv_iconst (v := 2) hx hb dX1_run_147 (by decide) ?_
      refine lv_imul hx hb dX1_run_148 ?_
      refine lv_topi (fun x_13 ex_13 => ?_)
      exact W.iret (v := x_13) hx hb hr (fun t ht hW => ⟨⟨x_13, (q_11, q_12), rfl, ⟨(show q_11.toInt = mr.toInt + 3 from by omega), (show (x_13 : Int32) = (((x + mm) + mq) * 2) from by ((try rw [ex_13]); (try rw [hsr_9_0]); (try rw [ex_13]); first | done | rfl)), (show q_12 = zTr fb mr.toInt [11, 20, 10] from by (rw [hsr_9_1]; rw [hsr_4_0]; rw [zTr_app (by (have q : (([11] : List Int32).length : Int) = 1 := rfl; omega))]; first | done | rfl)), trivial⟩, zRet ht hP hD [0, 1] (by decide) rfl⟩, hS.F ht⟩) hS.2.2 dX1_run_149
    · exact absurd c_3 (by decide)
set_option maxHeartbeats 4000000 in
set_option maxRecDepth 100000 in
theorem c_F_M_run_1_0_0_3 (l : Launch) (D : va_G) (cI cJ cZ cP cS : ClassId) (po : zPool) (mv mb : Nat) (mr mm mq : Int32) (fb : Nat → Int32) (x : Int32) (hy0 : 0 ≤ mr.toInt) (hy1 : mr.toInt ≤ 1300) (hpz : Nat) : Met l yX1_run wsX1_run ({ frames := 2, cells := 0, slots := 0, locals := 46 }) (va_Pc [.ref mv, .int 0, .int 0, .int x, .int 3] (zW D (zKT cI cJ cZ cP cS) po [(mv, .inr (1, [.ref mb, .int mr, .int 1, .int mm, .int mq])), (mb, .inl (cI, 20, .inl fb))] hpz)) (va_Qi (fun (r : Int32) (u : (Int32) × (Nat → Int32)) => u.1.toInt = mr.toInt + 1 ∧ (r = (x + mm)) ∧ (u.2 = zTr fb mr.toInt [10]) ∧ (True)) (zB D [(mv, .inr (1, [.ref mb, .int mr, .int 1, .int mm, .int mq])), (mb, .inl (cI, 20, .inl fb))] hpz (fun (u : (Int32) × (Nat → Int32)) => [(mv, .inr (1, [.ref mb, .int u.1, .int 1, .int mm, .int mq])), (mb, .inl (cI, 20, .inl u.2))])) (va_A [(mv, .inr (1, [.ref mb, .int mr, .int 1, .int mm, .int mq])), (mb, .inl (cI, 20, .inl fb))] hpz)) 0 0 (va_A [(mv, .inr (1, [.ref mb, .int mr, .int 1, .int mm, .int mq])), (mb, .inl (cI, 20, .inl fb))] hpz) := by
  refine Met.ofW (cc := cX1_run) (maxL := 7) (ret := (some .int)) (by decide) rfl ?_
  intro p e s m args below meth c s₁ B hml hv
  obtain ⟨rfl, hsz, hP, hK, hD0, hN, hZ⟩ := hv
  have hx := B.exec
  have hb := B.bytes
  have hr := B.returns
  have hts := atoms_spec (ws := wsX1_run) B.pre
  have hown : s.vm.findClass RX1 = some m.cls := findClass_of_methodNamed B.named
  have hlocks := B.notSynchronized
  subst hsz
  have hD := hD0.self (sz := s.heap.size)
  have hA := zA_of hD
  have hl := lv_entry ([.ref mv, .int 0, .int 0, .int x, .int 3]) (n := 7) (Nat.le_of_ble_eq_true rfl)
  rw [lg_entry_eq]
  generalize (lg_sl ([.ref mv, .int 0, .int 0, .int x, .int 3]) ++ List.replicate (7 - (lg_sl ([.ref mv, .int 0, .int 0, .int x, .int 3])).length) Slot.unset).toArray = ls at hl ⊢
  replace hl : lv_has ls 7 [(0, .ref mv), (1, .int 0), (2, .int 0), (3, .int x), (4, .int 3)] := hl
  refine zw_begin hP hD (fun H locs hP1 hS => ?_)
  clear hP
  have hP := hP1
  clear hP1
  refine lv_iload_n hx hb dX1_run_0 rfl (lv_at hl 1 rfl) ?_
  refine lv_iload_n hx hb dX1_run_1 rfl (lv_at hl 2 rfl) ?_
  refine zc_S (As := [.int 0, .int 0]) (rest := []) ⟨hx, hb, hml, hown, hts⟩ (c_M_bodyFor_0_0 l D cI cJ cZ cP cS po  ) (va_cwS 2 hts gX1_run_X1_bodyFor rfl rfl rfl dh_X1_bodyFor ⟨Nat.le_of_ble_eq_true rfl, Nat.le_of_ble_eq_true rfl⟩) hK hN (hZ.kept hS) rfl hl.1 rfl (Nat.le_of_ble_eq_true rfl) dX1_run_2 ⟨Nat.le_of_ble_eq_true rfl, Nat.le_of_ble_eq_true rfl⟩ (fun r_1 hr_1 => ?_)
  obtain rfl := hr_1
  refine lv_istore (lv' := [(5, .int 10), (0, .ref mv), (1, .int 0), (2, .int 0), (3, .int x), (4, .int 3)]) hx hb dX1_run_5 hl (by decide) rfl (fun ls hl => ?_)
  refine lv_iload hx hb dX1_run_7 (lv_at hl 0 rfl) ?_
  refine lv_iconst (v := (-1)) hx hb dX1_run_9 (by decide) ?_
  refine lv_icmp_eq (tgt := 20) hx hb dX1_run_10 (by decide) (fun c_2 => ?_) (fun c_2 => ?_)
  · exact absurd c_2 (by decide)
  · refine lv_iload hx hb dX1_run_13 (lv_at hl 5 rfl) ?_
    refine lv_bipush (v := 40) hx hb dX1_run_15 (by decide) ?_
    refine lv_icmp_lt (tgt := 22) hx hb dX1_run_17 (by decide) (fun c_3 => ?_) (fun c_3 => ?_)
    · refine lv_aload_n hx hb dX1_run_22 rfl (lv_at hl 1 rfl) ?_
      refine lv_iload hx hb dX1_run_23 (lv_at hl 0 rfl) ?_
      skip
      refine zw_Vv (As := [.int 10]) (rest := []) (wr := []) ⟨hx, hb, hml, hown, hts⟩ (c_F_M_note l D cI cJ cZ cP cS po mv mb (mr) (1) (mm) (mq) fb (10) hy0 (by omega) H.size) (cwV 1 hts gX1_run_X1_note rfl rfl rfl ⟨rfl, dh_X1_note⟩ ⟨Nat.le_of_ble_eq_true rfl, Nat.le_of_ble_eq_true rfl⟩) hK hN (hZ.kept hS) hP hD hS hA [0, 1] [] rfl rfl (by decide) (by decide) (by decide) (va_recv (q := (RX1, TX1, 5)) hK hP (ci := 1) (q0 := 0) rfl rfl) rfl hl.1 rfl (Nat.le_of_ble_eq_true rfl) dX1_run_25 ⟨Nat.le_of_ble_eq_true rfl, Nat.le_of_ble_eq_true rfl⟩ (fun u_5 H locs hr_4 hP hD hS => ?_)
      obtain ⟨q_6, q_7⟩ := u_5
      try dsimp only at hr_4
      obtain ⟨hbq_6, hsr_4_0, hr_4⟩ := hr_4
      have h9R := zRe (ws' := [(mv, .inr (1, [.ref mb, .int q_6, .int 1, .int mm, .int mq])), (mb, .inl (cI, 20, .inl q_7))]) hP hD rfl
      clear hP hD
      obtain ⟨hP, hD⟩ := h9R
      refine lv_iload hx hb dX1_run_28 (lv_at hl 5 rfl) ?_
      refine lv_iconst (v := 1) hx hb dX1_run_30 (by decide) ?_
      refine lv_iadd hx hb dX1_run_31 ?_
      refine lv_topi (fun y_8 ey_8 => ?_)
      obtain rfl : y_8 = 4 := ey_8.trans (by decide)
      refine lv_istore (lv' := [(6, .int 4), (5, .int 10), (0, .ref mv), (1, .int 0), (2, .int 0), (3, .int x), (4, .int 3)]) hx hb dX1_run_32 hl (by decide) rfl (fun ls hl => ?_)
      refine lv_iload hx hb dX1_run_34 (lv_at hl 1 rfl) ?_
      refine lv_lookup (off := 92) (tgt := 128) hx hb dX1_run_36 (by decide) (by decide) (by decide) ?_
      refine lv_iload_n hx hb dX1_run_128 rfl (lv_at hl 5 rfl) ?_
      refine lv_aload_n hx hb dX1_run_129 rfl (lv_at hl 2 rfl) ?_
      refine va_get (D := D) (ci := 1) (v := .int mm) (C := RX1) (T := TX1) (N := 5) hx hb hts hi_X1_run_1 hown hK hP 0 rfl rfl 3 (by decide) (hts (.fieldLink RX1 22 "TheLiningsInIt$Moves" "m" "I") (List.mem_of_getElem? (i := 1) rfl)) (fun _ h9 => h9) rfl dX1_run_130 ?_
      refine lv_iadd hx hb dX1_run_133 ?_
      refine lv_topi (fun x_9 ex_9 => ?_)
      exact W.iret (v := x_9) hx hb hr (fun t ht hW => ⟨⟨x_9, (q_6, q_7), rfl, ⟨(show q_6.toInt = mr.toInt + 1 from by omega), (show (x_9 : Int32) = (x + mm) from by ((try rw [ex_9]); (try rw [ex_9]); first | done | rfl)), (show q_7 = zTr fb mr.toInt [10] from by (rw [hsr_4_0]; first | done | rfl)), trivial⟩, zRet ht hP hD [0, 1] (by decide) rfl⟩, hS.F ht⟩) hS.2.2 dX1_run_134
    · exact absurd c_3 (by decide)
set_option maxHeartbeats 4000000 in
set_option maxRecDepth 100000 in
theorem c_F_M_run_1_1_0_2 (l : Launch) (D : va_G) (cI cJ cZ cP cS : ClassId) (po : zPool) (mv mb : Nat) (mr mm mq : Int32) (fb : Nat → Int32) (x : Int32) (hy0 : 0 ≤ mr.toInt) (hy1 : mr.toInt ≤ 1200) (hpz : Nat) : Met l yX1_run wsX1_run ({ frames := 3, cells := 0, slots := 0, locals := 72 }) (va_Pc [.ref mv, .int 1, .int 0, .int x, .int 2] (zW D (zKT cI cJ cZ cP cS) po [(mv, .inr (1, [.ref mb, .int mr, .int 1, .int mm, .int mq])), (mb, .inl (cI, 20, .inl fb))] hpz)) (va_Qi (fun (r : Int32) (u : (Int32) × (Nat → Int32)) => u.1.toInt = mr.toInt + 2 ∧ (r = ((x + mm) + mq)) ∧ (u.2 = zTr fb mr.toInt [20, 10]) ∧ (True)) (zB D [(mv, .inr (1, [.ref mb, .int mr, .int 1, .int mm, .int mq])), (mb, .inl (cI, 20, .inl fb))] hpz (fun (u : (Int32) × (Nat → Int32)) => [(mv, .inr (1, [.ref mb, .int u.1, .int 1, .int mm, .int mq])), (mb, .inl (cI, 20, .inl u.2))])) (va_A [(mv, .inr (1, [.ref mb, .int mr, .int 1, .int mm, .int mq])), (mb, .inl (cI, 20, .inl fb))] hpz)) 0 0 (va_A [(mv, .inr (1, [.ref mb, .int mr, .int 1, .int mm, .int mq])), (mb, .inl (cI, 20, .inl fb))] hpz) := by
  refine Met.ofW (cc := cX1_run) (maxL := 7) (ret := (some .int)) (by decide) rfl ?_
  intro p e s m args below meth c s₁ B hml hv
  obtain ⟨rfl, hsz, hP, hK, hD0, hN, hZ⟩ := hv
  have hx := B.exec
  have hb := B.bytes
  have hr := B.returns
  have hts := atoms_spec (ws := wsX1_run) B.pre
  have hown : s.vm.findClass RX1 = some m.cls := findClass_of_methodNamed B.named
  have hlocks := B.notSynchronized
  subst hsz
  have hD := hD0.self (sz := s.heap.size)
  have hA := zA_of hD
  have hl := lv_entry ([.ref mv, .int 1, .int 0, .int x, .int 2]) (n := 7) (Nat.le_of_ble_eq_true rfl)
  rw [lg_entry_eq]
  generalize (lg_sl ([.ref mv, .int 1, .int 0, .int x, .int 2]) ++ List.replicate (7 - (lg_sl ([.ref mv, .int 1, .int 0, .int x, .int 2])).length) Slot.unset).toArray = ls at hl ⊢
  replace hl : lv_has ls 7 [(0, .ref mv), (1, .int 1), (2, .int 0), (3, .int x), (4, .int 2)] := hl
  refine zw_begin hP hD (fun H locs hP1 hS => ?_)
  clear hP
  have hP := hP1
  clear hP1
  refine lv_iload_n hx hb dX1_run_0 rfl (lv_at hl 1 rfl) ?_
  refine lv_iload_n hx hb dX1_run_1 rfl (lv_at hl 2 rfl) ?_
  refine zc_S (As := [.int 1, .int 0]) (rest := []) ⟨hx, hb, hml, hown, hts⟩ (c_M_bodyFor_1_0 l D cI cJ cZ cP cS po  ) (va_cwS 2 hts gX1_run_X1_bodyFor rfl rfl rfl dh_X1_bodyFor ⟨Nat.le_of_ble_eq_true rfl, Nat.le_of_ble_eq_true rfl⟩) hK hN (hZ.kept hS) rfl hl.1 rfl (Nat.le_of_ble_eq_true rfl) dX1_run_2 ⟨Nat.le_of_ble_eq_true rfl, Nat.le_of_ble_eq_true rfl⟩ (fun r_1 hr_1 => ?_)
  obtain rfl := hr_1
  refine lv_istore (lv' := [(5, .int 20), (0, .ref mv), (1, .int 1), (2, .int 0), (3, .int x), (4, .int 2)]) hx hb dX1_run_5 hl (by decide) rfl (fun ls hl => ?_)
  refine lv_iload hx hb dX1_run_7 (lv_at hl 0 rfl) ?_
  refine lv_iconst (v := (-1)) hx hb dX1_run_9 (by decide) ?_
  refine lv_icmp_eq (tgt := 20) hx hb dX1_run_10 (by decide) (fun c_2 => ?_) (fun c_2 => ?_)
  · exact absurd c_2 (by decide)
  · refine lv_iload hx hb dX1_run_13 (lv_at hl 5 rfl) ?_
    refine lv_bipush (v := 40) hx hb dX1_run_15 (by decide) ?_
    refine lv_icmp_lt (tgt := 22) hx hb dX1_run_17 (by decide) (fun c_3 => ?_) (fun c_3 => ?_)
    · refine lv_aload_n hx hb dX1_run_22 rfl (lv_at hl 1 rfl) ?_
      refine lv_iload hx hb dX1_run_23 (lv_at hl 0 rfl) ?_
      skip
      refine zw_Vv (As := [.int 20]) (rest := []) (wr := []) ⟨hx, hb, hml, hown, hts⟩ (c_F_M_note l D cI cJ cZ cP cS po mv mb (mr) (1) (mm) (mq) fb (20) hy0 (by omega) H.size) (cwV 1 hts gX1_run_X1_note rfl rfl rfl ⟨rfl, dh_X1_note⟩ ⟨Nat.le_of_ble_eq_true rfl, Nat.le_of_ble_eq_true rfl⟩) hK hN (hZ.kept hS) hP hD hS hA [0, 1] [] rfl rfl (by decide) (by decide) (by decide) (va_recv (q := (RX1, TX1, 5)) hK hP (ci := 1) (q0 := 0) rfl rfl) rfl hl.1 rfl (Nat.le_of_ble_eq_true rfl) dX1_run_25 ⟨Nat.le_of_ble_eq_true rfl, Nat.le_of_ble_eq_true rfl⟩ (fun u_5 H locs hr_4 hP hD hS => ?_)
      obtain ⟨q_6, q_7⟩ := u_5
      try dsimp only at hr_4
      obtain ⟨hbq_6, hsr_4_0, hr_4⟩ := hr_4
      have h9R := zRe (ws' := [(mv, .inr (1, [.ref mb, .int q_6, .int 1, .int mm, .int mq])), (mb, .inl (cI, 20, .inl q_7))]) hP hD rfl
      clear hP hD
      obtain ⟨hP, hD⟩ := h9R
      refine lv_iload hx hb dX1_run_28 (lv_at hl 5 rfl) ?_
      refine lv_iconst (v := 1) hx hb dX1_run_30 (by decide) ?_
      refine lv_iadd hx hb dX1_run_31 ?_
      refine lv_topi (fun y_8 ey_8 => ?_)
      obtain rfl : y_8 = 3 := ey_8.trans (by decide)
      refine lv_istore (lv' := [(6, .int 3), (5, .int 20), (0, .ref mv), (1, .int 1), (2, .int 0), (3, .int x), (4, .int 2)]) hx hb dX1_run_32 hl (by decide) rfl (fun ls hl => ?_)
      refine lv_iload hx hb dX1_run_34 (lv_at hl 1 rfl) ?_
      refine lv_lookup (off := 145) (tgt := 181) hx hb dX1_run_36 (by decide) (by decide) (by decide) ?_
      refine lv_aload_n hx hb dX1_run_181 rfl (lv_at hl 2 rfl) ?_
      refine lv_iconst (v := 0) hx hb dX1_run_182 (by decide) ?_
      refine lv_iconst (v := 0) hx hb dX1_run_183 (by decide) ?_
      refine lv_iload_n hx hb dX1_run_184 rfl (lv_at hl 5 rfl) ?_
      refine lv_iload hx hb dX1_run_185 (lv_at hl 0 rfl) ?_
      skip
      refine zw_V (As := [.int 0, .int 0, .int x, .int 3]) (rest := []) (wr := []) ⟨hx, hb, hml, hown, hts⟩ (c_F_M_run_1_0_0_3 l D cI cJ cZ cP cS po mv mb (q_6) (mm) (mq) q_7 (x) (by omega) (by omega) H.size) (cwV 4 hts gX1_run_X1_run rfl rfl rfl ⟨rfl, dh_X1_run⟩ ⟨Nat.le_of_ble_eq_true rfl, Nat.le_of_ble_eq_true rfl⟩) hK hN (hZ.kept hS) hP hD hS hA [0, 1] [] rfl rfl (by decide) (by decide) (by decide) (va_recv (q := (RX1, TX1, 5)) hK hP (ci := 1) (q0 := 0) rfl rfl) rfl hl.1 rfl (Nat.le_of_ble_eq_true rfl) dX1_run_187 ⟨Nat.le_of_ble_eq_true rfl, Nat.le_of_ble_eq_true rfl⟩ (fun r_9 u_10 H locs hr_9 hP hD hS => ?_)
      obtain ⟨q_11, q_12⟩ := u_10
      try dsimp only at hr_9
      obtain ⟨hbq_11, hsr_9_0, hsr_9_1, hr_9⟩ := hr_9
      have h9R := zRe (ws' := [(mv, .inr (1, [.ref mb, .int q_11, .int 1, .int mm, .int mq])), (mb, .inl (cI, 20, .inl q_12))]) hP hD rfl
      clear hP hD
      obtain ⟨hP, hD⟩ := h9R
      refine lv_aload_n hx hb dX1_run_190 rfl (lv_at hl 2 rfl) ?_
      refine va_get (D := D) (ci := 1) (v := .int mq) (C := RX1) (T := TX1) (N := 5) hx hb hts hi_X1_run_1 hown hK hP 0 rfl rfl 4 (by decide) (hts (.fieldLink RX1 25 "TheLiningsInIt$Moves" "k" "I") (List.mem_of_getElem? (i := 3) rfl)) (fun _ h9 => h9) rfl dX1_run_191 ?_
      refine lv_iadd hx hb dX1_run_194 ?_
      refine lv_topi (fun x_13 ex_13 => ?_)
      exact W.iret (v := x_13) hx hb hr (fun t ht hW => ⟨⟨x_13, (q_11, q_12), rfl, ⟨(show q_11.toInt = mr.toInt + 2 from by omega), (show (x_13 : Int32) = ((x + mm) + mq) from by ((try rw [ex_13]); (try rw [hsr_9_0]); (try rw [ex_13]); first | done | rfl)), (show q_12 = zTr fb mr.toInt [20, 10] from by (rw [hsr_9_1]; rw [hsr_4_0]; rw [zTr_app (by (have q : (([20] : List Int32).length : Int) = 1 := rfl; omega))]; first | done | rfl)), trivial⟩, zRet ht hP hD [0, 1] (by decide) rfl⟩, hS.F ht⟩) hS.2.2 dX1_run_195
    · exact absurd c_3 (by decide)
set_option maxHeartbeats 4000000 in
set_option maxRecDepth 100000 in
theorem c_F_M_run_1_1_1_1 (l : Launch) (D : va_G) (cI cJ cZ cP cS : ClassId) (po : zPool) (mv mb : Nat) (mr mm mq : Int32) (fb : Nat → Int32) (x : Int32) (hy0 : 0 ≤ mr.toInt) (hy1 : mr.toInt ≤ 1100) (hpz : Nat) : Met l yX1_run wsX1_run ({ frames := 4, cells := 0, slots := 0, locals := 98 }) (va_Pc [.ref mv, .int 1, .int 1, .int x, .int 1] (zW D (zKT cI cJ cZ cP cS) po [(mv, .inr (1, [.ref mb, .int mr, .int 1, .int mm, .int mq])), (mb, .inl (cI, 20, .inl fb))] hpz)) (va_Qi (fun (r : Int32) (u : (Int32) × (Nat → Int32)) => u.1.toInt = mr.toInt + 3 ∧ (r = (((x + mm) + mq) * 2)) ∧ (u.2 = zTr fb mr.toInt [11, 20, 10]) ∧ (True)) (zB D [(mv, .inr (1, [.ref mb, .int mr, .int 1, .int mm, .int mq])), (mb, .inl (cI, 20, .inl fb))] hpz (fun (u : (Int32) × (Nat → Int32)) => [(mv, .inr (1, [.ref mb, .int u.1, .int 1, .int mm, .int mq])), (mb, .inl (cI, 20, .inl u.2))])) (va_A [(mv, .inr (1, [.ref mb, .int mr, .int 1, .int mm, .int mq])), (mb, .inl (cI, 20, .inl fb))] hpz)) 0 0 (va_A [(mv, .inr (1, [.ref mb, .int mr, .int 1, .int mm, .int mq])), (mb, .inl (cI, 20, .inl fb))] hpz) := by
  refine Met.ofW (cc := cX1_run) (maxL := 7) (ret := (some .int)) (by decide) rfl ?_
  intro p e s m args below meth c s₁ B hml hv
  obtain ⟨rfl, hsz, hP, hK, hD0, hN, hZ⟩ := hv
  have hx := B.exec
  have hb := B.bytes
  have hr := B.returns
  have hts := atoms_spec (ws := wsX1_run) B.pre
  have hown : s.vm.findClass RX1 = some m.cls := findClass_of_methodNamed B.named
  have hlocks := B.notSynchronized
  subst hsz
  have hD := hD0.self (sz := s.heap.size)
  have hA := zA_of hD
  have hl := lv_entry ([.ref mv, .int 1, .int 1, .int x, .int 1]) (n := 7) (Nat.le_of_ble_eq_true rfl)
  rw [lg_entry_eq]
  generalize (lg_sl ([.ref mv, .int 1, .int 1, .int x, .int 1]) ++ List.replicate (7 - (lg_sl ([.ref mv, .int 1, .int 1, .int x, .int 1])).length) Slot.unset).toArray = ls at hl ⊢
  replace hl : lv_has ls 7 [(0, .ref mv), (1, .int 1), (2, .int 1), (3, .int x), (4, .int 1)] := hl
  refine zw_begin hP hD (fun H locs hP1 hS => ?_)
  clear hP
  have hP := hP1
  clear hP1
  refine lv_iload_n hx hb dX1_run_0 rfl (lv_at hl 1 rfl) ?_
  refine lv_iload_n hx hb dX1_run_1 rfl (lv_at hl 2 rfl) ?_
  refine zc_S (As := [.int 1, .int 1]) (rest := []) ⟨hx, hb, hml, hown, hts⟩ (c_M_bodyFor_1_1 l D cI cJ cZ cP cS po  ) (va_cwS 2 hts gX1_run_X1_bodyFor rfl rfl rfl dh_X1_bodyFor ⟨Nat.le_of_ble_eq_true rfl, Nat.le_of_ble_eq_true rfl⟩) hK hN (hZ.kept hS) rfl hl.1 rfl (Nat.le_of_ble_eq_true rfl) dX1_run_2 ⟨Nat.le_of_ble_eq_true rfl, Nat.le_of_ble_eq_true rfl⟩ (fun r_1 hr_1 => ?_)
  obtain rfl := hr_1
  refine lv_istore (lv' := [(5, .int 11), (0, .ref mv), (1, .int 1), (2, .int 1), (3, .int x), (4, .int 1)]) hx hb dX1_run_5 hl (by decide) rfl (fun ls hl => ?_)
  refine lv_iload hx hb dX1_run_7 (lv_at hl 0 rfl) ?_
  refine lv_iconst (v := (-1)) hx hb dX1_run_9 (by decide) ?_
  refine lv_icmp_eq (tgt := 20) hx hb dX1_run_10 (by decide) (fun c_2 => ?_) (fun c_2 => ?_)
  · exact absurd c_2 (by decide)
  · refine lv_iload hx hb dX1_run_13 (lv_at hl 5 rfl) ?_
    refine lv_bipush (v := 40) hx hb dX1_run_15 (by decide) ?_
    refine lv_icmp_lt (tgt := 22) hx hb dX1_run_17 (by decide) (fun c_3 => ?_) (fun c_3 => ?_)
    · refine lv_aload_n hx hb dX1_run_22 rfl (lv_at hl 1 rfl) ?_
      refine lv_iload hx hb dX1_run_23 (lv_at hl 0 rfl) ?_
      skip
      refine zw_Vv (As := [.int 11]) (rest := []) (wr := []) ⟨hx, hb, hml, hown, hts⟩ (c_F_M_note l D cI cJ cZ cP cS po mv mb (mr) (1) (mm) (mq) fb (11) hy0 (by omega) H.size) (cwV 1 hts gX1_run_X1_note rfl rfl rfl ⟨rfl, dh_X1_note⟩ ⟨Nat.le_of_ble_eq_true rfl, Nat.le_of_ble_eq_true rfl⟩) hK hN (hZ.kept hS) hP hD hS hA [0, 1] [] rfl rfl (by decide) (by decide) (by decide) (va_recv (q := (RX1, TX1, 5)) hK hP (ci := 1) (q0 := 0) rfl rfl) rfl hl.1 rfl (Nat.le_of_ble_eq_true rfl) dX1_run_25 ⟨Nat.le_of_ble_eq_true rfl, Nat.le_of_ble_eq_true rfl⟩ (fun u_5 H locs hr_4 hP hD hS => ?_)
      obtain ⟨q_6, q_7⟩ := u_5
      try dsimp only at hr_4
      obtain ⟨hbq_6, hsr_4_0, hr_4⟩ := hr_4
      have h9R := zRe (ws' := [(mv, .inr (1, [.ref mb, .int q_6, .int 1, .int mm, .int mq])), (mb, .inl (cI, 20, .inl q_7))]) hP hD rfl
      clear hP hD
      obtain ⟨hP, hD⟩ := h9R
      refine lv_iload hx hb dX1_run_28 (lv_at hl 5 rfl) ?_
      refine lv_iconst (v := 1) hx hb dX1_run_30 (by decide) ?_
      refine lv_iadd hx hb dX1_run_31 ?_
      refine lv_topi (fun y_8 ey_8 => ?_)
      obtain rfl : y_8 = 2 := ey_8.trans (by decide)
      refine lv_istore (lv' := [(6, .int 2), (5, .int 11), (0, .ref mv), (1, .int 1), (2, .int 1), (3, .int x), (4, .int 1)]) hx hb dX1_run_32 hl (by decide) rfl (fun ls hl => ?_)
      refine lv_iload hx hb dX1_run_34 (lv_at hl 1 rfl) ?_
      refine lv_lookup (off := 99) (tgt := 135) hx hb dX1_run_36 (by decide) (by decide) (by decide) ?_
      refine lv_aload_n hx hb dX1_run_135 rfl (lv_at hl 2 rfl) ?_
      refine lv_aload_n hx hb dX1_run_136 rfl (lv_at hl 2 rfl) ?_
      refine va_get (D := D) (ci := 1) (v := .int 1) (C := RX1) (T := TX1) (N := 5) hx hb hts hi_X1_run_1 hown hK hP 0 rfl rfl 2 (by decide) (hts (.fieldLink RX1 19 "TheLiningsInIt$Moves" "kind" "I") (List.mem_of_getElem? (i := 2) rfl)) (fun _ h9 => h9) rfl dX1_run_137 ?_
      refine lv_iconst (v := 0) hx hb dX1_run_140 (by decide) ?_
      refine lv_iload_n hx hb dX1_run_141 rfl (lv_at hl 5 rfl) ?_
      refine lv_iload hx hb dX1_run_142 (lv_at hl 0 rfl) ?_
      skip
      refine zw_V (As := [.int 1, .int 0, .int x, .int 2]) (rest := []) (wr := []) ⟨hx, hb, hml, hown, hts⟩ (c_F_M_run_1_1_0_2 l D cI cJ cZ cP cS po mv mb (q_6) (mm) (mq) q_7 (x) (by omega) (by omega) H.size) (cwV 4 hts gX1_run_X1_run rfl rfl rfl ⟨rfl, dh_X1_run⟩ ⟨Nat.le_of_ble_eq_true rfl, Nat.le_of_ble_eq_true rfl⟩) hK hN (hZ.kept hS) hP hD hS hA [0, 1] [] rfl rfl (by decide) (by decide) (by decide) (va_recv (q := (RX1, TX1, 5)) hK hP (ci := 1) (q0 := 0) rfl rfl) rfl hl.1 rfl (Nat.le_of_ble_eq_true rfl) dX1_run_144 ⟨Nat.le_of_ble_eq_true rfl, Nat.le_of_ble_eq_true rfl⟩ (fun r_9 u_10 H locs hr_9 hP hD hS => ?_)
      obtain ⟨q_11, q_12⟩ := u_10
      try dsimp only at hr_9
      obtain ⟨hbq_11, hsr_9_0, hsr_9_1, hr_9⟩ := hr_9
      have h9R := zRe (ws' := [(mv, .inr (1, [.ref mb, .int q_11, .int 1, .int mm, .int mq])), (mb, .inl (cI, 20, .inl q_12))]) hP hD rfl
      clear hP hD
      obtain ⟨hP, hD⟩ := h9R
      refine lv_iconst (v := 2) hx hb dX1_run_147 (by decide) ?_
      refine lv_imul hx hb dX1_run_148 ?_
      refine lv_topi (fun x_13 ex_13 => ?_)
      exact W.iret (v := x_13) hx hb hr (fun t ht hW => ⟨⟨x_13, (q_11, q_12), rfl, ⟨(show q_11.toInt = mr.toInt + 3 from by omega), (show (x_13 : Int32) = (((x + mm) + mq) * 2) from by ((try rw [ex_13]); (try rw [hsr_9_0]); (try rw [ex_13]); first | done | rfl)), (show q_12 = zTr fb mr.toInt [11, 20, 10] from by (rw [hsr_9_1]; rw [hsr_4_0]; rw [zTr_app (by (have q : (([11] : List Int32).length : Int) = 1 := rfl; omega))]; first | done | rfl)), trivial⟩, zRet ht hP hD [0, 1] (by decide) rfl⟩, hS.F ht⟩) hS.2.2 dX1_run_149
    · exact absurd c_3 (by decide)
set_option maxHeartbeats 4000000 in
set_option maxRecDepth 100000 in
theorem c_F_M_run_1_1_2_0 (l : Launch) (D : va_G) (cI cJ cZ cP cS : ClassId) (po : zPool) (mv mb : Nat) (mr mm mq : Int32) (fb : Nat → Int32) (x : Int32) (hy0 : 0 ≤ mr.toInt) (hy1 : mr.toInt ≤ 1000) (hpz : Nat) : Met l yX1_run wsX1_run ({ frames := 5, cells := 0, slots := 0, locals := 124 }) (va_Pc [.ref mv, .int 1, .int 2, .int x, .int 0] (zW D (zKT cI cJ cZ cP cS) po [(mv, .inr (1, [.ref mb, .int mr, .int 1, .int mm, .int mq])), (mb, .inl (cI, 20, .inl fb))] hpz)) (va_Qi (fun (r : Int32) (u : (Int32) × (Nat → Int32)) => u.1.toInt = mr.toInt + 6 ∧ (r = ((((x + mm) + mq) * 2) ^^^ (((x - mq) + mm) + mq))) ∧ (u.2 = zTr fb mr.toInt [12, 11, 20, 10, 20, 10]) ∧ (True)) (zB D [(mv, .inr (1, [.ref mb, .int mr, .int 1, .int mm, .int mq])), (mb, .inl (cI, 20, .inl fb))] hpz (fun (u : (Int32) × (Nat → Int32)) => [(mv, .inr (1, [.ref mb, .int u.1, .int 1, .int mm, .int mq])), (mb, .inl (cI, 20, .inl u.2))])) (va_A [(mv, .inr (1, [.ref mb, .int mr, .int 1, .int mm, .int mq])), (mb, .inl (cI, 20, .inl fb))] hpz)) 0 0 (va_A [(mv, .inr (1, [.ref mb, .int mr, .int 1, .int mm, .int mq])), (mb, .inl (cI, 20, .inl fb))] hpz) := by
  refine Met.ofW (cc := cX1_run) (maxL := 7) (ret := (some .int)) (by decide) rfl ?_
  intro p e s m args below meth c s₁ B hml hv
  obtain ⟨rfl, hsz, hP, hK, hD0, hN, hZ⟩ := hv
  have hx := B.exec
  have hb := B.bytes
  have hr := B.returns
  have hts := atoms_spec (ws := wsX1_run) B.pre
  have hown : s.vm.findClass RX1 = some m.cls := findClass_of_methodNamed B.named
  have hlocks := B.notSynchronized
  subst hsz
  have hD := hD0.self (sz := s.heap.size)
  have hA := zA_of hD
  have hl := lv_entry ([.ref mv, .int 1, .int 2, .int x, .int 0]) (n := 7) (Nat.le_of_ble_eq_true rfl)
  rw [lg_entry_eq]
  generalize (lg_sl ([.ref mv, .int 1, .int 2, .int x, .int 0]) ++ List.replicate (7 - (lg_sl ([.ref mv, .int 1, .int 2, .int x, .int 0])).length) Slot.unset).toArray = ls at hl ⊢
  replace hl : lv_has ls 7 [(0, .ref mv), (1, .int 1), (2, .int 2), (3, .int x), (4, .int 0)] := hl
  refine zw_begin hP hD (fun H locs hP1 hS => ?_)
  clear hP
  have hP := hP1
  clear hP1
  refine lv_iload_n hx hb dX1_run_0 rfl (lv_at hl 1 rfl) ?_
  refine lv_iload_n hx hb dX1_run_1 rfl (lv_at hl 2 rfl) ?_
  refine zc_S (As := [.int 1, .int 2]) (rest := []) ⟨hx, hb, hml, hown, hts⟩ (c_M_bodyFor_1_2 l D cI cJ cZ cP cS po  ) (va_cwS 2 hts gX1_run_X1_bodyFor rfl rfl rfl dh_X1_bodyFor ⟨Nat.le_of_ble_eq_true rfl, Nat.le_of_ble_eq_true rfl⟩) hK hN (hZ.kept hS) rfl hl.1 rfl (Nat.le_of_ble_eq_true rfl) dX1_run_2 ⟨Nat.le_of_ble_eq_true rfl, Nat.le_of_ble_eq_true rfl⟩ (fun r_1 hr_1 => ?_)
  obtain rfl := hr_1
  refine lv_istore (lv' := [(5, .int 12), (0, .ref mv), (1, .int 1), (2, .int 2), (3, .int x), (4, .int 0)]) hx hb dX1_run_5 hl (by decide) rfl (fun ls hl => ?_)
  refine lv_iload hx hb dX1_run_7 (lv_at hl 0 rfl) ?_
  refine lv_iconst (v := (-1)) hx hb dX1_run_9 (by decide) ?_
  refine lv_icmp_eq (tgt := 20) hx hb dX1_run_10 (by decide) (fun c_2 => ?_) (fun c_2 => ?_)
  · exact absurd c_2 (by decide)
  · refine lv_iload hx hb dX1_run_13 (lv_at hl 5 rfl) ?_
    refine lv_bipush (v := 40) hx hb dX1_run_15 (by decide) ?_
    refine lv_icmp_lt (tgt := 22) hx hb dX1_run_17 (by decide) (fun c_3 => ?_) (fun c_3 => ?_)
    · refine lv_aload_n hx hb dX1_run_22 rfl (lv_at hl 1 rfl) ?_
      refine lv_iload hx hb dX1_run_23 (lv_at hl 0 rfl) ?_
      skip
      refine zw_Vv (As := [.int 12]) (rest := []) (wr := []) ⟨hx, hb, hml, hown, hts⟩ (c_F_M_note l D cI cJ cZ cP cS po mv mb (mr) (1) (mm) (mq) fb (12) hy0 (by omega) H.size) (cwV 1 hts gX1_run_X1_note rfl rfl rfl ⟨rfl, dh_X1_note⟩ ⟨Nat.le_of_ble_eq_true rfl, Nat.le_of_ble_eq_true rfl⟩) hK hN (hZ.kept hS) hP hD hS hA [0, 1] [] rfl rfl (by decide) (by decide) (by decide) (va_recv (q := (RX1, TX1, 5)) hK hP (ci := 1) (q0 := 0) rfl rfl) rfl hl.1 rfl (Nat.le_of_ble_eq_true rfl) dX1_run_25 ⟨Nat.le_of_ble_eq_true rfl, Nat.le_of_ble_eq_true rfl⟩ (fun u_5 H locs hr_4 hP hD hS => ?_)
      obtain ⟨q_6, q_7⟩ := u_5
      try dsimp only at hr_4
      obtain ⟨hbq_6, hsr_4_0, hr_4⟩ := hr_4
      have h9R := zRe (ws' := [(mv, .inr (1, [.ref mb, .int q_6, .int 1, .int mm, .int mq])), (mb, .inl (cI, 20, .inl q_7))]) hP hD rfl
      clear hP hD
      obtain ⟨hP, hD⟩ := h9R
      refine lv_iload hx hb dX1_run_28 (lv_at hl 5 rfl) ?_
      refine lv_iconst (v := 1) hx hb dX1_run_30 (by decide) ?_
      refine lv_iadd hx hb dX1_run_31 ?_
      refine lv_topi (fun y_8 ey_8 => ?_)
      obtain rfl : y_8 = 1 := ey_8.trans (by decide)
      refine lv_istore (lv' := [(6, .int 1), (5, .int 12), (0, .ref mv), (1, .int 1), (2, .int 2), (3, .int x), (4, .int 0)]) hx hb dX1_run_32 hl (by decide) rfl (fun ls hl => ?_)
      refine lv_iload hx hb dX1_run_34 (lv_at hl 1 rfl) ?_
      refine lv_lookup (off := 114) (tgt := 150) hx hb dX1_run_36 (by decide) (by decide) (by decide) ?_
      refine lv_aload_n hx hb dX1_run_150 rfl (lv_at hl 2 rfl) ?_
      refine lv_aload_n hx hb dX1_run_151 rfl (lv_at hl 2 rfl) ?_
      refine va_get (D := D) (ci := 1) (v := .int 1) (C := RX1) (T := TX1) (N := 5) hx hb hts hi_X1_run_1 hown hK hP 0 rfl rfl 2 (by decide) (hts (.fieldLink RX1 19 "TheLiningsInIt$Moves" "kind" "I") (List.mem_of_getElem? (i := 2) rfl)) (fun _ h9 => h9) rfl dX1_run_152 ?_
      refine lv_iconst (v := 1) hx hb dX1_run_155 (by decide) ?_
      refine lv_iload_n hx hb dX1_run_156 rfl (lv_at hl 5 rfl) ?_
      refine lv_iload hx hb dX1_run_157 (lv_at hl 0 rfl) ?_
      skip
      refine zw_V (As := [.int 1, .int 1, .int x, .int 1]) (rest := []) (wr := []) ⟨hx, hb, hml, hown, hts⟩ (c_F_M_run_1_1_1_1 l D cI cJ cZ cP cS po mv mb (q_6) (mm) (mq) q_7 (x) (by omega) (by omega) H.size) (cwV 4 hts gX1_run_X1_run rfl rfl rfl ⟨rfl, dh_X1_run⟩ ⟨Nat.le_of_ble_eq_true rfl, Nat.le_of_ble_eq_true rfl⟩) hK hN (hZ.kept hS) hP hD hS hA [0, 1] [] rfl rfl (by decide) (by decide) (by decide) (va_recv (q := (RX1, TX1, 5)) hK hP (ci := 1) (q0 := 0) rfl rfl) rfl hl.1 rfl (Nat.le_of_ble_eq_true rfl) dX1_run_159 ⟨Nat.le_of_ble_eq_true rfl, Nat.le_of_ble_eq_true rfl⟩ (fun r_9 u_10 H locs hr_9 hP hD hS => ?_)
      obtain ⟨q_11, q_12⟩ := u_10
      try dsimp only at hr_9
      obtain ⟨hbq_11, hsr_9_0, hsr_9_1, hr_9⟩ := hr_9
      have h9R := zRe (ws' := [(mv, .inr (1, [.ref mb, .int q_11, .int 1, .int mm, .int mq])), (mb, .inl (cI, 20, .inl q_12))]) hP hD rfl
      clear hP hD
      obtain ⟨hP, hD⟩ := h9R
      refine lv_aload_n hx hb dX1_run_162 rfl (lv_at hl 2 rfl) ?_
      refine lv_aload_n hx hb dX1_run_163 rfl (lv_at hl 2 rfl) ?_
      refine va_get (D := D) (ci := 1) (v := .int 1) (C := RX1) (T := TX1) (N := 5) hx hb hts hi_X1_run_1 hown hK hP 0 rfl rfl 2 (by decide) (hts (.fieldLink RX1 19 "TheLiningsInIt$Moves" "kind" "I") (List.mem_of_getElem? (i := 2) rfl)) (fun _ h9 => h9) rfl dX1_run_164 ?_
      refine lv_iconst (v := 0) hx hb dX1_run_167 (by decide) ?_
      refine lv_iload_n hx hb dX1_run_168 rfl (lv_at hl 5 rfl) ?_
      refine lv_aload_n hx hb dX1_run_169 rfl (lv_at hl 2 rfl) ?_
      refine va_get (D := D) (ci := 1) (v := .int mq) (C := RX1) (T := TX1) (N := 5) hx hb hts hi_X1_run_1 hown hK hP 0 rfl rfl 4 (by decide) (hts (.fieldLink RX1 25 "TheLiningsInIt$Moves" "k" "I") (List.mem_of_getElem? (i := 3) rfl)) (fun _ h9 => h9) rfl dX1_run_170 ?_
      refine lv_isub hx hb dX1_run_173 ?_
      refine lv_topi (fun x_13 ex_13 => ?_)
      refine lv_iload hx hb dX1_run_174 (lv_at hl 0 rfl) ?_
      skip
      refine zw_V (As := [.int 1, .int 0, .int x_13, .int 1]) (rest := [.int r_9]) (wr := []) ⟨hx, hb, hml, hown, hts⟩ (c_F_M_run_1_1_0_1 l D cI cJ cZ cP cS po mv mb (q_11) (mm) (mq) q_12 (x_13) (by omega) (by omega) H.size) (cwV 4 hts gX1_run_X1_run rfl rfl rfl ⟨rfl, dh_X1_run⟩ ⟨Nat.le_of_ble_eq_true rfl, Nat.le_of_ble_eq_true rfl⟩) hK hN (hZ.kept hS) hP hD hS hA [0, 1] [] rfl rfl (by decide) (by decide) (by decide) (va_recv (q := (RX1, TX1, 5)) hK hP (ci := 1) (q0 := 0) rfl rfl) rfl hl.1 rfl (Nat.le_of_ble_eq_true rfl) dX1_run_176 ⟨Nat.le_of_ble_eq_true rfl, Nat.le_of_ble_eq_true rfl⟩ (fun r_14 u_15 H locs hr_14 hP hD hS => ?_)
      obtain ⟨q_16, q_17⟩ := u_15
      try dsimp only at hr_14
      obtain ⟨hbq_16, hsr_14_0, hsr_14_1, hr_14⟩ := hr_14
      have h9R := zRe (ws' := [(mv, .inr (1, [.ref mb, .int q_16, .int 1, .int mm, .int mq])), (mb, .inl (cI, 20, .inl q_17))]) hP hD rfl
      clear hP hD
      obtain ⟨hP, hD⟩ := h9R
      refine lv_ixor hx hb dX1_run_179 ?_
      refine lv_topi (fun x_18 ex_18 => ?_)
      exact W.iret (v := x_18) hx hb hr (fun t ht hW => ⟨⟨x_18, (q_16, q_17), rfl, ⟨(show q_16.toInt = mr.toInt + 6 from by omega), (show (x_18 : Int32) = ((((x + mm) + mq) * 2) ^^^ (((x - mq) + mm) + mq)) from by ((try rw [ex_18]); (try rw [ex_13]); (try rw [hsr_9_0]); (try rw [hsr_14_0]); (try rw [ex_18]); (try rw [ex_13]); first | done | rfl)), (show q_17 = zTr fb mr.toInt [12, 11, 20, 10, 20, 10] from by (rw [hsr_14_1]; rw [hsr_9_1]; rw [hsr_4_0]; rw [zTr_app (by (have q : (([11, 20, 10] : List Int32).length : Int) = 3 := rfl; omega))]; rw [zTr_app (by (have q : (([12] : List Int32).length : Int) = 1 := rfl; omega))]; first | done | rfl)), trivial⟩, zRet ht hP hD [0, 1] (by decide) rfl⟩, hS.F ht⟩) hS.2.2 dX1_run_180
    · exact absurd c_3 (by decide)
set_option maxHeartbeats 4000000 in
set_option maxRecDepth 100000 in
theorem c_F_M_run_2_2_0_0 (l : Launch) (D : va_G) (cI cJ cZ cP cS : ClassId) (po : zPool) (mv mb : Nat) (mr mm mq : Int32) (fb : Nat → Int32) (x : Int32) (hy0 : 0 ≤ mr.toInt) (hy1 : mr.toInt ≤ 1000) (hpz : Nat) : Met l yX1_run wsX1_run ({ frames := 2, cells := 0, slots := 0, locals := 46 }) (va_Pc [.ref mv, .int 2, .int 0, .int x, .int 0] (zW D (zKT cI cJ cZ cP cS) po [(mv, .inr (1, [.ref mb, .int mr, .int 2, .int mm, .int mq])), (mb, .inl (cI, 20, .inl fb))] hpz)) (va_Qi (fun (r : Int32) (u : (Int32) × (Nat → Int32)) => u.1.toInt = mr.toInt + 1 ∧ (r = (x + mm)) ∧ (u.2 = zTr fb mr.toInt [10]) ∧ (True)) (zB D [(mv, .inr (1, [.ref mb, .int mr, .int 2, .int mm, .int mq])), (mb, .inl (cI, 20, .inl fb))] hpz (fun (u : (Int32) × (Nat → Int32)) => [(mv, .inr (1, [.ref mb, .int u.1, .int 2, .int mm, .int mq])), (mb, .inl (cI, 20, .inl u.2))])) (va_A [(mv, .inr (1, [.ref mb, .int mr, .int 2, .int mm, .int mq])), (mb, .inl (cI, 20, .inl fb))] hpz)) 0 0 (va_A [(mv, .inr (1, [.ref mb, .int mr, .int 2, .int mm, .int mq])), (mb, .inl (cI, 20, .inl fb))] hpz) := by
  refine Met.ofW (cc := cX1_run) (maxL := 7) (ret := (some .int)) (by decide) rfl ?_
  intro p e s m args below meth c s₁ B hml hv
  obtain ⟨rfl, hsz, hP, hK, hD0, hN, hZ⟩ := hv
  have hx := B.exec
  have hb := B.bytes
  have hr := B.returns
  have hts := atoms_spec (ws := wsX1_run) B.pre
  have hown : s.vm.findClass RX1 = some m.cls := findClass_of_methodNamed B.named
  have hlocks := B.notSynchronized
  subst hsz
  have hD := hD0.self (sz := s.heap.size)
  have hA := zA_of hD
  have hl := lv_entry ([.ref mv, .int 2, .int 0, .int x, .int 0]) (n := 7) (Nat.le_of_ble_eq_true rfl)
  rw [lg_entry_eq]
  generalize (lg_sl ([.ref mv, .int 2, .int 0, .int x, .int 0]) ++ List.replicate (7 - (lg_sl ([.ref mv, .int 2, .int 0, .int x, .int 0])).length) Slot.unset).toArray = ls at hl ⊢
  replace hl : lv_has ls 7 [(0, .ref mv), (1, .int 2), (2, .int 0), (3, .int x), (4, .int 0)] := hl
  refine zw_begin hP hD (fun H locs hP1 hS => ?_)
  clear hP
  have hP := hP1
  clear hP1
  refine lv_iload_n hx hb dX1_run_0 rfl (lv_at hl 1 rfl) ?_
  refine lv_iload_n hx hb dX1_run_1 rfl (lv_at hl 2 rfl) ?_
  refine zc_S (As := [.int 2, .int 0]) (rest := []) ⟨hx, hb, hml, hown, hts⟩ (c_M_bodyFor_2_0 l D cI cJ cZ cP cS po  ) (va_cwS 2 hts gX1_run_X1_bodyFor rfl rfl rfl dh_X1_bodyFor ⟨Nat.le_of_ble_eq_true rfl, Nat.le_of_ble_eq_true rfl⟩) hK hN (hZ.kept hS) rfl hl.1 rfl (Nat.le_of_ble_eq_true rfl) dX1_run_2 ⟨Nat.le_of_ble_eq_true rfl, Nat.le_of_ble_eq_true rfl⟩ (fun r_1 hr_1 => ?_)
  obtain rfl := hr_1
  refine lv_istore (lv' := [(5, .int 10), (0, .ref mv), (1, .int 2), (2, .int 0), (3, .int x), (4, .int 0)]) hx hb dX1_run_5 hl (by decide) rfl (fun ls hl => ?_)
  refine lv_iload hx hb dX1_run_7 (lv_at hl 0 rfl) ?_
  refine lv_iconst (v := (-1)) hx hb dX1_run_9 (by decide) ?_
  refine lv_icmp_eq (tgt := 20) hx hb dX1_run_10 (by decide) (fun c_2 => ?_) (fun c_2 => ?_)
  · exact absurd c_2 (by decide)
  · refine lv_iload hx hb dX1_run_13 (lv_at hl 5 rfl) ?_
    refine lv_bipush (v := 40) hx hb dX1_run_15 (by decide) ?_
    refine lv_icmp_lt (tgt := 22) hx hb dX1_run_17 (by decide) (fun c_3 => ?_) (fun c_3 => ?_)
    · refine lv_aload_n hx hb dX1_run_22 rfl (lv_at hl 1 rfl) ?_
      refine lv_iload hx hb dX1_run_23 (lv_at hl 0 rfl) ?_
      skip
      refine zw_Vv (As := [.int 10]) (rest := []) (wr := []) ⟨hx, hb, hml, hown, hts⟩ (c_F_M_note l D cI cJ cZ cP cS po mv mb (mr) (2) (mm) (mq) fb (10) hy0 (by omega) H.size) (cwV 1 hts gX1_run_X1_note rfl rfl rfl ⟨rfl, dh_X1_note⟩ ⟨Nat.le_of_ble_eq_true rfl, Nat.le_of_ble_eq_true rfl⟩) hK hN (hZ.kept hS) hP hD hS hA [0, 1] [] rfl rfl (by decide) (by decide) (by decide) (va_recv (q := (RX1, TX1, 5)) hK hP (ci := 1) (q0 := 0) rfl rfl) rfl hl.1 rfl (Nat.le_of_ble_eq_true rfl) dX1_run_25 ⟨Nat.le_of_ble_eq_true rfl, Nat.le_of_ble_eq_true rfl⟩ (fun u_5 H locs hr_4 hP hD hS => ?_)
      obtain ⟨q_6, q_7⟩ := u_5
      try dsimp only at hr_4
      obtain ⟨hbq_6, hsr_4_0, hr_4⟩ := hr_4
      have h9R := zRe (ws' := [(mv, .inr (1, [.ref mb, .int q_6, .int 2, .int mm, .int mq])), (mb, .inl (cI, 20, .inl q_7))]) hP hD rfl
      clear hP hD
      obtain ⟨hP, hD⟩ := h9R
      refine lv_iload hx hb dX1_run_28 (lv_at hl 5 rfl) ?_
      refine lv_iconst (v := 1) hx hb dX1_run_30 (by decide) ?_
      refine lv_iadd hx hb dX1_run_31 ?_
      refine lv_topi (fun y_8 ey_8 => ?_)
      obtain rfl : y_8 = 1 := ey_8.trans (by decide)
      refine lv_istore (lv' := [(6, .int 1), (5, .int 10), (0, .ref mv), (1, .int 2), (2, .int 0), (3, .int x), (4, .int 0)]) hx hb dX1_run_32 hl (by decide) rfl (fun ls hl => ?_)
      refine lv_iload hx hb dX1_run_34 (lv_at hl 1 rfl) ?_
      refine lv_lookup (off := 92) (tgt := 128) hx hb dX1_run_36 (by decide) (by decide) (by decide) ?_
      refine lv_iload_n hx hb dX1_run_128 rfl (lv_at hl 5 rfl) ?_
      refine lv_aload_n hx hb dX1_run_129 rfl (lv_at hl 2 rfl) ?_
      refine va_get (D := D) (ci := 1) (v := .int mm) (C := RX1) (T := TX1) (N := 5) hx hb hts hi_X1_run_1 hown hK hP 0 rfl rfl 3 (by decide) (hts (.fieldLink RX1 22 "TheLiningsInIt$Moves" "m" "I") (List.mem_of_getElem? (i := 1) rfl)) (fun _ h9 => h9) rfl dX1_run_130 ?_
      refine lv_iadd hx hb dX1_run_133 ?_
      refine lv_topi (fun x_9 ex_9 => ?_)
      exact W.iret (v := x_9) hx hb hr (fun t ht hW => ⟨⟨x_9, (q_6, q_7), rfl, ⟨(show q_6.toInt = mr.toInt + 1 from by omega), (show (x_9 : Int32) = (x + mm) from by ((try rw [ex_9]); (try rw [ex_9]); first | done | rfl)), (show q_7 = zTr fb mr.toInt [10] from by (rw [hsr_4_0]; first | done | rfl)), trivial⟩, zRet ht hP hD [0, 1] (by decide) rfl⟩, hS.F ht⟩) hS.2.2 dX1_run_134
    · exact absurd c_3 (by decide)
set_option maxHeartbeats 4000000 in
set_option maxRecDepth 100000 in
theorem c_F_M_run_2_2_0_2 (l : Launch) (D : va_G) (cI cJ cZ cP cS : ClassId) (po : zPool) (mv mb : Nat) (mr mm mq : Int32) (fb : Nat → Int32) (x : Int32) (hy0 : 0 ≤ mr.toInt) (hy1 : mr.toInt ≤ 1200) (hpz : Nat) : Met l yX1_run wsX1_run ({ frames := 2, cells := 0, slots := 0, locals := 46 }) (va_Pc [.ref mv, .int 2, .int 0, .int x, .int 2] (zW D (zKT cI cJ cZ cP cS) po [(mv, .inr (1, [.ref mb, .int mr, .int 2, .int mm, .int mq])), (mb, .inl (cI, 20, .inl fb))] hpz)) (va_Qi (fun (r : Int32) (u : (Int32) × (Nat → Int32)) => u.1.toInt = mr.toInt + 1 ∧ (r = (x + mm)) ∧ (u.2 = zTr fb mr.toInt [10]) ∧ (True)) (zB D [(mv, .inr (1, [.ref mb, .int mr, .int 2, .int mm, .int mq])), (mb, .inl (cI, 20, .inl fb))] hpz (fun (u : (Int32) × (Nat → Int32)) => [(mv, .inr (1, [.ref mb, .int u.1, .int 2, .int mm, .int mq])), (mb, .inl (cI, 20, .inl u.2))])) (va_A [(mv, .inr (1, [.ref mb, .int mr, .int 2, .int mm, .int mq])), (mb, .inl (cI, 20, .inl fb))] hpz)) 0 0 (va_A [(mv, .inr (1, [.ref mb, .int mr, .int 2, .int mm, .int mq])), (mb, .inl (cI, 20, .inl fb))] hpz) := by
  refine Met.ofW (cc := cX1_run) (maxL := 7) (ret := (some .int)) (by decide) rfl ?_
  intro p e s m args below meth c s₁ B hml hv
  obtain ⟨rfl, hsz, hP, hK, hD0, hN, hZ⟩ := hv
  have hx := B.exec
  have hb := B.bytes
  have hr := B.returns
  have hts := atoms_spec (ws := wsX1_run) B.pre
  have hown : s.vm.findClass RX1 = some m.cls := findClass_of_methodNamed B.named
  have hlocks := B.notSynchronized
  subst hsz
  have hD := hD0.self (sz := s.heap.size)
  have hA := zA_of hD
  have hl := lv_entry ([.ref mv, .int 2, .int 0, .int x, .int 2]) (n := 7) (Nat.le_of_ble_eq_true rfl)
  rw [lg_entry_eq]
  generalize (lg_sl ([.ref mv, .int 2, .int 0, .int x, .int 2]) ++ List.replicate (7 - (lg_sl ([.ref mv, .int 2, .int 0, .int x, .int 2])).length) Slot.unset).toArray = ls at hl ⊢
  replace hl : lv_has ls 7 [(0, .ref mv), (1, .int 2), (2, .int 0), (3, .int x), (4, .int 2)] := hl
  refine zw_begin hP hD (fun H locs hP1 hS => ?_)
  clear hP
  have hP := hP1
  clear hP1
  refine lv_iload_n hx hb dX1_run_0 rfl (lv_at hl 1 rfl) ?_
  refine lv_iload_n hx hb dX1_run_1 rfl (lv_at hl 2 rfl) ?_
  refine zc_S (As := [.int 2, .int 0]) (rest := []) ⟨hx, hb, hml, hown, hts⟩ (c_M_bodyFor_2_0 l D cI cJ cZ cP cS po  ) (va_cwS 2 hts gX1_run_X1_bodyFor rfl rfl rfl dh_X1_bodyFor ⟨Nat.le_of_ble_eq_true rfl, Nat.le_of_ble_eq_true rfl⟩) hK hN (hZ.kept hS) rfl hl.1 rfl (Nat.le_of_ble_eq_true rfl) dX1_run_2 ⟨Nat.le_of_ble_eq_true rfl, Nat.le_of_ble_eq_true rfl⟩ (fun r_1 hr_1 => ?_)
  obtain rfl := hr_1
  refine lv_istore (lv' := [(5, .int 10), (0, .ref mv), (1, .int 2), (2, .int 0), (3, .int x), (4, .int 2)]) hx hb dX1_run_5 hl (by decide) rfl (fun ls hl => ?_)
  refine lv_iload hx hb dX1_run_7 (lv_at hl 0 rfl) ?_
  refine lv_iconst (v := (-1)) hx hb dX1_run_9 (by decide) ?_
  refine lv_icmp_eq (tgt := 20) hx hb dX1_run_10 (by decide) (fun c_2 => ?_) (fun c_2 => ?_)
  · exact absurd c_2 (by decide)
  · refine lv_iload hx hb dX1_run_13 (lv_at hl 5 rfl) ?_
    refine lv_bipush (v := 40) hx hb dX1_run_15 (by decide) ?_
    refine lv_icmp_lt (tgt := 22) hx hb dX1_run_17 (by decide) (fun c_3 => ?_) (fun c_3 => ?_)
    · refine lv_aload_n hx hb dX1_run_22 rfl (lv_at hl 1 rfl) ?_
      refine lv_iload hx hb dX1_run_23 (lv_at hl 0 rfl) ?_
      skip
      refine zw_Vv (As := [.int 10]) (rest := []) (wr := []) ⟨hx, hb, hml, hown, hts⟩ (c_F_M_note l D cI cJ cZ cP cS po mv mb (mr) (2) (mm) (mq) fb (10) hy0 (by omega) H.size) (cwV 1 hts gX1_run_X1_note rfl rfl rfl ⟨rfl, dh_X1_note⟩ ⟨Nat.le_of_ble_eq_true rfl, Nat.le_of_ble_eq_true rfl⟩) hK hN (hZ.kept hS) hP hD hS hA [0, 1] [] rfl rfl (by decide) (by decide) (by decide) (va_recv (q := (RX1, TX1, 5)) hK hP (ci := 1) (q0 := 0) rfl rfl) rfl hl.1 rfl (Nat.le_of_ble_eq_true rfl) dX1_run_25 ⟨Nat.le_of_ble_eq_true rfl, Nat.le_of_ble_eq_true rfl⟩ (fun u_5 H locs hr_4 hP hD hS => ?_)
      obtain ⟨q_6, q_7⟩ := u_5
      try dsimp only at hr_4
      obtain ⟨hbq_6, hsr_4_0, hr_4⟩ := hr_4
      have h9R := zRe (ws' := [(mv, .inr (1, [.ref mb, .int q_6, .int 2, .int mm, .int mq])), (mb, .inl (cI, 20, .inl q_7))]) hP hD rfl
      clear hP hD
      obtain ⟨hP, hD⟩ := h9R
      refine lv_iload hx hb dX1_run_28 (lv_at hl 5 rfl) ?_
      refine lv_iconst (v := 1) hx hb dX1_run_30 (by decide) ?_
      refine lv_iadd hx hb dX1_run_31 ?_
      refine lv_topi (fun y_8 ey_8 => ?_)
      obtain rfl : y_8 = 3 := ey_8.trans (by decide)
      refine lv_istore (lv' := [(6, .int 3), (5, .int 10), (0, .ref mv), (1, .int 2), (2, .int 0), (3, .int x), (4, .int 2)]) hx hb dX1_run_32 hl (by decide) rfl (fun ls hl => ?_)
      refine lv_iload hx hb dX1_run_34 (lv_at hl 1 rfl) ?_
      refine lv_lookup (off := 92) (tgt := 128) hx hb dX1_run_36 (by decide) (by decide) (by decide) ?_
      refine lv_iload_n hx hb dX1_run_128 rfl (lv_at hl 5 rfl) ?_
      refine lv_aload_n hx hb dX1_run_129 rfl (lv_at hl 2 rfl) ?_
      refine va_get (D := D) (ci := 1) (v := .int mm) (C := RX1) (T := TX1) (N := 5) hx hb hts hi_X1_run_1 hown hK hP 0 rfl rfl 3 (by decide) (hts (.fieldLink RX1 22 "TheLiningsInIt$Moves" "m" "I") (List.mem_of_getElem? (i := 1) rfl)) (fun _ h9 => h9) rfl dX1_run_130 ?_
      refine lv_iadd hx hb dX1_run_133 ?_
      refine lv_topi (fun x_9 ex_9 => ?_)
      exact W.iret (v := x_9) hx hb hr (fun t ht hW => ⟨⟨x_9, (q_6, q_7), rfl, ⟨(show q_6.toInt = mr.toInt + 1 from by omega), (show (x_9 : Int32) = (x + mm) from by ((try rw [ex_9]); (try rw [ex_9]); first | done | rfl)), (show q_7 = zTr fb mr.toInt [10] from by (rw [hsr_4_0]; first | done | rfl)), trivial⟩, zRet ht hP hD [0, 1] (by decide) rfl⟩, hS.F ht⟩) hS.2.2 dX1_run_134
    · exact absurd c_3 (by decide)
set_option maxHeartbeats 4000000 in
set_option maxRecDepth 100000 in
theorem c_F_M_run_2_0_1_1 (l : Launch) (D : va_G) (cI cJ cZ cP cS : ClassId) (po : zPool) (mv mb : Nat) (mr mm mq : Int32) (fb : Nat → Int32) (x : Int32) (hy0 : 0 ≤ mr.toInt) (hy1 : mr.toInt ≤ 1100) (hpz : Nat) : Met l yX1_run wsX1_run ({ frames := 3, cells := 0, slots := 0, locals := 72 }) (va_Pc [.ref mv, .int 0, .int 1, .int x, .int 1] (zW D (zKT cI cJ cZ cP cS) po [(mv, .inr (1, [.ref mb, .int mr, .int 2, .int mm, .int mq])), (mb, .inl (cI, 20, .inl fb))] hpz)) (va_Qi (fun (r : Int32) (u : (Int32) × (Nat → Int32)) => u.1.toInt = mr.toInt + 2 ∧ (r = ((x + mm) * 2)) ∧ (u.2 = zTr fb mr.toInt [11, 10]) ∧ (True)) (zB D [(mv, .inr (1, [.ref mb, .int mr, .int 2, .int mm, .int mq])), (mb, .inl (cI, 20, .inl fb))] hpz (fun (u : (Int32) × (Nat → Int32)) => [(mv, .inr (1, [.ref mb, .int u.1, .int 2, .int mm, .int mq])), (mb, .inl (cI, 20, .inl u.2))])) (va_A [(mv, .inr (1, [.ref mb, .int mr, .int 2, .int mm, .int mq])), (mb, .inl (cI, 20, .inl fb))] hpz)) 0 0 (va_A [(mv, .inr (1, [.ref mb, .int mr, .int 2, .int mm, .int mq])), (mb, .inl (cI, 20, .inl fb))] hpz) := by
  refine Met.ofW (cc := cX1_run) (maxL := 7) (ret := (some .int)) (by decide) rfl ?_
  intro p e s m args below meth c s₁ B hml hv
  obtain ⟨rfl, hsz, hP, hK, hD0, hN, hZ⟩ := hv
  have hx := B.exec
  have hb := B.bytes
  have hr := B.returns
  have hts := atoms_spec (ws := wsX1_run) B.pre
  have hown : s.vm.findClass RX1 = some m.cls := findClass_of_methodNamed B.named
  have hlocks := B.notSynchronized
  subst hsz
  have hD := hD0.self (sz := s.heap.size)
  have hA := zA_of hD
  have hl := lv_entry ([.ref mv, .int 0, .int 1, .int x, .int 1]) (n := 7) (Nat.le_of_ble_eq_true rfl)
  rw [lg_entry_eq]
  generalize (lg_sl ([.ref mv, .int 0, .int 1, .int x, .int 1]) ++ List.replicate (7 - (lg_sl ([.ref mv, .int 0, .int 1, .int x, .int 1])).length) Slot.unset).toArray = ls at hl ⊢
  replace hl : lv_has ls 7 [(0, .ref mv), (1, .int 0), (2, .int 1), (3, .int x), (4, .int 1)] := hl
  refine zw_begin hP hD (fun H locs hP1 hS => ?_)
  clear hP
  have hP := hP1
  clear hP1
  refine lv_iload_n hx hb dX1_run_0 rfl (lv_at hl 1 rfl) ?_
  refine lv_iload_n hx hb dX1_run_1 rfl (lv_at hl 2 rfl) ?_
  refine zc_S (As := [.int 0, .int 1]) (rest := []) ⟨hx, hb, hml, hown, hts⟩ (c_M_bodyFor_0_1 l D cI cJ cZ cP cS po  ) (va_cwS 2 hts gX1_run_X1_bodyFor rfl rfl rfl dh_X1_bodyFor ⟨Nat.le_of_ble_eq_true rfl, Nat.le_of_ble_eq_true rfl⟩) hK hN (hZ.kept hS) rfl hl.1 rfl (Nat.le_of_ble_eq_true rfl) dX1_run_2 ⟨Nat.le_of_ble_eq_true rfl, Nat.le_of_ble_eq_true rfl⟩ (fun r_1 hr_1 => ?_)
  obtain rfl := hr_1
  refine lv_istore (lv' := [(5, .int 11), (0, .ref mv), (1, .int 0), (2, .int 1), (3, .int x), (4, .int 1)]) hx hb dX1_run_5 hl (by decide) rfl (fun ls hl => ?_)
  refine lv_iload hx hb dX1_run_7 (lv_at hl 0 rfl) ?_
  refine lv_iconst (v := (-1)) hx hb dX1_run_9 (by decide) ?_
  refine lv_icmp_eq (tgt := 20) hx hb dX1_run_10 (by decide) (fun c_2 => ?_) (fun c_2 => ?_)
  · exact absurd c_2 (by decide)
  · refine lv_iload hx hb dX1_run_13 (lv_at hl 5 rfl) ?_
    refine lv_bipush (v := 40) hx hb dX1_run_15 (by decide) ?_
    refine lv_icmp_lt (tgt := 22) hx hb dX1_run_17 (by decide) (fun c_3 => ?_) (fun c_3 => ?_)
    · refine lv_aload_n hx hb dX1_run_22 rfl (lv_at hl 1 rfl) ?_
      refine lv_iload hx hb dX1_run_23 (lv_at hl 0 rfl) ?_
      skip
      refine zw_Vv (As := [.int 11]) (rest := []) (wr := []) ⟨hx, hb, hml, hown, hts⟩ (c_F_M_note l D cI cJ cZ cP cS po mv mb (mr) (2) (mm) (mq) fb (11) hy0 (by omega) H.size) (cwV 1 hts gX1_run_X1_note rfl rfl rfl ⟨rfl, dh_X1_note⟩ ⟨Nat.le_of_ble_eq_true rfl, Nat.le_of_ble_eq_true rfl⟩) hK hN (hZ.kept hS) hP hD hS hA [0, 1] [] rfl rfl (by decide) (by decide) (by decide) (va_recv (q := (RX1, TX1, 5)) hK hP (ci := 1) (q0 := 0) rfl rfl) rfl hl.1 rfl (Nat.le_of_ble_eq_true rfl) dX1_run_25 ⟨Nat.le_of_ble_eq_true rfl, Nat.le_of_ble_eq_true rfl⟩ (fun u_5 H locs hr_4 hP hD hS => ?_)
      obtain ⟨q_6, q_7⟩ := u_5
      try dsimp only at hr_4
      obtain ⟨hbq_6, hsr_4_0, hr_4⟩ := hr_4
      have h9R := zRe (ws' := [(mv, .inr (1, [.ref mb, .int q_6, .int 2, .int mm, .int mq])), (mb, .inl (cI, 20, .inl q_7))]) hP hD rfl
      clear hP hD
      obtain ⟨hP, hD⟩ := h9R
      refine lv_iload hx hb dX1_run_28 (lv_at hl 5 rfl) ?_
      refine lv_iconst (v := 1) hx hb dX1_run_30 (by decide) ?_
      refine lv_iadd hx hb dX1_run_31 ?_
      refine lv_topi (fun y_8 ey_8 => ?_)
      obtain rfl : y_8 = 2 := ey_8.trans (by decide)
      refine lv_istore (lv' := [(6, .int 2), (5, .int 11), (0, .ref mv), (1, .int 0), (2, .int 1), (3, .int x), (4, .int 1)]) hx hb dX1_run_32 hl (by decide) rfl (fun ls hl => ?_)
      refine lv_iload hx hb dX1_run_34 (lv_at hl 1 rfl) ?_
      refine lv_lookup (off := 99) (tgt := 135) hx hb dX1_run_36 (by decide) (by decide) (by decide) ?_
      refine lv_aload_n hx hb dX1_run_135 rfl (lv_at hl 2 rfl) ?_
      refine lv_aload_n hx hb dX1_run_136 rfl (lv_at hl 2 rfl) ?_
      refine va_get (D := D) (ci := 1) (v := .int 2) (C := RX1) (T := TX1) (N := 5) hx hb hts hi_X1_run_1 hown hK hP 0 rfl rfl 2 (by decide) (hts (.fieldLink RX1 19 "TheLiningsInIt$Moves" "kind" "I") (List.mem_of_getElem? (i := 2) rfl)) (fun _ h9 => h9) rfl dX1_run_137 ?_
      refine lv_iconst (v := 0) hx hb dX1_run_140 (by decide) ?_
      refine lv_iload_n hx hb dX1_run_141 rfl (lv_at hl 5 rfl) ?_
      refine lv_iload hx hb dX1_run_142 (lv_at hl 0 rfl) ?_
      skip
      refine zw_V (As := [.int 2, .int 0, .int x, .int 2]) (rest := []) (wr := []) ⟨hx, hb, hml, hown, hts⟩ (c_F_M_run_2_2_0_2 l D cI cJ cZ cP cS po mv mb (q_6) (mm) (mq) q_7 (x) (by omega) (by omega) H.size) (cwV 4 hts gX1_run_X1_run rfl rfl rfl ⟨rfl, dh_X1_run⟩ ⟨Nat.le_of_ble_eq_true rfl, Nat.le_of_ble_eq_true rfl⟩) hK hN (hZ.kept hS) hP hD hS hA [0, 1] [] rfl rfl (by decide) (by decide) (by decide) (va_recv (q := (RX1, TX1, 5)) hK hP (ci := 1) (q0 := 0) rfl rfl) rfl hl.1 rfl (Nat.le_of_ble_eq_true rfl) dX1_run_144 ⟨Nat.le_of_ble_eq_true rfl, Nat.le_of_ble_eq_true rfl⟩ (fun r_9 u_10 H locs hr_9 hP hD hS => ?_)
      obtain ⟨q_11, q_12⟩ := u_10
      try dsimp only at hr_9
      obtain ⟨hbq_11, hsr_9_0, hsr_9_1, hr_9⟩ := hr_9
      have h9R := zRe (ws' := [(mv, .inr (1, [.ref mb, .int q_11, .int 2, .int mm, .int mq])), (mb, .inl (cI, 20, .inl q_12))]) hP hD rfl
      clear hP hD
      obtain ⟨hP, hD⟩ := h9R
      refine lv_iconst (v := 2) hx hb dX1_run_147 (by decide) ?_
      refine lv_imul hx hb dX1_run_148 ?_
      refine lv_topi (fun x_13 ex_13 => ?_)
      exact W.iret (v := x_13) hx hb hr (fun t ht hW => ⟨⟨x_13, (q_11, q_12), rfl, ⟨(show q_11.toInt = mr.toInt + 2 from by omega), (show (x_13 : Int32) = ((x + mm) * 2) from by ((try rw [ex_13]); (try rw [hsr_9_0]); (try rw [ex_13]); first | done | rfl)), (show q_12 = zTr fb mr.toInt [11, 10] from by (rw [hsr_9_1]; rw [hsr_4_0]; rw [zTr_app (by (have q : (([11] : List Int32).length : Int) = 1 := rfl; omega))]; first | done | rfl)), trivial⟩, zRet ht hP hD [0, 1] (by decide) rfl⟩, hS.F ht⟩) hS.2.2 dX1_run_149
    · exact absurd c_3 (by decide)
set_option maxHeartbeats 4000000 in
set_option maxRecDepth 100000 in
theorem c_F_M_run_2_2_1_0 (l : Launch) (D : va_G) (cI cJ cZ cP cS : ClassId) (po : zPool) (mv mb : Nat) (mr mm mq : Int32) (fb : Nat → Int32) (x : Int32) (hy0 : 0 ≤ mr.toInt) (hy1 : mr.toInt ≤ 1000) (hpz : Nat) : Met l yX1_run wsX1_run ({ frames := 4, cells := 0, slots := 0, locals := 98 }) (va_Pc [.ref mv, .int 2, .int 1, .int x, .int 0] (zW D (zKT cI cJ cZ cP cS) po [(mv, .inr (1, [.ref mb, .int mr, .int 2, .int mm, .int mq])), (mb, .inl (cI, 20, .inl fb))] hpz)) (va_Qi (fun (r : Int32) (u : (Int32) × (Nat → Int32)) => u.1.toInt = mr.toInt + 3 ∧ (r = (((x + mm) * 2) * 3)) ∧ (u.2 = zTr fb mr.toInt [30, 11, 10]) ∧ (True)) (zB D [(mv, .inr (1, [.ref mb, .int mr, .int 2, .int mm, .int mq])), (mb, .inl (cI, 20, .inl fb))] hpz (fun (u : (Int32) × (Nat → Int32)) => [(mv, .inr (1, [.ref mb, .int u.1, .int 2, .int mm, .int mq])), (mb, .inl (cI, 20, .inl u.2))])) (va_A [(mv, .inr (1, [.ref mb, .int mr, .int 2, .int mm, .int mq])), (mb, .inl (cI, 20, .inl fb))] hpz)) 0 0 (va_A [(mv, .inr (1, [.ref mb, .int mr, .int 2, .int mm, .int mq])), (mb, .inl (cI, 20, .inl fb))] hpz) := by
  refine Met.ofW (cc := cX1_run) (maxL := 7) (ret := (some .int)) (by decide) rfl ?_
  intro p e s m args below meth c s₁ B hml hv
  obtain ⟨rfl, hsz, hP, hK, hD0, hN, hZ⟩ := hv
  have hx := B.exec
  have hb := B.bytes
  have hr := B.returns
  have hts := atoms_spec (ws := wsX1_run) B.pre
  have hown : s.vm.findClass RX1 = some m.cls := findClass_of_methodNamed B.named
  have hlocks := B.notSynchronized
  subst hsz
  have hD := hD0.self (sz := s.heap.size)
  have hA := zA_of hD
  have hl := lv_entry ([.ref mv, .int 2, .int 1, .int x, .int 0]) (n := 7) (Nat.le_of_ble_eq_true rfl)
  rw [lg_entry_eq]
  generalize (lg_sl ([.ref mv, .int 2, .int 1, .int x, .int 0]) ++ List.replicate (7 - (lg_sl ([.ref mv, .int 2, .int 1, .int x, .int 0])).length) Slot.unset).toArray = ls at hl ⊢
  replace hl : lv_has ls 7 [(0, .ref mv), (1, .int 2), (2, .int 1), (3, .int x), (4, .int 0)] := hl
  refine zw_begin hP hD (fun H locs hP1 hS => ?_)
  clear hP
  have hP := hP1
  clear hP1
  refine lv_iload_n hx hb dX1_run_0 rfl (lv_at hl 1 rfl) ?_
  refine lv_iload_n hx hb dX1_run_1 rfl (lv_at hl 2 rfl) ?_
  refine zc_S (As := [.int 2, .int 1]) (rest := []) ⟨hx, hb, hml, hown, hts⟩ (c_M_bodyFor_2_1 l D cI cJ cZ cP cS po  ) (va_cwS 2 hts gX1_run_X1_bodyFor rfl rfl rfl dh_X1_bodyFor ⟨Nat.le_of_ble_eq_true rfl, Nat.le_of_ble_eq_true rfl⟩) hK hN (hZ.kept hS) rfl hl.1 rfl (Nat.le_of_ble_eq_true rfl) dX1_run_2 ⟨Nat.le_of_ble_eq_true rfl, Nat.le_of_ble_eq_true rfl⟩ (fun r_1 hr_1 => ?_)
  obtain rfl := hr_1
  refine lv_istore (lv' := [(5, .int 30), (0, .ref mv), (1, .int 2), (2, .int 1), (3, .int x), (4, .int 0)]) hx hb dX1_run_5 hl (by decide) rfl (fun ls hl => ?_)
  refine lv_iload hx hb dX1_run_7 (lv_at hl 0 rfl) ?_
  refine lv_iconst (v := (-1)) hx hb dX1_run_9 (by decide) ?_
  refine lv_icmp_eq (tgt := 20) hx hb dX1_run_10 (by decide) (fun c_2 => ?_) (fun c_2 => ?_)
  · exact absurd c_2 (by decide)
  · refine lv_iload hx hb dX1_run_13 (lv_at hl 5 rfl) ?_
    refine lv_bipush (v := 40) hx hb dX1_run_15 (by decide) ?_
    refine lv_icmp_lt (tgt := 22) hx hb dX1_run_17 (by decide) (fun c_3 => ?_) (fun c_3 => ?_)
    · refine lv_aload_n hx hb dX1_run_22 rfl (lv_at hl 1 rfl) ?_
      refine lv_iload hx hb dX1_run_23 (lv_at hl 0 rfl) ?_
      skip
      refine zw_Vv (As := [.int 30]) (rest := []) (wr := []) ⟨hx, hb, hml, hown, hts⟩ (c_F_M_note l D cI cJ cZ cP cS po mv mb (mr) (2) (mm) (mq) fb (30) hy0 (by omega) H.size) (cwV 1 hts gX1_run_X1_note rfl rfl rfl ⟨rfl, dh_X1_note⟩ ⟨Nat.le_of_ble_eq_true rfl, Nat.le_of_ble_eq_true rfl⟩) hK hN (hZ.kept hS) hP hD hS hA [0, 1] [] rfl rfl (by decide) (by decide) (by decide) (va_recv (q := (RX1, TX1, 5)) hK hP (ci := 1) (q0 := 0) rfl rfl) rfl hl.1 rfl (Nat.le_of_ble_eq_true rfl) dX1_run_25 ⟨Nat.le_of_ble_eq_true rfl, Nat.le_of_ble_eq_true rfl⟩ (fun u_5 H locs hr_4 hP hD hS => ?_)
      obtain ⟨q_6, q_7⟩ := u_5
      try dsimp only at hr_4
      obtain ⟨hbq_6, hsr_4_0, hr_4⟩ := hr_4
      have h9R := zRe (ws' := [(mv, .inr (1, [.ref mb, .int q_6, .int 2, .int mm, .int mq])), (mb, .inl (cI, 20, .inl q_7))]) hP hD rfl
      clear hP hD
      obtain ⟨hP, hD⟩ := h9R
      refine lv_iload hx hb dX1_run_28 (lv_at hl 5 rfl) ?_
      refine lv_iconst (v := 1) hx hb dX1_run_30 (by decide) ?_
      refine lv_iadd hx hb dX1_run_31 ?_
      refine lv_topi (fun y_8 ey_8 => ?_)
      obtain rfl : y_8 = 1 := ey_8.trans (by decide)
      refine lv_istore (lv' := [(6, .int 1), (5, .int 30), (0, .ref mv), (1, .int 2), (2, .int 1), (3, .int x), (4, .int 0)]) hx hb dX1_run_32 hl (by decide) rfl (fun ls hl => ?_)
      refine lv_iload hx hb dX1_run_34 (lv_at hl 1 rfl) ?_
      refine lv_lookup (off := 160) (tgt := 196) hx hb dX1_run_36 (by decide) (by decide) (by decide) ?_
      refine lv_aload_n hx hb dX1_run_196 rfl (lv_at hl 2 rfl) ?_
      refine lv_iconst (v := 0) hx hb dX1_run_197 (by decide) ?_
      refine lv_iconst (v := 1) hx hb dX1_run_198 (by decide) ?_
      refine lv_iload_n hx hb dX1_run_199 rfl (lv_at hl 5 rfl) ?_
      refine lv_iload hx hb dX1_run_200 (lv_at hl 0 rfl) ?_
      skip
      refine zw_V (As := [.int 0, .int 1, .int x, .int 1]) (rest := []) (wr := []) ⟨hx, hb, hml, hown, hts⟩ (c_F_M_run_2_0_1_1 l D cI cJ cZ cP cS po mv mb (q_6) (mm) (mq) q_7 (x) (by omega) (by omega) H.size) (cwV 4 hts gX1_run_X1_run rfl rfl rfl ⟨rfl, dh_X1_run⟩ ⟨Nat.le_of_ble_eq_true rfl, Nat.le_of_ble_eq_true rfl⟩) hK hN (hZ.kept hS) hP hD hS hA [0, 1] [] rfl rfl (by decide) (by decide) (by decide) (va_recv (q := (RX1, TX1, 5)) hK hP (ci := 1) (q0 := 0) rfl rfl) rfl hl.1 rfl (Nat.le_of_ble_eq_true rfl) dX1_run_202 ⟨Nat.le_of_ble_eq_true rfl, Nat.le_of_ble_eq_true rfl⟩ (fun r_9 u_10 H locs hr_9 hP hD hS => ?_)
      obtain ⟨q_11, q_12⟩ := u_10
      try dsimp only at hr_9
      obtain ⟨hbq_11, hsr_9_0, hsr_9_1, hr_9⟩ := hr_9
      have h9R := zRe (ws' := [(mv, .inr (1, [.ref mb, .int q_11, .int 2, .int mm, .int mq])), (mb, .inl (cI, 20, .inl q_12))]) hP hD rfl
      clear hP hD
      obtain ⟨hP, hD⟩ := h9R
      refine lv_iconst (v := 3) hx hb dX1_run_205 (by decide) ?_
      refine lv_imul hx hb dX1_run_206 ?_
      refine lv_topi (fun x_13 ex_13 => ?_)
      exact W.iret (v := x_13) hx hb hr (fun t ht hW => ⟨⟨x_13, (q_11, q_12), rfl, ⟨(show q_11.toInt = mr.toInt + 3 from by omega), (show (x_13 : Int32) = (((x + mm) * 2) * 3) from by ((try rw [ex_13]); (try rw [hsr_9_0]); (try rw [ex_13]); first | done | rfl)), (show q_12 = zTr fb mr.toInt [30, 11, 10] from by (rw [hsr_9_1]; rw [hsr_4_0]; rw [zTr_app (by (have q : (([30] : List Int32).length : Int) = 1 := rfl; omega))]; first | done | rfl)), trivial⟩, zRet ht hP hD [0, 1] (by decide) rfl⟩, hS.F ht⟩) hS.2.2 dX1_run_207
    · exact absurd c_3 (by decide)
set_option maxHeartbeats 4000000 in
set_option maxRecDepth 100000 in
theorem c_F_M_run_2_2_0_3 (l : Launch) (D : va_G) (cI cJ cZ cP cS : ClassId) (po : zPool) (mv mb : Nat) (mr mm mq : Int32) (fb : Nat → Int32) (x : Int32) (hy0 : 0 ≤ mr.toInt) (hy1 : mr.toInt ≤ 1300) (hpz : Nat) : Met l yX1_run wsX1_run ({ frames := 2, cells := 0, slots := 0, locals := 46 }) (va_Pc [.ref mv, .int 2, .int 0, .int x, .int 3] (zW D (zKT cI cJ cZ cP cS) po [(mv, .inr (1, [.ref mb, .int mr, .int 2, .int mm, .int mq])), (mb, .inl (cI, 20, .inl fb))] hpz)) (va_Qi (fun (r : Int32) (u : (Int32) × (Nat → Int32)) => u.1.toInt = mr.toInt + 1 ∧ (r = (x + mm)) ∧ (u.2 = zTr fb mr.toInt [10]) ∧ (True)) (zB D [(mv, .inr (1, [.ref mb, .int mr, .int 2, .int mm, .int mq])), (mb, .inl (cI, 20, .inl fb))] hpz (fun (u : (Int32) × (Nat → Int32)) => [(mv, .inr (1, [.ref mb, .int u.1, .int 2, .int mm, .int mq])), (mb, .inl (cI, 20, .inl u.2))])) (va_A [(mv, .inr (1, [.ref mb, .int mr, .int 2, .int mm, .int mq])), (mb, .inl (cI, 20, .inl fb))] hpz)) 0 0 (va_A [(mv, .inr (1, [.ref mb, .int mr, .int 2, .int mm, .int mq])), (mb, .inl (cI, 20, .inl fb))] hpz) := by
  refine Met.ofW (cc := cX1_run) (maxL := 7) (ret := (some .int)) (by decide) rfl ?_
  intro p e s m args below meth c s₁ B hml hv
  obtain ⟨rfl, hsz, hP, hK, hD0, hN, hZ⟩ := hv
  have hx := B.exec
  have hb := B.bytes
  have hr := B.returns
  have hts := atoms_spec (ws := wsX1_run) B.pre
  have hown : s.vm.findClass RX1 = some m.cls := findClass_of_methodNamed B.named
  have hlocks := B.notSynchronized
  subst hsz
  have hD := hD0.self (sz := s.heap.size)
  have hA := zA_of hD
  have hl := lv_entry ([.ref mv, .int 2, .int 0, .int x, .int 3]) (n := 7) (Nat.le_of_ble_eq_true rfl)
  rw [lg_entry_eq]
  generalize (lg_sl ([.ref mv, .int 2, .int 0, .int x, .int 3]) ++ List.replicate (7 - (lg_sl ([.ref mv, .int 2, .int 0, .int x, .int 3])).length) Slot.unset).toArray = ls at hl ⊢
  replace hl : lv_has ls 7 [(0, .ref mv), (1, .int 2), (2, .int 0), (3, .int x), (4, .int 3)] := hl
  refine zw_begin hP hD (fun H locs hP1 hS => ?_)
  clear hP
  have hP := hP1
  clear hP1
  refine lv_iload_n hx hb dX1_run_0 rfl (lv_at hl 1 rfl) ?_
  refine lv_iload_n hx hb dX1_run_1 rfl (lv_at hl 2 rfl) ?_
  refine zc_S (As := [.int 2, .int 0]) (rest := []) ⟨hx, hb, hml, hown, hts⟩ (c_M_bodyFor_2_0 l D cI cJ cZ cP cS po  ) (va_cwS 2 hts gX1_run_X1_bodyFor rfl rfl rfl dh_X1_bodyFor ⟨Nat.le_of_ble_eq_true rfl, Nat.le_of_ble_eq_true rfl⟩) hK hN (hZ.kept hS) rfl hl.1 rfl (Nat.le_of_ble_eq_true rfl) dX1_run_2 ⟨Nat.le_of_ble_eq_true rfl, Nat.le_of_ble_eq_true rfl⟩ (fun r_1 hr_1 => ?_)
  obtain rfl := hr_1
  refine lv_istore (lv' := [(5, .int 10), (0, .ref mv), (1, .int 2), (2, .int 0), (3, .int x), (4, .int 3)]) hx hb dX1_run_5 hl (by decide) rfl (fun ls hl => ?_)
  refine lv_iload hx hb dX1_run_7 (lv_at hl 0 rfl) ?_
  refine lv_iconst (v := (-1)) hx hb dX1_run_9 (by decide) ?_
  refine lv_icmp_eq (tgt := 20) hx hb dX1_run_10 (by decide) (fun c_2 => ?_) (fun c_2 => ?_)
  · exact absurd c_2 (by decide)
  · refine lv_iload hx hb dX1_run_13 (lv_at hl 5 rfl) ?_
    refine lv_bipush (v := 40) hx hb dX1_run_15 (by decide) ?_
    refine lv_icmp_lt (tgt := 22) hx hb dX1_run_17 (by decide) (fun c_3 => ?_) (fun c_3 => ?_)
    · refine lv_aload_n hx hb dX1_run_22 rfl (lv_at hl 1 rfl) ?_
      refine lv_iload hx hb dX1_run_23 (lv_at hl 0 rfl) ?_
      skip
      refine zw_Vv (As := [.int 10]) (rest := []) (wr := []) ⟨hx, hb, hml, hown, hts⟩ (c_F_M_note l D cI cJ cZ cP cS po mv mb (mr) (2) (mm) (mq) fb (10) hy0 (by omega) H.size) (cwV 1 hts gX1_run_X1_note rfl rfl rfl ⟨rfl, dh_X1_note⟩ ⟨Nat.le_of_ble_eq_true rfl, Nat.le_of_ble_eq_true rfl⟩) hK hN (hZ.kept hS) hP hD hS hA [0, 1] [] rfl rfl (by decide) (by decide) (by decide) (va_recv (q := (RX1, TX1, 5)) hK hP (ci := 1) (q0 := 0) rfl rfl) rfl hl.1 rfl (Nat.le_of_ble_eq_true rfl) dX1_run_25 ⟨Nat.le_of_ble_eq_true rfl, Nat.le_of_ble_eq_true rfl⟩ (fun u_5 H locs hr_4 hP hD hS => ?_)
      obtain ⟨q_6, q_7⟩ := u_5
      try dsimp only at hr_4
      obtain ⟨hbq_6, hsr_4_0, hr_4⟩ := hr_4
      have h9R := zRe (ws' := [(mv, .inr (1, [.ref mb, .int q_6, .int 2, .int mm, .int mq])), (mb, .inl (cI, 20, .inl q_7))]) hP hD rfl
      clear hP hD
      obtain ⟨hP, hD⟩ := h9R
      refine lv_iload hx hb dX1_run_28 (lv_at hl 5 rfl) ?_
      refine lv_iconst (v := 1) hx hb dX1_run_30 (by decide) ?_
      refine lv_iadd hx hb dX1_run_31 ?_
      refine lv_topi (fun y_8 ey_8 => ?_)
      obtain rfl : y_8 = 4 := ey_8.trans (by decide)
      refine lv_istore (lv' := [(6, .int 4), (5, .int 10), (0, .ref mv), (1, .int 2), (2, .int 0), (3, .int x), (4, .int 3)]) hx hb dX1_run_32 hl (by decide) rfl (fun ls hl => ?_)
      refine lv_iload hx hb dX1_run_34 (lv_at hl 1 rfl) ?_
      refine lv_lookup (off := 92) (tgt := 128) hx hb dX1_run_36 (by decide) (by decide) (by decide) ?_
      refine lv_iload_n hx hb dX1_run_128 rfl (lv_at hl 5 rfl) ?_
      refine lv_aload_n hx hb dX1_run_129 rfl (lv_at hl 2 rfl) ?_
      refine va_get (D := D) (ci := 1) (v := .int mm) (C := RX1) (T := TX1) (N := 5) hx hb hts hi_X1_run_1 hown hK hP 0 rfl rfl 3 (by decide) (hts (.fieldLink RX1 22 "TheLiningsInIt$Moves" "m" "I") (List.mem_of_getElem? (i := 1) rfl)) (fun _ h9 => h9) rfl dX1_run_130 ?_
      refine lv_iadd hx hb dX1_run_133 ?_
      refine lv_topi (fun x_9 ex_9 => ?_)
      exact W.iret (v := x_9) hx hb hr (fun t ht hW => ⟨⟨x_9, (q_6, q_7), rfl, ⟨(show q_6.toInt = mr.toInt + 1 from by omega), (show (x_9 : Int32) = (x + mm) from by ((try rw [ex_9]); (try rw [ex_9]); first | done | rfl)), (show q_7 = zTr fb mr.toInt [10] from by (rw [hsr_4_0]; first | done | rfl)), trivial⟩, zRet ht hP hD [0, 1] (by decide) rfl⟩, hS.F ht⟩) hS.2.2 dX1_run_134
    · exact absurd c_3 (by decide)
set_option maxHeartbeats 4000000 in
set_option maxRecDepth 100000 in
theorem c_F_M_run_2_0_1_2 (l : Launch) (D : va_G) (cI cJ cZ cP cS : ClassId) (po : zPool) (mv mb : Nat) (mr mm mq : Int32) (fb : Nat → Int32) (x : Int32) (hy0 : 0 ≤ mr.toInt) (hy1 : mr.toInt ≤ 1200) (hpz : Nat) : Met l yX1_run wsX1_run ({ frames := 3, cells := 0, slots := 0, locals := 72 }) (va_Pc [.ref mv, .int 0, .int 1, .int x, .int 2] (zW D (zKT cI cJ cZ cP cS) po [(mv, .inr (1, [.ref mb, .int mr, .int 2, .int mm, .int mq])), (mb, .inl (cI, 20, .inl fb))] hpz)) (va_Qi (fun (r : Int32) (u : (Int32) × (Nat → Int32)) => u.1.toInt = mr.toInt + 2 ∧ (r = ((x + mm) * 2)) ∧ (u.2 = zTr fb mr.toInt [11, 10]) ∧ (True)) (zB D [(mv, .inr (1, [.ref mb, .int mr, .int 2, .int mm, .int mq])), (mb, .inl (cI, 20, .inl fb))] hpz (fun (u : (Int32) × (Nat → Int32)) => [(mv, .inr (1, [.ref mb, .int u.1, .int 2, .int mm, .int mq])), (mb, .inl (cI, 20, .inl u.2))])) (va_A [(mv, .inr (1, [.ref mb, .int mr, .int 2, .int mm, .int mq])), (mb, .inl (cI, 20, .inl fb))] hpz)) 0 0 (va_A [(mv, .inr (1, [.ref mb, .int mr, .int 2, .int mm, .int mq])), (mb, .inl (cI, 20, .inl fb))] hpz) := by
  refine Met.ofW (cc := cX1_run) (maxL := 7) (ret := (some .int)) (by decide) rfl ?_
  intro p e s m args below meth c s₁ B hml hv
  obtain ⟨rfl, hsz, hP, hK, hD0, hN, hZ⟩ := hv
  have hx := B.exec
  have hb := B.bytes
  have hr := B.returns
  have hts := atoms_spec (ws := wsX1_run) B.pre
  have hown : s.vm.findClass RX1 = some m.cls := findClass_of_methodNamed B.named
  have hlocks := B.notSynchronized
  subst hsz
  have hD := hD0.self (sz := s.heap.size)
  have hA := zA_of hD
  have hl := lv_entry ([.ref mv, .int 0, .int 1, .int x, .int 2]) (n := 7) (Nat.le_of_ble_eq_true rfl)
  rw [lg_entry_eq]
  generalize (lg_sl ([.ref mv, .int 0, .int 1, .int x, .int 2]) ++ List.replicate (7 - (lg_sl ([.ref mv, .int 0, .int 1, .int x, .int 2])).length) Slot.unset).toArray = ls at hl ⊢
  replace hl : lv_has ls 7 [(0, .ref mv), (1, .int 0), (2, .int 1), (3, .int x), (4, .int 2)] := hl
  refine zw_begin hP hD (fun H locs hP1 hS => ?_)
  clear hP
  have hP := hP1
  clear hP1
  refine lv_iload_n hx hb dX1_run_0 rfl (lv_at hl 1 rfl) ?_
  refine lv_iload_n hx hb dX1_run_1 rfl (lv_at hl 2 rfl) ?_
  refine zc_S (As := [.int 0, .int 1]) (rest := []) ⟨hx, hb, hml, hown, hts⟩ (c_M_bodyFor_0_1 l D cI cJ cZ cP cS po  ) (va_cwS 2 hts gX1_run_X1_bodyFor rfl rfl rfl dh_X1_bodyFor ⟨Nat.le_of_ble_eq_true rfl, Nat.le_of_ble_eq_true rfl⟩) hK hN (hZ.kept hS) rfl hl.1 rfl (Nat.le_of_ble_eq_true rfl) dX1_run_2 ⟨Nat.le_of_ble_eq_true rfl, Nat.le_of_ble_eq_true rfl⟩ (fun r_1 hr_1 => ?_)
  obtain rfl := hr_1
  refine lv_istore (lv' := [(5, .int 11), (0, .ref mv), (1, .int 0), (2, .int 1), (3, .int x), (4, .int 2)]) hx hb dX1_run_5 hl (by decide) rfl (fun ls hl => ?_)
  refine lv_iload hx hb dX1_run_7 (lv_at hl 0 rfl) ?_
  refine lv_iconst (v := (-1)) hx hb dX1_run_9 (by decide) ?_
  refine lv_icmp_eq (tgt := 20) hx hb dX1_run_10 (by decide) (fun c_2 => ?_) (fun c_2 => ?_)
  · exact absurd c_2 (by decide)
  · refine lv_iload hx hb dX1_run_13 (lv_at hl 5 rfl) ?_
    refine lv_bipush (v := 40) hx hb dX1_run_15 (by decide) ?_
    refine lv_icmp_lt (tgt := 22) hx hb dX1_run_17 (by decide) (fun c_3 => ?_) (fun c_3 => ?_)
    · refine lv_aload_n hx hb dX1_run_22 rfl (lv_at hl 1 rfl) ?_
      refine lv_iload hx hb dX1_run_23 (lv_at hl 0 rfl) ?_
      skip
      refine zw_Vv (As := [.int 11]) (rest := []) (wr := []) ⟨hx, hb, hml, hown, hts⟩ (c_F_M_note l D cI cJ cZ cP cS po mv mb (mr) (2) (mm) (mq) fb (11) hy0 (by omega) H.size) (cwV 1 hts gX1_run_X1_note rfl rfl rfl ⟨rfl, dh_X1_note⟩ ⟨Nat.le_of_ble_eq_true rfl, Nat.le_of_ble_eq_true rfl⟩) hK hN (hZ.kept hS) hP hD hS hA [0, 1] [] rfl rfl (by decide) (by decide) (by decide) (va_recv (q := (RX1, TX1, 5)) hK hP (ci := 1) (q0 := 0) rfl rfl) rfl hl.1 rfl (Nat.le_of_ble_eq_true rfl) dX1_run_25 ⟨Nat.le_of_ble_eq_true rfl, Nat.le_of_ble_eq_true rfl⟩ (fun u_5 H locs hr_4 hP hD hS => ?_)
      obtain ⟨q_6, q_7⟩ := u_5
      try dsimp only at hr_4
      obtain ⟨hbq_6, hsr_4_0, hr_4⟩ := hr_4
      have h9R := zRe (ws' := [(mv, .inr (1, [.ref mb, .int q_6, .int 2, .int mm, .int mq])), (mb, .inl (cI, 20, .inl q_7))]) hP hD rfl
      clear hP hD
      obtain ⟨hP, hD⟩ := h9R
      refine lv_iload hx hb dX1_run_28 (lv_at hl 5 rfl) ?_
      refine lv_iconst (v := 1) hx hb dX1_run_30 (by decide) ?_
      refine lv_iadd hx hb dX1_run_31 ?_
      refine lv_topi (fun y_8 ey_8 => ?_)
      obtain rfl : y_8 = 3 := ey_8.trans (by decide)
      refine lv_istore (lv' := [(6, .int 3), (5, .int 11), (0, .ref mv), (1, .int 0), (2, .int 1), (3, .int x), (4, .int 2)]) hx hb dX1_run_32 hl (by decide) rfl (fun ls hl => ?_)
      refine lv_iload hx hb dX1_run_34 (lv_at hl 1 rfl) ?_
      refine lv_lookup (off := 99) (tgt := 135) hx hb dX1_run_36 (by decide) (by decide) (by decide) ?_
      refine lv_aload_n hx hb dX1_run_135 rfl (lv_at hl 2 rfl) ?_
      refine lv_aload_n hx hb dX1_run_136 rfl (lv_at hl 2 rfl) ?_
      refine va_get (D := D) (ci := 1) (v := .int 2) (C := RX1) (T := TX1) (N := 5) hx hb hts hi_X1_run_1 hown hK hP 0 rfl rfl 2 (by decide) (hts (.fieldLink RX1 19 "TheLiningsInIt$Moves" "kind" "I") (List.mem_of_getElem? (i := 2) rfl)) (fun _ h9 => h9) rfl dX1_run_137 ?_
      refine lv_iconst (v := 0) hx hb dX1_run_140 (by decide) ?_
      refine lv_iload_n hx hb dX1_run_141 rfl (lv_at hl 5 rfl) ?_
      refine lv_iload hx hb dX1_run_142 (lv_at hl 0 rfl) ?_
      skip
      refine zw_V (As := [.int 2, .int 0, .int x, .int 3]) (rest := []) (wr := []) ⟨hx, hb, hml, hown, hts⟩ (c_F_M_run_2_2_0_3 l D cI cJ cZ cP cS po mv mb (q_6) (mm) (mq) q_7 (x) (by omega) (by omega) H.size) (cwV 4 hts gX1_run_X1_run rfl rfl rfl ⟨rfl, dh_X1_run⟩ ⟨Nat.le_of_ble_eq_true rfl, Nat.le_of_ble_eq_true rfl⟩) hK hN (hZ.kept hS) hP hD hS hA [0, 1] [] rfl rfl (by decide) (by decide) (by decide) (va_recv (q := (RX1, TX1, 5)) hK hP (ci := 1) (q0 := 0) rfl rfl) rfl hl.1 rfl (Nat.le_of_ble_eq_true rfl) dX1_run_144 ⟨Nat.le_of_ble_eq_true rfl, Nat.le_of_ble_eq_true rfl⟩ (fun r_9 u_10 H locs hr_9 hP hD hS => ?_)
      obtain ⟨q_11, q_12⟩ := u_10
      try dsimp only at hr_9
      obtain ⟨hbq_11, hsr_9_0, hsr_9_1, hr_9⟩ := hr_9
      have h9R := zRe (ws' := [(mv, .inr (1, [.ref mb, .int q_11, .int 2, .int mm, .int mq])), (mb, .inl (cI, 20, .inl q_12))]) hP hD rfl
      clear hP hD
      obtain ⟨hP, hD⟩ := h9R
      refine lv_iconst (v := 2) hx hb dX1_run_147 (by decide) ?_
      refine lv_imul hx hb dX1_run_148 ?_
      refine lv_topi (fun x_13 ex_13 => ?_)
      exact W.iret (v := x_13) hx hb hr (fun t ht hW => ⟨⟨x_13, (q_11, q_12), rfl, ⟨(show q_11.toInt = mr.toInt + 2 from by omega), (show (x_13 : Int32) = ((x + mm) * 2) from by ((try rw [ex_13]); (try rw [hsr_9_0]); (try rw [ex_13]); first | done | rfl)), (show q_12 = zTr fb mr.toInt [11, 10] from by (rw [hsr_9_1]; rw [hsr_4_0]; rw [zTr_app (by (have q : (([11] : List Int32).length : Int) = 1 := rfl; omega))]; first | done | rfl)), trivial⟩, zRet ht hP hD [0, 1] (by decide) rfl⟩, hS.F ht⟩) hS.2.2 dX1_run_149
    · exact absurd c_3 (by decide)
set_option maxHeartbeats 4000000 in
set_option maxRecDepth 100000 in
theorem c_F_M_run_2_2_1_1 (l : Launch) (D : va_G) (cI cJ cZ cP cS : ClassId) (po : zPool) (mv mb : Nat) (mr mm mq : Int32) (fb : Nat → Int32) (x : Int32) (hy0 : 0 ≤ mr.toInt) (hy1 : mr.toInt ≤ 1100) (hpz : Nat) : Met l yX1_run wsX1_run ({ frames := 4, cells := 0, slots := 0, locals := 98 }) (va_Pc [.ref mv, .int 2, .int 1, .int x, .int 1] (zW D (zKT cI cJ cZ cP cS) po [(mv, .inr (1, [.ref mb, .int mr, .int 2, .int mm, .int mq])), (mb, .inl (cI, 20, .inl fb))] hpz)) (va_Qi (fun (r : Int32) (u : (Int32) × (Nat → Int32)) => u.1.toInt = mr.toInt + 3 ∧ (r = (((x + mm) * 2) * 3)) ∧ (u.2 = zTr fb mr.toInt [30, 11, 10]) ∧ (True)) (zB D [(mv, .inr (1, [.ref mb, .int mr, .int 2, .int mm, .int mq])), (mb, .inl (cI, 20, .inl fb))] hpz (fun (u : (Int32) × (Nat → Int32)) => [(mv, .inr (1, [.ref mb, .int u.1, .int 2, .int mm, .int mq])), (mb, .inl (cI, 20, .inl u.2))])) (va_A [(mv, .inr (1, [.ref mb, .int mr, .int 2, .int mm, .int mq])), (mb, .inl (cI, 20, .inl fb))] hpz)) 0 0 (va_A [(mv, .inr (1, [.ref mb, .int mr, .int 2, .int mm, .int mq])), (mb, .inl (cI, 20, .inl fb))] hpz) := by
  refine Met.ofW (cc := cX1_run) (maxL := 7) (ret := (some .int)) (by decide) rfl ?_
  intro p e s m args below meth c s₁ B hml hv
  obtain ⟨rfl, hsz, hP, hK, hD0, hN, hZ⟩ := hv
  have hx := B.exec
  have hb := B.bytes
  have hr := B.returns
  have hts := atoms_spec (ws := wsX1_run) B.pre
  have hown : s.vm.findClass RX1 = some m.cls := findClass_of_methodNamed B.named
  have hlocks := B.notSynchronized
  subst hsz
  have hD := hD0.self (sz := s.heap.size)
  have hA := zA_of hD
  have hl := lv_entry ([.ref mv, .int 2, .int 1, .int x, .int 1]) (n := 7) (Nat.le_of_ble_eq_true rfl)
  rw [lg_entry_eq]
  generalize (lg_sl ([.ref mv, .int 2, .int 1, .int x, .int 1]) ++ List.replicate (7 - (lg_sl ([.ref mv, .int 2, .int 1, .int x, .int 1])).length) Slot.unset).toArray = ls at hl ⊢
  replace hl : lv_has ls 7 [(0, .ref mv), (1, .int 2), (2, .int 1), (3, .int x), (4, .int 1)] := hl
  refine zw_begin hP hD (fun H locs hP1 hS => ?_)
  clear hP
  have hP := hP1
  clear hP1
  refine lv_iload_n hx hb dX1_run_0 rfl (lv_at hl 1 rfl) ?_
  refine lv_iload_n hx hb dX1_run_1 rfl (lv_at hl 2 rfl) ?_
  refine zc_S (As := [.int 2, .int 1]) (rest := []) ⟨hx, hb, hml, hown, hts⟩ (c_M_bodyFor_2_1 l D cI cJ cZ cP cS po  ) (va_cwS 2 hts gX1_run_X1_bodyFor rfl rfl rfl dh_X1_bodyFor ⟨Nat.le_of_ble_eq_true rfl, Nat.le_of_ble_eq_true rfl⟩) hK hN (hZ.kept hS) rfl hl.1 rfl (Nat.le_of_ble_eq_true rfl) dX1_run_2 ⟨Nat.le_of_ble_eq_true rfl, Nat.le_of_ble_eq_true rfl⟩ (fun r_1 hr_1 => ?_)
  obtain rfl := hr_1
  refine lv_istore (lv' := [(5, .int 30), (0, .ref mv), (1, .int 2), (2, .int 1), (3, .int x), (4, .int 1)]) hx hb dX1_run_5 hl (by decide) rfl (fun ls hl => ?_)
  refine lv_iload hx hb dX1_run_7 (lv_at hl 0 rfl) ?_
  refine lv_iconst (v := (-1)) hx hb dX1_run_9 (by decide) ?_
  refine lv_icmp_eq (tgt := 20) hx hb dX1_run_10 (by decide) (fun c_2 => ?_) (fun c_2 => ?_)
  · exact absurd c_2 (by decide)
  · refine lv_iload hx hb dX1_run_13 (lv_at hl 5 rfl) ?_
    refine lv_bipush (v := 40) hx hb dX1_run_15 (by decide) ?_
    refine lv_icmp_lt (tgt := 22) hx hb dX1_run_17 (by decide) (fun c_3 => ?_) (fun c_3 => ?_)
    · refine lv_aload_n hx hb dX1_run_22 rfl (lv_at hl 1 rfl) ?_
      refine lv_iload hx hb dX1_run_23 (lv_at hl 0 rfl) ?_
      skip
      refine zw_Vv (As := [.int 30]) (rest := []) (wr := []) ⟨hx, hb, hml, hown, hts⟩ (c_F_M_note l D cI cJ cZ cP cS po mv mb (mr) (2) (mm) (mq) fb (30) hy0 (by omega) H.size) (cwV 1 hts gX1_run_X1_note rfl rfl rfl ⟨rfl, dh_X1_note⟩ ⟨Nat.le_of_ble_eq_true rfl, Nat.le_of_ble_eq_true rfl⟩) hK hN (hZ.kept hS) hP hD hS hA [0, 1] [] rfl rfl (by decide) (by decide) (by decide) (va_recv (q := (RX1, TX1, 5)) hK hP (ci := 1) (q0 := 0) rfl rfl) rfl hl.1 rfl (Nat.le_of_ble_eq_true rfl) dX1_run_25 ⟨Nat.le_of_ble_eq_true rfl, Nat.le_of_ble_eq_true rfl⟩ (fun u_5 H locs hr_4 hP hD hS => ?_)
      obtain ⟨q_6, q_7⟩ := u_5
      try dsimp only at hr_4
      obtain ⟨hbq_6, hsr_4_0, hr_4⟩ := hr_4
      have h9R := zRe (ws' := [(mv, .inr (1, [.ref mb, .int q_6, .int 2, .int mm, .int mq])), (mb, .inl (cI, 20, .inl q_7))]) hP hD rfl
      clear hP hD
      obtain ⟨hP, hD⟩ := h9R
      refine lv_iload hx hb dX1_run_28 (lv_at hl 5 rfl) ?_
      refine lv_iconst (v := 1) hx hb dX1_run_30 (by decide) ?_
      refine lv_iadd hx hb dX1_run_31 ?_
      refine lv_topi (fun y_8 ey_8 => ?_)
      obtain rfl : y_8 = 2 := ey_8.trans (by decide)
      refine lv_istore (lv' := [(6, .int 2), (5, .int 30), (0, .ref mv), (1, .int 2), (2, .int 1), (3, .int x), (4, .int 1)]) hx hb dX1_run_32 hl (by decide) rfl (fun ls hl => ?_)
      refine lv_iload hx hb dX1_run_34 (lv_at hl 1 rfl) ?_
      refine lv_lookup (off := 160) (tgt := 196) hx hb dX1_run_36 (by decide) (by decide) (by decide) ?_
      refine lv_aload_n hx hb dX1_run_196 rfl (lv_at hl 2 rfl) ?_
      refine lv_iconst (v := 0) hx hb dX1_run_197 (by decide) ?_
      refine lv_iconst (v := 1) hx hb dX1_run_198 (by decide) ?_
      refine lv_iload_n hx hb dX1_run_199 rfl (lv_at hl 5 rfl) ?_
      refine lv_iload hx hb dX1_run_200 (lv_at hl 0 rfl) ?_
      skip
      refine zw_V (As := [.int 0, .int 1, .int x, .int 2]) (rest := []) (wr := []) ⟨hx, hb, hml, hown, hts⟩ (c_F_M_run_2_0_1_2 l D cI cJ cZ cP cS po mv mb (q_6) (mm) (mq) q_7 (x) (by omega) (by omega) H.size) (cwV 4 hts gX1_run_X1_run rfl rfl rfl ⟨rfl, dh_X1_run⟩ ⟨Nat.le_of_ble_eq_true rfl, Nat.le_of_ble_eq_true rfl⟩) hK hN (hZ.kept hS) hP hD hS hA [0, 1] [] rfl rfl (by decide) (by decide) (by decide) (va_recv (q := (RX1, TX1, 5)) hK hP (ci := 1) (q0 := 0) rfl rfl) rfl hl.1 rfl (Nat.le_of_ble_eq_true rfl) dX1_run_202 ⟨Nat.le_of_ble_eq_true rfl, Nat.le_of_ble_eq_true rfl⟩ (fun r_9 u_10 H locs hr_9 hP hD hS => ?_)
      obtain ⟨q_11, q_12⟩ := u_10
      try dsimp only at hr_9
      obtain ⟨hbq_11, hsr_9_0, hsr_9_1, hr_9⟩ := hr_9
      have h9R := zRe (ws' := [(mv, .inr (1, [.ref mb, .int q_11, .int 2, .int mm, .int mq])), (mb, .inl (cI, 20, .inl q_12))]) hP hD rfl
      clear hP hD
      obtain ⟨hP, hD⟩ := h9R
      refine lv_iconst (v := 3) hx hb dX1_run_205 (by decide) ?_
      refine lv_imul hx hb dX1_run_206 ?_
      refine lv_topi (fun x_13 ex_13 => ?_)
      exact W.iret (v := x_13) hx hb hr (fun t ht hW => ⟨⟨x_13, (q_11, q_12), rfl, ⟨(show q_11.toInt = mr.toInt + 3 from by omega), (show (x_13 : Int32) = (((x + mm) * 2) * 3) from by ((try rw [ex_13]); (try rw [hsr_9_0]); (try rw [ex_13]); first | done | rfl)), (show q_12 = zTr fb mr.toInt [30, 11, 10] from by (rw [hsr_9_1]; rw [hsr_4_0]; rw [zTr_app (by (have q : (([30] : List Int32).length : Int) = 1 := rfl; omega))]; first | done | rfl)), trivial⟩, zRet ht hP hD [0, 1] (by decide) rfl⟩, hS.F ht⟩) hS.2.2 dX1_run_207
    · exact absurd c_3 (by decide)
set_option maxHeartbeats 4000000 in
set_option maxRecDepth 100000 in
theorem c_F_M_run_2_2_0_1 (l : Launch) (D : va_G) (cI cJ cZ cP cS : ClassId) (po : zPool) (mv mb : Nat) (mr mm mq : Int32) (fb : Nat → Int32) (x : Int32) (hy0 : 0 ≤ mr.toInt) (hy1 : mr.toInt ≤ 1100) (hpz : Nat) : Met l yX1_run wsX1_run ({ frames := 2, cells := 0, slots := 0, locals := 46 }) (va_Pc [.ref mv, .int 2, .int 0, .int x, .int 1] (zW D (zKT cI cJ cZ cP cS) po [(mv, .inr (1, [.ref mb, .int mr, .int 2, .int mm, .int mq])), (mb, .inl (cI, 20, .inl fb))] hpz)) (va_Qi (fun (r : Int32) (u : (Int32) × (Nat → Int32)) => u.1.toInt = mr.toInt + 1 ∧ (r = (x + mm)) ∧ (u.2 = zTr fb mr.toInt [10]) ∧ (True)) (zB D [(mv, .inr (1, [.ref mb, .int mr, .int 2, .int mm, .int mq])), (mb, .inl (cI, 20, .inl fb))] hpz (fun (u : (Int32) × (Nat → Int32)) => [(mv, .inr (1, [.ref mb, .int u.1, .int 2, .int mm, .int mq])), (mb, .inl (cI, 20, .inl u.2))])) (va_A [(mv, .inr (1, [.ref mb, .int mr, .int 2, .int mm, .int mq])), (mb, .inl (cI, 20, .inl fb))] hpz)) 0 0 (va_A [(mv, .inr (1, [.ref mb, .int mr, .int 2, .int mm, .int mq])), (mb, .inl (cI, 20, .inl fb))] hpz) := by
  refine Met.ofW (cc := cX1_run) (maxL := 7) (ret := (some .int)) (by decide) rfl ?_
  intro p e s m args below meth c s₁ B hml hv
  obtain ⟨rfl, hsz, hP, hK, hD0, hN, hZ⟩ := hv
  have hx := B.exec
  have hb := B.bytes
  have hr := B.returns
  have hts := atoms_spec (ws := wsX1_run) B.pre
  have hown : s.vm.findClass RX1 = some m.cls := findClass_of_methodNamed B.named
  have hlocks := B.notSynchronized
  subst hsz
  have hD := hD0.self (sz := s.heap.size)
  have hA := zA_of hD
  have hl := lv_entry ([.ref mv, .int 2, .int 0, .int x, .int 1]) (n := 7) (Nat.le_of_ble_eq_true rfl)
  rw [lg_entry_eq]
  generalize (lg_sl ([.ref mv, .int 2, .int 0, .int x, .int 1]) ++ List.replicate (7 - (lg_sl ([.ref mv, .int 2, .int 0, .int x, .int 1])).length) Slot.unset).toArray = ls at hl ⊢
  replace hl : lv_has ls 7 [(0, .ref mv), (1, .int 2), (2, .int 0), (3, .int x), (4, .int 1)] := hl
  refine zw_begin hP hD (fun H locs hP1 hS => ?_)
  clear hP
  have hP := hP1
  clear hP1
  refine lv_iload_n hx hb dX1_run_0 rfl (lv_at hl 1 rfl) ?_
  refine lv_iload_n hx hb dX1_run_1 rfl (lv_at hl 2 rfl) ?_
  refine zc_S (As := [.int 2, .int 0]) (rest := []) ⟨hx, hb, hml, hown, hts⟩ (c_M_bodyFor_2_0 l D cI cJ cZ cP cS po  ) (va_cwS 2 hts gX1_run_X1_bodyFor rfl rfl rfl dh_X1_bodyFor ⟨Nat.le_of_ble_eq_true rfl, Nat.le_of_ble_eq_true rfl⟩) hK hN (hZ.kept hS) rfl hl.1 rfl (Nat.le_of_ble_eq_true rfl) dX1_run_2 ⟨Nat.le_of_ble_eq_true rfl, Nat.le_of_ble_eq_true rfl⟩ (fun r_1 hr_1 => ?_)
  obtain rfl := hr_1
  refine lv_istore (lv' := [(5, .int 10), (0, .ref mv), (1, .int 2), (2, .int 0), (3, .int x), (4, .int 1)]) hx hb dX1_run_5 hl (by decide) rfl (fun ls hl => ?_)
  refine lv_iload hx hb dX1_run_7 (lv_at hl 0 rfl) ?_
  refine lv_iconst (v := (-1)) hx hb dX1_run_9 (by decide) ?_
  refine lv_icmp_eq (tgt := 20) hx hb dX1_run_10 (by decide) (fun c_2 => ?_) (fun c_2 => ?_)
  · exact absurd c_2 (by decide)
  · refine lv_iload hx hb dX1_run_13 (lv_at hl 5 rfl) ?_
    refine lv_bipush (v := 40) hx hb dX1_run_15 (by decide) ?_
    refine lv_icmp_lt (tgt := 22) hx hb dX1_run_17 (by decide) (fun c_3 => ?_) (fun c_3 => ?_)
    · refine lv_aload_n hx hb dX1_run_22 rfl (lv_at hl 1 rfl) ?_
      refine lv_iload hx hb dX1_run_23 (lv_at hl 0 rfl) ?_
      skip
      refine zw_Vv (As := [.int 10]) (rest := []) (wr := []) ⟨hx, hb, hml, hown, hts⟩ (c_F_M_note l D cI cJ cZ cP cS po mv mb (mr) (2) (mm) (mq) fb (10) hy0 (by omega) H.size) (cwV 1 hts gX1_run_X1_note rfl rfl rfl ⟨rfl, dh_X1_note⟩ ⟨Nat.le_of_ble_eq_true rfl, Nat.le_of_ble_eq_true rfl⟩) hK hN (hZ.kept hS) hP hD hS hA [0, 1] [] rfl rfl (by decide) (by decide) (by decide) (va_recv (q := (RX1, TX1, 5)) hK hP (ci := 1) (q0 := 0) rfl rfl) rfl hl.1 rfl (Nat.le_of_ble_eq_true rfl) dX1_run_25 ⟨Nat.le_of_ble_eq_true rfl, Nat.le_of_ble_eq_true rfl⟩ (fun u_5 H locs hr_4 hP hD hS => ?_)
      obtain ⟨q_6, q_7⟩ := u_5
      try dsimp only at hr_4
      obtain ⟨hbq_6, hsr_4_0, hr_4⟩ := hr_4
      have h9R := zRe (ws' := [(mv, .inr (1, [.ref mb, .int q_6, .int 2, .int mm, .int mq])), (mb, .inl (cI, 20, .inl q_7))]) hP hD rfl
      clear hP hD
      obtain ⟨hP, hD⟩ := h9R
      refine lv_iload hx hb dX1_run_28 (lv_at hl 5 rfl) ?_
      refine lv_iconst (v := 1) hx hb dX1_run_30 (by decide) ?_
      refine lv_iadd hx hb dX1_run_31 ?_
      refine lv_topi (fun y_8 ey_8 => ?_)
      obtain rfl : y_8 = 2 := ey_8.trans (by decide)
      refine lv_istore (lv' := [(6, .int 2), (5, .int 10), (0, .ref mv), (1, .int 2), (2, .int 0), (3, .int x), (4, .int 1)]) hx hb dX1_run_32 hl (by decide) rfl (fun ls hl => ?_)
      refine lv_iload hx hb dX1_run_34 (lv_at hl 1 rfl) ?_
      refine lv_lookup (off := 92) (tgt := 128) hx hb dX1_run_36 (by decide) (by decide) (by decide) ?_
      refine lv_iload_n hx hb dX1_run_128 rfl (lv_at hl 5 rfl) ?_
      refine lv_aload_n hx hb dX1_run_129 rfl (lv_at hl 2 rfl) ?_
      refine va_get (D := D) (ci := 1) (v := .int mm) (C := RX1) (T := TX1) (N := 5) hx hb hts hi_X1_run_1 hown hK hP 0 rfl rfl 3 (by decide) (hts (.fieldLink RX1 22 "TheLiningsInIt$Moves" "m" "I") (List.mem_of_getElem? (i := 1) rfl)) (fun _ h9 => h9) rfl dX1_run_130 ?_
      refine lv_iadd hx hb dX1_run_133 ?_
      refine lv_topi (fun x_9 ex_9 => ?_)
      exact W.iret (v := x_9) hx hb hr (fun t ht hW => ⟨⟨x_9, (q_6, q_7), rfl, ⟨(show q_6.toInt = mr.toInt + 1 from by omega), (show (x_9 : Int32) = (x + mm) from by ((try rw [ex_9]); (try rw [ex_9]); first | done | rfl)), (show q_7 = zTr fb mr.toInt [10] from by (rw [hsr_4_0]; first | done | rfl)), trivial⟩, zRet ht hP hD [0, 1] (by decide) rfl⟩, hS.F ht⟩) hS.2.2 dX1_run_134
    · exact absurd c_3 (by decide)
set_option maxHeartbeats 4000000 in
set_option maxRecDepth 100000 in
theorem c_F_M_run_2_2_2_0 (l : Launch) (D : va_G) (cI cJ cZ cP cS : ClassId) (po : zPool) (mv mb : Nat) (mr mm mq : Int32) (fb : Nat → Int32) (x : Int32) (hy0 : 0 ≤ mr.toInt) (hy1 : mr.toInt ≤ 1000) (hpz : Nat) : Met l yX1_run wsX1_run ({ frames := 5, cells := 0, slots := 0, locals := 124 }) (va_Pc [.ref mv, .int 2, .int 2, .int x, .int 0] (zW D (zKT cI cJ cZ cP cS) po [(mv, .inr (1, [.ref mb, .int mr, .int 2, .int mm, .int mq])), (mb, .inl (cI, 20, .inl fb))] hpz)) (va_Qi (fun (r : Int32) (u : (Int32) × (Nat → Int32)) => u.1.toInt = mr.toInt + 5 ∧ (r = ((((x + mm) * 2) * 3) ^^^ ((x - mq) + mm))) ∧ (u.2 = zTr fb mr.toInt [12, 30, 11, 10, 10]) ∧ (True)) (zB D [(mv, .inr (1, [.ref mb, .int mr, .int 2, .int mm, .int mq])), (mb, .inl (cI, 20, .inl fb))] hpz (fun (u : (Int32) × (Nat → Int32)) => [(mv, .inr (1, [.ref mb, .int u.1, .int 2, .int mm, .int mq])), (mb, .inl (cI, 20, .inl u.2))])) (va_A [(mv, .inr (1, [.ref mb, .int mr, .int 2, .int mm, .int mq])), (mb, .inl (cI, 20, .inl fb))] hpz)) 0 0 (va_A [(mv, .inr (1, [.ref mb, .int mr, .int 2, .int mm, .int mq])), (mb, .inl (cI, 20, .inl fb))] hpz) := by
  refine Met.ofW (cc := cX1_run) (maxL := 7) (ret := (some .int)) (by decide) rfl ?_
  intro p e s m args below meth c s₁ B hml hv
  obtain ⟨rfl, hsz, hP, hK, hD0, hN, hZ⟩ := hv
  have hx := B.exec
  have hb := B.bytes
  have hr := B.returns
  have hts := atoms_spec (ws := wsX1_run) B.pre
  have hown : s.vm.findClass RX1 = some m.cls := findClass_of_methodNamed B.named
  have hlocks := B.notSynchronized
  subst hsz
  have hD := hD0.self (sz := s.heap.size)
  have hA := zA_of hD
  have hl := lv_entry ([.ref mv, .int 2, .int 2, .int x, .int 0]) (n := 7) (Nat.le_of_ble_eq_true rfl)
  rw [lg_entry_eq]
  generalize (lg_sl ([.ref mv, .int 2, .int 2, .int x, .int 0]) ++ List.replicate (7 - (lg_sl ([.ref mv, .int 2, .int 2, .int x, .int 0])).length) Slot.unset).toArray = ls at hl ⊢
  replace hl : lv_has ls 7 [(0, .ref mv), (1, .int 2), (2, .int 2), (3, .int x), (4, .int 0)] := hl
  refine zw_begin hP hD (fun H locs hP1 hS => ?_)
  clear hP
  have hP := hP1
  clear hP1
  refine lv_iload_n hx hb dX1_run_0 rfl (lv_at hl 1 rfl) ?_
  refine lv_iload_n hx hb dX1_run_1 rfl (lv_at hl 2 rfl) ?_
  refine zc_S (As := [.int 2, .int 2]) (rest := []) ⟨hx, hb, hml, hown, hts⟩ (c_M_bodyFor_2_2 l D cI cJ cZ cP cS po  ) (va_cwS 2 hts gX1_run_X1_bodyFor rfl rfl rfl dh_X1_bodyFor ⟨Nat.le_of_ble_eq_true rfl, Nat.le_of_ble_eq_true rfl⟩) hK hN (hZ.kept hS) rfl hl.1 rfl (Nat.le_of_ble_eq_true rfl) dX1_run_2 ⟨Nat.le_of_ble_eq_true rfl, Nat.le_of_ble_eq_true rfl⟩ (fun r_1 hr_1 => ?_)
  obtain rfl := hr_1
  refine lv_istore (lv' := [(5, .int 12), (0, .ref mv), (1, .int 2), (2, .int 2), (3, .int x), (4, .int 0)]) hx hb dX1_run_5 hl (by decide) rfl (fun ls hl => ?_)
  refine lv_iload hx hb dX1_run_7 (lv_at hl 0 rfl) ?_
  refine lv_iconst (v := (-1)) hx hb dX1_run_9 (by decide) ?_
  refine lv_icmp_eq (tgt := 20) hx hb dX1_run_10 (by decide) (fun c_2 => ?_) (fun c_2 => ?_)
  · exact absurd c_2 (by decide)
  · refine lv_iload hx hb dX1_run_13 (lv_at hl 5 rfl) ?_
    refine lv_bipush (v := 40) hx hb dX1_run_15 (by decide) ?_
    refine lv_icmp_lt (tgt := 22) hx hb dX1_run_17 (by decide) (fun c_3 => ?_) (fun c_3 => ?_)
    · refine lv_aload_n hx hb dX1_run_22 rfl (lv_at hl 1 rfl) ?_
      refine lv_iload hx hb dX1_run_23 (lv_at hl 0 rfl) ?_
      skip
      refine zw_Vv (As := [.int 12]) (rest := []) (wr := []) ⟨hx, hb, hml, hown, hts⟩ (c_F_M_note l D cI cJ cZ cP cS po mv mb (mr) (2) (mm) (mq) fb (12) hy0 (by omega) H.size) (cwV 1 hts gX1_run_X1_note rfl rfl rfl ⟨rfl, dh_X1_note⟩ ⟨Nat.le_of_ble_eq_true rfl, Nat.le_of_ble_eq_true rfl⟩) hK hN (hZ.kept hS) hP hD hS hA [0, 1] [] rfl rfl (by decide) (by decide) (by decide) (va_recv (q := (RX1, TX1, 5)) hK hP (ci := 1) (q0 := 0) rfl rfl) rfl hl.1 rfl (Nat.le_of_ble_eq_true rfl) dX1_run_25 ⟨Nat.le_of_ble_eq_true rfl, Nat.le_of_ble_eq_true rfl⟩ (fun u_5 H locs hr_4 hP hD hS => ?_)
      obtain ⟨q_6, q_7⟩ := u_5
      try dsimp only at hr_4
      obtain ⟨hbq_6, hsr_4_0, hr_4⟩ := hr_4
      have h9R := zRe (ws' := [(mv, .inr (1, [.ref mb, .int q_6, .int 2, .int mm, .int mq])), (mb, .inl (cI, 20, .inl q_7))]) hP hD rfl
      clear hP hD
      obtain ⟨hP, hD⟩ := h9R
      refine lv_iload hx hb dX1_run_28 (lv_at hl 5 rfl) ?_
      refine lv_iconst (v := 1) hx hb dX1_run_30 (by decide) ?_
      refine lv_iadd hx hb dX1_run_31 ?_
      refine lv_topi (fun y_8 ey_8 => ?_)
      obtain rfl : y_8 = 1 := ey_8.trans (by decide)
      refine lv_istore (lv' := [(6, .int 1), (5, .int 12), (0, .ref mv), (1, .int 2), (2, .int 2), (3, .int x), (4, .int 0)]) hx hb dX1_run_32 hl (by decide) rfl (fun ls hl => ?_)
      refine lv_iload hx hb dX1_run_34 (lv_at hl 1 rfl) ?_
      refine lv_lookup (off := 114) (tgt := 150) hx hb dX1_run_36 (by decide) (by decide) (by decide) ?_
      refine lv_aload_n hx hb dX1_run_150 rfl (lv_at hl 2 rfl) ?_
      refine lv_aload_n hx hb dX1_run_151 rfl (lv_at hl 2 rfl) ?_
      refine va_get (D := D) (ci := 1) (v := .int 2) (C := RX1) (T := TX1) (N := 5) hx hb hts hi_X1_run_1 hown hK hP 0 rfl rfl 2 (by decide) (hts (.fieldLink RX1 19 "TheLiningsInIt$Moves" "kind" "I") (List.mem_of_getElem? (i := 2) rfl)) (fun _ h9 => h9) rfl dX1_run_152 ?_
      refine lv_iconst (v := 1) hx hb dX1_run_155 (by decide) ?_
      refine lv_iload_n hx hb dX1_run_156 rfl (lv_at hl 5 rfl) ?_
      refine lv_iload hx hb dX1_run_157 (lv_at hl 0 rfl) ?_
      skip
      refine zw_V (As := [.int 2, .int 1, .int x, .int 1]) (rest := []) (wr := []) ⟨hx, hb, hml, hown, hts⟩ (c_F_M_run_2_2_1_1 l D cI cJ cZ cP cS po mv mb (q_6) (mm) (mq) q_7 (x) (by omega) (by omega) H.size) (cwV 4 hts gX1_run_X1_run rfl rfl rfl ⟨rfl, dh_X1_run⟩ ⟨Nat.le_of_ble_eq_true rfl, Nat.le_of_ble_eq_true rfl⟩) hK hN (hZ.kept hS) hP hD hS hA [0, 1] [] rfl rfl (by decide) (by decide) (by decide) (va_recv (q := (RX1, TX1, 5)) hK hP (ci := 1) (q0 := 0) rfl rfl) rfl hl.1 rfl (Nat.le_of_ble_eq_true rfl) dX1_run_159 ⟨Nat.le_of_ble_eq_true rfl, Nat.le_of_ble_eq_true rfl⟩ (fun r_9 u_10 H locs hr_9 hP hD hS => ?_)
      obtain ⟨q_11, q_12⟩ := u_10
      try dsimp only at hr_9
      obtain ⟨hbq_11, hsr_9_0, hsr_9_1, hr_9⟩ := hr_9
      have h9R := zRe (ws' := [(mv, .inr (1, [.ref mb, .int q_11, .int 2, .int mm, .int mq])), (mb, .inl (cI, 20, .inl q_12))]) hP hD rfl
      clear hP hD
      obtain ⟨hP, hD⟩ := h9R
      refine lv_aload_n hx hb dX1_run_162 rfl (lv_at hl 2 rfl) ?_
      refine lv_aload_n hx hb dX1_run_163 rfl (lv_at hl 2 rfl) ?_
      refine va_get (D := D) (ci := 1) (v := .int 2) (C := RX1) (T := TX1) (N := 5) hx hb hts hi_X1_run_1 hown hK hP 0 rfl rfl 2 (by decide) (hts (.fieldLink RX1 19 "TheLiningsInIt$Moves" "kind" "I") (List.mem_of_getElem? (i := 2) rfl)) (fun _ h9 => h9) rfl dX1_run_164 ?_
      refine lv_iconst (v := 0) hx hb dX1_run_167 (by decide) ?_
      refine lv_iload_n hx hb dX1_run_168 rfl (lv_at hl 5 rfl) ?_
      refine lv_aload_n hx hb dX1_run_169 rfl (lv_at hl 2 rfl) ?_
      refine va_get (D := D) (ci := 1) (v := .int mq) (C := RX1) (T := TX1) (N := 5) hx hb hts hi_X1_run_1 hown hK hP 0 rfl rfl 4 (by decide) (hts (.fieldLink RX1 25 "TheLiningsInIt$Moves" "k" "I") (List.mem_of_getElem? (i := 3) rfl)) (fun _ h9 => h9) rfl dX1_run_170 ?_
      refine lv_isub hx hb dX1_run_173 ?_
      refine lv_topi (fun x_13 ex_13 => ?_)
      refine lv_iload hx hb dX1_run_174 (lv_at hl 0 rfl) ?_
      skip
      refine zw_V (As := [.int 2, .int 0, .int x_13, .int 1]) (rest := [.int r_9]) (wr := []) ⟨hx, hb, hml, hown, hts⟩ (c_F_M_run_2_2_0_1 l D cI cJ cZ cP cS po mv mb (q_11) (mm) (mq) q_12 (x_13) (by omega) (by omega) H.size) (cwV 4 hts gX1_run_X1_run rfl rfl rfl ⟨rfl, dh_X1_run⟩ ⟨Nat.le_of_ble_eq_true rfl, Nat.le_of_ble_eq_true rfl⟩) hK hN (hZ.kept hS) hP hD hS hA [0, 1] [] rfl rfl (by decide) (by decide) (by decide) (va_recv (q := (RX1, TX1, 5)) hK hP (ci := 1) (q0 := 0) rfl rfl) rfl hl.1 rfl (Nat.le_of_ble_eq_true rfl) dX1_run_176 ⟨Nat.le_of_ble_eq_true rfl, Nat.le_of_ble_eq_true rfl⟩ (fun r_14 u_15 H locs hr_14 hP hD hS => ?_)
      obtain ⟨q_16, q_17⟩ := u_15
      try dsimp only at hr_14
      obtain ⟨hbq_16, hsr_14_0, hsr_14_1, hr_14⟩ := hr_14
      have h9R := zRe (ws' := [(mv, .inr (1, [.ref mb, .int q_16, .int 2, .int mm, .int mq])), (mb, .inl (cI, 20, .inl q_17))]) hP hD rfl
      clear hP hD
      obtain ⟨hP, hD⟩ := h9R
      refine lv_ixor hx hb dX1_run_179 ?_
      refine lv_topi (fun x_18 ex_18 => ?_)
      exact W.iret (v := x_18) hx hb hr (fun t ht hW => ⟨⟨x_18, (q_16, q_17), rfl, ⟨(show q_16.toInt = mr.toInt + 5 from by omega), (show (x_18 : Int32) = ((((x + mm) * 2) * 3) ^^^ ((x - mq) + mm)) from by ((try rw [ex_18]); (try rw [ex_13]); (try rw [hsr_9_0]); (try rw [hsr_14_0]); (try rw [ex_18]); (try rw [ex_13]); first | done | rfl)), (show q_17 = zTr fb mr.toInt [12, 30, 11, 10, 10] from by (rw [hsr_14_1]; rw [hsr_9_1]; rw [hsr_4_0]; rw [zTr_app (by (have q : (([30, 11, 10] : List Int32).length : Int) = 3 := rfl; omega))]; rw [zTr_app (by (have q : (([12] : List Int32).length : Int) = 1 := rfl; omega))]; first | done | rfl)), trivial⟩, zRet ht hP hD [0, 1] (by decide) rfl⟩, hS.F ht⟩) hS.2.2 dX1_run_180
    · exact absurd c_3 (by decide)
set_option maxHeartbeats 4000000 in
set_option maxRecDepth 100000 in
theorem c_F_M_run_3_0_0_1 (l : Launch) (D : va_G) (cI cJ cZ cP cS : ClassId) (po : zPool) (mv mb : Nat) (mr mm mq : Int32) (fb : Nat → Int32) (x : Int32) (hy0 : 0 ≤ mr.toInt) (hy1 : mr.toInt ≤ 1100) (hpz : Nat) : Met l yX1_run wsX1_run ({ frames := 2, cells := 0, slots := 0, locals := 46 }) (va_Pc [.ref mv, .int 0, .int 0, .int x, .int 1] (zW D (zKT cI cJ cZ cP cS) po [(mv, .inr (1, [.ref mb, .int mr, .int 3, .int mm, .int mq])), (mb, .inl (cI, 20, .inl fb))] hpz)) (va_Qi (fun (r : Int32) (u : (Int32) × (Nat → Int32)) => u.1.toInt = mr.toInt + 1 ∧ (r = (x + mm)) ∧ (u.2 = zTr fb mr.toInt [10]) ∧ (True)) (zB D [(mv, .inr (1, [.ref mb, .int mr, .int 3, .int mm, .int mq])), (mb, .inl (cI, 20, .inl fb))] hpz (fun (u : (Int32) × (Nat → Int32)) => [(mv, .inr (1, [.ref mb, .int u.1, .int 3, .int mm, .int mq])), (mb, .inl (cI, 20, .inl u.2))])) (va_A [(mv, .inr (1, [.ref mb, .int mr, .int 3, .int mm, .int mq])), (mb, .inl (cI, 20, .inl fb))] hpz)) 0 0 (va_A [(mv, .inr (1, [.ref mb, .int mr, .int 3, .int mm, .int mq])), (mb, .inl (cI, 20, .inl fb))] hpz) := by
  refine Met.ofW (cc := cX1_run) (maxL := 7) (ret := (some .int)) (by decide) rfl ?_
  intro p e s m args below meth c s₁ B hml hv
  obtain ⟨rfl, hsz, hP, hK, hD0, hN, hZ⟩ := hv
  have hx := B.exec
  have hb := B.bytes
  have hr := B.returns
  have hts := atoms_spec (ws := wsX1_run) B.pre
  have hown : s.vm.findClass RX1 = some m.cls := findClass_of_methodNamed B.named
  have hlocks := B.notSynchronized
  subst hsz
  have hD := hD0.self (sz := s.heap.size)
  have hA := zA_of hD
  have hl := lv_entry ([.ref mv, .int 0, .int 0, .int x, .int 1]) (n := 7) (Nat.le_of_ble_eq_true rfl)
  rw [lg_entry_eq]
  generalize (lg_sl ([.ref mv, .int 0, .int 0, .int x, .int 1]) ++ List.replicate (7 - (lg_sl ([.ref mv, .int 0, .int 0, .int x, .int 1])).length) Slot.unset).toArray = ls at hl ⊢
  replace hl : lv_has ls 7 [(0, .ref mv), (1, .int 0), (2, .int 0), (3, .int x), (4, .int 1)] := hl
  refine zw_begin hP hD (fun H locs hP1 hS => ?_)
  clear hP
  have hP := hP1
  clear hP1
  refine lv_iload_n hx hb dX1_run_0 rfl (lv_at hl 1 rfl) ?_
  refine lv_iload_n hx hb dX1_run_1 rfl (lv_at hl 2 rfl) ?_
  refine zc_S (As := [.int 0, .int 0]) (rest := []) ⟨hx, hb, hml, hown, hts⟩ (c_M_bodyFor_0_0 l D cI cJ cZ cP cS po  ) (va_cwS 2 hts gX1_run_X1_bodyFor rfl rfl rfl dh_X1_bodyFor ⟨Nat.le_of_ble_eq_true rfl, Nat.le_of_ble_eq_true rfl⟩) hK hN (hZ.kept hS) rfl hl.1 rfl (Nat.le_of_ble_eq_true rfl) dX1_run_2 ⟨Nat.le_of_ble_eq_true rfl, Nat.le_of_ble_eq_true rfl⟩ (fun r_1 hr_1 => ?_)
  obtain rfl := hr_1
  refine lv_istore (lv' := [(5, .int 10), (0, .ref mv), (1, .int 0), (2, .int 0), (3, .int x), (4, .int 1)]) hx hb dX1_run_5 hl (by decide) rfl (fun ls hl => ?_)
  refine lv_iload hx hb dX1_run_7 (lv_at hl 0 rfl) ?_
  refine lv_iconst (v := (-1)) hx hb dX1_run_9 (by decide) ?_
  refine lv_icmp_eq (tgt := 20) hx hb dX1_run_10 (by decide) (fun c_2 => ?_) (fun c_2 => ?_)
  · exact absurd c_2 (by decide)
  · refine lv_iload hx hb dX1_run_13 (lv_at hl 5 rfl) ?_
    refine lv_bipush (v := 40) hx hb dX1_run_15 (by decide) ?_
    refine lv_icmp_lt (tgt := 22) hx hb dX1_run_17 (by decide) (fun c_3 => ?_) (fun c_3 => ?_)
    · refine lv_aload_n hx hb dX1_run_22 rfl (lv_at hl 1 rfl) ?_
      refine lv_iload hx hb dX1_run_23 (lv_at hl 0 rfl) ?_
      skip
      refine zw_Vv (As := [.int 10]) (rest := []) (wr := []) ⟨hx, hb, hml, hown, hts⟩ (c_F_M_note l D cI cJ cZ cP cS po mv mb (mr) (3) (mm) (mq) fb (10) hy0 (by omega) H.size) (cwV 1 hts gX1_run_X1_note rfl rfl rfl ⟨rfl, dh_X1_note⟩ ⟨Nat.le_of_ble_eq_true rfl, Nat.le_of_ble_eq_true rfl⟩) hK hN (hZ.kept hS) hP hD hS hA [0, 1] [] rfl rfl (by decide) (by decide) (by decide) (va_recv (q := (RX1, TX1, 5)) hK hP (ci := 1) (q0 := 0) rfl rfl) rfl hl.1 rfl (Nat.le_of_ble_eq_true rfl) dX1_run_25 ⟨Nat.le_of_ble_eq_true rfl, Nat.le_of_ble_eq_true rfl⟩ (fun u_5 H locs hr_4 hP hD hS => ?_)
      obtain ⟨q_6, q_7⟩ := u_5
      try dsimp only at hr_4
      obtain ⟨hbq_6, hsr_4_0, hr_4⟩ := hr_4
      have h9R := zRe (ws' := [(mv, .inr (1, [.ref mb, .int q_6, .int 3, .int mm, .int mq])), (mb, .inl (cI, 20, .inl q_7))]) hP hD rfl
      clear hP hD
      obtain ⟨hP, hD⟩ := h9R
      refine lv_iload hx hb dX1_run_28 (lv_at hl 5 rfl) ?_
      refine lv_iconst (v := 1) hx hb dX1_run_30 (by decide) ?_
      refine lv_iadd hx hb dX1_run_31 ?_
      refine lv_topi (fun y_8 ey_8 => ?_)
      obtain rfl : y_8 = 2 := ey_8.trans (by decide)
      refine lv_istore (lv' := [(6, .int 2), (5, .int 10), (0, .ref mv), (1, .int 0), (2, .int 0), (3, .int x), (4, .int 1)]) hx hb dX1_run_32 hl (by decide) rfl (fun ls hl => ?_)
      refine lv_iload hx hb dX1_run_34 (lv_at hl 1 rfl) ?_
      refine lv_lookup (off := 92) (tgt := 128) hx hb dX1_run_36 (by decide) (by decide) (by decide) ?_
      refine lv_iload_n hx hb dX1_run_128 rfl (lv_at hl 5 rfl) ?_
      refine lv_aload_n hx hb dX1_run_129 rfl (lv_at hl 2 rfl) ?_
      refine va_get (D := D) (ci := 1) (v := .int mm) (C := RX1) (T := TX1) (N := 5) hx hb hts hi_X1_run_1 hown hK hP 0 rfl rfl 3 (by decide) (hts (.fieldLink RX1 22 "TheLiningsInIt$Moves" "m" "I") (List.mem_of_getElem? (i := 1) rfl)) (fun _ h9 => h9) rfl dX1_run_130 ?_
      refine lv_iadd hx hb dX1_run_133 ?_
      refine lv_topi (fun x_9 ex_9 => ?_)
      exact W.iret (v := x_9) hx hb hr (fun t ht hW => ⟨⟨x_9, (q_6, q_7), rfl, ⟨(show q_6.toInt = mr.toInt + 1 from by omega), (show (x_9 : Int32) = (x + mm) from by ((try rw [ex_9]); (try rw [ex_9]); first | done | rfl)), (show q_7 = zTr fb mr.toInt [10] from by (rw [hsr_4_0]; first | done | rfl)), trivial⟩, zRet ht hP hD [0, 1] (by decide) rfl⟩, hS.F ht⟩) hS.2.2 dX1_run_134
    · exact absurd c_3 (by decide)
set_option maxHeartbeats 4000000 in
set_option maxRecDepth 100000 in
theorem c_F_M_run_3_3_0_0 (l : Launch) (D : va_G) (cI cJ cZ cP cS : ClassId) (po : zPool) (mv mb : Nat) (mr mm mq : Int32) (fb : Nat → Int32) (x : Int32) (hy0 : 0 ≤ mr.toInt) (hy1 : mr.toInt ≤ 1000) (hpz : Nat) : Met l yX1_run wsX1_run ({ frames := 3, cells := 0, slots := 0, locals := 72 }) (va_Pc [.ref mv, .int 3, .int 0, .int x, .int 0] (zW D (zKT cI cJ cZ cP cS) po [(mv, .inr (1, [.ref mb, .int mr, .int 3, .int mm, .int mq])), (mb, .inl (cI, 20, .inl fb))] hpz)) (va_Qi (fun (r : Int32) (u : (Int32) × (Nat → Int32)) => u.1.toInt = mr.toInt + 2 ∧ (r = ((x + mm) + mq)) ∧ (u.2 = zTr fb mr.toInt [20, 10]) ∧ (True)) (zB D [(mv, .inr (1, [.ref mb, .int mr, .int 3, .int mm, .int mq])), (mb, .inl (cI, 20, .inl fb))] hpz (fun (u : (Int32) × (Nat → Int32)) => [(mv, .inr (1, [.ref mb, .int u.1, .int 3, .int mm, .int mq])), (mb, .inl (cI, 20, .inl u.2))])) (va_A [(mv, .inr (1, [.ref mb, .int mr, .int 3, .int mm, .int mq])), (mb, .inl (cI, 20, .inl fb))] hpz)) 0 0 (va_A [(mv, .inr (1, [.ref mb, .int mr, .int 3, .int mm, .int mq])), (mb, .inl (cI, 20, .inl fb))] hpz) := by
  refine Met.ofW (cc := cX1_run) (maxL := 7) (ret := (some .int)) (by decide) rfl ?_
  intro p e s m args below meth c s₁ B hml hv
  obtain ⟨rfl, hsz, hP, hK, hD0, hN, hZ⟩ := hv
  have hx := B.exec
  have hb := B.bytes
  have hr := B.returns
  have hts := atoms_spec (ws := wsX1_run) B.pre
  have hown : s.vm.findClass RX1 = some m.cls := findClass_of_methodNamed B.named
  have hlocks := B.notSynchronized
  subst hsz
  have hD := hD0.self (sz := s.heap.size)
  have hA := zA_of hD
  have hl := lv_entry ([.ref mv, .int 3, .int 0, .int x, .int 0]) (n := 7) (Nat.le_of_ble_eq_true rfl)
  rw [lg_entry_eq]
  generalize (lg_sl ([.ref mv, .int 3, .int 0, .int x, .int 0]) ++ List.replicate (7 - (lg_sl ([.ref mv, .int 3, .int 0, .int x, .int 0])).length) Slot.unset).toArray = ls at hl ⊢
  replace hl : lv_has ls 7 [(0, .ref mv), (1, .int 3), (2, .int 0), (3, .int x), (4, .int 0)] := hl
  refine zw_begin hP hD (fun H locs hP1 hS => ?_)
  clear hP
  have hP := hP1
  clear hP1
  refine lv_iload_n hx hb dX1_run_0 rfl (lv_at hl 1 rfl) ?_
  refine lv_iload_n hx hb dX1_run_1 rfl (lv_at hl 2 rfl) ?_
  refine zc_S (As := [.int 3, .int 0]) (rest := []) ⟨hx, hb, hml, hown, hts⟩ (c_M_bodyFor_3_0 l D cI cJ cZ cP cS po  ) (va_cwS 2 hts gX1_run_X1_bodyFor rfl rfl rfl dh_X1_bodyFor ⟨Nat.le_of_ble_eq_true rfl, Nat.le_of_ble_eq_true rfl⟩) hK hN (hZ.kept hS) rfl hl.1 rfl (Nat.le_of_ble_eq_true rfl) dX1_run_2 ⟨Nat.le_of_ble_eq_true rfl, Nat.le_of_ble_eq_true rfl⟩ (fun r_1 hr_1 => ?_)
  obtain rfl := hr_1
  refine lv_istore (lv' := [(5, .int 20), (0, .ref mv), (1, .int 3), (2, .int 0), (3, .int x), (4, .int 0)]) hx hb dX1_run_5 hl (by decide) rfl (fun ls hl => ?_)
  refine lv_iload hx hb dX1_run_7 (lv_at hl 0 rfl) ?_
  refine lv_iconst (v := (-1)) hx hb dX1_run_9 (by decide) ?_
  refine lv_icmp_eq (tgt := 20) hx hb dX1_run_10 (by decide) (fun c_2 => ?_) (fun c_2 => ?_)
  · exact absurd c_2 (by decide)
  · refine lv_iload hx hb dX1_run_13 (lv_at hl 5 rfl) ?_
    refine lv_bipush (v := 40) hx hb dX1_run_15 (by decide) ?_
    refine lv_icmp_lt (tgt := 22) hx hb dX1_run_17 (by decide) (fun c_3 => ?_) (fun c_3 => ?_)
    · refine lv_aload_n hx hb dX1_run_22 rfl (lv_at hl 1 rfl) ?_
      refine lv_iload hx hb dX1_run_23 (lv_at hl 0 rfl) ?_
      skip
      refine zw_Vv (As := [.int 20]) (rest := []) (wr := []) ⟨hx, hb, hml, hown, hts⟩ (c_F_M_note l D cI cJ cZ cP cS po mv mb (mr) (3) (mm) (mq) fb (20) hy0 (by omega) H.size) (cwV 1 hts gX1_run_X1_note rfl rfl rfl ⟨rfl, dh_X1_note⟩ ⟨Nat.le_of_ble_eq_true rfl, Nat.le_of_ble_eq_true rfl⟩) hK hN (hZ.kept hS) hP hD hS hA [0, 1] [] rfl rfl (by decide) (by decide) (by decide) (va_recv (q := (RX1, TX1, 5)) hK hP (ci := 1) (q0 := 0) rfl rfl) rfl hl.1 rfl (Nat.le_of_ble_eq_true rfl) dX1_run_25 ⟨Nat.le_of_ble_eq_true rfl, Nat.le_of_ble_eq_true rfl⟩ (fun u_5 H locs hr_4 hP hD hS => ?_)
      obtain ⟨q_6, q_7⟩ := u_5
      try dsimp only at hr_4
      obtain ⟨hbq_6, hsr_4_0, hr_4⟩ := hr_4
      have h9R := zRe (ws' := [(mv, .inr (1, [.ref mb, .int q_6, .int 3, .int mm, .int mq])), (mb, .inl (cI, 20, .inl q_7))]) hP hD rfl
      clear hP hD
      obtain ⟨hP, hD⟩ := h9R
      refine lv_iload hx hb dX1_run_28 (lv_at hl 5 rfl) ?_
      refine lv_iconst (v := 1) hx hb dX1_run_30 (by decide) ?_
      refine lv_iadd hx hb dX1_run_31 ?_
      refine lv_topi (fun y_8 ey_8 => ?_)
      obtain rfl : y_8 = 1 := ey_8.trans (by decide)
      refine lv_istore (lv' := [(6, .int 1), (5, .int 20), (0, .ref mv), (1, .int 3), (2, .int 0), (3, .int x), (4, .int 0)]) hx hb dX1_run_32 hl (by decide) rfl (fun ls hl => ?_)
      refine lv_iload hx hb dX1_run_34 (lv_at hl 1 rfl) ?_
      refine lv_lookup (off := 145) (tgt := 181) hx hb dX1_run_36 (by decide) (by decide) (by decide) ?_
      refine lv_aload_n hx hb dX1_run_181 rfl (lv_at hl 2 rfl) ?_
      refine lv_iconst (v := 0) hx hb dX1_run_182 (by decide) ?_
      refine lv_iconst (v := 0) hx hb dX1_run_183 (by decide) ?_
      refine lv_iload_n hx hb dX1_run_184 rfl (lv_at hl 5 rfl) ?_
      refine lv_iload hx hb dX1_run_185 (lv_at hl 0 rfl) ?_
      skip
      refine zw_V (As := [.int 0, .int 0, .int x, .int 1]) (rest := []) (wr := []) ⟨hx, hb, hml, hown, hts⟩ (c_F_M_run_3_0_0_1 l D cI cJ cZ cP cS po mv mb (q_6) (mm) (mq) q_7 (x) (by omega) (by omega) H.size) (cwV 4 hts gX1_run_X1_run rfl rfl rfl ⟨rfl, dh_X1_run⟩ ⟨Nat.le_of_ble_eq_true rfl, Nat.le_of_ble_eq_true rfl⟩) hK hN (hZ.kept hS) hP hD hS hA [0, 1] [] rfl rfl (by decide) (by decide) (by decide) (va_recv (q := (RX1, TX1, 5)) hK hP (ci := 1) (q0 := 0) rfl rfl) rfl hl.1 rfl (Nat.le_of_ble_eq_true rfl) dX1_run_187 ⟨Nat.le_of_ble_eq_true rfl, Nat.le_of_ble_eq_true rfl⟩ (fun r_9 u_10 H locs hr_9 hP hD hS => ?_)
      obtain ⟨q_11, q_12⟩ := u_10
      try dsimp only at hr_9
      obtain ⟨hbq_11, hsr_9_0, hsr_9_1, hr_9⟩ := hr_9
      have h9R := zRe (ws' := [(mv, .inr (1, [.ref mb, .int q_11, .int 3, .int mm, .int mq])), (mb, .inl (cI, 20, .inl q_12))]) hP hD rfl
      clear hP hD
      obtain ⟨hP, hD⟩ := h9R
      refine lv_aload_n hx hb dX1_run_190 rfl (lv_at hl 2 rfl) ?_
      refine va_get (D := D) (ci := 1) (v := .int mq) (C := RX1) (T := TX1) (N := 5) hx hb hts hi_X1_run_1 hown hK hP 0 rfl rfl 4 (by decide) (hts (.fieldLink RX1 25 "TheLiningsInIt$Moves" "k" "I") (List.mem_of_getElem? (i := 3) rfl)) (fun _ h9 => h9) rfl dX1_run_191 ?_
      refine lv_iadd hx hb dX1_run_194 ?_
      refine lv_topi (fun x_13 ex_13 => ?_)
      exact W.iret (v := x_13) hx hb hr (fun t ht hW => ⟨⟨x_13, (q_11, q_12), rfl, ⟨(show q_11.toInt = mr.toInt + 2 from by omega), (show (x_13 : Int32) = ((x + mm) + mq) from by ((try rw [ex_13]); (try rw [hsr_9_0]); (try rw [ex_13]); first | done | rfl)), (show q_12 = zTr fb mr.toInt [20, 10] from by (rw [hsr_9_1]; rw [hsr_4_0]; rw [zTr_app (by (have q : (([20] : List Int32).length : Int) = 1 := rfl; omega))]; first | done | rfl)), trivial⟩, zRet ht hP hD [0, 1] (by decide) rfl⟩, hS.F ht⟩) hS.2.2 dX1_run_195
    · exact absurd c_3 (by decide)
set_option maxHeartbeats 4000000 in
set_option maxRecDepth 100000 in
theorem c_F_M_run_3_0_0_3 (l : Launch) (D : va_G) (cI cJ cZ cP cS : ClassId) (po : zPool) (mv mb : Nat) (mr mm mq : Int32) (fb : Nat → Int32) (x : Int32) (hy0 : 0 ≤ mr.toInt) (hy1 : mr.toInt ≤ 1300) (hpz : Nat) : Met l yX1_run wsX1_run ({ frames := 2, cells := 0, slots := 0, locals := 46 }) (va_Pc [.ref mv, .int 0, .int 0, .int x, .int 3] (zW D (zKT cI cJ cZ cP cS) po [(mv, .inr (1, [.ref mb, .int mr, .int 3, .int mm, .int mq])), (mb, .inl (cI, 20, .inl fb))] hpz)) (va_Qi (fun (r : Int32) (u : (Int32) × (Nat → Int32)) => u.1.toInt = mr.toInt + 1 ∧ (r = (x + mm)) ∧ (u.2 = zTr fb mr.toInt [10]) ∧ (True)) (zB D [(mv, .inr (1, [.ref mb, .int mr, .int 3, .int mm, .int mq])), (mb, .inl (cI, 20, .inl fb))] hpz (fun (u : (Int32) × (Nat → Int32)) => [(mv, .inr (1, [.ref mb, .int u.1, .int 3, .int mm, .int mq])), (mb, .inl (cI, 20, .inl u.2))])) (va_A [(mv, .inr (1, [.ref mb, .int mr, .int 3, .int mm, .int mq])), (mb, .inl (cI, 20, .inl fb))] hpz)) 0 0 (va_A [(mv, .inr (1, [.ref mb, .int mr, .int 3, .int mm, .int mq])), (mb, .inl (cI, 20, .inl fb))] hpz) := by
  refine Met.ofW (cc := cX1_run) (maxL := 7) (ret := (some .int)) (by decide) rfl ?_
  intro p e s m args below meth c s₁ B hml hv
  obtain ⟨rfl, hsz, hP, hK, hD0, hN, hZ⟩ := hv
  have hx := B.exec
  have hb := B.bytes
  have hr := B.returns
  have hts := atoms_spec (ws := wsX1_run) B.pre
  have hown : s.vm.findClass RX1 = some m.cls := findClass_of_methodNamed B.named
  have hlocks := B.notSynchronized
  subst hsz
  have hD := hD0.self (sz := s.heap.size)
  have hA := zA_of hD
  have hl := lv_entry ([.ref mv, .int 0, .int 0, .int x, .int 3]) (n := 7) (Nat.le_of_ble_eq_true rfl)
  rw [lg_entry_eq]
  generalize (lg_sl ([.ref mv, .int 0, .int 0, .int x, .int 3]) ++ List.replicate (7 - (lg_sl ([.ref mv, .int 0, .int 0, .int x, .int 3])).length) Slot.unset).toArray = ls at hl ⊢
  replace hl : lv_has ls 7 [(0, .ref mv), (1, .int 0), (2, .int 0), (3, .int x), (4, .int 3)] := hl
  refine zw_begin hP hD (fun H locs hP1 hS => ?_)
  clear hP
  have hP := hP1
  clear hP1
  refine lv_iload_n hx hb dX1_run_0 rfl (lv_at hl 1 rfl) ?_
  refine lv_iload_n hx hb dX1_run_1 rfl (lv_at hl 2 rfl) ?_
  refine zc_S (As := [.int 0, .int 0]) (rest := []) ⟨hx, hb, hml, hown, hts⟩ (c_M_bodyFor_0_0 l D cI cJ cZ cP cS po  ) (va_cwS 2 hts gX1_run_X1_bodyFor rfl rfl rfl dh_X1_bodyFor ⟨Nat.le_of_ble_eq_true rfl, Nat.le_of_ble_eq_true rfl⟩) hK hN (hZ.kept hS) rfl hl.1 rfl (Nat.le_of_ble_eq_true rfl) dX1_run_2 ⟨Nat.le_of_ble_eq_true rfl, Nat.le_of_ble_eq_true rfl⟩ (fun r_1 hr_1 => ?_)
  obtain rfl := hr_1
  refine lv_istore (lv' := [(5, .int 10), (0, .ref mv), (1, .int 0), (2, .int 0), (3, .int x), (4, .int 3)]) hx hb dX1_run_5 hl (by decide) rfl (fun ls hl => ?_)
  refine lv_iload hx hb dX1_run_7 (lv_at hl 0 rfl) ?_
  refine lv_iconst (v := (-1)) hx hb dX1_run_9 (by decide) ?_
  refine lv_icmp_eq (tgt := 20) hx hb dX1_run_10 (by decide) (fun c_2 => ?_) (fun c_2 => ?_)
  · exact absurd c_2 (by decide)
  · refine lv_iload hx hb dX1_run_13 (lv_at hl 5 rfl) ?_
    refine lv_bipush (v := 40) hx hb dX1_run_15 (by decide) ?_
    refine lv_icmp_lt (tgt := 22) hx hb dX1_run_17 (by decide) (fun c_3 => ?_) (fun c_3 => ?_)
    · refine lv_aload_n hx hb dX1_run_22 rfl (lv_at hl 1 rfl) ?_
      refine lv_iload hx hb dX1_run_23 (lv_at hl 0 rfl) ?_
      skip
      refine zw_Vv (As := [.int 10]) (rest := []) (wr := []) ⟨hx, hb, hml, hown, hts⟩ (c_F_M_note l D cI cJ cZ cP cS po mv mb (mr) (3) (mm) (mq) fb (10) hy0 (by omega) H.size) (cwV 1 hts gX1_run_X1_note rfl rfl rfl ⟨rfl, dh_X1_note⟩ ⟨Nat.le_of_ble_eq_true rfl, Nat.le_of_ble_eq_true rfl⟩) hK hN (hZ.kept hS) hP hD hS hA [0, 1] [] rfl rfl (by decide) (by decide) (by decide) (va_recv (q := (RX1, TX1, 5)) hK hP (ci := 1) (q0 := 0) rfl rfl) rfl hl.1 rfl (Nat.le_of_ble_eq_true rfl) dX1_run_25 ⟨Nat.le_of_ble_eq_true rfl, Nat.le_of_ble_eq_true rfl⟩ (fun u_5 H locs hr_4 hP hD hS => ?_)
      obtain ⟨q_6, q_7⟩ := u_5
      try dsimp only at hr_4
      obtain ⟨hbq_6, hsr_4_0, hr_4⟩ := hr_4
      have h9R := zRe (ws' := [(mv, .inr (1, [.ref mb, .int q_6, .int 3, .int mm, .int mq])), (mb, .inl (cI, 20, .inl q_7))]) hP hD rfl
      clear hP hD
      obtain ⟨hP, hD⟩ := h9R
      refine lv_iload hx hb dX1_run_28 (lv_at hl 5 rfl) ?_
      refine lv_iconst (v := 1) hx hb dX1_run_30 (by decide) ?_
      refine lv_iadd hx hb dX1_run_31 ?_
      refine lv_topi (fun y_8 ey_8 => ?_)
      obtain rfl : y_8 = 4 := ey_8.trans (by decide)
      refine lv_istore (lv' := [(6, .int 4), (5, .int 10), (0, .ref mv), (1, .int 0), (2, .int 0), (3, .int x), (4, .int 3)]) hx hb dX1_run_32 hl (by decide) rfl (fun ls hl => ?_)
      refine lv_iload hx hb dX1_run_34 (lv_at hl 1 rfl) ?_
      refine lv_lookup (off := 92) (tgt := 128) hx hb dX1_run_36 (by decide) (by decide) (by decide) ?_
      refine lv_iload_n hx hb dX1_run_128 rfl (lv_at hl 5 rfl) ?_
      refine lv_aload_n hx hb dX1_run_129 rfl (lv_at hl 2 rfl) ?_
      refine va_get (D := D) (ci := 1) (v := .int mm) (C := RX1) (T := TX1) (N := 5) hx hb hts hi_X1_run_1 hown hK hP 0 rfl rfl 3 (by decide) (hts (.fieldLink RX1 22 "TheLiningsInIt$Moves" "m" "I") (List.mem_of_getElem? (i := 1) rfl)) (fun _ h9 => h9) rfl dX1_run_130 ?_
      refine lv_iadd hx hb dX1_run_133 ?_
      refine lv_topi (fun x_9 ex_9 => ?_)
      exact W.iret (v := x_9) hx hb hr (fun t ht hW => ⟨⟨x_9, (q_6, q_7), rfl, ⟨(show q_6.toInt = mr.toInt + 1 from by omega), (show (x_9 : Int32) = (x + mm) from by ((try rw [ex_9]); (try rw [ex_9]); first | done | rfl)), (show q_7 = zTr fb mr.toInt [10] from by (rw [hsr_4_0]; first | done | rfl)), trivial⟩, zRet ht hP hD [0, 1] (by decide) rfl⟩, hS.F ht⟩) hS.2.2 dX1_run_134
    · exact absurd c_3 (by decide)
set_option maxHeartbeats 4000000 in
set_option maxRecDepth 100000 in
theorem c_F_M_run_3_3_0_2 (l : Launch) (D : va_G) (cI cJ cZ cP cS : ClassId) (po : zPool) (mv mb : Nat) (mr mm mq : Int32) (fb : Nat → Int32) (x : Int32) (hy0 : 0 ≤ mr.toInt) (hy1 : mr.toInt ≤ 1200) (hpz : Nat) : Met l yX1_run wsX1_run ({ frames := 3, cells := 0, slots := 0, locals := 72 }) (va_Pc [.ref mv, .int 3, .int 0, .int x, .int 2] (zW D (zKT cI cJ cZ cP cS) po [(mv, .inr (1, [.ref mb, .int mr, .int 3, .int mm, .int mq])), (mb, .inl (cI, 20, .inl fb))] hpz)) (va_Qi (fun (r : Int32) (u : (Int32) × (Nat → Int32)) => u.1.toInt = mr.toInt + 2 ∧ (r = ((x + mm) + mq)) ∧ (u.2 = zTr fb mr.toInt [20, 10]) ∧ (True)) (zB D [(mv, .inr (1, [.ref mb, .int mr, .int 3, .int mm, .int mq])), (mb, .inl (cI, 20, .inl fb))] hpz (fun (u : (Int32) × (Nat → Int32)) => [(mv, .inr (1, [.ref mb, .int u.1, .int 3, .int mm, .int mq])), (mb, .inl (cI, 20, .inl u.2))])) (va_A [(mv, .inr (1, [.ref mb, .int mr, .int 3, .int mm, .int mq])), (mb, .inl (cI, 20, .inl fb))] hpz)) 0 0 (va_A [(mv, .inr (1, [.ref mb, .int mr, .int 3, .int mm, .int mq])), (mb, .inl (cI, 20, .inl fb))] hpz) := by
  refine Met.ofW (cc := cX1_run) (maxL := 7) (ret := (some .int)) (by decide) rfl ?_
  intro p e s m args below meth c s₁ B hml hv
  obtain ⟨rfl, hsz, hP, hK, hD0, hN, hZ⟩ := hv
  have hx := B.exec
  have hb := B.bytes
  have hr := B.returns
  have hts := atoms_spec (ws := wsX1_run) B.pre
  have hown : s.vm.findClass RX1 = some m.cls := findClass_of_methodNamed B.named
  have hlocks := B.notSynchronized
  subst hsz
  have hD := hD0.self (sz := s.heap.size)
  have hA := zA_of hD
  have hl := lv_entry ([.ref mv, .int 3, .int 0, .int x, .int 2]) (n := 7) (Nat.le_of_ble_eq_true rfl)
  rw [lg_entry_eq]
  generalize (lg_sl ([.ref mv, .int 3, .int 0, .int x, .int 2]) ++ List.replicate (7 - (lg_sl ([.ref mv, .int 3, .int 0, .int x, .int 2])).length) Slot.unset).toArray = ls at hl ⊢
  replace hl : lv_has ls 7 [(0, .ref mv), (1, .int 3), (2, .int 0), (3, .int x), (4, .int 2)] := hl
  refine zw_begin hP hD (fun H locs hP1 hS => ?_)
  clear hP
  have hP := hP1
  clear hP1
  refine lv_iload_n hx hb dX1_run_0 rfl (lv_at hl 1 rfl) ?_
  refine lv_iload_n hx hb dX1_run_1 rfl (lv_at hl 2 rfl) ?_
  refine zc_S (As := [.int 3, .int 0]) (rest := []) ⟨hx, hb, hml, hown, hts⟩ (c_M_bodyFor_3_0 l D cI cJ cZ cP cS po  ) (va_cwS 2 hts gX1_run_X1_bodyFor rfl rfl rfl dh_X1_bodyFor ⟨Nat.le_of_ble_eq_true rfl, Nat.le_of_ble_eq_true rfl⟩) hK hN (hZ.kept hS) rfl hl.1 rfl (Nat.le_of_ble_eq_true rfl) dX1_run_2 ⟨Nat.le_of_ble_eq_true rfl, Nat.le_of_ble_eq_true rfl⟩ (fun r_1 hr_1 => ?_)
  obtain rfl := hr_1
  refine lv_istore (lv' := [(5, .int 20), (0, .ref mv), (1, .int 3), (2, .int 0), (3, .int x), (4, .int 2)]) hx hb dX1_run_5 hl (by decide) rfl (fun ls hl => ?_)
  refine lv_iload hx hb dX1_run_7 (lv_at hl 0 rfl) ?_
  refine lv_iconst (v := (-1)) hx hb dX1_run_9 (by decide) ?_
  refine lv_icmp_eq (tgt := 20) hx hb dX1_run_10 (by decide) (fun c_2 => ?_) (fun c_2 => ?_)
  · exact absurd c_2 (by decide)
  · refine lv_iload hx hb dX1_run_13 (lv_at hl 5 rfl) ?_
    refine lv_bipush (v := 40) hx hb dX1_run_15 (by decide) ?_
    refine lv_icmp_lt (tgt := 22) hx hb dX1_run_17 (by decide) (fun c_3 => ?_) (fun c_3 => ?_)
    · refine lv_aload_n hx hb dX1_run_22 rfl (lv_at hl 1 rfl) ?_
      refine lv_iload hx hb dX1_run_23 (lv_at hl 0 rfl) ?_
      skip
      refine zw_Vv (As := [.int 20]) (rest := []) (wr := []) ⟨hx, hb, hml, hown, hts⟩ (c_F_M_note l D cI cJ cZ cP cS po mv mb (mr) (3) (mm) (mq) fb (20) hy0 (by omega) H.size) (cwV 1 hts gX1_run_X1_note rfl rfl rfl ⟨rfl, dh_X1_note⟩ ⟨Nat.le_of_ble_eq_true rfl, Nat.le_of_ble_eq_true rfl⟩) hK hN (hZ.kept hS) hP hD hS hA [0, 1] [] rfl rfl (by decide) (by decide) (by decide) (va_recv (q := (RX1, TX1, 5)) hK hP (ci := 1) (q0 := 0) rfl rfl) rfl hl.1 rfl (Nat.le_of_ble_eq_true rfl) dX1_run_25 ⟨Nat.le_of_ble_eq_true rfl, Nat.le_of_ble_eq_true rfl⟩ (fun u_5 H locs hr_4 hP hD hS => ?_)
      obtain ⟨q_6, q_7⟩ := u_5
      try dsimp only at hr_4
      obtain ⟨hbq_6, hsr_4_0, hr_4⟩ := hr_4
      have h9R := zRe (ws' := [(mv, .inr (1, [.ref mb, .int q_6, .int 3, .int mm, .int mq])), (mb, .inl (cI, 20, .inl q_7))]) hP hD rfl
      clear hP hD
      obtain ⟨hP, hD⟩ := h9R
      refine lv_iload hx hb dX1_run_28 (lv_at hl 5 rfl) ?_
      refine lv_iconst (v := 1) hx hb dX1_run_30 (by decide) ?_
      refine lv_iadd hx hb dX1_run_31 ?_
      refine lv_topi (fun y_8 ey_8 => ?_)
      obtain rfl : y_8 = 3 := ey_8.trans (by decide)
      refine lv_istore (lv' := [(6, .int 3), (5, .int 20), (0, .ref mv), (1, .int 3), (2, .int 0), (3, .int x), (4, .int 2)]) hx hb dX1_run_32 hl (by decide) rfl (fun ls hl => ?_)
      refine lv_iload hx hb dX1_run_34 (lv_at hl 1 rfl) ?_
      refine lv_lookup (off := 145) (tgt := 181) hx hb dX1_run_36 (by decide) (by decide) (by decide) ?_
      refine lv_aload_n hx hb dX1_run_181 rfl (lv_at hl 2 rfl) ?_
      refine lv_iconst (v := 0) hx hb dX1_run_182 (by decide) ?_
      refine lv_iconst (v := 0) hx hb dX1_run_183 (by decide) ?_
      refine lv_iload_n hx hb dX1_run_184 rfl (lv_at hl 5 rfl) ?_
      refine lv_iload hx hb dX1_run_185 (lv_at hl 0 rfl) ?_
      skip
      refine zw_V (As := [.int 0, .int 0, .int x, .int 3]) (rest := []) (wr := []) ⟨hx, hb, hml, hown, hts⟩ (c_F_M_run_3_0_0_3 l D cI cJ cZ cP cS po mv mb (q_6) (mm) (mq) q_7 (x) (by omega) (by omega) H.size) (cwV 4 hts gX1_run_X1_run rfl rfl rfl ⟨rfl, dh_X1_run⟩ ⟨Nat.le_of_ble_eq_true rfl, Nat.le_of_ble_eq_true rfl⟩) hK hN (hZ.kept hS) hP hD hS hA [0, 1] [] rfl rfl (by decide) (by decide) (by decide) (va_recv (q := (RX1, TX1, 5)) hK hP (ci := 1) (q0 := 0) rfl rfl) rfl hl.1 rfl (Nat.le_of_ble_eq_true rfl) dX1_run_187 ⟨Nat.le_of_ble_eq_true rfl, Nat.le_of_ble_eq_true rfl⟩ (fun r_9 u_10 H locs hr_9 hP hD hS => ?_)
      obtain ⟨q_11, q_12⟩ := u_10
      try dsimp only at hr_9
      obtain ⟨hbq_11, hsr_9_0, hsr_9_1, hr_9⟩ := hr_9
      have h9R := zRe (ws' := [(mv, .inr (1, [.ref mb, .int q_11, .int 3, .int mm, .int mq])), (mb, .inl (cI, 20, .inl q_12))]) hP hD rfl
      clear hP hD
      obtain ⟨hP, hD⟩ := h9R
      refine lv_aload_n hx hb dX1_run_190 rfl (lv_at hl 2 rfl) ?_
      refine va_get (D := D) (ci := 1) (v := .int mq) (C := RX1) (T := TX1) (N := 5) hx hb hts hi_X1_run_1 hown hK hP 0 rfl rfl 4 (by decide) (hts (.fieldLink RX1 25 "TheLiningsInIt$Moves" "k" "I") (List.mem_of_getElem? (i := 3) rfl)) (fun _ h9 => h9) rfl dX1_run_191 ?_
      refine lv_iadd hx hb dX1_run_194 ?_
      refine lv_topi (fun x_13 ex_13 => ?_)
      exact W.iret (v := x_13) hx hb hr (fun t ht hW => ⟨⟨x_13, (q_11, q_12), rfl, ⟨(show q_11.toInt = mr.toInt + 2 from by omega), (show (x_13 : Int32) = ((x + mm) + mq) from by ((try rw [ex_13]); (try rw [hsr_9_0]); (try rw [ex_13]); first | done | rfl)), (show q_12 = zTr fb mr.toInt [20, 10] from by (rw [hsr_9_1]; rw [hsr_4_0]; rw [zTr_app (by (have q : (([20] : List Int32).length : Int) = 1 := rfl; omega))]; first | done | rfl)), trivial⟩, zRet ht hP hD [0, 1] (by decide) rfl⟩, hS.F ht⟩) hS.2.2 dX1_run_195
    · exact absurd c_3 (by decide)
set_option maxHeartbeats 4000000 in
set_option maxRecDepth 100000 in
theorem c_F_M_run_3_1_1_1 (l : Launch) (D : va_G) (cI cJ cZ cP cS : ClassId) (po : zPool) (mv mb : Nat) (mr mm mq : Int32) (fb : Nat → Int32) (x : Int32) (hy0 : 0 ≤ mr.toInt) (hy1 : mr.toInt ≤ 1100) (hpz : Nat) : Met l yX1_run wsX1_run ({ frames := 4, cells := 0, slots := 0, locals := 98 }) (va_Pc [.ref mv, .int 1, .int 1, .int x, .int 1] (zW D (zKT cI cJ cZ cP cS) po [(mv, .inr (1, [.ref mb, .int mr, .int 3, .int mm, .int mq])), (mb, .inl (cI, 20, .inl fb))] hpz)) (va_Qi (fun (r : Int32) (u : (Int32) × (Nat → Int32)) => u.1.toInt = mr.toInt + 3 ∧ (r = (((x + mm) + mq) * 2)) ∧ (u.2 = zTr fb mr.toInt [11, 20, 10]) ∧ (True)) (zB D [(mv, .inr (1, [.ref mb, .int mr, .int 3, .int mm, .int mq])), (mb, .inl (cI, 20, .inl fb))] hpz (fun (u : (Int32) × (Nat → Int32)) => [(mv, .inr (1, [.ref mb, .int u.1, .int 3, .int mm, .int mq])), (mb, .inl (cI, 20, .inl u.2))])) (va_A [(mv, .inr (1, [.ref mb, .int mr, .int 3, .int mm, .int mq])), (mb, .inl (cI, 20, .inl fb))] hpz)) 0 0 (va_A [(mv, .inr (1, [.ref mb, .int mr, .int 3, .int mm, .int mq])), (mb, .inl (cI, 20, .inl fb))] hpz) := by
  refine Met.ofW (cc := cX1_run) (maxL := 7) (ret := (some .int)) (by decide) rfl ?_
  intro p e s m args below meth c s₁ B hml hv
  obtain ⟨rfl, hsz, hP, hK, hD0, hN, hZ⟩ := hv
  have hx := B.exec
  have hb := B.bytes
  have hr := B.returns
  have hts := atoms_spec (ws := wsX1_run) B.pre
  have hown : s.vm.findClass RX1 = some m.cls := findClass_of_methodNamed B.named
  have hlocks := B.notSynchronized
  subst hsz
  have hD := hD0.self (sz := s.heap.size)
  have hA := zA_of hD
  have hl := lv_entry ([.ref mv, .int 1, .int 1, .int x, .int 1]) (n := 7) (Nat.le_of_ble_eq_true rfl)
  rw [lg_entry_eq]
  generalize (lg_sl ([.ref mv, .int 1, .int 1, .int x, .int 1]) ++ List.replicate (7 - (lg_sl ([.ref mv, .int 1, .int 1, .int x, .int 1])).length) Slot.unset).toArray = ls at hl ⊢
  replace hl : lv_has ls 7 [(0, .ref mv), (1, .int 1), (2, .int 1), (3, .int x), (4, .int 1)] := hl
  refine zw_begin hP hD (fun H locs hP1 hS => ?_)
  clear hP
  have hP := hP1
  clear hP1
  refine lv_iload_n hx hb dX1_run_0 rfl (lv_at hl 1 rfl) ?_
  refine lv_iload_n hx hb dX1_run_1 rfl (lv_at hl 2 rfl) ?_
  refine zc_S (As := [.int 1, .int 1]) (rest := []) ⟨hx, hb, hml, hown, hts⟩ (c_M_bodyFor_1_1 l D cI cJ cZ cP cS po  ) (va_cwS 2 hts gX1_run_X1_bodyFor rfl rfl rfl dh_X1_bodyFor ⟨Nat.le_of_ble_eq_true rfl, Nat.le_of_ble_eq_true rfl⟩) hK hN (hZ.kept hS) rfl hl.1 rfl (Nat.le_of_ble_eq_true rfl) dX1_run_2 ⟨Nat.le_of_ble_eq_true rfl, Nat.le_of_ble_eq_true rfl⟩ (fun r_1 hr_1 => ?_)
  obtain rfl := hr_1
  refine lv_istore (lv' := [(5, .int 11), (0, .ref mv), (1, .int 1), (2, .int 1), (3, .int x), (4, .int 1)]) hx hb dX1_run_5 hl (by decide) rfl (fun ls hl => ?_)
  refine lv_iload hx hb dX1_run_7 (lv_at hl 0 rfl) ?_
  refine lv_iconst (v := (-1)) hx hb dX1_run_9 (by decide) ?_
  refine lv_icmp_eq (tgt := 20) hx hb dX1_run_10 (by decide) (fun c_2 => ?_) (fun c_2 => ?_)
  · exact absurd c_2 (by decide)
  · refine lv_iload hx hb dX1_run_13 (lv_at hl 5 rfl) ?_
    refine lv_bipush (v := 40) hx hb dX1_run_15 (by decide) ?_
    refine lv_icmp_lt (tgt := 22) hx hb dX1_run_17 (by decide) (fun c_3 => ?_) (fun c_3 => ?_)
    · refine lv_aload_n hx hb dX1_run_22 rfl (lv_at hl 1 rfl) ?_
      refine lv_iload hx hb dX1_run_23 (lv_at hl 0 rfl) ?_
      skip
      refine zw_Vv (As := [.int 11]) (rest := []) (wr := []) ⟨hx, hb, hml, hown, hts⟩ (c_F_M_note l D cI cJ cZ cP cS po mv mb (mr) (3) (mm) (mq) fb (11) hy0 (by omega) H.size) (cwV 1 hts gX1_run_X1_note rfl rfl rfl ⟨rfl, dh_X1_note⟩ ⟨Nat.le_of_ble_eq_true rfl, Nat.le_of_ble_eq_true rfl⟩) hK hN (hZ.kept hS) hP hD hS hA [0, 1] [] rfl rfl (by decide) (by decide) (by decide) (va_recv (q := (RX1, TX1, 5)) hK hP (ci := 1) (q0 := 0) rfl rfl) rfl hl.1 rfl (Nat.le_of_ble_eq_true rfl) dX1_run_25 ⟨Nat.le_of_ble_eq_true rfl, Nat.le_of_ble_eq_true rfl⟩ (fun u_5 H locs hr_4 hP hD hS => ?_)
      obtain ⟨q_6, q_7⟩ := u_5
      try dsimp only at hr_4
      obtain ⟨hbq_6, hsr_4_0, hr_4⟩ := hr_4
      have h9R := zRe (ws' := [(mv, .inr (1, [.ref mb, .int q_6, .int 3, .int mm, .int mq])), (mb, .inl (cI, 20, .inl q_7))]) hP hD rfl
      clear hP hD
      obtain ⟨hP, hD⟩ := h9R
      refine lv_iload hx hb dX1_run_28 (lv_at hl 5 rfl) ?_
      refine lv_iconst (v := 1) hx hb dX1_run_30 (by decide) ?_
      refine lv_iadd hx hb dX1_run_31 ?_
      refine lv_topi (fun y_8 ey_8 => ?_)
      obtain rfl : y_8 = 2 := ey_8.trans (by decide)
      refine lv_istore (lv' := [(6, .int 2), (5, .int 11), (0, .ref mv), (1, .int 1), (2, .int 1), (3, .int x), (4, .int 1)]) hx hb dX1_run_32 hl (by decide) rfl (fun ls hl => ?_)
      refine lv_iload hx hb dX1_run_34 (lv_at hl 1 rfl) ?_
      refine lv_lookup (off := 99) (tgt := 135) hx hb dX1_run_36 (by decide) (by decide) (by decide) ?_
      refine lv_aload_n hx hb dX1_run_135 rfl (lv_at hl 2 rfl) ?_
      refine lv_aload_n hx hb dX1_run_136 rfl (lv_at hl 2 rfl) ?_
      refine va_get (D := D) (ci := 1) (v := .int 3) (C := RX1) (T := TX1) (N := 5) hx hb hts hi_X1_run_1 hown hK hP 0 rfl rfl 2 (by decide) (hts (.fieldLink RX1 19 "TheLiningsInIt$Moves" "kind" "I") (List.mem_of_getElem? (i := 2) rfl)) (fun _ h9 => h9) rfl dX1_run_137 ?_
      refine lv_iconst (v := 0) hx hb dX1_run_140 (by decide) ?_
      refine lv_iload_n hx hb dX1_run_141 rfl (lv_at hl 5 rfl) ?_
      refine lv_iload hx hb dX1_run_142 (lv_at hl 0 rfl) ?_
      skip
      refine zw_V (As := [.int 3, .int 0, .int x, .int 2]) (rest := []) (wr := []) ⟨hx, hb, hml, hown, hts⟩ (c_F_M_run_3_3_0_2 l D cI cJ cZ cP cS po mv mb (q_6) (mm) (mq) q_7 (x) (by omega) (by omega) H.size) (cwV 4 hts gX1_run_X1_run rfl rfl rfl ⟨rfl, dh_X1_run⟩ ⟨Nat.le_of_ble_eq_true rfl, Nat.le_of_ble_eq_true rfl⟩) hK hN (hZ.kept hS) hP hD hS hA [0, 1] [] rfl rfl (by decide) (by decide) (by decide) (va_recv (q := (RX1, TX1, 5)) hK hP (ci := 1) (q0 := 0) rfl rfl) rfl hl.1 rfl (Nat.le_of_ble_eq_true rfl) dX1_run_144 ⟨Nat.le_of_ble_eq_true rfl, Nat.le_of_ble_eq_true rfl⟩ (fun r_9 u_10 H locs hr_9 hP hD hS => ?_)
      obtain ⟨q_11, q_12⟩ := u_10
      try dsimp only at hr_9
      obtain ⟨hbq_11, hsr_9_0, hsr_9_1, hr_9⟩ := hr_9
      have h9R := zRe (ws' := [(mv, .inr (1, [.ref mb, .int q_11, .int 3, .int mm, .int mq])), (mb, .inl (cI, 20, .inl q_12))]) hP hD rfl
      clear hP hD
      obtain ⟨hP, hD⟩ := h9R
      refine lv_iconst (v := 2) hx hb dX1_run_147 (by decide) ?_
      refine lv_imul hx hb dX1_run_148 ?_
      refine lv_topi (fun x_13 ex_13 => ?_)
      exact W.iret (v := x_13) hx hb hr (fun t ht hW => ⟨⟨x_13, (q_11, q_12), rfl, ⟨(show q_11.toInt = mr.toInt + 3 from by omega), (show (x_13 : Int32) = (((x + mm) + mq) * 2) from by ((try rw [ex_13]); (try rw [hsr_9_0]); (try rw [ex_13]); first | done | rfl)), (show q_12 = zTr fb mr.toInt [11, 20, 10] from by (rw [hsr_9_1]; rw [hsr_4_0]; rw [zTr_app (by (have q : (([11] : List Int32).length : Int) = 1 := rfl; omega))]; first | done | rfl)), trivial⟩, zRet ht hP hD [0, 1] (by decide) rfl⟩, hS.F ht⟩) hS.2.2 dX1_run_149
    · exact absurd c_3 (by decide)
set_option maxHeartbeats 4000000 in
set_option maxRecDepth 100000 in
theorem c_F_M_run_3_3_1_0 (l : Launch) (D : va_G) (cI cJ cZ cP cS : ClassId) (po : zPool) (mv mb : Nat) (mr mm mq : Int32) (fb : Nat → Int32) (x : Int32) (hy0 : 0 ≤ mr.toInt) (hy1 : mr.toInt ≤ 1000) (hpz : Nat) : Met l yX1_run wsX1_run ({ frames := 5, cells := 0, slots := 0, locals := 124 }) (va_Pc [.ref mv, .int 3, .int 1, .int x, .int 0] (zW D (zKT cI cJ cZ cP cS) po [(mv, .inr (1, [.ref mb, .int mr, .int 3, .int mm, .int mq])), (mb, .inl (cI, 20, .inl fb))] hpz)) (va_Qi (fun (r : Int32) (u : (Int32) × (Nat → Int32)) => u.1.toInt = mr.toInt + 4 ∧ (r = ((((x + 1) + mm) + mq) * 2)) ∧ (u.2 = zTr fb mr.toInt [40, 11, 20, 10]) ∧ (True)) (zB D [(mv, .inr (1, [.ref mb, .int mr, .int 3, .int mm, .int mq])), (mb, .inl (cI, 20, .inl fb))] hpz (fun (u : (Int32) × (Nat → Int32)) => [(mv, .inr (1, [.ref mb, .int u.1, .int 3, .int mm, .int mq])), (mb, .inl (cI, 20, .inl u.2))])) (va_A [(mv, .inr (1, [.ref mb, .int mr, .int 3, .int mm, .int mq])), (mb, .inl (cI, 20, .inl fb))] hpz)) 0 0 (va_A [(mv, .inr (1, [.ref mb, .int mr, .int 3, .int mm, .int mq])), (mb, .inl (cI, 20, .inl fb))] hpz) := by
  refine Met.ofW (cc := cX1_run) (maxL := 7) (ret := (some .int)) (by decide) rfl ?_
  intro p e s m args below meth c s₁ B hml hv
  obtain ⟨rfl, hsz, hP, hK, hD0, hN, hZ⟩ := hv
  have hx := B.exec
  have hb := B.bytes
  have hr := B.returns
  have hts := atoms_spec (ws := wsX1_run) B.pre
  have hown : s.vm.findClass RX1 = some m.cls := findClass_of_methodNamed B.named
  have hlocks := B.notSynchronized
  subst hsz
  have hD := hD0.self (sz := s.heap.size)
  have hA := zA_of hD
  have hl := lv_entry ([.ref mv, .int 3, .int 1, .int x, .int 0]) (n := 7) (Nat.le_of_ble_eq_true rfl)
  rw [lg_entry_eq]
  generalize (lg_sl ([.ref mv, .int 3, .int 1, .int x, .int 0]) ++ List.replicate (7 - (lg_sl ([.ref mv, .int 3, .int 1, .int x, .int 0])).length) Slot.unset).toArray = ls at hl ⊢
  replace hl : lv_has ls 7 [(0, .ref mv), (1, .int 3), (2, .int 1), (3, .int x), (4, .int 0)] := hl
  refine zw_begin hP hD (fun H locs hP1 hS => ?_)
  clear hP
  have hP := hP1
  clear hP1
  refine lv_iload_n hx hb dX1_run_0 rfl (lv_at hl 1 rfl) ?_
  refine lv_iload_n hx hb dX1_run_1 rfl (lv_at hl 2 rfl) ?_
  refine zc_S (As := [.int 3, .int 1]) (rest := []) ⟨hx, hb, hml, hown, hts⟩ (c_M_bodyFor_3_1 l D cI cJ cZ cP cS po  ) (va_cwS 2 hts gX1_run_X1_bodyFor rfl rfl rfl dh_X1_bodyFor ⟨Nat.le_of_ble_eq_true rfl, Nat.le_of_ble_eq_true rfl⟩) hK hN (hZ.kept hS) rfl hl.1 rfl (Nat.le_of_ble_eq_true rfl) dX1_run_2 ⟨Nat.le_of_ble_eq_true rfl, Nat.le_of_ble_eq_true rfl⟩ (fun r_1 hr_1 => ?_)
  obtain rfl := hr_1
  refine lv_istore (lv' := [(5, .int 40), (0, .ref mv), (1, .int 3), (2, .int 1), (3, .int x), (4, .int 0)]) hx hb dX1_run_5 hl (by decide) rfl (fun ls hl => ?_)
  refine lv_iload hx hb dX1_run_7 (lv_at hl 0 rfl) ?_
  refine lv_iconst (v := (-1)) hx hb dX1_run_9 (by decide) ?_
  refine lv_icmp_eq (tgt := 20) hx hb dX1_run_10 (by decide) (fun c_2 => ?_) (fun c_2 => ?_)
  · exact absurd c_2 (by decide)
  · refine lv_iload hx hb dX1_run_13 (lv_at hl 5 rfl) ?_
    refine lv_bipush (v := 40) hx hb dX1_run_15 (by decide) ?_
    refine lv_icmp_lt (tgt := 22) hx hb dX1_run_17 (by decide) (fun c_3 => ?_) (fun c_3 => ?_)
    · refine lv_aload_n hx hb dX1_run_22 rfl (lv_at hl 1 rfl) ?_
      refine lv_iload hx hb dX1_run_23 (lv_at hl 0 rfl) ?_
      skip
      refine zw_Vv (As := [.int 40]) (rest := []) (wr := []) ⟨hx, hb, hml, hown, hts⟩ (c_F_M_note l D cI cJ cZ cP cS po mv mb (mr) (3) (mm) (mq) fb (40) hy0 (by omega) H.size) (cwV 1 hts gX1_run_X1_note rfl rfl rfl ⟨rfl, dh_X1_note⟩ ⟨Nat.le_of_ble_eq_true rfl, Nat.le_of_ble_eq_true rfl⟩) hK hN (hZ.kept hS) hP hD hS hA [0, 1] [] rfl rfl (by decide) (by decide) (by decide) (va_recv (q := (RX1, TX1, 5)) hK hP (ci := 1) (q0 := 0) rfl rfl) rfl hl.1 rfl (Nat.le_of_ble_eq_true rfl) dX1_run_25 ⟨Nat.le_of_ble_eq_true rfl, Nat.le_of_ble_eq_true rfl⟩ (fun u_5 H locs hr_4 hP hD hS => ?_)
      obtain ⟨q_6, q_7⟩ := u_5
      try dsimp only at hr_4
      obtain ⟨hbq_6, hsr_4_0, hr_4⟩ := hr_4
      have h9R := zRe (ws' := [(mv, .inr (1, [.ref mb, .int q_6, .int 3, .int mm, .int mq])), (mb, .inl (cI, 20, .inl q_7))]) hP hD rfl
      clear hP hD
      obtain ⟨hP, hD⟩ := h9R
      refine lv_iload hx hb dX1_run_28 (lv_at hl 5 rfl) ?_
      refine lv_iconst (v := 1) hx hb dX1_run_30 (by decide) ?_
      refine lv_iadd hx hb dX1_run_31 ?_
      refine lv_topi (fun y_8 ey_8 => ?_)
      obtain rfl : y_8 = 1 := ey_8.trans (by decide)
      refine lv_istore (lv' := [(6, .int 1), (5, .int 40), (0, .ref mv), (1, .int 3), (2, .int 1), (3, .int x), (4, .int 0)]) hx hb dX1_run_32 hl (by decide) rfl (fun ls hl => ?_)
      refine lv_iload hx hb dX1_run_34 (lv_at hl 1 rfl) ?_
      refine lv_lookup (off := 172) (tgt := 208) hx hb dX1_run_36 (by decide) (by decide) (by decide) ?_
      refine lv_aload_n hx hb dX1_run_208 rfl (lv_at hl 2 rfl) ?_
      refine lv_iconst (v := 1) hx hb dX1_run_209 (by decide) ?_
      refine lv_iconst (v := 1) hx hb dX1_run_210 (by decide) ?_
      refine lv_iload_n hx hb dX1_run_211 rfl (lv_at hl 5 rfl) ?_
      refine lv_iconst (v := 1) hx hb dX1_run_212 (by decide) ?_
      refine lv_iadd hx hb dX1_run_213 ?_
      refine lv_topi (fun x_9 ex_9 => ?_)
      refine lv_iload hx hb dX1_run_214 (lv_at hl 0 rfl) ?_
      skip
      refine zw_V (As := [.int 1, .int 1, .int x_9, .int 1]) (rest := []) (wr := []) ⟨hx, hb, hml, hown, hts⟩ (c_F_M_run_3_1_1_1 l D cI cJ cZ cP cS po mv mb (q_6) (mm) (mq) q_7 (x_9) (by omega) (by omega) H.size) (cwV 4 hts gX1_run_X1_run rfl rfl rfl ⟨rfl, dh_X1_run⟩ ⟨Nat.le_of_ble_eq_true rfl, Nat.le_of_ble_eq_true rfl⟩) hK hN (hZ.kept hS) hP hD hS hA [0, 1] [] rfl rfl (by decide) (by decide) (by decide) (va_recv (q := (RX1, TX1, 5)) hK hP (ci := 1) (q0 := 0) rfl rfl) rfl hl.1 rfl (Nat.le_of_ble_eq_true rfl) dX1_run_216 ⟨Nat.le_of_ble_eq_true rfl, Nat.le_of_ble_eq_true rfl⟩ (fun r_10 u_11 H locs hr_10 hP hD hS => ?_)
      obtain ⟨q_12, q_13⟩ := u_11
      try dsimp only at hr_10
      obtain ⟨hbq_12, hsr_10_0, hsr_10_1, hr_10⟩ := hr_10
      have h9R := zRe (ws' := [(mv, .inr (1, [.ref mb, .int q_12, .int 3, .int mm, .int mq])), (mb, .inl (cI, 20, .inl q_13))]) hP hD rfl
      clear hP hD
      obtain ⟨hP, hD⟩ := h9R
      exact W.iret (v := r_10) hx hb hr (fun t ht hW => ⟨⟨r_10, (q_12, q_13), rfl, ⟨(show q_12.toInt = mr.toInt + 4 from by omega), (show (r_10 : Int32) = ((((x + 1) + mm) + mq) * 2) from by ((try rw [ex_9]); (try rw [hsr_10_0]); (try rw [ex_9]); first | done | rfl)), (show q_13 = zTr fb mr.toInt [40, 11, 20, 10] from by (rw [hsr_10_1]; rw [hsr_4_0]; rw [zTr_app (by (have q : (([40] : List Int32).length : Int) = 1 := rfl; omega))]; first | done | rfl)), trivial⟩, zRet ht hP hD [0, 1] (by decide) rfl⟩, hS.F ht⟩) hS.2.2 dX1_run_219
    · exact absurd c_3 (by decide)
set_option maxHeartbeats 4000000 in
set_option maxRecDepth 100000 in
theorem c_F_M_run_3_0_0_4 (l : Launch) (D : va_G) (cI cJ cZ cP cS : ClassId) (po : zPool) (mv mb : Nat) (mr mm mq : Int32) (fb : Nat → Int32) (x : Int32) (hy0 : 0 ≤ mr.toInt) (hy1 : mr.toInt ≤ 1400) (hpz : Nat) : Met l yX1_run wsX1_run ({ frames := 2, cells := 0, slots := 0, locals := 46 }) (va_Pc [.ref mv, .int 0, .int 0, .int x, .int 4] (zW D (zKT cI cJ cZ cP cS) po [(mv, .inr (1, [.ref mb, .int mr, .int 3, .int mm, .int mq])), (mb, .inl (cI, 20, .inl fb))] hpz)) (va_Qi (fun (r : Int32) (u : (Int32) × (Nat → Int32)) => u.1.toInt = mr.toInt + 1 ∧ (r = (x + mm)) ∧ (u.2 = zTr fb mr.toInt [10]) ∧ (True)) (zB D [(mv, .inr (1, [.ref mb, .int mr, .int 3, .int mm, .int mq])), (mb, .inl (cI, 20, .inl fb))] hpz (fun (u : (Int32) × (Nat → Int32)) => [(mv, .inr (1, [.ref mb, .int u.1, .int 3, .int mm, .int mq])), (mb, .inl (cI, 20, .inl u.2))])) (va_A [(mv, .inr (1, [.ref mb, .int mr, .int 3, .int mm, .int mq])), (mb, .inl (cI, 20, .inl fb))] hpz)) 0 0 (va_A [(mv, .inr (1, [.ref mb, .int mr, .int 3, .int mm, .int mq])), (mb, .inl (cI, 20, .inl fb))] hpz) := by
  refine Met.ofW (cc := cX1_run) (maxL := 7) (ret := (some .int)) (by decide) rfl ?_
  intro p e s m args below meth c s₁ B hml hv
  obtain ⟨rfl, hsz, hP, hK, hD0, hN, hZ⟩ := hv
  have hx := B.exec
  have hb := B.bytes
  have hr := B.returns
  have hts := atoms_spec (ws := wsX1_run) B.pre
  have hown : s.vm.findClass RX1 = some m.cls := findClass_of_methodNamed B.named
  have hlocks := B.notSynchronized
  subst hsz
  have hD := hD0.self (sz := s.heap.size)
  have hA := zA_of hD
  have hl := lv_entry ([.ref mv, .int 0, .int 0, .int x, .int 4]) (n := 7) (Nat.le_of_ble_eq_true rfl)
  rw [lg_entry_eq]
  generalize (lg_sl ([.ref mv, .int 0, .int 0, .int x, .int 4]) ++ List.replicate (7 - (lg_sl ([.ref mv, .int 0, .int 0, .int x, .int 4])).length) Slot.unset).toArray = ls at hl ⊢
  replace hl : lv_has ls 7 [(0, .ref mv), (1, .int 0), (2, .int 0), (3, .int x), (4, .int 4)] := hl
  refine zw_begin hP hD (fun H locs hP1 hS => ?_)
  clear hP
  have hP := hP1
  clear hP1
  refine lv_iload_n hx hb dX1_run_0 rfl (lv_at hl 1 rfl) ?_
  refine lv_iload_n hx hb dX1_run_1 rfl (lv_at hl 2 rfl) ?_
  refine zc_S (As := [.int 0, .int 0]) (rest := []) ⟨hx, hb, hml, hown, hts⟩ (c_M_bodyFor_0_0 l D cI cJ cZ cP cS po  ) (va_cwS 2 hts gX1_run_X1_bodyFor rfl rfl rfl dh_X1_bodyFor ⟨Nat.le_of_ble_eq_true rfl, Nat.le_of_ble_eq_true rfl⟩) hK hN (hZ.kept hS) rfl hl.1 rfl (Nat.le_of_ble_eq_true rfl) dX1_run_2 ⟨Nat.le_of_ble_eq_true rfl, Nat.le_of_ble_eq_true rfl⟩ (fun r_1 hr_1 => ?_)
  obtain rfl := hr_1
  refine lv_istore (lv' := [(5, .int 10), (0, .ref mv), (1, .int 0), (2, .int 0), (3, .int x), (4, .int 4)]) hx hb dX1_run_5 hl (by decide) rfl (fun ls hl => ?_)
  refine lv_iload hx hb dX1_run_7 (lv_at hl 0 rfl) ?_
  refine lv_iconst (v := (-1)) hx hb dX1_run_9 (by decide) ?_
  refine lv_icmp_eq (tgt := 20) hx hb dX1_run_10 (by decide) (fun c_2 => ?_) (fun c_2 => ?_)
  · exact absurd c_2 (by decide)
  · refine lv_iload hx hb dX1_run_13 (lv_at hl 5 rfl) ?_
    refine lv_bipush (v := 40) hx hb dX1_run_15 (by decide) ?_
    refine lv_icmp_lt (tgt := 22) hx hb dX1_run_17 (by decide) (fun c_3 => ?_) (fun c_3 => ?_)
    · refine lv_aload_n hx hb dX1_run_22 rfl (lv_at hl 1 rfl) ?_
      refine lv_iload hx hb dX1_run_23 (lv_at hl 0 rfl) ?_
      skip
      refine zw_Vv (As := [.int 10]) (rest := []) (wr := []) ⟨hx, hb, hml, hown, hts⟩ (c_F_M_note l D cI cJ cZ cP cS po mv mb (mr) (3) (mm) (mq) fb (10) hy0 (by omega) H.size) (cwV 1 hts gX1_run_X1_note rfl rfl rfl ⟨rfl, dh_X1_note⟩ ⟨Nat.le_of_ble_eq_true rfl, Nat.le_of_ble_eq_true rfl⟩) hK hN (hZ.kept hS) hP hD hS hA [0, 1] [] rfl rfl (by decide) (by decide) (by decide) (va_recv (q := (RX1, TX1, 5)) hK hP (ci := 1) (q0 := 0) rfl rfl) rfl hl.1 rfl (Nat.le_of_ble_eq_true rfl) dX1_run_25 ⟨Nat.le_of_ble_eq_true rfl, Nat.le_of_ble_eq_true rfl⟩ (fun u_5 H locs hr_4 hP hD hS => ?_)
      obtain ⟨q_6, q_7⟩ := u_5
      try dsimp only at hr_4
      obtain ⟨hbq_6, hsr_4_0, hr_4⟩ := hr_4
      have h9R := zRe (ws' := [(mv, .inr (1, [.ref mb, .int q_6, .int 3, .int mm, .int mq])), (mb, .inl (cI, 20, .inl q_7))]) hP hD rfl
      clear hP hD
      obtain ⟨hP, hD⟩ := h9R
      refine lv_iload hx hb dX1_run_28 (lv_at hl 5 rfl) ?_
      refine lv_iconst (v := 1) hx hb dX1_run_30 (by decide) ?_
      refine lv_iadd hx hb dX1_run_31 ?_
      refine lv_topi (fun y_8 ey_8 => ?_)
      obtain rfl : y_8 = 5 := ey_8.trans (by decide)
      refine lv_istore (lv' := [(6, .int 5), (5, .int 10), (0, .ref mv), (1, .int 0), (2, .int 0), (3, .int x), (4, .int 4)]) hx hb dX1_run_32 hl (by decide) rfl (fun ls hl => ?_)
      refine lv_iload hx hb dX1_run_34 (lv_at hl 1 rfl) ?_
      refine lv_lookup (off := 92) (tgt := 128) hx hb dX1_run_36 (by decide) (by decide) (by decide) ?_
      refine lv_iload_n hx hb dX1_run_128 rfl (lv_at hl 5 rfl) ?_
      refine lv_aload_n hx hb dX1_run_129 rfl (lv_at hl 2 rfl) ?_
      refine va_get (D := D) (ci := 1) (v := .int mm) (C := RX1) (T := TX1) (N := 5) hx hb hts hi_X1_run_1 hown hK hP 0 rfl rfl 3 (by decide) (hts (.fieldLink RX1 22 "TheLiningsInIt$Moves" "m" "I") (List.mem_of_getElem? (i := 1) rfl)) (fun _ h9 => h9) rfl dX1_run_130 ?_
      refine lv_iadd hx hb dX1_run_133 ?_
      refine lv_topi (fun x_9 ex_9 => ?_)
      exact W.iret (v := x_9) hx hb hr (fun t ht hW => ⟨⟨x_9, (q_6, q_7), rfl, ⟨(show q_6.toInt = mr.toInt + 1 from by omega), (show (x_9 : Int32) = (x + mm) from by ((try rw [ex_9]); (try rw [ex_9]); first | done | rfl)), (show q_7 = zTr fb mr.toInt [10] from by (rw [hsr_4_0]; first | done | rfl)), trivial⟩, zRet ht hP hD [0, 1] (by decide) rfl⟩, hS.F ht⟩) hS.2.2 dX1_run_134
    · exact absurd c_3 (by decide)
set_option maxHeartbeats 4000000 in
set_option maxRecDepth 100000 in
theorem c_F_M_run_3_3_0_3 (l : Launch) (D : va_G) (cI cJ cZ cP cS : ClassId) (po : zPool) (mv mb : Nat) (mr mm mq : Int32) (fb : Nat → Int32) (x : Int32) (hy0 : 0 ≤ mr.toInt) (hy1 : mr.toInt ≤ 1300) (hpz : Nat) : Met l yX1_run wsX1_run ({ frames := 3, cells := 0, slots := 0, locals := 72 }) (va_Pc [.ref mv, .int 3, .int 0, .int x, .int 3] (zW D (zKT cI cJ cZ cP cS) po [(mv, .inr (1, [.ref mb, .int mr, .int 3, .int mm, .int mq])), (mb, .inl (cI, 20, .inl fb))] hpz)) (va_Qi (fun (r : Int32) (u : (Int32) × (Nat → Int32)) => u.1.toInt = mr.toInt + 2 ∧ (r = ((x + mm) + mq)) ∧ (u.2 = zTr fb mr.toInt [20, 10]) ∧ (True)) (zB D [(mv, .inr (1, [.ref mb, .int mr, .int 3, .int mm, .int mq])), (mb, .inl (cI, 20, .inl fb))] hpz (fun (u : (Int32) × (Nat → Int32)) => [(mv, .inr (1, [.ref mb, .int u.1, .int 3, .int mm, .int mq])), (mb, .inl (cI, 20, .inl u.2))])) (va_A [(mv, .inr (1, [.ref mb, .int mr, .int 3, .int mm, .int mq])), (mb, .inl (cI, 20, .inl fb))] hpz)) 0 0 (va_A [(mv, .inr (1, [.ref mb, .int mr, .int 3, .int mm, .int mq])), (mb, .inl (cI, 20, .inl fb))] hpz) := by
  refine Met.ofW (cc := cX1_run) (maxL := 7) (ret := (some .int)) (by decide) rfl ?_
  intro p e s m args below meth c s₁ B hml hv
  obtain ⟨rfl, hsz, hP, hK, hD0, hN, hZ⟩ := hv
  have hx := B.exec
  have hb := B.bytes
  have hr := B.returns
  have hts := atoms_spec (ws := wsX1_run) B.pre
  have hown : s.vm.findClass RX1 = some m.cls := findClass_of_methodNamed B.named
  have hlocks := B.notSynchronized
  subst hsz
  have hD := hD0.self (sz := s.heap.size)
  have hA := zA_of hD
  have hl := lv_entry ([.ref mv, .int 3, .int 0, .int x, .int 3]) (n := 7) (Nat.le_of_ble_eq_true rfl)
  rw [lg_entry_eq]
  generalize (lg_sl ([.ref mv, .int 3, .int 0, .int x, .int 3]) ++ List.replicate (7 - (lg_sl ([.ref mv, .int 3, .int 0, .int x, .int 3])).length) Slot.unset).toArray = ls at hl ⊢
  replace hl : lv_has ls 7 [(0, .ref mv), (1, .int 3), (2, .int 0), (3, .int x), (4, .int 3)] := hl
  refine zw_begin hP hD (fun H locs hP1 hS => ?_)
  clear hP
  have hP := hP1
  clear hP1
  refine lv_iload_n hx hb dX1_run_0 rfl (lv_at hl 1 rfl) ?_
  refine lv_iload_n hx hb dX1_run_1 rfl (lv_at hl 2 rfl) ?_
  refine zc_S (As := [.int 3, .int 0]) (rest := []) ⟨hx, hb, hml, hown, hts⟩ (c_M_bodyFor_3_0 l D cI cJ cZ cP cS po  ) (va_cwS 2 hts gX1_run_X1_bodyFor rfl rfl rfl dh_X1_bodyFor ⟨Nat.le_of_ble_eq_true rfl, Nat.le_of_ble_eq_true rfl⟩) hK hN (hZ.kept hS) rfl hl.1 rfl (Nat.le_of_ble_eq_true rfl) dX1_run_2 ⟨Nat.le_of_ble_eq_true rfl, Nat.le_of_ble_eq_true rfl⟩ (fun r_1 hr_1 => ?_)
  obtain rfl := hr_1
  refine lv_istore (lv' := [(5, .int 20), (0, .ref mv), (1, .int 3), (2, .int 0), (3, .int x), (4, .int 3)]) hx hb dX1_run_5 hl (by decide) rfl (fun ls hl => ?_)
  refine lv_iload hx hb dX1_run_7 (lv_at hl 0 rfl) ?_
  refine lv_iconst (v := (-1)) hx hb dX1_run_9 (by decide) ?_
  refine lv_icmp_eq (tgt := 20) hx hb dX1_run_10 (by decide) (fun c_2 => ?_) (fun c_2 => ?_)
  · exact absurd c_2 (by decide)
  · refine lv_iload hx hb dX1_run_13 (lv_at hl 5 rfl) ?_
    refine lv_bipush (v := 40) hx hb dX1_run_15 (by decide) ?_
    refine lv_icmp_lt (tgt := 22) hx hb dX1_run_17 (by decide) (fun c_3 => ?_) (fun c_3 => ?_)
    · refine lv_aload_n hx hb dX1_run_22 rfl (lv_at hl 1 rfl) ?_
      refine lv_iload hx hb dX1_run_23 (lv_at hl 0 rfl) ?_
      skip
      refine zw_Vv (As := [.int 20]) (rest := []) (wr := []) ⟨hx, hb, hml, hown, hts⟩ (c_F_M_note l D cI cJ cZ cP cS po mv mb (mr) (3) (mm) (mq) fb (20) hy0 (by omega) H.size) (cwV 1 hts gX1_run_X1_note rfl rfl rfl ⟨rfl, dh_X1_note⟩ ⟨Nat.le_of_ble_eq_true rfl, Nat.le_of_ble_eq_true rfl⟩) hK hN (hZ.kept hS) hP hD hS hA [0, 1] [] rfl rfl (by decide) (by decide) (by decide) (va_recv (q := (RX1, TX1, 5)) hK hP (ci := 1) (q0 := 0) rfl rfl) rfl hl.1 rfl (Nat.le_of_ble_eq_true rfl) dX1_run_25 ⟨Nat.le_of_ble_eq_true rfl, Nat.le_of_ble_eq_true rfl⟩ (fun u_5 H locs hr_4 hP hD hS => ?_)
      obtain ⟨q_6, q_7⟩ := u_5
      try dsimp only at hr_4
      obtain ⟨hbq_6, hsr_4_0, hr_4⟩ := hr_4
      have h9R := zRe (ws' := [(mv, .inr (1, [.ref mb, .int q_6, .int 3, .int mm, .int mq])), (mb, .inl (cI, 20, .inl q_7))]) hP hD rfl
      clear hP hD
      obtain ⟨hP, hD⟩ := h9R
      refine lv_iload hx hb dX1_run_28 (lv_at hl 5 rfl) ?_
      refine lv_iconst (v := 1) hx hb dX1_run_30 (by decide) ?_
      refine lv_iadd hx hb dX1_run_31 ?_
      refine lv_topi (fun y_8 ey_8 => ?_)
      obtain rfl : y_8 = 4 := ey_8.trans (by decide)
      refine lv_istore (lv' := [(6, .int 4), (5, .int 20), (0, .ref mv), (1, .int 3), (2, .int 0), (3, .int x), (4, .int 3)]) hx hb dX1_run_32 hl (by decide) rfl (fun ls hl => ?_)
      refine lv_iload hx hb dX1_run_34 (lv_at hl 1 rfl) ?_
      refine lv_lookup (off := 145) (tgt := 181) hx hb dX1_run_36 (by decide) (by decide) (by decide) ?_
      refine lv_aload_n hx hb dX1_run_181 rfl (lv_at hl 2 rfl) ?_
      refine lv_iconst (v := 0) hx hb dX1_run_182 (by decide) ?_
      refine lv_iconst (v := 0) hx hb dX1_run_183 (by decide) ?_
      refine lv_iload_n hx hb dX1_run_184 rfl (lv_at hl 5 rfl) ?_
      refine lv_iload hx hb dX1_run_185 (lv_at hl 0 rfl) ?_
      skip
      refine zw_V (As := [.int 0, .int 0, .int x, .int 4]) (rest := []) (wr := []) ⟨hx, hb, hml, hown, hts⟩ (c_F_M_run_3_0_0_4 l D cI cJ cZ cP cS po mv mb (q_6) (mm) (mq) q_7 (x) (by omega) (by omega) H.size) (cwV 4 hts gX1_run_X1_run rfl rfl rfl ⟨rfl, dh_X1_run⟩ ⟨Nat.le_of_ble_eq_true rfl, Nat.le_of_ble_eq_true rfl⟩) hK hN (hZ.kept hS) hP hD hS hA [0, 1] [] rfl rfl (by decide) (by decide) (by decide) (va_recv (q := (RX1, TX1, 5)) hK hP (ci := 1) (q0 := 0) rfl rfl) rfl hl.1 rfl (Nat.le_of_ble_eq_true rfl) dX1_run_187 ⟨Nat.le_of_ble_eq_true rfl, Nat.le_of_ble_eq_true rfl⟩ (fun r_9 u_10 H locs hr_9 hP hD hS => ?_)
      obtain ⟨q_11, q_12⟩ := u_10
      try dsimp only at hr_9
      obtain ⟨hbq_11, hsr_9_0, hsr_9_1, hr_9⟩ := hr_9
      have h9R := zRe (ws' := [(mv, .inr (1, [.ref mb, .int q_11, .int 3, .int mm, .int mq])), (mb, .inl (cI, 20, .inl q_12))]) hP hD rfl
      clear hP hD
      obtain ⟨hP, hD⟩ := h9R
      refine lv_aload_n hx hb dX1_run_190 rfl (lv_at hl 2 rfl) ?_
      refine va_get (D := D) (ci := 1) (v := .int mq) (C := RX1) (T := TX1) (N := 5) hx hb hts hi_X1_run_1 hown hK hP 0 rfl rfl 4 (by decide) (hts (.fieldLink RX1 25 "TheLiningsInIt$Moves" "k" "I") (List.mem_of_getElem? (i := 3) rfl)) (fun _ h9 => h9) rfl dX1_run_191 ?_
      refine lv_iadd hx hb dX1_run_194 ?_
      refine lv_topi (fun x_13 ex_13 => ?_)
      exact W.iret (v := x_13) hx hb hr (fun t ht hW => ⟨⟨x_13, (q_11, q_12), rfl, ⟨(show q_11.toInt = mr.toInt + 2 from by omega), (show (x_13 : Int32) = ((x + mm) + mq) from by ((try rw [ex_13]); (try rw [hsr_9_0]); (try rw [ex_13]); first | done | rfl)), (show q_12 = zTr fb mr.toInt [20, 10] from by (rw [hsr_9_1]; rw [hsr_4_0]; rw [zTr_app (by (have q : (([20] : List Int32).length : Int) = 1 := rfl; omega))]; first | done | rfl)), trivial⟩, zRet ht hP hD [0, 1] (by decide) rfl⟩, hS.F ht⟩) hS.2.2 dX1_run_195
    · exact absurd c_3 (by decide)
set_option maxHeartbeats 4000000 in
set_option maxRecDepth 100000 in
theorem c_F_M_run_3_1_1_2 (l : Launch) (D : va_G) (cI cJ cZ cP cS : ClassId) (po : zPool) (mv mb : Nat) (mr mm mq : Int32) (fb : Nat → Int32) (x : Int32) (hy0 : 0 ≤ mr.toInt) (hy1 : mr.toInt ≤ 1200) (hpz : Nat) : Met l yX1_run wsX1_run ({ frames := 4, cells := 0, slots := 0, locals := 98 }) (va_Pc [.ref mv, .int 1, .int 1, .int x, .int 2] (zW D (zKT cI cJ cZ cP cS) po [(mv, .inr (1, [.ref mb, .int mr, .int 3, .int mm, .int mq])), (mb, .inl (cI, 20, .inl fb))] hpz)) (va_Qi (fun (r : Int32) (u : (Int32) × (Nat → Int32)) => u.1.toInt = mr.toInt + 3 ∧ (r = (((x + mm) + mq) * 2)) ∧ (u.2 = zTr fb mr.toInt [11, 20, 10]) ∧ (True)) (zB D [(mv, .inr (1, [.ref mb, .int mr, .int 3, .int mm, .int mq])), (mb, .inl (cI, 20, .inl fb))] hpz (fun (u : (Int32) × (Nat → Int32)) => [(mv, .inr (1, [.ref mb, .int u.1, .int 3, .int mm, .int mq])), (mb, .inl (cI, 20, .inl u.2))])) (va_A [(mv, .inr (1, [.ref mb, .int mr, .int 3, .int mm, .int mq])), (mb, .inl (cI, 20, .inl fb))] hpz)) 0 0 (va_A [(mv, .inr (1, [.ref mb, .int mr, .int 3, .int mm, .int mq])), (mb, .inl (cI, 20, .inl fb))] hpz) := by
  refine Met.ofW (cc := cX1_run) (maxL := 7) (ret := (some .int)) (by decide) rfl ?_
  intro p e s m args below meth c s₁ B hml hv
  obtain ⟨rfl, hsz, hP, hK, hD0, hN, hZ⟩ := hv
  have hx := B.exec
  have hb := B.bytes
  have hr := B.returns
  have hts := atoms_spec (ws := wsX1_run) B.pre
  have hown : s.vm.findClass RX1 = some m.cls := findClass_of_methodNamed B.named
  have hlocks := B.notSynchronized
  subst hsz
  have hD := hD0.self (sz := s.heap.size)
  have hA := zA_of hD
  have hl := lv_entry ([.ref mv, .int 1, .int 1, .int x, .int 2]) (n := 7) (Nat.le_of_ble_eq_true rfl)
  rw [lg_entry_eq]
  generalize (lg_sl ([.ref mv, .int 1, .int 1, .int x, .int 2]) ++ List.replicate (7 - (lg_sl ([.ref mv, .int 1, .int 1, .int x, .int 2])).length) Slot.unset).toArray = ls at hl ⊢
  replace hl : lv_has ls 7 [(0, .ref mv), (1, .int 1), (2, .int 1), (3, .int x), (4, .int 2)] := hl
  refine zw_begin hP hD (fun H locs hP1 hS => ?_)
  clear hP
  have hP := hP1
  clear hP1
  refine lv_iload_n hx hb dX1_run_0 rfl (lv_at hl 1 rfl) ?_
  refine lv_iload_n hx hb dX1_run_1 rfl (lv_at hl 2 rfl) ?_
  refine zc_S (As := [.int 1, .int 1]) (rest := []) ⟨hx, hb, hml, hown, hts⟩ (c_M_bodyFor_1_1 l D cI cJ cZ cP cS po  ) (va_cwS 2 hts gX1_run_X1_bodyFor rfl rfl rfl dh_X1_bodyFor ⟨Nat.le_of_ble_eq_true rfl, Nat.le_of_ble_eq_true rfl⟩) hK hN (hZ.kept hS) rfl hl.1 rfl (Nat.le_of_ble_eq_true rfl) dX1_run_2 ⟨Nat.le_of_ble_eq_true rfl, Nat.le_of_ble_eq_true rfl⟩ (fun r_1 hr_1 => ?_)
  obtain rfl := hr_1
  refine lv_istore (lv' := [(5, .int 11), (0, .ref mv), (1, .int 1), (2, .int 1), (3, .int x), (4, .int 2)]) hx hb dX1_run_5 hl (by decide) rfl (fun ls hl => ?_)
  refine lv_iload hx hb dX1_run_7 (lv_at hl 0 rfl) ?_
  refine lv_iconst (v := (-1)) hx hb dX1_run_9 (by decide) ?_
  refine lv_icmp_eq (tgt := 20) hx hb dX1_run_10 (by decide) (fun c_2 => ?_) (fun c_2 => ?_)
  · exact absurd c_2 (by decide)
  · refine lv_iload hx hb dX1_run_13 (lv_at hl 5 rfl) ?_
    refine lv_bipush (v := 40) hx hb dX1_run_15 (by decide) ?_
    refine lv_icmp_lt (tgt := 22) hx hb dX1_run_17 (by decide) (fun c_3 => ?_) (fun c_3 => ?_)
    · refine lv_aload_n hx hb dX1_run_22 rfl (lv_at hl 1 rfl) ?_
      refine lv_iload hx hb dX1_run_23 (lv_at hl 0 rfl) ?_
      skip
      refine zw_Vv (As := [.int 11]) (rest := []) (wr := []) ⟨hx, hb, hml, hown, hts⟩ (c_F_M_note l D cI cJ cZ cP cS po mv mb (mr) (3) (mm) (mq) fb (11) hy0 (by omega) H.size) (cwV 1 hts gX1_run_X1_note rfl rfl rfl ⟨rfl, dh_X1_note⟩ ⟨Nat.le_of_ble_eq_true rfl, Nat.le_of_ble_eq_true rfl⟩) hK hN (hZ.kept hS) hP hD hS hA [0, 1] [] rfl rfl (by decide) (by decide) (by decide) (va_recv (q := (RX1, TX1, 5)) hK hP (ci := 1) (q0 := 0) rfl rfl) rfl hl.1 rfl (Nat.le_of_ble_eq_true rfl) dX1_run_25 ⟨Nat.le_of_ble_eq_true rfl, Nat.le_of_ble_eq_true rfl⟩ (fun u_5 H locs hr_4 hP hD hS => ?_)
      obtain ⟨q_6, q_7⟩ := u_5
      try dsimp only at hr_4
      obtain ⟨hbq_6, hsr_4_0, hr_4⟩ := hr_4
      have h9R := zRe (ws' := [(mv, .inr (1, [.ref mb, .int q_6, .int 3, .int mm, .int mq])), (mb, .inl (cI, 20, .inl q_7))]) hP hD rfl
      clear hP hD
      obtain ⟨hP, hD⟩ := h9R
      refine lv_iload hx hb dX1_run_28 (lv_at hl 5 rfl) ?_
      refine lv_iconst (v := 1) hx hb dX1_run_30 (by decide) ?_
      refine lv_iadd hx hb dX1_run_31 ?_
      refine lv_topi (fun y_8 ey_8 => ?_)
      obtain rfl : y_8 = 3 := ey_8.trans (by decide)
      refine lv_istore (lv' := [(6, .int 3), (5, .int 11), (0, .ref mv), (1, .int 1), (2, .int 1), (3, .int x), (4, .int 2)]) hx hb dX1_run_32 hl (by decide) rfl (fun ls hl => ?_)
      refine lv_iload hx hb dX1_run_34 (lv_at hl 1 rfl) ?_
      refine lv_lookup (off := 99) (tgt := 135) hx hb dX1_run_36 (by decide) (by decide) (by decide) ?_
      refine lv_aload_n hx hb dX1_run_135 rfl (lv_at hl 2 rfl) ?_
      refine lv_aload_n hx hb dX1_run_136 rfl (lv_at hl 2 rfl) ?_
      refine va_get (D := D) (ci := 1) (v := .int 3) (C := RX1) (T := TX1) (N := 5) hx hb hts hi_X1_run_1 hown hK hP 0 rfl rfl 2 (by decide) (hts (.fieldLink RX1 19 "TheLiningsInIt$Moves" "kind" "I") (List.mem_of_getElem? (i := 2) rfl)) (fun _ h9 => h9) rfl dX1_run_137 ?_
      refine lv_iconst (v := 0) hx hb dX1_run_140 (by decide) ?_
      refine lv_iload_n hx hb dX1_run_141 rfl (lv_at hl 5 rfl) ?_
      refine lv_iload hx hb dX1_run_142 (lv_at hl 0 rfl) ?_
      skip
      refine zw_V (As := [.int 3, .int 0, .int x, .int 3]) (rest := []) (wr := []) ⟨hx, hb, hml, hown, hts⟩ (c_F_M_run_3_3_0_3 l D cI cJ cZ cP cS po mv mb (q_6) (mm) (mq) q_7 (x) (by omega) (by omega) H.size) (cwV 4 hts gX1_run_X1_run rfl rfl rfl ⟨rfl, dh_X1_run⟩ ⟨Nat.le_of_ble_eq_true rfl, Nat.le_of_ble_eq_true rfl⟩) hK hN (hZ.kept hS) hP hD hS hA [0, 1] [] rfl rfl (by decide) (by decide) (by decide) (va_recv (q := (RX1, TX1, 5)) hK hP (ci := 1) (q0 := 0) rfl rfl) rfl hl.1 rfl (Nat.le_of_ble_eq_true rfl) dX1_run_144 ⟨Nat.le_of_ble_eq_true rfl, Nat.le_of_ble_eq_true rfl⟩ (fun r_9 u_10 H locs hr_9 hP hD hS => ?_)
      obtain ⟨q_11, q_12⟩ := u_10
      try dsimp only at hr_9
      obtain ⟨hbq_11, hsr_9_0, hsr_9_1, hr_9⟩ := hr_9
      have h9R := zRe (ws' := [(mv, .inr (1, [.ref mb, .int q_11, .int 3, .int mm, .int mq])), (mb, .inl (cI, 20, .inl q_12))]) hP hD rfl
      clear hP hD
      obtain ⟨hP, hD⟩ := h9R
      refine lv_iconst (v := 2) hx hb dX1_run_147 (by decide) ?_
      refine lv_imul hx hb dX1_run_148 ?_
      refine lv_topi (fun x_13 ex_13 => ?_)
      exact W.iret (v := x_13) hx hb hr (fun t ht hW => ⟨⟨x_13, (q_11, q_12), rfl, ⟨(show q_11.toInt = mr.toInt + 3 from by omega), (show (x_13 : Int32) = (((x + mm) + mq) * 2) from by ((try rw [ex_13]); (try rw [hsr_9_0]); (try rw [ex_13]); first | done | rfl)), (show q_12 = zTr fb mr.toInt [11, 20, 10] from by (rw [hsr_9_1]; rw [hsr_4_0]; rw [zTr_app (by (have q : (([11] : List Int32).length : Int) = 1 := rfl; omega))]; first | done | rfl)), trivial⟩, zRet ht hP hD [0, 1] (by decide) rfl⟩, hS.F ht⟩) hS.2.2 dX1_run_149
    · exact absurd c_3 (by decide)
set_option maxHeartbeats 4000000 in
set_option maxRecDepth 100000 in
theorem c_F_M_run_3_3_1_1 (l : Launch) (D : va_G) (cI cJ cZ cP cS : ClassId) (po : zPool) (mv mb : Nat) (mr mm mq : Int32) (fb : Nat → Int32) (x : Int32) (hy0 : 0 ≤ mr.toInt) (hy1 : mr.toInt ≤ 1100) (hpz : Nat) : Met l yX1_run wsX1_run ({ frames := 5, cells := 0, slots := 0, locals := 124 }) (va_Pc [.ref mv, .int 3, .int 1, .int x, .int 1] (zW D (zKT cI cJ cZ cP cS) po [(mv, .inr (1, [.ref mb, .int mr, .int 3, .int mm, .int mq])), (mb, .inl (cI, 20, .inl fb))] hpz)) (va_Qi (fun (r : Int32) (u : (Int32) × (Nat → Int32)) => u.1.toInt = mr.toInt + 4 ∧ (r = ((((x + 1) + mm) + mq) * 2)) ∧ (u.2 = zTr fb mr.toInt [40, 11, 20, 10]) ∧ (True)) (zB D [(mv, .inr (1, [.ref mb, .int mr, .int 3, .int mm, .int mq])), (mb, .inl (cI, 20, .inl fb))] hpz (fun (u : (Int32) × (Nat → Int32)) => [(mv, .inr (1, [.ref mb, .int u.1, .int 3, .int mm, .int mq])), (mb, .inl (cI, 20, .inl u.2))])) (va_A [(mv, .inr (1, [.ref mb, .int mr, .int 3, .int mm, .int mq])), (mb, .inl (cI, 20, .inl fb))] hpz)) 0 0 (va_A [(mv, .inr (1, [.ref mb, .int mr, .int 3, .int mm, .int mq])), (mb, .inl (cI, 20, .inl fb))] hpz) := by
  refine Met.ofW (cc := cX1_run) (maxL := 7) (ret := (some .int)) (by decide) rfl ?_
  intro p e s m args below meth c s₁ B hml hv
  obtain ⟨rfl, hsz, hP, hK, hD0, hN, hZ⟩ := hv
  have hx := B.exec
  have hb := B.bytes
  have hr := B.returns
  have hts := atoms_spec (ws := wsX1_run) B.pre
  have hown : s.vm.findClass RX1 = some m.cls := findClass_of_methodNamed B.named
  have hlocks := B.notSynchronized
  subst hsz
  have hD := hD0.self (sz := s.heap.size)
  have hA := zA_of hD
  have hl := lv_entry ([.ref mv, .int 3, .int 1, .int x, .int 1]) (n := 7) (Nat.le_of_ble_eq_true rfl)
  rw [lg_entry_eq]
  generalize (lg_sl ([.ref mv, .int 3, .int 1, .int x, .int 1]) ++ List.replicate (7 - (lg_sl ([.ref mv, .int 3, .int 1, .int x, .int 1])).length) Slot.unset).toArray = ls at hl ⊢
  replace hl : lv_has ls 7 [(0, .ref mv), (1, .int 3), (2, .int 1), (3, .int x), (4, .int 1)] := hl
  refine zw_begin hP hD (fun H locs hP1 hS => ?_)
  clear hP
  have hP := hP1
  clear hP1
  refine lv_iload_n hx hb dX1_run_0 rfl (lv_at hl 1 rfl) ?_
  refine lv_iload_n hx hb dX1_run_1 rfl (lv_at hl 2 rfl) ?_
  refine zc_S (As := [.int 3, .int 1]) (rest := []) ⟨hx, hb, hml, hown, hts⟩ (c_M_bodyFor_3_1 l D cI cJ cZ cP cS po  ) (va_cwS 2 hts gX1_run_X1_bodyFor rfl rfl rfl dh_X1_bodyFor ⟨Nat.le_of_ble_eq_true rfl, Nat.le_of_ble_eq_true rfl⟩) hK hN (hZ.kept hS) rfl hl.1 rfl (Nat.le_of_ble_eq_true rfl) dX1_run_2 ⟨Nat.le_of_ble_eq_true rfl, Nat.le_of_ble_eq_true rfl⟩ (fun r_1 hr_1 => ?_)
  obtain rfl := hr_1
  refine lv_istore (lv' := [(5, .int 40), (0, .ref mv), (1, .int 3), (2, .int 1), (3, .int x), (4, .int 1)]) hx hb dX1_run_5 hl (by decide) rfl (fun ls hl => ?_)
  refine lv_iload hx hb dX1_run_7 (lv_at hl 0 rfl) ?_
  refine lv_iconst (v := (-1)) hx hb dX1_run_9 (by decide) ?_
  refine lv_icmp_eq (tgt := 20) hx hb dX1_run_10 (by decide) (fun c_2 => ?_) (fun c_2 => ?_)
  · exact absurd c_2 (by decide)
  · refine lv_iload hx hb dX1_run_13 (lv_at hl 5 rfl) ?_
    refine lv_bipush (v := 40) hx hb dX1_run_15 (by decide) ?_
    refine lv_icmp_lt (tgt := 22) hx hb dX1_run_17 (by decide) (fun c_3 => ?_) (fun c_3 => ?_)
    · refine lv_aload_n hx hb dX1_run_22 rfl (lv_at hl 1 rfl) ?_
      refine lv_iload hx hb dX1_run_23 (lv_at hl 0 rfl) ?_
      skip
      refine zw_Vv (As := [.int 40]) (rest := []) (wr := []) ⟨hx, hb, hml, hown, hts⟩ (c_F_M_note l D cI cJ cZ cP cS po mv mb (mr) (3) (mm) (mq) fb (40) hy0 (by omega) H.size) (cwV 1 hts gX1_run_X1_note rfl rfl rfl ⟨rfl, dh_X1_note⟩ ⟨Nat.le_of_ble_eq_true rfl, Nat.le_of_ble_eq_true rfl⟩) hK hN (hZ.kept hS) hP hD hS hA [0, 1] [] rfl rfl (by decide) (by decide) (by decide) (va_recv (q := (RX1, TX1, 5)) hK hP (ci := 1) (q0 := 0) rfl rfl) rfl hl.1 rfl (Nat.le_of_ble_eq_true rfl) dX1_run_25 ⟨Nat.le_of_ble_eq_true rfl, Nat.le_of_ble_eq_true rfl⟩ (fun u_5 H locs hr_4 hP hD hS => ?_)
      obtain ⟨q_6, q_7⟩ := u_5
      try dsimp only at hr_4
      obtain ⟨hbq_6, hsr_4_0, hr_4⟩ := hr_4
      have h9R := zRe (ws' := [(mv, .inr (1, [.ref mb, .int q_6, .int 3, .int mm, .int mq])), (mb, .inl (cI, 20, .inl q_7))]) hP hD rfl
      clear hP hD
      obtain ⟨hP, hD⟩ := h9R
      refine lv_iload hx hb dX1_run_28 (lv_at hl 5 rfl) ?_
      refine lv_iconst (v := 1) hx hb dX1_run_30 (by decide) ?_
      refine lv_iadd hx hb dX1_run_31 ?_
      refine lv_topi (fun y_8 ey_8 => ?_)
      obtain rfl : y_8 = 2 := ey_8.trans (by decide)
      refine lv_istore (lv' := [(6, .int 2), (5, .int 40), (0, .ref mv), (1, .int 3), (2, .int 1), (3, .int x), (4, .int 1)]) hx hb dX1_run_32 hl (by decide) rfl (fun ls hl => ?_)
      refine lv_iload hx hb dX1_run_34 (lv_at hl 1 rfl) ?_
      refine lv_lookup (off := 172) (tgt := 208) hx hb dX1_run_36 (by decide) (by decide) (by decide) ?_
      refine lv_aload_n hx hb dX1_run_208 rfl (lv_at hl 2 rfl) ?_
      refine lv_iconst (v := 1) hx hb dX1_run_209 (by decide) ?_
      refine lv_iconst (v := 1) hx hb dX1_run_210 (by decide) ?_
      refine lv_iload_n hx hb dX1_run_211 rfl (lv_at hl 5 rfl) ?_
      refine lv_iconst (v := 1) hx hb dX1_run_212 (by decide) ?_
      refine lv_iadd hx hb dX1_run_213 ?_
      refine lv_topi (fun x_9 ex_9 => ?_)
      refine lv_iload hx hb dX1_run_214 (lv_at hl 0 rfl) ?_
      skip
      refine zw_V (As := [.int 1, .int 1, .int x_9, .int 2]) (rest := []) (wr := []) ⟨hx, hb, hml, hown, hts⟩ (c_F_M_run_3_1_1_2 l D cI cJ cZ cP cS po mv mb (q_6) (mm) (mq) q_7 (x_9) (by omega) (by omega) H.size) (cwV 4 hts gX1_run_X1_run rfl rfl rfl ⟨rfl, dh_X1_run⟩ ⟨Nat.le_of_ble_eq_true rfl, Nat.le_of_ble_eq_true rfl⟩) hK hN (hZ.kept hS) hP hD hS hA [0, 1] [] rfl rfl (by decide) (by decide) (by decide) (va_recv (q := (RX1, TX1, 5)) hK hP (ci := 1) (q0 := 0) rfl rfl) rfl hl.1 rfl (Nat.le_of_ble_eq_true rfl) dX1_run_216 ⟨Nat.le_of_ble_eq_true rfl, Nat.le_of_ble_eq_true rfl⟩ (fun r_10 u_11 H locs hr_10 hP hD hS => ?_)
      obtain ⟨q_12, q_13⟩ := u_11
      try dsimp only at hr_10
      obtain ⟨hbq_12, hsr_10_0, hsr_10_1, hr_10⟩ := hr_10
      have h9R := zRe (ws' := [(mv, .inr (1, [.ref mb, .int q_12, .int 3, .int mm, .int mq])), (mb, .inl (cI, 20, .inl q_13))]) hP hD rfl
      clear hP hD
      obtain ⟨hP, hD⟩ := h9R
      exact W.iret (v := r_10) hx hb hr (fun t ht hW => ⟨⟨r_10, (q_12, q_13), rfl, ⟨(show q_12.toInt = mr.toInt + 4 from by omega), (show (r_10 : Int32) = ((((x + 1) + mm) + mq) * 2) from by ((try rw [ex_9]); (try rw [hsr_10_0]); (try rw [ex_9]); first | done | rfl)), (show q_13 = zTr fb mr.toInt [40, 11, 20, 10] from by (rw [hsr_10_1]; rw [hsr_4_0]; rw [zTr_app (by (have q : (([40] : List Int32).length : Int) = 1 := rfl; omega))]; first | done | rfl)), trivial⟩, zRet ht hP hD [0, 1] (by decide) rfl⟩, hS.F ht⟩) hS.2.2 dX1_run_219
    · exact absurd c_3 (by decide)
set_option maxHeartbeats 4000000 in
set_option maxRecDepth 100000 in
theorem c_F_M_run_3_0_0_2 (l : Launch) (D : va_G) (cI cJ cZ cP cS : ClassId) (po : zPool) (mv mb : Nat) (mr mm mq : Int32) (fb : Nat → Int32) (x : Int32) (hy0 : 0 ≤ mr.toInt) (hy1 : mr.toInt ≤ 1200) (hpz : Nat) : Met l yX1_run wsX1_run ({ frames := 2, cells := 0, slots := 0, locals := 46 }) (va_Pc [.ref mv, .int 0, .int 0, .int x, .int 2] (zW D (zKT cI cJ cZ cP cS) po [(mv, .inr (1, [.ref mb, .int mr, .int 3, .int mm, .int mq])), (mb, .inl (cI, 20, .inl fb))] hpz)) (va_Qi (fun (r : Int32) (u : (Int32) × (Nat → Int32)) => u.1.toInt = mr.toInt + 1 ∧ (r = (x + mm)) ∧ (u.2 = zTr fb mr.toInt [10]) ∧ (True)) (zB D [(mv, .inr (1, [.ref mb, .int mr, .int 3, .int mm, .int mq])), (mb, .inl (cI, 20, .inl fb))] hpz (fun (u : (Int32) × (Nat → Int32)) => [(mv, .inr (1, [.ref mb, .int u.1, .int 3, .int mm, .int mq])), (mb, .inl (cI, 20, .inl u.2))])) (va_A [(mv, .inr (1, [.ref mb, .int mr, .int 3, .int mm, .int mq])), (mb, .inl (cI, 20, .inl fb))] hpz)) 0 0 (va_A [(mv, .inr (1, [.ref mb, .int mr, .int 3, .int mm, .int mq])), (mb, .inl (cI, 20, .inl fb))] hpz) := by
  refine Met.ofW (cc := cX1_run) (maxL := 7) (ret := (some .int)) (by decide) rfl ?_
  intro p e s m args below meth c s₁ B hml hv
  obtain ⟨rfl, hsz, hP, hK, hD0, hN, hZ⟩ := hv
  have hx := B.exec
  have hb := B.bytes
  have hr := B.returns
  have hts := atoms_spec (ws := wsX1_run) B.pre
  have hown : s.vm.findClass RX1 = some m.cls := findClass_of_methodNamed B.named
  have hlocks := B.notSynchronized
  subst hsz
  have hD := hD0.self (sz := s.heap.size)
  have hA := zA_of hD
  have hl := lv_entry ([.ref mv, .int 0, .int 0, .int x, .int 2]) (n := 7) (Nat.le_of_ble_eq_true rfl)
  rw [lg_entry_eq]
  generalize (lg_sl ([.ref mv, .int 0, .int 0, .int x, .int 2]) ++ List.replicate (7 - (lg_sl ([.ref mv, .int 0, .int 0, .int x, .int 2])).length) Slot.unset).toArray = ls at hl ⊢
  replace hl : lv_has ls 7 [(0, .ref mv), (1, .int 0), (2, .int 0), (3, .int x), (4, .int 2)] := hl
  refine zw_begin hP hD (fun H locs hP1 hS => ?_)
  clear hP
  have hP := hP1
  clear hP1
  refine lv_iload_n hx hb dX1_run_0 rfl (lv_at hl 1 rfl) ?_
  refine lv_iload_n hx hb dX1_run_1 rfl (lv_at hl 2 rfl) ?_
  refine zc_S (As := [.int 0, .int 0]) (rest := []) ⟨hx, hb, hml, hown, hts⟩ (c_M_bodyFor_0_0 l D cI cJ cZ cP cS po  ) (va_cwS 2 hts gX1_run_X1_bodyFor rfl rfl rfl dh_X1_bodyFor ⟨Nat.le_of_ble_eq_true rfl, Nat.le_of_ble_eq_true rfl⟩) hK hN (hZ.kept hS) rfl hl.1 rfl (Nat.le_of_ble_eq_true rfl) dX1_run_2 ⟨Nat.le_of_ble_eq_true rfl, Nat.le_of_ble_eq_true rfl⟩ (fun r_1 hr_1 => ?_)
  obtain rfl := hr_1
  refine lv_istore (lv' := [(5, .int 10), (0, .ref mv), (1, .int 0), (2, .int 0), (3, .int x), (4, .int 2)]) hx hb dX1_run_5 hl (by decide) rfl (fun ls hl => ?_)
  refine lv_iload hx hb dX1_run_7 (lv_at hl 0 rfl) ?_
  refine lv_iconst (v := (-1)) hx hb dX1_run_9 (by decide) ?_
  refine lv_icmp_eq (tgt := 20) hx hb dX1_run_10 (by decide) (fun c_2 => ?_) (fun c_2 => ?_)
  · exact absurd c_2 (by decide)
  · refine lv_iload hx hb dX1_run_13 (lv_at hl 5 rfl) ?_
    refine lv_bipush (v := 40) hx hb dX1_run_15 (by decide) ?_
    refine lv_icmp_lt (tgt := 22) hx hb dX1_run_17 (by decide) (fun c_3 => ?_) (fun c_3 => ?_)
    · refine lv_aload_n hx hb dX1_run_22 rfl (lv_at hl 1 rfl) ?_
      refine lv_iload hx hb dX1_run_23 (lv_at hl 0 rfl) ?_
      skip
      refine zw_Vv (As := [.int 10]) (rest := []) (wr := []) ⟨hx, hb, hml, hown, hts⟩ (c_F_M_note l D cI cJ cZ cP cS po mv mb (mr) (3) (mm) (mq) fb (10) hy0 (by omega) H.size) (cwV 1 hts gX1_run_X1_note rfl rfl rfl ⟨rfl, dh_X1_note⟩ ⟨Nat.le_of_ble_eq_true rfl, Nat.le_of_ble_eq_true rfl⟩) hK hN (hZ.kept hS) hP hD hS hA [0, 1] [] rfl rfl (by decide) (by decide) (by decide) (va_recv (q := (RX1, TX1, 5)) hK hP (ci := 1) (q0 := 0) rfl rfl) rfl hl.1 rfl (Nat.le_of_ble_eq_true rfl) dX1_run_25 ⟨Nat.le_of_ble_eq_true rfl, Nat.le_of_ble_eq_true rfl⟩ (fun u_5 H locs hr_4 hP hD hS => ?_)
      obtain ⟨q_6, q_7⟩ := u_5
      try dsimp only at hr_4
      obtain ⟨hbq_6, hsr_4_0, hr_4⟩ := hr_4
      have h9R := zRe (ws' := [(mv, .inr (1, [.ref mb, .int q_6, .int 3, .int mm, .int mq])), (mb, .inl (cI, 20, .inl q_7))]) hP hD rfl
      clear hP hD
      obtain ⟨hP, hD⟩ := h9R
      refine lv_iload hx hb dX1_run_28 (lv_at hl 5 rfl) ?_
      refine lv_iconst (v := 1) hx hb dX1_run_30 (by decide) ?_
      refine lv_iadd hx hb dX1_run_31 ?_
      refine lv_topi (fun y_8 ey_8 => ?_)
      obtain rfl : y_8 = 3 := ey_8.trans (by decide)
      refine lv_istore (lv' := [(6, .int 3), (5, .int 10), (0, .ref mv), (1, .int 0), (2, .int 0), (3, .int x), (4, .int 2)]) hx hb dX1_run_32 hl (by decide) rfl (fun ls hl => ?_)
      refine lv_iload hx hb dX1_run_34 (lv_at hl 1 rfl) ?_
      refine lv_lookup (off := 92) (tgt := 128) hx hb dX1_run_36 (by decide) (by decide) (by decide) ?_
      refine lv_iload_n hx hb dX1_run_128 rfl (lv_at hl 5 rfl) ?_
      refine lv_aload_n hx hb dX1_run_129 rfl (lv_at hl 2 rfl) ?_
      refine va_get (D := D) (ci := 1) (v := .int mm) (C := RX1) (T := TX1) (N := 5) hx hb hts hi_X1_run_1 hown hK hP 0 rfl rfl 3 (by decide) (hts (.fieldLink RX1 22 "TheLiningsInIt$Moves" "m" "I") (List.mem_of_getElem? (i := 1) rfl)) (fun _ h9 => h9) rfl dX1_run_130 ?_
      refine lv_iadd hx hb dX1_run_133 ?_
      refine lv_topi (fun x_9 ex_9 => ?_)
      exact W.iret (v := x_9) hx hb hr (fun t ht hW => ⟨⟨x_9, (q_6, q_7), rfl, ⟨(show q_6.toInt = mr.toInt + 1 from by omega), (show (x_9 : Int32) = (x + mm) from by ((try rw [ex_9]); (try rw [ex_9]); first | done | rfl)), (show q_7 = zTr fb mr.toInt [10] from by (rw [hsr_4_0]; first | done | rfl)), trivial⟩, zRet ht hP hD [0, 1] (by decide) rfl⟩, hS.F ht⟩) hS.2.2 dX1_run_134
    · exact absurd c_3 (by decide)
set_option maxHeartbeats 4000000 in
set_option maxRecDepth 100000 in
theorem c_F_M_run_3_3_0_1 (l : Launch) (D : va_G) (cI cJ cZ cP cS : ClassId) (po : zPool) (mv mb : Nat) (mr mm mq : Int32) (fb : Nat → Int32) (x : Int32) (hy0 : 0 ≤ mr.toInt) (hy1 : mr.toInt ≤ 1100) (hpz : Nat) : Met l yX1_run wsX1_run ({ frames := 3, cells := 0, slots := 0, locals := 72 }) (va_Pc [.ref mv, .int 3, .int 0, .int x, .int 1] (zW D (zKT cI cJ cZ cP cS) po [(mv, .inr (1, [.ref mb, .int mr, .int 3, .int mm, .int mq])), (mb, .inl (cI, 20, .inl fb))] hpz)) (va_Qi (fun (r : Int32) (u : (Int32) × (Nat → Int32)) => u.1.toInt = mr.toInt + 2 ∧ (r = ((x + mm) + mq)) ∧ (u.2 = zTr fb mr.toInt [20, 10]) ∧ (True)) (zB D [(mv, .inr (1, [.ref mb, .int mr, .int 3, .int mm, .int mq])), (mb, .inl (cI, 20, .inl fb))] hpz (fun (u : (Int32) × (Nat → Int32)) => [(mv, .inr (1, [.ref mb, .int u.1, .int 3, .int mm, .int mq])), (mb, .inl (cI, 20, .inl u.2))])) (va_A [(mv, .inr (1, [.ref mb, .int mr, .int 3, .int mm, .int mq])), (mb, .inl (cI, 20, .inl fb))] hpz)) 0 0 (va_A [(mv, .inr (1, [.ref mb, .int mr, .int 3, .int mm, .int mq])), (mb, .inl (cI, 20, .inl fb))] hpz) := by
  refine Met.ofW (cc := cX1_run) (maxL := 7) (ret := (some .int)) (by decide) rfl ?_
  intro p e s m args below meth c s₁ B hml hv
  obtain ⟨rfl, hsz, hP, hK, hD0, hN, hZ⟩ := hv
  have hx := B.exec
  have hb := B.bytes
  have hr := B.returns
  have hts := atoms_spec (ws := wsX1_run) B.pre
  have hown : s.vm.findClass RX1 = some m.cls := findClass_of_methodNamed B.named
  have hlocks := B.notSynchronized
  subst hsz
  have hD := hD0.self (sz := s.heap.size)
  have hA := zA_of hD
  have hl := lv_entry ([.ref mv, .int 3, .int 0, .int x, .int 1]) (n := 7) (Nat.le_of_ble_eq_true rfl)
  rw [lg_entry_eq]
  generalize (lg_sl ([.ref mv, .int 3, .int 0, .int x, .int 1]) ++ List.replicate (7 - (lg_sl ([.ref mv, .int 3, .int 0, .int x, .int 1])).length) Slot.unset).toArray = ls at hl ⊢
  replace hl : lv_has ls 7 [(0, .ref mv), (1, .int 3), (2, .int 0), (3, .int x), (4, .int 1)] := hl
  refine zw_begin hP hD (fun H locs hP1 hS => ?_)
  clear hP
  have hP := hP1
  clear hP1
  refine lv_iload_n hx hb dX1_run_0 rfl (lv_at hl 1 rfl) ?_
  refine lv_iload_n hx hb dX1_run_1 rfl (lv_at hl 2 rfl) ?_
  refine zc_S (As := [.int 3, .int 0]) (rest := []) ⟨hx, hb, hml, hown, hts⟩ (c_M_bodyFor_3_0 l D cI cJ cZ cP cS po  ) (va_cwS 2 hts gX1_run_X1_bodyFor rfl rfl rfl dh_X1_bodyFor ⟨Nat.le_of_ble_eq_true rfl, Nat.le_of_ble_eq_true rfl⟩) hK hN (hZ.kept hS) rfl hl.1 rfl (Nat.le_of_ble_eq_true rfl) dX1_run_2 ⟨Nat.le_of_ble_eq_true rfl, Nat.le_of_ble_eq_true rfl⟩ (fun r_1 hr_1 => ?_)
  obtain rfl := hr_1
  refine lv_istore (lv' := [(5, .int 20), (0, .ref mv), (1, .int 3), (2, .int 0), (3, .int x), (4, .int 1)]) hx hb dX1_run_5 hl (by decide) rfl (fun ls hl => ?_)
  refine lv_iload hx hb dX1_run_7 (lv_at hl 0 rfl) ?_
  refine lv_iconst (v := (-1)) hx hb dX1_run_9 (by decide) ?_
  refine lv_icmp_eq (tgt := 20) hx hb dX1_run_10 (by decide) (fun c_2 => ?_) (fun c_2 => ?_)
  · exact absurd c_2 (by decide)
  · refine lv_iload hx hb dX1_run_13 (lv_at hl 5 rfl) ?_
    refine lv_bipush (v := 40) hx hb dX1_run_15 (by decide) ?_
    refine lv_icmp_lt (tgt := 22) hx hb dX1_run_17 (by decide) (fun c_3 => ?_) (fun c_3 => ?_)
    · refine lv_aload_n hx hb dX1_run_22 rfl (lv_at hl 1 rfl) ?_
      refine lv_iload hx hb dX1_run_23 (lv_at hl 0 rfl) ?_
      skip
      refine zw_Vv (As := [.int 20]) (rest := []) (wr := []) ⟨hx, hb, hml, hown, hts⟩ (c_F_M_note l D cI cJ cZ cP cS po mv mb (mr) (3) (mm) (mq) fb (20) hy0 (by omega) H.size) (cwV 1 hts gX1_run_X1_note rfl rfl rfl ⟨rfl, dh_X1_note⟩ ⟨Nat.le_of_ble_eq_true rfl, Nat.le_of_ble_eq_true rfl⟩) hK hN (hZ.kept hS) hP hD hS hA [0, 1] [] rfl rfl (by decide) (by decide) (by decide) (va_recv (q := (RX1, TX1, 5)) hK hP (ci := 1) (q0 := 0) rfl rfl) rfl hl.1 rfl (Nat.le_of_ble_eq_true rfl) dX1_run_25 ⟨Nat.le_of_ble_eq_true rfl, Nat.le_of_ble_eq_true rfl⟩ (fun u_5 H locs hr_4 hP hD hS => ?_)
      obtain ⟨q_6, q_7⟩ := u_5
      try dsimp only at hr_4
      obtain ⟨hbq_6, hsr_4_0, hr_4⟩ := hr_4
      have h9R := zRe (ws' := [(mv, .inr (1, [.ref mb, .int q_6, .int 3, .int mm, .int mq])), (mb, .inl (cI, 20, .inl q_7))]) hP hD rfl
      clear hP hD
      obtain ⟨hP, hD⟩ := h9R
      refine lv_iload hx hb dX1_run_28 (lv_at hl 5 rfl) ?_
      refine lv_iconst (v := 1) hx hb dX1_run_30 (by decide) ?_
      refine lv_iadd hx hb dX1_run_31 ?_
      refine lv_topi (fun y_8 ey_8 => ?_)
      obtain rfl : y_8 = 2 := ey_8.trans (by decide)
      refine lv_istore (lv' := [(6, .int 2), (5, .int 20), (0, .ref mv), (1, .int 3), (2, .int 0), (3, .int x), (4, .int 1)]) hx hb dX1_run_32 hl (by decide) rfl (fun ls hl => ?_)
      refine lv_iload hx hb dX1_run_34 (lv_at hl 1 rfl) ?_
      refine lv_lookup (off := 145) (tgt := 181) hx hb dX1_run_36 (by decide) (by decide) (by decide) ?_
      refine lv_aload_n hx hb dX1_run_181 rfl (lv_at hl 2 rfl) ?_
      refine lv_iconst (v := 0) hx hb dX1_run_182 (by decide) ?_
      refine lv_iconst (v := 0) hx hb dX1_run_183 (by decide) ?_
      refine lv_iload_n hx hb dX1_run_184 rfl (lv_at hl 5 rfl) ?_
      refine lv_iload hx hb dX1_run_185 (lv_at hl 0 rfl) ?_
      skip
      refine zw_V (As := [.int 0, .int 0, .int x, .int 2]) (rest := []) (wr := []) ⟨hx, hb, hml, hown, hts⟩ (c_F_M_run_3_0_0_2 l D cI cJ cZ cP cS po mv mb (q_6) (mm) (mq) q_7 (x) (by omega) (by omega) H.size) (cwV 4 hts gX1_run_X1_run rfl rfl rfl ⟨rfl, dh_X1_run⟩ ⟨Nat.le_of_ble_eq_true rfl, Nat.le_of_ble_eq_true rfl⟩) hK hN (hZ.kept hS) hP hD hS hA [0, 1] [] rfl rfl (by decide) (by decide) (by decide) (va_recv (q := (RX1, TX1, 5)) hK hP (ci := 1) (q0 := 0) rfl rfl) rfl hl.1 rfl (Nat.le_of_ble_eq_true rfl) dX1_run_187 ⟨Nat.le_of_ble_eq_true rfl, Nat.le_of_ble_eq_true rfl⟩ (fun r_9 u_10 H locs hr_9 hP hD hS => ?_)
      obtain ⟨q_11, q_12⟩ := u_10
      try dsimp only at hr_9
      obtain ⟨hbq_11, hsr_9_0, hsr_9_1, hr_9⟩ := hr_9
      have h9R := zRe (ws' := [(mv, .inr (1, [.ref mb, .int q_11, .int 3, .int mm, .int mq])), (mb, .inl (cI, 20, .inl q_12))]) hP hD rfl
      clear hP hD
      obtain ⟨hP, hD⟩ := h9R
      refine lv_aload_n hx hb dX1_run_190 rfl (lv_at hl 2 rfl) ?_
      refine va_get (D := D) (ci := 1) (v := .int mq) (C := RX1) (T := TX1) (N := 5) hx hb hts hi_X1_run_1 hown hK hP 0 rfl rfl 4 (by decide) (hts (.fieldLink RX1 25 "TheLiningsInIt$Moves" "k" "I") (List.mem_of_getElem? (i := 3) rfl)) (fun _ h9 => h9) rfl dX1_run_191 ?_
      refine lv_iadd hx hb dX1_run_194 ?_
      refine lv_topi (fun x_13 ex_13 => ?_)
      exact W.iret (v := x_13) hx hb hr (fun t ht hW => ⟨⟨x_13, (q_11, q_12), rfl, ⟨(show q_11.toInt = mr.toInt + 2 from by omega), (show (x_13 : Int32) = ((x + mm) + mq) from by ((try rw [ex_13]); (try rw [hsr_9_0]); (try rw [ex_13]); first | done | rfl)), (show q_12 = zTr fb mr.toInt [20, 10] from by (rw [hsr_9_1]; rw [hsr_4_0]; rw [zTr_app (by (have q : (([20] : List Int32).length : Int) = 1 := rfl; omega))]; first | done | rfl)), trivial⟩, zRet ht hP hD [0, 1] (by decide) rfl⟩, hS.F ht⟩) hS.2.2 dX1_run_195
    · exact absurd c_3 (by decide)
set_option maxHeartbeats 4000000 in
set_option maxRecDepth 100000 in
theorem c_F_M_run_3_3_2_0 (l : Launch) (D : va_G) (cI cJ cZ cP cS : ClassId) (po : zPool) (mv mb : Nat) (mr mm mq : Int32) (fb : Nat → Int32) (x : Int32) (hy0 : 0 ≤ mr.toInt) (hy1 : mr.toInt ≤ 1000) (hpz : Nat) : Met l yX1_run wsX1_run ({ frames := 6, cells := 0, slots := 0, locals := 150 }) (va_Pc [.ref mv, .int 3, .int 2, .int x, .int 0] (zW D (zKT cI cJ cZ cP cS) po [(mv, .inr (1, [.ref mb, .int mr, .int 3, .int mm, .int mq])), (mb, .inl (cI, 20, .inl fb))] hpz)) (va_Qi (fun (r : Int32) (u : (Int32) × (Nat → Int32)) => u.1.toInt = mr.toInt + 7 ∧ (r = (((((x + 1) + mm) + mq) * 2) ^^^ (((x - mq) + mm) + mq))) ∧ (u.2 = zTr fb mr.toInt [12, 40, 11, 20, 10, 20, 10]) ∧ (True)) (zB D [(mv, .inr (1, [.ref mb, .int mr, .int 3, .int mm, .int mq])), (mb, .inl (cI, 20, .inl fb))] hpz (fun (u : (Int32) × (Nat → Int32)) => [(mv, .inr (1, [.ref mb, .int u.1, .int 3, .int mm, .int mq])), (mb, .inl (cI, 20, .inl u.2))])) (va_A [(mv, .inr (1, [.ref mb, .int mr, .int 3, .int mm, .int mq])), (mb, .inl (cI, 20, .inl fb))] hpz)) 0 0 (va_A [(mv, .inr (1, [.ref mb, .int mr, .int 3, .int mm, .int mq])), (mb, .inl (cI, 20, .inl fb))] hpz) := by
  refine Met.ofW (cc := cX1_run) (maxL := 7) (ret := (some .int)) (by decide) rfl ?_
  intro p e s m args below meth c s₁ B hml hv
  obtain ⟨rfl, hsz, hP, hK, hD0, hN, hZ⟩ := hv
  have hx := B.exec
  have hb := B.bytes
  have hr := B.returns
  have hts := atoms_spec (ws := wsX1_run) B.pre
  have hown : s.vm.findClass RX1 = some m.cls := findClass_of_methodNamed B.named
  have hlocks := B.notSynchronized
  subst hsz
  have hD := hD0.self (sz := s.heap.size)
  have hA := zA_of hD
  have hl := lv_entry ([.ref mv, .int 3, .int 2, .int x, .int 0]) (n := 7) (Nat.le_of_ble_eq_true rfl)
  rw [lg_entry_eq]
  generalize (lg_sl ([.ref mv, .int 3, .int 2, .int x, .int 0]) ++ List.replicate (7 - (lg_sl ([.ref mv, .int 3, .int 2, .int x, .int 0])).length) Slot.unset).toArray = ls at hl ⊢
  replace hl : lv_has ls 7 [(0, .ref mv), (1, .int 3), (2, .int 2), (3, .int x), (4, .int 0)] := hl
  refine zw_begin hP hD (fun H locs hP1 hS => ?_)
  clear hP
  have hP := hP1
  clear hP1
  refine lv_iload_n hx hb dX1_run_0 rfl (lv_at hl 1 rfl) ?_
  refine lv_iload_n hx hb dX1_run_1 rfl (lv_at hl 2 rfl) ?_
  refine zc_S (As := [.int 3, .int 2]) (rest := []) ⟨hx, hb, hml, hown, hts⟩ (c_M_bodyFor_3_2 l D cI cJ cZ cP cS po  ) (va_cwS 2 hts gX1_run_X1_bodyFor rfl rfl rfl dh_X1_bodyFor ⟨Nat.le_of_ble_eq_true rfl, Nat.le_of_ble_eq_true rfl⟩) hK hN (hZ.kept hS) rfl hl.1 rfl (Nat.le_of_ble_eq_true rfl) dX1_run_2 ⟨Nat.le_of_ble_eq_true rfl, Nat.le_of_ble_eq_true rfl⟩ (fun r_1 hr_1 => ?_)
  obtain rfl := hr_1
  refine lv_istore (lv' := [(5, .int 12), (0, .ref mv), (1, .int 3), (2, .int 2), (3, .int x), (4, .int 0)]) hx hb dX1_run_5 hl (by decide) rfl (fun ls hl => ?_)
  refine lv_iload hx hb dX1_run_7 (lv_at hl 0 rfl) ?_
  refine lv_iconst (v := (-1)) hx hb dX1_run_9 (by decide) ?_
  refine lv_icmp_eq (tgt := 20) hx hb dX1_run_10 (by decide) (fun c_2 => ?_) (fun c_2 => ?_)
  · exact absurd c_2 (by decide)
  · refine lv_iload hx hb dX1_run_13 (lv_at hl 5 rfl) ?_
    refine lv_bipush (v := 40) hx hb dX1_run_15 (by decide) ?_
    refine lv_icmp_lt (tgt := 22) hx hb dX1_run_17 (by decide) (fun c_3 => ?_) (fun c_3 => ?_)
    · refine lv_aload_n hx hb dX1_run_22 rfl (lv_at hl 1 rfl) ?_
      refine lv_iload hx hb dX1_run_23 (lv_at hl 0 rfl) ?_
      skip
      refine zw_Vv (As := [.int 12]) (rest := []) (wr := []) ⟨hx, hb, hml, hown, hts⟩ (c_F_M_note l D cI cJ cZ cP cS po mv mb (mr) (3) (mm) (mq) fb (12) hy0 (by omega) H.size) (cwV 1 hts gX1_run_X1_note rfl rfl rfl ⟨rfl, dh_X1_note⟩ ⟨Nat.le_of_ble_eq_true rfl, Nat.le_of_ble_eq_true rfl⟩) hK hN (hZ.kept hS) hP hD hS hA [0, 1] [] rfl rfl (by decide) (by decide) (by decide) (va_recv (q := (RX1, TX1, 5)) hK hP (ci := 1) (q0 := 0) rfl rfl) rfl hl.1 rfl (Nat.le_of_ble_eq_true rfl) dX1_run_25 ⟨Nat.le_of_ble_eq_true rfl, Nat.le_of_ble_eq_true rfl⟩ (fun u_5 H locs hr_4 hP hD hS => ?_)
      obtain ⟨q_6, q_7⟩ := u_5
      try dsimp only at hr_4
      obtain ⟨hbq_6, hsr_4_0, hr_4⟩ := hr_4
      have h9R := zRe (ws' := [(mv, .inr (1, [.ref mb, .int q_6, .int 3, .int mm, .int mq])), (mb, .inl (cI, 20, .inl q_7))]) hP hD rfl
      clear hP hD
      obtain ⟨hP, hD⟩ := h9R
      refine lv_iload hx hb dX1_run_28 (lv_at hl 5 rfl) ?_
      refine lv_iconst (v := 1) hx hb dX1_run_30 (by decide) ?_
      refine lv_iadd hx hb dX1_run_31 ?_
      refine lv_topi (fun y_8 ey_8 => ?_)
      obtain rfl : y_8 = 1 := ey_8.trans (by decide)
      refine lv_istore (lv' := [(6, .int 1), (5, .int 12), (0, .ref mv), (1, .int 3), (2, .int 2), (3, .int x), (4, .int 0)]) hx hb dX1_run_32 hl (by decide) rfl (fun ls hl => ?_)
      refine lv_iload hx hb dX1_run_34 (lv_at hl 1 rfl) ?_
      refine lv_lookup (off := 114) (tgt := 150) hx hb dX1_run_36 (by decide) (by decide) (by decide) ?_
      refine lv_aload_n hx hb dX1_run_150 rfl (lv_at hl 2 rfl) ?_
      refine lv_aload_n hx hb dX1_run_151 rfl (lv_at hl 2 rfl) ?_
      refine va_get (D := D) (ci := 1) (v := .int 3) (C := RX1) (T := TX1) (N := 5) hx hb hts hi_X1_run_1 hown hK hP 0 rfl rfl 2 (by decide) (hts (.fieldLink RX1 19 "TheLiningsInIt$Moves" "kind" "I") (List.mem_of_getElem? (i := 2) rfl)) (fun _ h9 => h9) rfl dX1_run_152 ?_
      refine lv_iconst (v := 1) hx hb dX1_run_155 (by decide) ?_
      refine lv_iload_n hx hb dX1_run_156 rfl (lv_at hl 5 rfl) ?_
      refine lv_iload hx hb dX1_run_157 (lv_at hl 0 rfl) ?_
      skip
      refine zw_V (As := [.int 3, .int 1, .int x, .int 1]) (rest := []) (wr := []) ⟨hx, hb, hml, hown, hts⟩ (c_F_M_run_3_3_1_1 l D cI cJ cZ cP cS po mv mb (q_6) (mm) (mq) q_7 (x) (by omega) (by omega) H.size) (cwV 4 hts gX1_run_X1_run rfl rfl rfl ⟨rfl, dh_X1_run⟩ ⟨Nat.le_of_ble_eq_true rfl, Nat.le_of_ble_eq_true rfl⟩) hK hN (hZ.kept hS) hP hD hS hA [0, 1] [] rfl rfl (by decide) (by decide) (by decide) (va_recv (q := (RX1, TX1, 5)) hK hP (ci := 1) (q0 := 0) rfl rfl) rfl hl.1 rfl (Nat.le_of_ble_eq_true rfl) dX1_run_159 ⟨Nat.le_of_ble_eq_true rfl, Nat.le_of_ble_eq_true rfl⟩ (fun r_9 u_10 H locs hr_9 hP hD hS => ?_)
      obtain ⟨q_11, q_12⟩ := u_10
      try dsimp only at hr_9
      obtain ⟨hbq_11, hsr_9_0, hsr_9_1, hr_9⟩ := hr_9
      have h9R := zRe (ws' := [(mv, .inr (1, [.ref mb, .int q_11, .int 3, .int mm, .int mq])), (mb, .inl (cI, 20, .inl q_12))]) hP hD rfl
      clear hP hD
      obtain ⟨hP, hD⟩ := h9R
      refine lv_aload_n hx hb dX1_run_162 rfl (lv_at hl 2 rfl) ?_
      refine lv_aload_n hx hb dX1_run_163 rfl (lv_at hl 2 rfl) ?_
      refine va_get (D := D) (ci := 1) (v := .int 3) (C := RX1) (T := TX1) (N := 5) hx hb hts hi_X1_run_1 hown hK hP 0 rfl rfl 2 (by decide) (hts (.fieldLink RX1 19 "TheLiningsInIt$Moves" "kind" "I") (List.mem_of_getElem? (i := 2) rfl)) (fun _ h9 => h9) rfl dX1_run_164 ?_
      refine lv_iconst (v := 0) hx hb dX1_run_167 (by decide) ?_
      refine lv_iload_n hx hb dX1_run_168 rfl (lv_at hl 5 rfl) ?_
      refine lv_aload_n hx hb dX1_run_169 rfl (lv_at hl 2 rfl) ?_
      refine va_get (D := D) (ci := 1) (v := .int mq) (C := RX1) (T := TX1) (N := 5) hx hb hts hi_X1_run_1 hown hK hP 0 rfl rfl 4 (by decide) (hts (.fieldLink RX1 25 "TheLiningsInIt$Moves" "k" "I") (List.mem_of_getElem? (i := 3) rfl)) (fun _ h9 => h9) rfl dX1_run_170 ?_
      refine lv_isub hx hb dX1_run_173 ?_
      refine lv_topi (fun x_13 ex_13 => ?_)
      refine lv_iload hx hb dX1_run_174 (lv_at hl 0 rfl) ?_
      skip
      refine zw_V (As := [.int 3, .int 0, .int x_13, .int 1]) (rest := [.int r_9]) (wr := []) ⟨hx, hb, hml, hown, hts⟩ (c_F_M_run_3_3_0_1 l D cI cJ cZ cP cS po mv mb (q_11) (mm) (mq) q_12 (x_13) (by omega) (by omega) H.size) (cwV 4 hts gX1_run_X1_run rfl rfl rfl ⟨rfl, dh_X1_run⟩ ⟨Nat.le_of_ble_eq_true rfl, Nat.le_of_ble_eq_true rfl⟩) hK hN (hZ.kept hS) hP hD hS hA [0, 1] [] rfl rfl (by decide) (by decide) (by decide) (va_recv (q := (RX1, TX1, 5)) hK hP (ci := 1) (q0 := 0) rfl rfl) rfl hl.1 rfl (Nat.le_of_ble_eq_true rfl) dX1_run_176 ⟨Nat.le_of_ble_eq_true rfl, Nat.le_of_ble_eq_true rfl⟩ (fun r_14 u_15 H locs hr_14 hP hD hS => ?_)
      obtain ⟨q_16, q_17⟩ := u_15
      try dsimp only at hr_14
      obtain ⟨hbq_16, hsr_14_0, hsr_14_1, hr_14⟩ := hr_14
      have h9R := zRe (ws' := [(mv, .inr (1, [.ref mb, .int q_16, .int 3, .int mm, .int mq])), (mb, .inl (cI, 20, .inl q_17))]) hP hD rfl
      clear hP hD
      obtain ⟨hP, hD⟩ := h9R
      refine lv_ixor hx hb dX1_run_179 ?_
      refine lv_topi (fun x_18 ex_18 => ?_)
      exact W.iret (v := x_18) hx hb hr (fun t ht hW => ⟨⟨x_18, (q_16, q_17), rfl, ⟨(show q_16.toInt = mr.toInt + 7 from by omega), (show (x_18 : Int32) = (((((x + 1) + mm) + mq) * 2) ^^^ (((x - mq) + mm) + mq)) from by ((try rw [ex_18]); (try rw [ex_13]); (try rw [hsr_9_0]); (try rw [hsr_14_0]); (try rw [ex_18]); (try rw [ex_13]); first | done | rfl)), (show q_17 = zTr fb mr.toInt [12, 40, 11, 20, 10, 20, 10] from by (rw [hsr_14_1]; rw [hsr_9_1]; rw [hsr_4_0]; rw [zTr_app (by (have q : (([40, 11, 20, 10] : List Int32).length : Int) = 4 := rfl; omega))]; rw [zTr_app (by (have q : (([12] : List Int32).length : Int) = 1 := rfl; omega))]; first | done | rfl)), trivial⟩, zRet ht hP hD [0, 1] (by decide) rfl⟩, hS.F ht⟩) hS.2.2 dX1_run_180
    · exact absurd c_3 (by decide)
set_option maxHeartbeats 4000000 in
set_option maxRecDepth 100000 in
theorem c_F_M_run_4_0_0_1 (l : Launch) (D : va_G) (cI cJ cZ cP cS : ClassId) (po : zPool) (mv mb : Nat) (mr mm mq : Int32) (fb : Nat → Int32) (x : Int32) (hy0 : 0 ≤ mr.toInt) (hy1 : mr.toInt ≤ 1100) (hpz : Nat) : Met l yX1_run wsX1_run ({ frames := 2, cells := 0, slots := 0, locals := 46 }) (va_Pc [.ref mv, .int 0, .int 0, .int x, .int 1] (zW D (zKT cI cJ cZ cP cS) po [(mv, .inr (1, [.ref mb, .int mr, .int 4, .int mm, .int mq])), (mb, .inl (cI, 20, .inl fb))] hpz)) (va_Qi (fun (r : Int32) (u : (Int32) × (Nat → Int32)) => u.1.toInt = mr.toInt + 1 ∧ (r = (x + mm)) ∧ (u.2 = zTr fb mr.toInt [10]) ∧ (True)) (zB D [(mv, .inr (1, [.ref mb, .int mr, .int 4, .int mm, .int mq])), (mb, .inl (cI, 20, .inl fb))] hpz (fun (u : (Int32) × (Nat → Int32)) => [(mv, .inr (1, [.ref mb, .int u.1, .int 4, .int mm, .int mq])), (mb, .inl (cI, 20, .inl u.2))])) (va_A [(mv, .inr (1, [.ref mb, .int mr, .int 4, .int mm, .int mq])), (mb, .inl (cI, 20, .inl fb))] hpz)) 0 0 (va_A [(mv, .inr (1, [.ref mb, .int mr, .int 4, .int mm, .int mq])), (mb, .inl (cI, 20, .inl fb))] hpz) := by
  refine Met.ofW (cc := cX1_run) (maxL := 7) (ret := (some .int)) (by decide) rfl ?_
  intro p e s m args below meth c s₁ B hml hv
  obtain ⟨rfl, hsz, hP, hK, hD0, hN, hZ⟩ := hv
  have hx := B.exec
  have hb := B.bytes
  have hr := B.returns
  have hts := atoms_spec (ws := wsX1_run) B.pre
  have hown : s.vm.findClass RX1 = some m.cls := findClass_of_methodNamed B.named
  have hlocks := B.notSynchronized
  subst hsz
  have hD := hD0.self (sz := s.heap.size)
  have hA := zA_of hD
  have hl := lv_entry ([.ref mv, .int 0, .int 0, .int x, .int 1]) (n := 7) (Nat.le_of_ble_eq_true rfl)
  rw [lg_entry_eq]
  generalize (lg_sl ([.ref mv, .int 0, .int 0, .int x, .int 1]) ++ List.replicate (7 - (lg_sl ([.ref mv, .int 0, .int 0, .int x, .int 1])).length) Slot.unset).toArray = ls at hl ⊢
  replace hl : lv_has ls 7 [(0, .ref mv), (1, .int 0), (2, .int 0), (3, .int x), (4, .int 1)] := hl
  refine zw_begin hP hD (fun H locs hP1 hS => ?_)
  clear hP
  have hP := hP1
  clear hP1
  refine lv_iload_n hx hb dX1_run_0 rfl (lv_at hl 1 rfl) ?_
  refine lv_iload_n hx hb dX1_run_1 rfl (lv_at hl 2 rfl) ?_
  refine zc_S (As := [.int 0, .int 0]) (rest := []) ⟨hx, hb, hml, hown, hts⟩ (c_M_bodyFor_0_0 l D cI cJ cZ cP cS po  ) (va_cwS 2 hts gX1_run_X1_bodyFor rfl rfl rfl dh_X1_bodyFor ⟨Nat.le_of_ble_eq_true rfl, Nat.le_of_ble_eq_true rfl⟩) hK hN (hZ.kept hS) rfl hl.1 rfl (Nat.le_of_ble_eq_true rfl) dX1_run_2 ⟨Nat.le_of_ble_eq_true rfl, Nat.le_of_ble_eq_true rfl⟩ (fun r_1 hr_1 => ?_)
  obtain rfl := hr_1
  refine lv_istore (lv' := [(5, .int 10), (0, .ref mv), (1, .int 0), (2, .int 0), (3, .int x), (4, .int 1)]) hx hb dX1_run_5 hl (by decide) rfl (fun ls hl => ?_)
  refine lv_iload hx hb dX1_run_7 (lv_at hl 0 rfl) ?_
  refine lv_iconst (v := (-1)) hx hb dX1_run_9 (by decide) ?_
  refine lv_icmp_eq (tgt := 20) hx hb dX1_run_10 (by decide) (fun c_2 => ?_) (fun c_2 => ?_)
  · exact absurd c_2 (by decide)
  · refine lv_iload hx hb dX1_run_13 (lv_at hl 5 rfl) ?_
    refine lv_bipush (v := 40) hx hb dX1_run_15 (by decide) ?_
    refine lv_icmp_lt (tgt := 22) hx hb dX1_run_17 (by decide) (fun c_3 => ?_) (fun c_3 => ?_)
    · refine lv_aload_n hx hb dX1_run_22 rfl (lv_at hl 1 rfl) ?_
      refine lv_iload hx hb dX1_run_23 (lv_at hl 0 rfl) ?_
      skip
      refine zw_Vv (As := [.int 10]) (rest := []) (wr := []) ⟨hx, hb, hml, hown, hts⟩ (c_F_M_note l D cI cJ cZ cP cS po mv mb (mr) (4) (mm) (mq) fb (10) hy0 (by omega) H.size) (cwV 1 hts gX1_run_X1_note rfl rfl rfl ⟨rfl, dh_X1_note⟩ ⟨Nat.le_of_ble_eq_true rfl, Nat.le_of_ble_eq_true rfl⟩) hK hN (hZ.kept hS) hP hD hS hA [0, 1] [] rfl rfl (by decide) (by decide) (by decide) (va_recv (q := (RX1, TX1, 5)) hK hP (ci := 1) (q0 := 0) rfl rfl) rfl hl.1 rfl (Nat.le_of_ble_eq_true rfl) dX1_run_25 ⟨Nat.le_of_ble_eq_true rfl, Nat.le_of_ble_eq_true rfl⟩ (fun u_5 H locs hr_4 hP hD hS => ?_)
      obtain ⟨q_6, q_7⟩ := u_5
      try dsimp only at hr_4
      obtain ⟨hbq_6, hsr_4_0, hr_4⟩ := hr_4
      have h9R := zRe (ws' := [(mv, .inr (1, [.ref mb, .int q_6, .int 4, .int mm, .int mq])), (mb, .inl (cI, 20, .inl q_7))]) hP hD rfl
      clear hP hD
      obtain ⟨hP, hD⟩ := h9R
      refine lv_iload hx hb dX1_run_28 (lv_at hl 5 rfl) ?_
      refine lv_iconst (v := 1) hx hb dX1_run_30 (by decide) ?_
      refine lv_iadd hx hb dX1_run_31 ?_
      refine lv_topi (fun y_8 ey_8 => ?_)
      obtain rfl : y_8 = 2 := ey_8.trans (by decide)
      refine lv_istore (lv' := [(6, .int 2), (5, .int 10), (0, .ref mv), (1, .int 0), (2, .int 0), (3, .int x), (4, .int 1)]) hx hb dX1_run_32 hl (by decide) rfl (fun ls hl => ?_)
      refine lv_iload hx hb dX1_run_34 (lv_at hl 1 rfl) ?_
      refine lv_lookup (off := 92) (tgt := 128) hx hb dX1_run_36 (by decide) (by decide) (by decide) ?_
      refine lv_iload_n hx hb dX1_run_128 rfl (lv_at hl 5 rfl) ?_
      refine lv_aload_n hx hb dX1_run_129 rfl (lv_at hl 2 rfl) ?_
      refine va_get (D := D) (ci := 1) (v := .int mm) (C := RX1) (T := TX1) (N := 5) hx hb hts hi_X1_run_1 hown hK hP 0 rfl rfl 3 (by decide) (hts (.fieldLink RX1 22 "TheLiningsInIt$Moves" "m" "I") (List.mem_of_getElem? (i := 1) rfl)) (fun _ h9 => h9) rfl dX1_run_130 ?_
      refine lv_iadd hx hb dX1_run_133 ?_
      refine lv_topi (fun x_9 ex_9 => ?_)
      exact W.iret (v := x_9) hx hb hr (fun t ht hW => ⟨⟨x_9, (q_6, q_7), rfl, ⟨(show q_6.toInt = mr.toInt + 1 from by omega), (show (x_9 : Int32) = (x + mm) from by ((try rw [ex_9]); (try rw [ex_9]); first | done | rfl)), (show q_7 = zTr fb mr.toInt [10] from by (rw [hsr_4_0]; first | done | rfl)), trivial⟩, zRet ht hP hD [0, 1] (by decide) rfl⟩, hS.F ht⟩) hS.2.2 dX1_run_134
    · exact absurd c_3 (by decide)
set_option maxHeartbeats 4000000 in
set_option maxRecDepth 100000 in
theorem c_F_M_run_4_4_0_0 (l : Launch) (D : va_G) (cI cJ cZ cP cS : ClassId) (po : zPool) (mv mb : Nat) (mr mm mq : Int32) (fb : Nat → Int32) (x : Int32) (hy0 : 0 ≤ mr.toInt) (hy1 : mr.toInt ≤ 1000) (hpz : Nat) : Met l yX1_run wsX1_run ({ frames := 3, cells := 0, slots := 0, locals := 72 }) (va_Pc [.ref mv, .int 4, .int 0, .int x, .int 0] (zW D (zKT cI cJ cZ cP cS) po [(mv, .inr (1, [.ref mb, .int mr, .int 4, .int mm, .int mq])), (mb, .inl (cI, 20, .inl fb))] hpz)) (va_Qi (fun (r : Int32) (u : (Int32) × (Nat → Int32)) => u.1.toInt = mr.toInt + 2 ∧ (r = ((x + mm) - mm)) ∧ (u.2 = zTr fb mr.toInt [51, 10]) ∧ (True)) (zB D [(mv, .inr (1, [.ref mb, .int mr, .int 4, .int mm, .int mq])), (mb, .inl (cI, 20, .inl fb))] hpz (fun (u : (Int32) × (Nat → Int32)) => [(mv, .inr (1, [.ref mb, .int u.1, .int 4, .int mm, .int mq])), (mb, .inl (cI, 20, .inl u.2))])) (va_A [(mv, .inr (1, [.ref mb, .int mr, .int 4, .int mm, .int mq])), (mb, .inl (cI, 20, .inl fb))] hpz)) 0 0 (va_A [(mv, .inr (1, [.ref mb, .int mr, .int 4, .int mm, .int mq])), (mb, .inl (cI, 20, .inl fb))] hpz) := by
  refine Met.ofW (cc := cX1_run) (maxL := 7) (ret := (some .int)) (by decide) rfl ?_
  intro p e s m args below meth c s₁ B hml hv
  obtain ⟨rfl, hsz, hP, hK, hD0, hN, hZ⟩ := hv
  have hx := B.exec
  have hb := B.bytes
  have hr := B.returns
  have hts := atoms_spec (ws := wsX1_run) B.pre
  have hown : s.vm.findClass RX1 = some m.cls := findClass_of_methodNamed B.named
  have hlocks := B.notSynchronized
  subst hsz
  have hD := hD0.self (sz := s.heap.size)
  have hA := zA_of hD
  have hl := lv_entry ([.ref mv, .int 4, .int 0, .int x, .int 0]) (n := 7) (Nat.le_of_ble_eq_true rfl)
  rw [lg_entry_eq]
  generalize (lg_sl ([.ref mv, .int 4, .int 0, .int x, .int 0]) ++ List.replicate (7 - (lg_sl ([.ref mv, .int 4, .int 0, .int x, .int 0])).length) Slot.unset).toArray = ls at hl ⊢
  replace hl : lv_has ls 7 [(0, .ref mv), (1, .int 4), (2, .int 0), (3, .int x), (4, .int 0)] := hl
  refine zw_begin hP hD (fun H locs hP1 hS => ?_)
  clear hP
  have hP := hP1
  clear hP1
  refine lv_iload_n hx hb dX1_run_0 rfl (lv_at hl 1 rfl) ?_
  refine lv_iload_n hx hb dX1_run_1 rfl (lv_at hl 2 rfl) ?_
  refine zc_S (As := [.int 4, .int 0]) (rest := []) ⟨hx, hb, hml, hown, hts⟩ (c_M_bodyFor_4_0 l D cI cJ cZ cP cS po  ) (va_cwS 2 hts gX1_run_X1_bodyFor rfl rfl rfl dh_X1_bodyFor ⟨Nat.le_of_ble_eq_true rfl, Nat.le_of_ble_eq_true rfl⟩) hK hN (hZ.kept hS) rfl hl.1 rfl (Nat.le_of_ble_eq_true rfl) dX1_run_2 ⟨Nat.le_of_ble_eq_true rfl, Nat.le_of_ble_eq_true rfl⟩ (fun r_1 hr_1 => ?_)
  obtain rfl := hr_1
  refine lv_istore (lv' := [(5, .int 51), (0, .ref mv), (1, .int 4), (2, .int 0), (3, .int x), (4, .int 0)]) hx hb dX1_run_5 hl (by decide) rfl (fun ls hl => ?_)
  refine lv_iload hx hb dX1_run_7 (lv_at hl 0 rfl) ?_
  refine lv_iconst (v := (-1)) hx hb dX1_run_9 (by decide) ?_
  refine lv_icmp_eq (tgt := 20) hx hb dX1_run_10 (by decide) (fun c_2 => ?_) (fun c_2 => ?_)
  · exact absurd c_2 (by decide)
  · refine lv_iload hx hb dX1_run_13 (lv_at hl 5 rfl) ?_
    refine lv_bipush (v := 40) hx hb dX1_run_15 (by decide) ?_
    refine lv_icmp_lt (tgt := 22) hx hb dX1_run_17 (by decide) (fun c_3 => ?_) (fun c_3 => ?_)
    · refine lv_aload_n hx hb dX1_run_22 rfl (lv_at hl 1 rfl) ?_
      refine lv_iload hx hb dX1_run_23 (lv_at hl 0 rfl) ?_
      skip
      refine zw_Vv (As := [.int 51]) (rest := []) (wr := []) ⟨hx, hb, hml, hown, hts⟩ (c_F_M_note l D cI cJ cZ cP cS po mv mb (mr) (4) (mm) (mq) fb (51) hy0 (by omega) H.size) (cwV 1 hts gX1_run_X1_note rfl rfl rfl ⟨rfl, dh_X1_note⟩ ⟨Nat.le_of_ble_eq_true rfl, Nat.le_of_ble_eq_true rfl⟩) hK hN (hZ.kept hS) hP hD hS hA [0, 1] [] rfl rfl (by decide) (by decide) (by decide) (va_recv (q := (RX1, TX1, 5)) hK hP (ci := 1) (q0 := 0) rfl rfl) rfl hl.1 rfl (Nat.le_of_ble_eq_true rfl) dX1_run_25 ⟨Nat.le_of_ble_eq_true rfl, Nat.le_of_ble_eq_true rfl⟩ (fun u_5 H locs hr_4 hP hD hS => ?_)
      obtain ⟨q_6, q_7⟩ := u_5
      try dsimp only at hr_4
      obtain ⟨hbq_6, hsr_4_0, hr_4⟩ := hr_4
      have h9R := zRe (ws' := [(mv, .inr (1, [.ref mb, .int q_6, .int 4, .int mm, .int mq])), (mb, .inl (cI, 20, .inl q_7))]) hP hD rfl
      clear hP hD
      obtain ⟨hP, hD⟩ := h9R
      refine lv_iload hx hb dX1_run_28 (lv_at hl 5 rfl) ?_
      refine lv_iconst (v := 1) hx hb dX1_run_30 (by decide) ?_
      refine lv_iadd hx hb dX1_run_31 ?_
      refine lv_topi (fun y_8 ey_8 => ?_)
      obtain rfl : y_8 = 1 := ey_8.trans (by decide)
      refine lv_istore (lv' := [(6, .int 1), (5, .int 51), (0, .ref mv), (1, .int 4), (2, .int 0), (3, .int x), (4, .int 0)]) hx hb dX1_run_32 hl (by decide) rfl (fun ls hl => ?_)
      refine lv_iload hx hb dX1_run_34 (lv_at hl 1 rfl) ?_
      refine lv_lookup (off := 195) (tgt := 231) hx hb dX1_run_36 (by decide) (by decide) (by decide) ?_
      refine lv_aload_n hx hb dX1_run_231 rfl (lv_at hl 2 rfl) ?_
      refine lv_iconst (v := 0) hx hb dX1_run_232 (by decide) ?_
      refine lv_iconst (v := 0) hx hb dX1_run_233 (by decide) ?_
      refine lv_iload_n hx hb dX1_run_234 rfl (lv_at hl 5 rfl) ?_
      refine lv_iload hx hb dX1_run_235 (lv_at hl 0 rfl) ?_
      skip
      refine zw_V (As := [.int 0, .int 0, .int x, .int 1]) (rest := []) (wr := []) ⟨hx, hb, hml, hown, hts⟩ (c_F_M_run_4_0_0_1 l D cI cJ cZ cP cS po mv mb (q_6) (mm) (mq) q_7 (x) (by omega) (by omega) H.size) (cwV 4 hts gX1_run_X1_run rfl rfl rfl ⟨rfl, dh_X1_run⟩ ⟨Nat.le_of_ble_eq_true rfl, Nat.le_of_ble_eq_true rfl⟩) hK hN (hZ.kept hS) hP hD hS hA [0, 1] [] rfl rfl (by decide) (by decide) (by decide) (va_recv (q := (RX1, TX1, 5)) hK hP (ci := 1) (q0 := 0) rfl rfl) rfl hl.1 rfl (Nat.le_of_ble_eq_true rfl) dX1_run_237 ⟨Nat.le_of_ble_eq_true rfl, Nat.le_of_ble_eq_true rfl⟩ (fun r_9 u_10 H locs hr_9 hP hD hS => ?_)
      obtain ⟨q_11, q_12⟩ := u_10
      try dsimp only at hr_9
      obtain ⟨hbq_11, hsr_9_0, hsr_9_1, hr_9⟩ := hr_9
      have h9R := zRe (ws' := [(mv, .inr (1, [.ref mb, .int q_11, .int 4, .int mm, .int mq])), (mb, .inl (cI, 20, .inl q_12))]) hP hD rfl
      clear hP hD
      obtain ⟨hP, hD⟩ := h9R
      refine lv_aload_n hx hb dX1_run_240 rfl (lv_at hl 2 rfl) ?_
      refine va_get (D := D) (ci := 1) (v := .int mm) (C := RX1) (T := TX1) (N := 5) hx hb hts hi_X1_run_1 hown hK hP 0 rfl rfl 3 (by decide) (hts (.fieldLink RX1 22 "TheLiningsInIt$Moves" "m" "I") (List.mem_of_getElem? (i := 1) rfl)) (fun _ h9 => h9) rfl dX1_run_241 ?_
      refine lv_isub hx hb dX1_run_244 ?_
      refine lv_topi (fun x_13 ex_13 => ?_)
      exact W.iret (v := x_13) hx hb hr (fun t ht hW => ⟨⟨x_13, (q_11, q_12), rfl, ⟨(show q_11.toInt = mr.toInt + 2 from by omega), (show (x_13 : Int32) = ((x + mm) - mm) from by ((try rw [ex_13]); (try rw [hsr_9_0]); (try rw [ex_13]); first | done | rfl)), (show q_12 = zTr fb mr.toInt [51, 10] from by (rw [hsr_9_1]; rw [hsr_4_0]; rw [zTr_app (by (have q : (([51] : List Int32).length : Int) = 1 := rfl; omega))]; first | done | rfl)), trivial⟩, zRet ht hP hD [0, 1] (by decide) rfl⟩, hS.F ht⟩) hS.2.2 dX1_run_245
    · exact absurd c_3 (by decide)
set_option maxHeartbeats 4000000 in
set_option maxRecDepth 100000 in
theorem c_F_M_run_4_0_0_2 (l : Launch) (D : va_G) (cI cJ cZ cP cS : ClassId) (po : zPool) (mv mb : Nat) (mr mm mq : Int32) (fb : Nat → Int32) (x : Int32) (hy0 : 0 ≤ mr.toInt) (hy1 : mr.toInt ≤ 1200) (hpz : Nat) : Met l yX1_run wsX1_run ({ frames := 2, cells := 0, slots := 0, locals := 46 }) (va_Pc [.ref mv, .int 0, .int 0, .int x, .int 2] (zW D (zKT cI cJ cZ cP cS) po [(mv, .inr (1, [.ref mb, .int mr, .int 4, .int mm, .int mq])), (mb, .inl (cI, 20, .inl fb))] hpz)) (va_Qi (fun (r : Int32) (u : (Int32) × (Nat → Int32)) => u.1.toInt = mr.toInt + 1 ∧ (r = (x + mm)) ∧ (u.2 = zTr fb mr.toInt [10]) ∧ (True)) (zB D [(mv, .inr (1, [.ref mb, .int mr, .int 4, .int mm, .int mq])), (mb, .inl (cI, 20, .inl fb))] hpz (fun (u : (Int32) × (Nat → Int32)) => [(mv, .inr (1, [.ref mb, .int u.1, .int 4, .int mm, .int mq])), (mb, .inl (cI, 20, .inl u.2))])) (va_A [(mv, .inr (1, [.ref mb, .int mr, .int 4, .int mm, .int mq])), (mb, .inl (cI, 20, .inl fb))] hpz)) 0 0 (va_A [(mv, .inr (1, [.ref mb, .int mr, .int 4, .int mm, .int mq])), (mb, .inl (cI, 20, .inl fb))] hpz) := by
  refine Met.ofW (cc := cX1_run) (maxL := 7) (ret := (some .int)) (by decide) rfl ?_
  intro p e s m args below meth c s₁ B hml hv
  obtain ⟨rfl, hsz, hP, hK, hD0, hN, hZ⟩ := hv
  have hx := B.exec
  have hb := B.bytes
  have hr := B.returns
  have hts := atoms_spec (ws := wsX1_run) B.pre
  have hown : s.vm.findClass RX1 = some m.cls := findClass_of_methodNamed B.named
  have hlocks := B.notSynchronized
  subst hsz
  have hD := hD0.self (sz := s.heap.size)
  have hA := zA_of hD
  have hl := lv_entry ([.ref mv, .int 0, .int 0, .int x, .int 2]) (n := 7) (Nat.le_of_ble_eq_true rfl)
  rw [lg_entry_eq]
  generalize (lg_sl ([.ref mv, .int 0, .int 0, .int x, .int 2]) ++ List.replicate (7 - (lg_sl ([.ref mv, .int 0, .int 0, .int x, .int 2])).length) Slot.unset).toArray = ls at hl ⊢
  replace hl : lv_has ls 7 [(0, .ref mv), (1, .int 0), (2, .int 0), (3, .int x), (4, .int 2)] := hl
  refine zw_begin hP hD (fun H locs hP1 hS => ?_)
  clear hP
  have hP := hP1
  clear hP1
  refine lv_iload_n hx hb dX1_run_0 rfl (lv_at hl 1 rfl) ?_
  refine lv_iload_n hx hb dX1_run_1 rfl (lv_at hl 2 rfl) ?_
  refine zc_S (As := [.int 0, .int 0]) (rest := []) ⟨hx, hb, hml, hown, hts⟩ (c_M_bodyFor_0_0 l D cI cJ cZ cP cS po  ) (va_cwS 2 hts gX1_run_X1_bodyFor rfl rfl rfl dh_X1_bodyFor ⟨Nat.le_of_ble_eq_true rfl, Nat.le_of_ble_eq_true rfl⟩) hK hN (hZ.kept hS) rfl hl.1 rfl (Nat.le_of_ble_eq_true rfl) dX1_run_2 ⟨Nat.le_of_ble_eq_true rfl, Nat.le_of_ble_eq_true rfl⟩ (fun r_1 hr_1 => ?_)
  obtain rfl := hr_1
  refine lv_istore (lv' := [(5, .int 10), (0, .ref mv), (1, .int 0), (2, .int 0), (3, .int x), (4, .int 2)]) hx hb dX1_run_5 hl (by decide) rfl (fun ls hl => ?_)
  refine lv_iload hx hb dX1_run_7 (lv_at hl 0 rfl) ?_
  refine lv_iconst (v := (-1)) hx hb dX1_run_9 (by decide) ?_
  refine lv_icmp_eq (tgt := 20) hx hb dX1_run_10 (by decide) (fun c_2 => ?_) (fun c_2 => ?_)
  · exact absurd c_2 (by decide)
  · refine lv_iload hx hb dX1_run_13 (lv_at hl 5 rfl) ?_
    refine lv_bipush (v := 40) hx hb dX1_run_15 (by decide) ?_
    refine lv_icmp_lt (tgt := 22) hx hb dX1_run_17 (by decide) (fun c_3 => ?_) (fun c_3 => ?_)
    · refine lv_aload_n hx hb dX1_run_22 rfl (lv_at hl 1 rfl) ?_
      refine lv_iload hx hb dX1_run_23 (lv_at hl 0 rfl) ?_
      skip
      refine zw_Vv (As := [.int 10]) (rest := []) (wr := []) ⟨hx, hb, hml, hown, hts⟩ (c_F_M_note l D cI cJ cZ cP cS po mv mb (mr) (4) (mm) (mq) fb (10) hy0 (by omega) H.size) (cwV 1 hts gX1_run_X1_note rfl rfl rfl ⟨rfl, dh_X1_note⟩ ⟨Nat.le_of_ble_eq_true rfl, Nat.le_of_ble_eq_true rfl⟩) hK hN (hZ.kept hS) hP hD hS hA [0, 1] [] rfl rfl (by decide) (by decide) (by decide) (va_recv (q := (RX1, TX1, 5)) hK hP (ci := 1) (q0 := 0) rfl rfl) rfl hl.1 rfl (Nat.le_of_ble_eq_true rfl) dX1_run_25 ⟨Nat.le_of_ble_eq_true rfl, Nat.le_of_ble_eq_true rfl⟩ (fun u_5 H locs hr_4 hP hD hS => ?_)
      obtain ⟨q_6, q_7⟩ := u_5
      try dsimp only at hr_4
      obtain ⟨hbq_6, hsr_4_0, hr_4⟩ := hr_4
      have h9R := zRe (ws' := [(mv, .inr (1, [.ref mb, .int q_6, .int 4, .int mm, .int mq])), (mb, .inl (cI, 20, .inl q_7))]) hP hD rfl
      clear hP hD
      obtain ⟨hP, hD⟩ := h9R
      refine lv_iload hx hb dX1_run_28 (lv_at hl 5 rfl) ?_
      refine lv_iconst (v := 1) hx hb dX1_run_30 (by decide) ?_
      refine lv_iadd hx hb dX1_run_31 ?_
      refine lv_topi (fun y_8 ey_8 => ?_)
      obtain rfl : y_8 = 3 := ey_8.trans (by decide)
      refine lv_istore (lv' := [(6, .int 3), (5, .int 10), (0, .ref mv), (1, .int 0), (2, .int 0), (3, .int x), (4, .int 2)]) hx hb dX1_run_32 hl (by decide) rfl (fun ls hl => ?_)
      refine lv_iload hx hb dX1_run_34 (lv_at hl 1 rfl) ?_
      refine lv_lookup (off := 92) (tgt := 128) hx hb dX1_run_36 (by decide) (by decide) (by decide) ?_
      refine lv_iload_n hx hb dX1_run_128 rfl (lv_at hl 5 rfl) ?_
      refine lv_aload_n hx hb dX1_run_129 rfl (lv_at hl 2 rfl) ?_
      refine va_get (D := D) (ci := 1) (v := .int mm) (C := RX1) (T := TX1) (N := 5) hx hb hts hi_X1_run_1 hown hK hP 0 rfl rfl 3 (by decide) (hts (.fieldLink RX1 22 "TheLiningsInIt$Moves" "m" "I") (List.mem_of_getElem? (i := 1) rfl)) (fun _ h9 => h9) rfl dX1_run_130 ?_
      refine lv_iadd hx hb dX1_run_133 ?_
      refine lv_topi (fun x_9 ex_9 => ?_)
      exact W.iret (v := x_9) hx hb hr (fun t ht hW => ⟨⟨x_9, (q_6, q_7), rfl, ⟨(show q_6.toInt = mr.toInt + 1 from by omega), (show (x_9 : Int32) = (x + mm) from by ((try rw [ex_9]); (try rw [ex_9]); first | done | rfl)), (show q_7 = zTr fb mr.toInt [10] from by (rw [hsr_4_0]; first | done | rfl)), trivial⟩, zRet ht hP hD [0, 1] (by decide) rfl⟩, hS.F ht⟩) hS.2.2 dX1_run_134
    · exact absurd c_3 (by decide)
set_option maxHeartbeats 4000000 in
set_option maxRecDepth 100000 in
theorem c_F_M_run_4_4_0_1 (l : Launch) (D : va_G) (cI cJ cZ cP cS : ClassId) (po : zPool) (mv mb : Nat) (mr mm mq : Int32) (fb : Nat → Int32) (x : Int32) (hy0 : 0 ≤ mr.toInt) (hy1 : mr.toInt ≤ 1100) (hpz : Nat) : Met l yX1_run wsX1_run ({ frames := 3, cells := 0, slots := 0, locals := 72 }) (va_Pc [.ref mv, .int 4, .int 0, .int x, .int 1] (zW D (zKT cI cJ cZ cP cS) po [(mv, .inr (1, [.ref mb, .int mr, .int 4, .int mm, .int mq])), (mb, .inl (cI, 20, .inl fb))] hpz)) (va_Qi (fun (r : Int32) (u : (Int32) × (Nat → Int32)) => u.1.toInt = mr.toInt + 2 ∧ (r = ((x + mm) - mm)) ∧ (u.2 = zTr fb mr.toInt [51, 10]) ∧ (True)) (zB D [(mv, .inr (1, [.ref mb, .int mr, .int 4, .int mm, .int mq])), (mb, .inl (cI, 20, .inl fb))] hpz (fun (u : (Int32) × (Nat → Int32)) => [(mv, .inr (1, [.ref mb, .int u.1, .int 4, .int mm, .int mq])), (mb, .inl (cI, 20, .inl u.2))])) (va_A [(mv, .inr (1, [.ref mb, .int mr, .int 4, .int mm, .int mq])), (mb, .inl (cI, 20, .inl fb))] hpz)) 0 0 (va_A [(mv, .inr (1, [.ref mb, .int mr, .int 4, .int mm, .int mq])), (mb, .inl (cI, 20, .inl fb))] hpz) := by
  refine Met.ofW (cc := cX1_run) (maxL := 7) (ret := (some .int)) (by decide) rfl ?_
  intro p e s m args below meth c s₁ B hml hv
  obtain ⟨rfl, hsz, hP, hK, hD0, hN, hZ⟩ := hv
  have hx := B.exec
  have hb := B.bytes
  have hr := B.returns
  have hts := atoms_spec (ws := wsX1_run) B.pre
  have hown : s.vm.findClass RX1 = some m.cls := findClass_of_methodNamed B.named
  have hlocks := B.notSynchronized
  subst hsz
  have hD := hD0.self (sz := s.heap.size)
  have hA := zA_of hD
  have hl := lv_entry ([.ref mv, .int 4, .int 0, .int x, .int 1]) (n := 7) (Nat.le_of_ble_eq_true rfl)
  rw [lg_entry_eq]
  generalize (lg_sl ([.ref mv, .int 4, .int 0, .int x, .int 1]) ++ List.replicate (7 - (lg_sl ([.ref mv, .int 4, .int 0, .int x, .int 1])).length) Slot.unset).toArray = ls at hl ⊢
  replace hl : lv_has ls 7 [(0, .ref mv), (1, .int 4), (2, .int 0), (3, .int x), (4, .int 1)] := hl
  refine zw_begin hP hD (fun H locs hP1 hS => ?_)
  clear hP
  have hP := hP1
  clear hP1
  refine lv_iload_n hx hb dX1_run_0 rfl (lv_at hl 1 rfl) ?_
  refine lv_iload_n hx hb dX1_run_1 rfl (lv_at hl 2 rfl) ?_
  refine zc_S (As := [.int 4, .int 0]) (rest := []) ⟨hx, hb, hml, hown, hts⟩ (c_M_bodyFor_4_0 l D cI cJ cZ cP cS po  ) (va_cwS 2 hts gX1_run_X1_bodyFor rfl rfl rfl dh_X1_bodyFor ⟨Nat.le_of_ble_eq_true rfl, Nat.le_of_ble_eq_true rfl⟩) hK hN (hZ.kept hS) rfl hl.1 rfl (Nat.le_of_ble_eq_true rfl) dX1_run_2 ⟨Nat.le_of_ble_eq_true rfl, Nat.le_of_ble_eq_true rfl⟩ (fun r_1 hr_1 => ?_)
  obtain rfl := hr_1
  refine lv_istore (lv' := [(5, .int 51), (0, .ref mv), (1, .int 4), (2, .int 0), (3, .int x), (4, .int 1)]) hx hb dX1_run_5 hl (by decide) rfl (fun ls hl => ?_)
  refine lv_iload hx hb dX1_run_7 (lv_at hl 0 rfl) ?_
  refine lv_iconst (v := (-1)) hx hb dX1_run_9 (by decide) ?_
  refine lv_icmp_eq (tgt := 20) hx hb dX1_run_10 (by decide) (fun c_2 => ?_) (fun c_2 => ?_)
  · exact absurd c_2 (by decide)
  · refine lv_iload hx hb dX1_run_13 (lv_at hl 5 rfl) ?_
    refine lv_bipush (v := 40) hx hb dX1_run_15 (by decide) ?_
    refine lv_icmp_lt (tgt := 22) hx hb dX1_run_17 (by decide) (fun c_3 => ?_) (fun c_3 => ?_)
    · refine lv_aload_n hx hb dX1_run_22 rfl (lv_at hl 1 rfl) ?_
      refine lv_iload hx hb dX1_run_23 (lv_at hl 0 rfl) ?_
      skip
      refine zw_Vv (As := [.int 51]) (rest := []) (wr := []) ⟨hx, hb, hml, hown, hts⟩ (c_F_M_note l D cI cJ cZ cP cS po mv mb (mr) (4) (mm) (mq) fb (51) hy0 (by omega) H.size) (cwV 1 hts gX1_run_X1_note rfl rfl rfl ⟨rfl, dh_X1_note⟩ ⟨Nat.le_of_ble_eq_true rfl, Nat.le_of_ble_eq_true rfl⟩) hK hN (hZ.kept hS) hP hD hS hA [0, 1] [] rfl rfl (by decide) (by decide) (by decide) (va_recv (q := (RX1, TX1, 5)) hK hP (ci := 1) (q0 := 0) rfl rfl) rfl hl.1 rfl (Nat.le_of_ble_eq_true rfl) dX1_run_25 ⟨Nat.le_of_ble_eq_true rfl, Nat.le_of_ble_eq_true rfl⟩ (fun u_5 H locs hr_4 hP hD hS => ?_)
      obtain ⟨q_6, q_7⟩ := u_5
      try dsimp only at hr_4
      obtain ⟨hbq_6, hsr_4_0, hr_4⟩ := hr_4
      have h9R := zRe (ws' := [(mv, .inr (1, [.ref mb, .int q_6, .int 4, .int mm, .int mq])), (mb, .inl (cI, 20, .inl q_7))]) hP hD rfl
      clear hP hD
      obtain ⟨hP, hD⟩ := h9R
      refine lv_iload hx hb dX1_run_28 (lv_at hl 5 rfl) ?_
      refine lv_iconst (v := 1) hx hb dX1_run_30 (by decide) ?_
      refine lv_iadd hx hb dX1_run_31 ?_
      refine lv_topi (fun y_8 ey_8 => ?_)
      obtain rfl : y_8 = 2 := ey_8.trans (by decide)
      refine lv_istore (lv' := [(6, .int 2), (5, .int 51), (0, .ref mv), (1, .int 4), (2, .int 0), (3, .int x), (4, .int 1)]) hx hb dX1_run_32 hl (by decide) rfl (fun ls hl => ?_)
      refine lv_iload hx hb dX1_run_34 (lv_at hl 1 rfl) ?_
      refine lv_lookup (off := 195) (tgt := 231) hx hb dX1_run_36 (by decide) (by decide) (by decide) ?_
      refine lv_aload_n hx hb dX1_run_231 rfl (lv_at hl 2 rfl) ?_
      refine lv_iconst (v := 0) hx hb dX1_run_232 (by decide) ?_
      refine lv_iconst (v := 0) hx hb dX1_run_233 (by decide) ?_
      refine lv_iload_n hx hb dX1_run_234 rfl (lv_at hl 5 rfl) ?_
      refine lv_iload hx hb dX1_run_235 (lv_at hl 0 rfl) ?_
      skip
      refine zw_V (As := [.int 0, .int 0, .int x, .int 2]) (rest := []) (wr := []) ⟨hx, hb, hml, hown, hts⟩ (c_F_M_run_4_0_0_2 l D cI cJ cZ cP cS po mv mb (q_6) (mm) (mq) q_7 (x) (by omega) (by omega) H.size) (cwV 4 hts gX1_run_X1_run rfl rfl rfl ⟨rfl, dh_X1_run⟩ ⟨Nat.le_of_ble_eq_true rfl, Nat.le_of_ble_eq_true rfl⟩) hK hN (hZ.kept hS) hP hD hS hA [0, 1] [] rfl rfl (by decide) (by decide) (by decide) (va_recv (q := (RX1, TX1, 5)) hK hP (ci := 1) (q0 := 0) rfl rfl) rfl hl.1 rfl (Nat.le_of_ble_eq_true rfl) dX1_run_237 ⟨Nat.le_of_ble_eq_true rfl, Nat.le_of_ble_eq_true rfl⟩ (fun r_9 u_10 H locs hr_9 hP hD hS => ?_)
      obtain ⟨q_11, q_12⟩ := u_10
      try dsimp only at hr_9
      obtain ⟨hbq_11, hsr_9_0, hsr_9_1, hr_9⟩ := hr_9
      have h9R := zRe (ws' := [(mv, .inr (1, [.ref mb, .int q_11, .int 4, .int mm, .int mq])), (mb, .inl (cI, 20, .inl q_12))]) hP hD rfl
      clear hP hD
      obtain ⟨hP, hD⟩ := h9R
      refine lv_aload_n hx hb dX1_run_240 rfl (lv_at hl 2 rfl) ?_
      refine va_get (D := D) (ci := 1) (v := .int mm) (C := RX1) (T := TX1) (N := 5) hx hb hts hi_X1_run_1 hown hK hP 0 rfl rfl 3 (by decide) (hts (.fieldLink RX1 22 "TheLiningsInIt$Moves" "m" "I") (List.mem_of_getElem? (i := 1) rfl)) (fun _ h9 => h9) rfl dX1_run_241 ?_
      refine lv_isub hx hb dX1_run_244 ?_
      refine lv_topi (fun x_13 ex_13 => ?_)
      exact W.iret (v := x_13) hx hb hr (fun t ht hW => ⟨⟨x_13, (q_11, q_12), rfl, ⟨(show q_11.toInt = mr.toInt + 2 from by omega), (show (x_13 : Int32) = ((x + mm) - mm) from by ((try rw [ex_13]); (try rw [hsr_9_0]); (try rw [ex_13]); first | done | rfl)), (show q_12 = zTr fb mr.toInt [51, 10] from by (rw [hsr_9_1]; rw [hsr_4_0]; rw [zTr_app (by (have q : (([51] : List Int32).length : Int) = 1 := rfl; omega))]; first | done | rfl)), trivial⟩, zRet ht hP hD [0, 1] (by decide) rfl⟩, hS.F ht⟩) hS.2.2 dX1_run_245
    · exact absurd c_3 (by decide)
set_option maxHeartbeats 4000000 in
set_option maxRecDepth 100000 in
theorem c_F_M_run_4_4_1_0 (l : Launch) (D : va_G) (cI cJ cZ cP cS : ClassId) (po : zPool) (mv mb : Nat) (mr mm mq : Int32) (fb : Nat → Int32) (x : Int32) (hy0 : 0 ≤ mr.toInt) (hy1 : mr.toInt ≤ 1000) (hpz : Nat) : Met l yX1_run wsX1_run ({ frames := 4, cells := 0, slots := 0, locals := 98 }) (va_Pc [.ref mv, .int 4, .int 1, .int x, .int 0] (zW D (zKT cI cJ cZ cP cS) po [(mv, .inr (1, [.ref mb, .int mr, .int 4, .int mm, .int mq])), (mb, .inl (cI, 20, .inl fb))] hpz)) (va_Qi (fun (r : Int32) (u : (Int32) × (Nat → Int32)) => u.1.toInt = mr.toInt + 3 ∧ (r = (((x + mm) - mm) * 2)) ∧ (u.2 = zTr fb mr.toInt [11, 51, 10]) ∧ (True)) (zB D [(mv, .inr (1, [.ref mb, .int mr, .int 4, .int mm, .int mq])), (mb, .inl (cI, 20, .inl fb))] hpz (fun (u : (Int32) × (Nat → Int32)) => [(mv, .inr (1, [.ref mb, .int u.1, .int 4, .int mm, .int mq])), (mb, .inl (cI, 20, .inl u.2))])) (va_A [(mv, .inr (1, [.ref mb, .int mr, .int 4, .int mm, .int mq])), (mb, .inl (cI, 20, .inl fb))] hpz)) 0 0 (va_A [(mv, .inr (1, [.ref mb, .int mr, .int 4, .int mm, .int mq])), (mb, .inl (cI, 20, .inl fb))] hpz) := by
  refine Met.ofW (cc := cX1_run) (maxL := 7) (ret := (some .int)) (by decide) rfl ?_
  intro p e s m args below meth c s₁ B hml hv
  obtain ⟨rfl, hsz, hP, hK, hD0, hN, hZ⟩ := hv
  have hx := B.exec
  have hb := B.bytes
  have hr := B.returns
  have hts := atoms_spec (ws := wsX1_run) B.pre
  have hown : s.vm.findClass RX1 = some m.cls := findClass_of_methodNamed B.named
  have hlocks := B.notSynchronized
  subst hsz
  have hD := hD0.self (sz := s.heap.size)
  have hA := zA_of hD
  have hl := lv_entry ([.ref mv, .int 4, .int 1, .int x, .int 0]) (n := 7) (Nat.le_of_ble_eq_true rfl)
  rw [lg_entry_eq]
  generalize (lg_sl ([.ref mv, .int 4, .int 1, .int x, .int 0]) ++ List.replicate (7 - (lg_sl ([.ref mv, .int 4, .int 1, .int x, .int 0])).length) Slot.unset).toArray = ls at hl ⊢
  replace hl : lv_has ls 7 [(0, .ref mv), (1, .int 4), (2, .int 1), (3, .int x), (4, .int 0)] := hl
  refine zw_begin hP hD (fun H locs hP1 hS => ?_)
  clear hP
  have hP := hP1
  clear hP1
  refine lv_iload_n hx hb dX1_run_0 rfl (lv_at hl 1 rfl) ?_
  refine lv_iload_n hx hb dX1_run_1 rfl (lv_at hl 2 rfl) ?_
  refine zc_S (As := [.int 4, .int 1]) (rest := []) ⟨hx, hb, hml, hown, hts⟩ (c_M_bodyFor_4_1 l D cI cJ cZ cP cS po  ) (va_cwS 2 hts gX1_run_X1_bodyFor rfl rfl rfl dh_X1_bodyFor ⟨Nat.le_of_ble_eq_true rfl, Nat.le_of_ble_eq_true rfl⟩) hK hN (hZ.kept hS) rfl hl.1 rfl (Nat.le_of_ble_eq_true rfl) dX1_run_2 ⟨Nat.le_of_ble_eq_true rfl, Nat.le_of_ble_eq_true rfl⟩ (fun r_1 hr_1 => ?_)
  obtain rfl := hr_1
  refine lv_istore (lv' := [(5, .int 11), (0, .ref mv), (1, .int 4), (2, .int 1), (3, .int x), (4, .int 0)]) hx hb dX1_run_5 hl (by decide) rfl (fun ls hl => ?_)
  refine lv_iload hx hb dX1_run_7 (lv_at hl 0 rfl) ?_
  refine lv_iconst (v := (-1)) hx hb dX1_run_9 (by decide) ?_
  refine lv_icmp_eq (tgt := 20) hx hb dX1_run_10 (by decide) (fun c_2 => ?_) (fun c_2 => ?_)
  · exact absurd c_2 (by decide)
  · refine lv_iload hx hb dX1_run_13 (lv_at hl 5 rfl) ?_
    refine lv_bipush (v := 40) hx hb dX1_run_15 (by decide) ?_
    refine lv_icmp_lt (tgt := 22) hx hb dX1_run_17 (by decide) (fun c_3 => ?_) (fun c_3 => ?_)
    · refine lv_aload_n hx hb dX1_run_22 rfl (lv_at hl 1 rfl) ?_
      refine lv_iload hx hb dX1_run_23 (lv_at hl 0 rfl) ?_
      skip
      refine zw_Vv (As := [.int 11]) (rest := []) (wr := []) ⟨hx, hb, hml, hown, hts⟩ (c_F_M_note l D cI cJ cZ cP cS po mv mb (mr) (4) (mm) (mq) fb (11) hy0 (by omega) H.size) (cwV 1 hts gX1_run_X1_note rfl rfl rfl ⟨rfl, dh_X1_note⟩ ⟨Nat.le_of_ble_eq_true rfl, Nat.le_of_ble_eq_true rfl⟩) hK hN (hZ.kept hS) hP hD hS hA [0, 1] [] rfl rfl (by decide) (by decide) (by decide) (va_recv (q := (RX1, TX1, 5)) hK hP (ci := 1) (q0 := 0) rfl rfl) rfl hl.1 rfl (Nat.le_of_ble_eq_true rfl) dX1_run_25 ⟨Nat.le_of_ble_eq_true rfl, Nat.le_of_ble_eq_true rfl⟩ (fun u_5 H locs hr_4 hP hD hS => ?_)
      obtain ⟨q_6, q_7⟩ := u_5
      try dsimp only at hr_4
      obtain ⟨hbq_6, hsr_4_0, hr_4⟩ := hr_4
      have h9R := zRe (ws' := [(mv, .inr (1, [.ref mb, .int q_6, .int 4, .int mm, .int mq])), (mb, .inl (cI, 20, .inl q_7))]) hP hD rfl
      clear hP hD
      obtain ⟨hP, hD⟩ := h9R
      refine lv_iload hx hb dX1_run_28 (lv_at hl 5 rfl) ?_
      refine lv_iconst (v := 1) hx hb dX1_run_30 (by decide) ?_
      refine lv_iadd hx hb dX1_run_31 ?_
      refine lv_topi (fun y_8 ey_8 => ?_)
      obtain rfl : y_8 = 1 := ey_8.trans (by decide)
      refine lv_istore (lv' := [(6, .int 1), (5, .int 11), (0, .ref mv), (1, .int 4), (2, .int 1), (3, .int x), (4, .int 0)]) hx hb dX1_run_32 hl (by decide) rfl (fun ls hl => ?_)
      refine lv_iload hx hb dX1_run_34 (lv_at hl 1 rfl) ?_
      refine lv_lookup (off := 99) (tgt := 135) hx hb dX1_run_36 (by decide) (by decide) (by decide) ?_
      refine lv_aload_n hx hb dX1_run_135 rfl (lv_at hl 2 rfl) ?_
      refine lv_aload_n hx hb dX1_run_136 rfl (lv_at hl 2 rfl) ?_
      refine va_get (D := D) (ci := 1) (v := .int 4) (C := RX1) (T := TX1) (N := 5) hx hb hts hi_X1_run_1 hown hK hP 0 rfl rfl 2 (by decide) (hts (.fieldLink RX1 19 "TheLiningsInIt$Moves" "kind" "I") (List.mem_of_getElem? (i := 2) rfl)) (fun _ h9 => h9) rfl dX1_run_137 ?_
      refine lv_iconst (v := 0) hx hb dX1_run_140 (by decide) ?_
      refine lv_iload_n hx hb dX1_run_141 rfl (lv_at hl 5 rfl) ?_
      refine lv_iload hx hb dX1_run_142 (lv_at hl 0 rfl) ?_
      skip
      refine zw_V (As := [.int 4, .int 0, .int x, .int 1]) (rest := []) (wr := []) ⟨hx, hb, hml, hown, hts⟩ (c_F_M_run_4_4_0_1 l D cI cJ cZ cP cS po mv mb (q_6) (mm) (mq) q_7 (x) (by omega) (by omega) H.size) (cwV 4 hts gX1_run_X1_run rfl rfl rfl ⟨rfl, dh_X1_run⟩ ⟨Nat.le_of_ble_eq_true rfl, Nat.le_of_ble_eq_true rfl⟩) hK hN (hZ.kept hS) hP hD hS hA [0, 1] [] rfl rfl (by decide) (by decide) (by decide) (va_recv (q := (RX1, TX1, 5)) hK hP (ci := 1) (q0 := 0) rfl rfl) rfl hl.1 rfl (Nat.le_of_ble_eq_true rfl) dX1_run_144 ⟨Nat.le_of_ble_eq_true rfl, Nat.le_of_ble_eq_true rfl⟩ (fun r_9 u_10 H locs hr_9 hP hD hS => ?_)
      obtain ⟨q_11, q_12⟩ := u_10
      try dsimp only at hr_9
      obtain ⟨hbq_11, hsr_9_0, hsr_9_1, hr_9⟩ := hr_9
      have h9R := zRe (ws' := [(mv, .inr (1, [.ref mb, .int q_11, .int 4, .int mm, .int mq])), (mb, .inl (cI, 20, .inl q_12))]) hP hD rfl
      clear hP hD
      obtain ⟨hP, hD⟩ := h9R
      refine lv_iconst (v := 2) hx hb dX1_run_147 (by decide) ?_
      refine lv_imul hx hb dX1_run_148 ?_
      refine lv_topi (fun x_13 ex_13 => ?_)
      exact W.iret (v := x_13) hx hb hr (fun t ht hW => ⟨⟨x_13, (q_11, q_12), rfl, ⟨(show q_11.toInt = mr.toInt + 3 from by omega), (show (x_13 : Int32) = (((x + mm) - mm) * 2) from by ((try rw [ex_13]); (try rw [hsr_9_0]); (try rw [ex_13]); first | done | rfl)), (show q_12 = zTr fb mr.toInt [11, 51, 10] from by (rw [hsr_9_1]; rw [hsr_4_0]; rw [zTr_app (by (have q : (([11] : List Int32).length : Int) = 1 := rfl; omega))]; first | done | rfl)), trivial⟩, zRet ht hP hD [0, 1] (by decide) rfl⟩, hS.F ht⟩) hS.2.2 dX1_run_149
    · exact absurd c_3 (by decide)
set_option maxHeartbeats 4000000 in
set_option maxRecDepth 100000 in
theorem c_F_M_run_4_0_0_4 (l : Launch) (D : va_G) (cI cJ cZ cP cS : ClassId) (po : zPool) (mv mb : Nat) (mr mm mq : Int32) (fb : Nat → Int32) (x : Int32) (hy0 : 0 ≤ mr.toInt) (hy1 : mr.toInt ≤ 1400) (hpz : Nat) : Met l yX1_run wsX1_run ({ frames := 2, cells := 0, slots := 0, locals := 46 }) (va_Pc [.ref mv, .int 0, .int 0, .int x, .int 4] (zW D (zKT cI cJ cZ cP cS) po [(mv, .inr (1, [.ref mb, .int mr, .int 4, .int mm, .int mq])), (mb, .inl (cI, 20, .inl fb))] hpz)) (va_Qi (fun (r : Int32) (u : (Int32) × (Nat → Int32)) => u.1.toInt = mr.toInt + 1 ∧ (r = (x + mm)) ∧ (u.2 = zTr fb mr.toInt [10]) ∧ (True)) (zB D [(mv, .inr (1, [.ref mb, .int mr, .int 4, .int mm, .int mq])), (mb, .inl (cI, 20, .inl fb))] hpz (fun (u : (Int32) × (Nat → Int32)) => [(mv, .inr (1, [.ref mb, .int u.1, .int 4, .int mm, .int mq])), (mb, .inl (cI, 20, .inl u.2))])) (va_A [(mv, .inr (1, [.ref mb, .int mr, .int 4, .int mm, .int mq])), (mb, .inl (cI, 20, .inl fb))] hpz)) 0 0 (va_A [(mv, .inr (1, [.ref mb, .int mr, .int 4, .int mm, .int mq])), (mb, .inl (cI, 20, .inl fb))] hpz) := by
  refine Met.ofW (cc := cX1_run) (maxL := 7) (ret := (some .int)) (by decide) rfl ?_
  intro p e s m args below meth c s₁ B hml hv
  obtain ⟨rfl, hsz, hP, hK, hD0, hN, hZ⟩ := hv
  have hx := B.exec
  have hb := B.bytes
  have hr := B.returns
  have hts := atoms_spec (ws := wsX1_run) B.pre
  have hown : s.vm.findClass RX1 = some m.cls := findClass_of_methodNamed B.named
  have hlocks := B.notSynchronized
  subst hsz
  have hD := hD0.self (sz := s.heap.size)
  have hA := zA_of hD
  have hl := lv_entry ([.ref mv, .int 0, .int 0, .int x, .int 4]) (n := 7) (Nat.le_of_ble_eq_true rfl)
  rw [lg_entry_eq]
  generalize (lg_sl ([.ref mv, .int 0, .int 0, .int x, .int 4]) ++ List.replicate (7 - (lg_sl ([.ref mv, .int 0, .int 0, .int x, .int 4])).length) Slot.unset).toArray = ls at hl ⊢
  replace hl : lv_has ls 7 [(0, .ref mv), (1, .int 0), (2, .int 0), (3, .int x), (4, .int 4)] := hl
  refine zw_begin hP hD (fun H locs hP1 hS => ?_)
  clear hP
  have hP := hP1
  clear hP1
  refine lv_iload_n hx hb dX1_run_0 rfl (lv_at hl 1 rfl) ?_
  refine lv_iload_n hx hb dX1_run_1 rfl (lv_at hl 2 rfl) ?_
  refine zc_S (As := [.int 0, .int 0]) (rest := []) ⟨hx, hb, hml, hown, hts⟩ (c_M_bodyFor_0_0 l D cI cJ cZ cP cS po  ) (va_cwS 2 hts gX1_run_X1_bodyFor rfl rfl rfl dh_X1_bodyFor ⟨Nat.le_of_ble_eq_true rfl, Nat.le_of_ble_eq_true rfl⟩) hK hN (hZ.kept hS) rfl hl.1 rfl (Nat.le_of_ble_eq_true rfl) dX1_run_2 ⟨Nat.le_of_ble_eq_true rfl, Nat.le_of_ble_eq_true rfl⟩ (fun r_1 hr_1 => ?_)
  obtain rfl := hr_1
  refine lv_istore (lv' := [(5, .int 10), (0, .ref mv), (1, .int 0), (2, .int 0), (3, .int x), (4, .int 4)]) hx hb dX1_run_5 hl (by decide) rfl (fun ls hl => ?_)
  refine lv_iload hx hb dX1_run_7 (lv_at hl 0 rfl) ?_
  refine lv_iconst (v := (-1)) hx hb dX1_run_9 (by decide) ?_
  refine lv_icmp_eq (tgt := 20) hx hb dX1_run_10 (by decide) (fun c_2 => ?_) (fun c_2 => ?_)
  · exact absurd c_2 (by decide)
  · refine lv_iload hx hb dX1_run_13 (lv_at hl 5 rfl) ?_
    refine lv_bipush (v := 40) hx hb dX1_run_15 (by decide) ?_
    refine lv_icmp_lt (tgt := 22) hx hb dX1_run_17 (by decide) (fun c_3 => ?_) (fun c_3 => ?_)
    · refine lv_aload_n hx hb dX1_run_22 rfl (lv_at hl 1 rfl) ?_
      refine lv_iload hx hb dX1_run_23 (lv_at hl 0 rfl) ?_
      skip
      refine zw_Vv (As := [.int 10]) (rest := []) (wr := []) ⟨hx, hb, hml, hown, hts⟩ (c_F_M_note l D cI cJ cZ cP cS po mv mb (mr) (4) (mm) (mq) fb (10) hy0 (by omega) H.size) (cwV 1 hts gX1_run_X1_note rfl rfl rfl ⟨rfl, dh_X1_note⟩ ⟨Nat.le_of_ble_eq_true rfl, Nat.le_of_ble_eq_true rfl⟩) hK hN (hZ.kept hS) hP hD hS hA [0, 1] [] rfl rfl (by decide) (by decide) (by decide) (va_recv (q := (RX1, TX1, 5)) hK hP (ci := 1) (q0 := 0) rfl rfl) rfl hl.1 rfl (Nat.le_of_ble_eq_true rfl) dX1_run_25 ⟨Nat.le_of_ble_eq_true rfl, Nat.le_of_ble_eq_true rfl⟩ (fun u_5 H locs hr_4 hP hD hS => ?_)
      obtain ⟨q_6, q_7⟩ := u_5
      try dsimp only at hr_4
      obtain ⟨hbq_6, hsr_4_0, hr_4⟩ := hr_4
      have h9R := zRe (ws' := [(mv, .inr (1, [.ref mb, .int q_6, .int 4, .int mm, .int mq])), (mb, .inl (cI, 20, .inl q_7))]) hP hD rfl
      clear hP hD
      obtain ⟨hP, hD⟩ := h9R
      refine lv_iload hx hb dX1_run_28 (lv_at hl 5 rfl) ?_
      refine lv_iconst (v := 1) hx hb dX1_run_30 (by decide) ?_
      refine lv_iadd hx hb dX1_run_31 ?_
      refine lv_topi (fun y_8 ey_8 => ?_)
      obtain rfl : y_8 = 5 := ey_8.trans (by decide)
      refine lv_istore (lv' := [(6, .int 5), (5, .int 10), (0, .ref mv), (1, .int 0), (2, .int 0), (3, .int x), (4, .int 4)]) hx hb dX1_run_32 hl (by decide) rfl (fun ls hl => ?_)
      refine lv_iload hx hb dX1_run_34 (lv_at hl 1 rfl) ?_
      refine lv_lookup (off := 92) (tgt := 128) hx hb dX1_run_36 (by decide) (by decide) (by decide) ?_
      refine lv_iload_n hx hb dX1_run_128 rfl (lv_at hl 5 rfl) ?_
      refine lv_aload_n hx hb dX1_run_129 rfl (lv_at hl 2 rfl) ?_
      refine va_get (D := D) (ci := 1) (v := .int mm) (C := RX1) (T := TX1) (N := 5) hx hb hts hi_X1_run_1 hown hK hP 0 rfl rfl 3 (by decide) (hts (.fieldLink RX1 22 "TheLiningsInIt$Moves" "m" "I") (List.mem_of_getElem? (i := 1) rfl)) (fun _ h9 => h9) rfl dX1_run_130 ?_
      refine lv_iadd hx hb dX1_run_133 ?_
      refine lv_topi (fun x_9 ex_9 => ?_)
      exact W.iret (v := x_9) hx hb hr (fun t ht hW => ⟨⟨x_9, (q_6, q_7), rfl, ⟨(show q_6.toInt = mr.toInt + 1 from by omega), (show (x_9 : Int32) = (x + mm) from by ((try rw [ex_9]); (try rw [ex_9]); first | done | rfl)), (show q_7 = zTr fb mr.toInt [10] from by (rw [hsr_4_0]; first | done | rfl)), trivial⟩, zRet ht hP hD [0, 1] (by decide) rfl⟩, hS.F ht⟩) hS.2.2 dX1_run_134
    · exact absurd c_3 (by decide)
set_option maxHeartbeats 4000000 in
set_option maxRecDepth 100000 in
theorem c_F_M_run_4_4_0_3 (l : Launch) (D : va_G) (cI cJ cZ cP cS : ClassId) (po : zPool) (mv mb : Nat) (mr mm mq : Int32) (fb : Nat → Int32) (x : Int32) (hy0 : 0 ≤ mr.toInt) (hy1 : mr.toInt ≤ 1300) (hpz : Nat) : Met l yX1_run wsX1_run ({ frames := 3, cells := 0, slots := 0, locals := 72 }) (va_Pc [.ref mv, .int 4, .int 0, .int x, .int 3] (zW D (zKT cI cJ cZ cP cS) po [(mv, .inr (1, [.ref mb, .int mr, .int 4, .int mm, .int mq])), (mb, .inl (cI, 20, .inl fb))] hpz)) (va_Qi (fun (r : Int32) (u : (Int32) × (Nat → Int32)) => u.1.toInt = mr.toInt + 2 ∧ (r = ((x + mm) - mm)) ∧ (u.2 = zTr fb mr.toInt [51, 10]) ∧ (True)) (zB D [(mv, .inr (1, [.ref mb, .int mr, .int 4, .int mm, .int mq])), (mb, .inl (cI, 20, .inl fb))] hpz (fun (u : (Int32) × (Nat → Int32)) => [(mv, .inr (1, [.ref mb, .int u.1, .int 4, .int mm, .int mq])), (mb, .inl (cI, 20, .inl u.2))])) (va_A [(mv, .inr (1, [.ref mb, .int mr, .int 4, .int mm, .int mq])), (mb, .inl (cI, 20, .inl fb))] hpz)) 0 0 (va_A [(mv, .inr (1, [.ref mb, .int mr, .int 4, .int mm, .int mq])), (mb, .inl (cI, 20, .inl fb))] hpz) := by
  refine Met.ofW (cc := cX1_run) (maxL := 7) (ret := (some .int)) (by decide) rfl ?_
  intro p e s m args below meth c s₁ B hml hv
  obtain ⟨rfl, hsz, hP, hK, hD0, hN, hZ⟩ := hv
  have hx := B.exec
  have hb := B.bytes
  have hr := B.returns
  have hts := atoms_spec (ws := wsX1_run) B.pre
  have hown : s.vm.findClass RX1 = some m.cls := findClass_of_methodNamed B.named
  have hlocks := B.notSynchronized
  subst hsz
  have hD := hD0.self (sz := s.heap.size)
  have hA := zA_of hD
  have hl := lv_entry ([.ref mv, .int 4, .int 0, .int x, .int 3]) (n := 7) (Nat.le_of_ble_eq_true rfl)
  rw [lg_entry_eq]
  generalize (lg_sl ([.ref mv, .int 4, .int 0, .int x, .int 3]) ++ List.replicate (7 - (lg_sl ([.ref mv, .int 4, .int 0, .int x, .int 3])).length) Slot.unset).toArray = ls at hl ⊢
  replace hl : lv_has ls 7 [(0, .ref mv), (1, .int 4), (2, .int 0), (3, .int x), (4, .int 3)] := hl
  refine zw_begin hP hD (fun H locs hP1 hS => ?_)
  clear hP
  have hP := hP1
  clear hP1
  refine lv_iload_n hx hb dX1_run_0 rfl (lv_at hl 1 rfl) ?_
  refine lv_iload_n hx hb dX1_run_1 rfl (lv_at hl 2 rfl) ?_
  refine zc_S (As := [.int 4, .int 0]) (rest := []) ⟨hx, hb, hml, hown, hts⟩ (c_M_bodyFor_4_0 l D cI cJ cZ cP cS po  ) (va_cwS 2 hts gX1_run_X1_bodyFor rfl rfl rfl dh_X1_bodyFor ⟨Nat.le_of_ble_eq_true rfl, Nat.le_of_ble_eq_true rfl⟩) hK hN (hZ.kept hS) rfl hl.1 rfl (Nat.le_of_ble_eq_true rfl) dX1_run_2 ⟨Nat.le_of_ble_eq_true rfl, Nat.le_of_ble_eq_true rfl⟩ (fun r_1 hr_1 => ?_)
  obtain rfl := hr_1
  refine lv_istore (lv' := [(5, .int 51), (0, .ref mv), (1, .int 4), (2, .int 0), (3, .int x), (4, .int 3)]) hx hb dX1_run_5 hl (by decide) rfl (fun ls hl => ?_)
  refine lv_iload hx hb dX1_run_7 (lv_at hl 0 rfl) ?_
  refine lv_iconst (v := (-1)) hx hb dX1_run_9 (by decide) ?_
  refine lv_icmp_eq (tgt := 20) hx hb dX1_run_10 (by decide) (fun c_2 => ?_) (fun c_2 => ?_)
  · exact absurd c_2 (by decide)
  · refine lv_iload hx hb dX1_run_13 (lv_at hl 5 rfl) ?_
    refine lv_bipush (v := 40) hx hb dX1_run_15 (by decide) ?_
    refine lv_icmp_lt (tgt := 22) hx hb dX1_run_17 (by decide) (fun c_3 => ?_) (fun c_3 => ?_)
    · refine lv_aload_n hx hb dX1_run_22 rfl (lv_at hl 1 rfl) ?_
      refine lv_iload hx hb dX1_run_23 (lv_at hl 0 rfl) ?_
      skip
      refine zw_Vv (As := [.int 51]) (rest := []) (wr := []) ⟨hx, hb, hml, hown, hts⟩ (c_F_M_note l D cI cJ cZ cP cS po mv mb (mr) (4) (mm) (mq) fb (51) hy0 (by omega) H.size) (cwV 1 hts gX1_run_X1_note rfl rfl rfl ⟨rfl, dh_X1_note⟩ ⟨Nat.le_of_ble_eq_true rfl, Nat.le_of_ble_eq_true rfl⟩) hK hN (hZ.kept hS) hP hD hS hA [0, 1] [] rfl rfl (by decide) (by decide) (by decide) (va_recv (q := (RX1, TX1, 5)) hK hP (ci := 1) (q0 := 0) rfl rfl) rfl hl.1 rfl (Nat.le_of_ble_eq_true rfl) dX1_run_25 ⟨Nat.le_of_ble_eq_true rfl, Nat.le_of_ble_eq_true rfl⟩ (fun u_5 H locs hr_4 hP hD hS => ?_)
      obtain ⟨q_6, q_7⟩ := u_5
      try dsimp only at hr_4
      obtain ⟨hbq_6, hsr_4_0, hr_4⟩ := hr_4
      have h9R := zRe (ws' := [(mv, .inr (1, [.ref mb, .int q_6, .int 4, .int mm, .int mq])), (mb, .inl (cI, 20, .inl q_7))]) hP hD rfl
      clear hP hD
      obtain ⟨hP, hD⟩ := h9R
      refine lv_iload hx hb dX1_run_28 (lv_at hl 5 rfl) ?_
      refine lv_iconst (v := 1) hx hb dX1_run_30 (by decide) ?_
      refine lv_iadd hx hb dX1_run_31 ?_
      refine lv_topi (fun y_8 ey_8 => ?_)
      obtain rfl : y_8 = 4 := ey_8.trans (by decide)
      refine lv_istore (lv' := [(6, .int 4), (5, .int 51), (0, .ref mv), (1, .int 4), (2, .int 0), (3, .int x), (4, .int 3)]) hx hb dX1_run_32 hl (by decide) rfl (fun ls hl => ?_)
      refine lv_iload hx hb dX1_run_34 (lv_at hl 1 rfl) ?_
      refine lv_lookup (off := 195) (tgt := 231) hx hb dX1_run_36 (by decide) (by decide) (by decide) ?_
      refine lv_aload_n hx hb dX1_run_231 rfl (lv_at hl 2 rfl) ?_
      refine lv_iconst (v := 0) hx hb dX1_run_232 (by decide) ?_
      refine lv_iconst (v := 0) hx hb dX1_run_233 (by decide) ?_
      refine lv_iload_n hx hb dX1_run_234 rfl (lv_at hl 5 rfl) ?_
      refine lv_iload hx hb dX1_run_235 (lv_at hl 0 rfl) ?_
      skip
      refine zw_V (As := [.int 0, .int 0, .int x, .int 4]) (rest := []) (wr := []) ⟨hx, hb, hml, hown, hts⟩ (c_F_M_run_4_0_0_4 l D cI cJ cZ cP cS po mv mb (q_6) (mm) (mq) q_7 (x) (by omega) (by omega) H.size) (cwV 4 hts gX1_run_X1_run rfl rfl rfl ⟨rfl, dh_X1_run⟩ ⟨Nat.le_of_ble_eq_true rfl, Nat.le_of_ble_eq_true rfl⟩) hK hN (hZ.kept hS) hP hD hS hA [0, 1] [] rfl rfl (by decide) (by decide) (by decide) (va_recv (q := (RX1, TX1, 5)) hK hP (ci := 1) (q0 := 0) rfl rfl) rfl hl.1 rfl (Nat.le_of_ble_eq_true rfl) dX1_run_237 ⟨Nat.le_of_ble_eq_true rfl, Nat.le_of_ble_eq_true rfl⟩ (fun r_9 u_10 H locs hr_9 hP hD hS => ?_)
      obtain ⟨q_11, q_12⟩ := u_10
      try dsimp only at hr_9
      obtain ⟨hbq_11, hsr_9_0, hsr_9_1, hr_9⟩ := hr_9
      have h9R := zRe (ws' := [(mv, .inr (1, [.ref mb, .int q_11, .int 4, .int mm, .int mq])), (mb, .inl (cI, 20, .inl q_12))]) hP hD rfl
      clear hP hD
      obtain ⟨hP, hD⟩ := h9R
      refine lv_aload_n hx hb dX1_run_240 rfl (lv_at hl 2 rfl) ?_
      refine va_get (D := D) (ci := 1) (v := .int mm) (C := RX1) (T := TX1) (N := 5) hx hb hts hi_X1_run_1 hown hK hP 0 rfl rfl 3 (by decide) (hts (.fieldLink RX1 22 "TheLiningsInIt$Moves" "m" "I") (List.mem_of_getElem? (i := 1) rfl)) (fun _ h9 => h9) rfl dX1_run_241 ?_
      refine lv_isub hx hb dX1_run_244 ?_
      refine lv_topi (fun x_13 ex_13 => ?_)
      exact W.iret (v := x_13) hx hb hr (fun t ht hW => ⟨⟨x_13, (q_11, q_12), rfl, ⟨(show q_11.toInt = mr.toInt + 2 from by omega), (show (x_13 : Int32) = ((x + mm) - mm) from by ((try rw [ex_13]); (try rw [hsr_9_0]); (try rw [ex_13]); first | done | rfl)), (show q_12 = zTr fb mr.toInt [51, 10] from by (rw [hsr_9_1]; rw [hsr_4_0]; rw [zTr_app (by (have q : (([51] : List Int32).length : Int) = 1 := rfl; omega))]; first | done | rfl)), trivial⟩, zRet ht hP hD [0, 1] (by decide) rfl⟩, hS.F ht⟩) hS.2.2 dX1_run_245
    · exact absurd c_3 (by decide)
set_option maxHeartbeats 4000000 in
set_option maxRecDepth 100000 in
theorem c_F_M_run_4_4_1_2 (l : Launch) (D : va_G) (cI cJ cZ cP cS : ClassId) (po : zPool) (mv mb : Nat) (mr mm mq : Int32) (fb : Nat → Int32) (x : Int32) (hy0 : 0 ≤ mr.toInt) (hy1 : mr.toInt ≤ 1200) (hpz : Nat) : Met l yX1_run wsX1_run ({ frames := 4, cells := 0, slots := 0, locals := 98 }) (va_Pc [.ref mv, .int 4, .int 1, .int x, .int 2] (zW D (zKT cI cJ cZ cP cS) po [(mv, .inr (1, [.ref mb, .int mr, .int 4, .int mm, .int mq])), (mb, .inl (cI, 20, .inl fb))] hpz)) (va_Qi (fun (r : Int32) (u : (Int32) × (Nat → Int32)) => u.1.toInt = mr.toInt + 3 ∧ (r = (((x + mm) - mm) * 2)) ∧ (u.2 = zTr fb mr.toInt [11, 51, 10]) ∧ (True)) (zB D [(mv, .inr (1, [.ref mb, .int mr, .int 4, .int mm, .int mq])), (mb, .inl (cI, 20, .inl fb))] hpz (fun (u : (Int32) × (Nat → Int32)) => [(mv, .inr (1, [.ref mb, .int u.1, .int 4, .int mm, .int mq])), (mb, .inl (cI, 20, .inl u.2))])) (va_A [(mv, .inr (1, [.ref mb, .int mr, .int 4, .int mm, .int mq])), (mb, .inl (cI, 20, .inl fb))] hpz)) 0 0 (va_A [(mv, .inr (1, [.ref mb, .int mr, .int 4, .int mm, .int mq])), (mb, .inl (cI, 20, .inl fb))] hpz) := by
  refine Met.ofW (cc := cX1_run) (maxL := 7) (ret := (some .int)) (by decide) rfl ?_
  intro p e s m args below meth c s₁ B hml hv
  obtain ⟨rfl, hsz, hP, hK, hD0, hN, hZ⟩ := hv
  have hx := B.exec
  have hb := B.bytes
  have hr := B.returns
  have hts := atoms_spec (ws := wsX1_run) B.pre
  have hown : s.vm.findClass RX1 = some m.cls := findClass_of_methodNamed B.named
  have hlocks := B.notSynchronized
  subst hsz
  have hD := hD0.self (sz := s.heap.size)
  have hA := zA_of hD
  have hl := lv_entry ([.ref mv, .int 4, .int 1, .int x, .int 2]) (n := 7) (Nat.le_of_ble_eq_true rfl)
  rw [lg_entry_eq]
  generalize (lg_sl ([.ref mv, .int 4, .int 1, .int x, .int 2]) ++ List.replicate (7 - (lg_sl ([.ref mv, .int 4, .int 1, .int x, .int 2])).length) Slot.unset).toArray = ls at hl ⊢
  replace hl : lv_has ls 7 [(0, .ref mv), (1, .int 4), (2, .int 1), (3, .int x), (4, .int 2)] := hl
  refine zw_begin hP hD (fun H locs hP1 hS => ?_)
  clear hP
  have hP := hP1
  clear hP1
  refine lv_iload_n hx hb dX1_run_0 rfl (lv_at hl 1 rfl) ?_
  refine lv_iload_n hx hb dX1_run_1 rfl (lv_at hl 2 rfl) ?_
  refine zc_S (As := [.int 4, .int 1]) (rest := []) ⟨hx, hb, hml, hown, hts⟩ (c_M_bodyFor_4_1 l D cI cJ cZ cP cS po  ) (va_cwS 2 hts gX1_run_X1_bodyFor rfl rfl rfl dh_X1_bodyFor ⟨Nat.le_of_ble_eq_true rfl, Nat.le_of_ble_eq_true rfl⟩) hK hN (hZ.kept hS) rfl hl.1 rfl (Nat.le_of_ble_eq_true rfl) dX1_run_2 ⟨Nat.le_of_ble_eq_true rfl, Nat.le_of_ble_eq_true rfl⟩ (fun r_1 hr_1 => ?_)
  obtain rfl := hr_1
  refine lv_istore (lv' := [(5, .int 11), (0, .ref mv), (1, .int 4), (2, .int 1), (3, .int x), (4, .int 2)]) hx hb dX1_run_5 hl (by decide) rfl (fun ls hl => ?_)
  refine lv_iload hx hb dX1_run_7 (lv_at hl 0 rfl) ?_
  refine lv_iconst (v := (-1)) hx hb dX1_run_9 (by decide) ?_
  refine lv_icmp_eq (tgt := 20) hx hb dX1_run_10 (by decide) (fun c_2 => ?_) (fun c_2 => ?_)
  · exact absurd c_2 (by decide)
  · refine lv_iload hx hb dX1_run_13 (lv_at hl 5 rfl) ?_
    refine lv_bipush (v := 40) hx hb dX1_run_15 (by decide) ?_
    refine lv_icmp_lt (tgt := 22) hx hb dX1_run_17 (by decide) (fun c_3 => ?_) (fun c_3 => ?_)
    · refine lv_aload_n hx hb dX1_run_22 rfl (lv_at hl 1 rfl) ?_
      refine lv_iload hx hb dX1_run_23 (lv_at hl 0 rfl) ?_
      skip
      refine zw_Vv (As := [.int 11]) (rest := []) (wr := []) ⟨hx, hb, hml, hown, hts⟩ (c_F_M_note l D cI cJ cZ cP cS po mv mb (mr) (4) (mm) (mq) fb (11) hy0 (by omega) H.size) (cwV 1 hts gX1_run_X1_note rfl rfl rfl ⟨rfl, dh_X1_note⟩ ⟨Nat.le_of_ble_eq_true rfl, Nat.le_of_ble_eq_true rfl⟩) hK hN (hZ.kept hS) hP hD hS hA [0, 1] [] rfl rfl (by decide) (by decide) (by decide) (va_recv (q := (RX1, TX1, 5)) hK hP (ci := 1) (q0 := 0) rfl rfl) rfl hl.1 rfl (Nat.le_of_ble_eq_true rfl) dX1_run_25 ⟨Nat.le_of_ble_eq_true rfl, Nat.le_of_ble_eq_true rfl⟩ (fun u_5 H locs hr_4 hP hD hS => ?_)
      obtain ⟨q_6, q_7⟩ := u_5
      try dsimp only at hr_4
      obtain ⟨hbq_6, hsr_4_0, hr_4⟩ := hr_4
      have h9R := zRe (ws' := [(mv, .inr (1, [.ref mb, .int q_6, .int 4, .int mm, .int mq])), (mb, .inl (cI, 20, .inl q_7))]) hP hD rfl
      clear hP hD
      obtain ⟨hP, hD⟩ := h9R
      refine lv_iload hx hb dX1_run_28 (lv_at hl 5 rfl) ?_
      refine lv_iconst (v := 1) hx hb dX1_run_30 (by decide) ?_
      refine lv_iadd hx hb dX1_run_31 ?_
      refine lv_topi (fun y_8 ey_8 => ?_)
      obtain rfl : y_8 = 3 := ey_8.trans (by decide)
      refine lv_istore (lv' := [(6, .int 3), (5, .int 11), (0, .ref mv), (1, .int 4), (2, .int 1), (3, .int x), (4, .int 2)]) hx hb dX1_run_32 hl (by decide) rfl (fun ls hl => ?_)
      refine lv_iload hx hb dX1_run_34 (lv_at hl 1 rfl) ?_
      refine lv_lookup (off := 99) (tgt := 135) hx hb dX1_run_36 (by decide) (by decide) (by decide) ?_
      refine lv_aload_n hx hb dX1_run_135 rfl (lv_at hl 2 rfl) ?_
      refine lv_aload_n hx hb dX1_run_136 rfl (lv_at hl 2 rfl) ?_
      refine va_get (D := D) (ci := 1) (v := .int 4) (C := RX1) (T := TX1) (N := 5) hx hb hts hi_X1_run_1 hown hK hP 0 rfl rfl 2 (by decide) (hts (.fieldLink RX1 19 "TheLiningsInIt$Moves" "kind" "I") (List.mem_of_getElem? (i := 2) rfl)) (fun _ h9 => h9) rfl dX1_run_137 ?_
      refine lv_iconst (v := 0) hx hb dX1_run_140 (by decide) ?_
      refine lv_iload_n hx hb dX1_run_141 rfl (lv_at hl 5 rfl) ?_
      refine lv_iload hx hb dX1_run_142 (lv_at hl 0 rfl) ?_
      skip
      refine zw_V (As := [.int 4, .int 0, .int x, .int 3]) (rest := []) (wr := []) ⟨hx, hb, hml, hown, hts⟩ (c_F_M_run_4_4_0_3 l D cI cJ cZ cP cS po mv mb (q_6) (mm) (mq) q_7 (x) (by omega) (by omega) H.size) (cwV 4 hts gX1_run_X1_run rfl rfl rfl ⟨rfl, dh_X1_run⟩ ⟨Nat.le_of_ble_eq_true rfl, Nat.le_of_ble_eq_true rfl⟩) hK hN (hZ.kept hS) hP hD hS hA [0, 1] [] rfl rfl (by decide) (by decide) (by decide) (va_recv (q := (RX1, TX1, 5)) hK hP (ci := 1) (q0 := 0) rfl rfl) rfl hl.1 rfl (Nat.le_of_ble_eq_true rfl) dX1_run_144 ⟨Nat.le_of_ble_eq_true rfl, Nat.le_of_ble_eq_true rfl⟩ (fun r_9 u_10 H locs hr_9 hP hD hS => ?_)
      obtain ⟨q_11, q_12⟩ := u_10
      try dsimp only at hr_9
      obtain ⟨hbq_11, hsr_9_0, hsr_9_1, hr_9⟩ := hr_9
      have h9R := zRe (ws' := [(mv, .inr (1, [.ref mb, .int q_11, .int 4, .int mm, .int mq])), (mb, .inl (cI, 20, .inl q_12))]) hP hD rfl
      clear hP hD
      obtain ⟨hP, hD⟩ := h9R
      refine lv_iconst (v := 2) hx hb dX1_run_147 (by decide) ?_
      refine lv_imul hx hb dX1_run_148 ?_
      refine lv_topi (fun x_13 ex_13 => ?_)
      exact W.iret (v := x_13) hx hb hr (fun t ht hW => ⟨⟨x_13, (q_11, q_12), rfl, ⟨(show q_11.toInt = mr.toInt + 3 from by omega), (show (x_13 : Int32) = (((x + mm) - mm) * 2) from by ((try rw [ex_13]); (try rw [hsr_9_0]); (try rw [ex_13]); first | done | rfl)), (show q_12 = zTr fb mr.toInt [11, 51, 10] from by (rw [hsr_9_1]; rw [hsr_4_0]; rw [zTr_app (by (have q : (([11] : List Int32).length : Int) = 1 := rfl; omega))]; first | done | rfl)), trivial⟩, zRet ht hP hD [0, 1] (by decide) rfl⟩, hS.F ht⟩) hS.2.2 dX1_run_149
    · exact absurd c_3 (by decide)
set_option maxHeartbeats 4000000 in
set_option maxRecDepth 100000 in
theorem c_F_M_run_4_0_0_3 (l : Launch) (D : va_G) (cI cJ cZ cP cS : ClassId) (po : zPool) (mv mb : Nat) (mr mm mq : Int32) (fb : Nat → Int32) (x : Int32) (hy0 : 0 ≤ mr.toInt) (hy1 : mr.toInt ≤ 1300) (hpz : Nat) : Met l yX1_run wsX1_run ({ frames := 2, cells := 0, slots := 0, locals := 46 }) (va_Pc [.ref mv, .int 0, .int 0, .int x, .int 3] (zW D (zKT cI cJ cZ cP cS) po [(mv, .inr (1, [.ref mb, .int mr, .int 4, .int mm, .int mq])), (mb, .inl (cI, 20, .inl fb))] hpz)) (va_Qi (fun (r : Int32) (u : (Int32) × (Nat → Int32)) => u.1.toInt = mr.toInt + 1 ∧ (r = (x + mm)) ∧ (u.2 = zTr fb mr.toInt [10]) ∧ (True)) (zB D [(mv, .inr (1, [.ref mb, .int mr, .int 4, .int mm, .int mq])), (mb, .inl (cI, 20, .inl fb))] hpz (fun (u : (Int32) × (Nat → Int32)) => [(mv, .inr (1, [.ref mb, .int u.1, .int 4, .int mm, .int mq])), (mb, .inl (cI, 20, .inl u.2))])) (va_A [(mv, .inr (1, [.ref mb, .int mr, .int 4, .int mm, .int mq])), (mb, .inl (cI, 20, .inl fb))] hpz)) 0 0 (va_A [(mv, .inr (1, [.ref mb, .int mr, .int 4, .int mm, .int mq])), (mb, .inl (cI, 20, .inl fb))] hpz) := by
  refine Met.ofW (cc := cX1_run) (maxL := 7) (ret := (some .int)) (by decide) rfl ?_
  intro p e s m args below meth c s₁ B hml hv
  obtain ⟨rfl, hsz, hP, hK, hD0, hN, hZ⟩ := hv
  have hx := B.exec
  have hb := B.bytes
  have hr := B.returns
  have hts := atoms_spec (ws := wsX1_run) B.pre
  have hown : s.vm.findClass RX1 = some m.cls := findClass_of_methodNamed B.named
  have hlocks := B.notSynchronized
  subst hsz
  have hD := hD0.self (sz := s.heap.size)
  have hA := zA_of hD
  have hl := lv_entry ([.ref mv, .int 0, .int 0, .int x, .int 3]) (n := 7) (Nat.le_of_ble_eq_true rfl)
  rw [lg_entry_eq]
  generalize (lg_sl ([.ref mv, .int 0, .int 0, .int x, .int 3]) ++ List.replicate (7 - (lg_sl ([.ref mv, .int 0, .int 0, .int x, .int 3])).length) Slot.unset).toArray = ls at hl ⊢
  replace hl : lv_has ls 7 [(0, .ref mv), (1, .int 0), (2, .int 0), (3, .int x), (4, .int 3)] := hl
  refine zw_begin hP hD (fun H locs hP1 hS => ?_)
  clear hP
  have hP := hP1
  clear hP1
  refine lv_iload_n hx hb dX1_run_0 rfl (lv_at hl 1 rfl) ?_
  refine lv_iload_n hx hb dX1_run_1 rfl (lv_at hl 2 rfl) ?_
  refine zc_S (As := [.int 0, .int 0]) (rest := []) ⟨hx, hb, hml, hown, hts⟩ (c_M_bodyFor_0_0 l D cI cJ cZ cP cS po  ) (va_cwS 2 hts gX1_run_X1_bodyFor rfl rfl rfl dh_X1_bodyFor ⟨Nat.le_of_ble_eq_true rfl, Nat.le_of_ble_eq_true rfl⟩) hK hN (hZ.kept hS) rfl hl.1 rfl (Nat.le_of_ble_eq_true rfl) dX1_run_2 ⟨Nat.le_of_ble_eq_true rfl, Nat.le_of_ble_eq_true rfl⟩ (fun r_1 hr_1 => ?_)
  obtain rfl := hr_1
  refine lv_istore (lv' := [(5, .int 10), (0, .ref mv), (1, .int 0), (2, .int 0), (3, .int x), (4, .int 3)]) hx hb dX1_run_5 hl (by decide) rfl (fun ls hl => ?_)
  refine lv_iload hx hb dX1_run_7 (lv_at hl 0 rfl) ?_
  refine lv_iconst (v := (-1)) hx hb dX1_run_9 (by decide) ?_
  refine lv_icmp_eq (tgt := 20) hx hb dX1_run_10 (by decide) (fun c_2 => ?_) (fun c_2 => ?_)
  · exact absurd c_2 (by decide)
  · refine lv_iload hx hb dX1_run_13 (lv_at hl 5 rfl) ?_
    refine lv_bipush (v := 40) hx hb dX1_run_15 (by decide) ?_
    refine lv_icmp_lt (tgt := 22) hx hb dX1_run_17 (by decide) (fun c_3 => ?_) (fun c_3 => ?_)
    · refine lv_aload_n hx hb dX1_run_22 rfl (lv_at hl 1 rfl) ?_
      refine lv_iload hx hb dX1_run_23 (lv_at hl 0 rfl) ?_
      skip
      refine zw_Vv (As := [.int 10]) (rest := []) (wr := []) ⟨hx, hb, hml, hown, hts⟩ (c_F_M_note l D cI cJ cZ cP cS po mv mb (mr) (4) (mm) (mq) fb (10) hy0 (by omega) H.size) (cwV 1 hts gX1_run_X1_note rfl rfl rfl ⟨rfl, dh_X1_note⟩ ⟨Nat.le_of_ble_eq_true rfl, Nat.le_of_ble_eq_true rfl⟩) hK hN (hZ.kept hS) hP hD hS hA [0, 1] [] rfl rfl (by decide) (by decide) (by decide) (va_recv (q := (RX1, TX1, 5)) hK hP (ci := 1) (q0 := 0) rfl rfl) rfl hl.1 rfl (Nat.le_of_ble_eq_true rfl) dX1_run_25 ⟨Nat.le_of_ble_eq_true rfl, Nat.le_of_ble_eq_true rfl⟩ (fun u_5 H locs hr_4 hP hD hS => ?_)
      obtain ⟨q_6, q_7⟩ := u_5
      try dsimp only at hr_4
      obtain ⟨hbq_6, hsr_4_0, hr_4⟩ := hr_4
      have h9R := zRe (ws' := [(mv, .inr (1, [.ref mb, .int q_6, .int 4, .int mm, .int mq])), (mb, .inl (cI, 20, .inl q_7))]) hP hD rfl
      clear hP hD
      obtain ⟨hP, hD⟩ := h9R
      refine lv_iload hx hb dX1_run_28 (lv_at hl 5 rfl) ?_
      refine lv_iconst (v := 1) hx hb dX1_run_30 (by decide) ?_
      refine lv_iadd hx hb dX1_run_31 ?_
      refine lv_topi (fun y_8 ey_8 => ?_)
      obtain rfl : y_8 = 4 := ey_8.trans (by decide)
      refine lv_istore (lv' := [(6, .int 4), (5, .int 10), (0, .ref mv), (1, .int 0), (2, .int 0), (3, .int x), (4, .int 3)]) hx hb dX1_run_32 hl (by decide) rfl (fun ls hl => ?_)
      refine lv_iload hx hb dX1_run_34 (lv_at hl 1 rfl) ?_
      refine lv_lookup (off := 92) (tgt := 128) hx hb dX1_run_36 (by decide) (by decide) (by decide) ?_
      refine lv_iload_n hx hb dX1_run_128 rfl (lv_at hl 5 rfl) ?_
      refine lv_aload_n hx hb dX1_run_129 rfl (lv_at hl 2 rfl) ?_
      refine va_get (D := D) (ci := 1) (v := .int mm) (C := RX1) (T := TX1) (N := 5) hx hb hts hi_X1_run_1 hown hK hP 0 rfl rfl 3 (by decide) (hts (.fieldLink RX1 22 "TheLiningsInIt$Moves" "m" "I") (List.mem_of_getElem? (i := 1) rfl)) (fun _ h9 => h9) rfl dX1_run_130 ?_
      refine lv_iadd hx hb dX1_run_133 ?_
      refine lv_topi (fun x_9 ex_9 => ?_)
      exact W.iret (v := x_9) hx hb hr (fun t ht hW => ⟨⟨x_9, (q_6, q_7), rfl, ⟨(show q_6.toInt = mr.toInt + 1 from by omega), (show (x_9 : Int32) = (x + mm) from by ((try rw [ex_9]); (try rw [ex_9]); first | done | rfl)), (show q_7 = zTr fb mr.toInt [10] from by (rw [hsr_4_0]; first | done | rfl)), trivial⟩, zRet ht hP hD [0, 1] (by decide) rfl⟩, hS.F ht⟩) hS.2.2 dX1_run_134
    · exact absurd c_3 (by decide)
set_option maxHeartbeats 4000000 in
set_option maxRecDepth 100000 in
theorem c_F_M_run_4_4_0_2 (l : Launch) (D : va_G) (cI cJ cZ cP cS : ClassId) (po : zPool) (mv mb : Nat) (mr mm mq : Int32) (fb : Nat → Int32) (x : Int32) (hy0 : 0 ≤ mr.toInt) (hy1 : mr.toInt ≤ 1200) (hpz : Nat) : Met l yX1_run wsX1_run ({ frames := 3, cells := 0, slots := 0, locals := 72 }) (va_Pc [.ref mv, .int 4, .int 0, .int x, .int 2] (zW D (zKT cI cJ cZ cP cS) po [(mv, .inr (1, [.ref mb, .int mr, .int 4, .int mm, .int mq])), (mb, .inl (cI, 20, .inl fb))] hpz)) (va_Qi (fun (r : Int32) (u : (Int32) × (Nat → Int32)) => u.1.toInt = mr.toInt + 2 ∧ (r = ((x + mm) - mm)) ∧ (u.2 = zTr fb mr.toInt [51, 10]) ∧ (True)) (zB D [(mv, .inr (1, [.ref mb, .int mr, .int 4, .int mm, .int mq])), (mb, .inl (cI, 20, .inl fb))] hpz (fun (u : (Int32) × (Nat → Int32)) => [(mv, .inr (1, [.ref mb, .int u.1, .int 4, .int mm, .int mq])), (mb, .inl (cI, 20, .inl u.2))])) (va_A [(mv, .inr (1, [.ref mb, .int mr, .int 4, .int mm, .int mq])), (mb, .inl (cI, 20, .inl fb))] hpz)) 0 0 (va_A [(mv, .inr (1, [.ref mb, .int mr, .int 4, .int mm, .int mq])), (mb, .inl (cI, 20, .inl fb))] hpz) := by
  refine Met.ofW (cc := cX1_run) (maxL := 7) (ret := (some .int)) (by decide) rfl ?_
  intro p e s m args below meth c s₁ B hml hv
  obtain ⟨rfl, hsz, hP, hK, hD0, hN, hZ⟩ := hv
  have hx := B.exec
  have hb := B.bytes
  have hr := B.returns
  have hts := atoms_spec (ws := wsX1_run) B.pre
  have hown : s.vm.findClass RX1 = some m.cls := findClass_of_methodNamed B.named
  have hlocks := B.notSynchronized
  subst hsz
  have hD := hD0.self (sz := s.heap.size)
  have hA := zA_of hD
  have hl := lv_entry ([.ref mv, .int 4, .int 0, .int x, .int 2]) (n := 7) (Nat.le_of_ble_eq_true rfl)
  rw [lg_entry_eq]
  generalize (lg_sl ([.ref mv, .int 4, .int 0, .int x, .int 2]) ++ List.replicate (7 - (lg_sl ([.ref mv, .int 4, .int 0, .int x, .int 2])).length) Slot.unset).toArray = ls at hl ⊢
  replace hl : lv_has ls 7 [(0, .ref mv), (1, .int 4), (2, .int 0), (3, .int x), (4, .int 2)] := hl
  refine zw_begin hP hD (fun H locs hP1 hS => ?_)
  clear hP
  have hP := hP1
  clear hP1
  refine lv_iload_n hx hb dX1_run_0 rfl (lv_at hl 1 rfl) ?_
  refine lv_iload_n hx hb dX1_run_1 rfl (lv_at hl 2 rfl) ?_
  refine zc_S (As := [.int 4, .int 0]) (rest := []) ⟨hx, hb, hml, hown, hts⟩ (c_M_bodyFor_4_0 l D cI cJ cZ cP cS po  ) (va_cwS 2 hts gX1_run_X1_bodyFor rfl rfl rfl dh_X1_bodyFor ⟨Nat.le_of_ble_eq_true rfl, Nat.le_of_ble_eq_true rfl⟩) hK hN (hZ.kept hS) rfl hl.1 rfl (Nat.le_of_ble_eq_true rfl) dX1_run_2 ⟨Nat.le_of_ble_eq_true rfl, Nat.le_of_ble_eq_true rfl⟩ (fun r_1 hr_1 => ?_)
  obtain rfl := hr_1
  refine lv_istore (lv' := [(5, .int 51), (0, .ref mv), (1, .int 4), (2, .int 0), (3, .int x), (4, .int 2)]) hx hb dX1_run_5 hl (by decide) rfl (fun ls hl => ?_)
  refine lv_iload hx hb dX1_run_7 (lv_at hl 0 rfl) ?_
  refine lv_iconst (v := (-1)) hx hb dX1_run_9 (by decide) ?_
  refine lv_icmp_eq (tgt := 20) hx hb dX1_run_10 (by decide) (fun c_2 => ?_) (fun c_2 => ?_)
  · exact absurd c_2 (by decide)
  · refine lv_iload hx hb dX1_run_13 (lv_at hl 5 rfl) ?_
    refine lv_bipush (v := 40) hx hb dX1_run_15 (by decide) ?_
    refine lv_icmp_lt (tgt := 22) hx hb dX1_run_17 (by decide) (fun c_3 => ?_) (fun c_3 => ?_)
    · refine lv_aload_n hx hb dX1_run_22 rfl (lv_at hl 1 rfl) ?_
      refine lv_iload hx hb dX1_run_23 (lv_at hl 0 rfl) ?_
      skip
      refine zw_Vv (As := [.int 51]) (rest := []) (wr := []) ⟨hx, hb, hml, hown, hts⟩ (c_F_M_note l D cI cJ cZ cP cS po mv mb (mr) (4) (mm) (mq) fb (51) hy0 (by omega) H.size) (cwV 1 hts gX1_run_X1_note rfl rfl rfl ⟨rfl, dh_X1_note⟩ ⟨Nat.le_of_ble_eq_true rfl, Nat.le_of_ble_eq_true rfl⟩) hK hN (hZ.kept hS) hP hD hS hA [0, 1] [] rfl rfl (by decide) (by decide) (by decide) (va_recv (q := (RX1, TX1, 5)) hK hP (ci := 1) (q0 := 0) rfl rfl) rfl hl.1 rfl (Nat.le_of_ble_eq_true rfl) dX1_run_25 ⟨Nat.le_of_ble_eq_true rfl, Nat.le_of_ble_eq_true rfl⟩ (fun u_5 H locs hr_4 hP hD hS => ?_)
      obtain ⟨q_6, q_7⟩ := u_5
      try dsimp only at hr_4
      obtain ⟨hbq_6, hsr_4_0, hr_4⟩ := hr_4
      have h9R := zRe (ws' := [(mv, .inr (1, [.ref mb, .int q_6, .int 4, .int mm, .int mq])), (mb, .inl (cI, 20, .inl q_7))]) hP hD rfl
      clear hP hD
      obtain ⟨hP, hD⟩ := h9R
      refine lv_iload hx hb dX1_run_28 (lv_at hl 5 rfl) ?_
      refine lv_iconst (v := 1) hx hb dX1_run_30 (by decide) ?_
      refine lv_iadd hx hb dX1_run_31 ?_
      refine lv_topi (fun y_8 ey_8 => ?_)
      obtain rfl : y_8 = 3 := ey_8.trans (by decide)
      refine lv_istore (lv' := [(6, .int 3), (5, .int 51), (0, .ref mv), (1, .int 4), (2, .int 0), (3, .int x), (4, .int 2)]) hx hb dX1_run_32 hl (by decide) rfl (fun ls hl => ?_)
      refine lv_iload hx hb dX1_run_34 (lv_at hl 1 rfl) ?_
      refine lv_lookup (off := 195) (tgt := 231) hx hb dX1_run_36 (by decide) (by decide) (by decide) ?_
      refine lv_aload_n hx hb dX1_run_231 rfl (lv_at hl 2 rfl) ?_
      refine lv_iconst (v := 0) hx hb dX1_run_232 (by decide) ?_
      refine lv_iconst (v := 0) hx hb dX1_run_233 (by decide) ?_
      refine lv_iload_n hx hb dX1_run_234 rfl (lv_at hl 5 rfl) ?_
      refine lv_iload hx hb dX1_run_235 (lv_at hl 0 rfl) ?_
      skip
      refine zw_V (As := [.int 0, .int 0, .int x, .int 3]) (rest := []) (wr := []) ⟨hx, hb, hml, hown, hts⟩ (c_F_M_run_4_0_0_3 l D cI cJ cZ cP cS po mv mb (q_6) (mm) (mq) q_7 (x) (by omega) (by omega) H.size) (cwV 4 hts gX1_run_X1_run rfl rfl rfl ⟨rfl, dh_X1_run⟩ ⟨Nat.le_of_ble_eq_true rfl, Nat.le_of_ble_eq_true rfl⟩) hK hN (hZ.kept hS) hP hD hS hA [0, 1] [] rfl rfl (by decide) (by decide) (by decide) (va_recv (q := (RX1, TX1, 5)) hK hP (ci := 1) (q0 := 0) rfl rfl) rfl hl.1 rfl (Nat.le_of_ble_eq_true rfl) dX1_run_237 ⟨Nat.le_of_ble_eq_true rfl, Nat.le_of_ble_eq_true rfl⟩ (fun r_9 u_10 H locs hr_9 hP hD hS => ?_)
      obtain ⟨q_11, q_12⟩ := u_10
      try dsimp only at hr_9
      obtain ⟨hbq_11, hsr_9_0, hsr_9_1, hr_9⟩ := hr_9
      have h9R := zRe (ws' := [(mv, .inr (1, [.ref mb, .int q_11, .int 4, .int mm, .int mq])), (mb, .inl (cI, 20, .inl q_12))]) hP hD rfl
      clear hP hD
      obtain ⟨hP, hD⟩ := h9R
      refine lv_aload_n hx hb dX1_run_240 rfl (lv_at hl 2 rfl) ?_
      refine va_get (D := D) (ci := 1) (v := .int mm) (C := RX1) (T := TX1) (N := 5) hx hb hts hi_X1_run_1 hown hK hP 0 rfl rfl 3 (by decide) (hts (.fieldLink RX1 22 "TheLiningsInIt$Moves" "m" "I") (List.mem_of_getElem? (i := 1) rfl)) (fun _ h9 => h9) rfl dX1_run_241 ?_
      refine lv_isub hx hb dX1_run_244 ?_
      refine lv_topi (fun x_13 ex_13 => ?_)
      exact W.iret (v := x_13) hx hb hr (fun t ht hW => ⟨⟨x_13, (q_11, q_12), rfl, ⟨(show q_11.toInt = mr.toInt + 2 from by omega), (show (x_13 : Int32) = ((x + mm) - mm) from by ((try rw [ex_13]); (try rw [hsr_9_0]); (try rw [ex_13]); first | done | rfl)), (show q_12 = zTr fb mr.toInt [51, 10] from by (rw [hsr_9_1]; rw [hsr_4_0]; rw [zTr_app (by (have q : (([51] : List Int32).length : Int) = 1 := rfl; omega))]; first | done | rfl)), trivial⟩, zRet ht hP hD [0, 1] (by decide) rfl⟩, hS.F ht⟩) hS.2.2 dX1_run_245
    · exact absurd c_3 (by decide)
set_option maxHeartbeats 4000000 in
set_option maxRecDepth 100000 in
theorem c_F_M_run_4_0_2_1 (l : Launch) (D : va_G) (cI cJ cZ cP cS : ClassId) (po : zPool) (mv mb : Nat) (mr mm mq : Int32) (fb : Nat → Int32) (x : Int32) (hy0 : 0 ≤ mr.toInt) (hy1 : mr.toInt ≤ 1100) (hpz : Nat) : Met l yX1_run wsX1_run ({ frames := 5, cells := 0, slots := 0, locals := 124 }) (va_Pc [.ref mv, .int 0, .int 2, .int x, .int 1] (zW D (zKT cI cJ cZ cP cS) po [(mv, .inr (1, [.ref mb, .int mr, .int 4, .int mm, .int mq])), (mb, .inl (cI, 20, .inl fb))] hpz)) (va_Qi (fun (r : Int32) (u : (Int32) × (Nat → Int32)) => u.1.toInt = mr.toInt + 6 ∧ (r = ((((x + mm) - mm) * 2) ^^^ (((x - mq) + mm) - mm))) ∧ (u.2 = zTr fb mr.toInt [12, 11, 51, 10, 51, 10]) ∧ (True)) (zB D [(mv, .inr (1, [.ref mb, .int mr, .int 4, .int mm, .int mq])), (mb, .inl (cI, 20, .inl fb))] hpz (fun (u : (Int32) × (Nat → Int32)) => [(mv, .inr (1, [.ref mb, .int u.1, .int 4, .int mm, .int mq])), (mb, .inl (cI, 20, .inl u.2))])) (va_A [(mv, .inr (1, [.ref mb, .int mr, .int 4, .int mm, .int mq])), (mb, .inl (cI, 20, .inl fb))] hpz)) 0 0 (va_A [(mv, .inr (1, [.ref mb, .int mr, .int 4, .int mm, .int mq])), (mb, .inl (cI, 20, .inl fb))] hpz) := by
  refine Met.ofW (cc := cX1_run) (maxL := 7) (ret := (some .int)) (by decide) rfl ?_
  intro p e s m args below meth c s₁ B hml hv
  obtain ⟨rfl, hsz, hP, hK, hD0, hN, hZ⟩ := hv
  have hx := B.exec
  have hb := B.bytes
  have hr := B.returns
  have hts := atoms_spec (ws := wsX1_run) B.pre
  have hown : s.vm.findClass RX1 = some m.cls := findClass_of_methodNamed B.named
  have hlocks := B.notSynchronized
  subst hsz
  have hD := hD0.self (sz := s.heap.size)
  have hA := zA_of hD
  have hl := lv_entry ([.ref mv, .int 0, .int 2, .int x, .int 1]) (n := 7) (Nat.le_of_ble_eq_true rfl)
  rw [lg_entry_eq]
  generalize (lg_sl ([.ref mv, .int 0, .int 2, .int x, .int 1]) ++ List.replicate (7 - (lg_sl ([.ref mv, .int 0, .int 2, .int x, .int 1])).length) Slot.unset).toArray = ls at hl ⊢
  replace hl : lv_has ls 7 [(0, .ref mv), (1, .int 0), (2, .int 2), (3, .int x), (4, .int 1)] := hl
  refine zw_begin hP hD (fun H locs hP1 hS => ?_)
  clear hP
  have hP := hP1
  clear hP1
  refine lv_iload_n hx hb dX1_run_0 rfl (lv_at hl 1 rfl) ?_
  refine lv_iload_n hx hb dX1_run_1 rfl (lv_at hl 2 rfl) ?_
  refine zc_S (As := [.int 0, .int 2]) (rest := []) ⟨hx, hb, hml, hown, hts⟩ (c_M_bodyFor_0_2 l D cI cJ cZ cP cS po  ) (va_cwS 2 hts gX1_run_X1_bodyFor rfl rfl rfl dh_X1_bodyFor ⟨Nat.le_of_ble_eq_true rfl, Nat.le_of_ble_eq_true rfl⟩) hK hN (hZ.kept hS) rfl hl.1 rfl (Nat.le_of_ble_eq_true rfl) dX1_run_2 ⟨Nat.le_of_ble_eq_true rfl, Nat.le_of_ble_eq_true rfl⟩ (fun r_1 hr_1 => ?_)
  obtain rfl := hr_1
  refine lv_istore (lv' := [(5, .int 12), (0, .ref mv), (1, .int 0), (2, .int 2), (3, .int x), (4, .int 1)]) hx hb dX1_run_5 hl (by decide) rfl (fun ls hl => ?_)
  refine lv_iload hx hb dX1_run_7 (lv_at hl 0 rfl) ?_
  refine lv_iconst (v := (-1)) hx hb dX1_run_9 (by decide) ?_
  refine lv_icmp_eq (tgt := 20) hx hb dX1_run_10 (by decide) (fun c_2 => ?_) (fun c_2 => ?_)
  · exact absurd c_2 (by decide)
  · refine lv_iload hx hb dX1_run_13 (lv_at hl 5 rfl) ?_
    refine lv_bipush (v := 40) hx hb dX1_run_15 (by decide) ?_
    refine lv_icmp_lt (tgt := 22) hx hb dX1_run_17 (by decide) (fun c_3 => ?_) (fun c_3 => ?_)
    · refine lv_aload_n hx hb dX1_run_22 rfl (lv_at hl 1 rfl) ?_
      refine lv_iload hx hb dX1_run_23 (lv_at hl 0 rfl) ?_
      skip
      refine zw_Vv (As := [.int 12]) (rest := []) (wr := []) ⟨hx, hb, hml, hown, hts⟩ (c_F_M_note l D cI cJ cZ cP cS po mv mb (mr) (4) (mm) (mq) fb (12) hy0 (by omega) H.size) (cwV 1 hts gX1_run_X1_note rfl rfl rfl ⟨rfl, dh_X1_note⟩ ⟨Nat.le_of_ble_eq_true rfl, Nat.le_of_ble_eq_true rfl⟩) hK hN (hZ.kept hS) hP hD hS hA [0, 1] [] rfl rfl (by decide) (by decide) (by decide) (va_recv (q := (RX1, TX1, 5)) hK hP (ci := 1) (q0 := 0) rfl rfl) rfl hl.1 rfl (Nat.le_of_ble_eq_true rfl) dX1_run_25 ⟨Nat.le_of_ble_eq_true rfl, Nat.le_of_ble_eq_true rfl⟩ (fun u_5 H locs hr_4 hP hD hS => ?_)
      obtain ⟨q_6, q_7⟩ := u_5
      try dsimp only at hr_4
      obtain ⟨hbq_6, hsr_4_0, hr_4⟩ := hr_4
      have h9R := zRe (ws' := [(mv, .inr (1, [.ref mb, .int q_6, .int 4, .int mm, .int mq])), (mb, .inl (cI, 20, .inl q_7))]) hP hD rfl
      clear hP hD
      obtain ⟨hP, hD⟩ := h9R
      refine lv_iload hx hb dX1_run_28 (lv_at hl 5 rfl) ?_
      refine lv_iconst (v := 1) hx hb dX1_run_30 (by decide) ?_
      refine lv_iadd hx hb dX1_run_31 ?_
      refine lv_topi (fun y_8 ey_8 => ?_)
      obtain rfl : y_8 = 2 := ey_8.trans (by decide)
      refine lv_istore (lv' := [(6, .int 2), (5, .int 12), (0, .ref mv), (1, .int 0), (2, .int 2), (3, .int x), (4, .int 1)]) hx hb dX1_run_32 hl (by decide) rfl (fun ls hl => ?_)
      refine lv_iload hx hb dX1_run_34 (lv_at hl 1 rfl) ?_
      refine lv_lookup (off := 114) (tgt := 150) hx hb dX1_run_36 (by decide) (by decide) (by decide) ?_
      refine lv_aload_n hx hb dX1_run_150 rfl (lv_at hl 2 rfl) ?_
      refine lv_aload_n hx hb dX1_run_151 rfl (lv_at hl 2 rfl) ?_
      refine va_get (D := D) (ci := 1) (v := .int 4) (C := RX1) (T := TX1) (N := 5) hx hb hts hi_X1_run_1 hown hK hP 0 rfl rfl 2 (by decide) (hts (.fieldLink RX1 19 "TheLiningsInIt$Moves" "kind" "I") (List.mem_of_getElem? (i := 2) rfl)) (fun _ h9 => h9) rfl dX1_run_152 ?_
      refine lv_iconst (v := 1) hx hb dX1_run_155 (by decide) ?_
      refine lv_iload_n hx hb dX1_run_156 rfl (lv_at hl 5 rfl) ?_
      refine lv_iload hx hb dX1_run_157 (lv_at hl 0 rfl) ?_
      skip
      refine zw_V (As := [.int 4, .int 1, .int x, .int 2]) (rest := []) (wr := []) ⟨hx, hb, hml, hown, hts⟩ (c_F_M_run_4_4_1_2 l D cI cJ cZ cP cS po mv mb (q_6) (mm) (mq) q_7 (x) (by omega) (by omega) H.size) (cwV 4 hts gX1_run_X1_run rfl rfl rfl ⟨rfl, dh_X1_run⟩ ⟨Nat.le_of_ble_eq_true rfl, Nat.le_of_ble_eq_true rfl⟩) hK hN (hZ.kept hS) hP hD hS hA [0, 1] [] rfl rfl (by decide) (by decide) (by decide) (va_recv (q := (RX1, TX1, 5)) hK hP (ci := 1) (q0 := 0) rfl rfl) rfl hl.1 rfl (Nat.le_of_ble_eq_true rfl) dX1_run_159 ⟨Nat.le_of_ble_eq_true rfl, Nat.le_of_ble_eq_true rfl⟩ (fun r_9 u_10 H locs hr_9 hP hD hS => ?_)
      obtain ⟨q_11, q_12⟩ := u_10
      try dsimp only at hr_9
      obtain ⟨hbq_11, hsr_9_0, hsr_9_1, hr_9⟩ := hr_9
      have h9R := zRe (ws' := [(mv, .inr (1, [.ref mb, .int q_11, .int 4, .int mm, .int mq])), (mb, .inl (cI, 20, .inl q_12))]) hP hD rfl
      clear hP hD
      obtain ⟨hP, hD⟩ := h9R
      refine lv_aload_n hx hb dX1_run_162 rfl (lv_at hl 2 rfl) ?_
      refine lv_aload_n hx hb dX1_run_163 rfl (lv_at hl 2 rfl) ?_
      refine va_get (D := D) (ci := 1) (v := .int 4) (C := RX1) (T := TX1) (N := 5) hx hb hts hi_X1_run_1 hown hK hP 0 rfl rfl 2 (by decide) (hts (.fieldLink RX1 19 "TheLiningsInIt$Moves" "kind" "I") (List.mem_of_getElem? (i := 2) rfl)) (fun _ h9 => h9) rfl dX1_run_164 ?_
      refine lv_iconst (v := 0) hx hb dX1_run_167 (by decide) ?_
      refine lv_iload_n hx hb dX1_run_168 rfl (lv_at hl 5 rfl) ?_
      refine lv_aload_n hx hb dX1_run_169 rfl (lv_at hl 2 rfl) ?_
      refine va_get (D := D) (ci := 1) (v := .int mq) (C := RX1) (T := TX1) (N := 5) hx hb hts hi_X1_run_1 hown hK hP 0 rfl rfl 4 (by decide) (hts (.fieldLink RX1 25 "TheLiningsInIt$Moves" "k" "I") (List.mem_of_getElem? (i := 3) rfl)) (fun _ h9 => h9) rfl dX1_run_170 ?_
      refine lv_isub hx hb dX1_run_173 ?_
      refine lv_topi (fun x_13 ex_13 => ?_)
      refine lv_iload hx hb dX1_run_174 (lv_at hl 0 rfl) ?_
      skip
      refine zw_V (As := [.int 4, .int 0, .int x_13, .int 2]) (rest := [.int r_9]) (wr := []) ⟨hx, hb, hml, hown, hts⟩ (c_F_M_run_4_4_0_2 l D cI cJ cZ cP cS po mv mb (q_11) (mm) (mq) q_12 (x_13) (by omega) (by omega) H.size) (cwV 4 hts gX1_run_X1_run rfl rfl rfl ⟨rfl, dh_X1_run⟩ ⟨Nat.le_of_ble_eq_true rfl, Nat.le_of_ble_eq_true rfl⟩) hK hN (hZ.kept hS) hP hD hS hA [0, 1] [] rfl rfl (by decide) (by decide) (by decide) (va_recv (q := (RX1, TX1, 5)) hK hP (ci := 1) (q0 := 0) rfl rfl) rfl hl.1 rfl (Nat.le_of_ble_eq_true rfl) dX1_run_176 ⟨Nat.le_of_ble_eq_true rfl, Nat.le_of_ble_eq_true rfl⟩ (fun r_14 u_15 H locs hr_14 hP hD hS => ?_)
      obtain ⟨q_16, q_17⟩ := u_15
      try dsimp only at hr_14
      obtain ⟨hbq_16, hsr_14_0, hsr_14_1, hr_14⟩ := hr_14
      have h9R := zRe (ws' := [(mv, .inr (1, [.ref mb, .int q_16, .int 4, .int mm, .int mq])), (mb, .inl (cI, 20, .inl q_17))]) hP hD rfl
      clear hP hD
      obtain ⟨hP, hD⟩ := h9R
      refine lv_ixor hx hb dX1_run_179 ?_
      refine lv_topi (fun x_18 ex_18 => ?_)
      exact W.iret (v := x_18) hx hb hr (fun t ht hW => ⟨⟨x_18, (q_16, q_17), rfl, ⟨(show q_16.toInt = mr.toInt + 6 from by omega), (show (x_18 : Int32) = ((((x + mm) - mm) * 2) ^^^ (((x - mq) + mm) - mm)) from by ((try rw [ex_18]); (try rw [ex_13]); (try rw [hsr_9_0]); (try rw [hsr_14_0]); (try rw [ex_18]); (try rw [ex_13]); first | done | rfl)), (show q_17 = zTr fb mr.toInt [12, 11, 51, 10, 51, 10] from by (rw [hsr_14_1]; rw [hsr_9_1]; rw [hsr_4_0]; rw [zTr_app (by (have q : (([11, 51, 10] : List Int32).length : Int) = 3 := rfl; omega))]; rw [zTr_app (by (have q : (([12] : List Int32).length : Int) = 1 := rfl; omega))]; first | done | rfl)), trivial⟩, zRet ht hP hD [0, 1] (by decide) rfl⟩, hS.F ht⟩) hS.2.2 dX1_run_180
    · exact absurd c_3 (by decide)
set_option maxHeartbeats 4000000 in
set_option maxRecDepth 100000 in
theorem c_F_M_run_4_4_2_0 (l : Launch) (D : va_G) (cI cJ cZ cP cS : ClassId) (po : zPool) (mv mb : Nat) (mr mm mq : Int32) (fb : Nat → Int32) (x : Int32) (hy0 : 0 ≤ mr.toInt) (hy1 : mr.toInt ≤ 1000) (hpz : Nat) : Met l yX1_run wsX1_run ({ frames := 6, cells := 0, slots := 0, locals := 150 }) (va_Pc [.ref mv, .int 4, .int 2, .int x, .int 0] (zW D (zKT cI cJ cZ cP cS) po [(mv, .inr (1, [.ref mb, .int mr, .int 4, .int mm, .int mq])), (mb, .inl (cI, 20, .inl fb))] hpz)) (va_Qi (fun (r : Int32) (u : (Int32) × (Nat → Int32)) => u.1.toInt = mr.toInt + 7 ∧ (r = (-((((x + mm) - mm) * 2) ^^^ (((x - mq) + mm) - mm)))) ∧ (u.2 = zTr fb mr.toInt [50, 12, 11, 51, 10, 51, 10]) ∧ (True)) (zB D [(mv, .inr (1, [.ref mb, .int mr, .int 4, .int mm, .int mq])), (mb, .inl (cI, 20, .inl fb))] hpz (fun (u : (Int32) × (Nat → Int32)) => [(mv, .inr (1, [.ref mb, .int u.1, .int 4, .int mm, .int mq])), (mb, .inl (cI, 20, .inl u.2))])) (va_A [(mv, .inr (1, [.ref mb, .int mr, .int 4, .int mm, .int mq])), (mb, .inl (cI, 20, .inl fb))] hpz)) 0 0 (va_A [(mv, .inr (1, [.ref mb, .int mr, .int 4, .int mm, .int mq])), (mb, .inl (cI, 20, .inl fb))] hpz) := by
  refine Met.ofW (cc := cX1_run) (maxL := 7) (ret := (some .int)) (by decide) rfl ?_
  intro p e s m args below meth c s₁ B hml hv
  obtain ⟨rfl, hsz, hP, hK, hD0, hN, hZ⟩ := hv
  have hx := B.exec
  have hb := B.bytes
  have hr := B.returns
  have hts := atoms_spec (ws := wsX1_run) B.pre
  have hown : s.vm.findClass RX1 = some m.cls := findClass_of_methodNamed B.named
  have hlocks := B.notSynchronized
  subst hsz
  have hD := hD0.self (sz := s.heap.size)
  have hA := zA_of hD
  have hl := lv_entry ([.ref mv, .int 4, .int 2, .int x, .int 0]) (n := 7) (Nat.le_of_ble_eq_true rfl)
  rw [lg_entry_eq]
  generalize (lg_sl ([.ref mv, .int 4, .int 2, .int x, .int 0]) ++ List.replicate (7 - (lg_sl ([.ref mv, .int 4, .int 2, .int x, .int 0])).length) Slot.unset).toArray = ls at hl ⊢
  replace hl : lv_has ls 7 [(0, .ref mv), (1, .int 4), (2, .int 2), (3, .int x), (4, .int 0)] := hl
  refine zw_begin hP hD (fun H locs hP1 hS => ?_)
  clear hP
  have hP := hP1
  clear hP1
  refine lv_iload_n hx hb dX1_run_0 rfl (lv_at hl 1 rfl) ?_
  refine lv_iload_n hx hb dX1_run_1 rfl (lv_at hl 2 rfl) ?_
  refine zc_S (As := [.int 4, .int 2]) (rest := []) ⟨hx, hb, hml, hown, hts⟩ (c_M_bodyFor_4_2 l D cI cJ cZ cP cS po  ) (va_cwS 2 hts gX1_run_X1_bodyFor rfl rfl rfl dh_X1_bodyFor ⟨Nat.le_of_ble_eq_true rfl, Nat.le_of_ble_eq_true rfl⟩) hK hN (hZ.kept hS) rfl hl.1 rfl (Nat.le_of_ble_eq_true rfl) dX1_run_2 ⟨Nat.le_of_ble_eq_true rfl, Nat.le_of_ble_eq_true rfl⟩ (fun r_1 hr_1 => ?_)
  obtain rfl := hr_1
  refine lv_istore (lv' := [(5, .int 50), (0, .ref mv), (1, .int 4), (2, .int 2), (3, .int x), (4, .int 0)]) hx hb dX1_run_5 hl (by decide) rfl (fun ls hl => ?_)
  refine lv_iload hx hb dX1_run_7 (lv_at hl 0 rfl) ?_
  refine lv_iconst (v := (-1)) hx hb dX1_run_9 (by decide) ?_
  refine lv_icmp_eq (tgt := 20) hx hb dX1_run_10 (by decide) (fun c_2 => ?_) (fun c_2 => ?_)
  · exact absurd c_2 (by decide)
  · refine lv_iload hx hb dX1_run_13 (lv_at hl 5 rfl) ?_
    refine lv_bipush (v := 40) hx hb dX1_run_15 (by decide) ?_
    refine lv_icmp_lt (tgt := 22) hx hb dX1_run_17 (by decide) (fun c_3 => ?_) (fun c_3 => ?_)
    · refine lv_aload_n hx hb dX1_run_22 rfl (lv_at hl 1 rfl) ?_
      refine lv_iload hx hb dX1_run_23 (lv_at hl 0 rfl) ?_
      skip
      refine zw_Vv (As := [.int 50]) (rest := []) (wr := []) ⟨hx, hb, hml, hown, hts⟩ (c_F_M_note l D cI cJ cZ cP cS po mv mb (mr) (4) (mm) (mq) fb (50) hy0 (by omega) H.size) (cwV 1 hts gX1_run_X1_note rfl rfl rfl ⟨rfl, dh_X1_note⟩ ⟨Nat.le_of_ble_eq_true rfl, Nat.le_of_ble_eq_true rfl⟩) hK hN (hZ.kept hS) hP hD hS hA [0, 1] [] rfl rfl (by decide) (by decide) (by decide) (va_recv (q := (RX1, TX1, 5)) hK hP (ci := 1) (q0 := 0) rfl rfl) rfl hl.1 rfl (Nat.le_of_ble_eq_true rfl) dX1_run_25 ⟨Nat.le_of_ble_eq_true rfl, Nat.le_of_ble_eq_true rfl⟩ (fun u_5 H locs hr_4 hP hD hS => ?_)
      obtain ⟨q_6, q_7⟩ := u_5
      try dsimp only at hr_4
      obtain ⟨hbq_6, hsr_4_0, hr_4⟩ := hr_4
      have h9R := zRe (ws' := [(mv, .inr (1, [.ref mb, .int q_6, .int 4, .int mm, .int mq])), (mb, .inl (cI, 20, .inl q_7))]) hP hD rfl
      clear hP hD
      obtain ⟨hP, hD⟩ := h9R
      refine lv_iload hx hb dX1_run_28 (lv_at hl 5 rfl) ?_
      refine lv_iconst (v := 1) hx hb dX1_run_30 (by decide) ?_
      refine lv_iadd hx hb dX1_run_31 ?_
      refine lv_topi (fun y_8 ey_8 => ?_)
      obtain rfl : y_8 = 1 := ey_8.trans (by decide)
      refine lv_istore (lv' := [(6, .int 1), (5, .int 50), (0, .ref mv), (1, .int 4), (2, .int 2), (3, .int x), (4, .int 0)]) hx hb dX1_run_32 hl (by decide) rfl (fun ls hl => ?_)
      refine lv_iload hx hb dX1_run_34 (lv_at hl 1 rfl) ?_
      refine lv_lookup (off := 184) (tgt := 220) hx hb dX1_run_36 (by decide) (by decide) (by decide) ?_
      refine lv_aload_n hx hb dX1_run_220 rfl (lv_at hl 2 rfl) ?_
      refine lv_iconst (v := 0) hx hb dX1_run_221 (by decide) ?_
      refine lv_iconst (v := 2) hx hb dX1_run_222 (by decide) ?_
      refine lv_iload_n hx hb dX1_run_223 rfl (lv_at hl 5 rfl) ?_
      refine lv_iload hx hb dX1_run_224 (lv_at hl 0 rfl) ?_
      skip
      refine zw_V (As := [.int 0, .int 2, .int x, .int 1]) (rest := []) (wr := []) ⟨hx, hb, hml, hown, hts⟩ (c_F_M_run_4_0_2_1 l D cI cJ cZ cP cS po mv mb (q_6) (mm) (mq) q_7 (x) (by omega) (by omega) H.size) (cwV 4 hts gX1_run_X1_run rfl rfl rfl ⟨rfl, dh_X1_run⟩ ⟨Nat.le_of_ble_eq_true rfl, Nat.le_of_ble_eq_true rfl⟩) hK hN (hZ.kept hS) hP hD hS hA [0, 1] [] rfl rfl (by decide) (by decide) (by decide) (va_recv (q := (RX1, TX1, 5)) hK hP (ci := 1) (q0 := 0) rfl rfl) rfl hl.1 rfl (Nat.le_of_ble_eq_true rfl) dX1_run_226 ⟨Nat.le_of_ble_eq_true rfl, Nat.le_of_ble_eq_true rfl⟩ (fun r_9 u_10 H locs hr_9 hP hD hS => ?_)
      obtain ⟨q_11, q_12⟩ := u_10
      try dsimp only at hr_9
      obtain ⟨hbq_11, hsr_9_0, hsr_9_1, hr_9⟩ := hr_9
      have h9R := zRe (ws' := [(mv, .inr (1, [.ref mb, .int q_11, .int 4, .int mm, .int mq])), (mb, .inl (cI, 20, .inl q_12))]) hP hD rfl
      clear hP hD
      obtain ⟨hP, hD⟩ := h9R
      refine lv_ineg hx hb dX1_run_229 ?_
      refine lv_topi (fun x_13 ex_13 => ?_)
      exact W.iret (v := x_13) hx hb hr (fun t ht hW => ⟨⟨x_13, (q_11, q_12), rfl, ⟨(show q_11.toInt = mr.toInt + 7 from by omega), (show (x_13 : Int32) = (-((((x + mm) - mm) * 2) ^^^ (((x - mq) + mm) - mm))) from by ((try rw [ex_13]); (try rw [hsr_9_0]); (try rw [ex_13]); first | done | rfl)), (show q_12 = zTr fb mr.toInt [50, 12, 11, 51, 10, 51, 10] from by (rw [hsr_9_1]; rw [hsr_4_0]; rw [zTr_app (by (have q : (([50] : List Int32).length : Int) = 1 := rfl; omega))]; first | done | rfl)), trivial⟩, zRet ht hP hD [0, 1] (by decide) rfl⟩, hS.F ht⟩) hS.2.2 dX1_run_230
    · exact absurd c_3 (by decide)
set_option maxHeartbeats 4000000 in
set_option maxRecDepth 100000 in
theorem c_F_M_run_5_5_0_0 (l : Launch) (D : va_G) (cI cJ cZ cP cS : ClassId) (po : zPool) (mv mb : Nat) (mr mm mq : Int32) (fb : Nat → Int32) (x : Int32) (hy0 : 0 ≤ mr.toInt) (hy1 : mr.toInt ≤ 1000) (hpz : Nat) : Met l yX1_run wsX1_run ({ frames := 2, cells := 0, slots := 0, locals := 46 }) (va_Pc [.ref mv, .int 5, .int 0, .int x, .int 0] (zW D (zKT cI cJ cZ cP cS) po [(mv, .inr (1, [.ref mb, .int mr, .int 5, .int mm, .int mq])), (mb, .inl (cI, 20, .inl fb))] hpz)) (va_Qi (fun (r : Int32) (u : (Int32) × (Nat → Int32)) => u.1.toInt = mr.toInt + 1 ∧ (r = (x + mm)) ∧ (u.2 = zTr fb mr.toInt [10]) ∧ (True)) (zB D [(mv, .inr (1, [.ref mb, .int mr, .int 5, .int mm, .int mq])), (mb, .inl (cI, 20, .inl fb))] hpz (fun (u : (Int32) × (Nat → Int32)) => [(mv, .inr (1, [.ref mb, .int u.1, .int 5, .int mm, .int mq])), (mb, .inl (cI, 20, .inl u.2))])) (va_A [(mv, .inr (1, [.ref mb, .int mr, .int 5, .int mm, .int mq])), (mb, .inl (cI, 20, .inl fb))] hpz)) 0 0 (va_A [(mv, .inr (1, [.ref mb, .int mr, .int 5, .int mm, .int mq])), (mb, .inl (cI, 20, .inl fb))] hpz) := by
  refine Met.ofW (cc := cX1_run) (maxL := 7) (ret := (some .int)) (by decide) rfl ?_
  intro p e s m args below meth c s₁ B hml hv
  obtain ⟨rfl, hsz, hP, hK, hD0, hN, hZ⟩ := hv
  have hx := B.exec
  have hb := B.bytes
  have hr := B.returns
  have hts := atoms_spec (ws := wsX1_run) B.pre
  have hown : s.vm.findClass RX1 = some m.cls := findClass_of_methodNamed B.named
  have hlocks := B.notSynchronized
  subst hsz
  have hD := hD0.self (sz := s.heap.size)
  have hA := zA_of hD
  have hl := lv_entry ([.ref mv, .int 5, .int 0, .int x, .int 0]) (n := 7) (Nat.le_of_ble_eq_true rfl)
  rw [lg_entry_eq]
  generalize (lg_sl ([.ref mv, .int 5, .int 0, .int x, .int 0]) ++ List.replicate (7 - (lg_sl ([.ref mv, .int 5, .int 0, .int x, .int 0])).length) Slot.unset).toArray = ls at hl ⊢
  replace hl : lv_has ls 7 [(0, .ref mv), (1, .int 5), (2, .int 0), (3, .int x), (4, .int 0)] := hl
  refine zw_begin hP hD (fun H locs hP1 hS => ?_)
  clear hP
  have hP := hP1
  clear hP1
  refine lv_iload_n hx hb dX1_run_0 rfl (lv_at hl 1 rfl) ?_
  refine lv_iload_n hx hb dX1_run_1 rfl (lv_at hl 2 rfl) ?_
  refine zc_S (As := [.int 5, .int 0]) (rest := []) ⟨hx, hb, hml, hown, hts⟩ (c_M_bodyFor_5_0 l D cI cJ cZ cP cS po  ) (va_cwS 2 hts gX1_run_X1_bodyFor rfl rfl rfl dh_X1_bodyFor ⟨Nat.le_of_ble_eq_true rfl, Nat.le_of_ble_eq_true rfl⟩) hK hN (hZ.kept hS) rfl hl.1 rfl (Nat.le_of_ble_eq_true rfl) dX1_run_2 ⟨Nat.le_of_ble_eq_true rfl, Nat.le_of_ble_eq_true rfl⟩ (fun r_1 hr_1 => ?_)
  obtain rfl := hr_1
  refine lv_istore (lv' := [(5, .int 10), (0, .ref mv), (1, .int 5), (2, .int 0), (3, .int x), (4, .int 0)]) hx hb dX1_run_5 hl (by decide) rfl (fun ls hl => ?_)
  refine lv_iload hx hb dX1_run_7 (lv_at hl 0 rfl) ?_
  refine lv_iconst (v := (-1)) hx hb dX1_run_9 (by decide) ?_
  refine lv_icmp_eq (tgt := 20) hx hb dX1_run_10 (by decide) (fun c_2 => ?_) (fun c_2 => ?_)
  · exact absurd c_2 (by decide)
  · refine lv_iload hx hb dX1_run_13 (lv_at hl 5 rfl) ?_
    refine lv_bipush (v := 40) hx hb dX1_run_15 (by decide) ?_
    refine lv_icmp_lt (tgt := 22) hx hb dX1_run_17 (by decide) (fun c_3 => ?_) (fun c_3 => ?_)
    · refine lv_aload_n hx hb dX1_run_22 rfl (lv_at hl 1 rfl) ?_
      refine lv_iload hx hb dX1_run_23 (lv_at hl 0 rfl) ?_
      skip
      refine zw_Vv (As := [.int 10]) (rest := []) (wr := []) ⟨hx, hb, hml, hown, hts⟩ (c_F_M_note l D cI cJ cZ cP cS po mv mb (mr) (5) (mm) (mq) fb (10) hy0 (by omega) H.size) (cwV 1 hts gX1_run_X1_note rfl rfl rfl ⟨rfl, dh_X1_note⟩ ⟨Nat.le_of_ble_eq_true rfl, Nat.le_of_ble_eq_true rfl⟩) hK hN (hZ.kept hS) hP hD hS hA [0, 1] [] rfl rfl (by decide) (by decide) (by decide) (va_recv (q := (RX1, TX1, 5)) hK hP (ci := 1) (q0 := 0) rfl rfl) rfl hl.1 rfl (Nat.le_of_ble_eq_true rfl) dX1_run_25 ⟨Nat.le_of_ble_eq_true rfl, Nat.le_of_ble_eq_true rfl⟩ (fun u_5 H locs hr_4 hP hD hS => ?_)
      obtain ⟨q_6, q_7⟩ := u_5
      try dsimp only at hr_4
      obtain ⟨hbq_6, hsr_4_0, hr_4⟩ := hr_4
      have h9R := zRe (ws' := [(mv, .inr (1, [.ref mb, .int q_6, .int 5, .int mm, .int mq])), (mb, .inl (cI, 20, .inl q_7))]) hP hD rfl
      clear hP hD
      obtain ⟨hP, hD⟩ := h9R
      refine lv_iload hx hb dX1_run_28 (lv_at hl 5 rfl) ?_
      refine lv_iconst (v := 1) hx hb dX1_run_30 (by decide) ?_
      refine lv_iadd hx hb dX1_run_31 ?_
      refine lv_topi (fun y_8 ey_8 => ?_)
      obtain rfl : y_8 = 1 := ey_8.trans (by decide)
      refine lv_istore (lv' := [(6, .int 1), (5, .int 10), (0, .ref mv), (1, .int 5), (2, .int 0), (3, .int x), (4, .int 0)]) hx hb dX1_run_32 hl (by decide) rfl (fun ls hl => ?_)
      refine lv_iload hx hb dX1_run_34 (lv_at hl 1 rfl) ?_
      refine lv_lookup (off := 92) (tgt := 128) hx hb dX1_run_36 (by decide) (by decide) (by decide) ?_
      refine lv_iload_n hx hb dX1_run_128 rfl (lv_at hl 5 rfl) ?_
      refine lv_aload_n hx hb dX1_run_129 rfl (lv_at hl 2 rfl) ?_
      refine va_get (D := D) (ci := 1) (v := .int mm) (C := RX1) (T := TX1) (N := 5) hx hb hts hi_X1_run_1 hown hK hP 0 rfl rfl 3 (by decide) (hts (.fieldLink RX1 22 "TheLiningsInIt$Moves" "m" "I") (List.mem_of_getElem? (i := 1) rfl)) (fun _ h9 => h9) rfl dX1_run_130 ?_
      refine lv_iadd hx hb dX1_run_133 ?_
      refine lv_topi (fun x_9 ex_9 => ?_)
      exact W.iret (v := x_9) hx hb hr (fun t ht hW => ⟨⟨x_9, (q_6, q_7), rfl, ⟨(show q_6.toInt = mr.toInt + 1 from by omega), (show (x_9 : Int32) = (x + mm) from by ((try rw [ex_9]); (try rw [ex_9]); first | done | rfl)), (show q_7 = zTr fb mr.toInt [10] from by (rw [hsr_4_0]; first | done | rfl)), trivial⟩, zRet ht hP hD [0, 1] (by decide) rfl⟩, hS.F ht⟩) hS.2.2 dX1_run_134
    · exact absurd c_3 (by decide)
set_option maxHeartbeats 4000000 in
set_option maxRecDepth 100000 in
theorem c_F_M_run_5_5_0_2 (l : Launch) (D : va_G) (cI cJ cZ cP cS : ClassId) (po : zPool) (mv mb : Nat) (mr mm mq : Int32) (fb : Nat → Int32) (x : Int32) (hy0 : 0 ≤ mr.toInt) (hy1 : mr.toInt ≤ 1200) (hpz : Nat) : Met l yX1_run wsX1_run ({ frames := 2, cells := 0, slots := 0, locals := 46 }) (va_Pc [.ref mv, .int 5, .int 0, .int x, .int 2] (zW D (zKT cI cJ cZ cP cS) po [(mv, .inr (1, [.ref mb, .int mr, .int 5, .int mm, .int mq])), (mb, .inl (cI, 20, .inl fb))] hpz)) (va_Qi (fun (r : Int32) (u : (Int32) × (Nat → Int32)) => u.1.toInt = mr.toInt + 1 ∧ (r = (x + mm)) ∧ (u.2 = zTr fb mr.toInt [10]) ∧ (True)) (zB D [(mv, .inr (1, [.ref mb, .int mr, .int 5, .int mm, .int mq])), (mb, .inl (cI, 20, .inl fb))] hpz (fun (u : (Int32) × (Nat → Int32)) => [(mv, .inr (1, [.ref mb, .int u.1, .int 5, .int mm, .int mq])), (mb, .inl (cI, 20, .inl u.2))])) (va_A [(mv, .inr (1, [.ref mb, .int mr, .int 5, .int mm, .int mq])), (mb, .inl (cI, 20, .inl fb))] hpz)) 0 0 (va_A [(mv, .inr (1, [.ref mb, .int mr, .int 5, .int mm, .int mq])), (mb, .inl (cI, 20, .inl fb))] hpz) := by
  refine Met.ofW (cc := cX1_run) (maxL := 7) (ret := (some .int)) (by decide) rfl ?_
  intro p e s m args below meth c s₁ B hml hv
  obtain ⟨rfl, hsz, hP, hK, hD0, hN, hZ⟩ := hv
  have hx := B.exec
  have hb := B.bytes
  have hr := B.returns
  have hts := atoms_spec (ws := wsX1_run) B.pre
  have hown : s.vm.findClass RX1 = some m.cls := findClass_of_methodNamed B.named
  have hlocks := B.notSynchronized
  subst hsz
  have hD := hD0.self (sz := s.heap.size)
  have hA := zA_of hD
  have hl := lv_entry ([.ref mv, .int 5, .int 0, .int x, .int 2]) (n := 7) (Nat.le_of_ble_eq_true rfl)
  rw [lg_entry_eq]
  generalize (lg_sl ([.ref mv, .int 5, .int 0, .int x, .int 2]) ++ List.replicate (7 - (lg_sl ([.ref mv, .int 5, .int 0, .int x, .int 2])).length) Slot.unset).toArray = ls at hl ⊢
  replace hl : lv_has ls 7 [(0, .ref mv), (1, .int 5), (2, .int 0), (3, .int x), (4, .int 2)] := hl
  refine zw_begin hP hD (fun H locs hP1 hS => ?_)
  clear hP
  have hP := hP1
  clear hP1
  refine lv_iload_n hx hb dX1_run_0 rfl (lv_at hl 1 rfl) ?_
  refine lv_iload_n hx hb dX1_run_1 rfl (lv_at hl 2 rfl) ?_
  refine zc_S (As := [.int 5, .int 0]) (rest := []) ⟨hx, hb, hml, hown, hts⟩ (c_M_bodyFor_5_0 l D cI cJ cZ cP cS po  ) (va_cwS 2 hts gX1_run_X1_bodyFor rfl rfl rfl dh_X1_bodyFor ⟨Nat.le_of_ble_eq_true rfl, Nat.le_of_ble_eq_true rfl⟩) hK hN (hZ.kept hS) rfl hl.1 rfl (Nat.le_of_ble_eq_true rfl) dX1_run_2 ⟨Nat.le_of_ble_eq_true rfl, Nat.le_of_ble_eq_true rfl⟩ (fun r_1 hr_1 => ?_)
  obtain rfl := hr_1
  refine lv_istore (lv' := [(5, .int 10), (0, .ref mv), (1, .int 5), (2, .int 0), (3, .int x), (4, .int 2)]) hx hb dX1_run_5 hl (by decide) rfl (fun ls hl => ?_)
  refine lv_iload hx hb dX1_run_7 (lv_at hl 0 rfl) ?_
  refine lv_iconst (v := (-1)) hx hb dX1_run_9 (by decide) ?_
  refine lv_icmp_eq (tgt := 20) hx hb dX1_run_10 (by decide) (fun c_2 => ?_) (fun c_2 => ?_)
  · exact absurd c_2 (by decide)
  · refine lv_iload hx hb dX1_run_13 (lv_at hl 5 rfl) ?_
    refine lv_bipush (v := 40) hx hb dX1_run_15 (by decide) ?_
    refine lv_icmp_lt (tgt := 22) hx hb dX1_run_17 (by decide) (fun c_3 => ?_) (fun c_3 => ?_)
    · refine lv_aload_n hx hb dX1_run_22 rfl (lv_at hl 1 rfl) ?_
      refine lv_iload hx hb dX1_run_23 (lv_at hl 0 rfl) ?_
      skip
      refine zw_Vv (As := [.int 10]) (rest := []) (wr := []) ⟨hx, hb, hml, hown, hts⟩ (c_F_M_note l D cI cJ cZ cP cS po mv mb (mr) (5) (mm) (mq) fb (10) hy0 (by omega) H.size) (cwV 1 hts gX1_run_X1_note rfl rfl rfl ⟨rfl, dh_X1_note⟩ ⟨Nat.le_of_ble_eq_true rfl, Nat.le_of_ble_eq_true rfl⟩) hK hN (hZ.kept hS) hP hD hS hA [0, 1] [] rfl rfl (by decide) (by decide) (by decide) (va_recv (q := (RX1, TX1, 5)) hK hP (ci := 1) (q0 := 0) rfl rfl) rfl hl.1 rfl (Nat.le_of_ble_eq_true rfl) dX1_run_25 ⟨Nat.le_of_ble_eq_true rfl, Nat.le_of_ble_eq_true rfl⟩ (fun u_5 H locs hr_4 hP hD hS => ?_)
      obtain ⟨q_6, q_7⟩ := u_5
      try dsimp only at hr_4
      obtain ⟨hbq_6, hsr_4_0, hr_4⟩ := hr_4
      have h9R := zRe (ws' := [(mv, .inr (1, [.ref mb, .int q_6, .int 5, .int mm, .int mq])), (mb, .inl (cI, 20, .inl q_7))]) hP hD rfl
      clear hP hD
      obtain ⟨hP, hD⟩ := h9R
      refine lv_iload hx hb dX1_run_28 (lv_at hl 5 rfl) ?_
      refine lv_iconst (v := 1) hx hb dX1_run_30 (by decide) ?_
      refine lv_iadd hx hb dX1_run_31 ?_
      refine lv_topi (fun y_8 ey_8 => ?_)
      obtain rfl : y_8 = 3 := ey_8.trans (by decide)
      refine lv_istore (lv' := [(6, .int 3), (5, .int 10), (0, .ref mv), (1, .int 5), (2, .int 0), (3, .int x), (4, .int 2)]) hx hb dX1_run_32 hl (by decide) rfl (fun ls hl => ?_)
      refine lv_iload hx hb dX1_run_34 (lv_at hl 1 rfl) ?_
      refine lv_lookup (off := 92) (tgt := 128) hx hb dX1_run_36 (by decide) (by decide) (by decide) ?_
      refine lv_iload_n hx hb dX1_run_128 rfl (lv_at hl 5 rfl) ?_
      refine lv_aload_n hx hb dX1_run_129 rfl (lv_at hl 2 rfl) ?_
      refine va_get (D := D) (ci := 1) (v := .int mm) (C := RX1) (T := TX1) (N := 5) hx hb hts hi_X1_run_1 hown hK hP 0 rfl rfl 3 (by decide) (hts (.fieldLink RX1 22 "TheLiningsInIt$Moves" "m" "I") (List.mem_of_getElem? (i := 1) rfl)) (fun _ h9 => h9) rfl dX1_run_130 ?_
      refine lv_iadd hx hb dX1_run_133 ?_
      refine lv_topi (fun x_9 ex_9 => ?_)
      exact W.iret (v := x_9) hx hb hr (fun t ht hW => ⟨⟨x_9, (q_6, q_7), rfl, ⟨(show q_6.toInt = mr.toInt + 1 from by omega), (show (x_9 : Int32) = (x + mm) from by ((try rw [ex_9]); (try rw [ex_9]); first | done | rfl)), (show q_7 = zTr fb mr.toInt [10] from by (rw [hsr_4_0]; first | done | rfl)), trivial⟩, zRet ht hP hD [0, 1] (by decide) rfl⟩, hS.F ht⟩) hS.2.2 dX1_run_134
    · exact absurd c_3 (by decide)
set_option maxHeartbeats 4000000 in
set_option maxRecDepth 100000 in
theorem c_F_M_run_5_0_1_1 (l : Launch) (D : va_G) (cI cJ cZ cP cS : ClassId) (po : zPool) (mv mb : Nat) (mr mm mq : Int32) (fb : Nat → Int32) (x : Int32) (hy0 : 0 ≤ mr.toInt) (hy1 : mr.toInt ≤ 1100) (hpz : Nat) : Met l yX1_run wsX1_run ({ frames := 3, cells := 0, slots := 0, locals := 72 }) (va_Pc [.ref mv, .int 0, .int 1, .int x, .int 1] (zW D (zKT cI cJ cZ cP cS) po [(mv, .inr (1, [.ref mb, .int mr, .int 5, .int mm, .int mq])), (mb, .inl (cI, 20, .inl fb))] hpz)) (va_Qi (fun (r : Int32) (u : (Int32) × (Nat → Int32)) => u.1.toInt = mr.toInt + 2 ∧ (r = ((x + mm) * 2)) ∧ (u.2 = zTr fb mr.toInt [11, 10]) ∧ (True)) (zB D [(mv, .inr (1, [.ref mb, .int mr, .int 5, .int mm, .int mq])), (mb, .inl (cI, 20, .inl fb))] hpz (fun (u : (Int32) × (Nat → Int32)) => [(mv, .inr (1, [.ref mb, .int u.1, .int 5, .int mm, .int mq])), (mb, .inl (cI, 20, .inl u.2))])) (va_A [(mv, .inr (1, [.ref mb, .int mr, .int 5, .int mm, .int mq])), (mb, .inl (cI, 20, .inl fb))] hpz)) 0 0 (va_A [(mv, .inr (1, [.ref mb, .int mr, .int 5, .int mm, .int mq])), (mb, .inl (cI, 20, .inl fb))] hpz) := by
  refine Met.ofW (cc := cX1_run) (maxL := 7) (ret := (some .int)) (by decide) rfl ?_
  intro p e s m args below meth c s₁ B hml hv
  obtain ⟨rfl, hsz, hP, hK, hD0, hN, hZ⟩ := hv
  have hx := B.exec
  have hb := B.bytes
  have hr := B.returns
  have hts := atoms_spec (ws := wsX1_run) B.pre
  have hown : s.vm.findClass RX1 = some m.cls := findClass_of_methodNamed B.named
  have hlocks := B.notSynchronized
  subst hsz
  have hD := hD0.self (sz := s.heap.size)
  have hA := zA_of hD
  have hl := lv_entry ([.ref mv, .int 0, .int 1, .int x, .int 1]) (n := 7) (Nat.le_of_ble_eq_true rfl)
  rw [lg_entry_eq]
  generalize (lg_sl ([.ref mv, .int 0, .int 1, .int x, .int 1]) ++ List.replicate (7 - (lg_sl ([.ref mv, .int 0, .int 1, .int x, .int 1])).length) Slot.unset).toArray = ls at hl ⊢
  replace hl : lv_has ls 7 [(0, .ref mv), (1, .int 0), (2, .int 1), (3, .int x), (4, .int 1)] := hl
  refine zw_begin hP hD (fun H locs hP1 hS => ?_)
  clear hP
  have hP := hP1
  clear hP1
  refine lv_iload_n hx hb dX1_run_0 rfl (lv_at hl 1 rfl) ?_
  refine lv_iload_n hx hb dX1_run_1 rfl (lv_at hl 2 rfl) ?_
  refine zc_S (As := [.int 0, .int 1]) (rest := []) ⟨hx, hb, hml, hown, hts⟩ (c_M_bodyFor_0_1 l D cI cJ cZ cP cS po  ) (va_cwS 2 hts gX1_run_X1_bodyFor rfl rfl rfl dh_X1_bodyFor ⟨Nat.le_of_ble_eq_true rfl, Nat.le_of_ble_eq_true rfl⟩) hK hN (hZ.kept hS) rfl hl.1 rfl (Nat.le_of_ble_eq_true rfl) dX1_run_2 ⟨Nat.le_of_ble_eq_true rfl, Nat.le_of_ble_eq_true rfl⟩ (fun r_1 hr_1 => ?_)
  obtain rfl := hr_1
  refine lv_istore (lv' := [(5, .int 11), (0, .ref mv), (1, .int 0), (2, .int 1), (3, .int x), (4, .int 1)]) hx hb dX1_run_5 hl (by decide) rfl (fun ls hl => ?_)
  refine lv_iload hx hb dX1_run_7 (lv_at hl 0 rfl) ?_
  refine lv_iconst (v := (-1)) hx hb dX1_run_9 (by decide) ?_
  refine lv_icmp_eq (tgt := 20) hx hb dX1_run_10 (by decide) (fun c_2 => ?_) (fun c_2 => ?_)
  · exact absurd c_2 (by decide)
  · refine lv_iload hx hb dX1_run_13 (lv_at hl 5 rfl) ?_
    refine lv_bipush (v := 40) hx hb dX1_run_15 (by decide) ?_
    refine lv_icmp_lt (tgt := 22) hx hb dX1_run_17 (by decide) (fun c_3 => ?_) (fun c_3 => ?_)
    · refine lv_aload_n hx hb dX1_run_22 rfl (lv_at hl 1 rfl) ?_
      refine lv_iload hx hb dX1_run_23 (lv_at hl 0 rfl) ?_
      skip
      refine zw_Vv (As := [.int 11]) (rest := []) (wr := []) ⟨hx, hb, hml, hown, hts⟩ (c_F_M_note l D cI cJ cZ cP cS po mv mb (mr) (5) (mm) (mq) fb (11) hy0 (by omega) H.size) (cwV 1 hts gX1_run_X1_note rfl rfl rfl ⟨rfl, dh_X1_note⟩ ⟨Nat.le_of_ble_eq_true rfl, Nat.le_of_ble_eq_true rfl⟩) hK hN (hZ.kept hS) hP hD hS hA [0, 1] [] rfl rfl (by decide) (by decide) (by decide) (va_recv (q := (RX1, TX1, 5)) hK hP (ci := 1) (q0 := 0) rfl rfl) rfl hl.1 rfl (Nat.le_of_ble_eq_true rfl) dX1_run_25 ⟨Nat.le_of_ble_eq_true rfl, Nat.le_of_ble_eq_true rfl⟩ (fun u_5 H locs hr_4 hP hD hS => ?_)
      obtain ⟨q_6, q_7⟩ := u_5
      try dsimp only at hr_4
      obtain ⟨hbq_6, hsr_4_0, hr_4⟩ := hr_4
      have h9R := zRe (ws' := [(mv, .inr (1, [.ref mb, .int q_6, .int 5, .int mm, .int mq])), (mb, .inl (cI, 20, .inl q_7))]) hP hD rfl
      clear hP hD
      obtain ⟨hP, hD⟩ := h9R
      refine lv_iload hx hb dX1_run_28 (lv_at hl 5 rfl) ?_
      refine lv_iconst (v := 1) hx hb dX1_run_30 (by decide) ?_
      refine lv_iadd hx hb dX1_run_31 ?_
      refine lv_topi (fun y_8 ey_8 => ?_)
      obtain rfl : y_8 = 2 := ey_8.trans (by decide)
      refine lv_istore (lv' := [(6, .int 2), (5, .int 11), (0, .ref mv), (1, .int 0), (2, .int 1), (3, .int x), (4, .int 1)]) hx hb dX1_run_32 hl (by decide) rfl (fun ls hl => ?_)
      refine lv_iload hx hb dX1_run_34 (lv_at hl 1 rfl) ?_
      refine lv_lookup (off := 99) (tgt := 135) hx hb dX1_run_36 (by decide) (by decide) (by decide) ?_
      refine lv_aload_n hx hb dX1_run_135 rfl (lv_at hl 2 rfl) ?_
      refine lv_aload_n hx hb dX1_run_136 rfl (lv_at hl 2 rfl) ?_
      refine va_get (D := D) (ci := 1) (v := .int 5) (C := RX1) (T := TX1) (N := 5) hx hb hts hi_X1_run_1 hown hK hP 0 rfl rfl 2 (by decide) (hts (.fieldLink RX1 19 "TheLiningsInIt$Moves" "kind" "I") (List.mem_of_getElem? (i := 2) rfl)) (fun _ h9 => h9) rfl dX1_run_137 ?_
      refine lv_iconst (v := 0) hx hb dX1_run_140 (by decide) ?_
      refine lv_iload_n hx hb dX1_run_141 rfl (lv_at hl 5 rfl) ?_
      refine lv_iload hx hb dX1_run_142 (lv_at hl 0 rfl) ?_
      skip
      refine zw_V (As := [.int 5, .int 0, .int x, .int 2]) (rest := []) (wr := []) ⟨hx, hb, hml, hown, hts⟩ (c_F_M_run_5_5_0_2 l D cI cJ cZ cP cS po mv mb (q_6) (mm) (mq) q_7 (x) (by omega) (by omega) H.size) (cwV 4 hts gX1_run_X1_run rfl rfl rfl ⟨rfl, dh_X1_run⟩ ⟨Nat.le_of_ble_eq_true rfl, Nat.le_of_ble_eq_true rfl⟩) hK hN (hZ.kept hS) hP hD hS hA [0, 1] [] rfl rfl (by decide) (by decide) (by decide) (va_recv (q := (RX1, TX1, 5)) hK hP (ci := 1) (q0 := 0) rfl rfl) rfl hl.1 rfl (Nat.le_of_ble_eq_true rfl) dX1_run_144 ⟨Nat.le_of_ble_eq_true rfl, Nat.le_of_ble_eq_true rfl⟩ (fun r_9 u_10 H locs hr_9 hP hD hS => ?_)
      obtain ⟨q_11, q_12⟩ := u_10
      try dsimp only at hr_9
      obtain ⟨hbq_11, hsr_9_0, hsr_9_1, hr_9⟩ := hr_9
      have h9R := zRe (ws' := [(mv, .inr (1, [.ref mb, .int q_11, .int 5, .int mm, .int mq])), (mb, .inl (cI, 20, .inl q_12))]) hP hD rfl
      clear hP hD
      obtain ⟨hP, hD⟩ := h9R
      refine lv_iconst (v := 2) hx hb dX1_run_147 (by decide) ?_
      refine lv_imul hx hb dX1_run_148 ?_
      refine lv_topi (fun x_13 ex_13 => ?_)
      exact W.iret (v := x_13) hx hb hr (fun t ht hW => ⟨⟨x_13, (q_11, q_12), rfl, ⟨(show q_11.toInt = mr.toInt + 2 from by omega), (show (x_13 : Int32) = ((x + mm) * 2) from by ((try rw [ex_13]); (try rw [hsr_9_0]); (try rw [ex_13]); first | done | rfl)), (show q_12 = zTr fb mr.toInt [11, 10] from by (rw [hsr_9_1]; rw [hsr_4_0]; rw [zTr_app (by (have q : (([11] : List Int32).length : Int) = 1 := rfl; omega))]; first | done | rfl)), trivial⟩, zRet ht hP hD [0, 1] (by decide) rfl⟩, hS.F ht⟩) hS.2.2 dX1_run_149
    · exact absurd c_3 (by decide)
set_option maxHeartbeats 4000000 in
set_option maxRecDepth 100000 in
theorem c_F_M_run_5_5_1_0 (l : Launch) (D : va_G) (cI cJ cZ cP cS : ClassId) (po : zPool) (mv mb : Nat) (mr mm mq : Int32) (fb : Nat → Int32) (x : Int32) (hy0 : 0 ≤ mr.toInt) (hy1 : mr.toInt ≤ 1000) (hpz : Nat) : Met l yX1_run wsX1_run ({ frames := 4, cells := 0, slots := 0, locals := 98 }) (va_Pc [.ref mv, .int 5, .int 1, .int x, .int 0] (zW D (zKT cI cJ cZ cP cS) po [(mv, .inr (1, [.ref mb, .int mr, .int 5, .int mm, .int mq])), (mb, .inl (cI, 20, .inl fb))] hpz)) (va_Qi (fun (r : Int32) (u : (Int32) × (Nat → Int32)) => u.1.toInt = mr.toInt + 3 ∧ (r = (((x + mm) * 2) * 3)) ∧ (u.2 = zTr fb mr.toInt [30, 11, 10]) ∧ (True)) (zB D [(mv, .inr (1, [.ref mb, .int mr, .int 5, .int mm, .int mq])), (mb, .inl (cI, 20, .inl fb))] hpz (fun (u : (Int32) × (Nat → Int32)) => [(mv, .inr (1, [.ref mb, .int u.1, .int 5, .int mm, .int mq])), (mb, .inl (cI, 20, .inl u.2))])) (va_A [(mv, .inr (1, [.ref mb, .int mr, .int 5, .int mm, .int mq])), (mb, .inl (cI, 20, .inl fb))] hpz)) 0 0 (va_A [(mv, .inr (1, [.ref mb, .int mr, .int 5, .int mm, .int mq])), (mb, .inl (cI, 20, .inl fb))] hpz) := by
  refine Met.ofW (cc := cX1_run) (maxL := 7) (ret := (some .int)) (by decide) rfl ?_
  intro p e s m args below meth c s₁ B hml hv
  obtain ⟨rfl, hsz, hP, hK, hD0, hN, hZ⟩ := hv
  have hx := B.exec
  have hb := B.bytes
  have hr := B.returns
  have hts := atoms_spec (ws := wsX1_run) B.pre
  have hown : s.vm.findClass RX1 = some m.cls := findClass_of_methodNamed B.named
  have hlocks := B.notSynchronized
  subst hsz
  have hD := hD0.self (sz := s.heap.size)
  have hA := zA_of hD
  have hl := lv_entry ([.ref mv, .int 5, .int 1, .int x, .int 0]) (n := 7) (Nat.le_of_ble_eq_true rfl)
  rw [lg_entry_eq]
  generalize (lg_sl ([.ref mv, .int 5, .int 1, .int x, .int 0]) ++ List.replicate (7 - (lg_sl ([.ref mv, .int 5, .int 1, .int x, .int 0])).length) Slot.unset).toArray = ls at hl ⊢
  replace hl : lv_has ls 7 [(0, .ref mv), (1, .int 5), (2, .int 1), (3, .int x), (4, .int 0)] := hl
  refine zw_begin hP hD (fun H locs hP1 hS => ?_)
  clear hP
  have hP := hP1
  clear hP1
  refine lv_iload_n hx hb dX1_run_0 rfl (lv_at hl 1 rfl) ?_
  refine lv_iload_n hx hb dX1_run_1 rfl (lv_at hl 2 rfl) ?_
  refine zc_S (As := [.int 5, .int 1]) (rest := []) ⟨hx, hb, hml, hown, hts⟩ (c_M_bodyFor_5_1 l D cI cJ cZ cP cS po  ) (va_cwS 2 hts gX1_run_X1_bodyFor rfl rfl rfl dh_X1_bodyFor ⟨Nat.le_of_ble_eq_true rfl, Nat.le_of_ble_eq_true rfl⟩) hK hN (hZ.kept hS) rfl hl.1 rfl (Nat.le_of_ble_eq_true rfl) dX1_run_2 ⟨Nat.le_of_ble_eq_true rfl, Nat.le_of_ble_eq_true rfl⟩ (fun r_1 hr_1 => ?_)
  obtain rfl := hr_1
  refine lv_istore (lv' := [(5, .int 30), (0, .ref mv), (1, .int 5), (2, .int 1), (3, .int x), (4, .int 0)]) hx hb dX1_run_5 hl (by decide) rfl (fun ls hl => ?_)
  refine lv_iload hx hb dX1_run_7 (lv_at hl 0 rfl) ?_
  refine lv_iconst (v := (-1)) hx hb dX1_run_9 (by decide) ?_
  refine lv_icmp_eq (tgt := 20) hx hb dX1_run_10 (by decide) (fun c_2 => ?_) (fun c_2 => ?_)
  · exact absurd c_2 (by decide)
  · refine lv_iload hx hb dX1_run_13 (lv_at hl 5 rfl) ?_
    refine lv_bipush (v := 40) hx hb dX1_run_15 (by decide) ?_
    refine lv_icmp_lt (tgt := 22) hx hb dX1_run_17 (by decide) (fun c_3 => ?_) (fun c_3 => ?_)
    · refine lv_aload_n hx hb dX1_run_22 rfl (lv_at hl 1 rfl) ?_
      refine lv_iload hx hb dX1_run_23 (lv_at hl 0 rfl) ?_
      skip
      refine zw_Vv (As := [.int 30]) (rest := []) (wr := []) ⟨hx, hb, hml, hown, hts⟩ (c_F_M_note l D cI cJ cZ cP cS po mv mb (mr) (5) (mm) (mq) fb (30) hy0 (by omega) H.size) (cwV 1 hts gX1_run_X1_note rfl rfl rfl ⟨rfl, dh_X1_note⟩ ⟨Nat.le_of_ble_eq_true rfl, Nat.le_of_ble_eq_true rfl⟩) hK hN (hZ.kept hS) hP hD hS hA [0, 1] [] rfl rfl (by decide) (by decide) (by decide) (va_recv (q := (RX1, TX1, 5)) hK hP (ci := 1) (q0 := 0) rfl rfl) rfl hl.1 rfl (Nat.le_of_ble_eq_true rfl) dX1_run_25 ⟨Nat.le_of_ble_eq_true rfl, Nat.le_of_ble_eq_true rfl⟩ (fun u_5 H locs hr_4 hP hD hS => ?_)
      obtain ⟨q_6, q_7⟩ := u_5
      try dsimp only at hr_4
      obtain ⟨hbq_6, hsr_4_0, hr_4⟩ := hr_4
      have h9R := zRe (ws' := [(mv, .inr (1, [.ref mb, .int q_6, .int 5, .int mm, .int mq])), (mb, .inl (cI, 20, .inl q_7))]) hP hD rfl
      clear hP hD
      obtain ⟨hP, hD⟩ := h9R
      refine lv_iload hx hb dX1_run_28 (lv_at hl 5 rfl) ?_
      refine lv_iconst (v := 1) hx hb dX1_run_30 (by decide) ?_
      refine lv_iadd hx hb dX1_run_31 ?_
      refine lv_topi (fun y_8 ey_8 => ?_)
      obtain rfl : y_8 = 1 := ey_8.trans (by decide)
      refine lv_istore (lv' := [(6, .int 1), (5, .int 30), (0, .ref mv), (1, .int 5), (2, .int 1), (3, .int x), (4, .int 0)]) hx hb dX1_run_32 hl (by decide) rfl (fun ls hl => ?_)
      refine lv_iload hx hb dX1_run_34 (lv_at hl 1 rfl) ?_
      refine lv_lookup (off := 160) (tgt := 196) hx hb dX1_run_36 (by decide) (by decide) (by decide) ?_
      refine lv_aload_n hx hb dX1_run_196 rfl (lv_at hl 2 rfl) ?_
      refine lv_iconst (v := 0) hx hb dX1_run_197 (by decide) ?_
      refine lv_iconst (v := 1) hx hb dX1_run_198 (by decide) ?_
      refine lv_iload_n hx hb dX1_run_199 rfl (lv_at hl 5 rfl) ?_
      refine lv_iload hx hb dX1_run_200 (lv_at hl 0 rfl) ?_
      skip
      refine zw_V (As := [.int 0, .int 1, .int x, .int 1]) (rest := []) (wr := []) ⟨hx, hb, hml, hown, hts⟩ (c_F_M_run_5_0_1_1 l D cI cJ cZ cP cS po mv mb (q_6) (mm) (mq) q_7 (x) (by omega) (by omega) H.size) (cwV 4 hts gX1_run_X1_run rfl rfl rfl ⟨rfl, dh_X1_run⟩ ⟨Nat.le_of_ble_eq_true rfl, Nat.le_of_ble_eq_true rfl⟩) hK hN (hZ.kept hS) hP hD hS hA [0, 1] [] rfl rfl (by decide) (by decide) (by decide) (va_recv (q := (RX1, TX1, 5)) hK hP (ci := 1) (q0 := 0) rfl rfl) rfl hl.1 rfl (Nat.le_of_ble_eq_true rfl) dX1_run_202 ⟨Nat.le_of_ble_eq_true rfl, Nat.le_of_ble_eq_true rfl⟩ (fun r_9 u_10 H locs hr_9 hP hD hS => ?_)
      obtain ⟨q_11, q_12⟩ := u_10
      try dsimp only at hr_9
      obtain ⟨hbq_11, hsr_9_0, hsr_9_1, hr_9⟩ := hr_9
      have h9R := zRe (ws' := [(mv, .inr (1, [.ref mb, .int q_11, .int 5, .int mm, .int mq])), (mb, .inl (cI, 20, .inl q_12))]) hP hD rfl
      clear hP hD
      obtain ⟨hP, hD⟩ := h9R
      refine lv_iconst (v := 3) hx hb dX1_run_205 (by decide) ?_
      refine lv_imul hx hb dX1_run_206 ?_
      refine lv_topi (fun x_13 ex_13 => ?_)
      exact W.iret (v := x_13) hx hb hr (fun t ht hW => ⟨⟨x_13, (q_11, q_12), rfl, ⟨(show q_11.toInt = mr.toInt + 3 from by omega), (show (x_13 : Int32) = (((x + mm) * 2) * 3) from by ((try rw [ex_13]); (try rw [hsr_9_0]); (try rw [ex_13]); first | done | rfl)), (show q_12 = zTr fb mr.toInt [30, 11, 10] from by (rw [hsr_9_1]; rw [hsr_4_0]; rw [zTr_app (by (have q : (([30] : List Int32).length : Int) = 1 := rfl; omega))]; first | done | rfl)), trivial⟩, zRet ht hP hD [0, 1] (by decide) rfl⟩, hS.F ht⟩) hS.2.2 dX1_run_207
    · exact absurd c_3 (by decide)
set_option maxHeartbeats 4000000 in
set_option maxRecDepth 100000 in
theorem c_F_M_run_5_5_0_4 (l : Launch) (D : va_G) (cI cJ cZ cP cS : ClassId) (po : zPool) (mv mb : Nat) (mr mm mq : Int32) (fb : Nat → Int32) (x : Int32) (hy0 : 0 ≤ mr.toInt) (hy1 : mr.toInt ≤ 1400) (hpz : Nat) : Met l yX1_run wsX1_run ({ frames := 2, cells := 0, slots := 0, locals := 46 }) (va_Pc [.ref mv, .int 5, .int 0, .int x, .int 4] (zW D (zKT cI cJ cZ cP cS) po [(mv, .inr (1, [.ref mb, .int mr, .int 5, .int mm, .int mq])), (mb, .inl (cI, 20, .inl fb))] hpz)) (va_Qi (fun (r : Int32) (u : (Int32) × (Nat → Int32)) => u.1.toInt = mr.toInt + 1 ∧ (r = (x + mm)) ∧ (u.2 = zTr fb mr.toInt [10]) ∧ (True)) (zB D [(mv, .inr (1, [.ref mb, .int mr, .int 5, .int mm, .int mq])), (mb, .inl (cI, 20, .inl fb))] hpz (fun (u : (Int32) × (Nat → Int32)) => [(mv, .inr (1, [.ref mb, .int u.1, .int 5, .int mm, .int mq])), (mb, .inl (cI, 20, .inl u.2))])) (va_A [(mv, .inr (1, [.ref mb, .int mr, .int 5, .int mm, .int mq])), (mb, .inl (cI, 20, .inl fb))] hpz)) 0 0 (va_A [(mv, .inr (1, [.ref mb, .int mr, .int 5, .int mm, .int mq])), (mb, .inl (cI, 20, .inl fb))] hpz) := by
  refine Met.ofW (cc := cX1_run) (maxL := 7) (ret := (some .int)) (by decide) rfl ?_
  intro p e s m args below meth c s₁ B hml hv
  obtain ⟨rfl, hsz, hP, hK, hD0, hN, hZ⟩ := hv
  have hx := B.exec
  have hb := B.bytes
  have hr := B.returns
  have hts := atoms_spec (ws := wsX1_run) B.pre
  have hown : s.vm.findClass RX1 = some m.cls := findClass_of_methodNamed B.named
  have hlocks := B.notSynchronized
  subst hsz
  have hD := hD0.self (sz := s.heap.size)
  have hA := zA_of hD
  have hl := lv_entry ([.ref mv, .int 5, .int 0, .int x, .int 4]) (n := 7) (Nat.le_of_ble_eq_true rfl)
  rw [lg_entry_eq]
  generalize (lg_sl ([.ref mv, .int 5, .int 0, .int x, .int 4]) ++ List.replicate (7 - (lg_sl ([.ref mv, .int 5, .int 0, .int x, .int 4])).length) Slot.unset).toArray = ls at hl ⊢
  replace hl : lv_has ls 7 [(0, .ref mv), (1, .int 5), (2, .int 0), (3, .int x), (4, .int 4)] := hl
  refine zw_begin hP hD (fun H locs hP1 hS => ?_)
  clear hP
  have hP := hP1
  clear hP1
  refine lv_iload_n hx hb dX1_run_0 rfl (lv_at hl 1 rfl) ?_
  refine lv_iload_n hx hb dX1_run_1 rfl (lv_at hl 2 rfl) ?_
  refine zc_S (As := [.int 5, .int 0]) (rest := []) ⟨hx, hb, hml, hown, hts⟩ (c_M_bodyFor_5_0 l D cI cJ cZ cP cS po  ) (va_cwS 2 hts gX1_run_X1_bodyFor rfl rfl rfl dh_X1_bodyFor ⟨Nat.le_of_ble_eq_true rfl, Nat.le_of_ble_eq_true rfl⟩) hK hN (hZ.kept hS) rfl hl.1 rfl (Nat.le_of_ble_eq_true rfl) dX1_run_2 ⟨Nat.le_of_ble_eq_true rfl, Nat.le_of_ble_eq_true rfl⟩ (fun r_1 hr_1 => ?_)
  obtain rfl := hr_1
  refine lv_istore (lv' := [(5, .int 10), (0, .ref mv), (1, .int 5), (2, .int 0), (3, .int x), (4, .int 4)]) hx hb dX1_run_5 hl (by decide) rfl (fun ls hl => ?_)
  refine lv_iload hx hb dX1_run_7 (lv_at hl 0 rfl) ?_
  refine lv_iconst (v := (-1)) hx hb dX1_run_9 (by decide) ?_
  refine lv_icmp_eq (tgt := 20) hx hb dX1_run_10 (by decide) (fun c_2 => ?_) (fun c_2 => ?_)
  · exact absurd c_2 (by decide)
  · refine lv_iload hx hb dX1_run_13 (lv_at hl 5 rfl) ?_
    refine lv_bipush (v := 40) hx hb dX1_run_15 (by decide) ?_
    refine lv_icmp_lt (tgt := 22) hx hb dX1_run_17 (by decide) (fun c_3 => ?_) (fun c_3 => ?_)
    · refine lv_aload_n hx hb dX1_run_22 rfl (lv_at hl 1 rfl) ?_
      refine lv_iload hx hb dX1_run_23 (lv_at hl 0 rfl) ?_
      skip
      refine zw_Vv (As := [.int 10]) (rest := []) (wr := []) ⟨hx, hb, hml, hown, hts⟩ (c_F_M_note l D cI cJ cZ cP cS po mv mb (mr) (5) (mm) (mq) fb (10) hy0 (by omega) H.size) (cwV 1 hts gX1_run_X1_note rfl rfl rfl ⟨rfl, dh_X1_note⟩ ⟨Nat.le_of_ble_eq_true rfl, Nat.le_of_ble_eq_true rfl⟩) hK hN (hZ.kept hS) hP hD hS hA [0, 1] [] rfl rfl (by decide) (by decide) (by decide) (va_recv (q := (RX1, TX1, 5)) hK hP (ci := 1) (q0 := 0) rfl rfl) rfl hl.1 rfl (Nat.le_of_ble_eq_true rfl) dX1_run_25 ⟨Nat.le_of_ble_eq_true rfl, Nat.le_of_ble_eq_true rfl⟩ (fun u_5 H locs hr_4 hP hD hS => ?_)
      obtain ⟨q_6, q_7⟩ := u_5
      try dsimp only at hr_4
      obtain ⟨hbq_6, hsr_4_0, hr_4⟩ := hr_4
      have h9R := zRe (ws' := [(mv, .inr (1, [.ref mb, .int q_6, .int 5, .int mm, .int mq])), (mb, .inl (cI, 20, .inl q_7))]) hP hD rfl
      clear hP hD
      obtain ⟨hP, hD⟩ := h9R
      refine lv_iload hx hb dX1_run_28 (lv_at hl 5 rfl) ?_
      refine lv_iconst (v := 1) hx hb dX1_run_30 (by decide) ?_
      refine lv_iadd hx hb dX1_run_31 ?_
      refine lv_topi (fun y_8 ey_8 => ?_)
      obtain rfl : y_8 = 5 := ey_8.trans (by decide)
      refine lv_istore (lv' := [(6, .int 5), (5, .int 10), (0, .ref mv), (1, .int 5), (2, .int 0), (3, .int x), (4, .int 4)]) hx hb dX1_run_32 hl (by decide) rfl (fun ls hl => ?_)
      refine lv_iload hx hb dX1_run_34 (lv_at hl 1 rfl) ?_
      refine lv_lookup (off := 92) (tgt := 128) hx hb dX1_run_36 (by decide) (by decide) (by decide) ?_
      refine lv_iload_n hx hb dX1_run_128 rfl (lv_at hl 5 rfl) ?_
      refine lv_aload_n hx hb dX1_run_129 rfl (lv_at hl 2 rfl) ?_
      refine va_get (D := D) (ci := 1) (v := .int mm) (C := RX1) (T := TX1) (N := 5) hx hb hts hi_X1_run_1 hown hK hP 0 rfl rfl 3 (by decide) (hts (.fieldLink RX1 22 "TheLiningsInIt$Moves" "m" "I") (List.mem_of_getElem? (i := 1) rfl)) (fun _ h9 => h9) rfl dX1_run_130 ?_
      refine lv_iadd hx hb dX1_run_133 ?_
      refine lv_topi (fun x_9 ex_9 => ?_)
      exact W.iret (v := x_9) hx hb hr (fun t ht hW => ⟨⟨x_9, (q_6, q_7), rfl, ⟨(show q_6.toInt = mr.toInt + 1 from by omega), (show (x_9 : Int32) = (x + mm) from by ((try rw [ex_9]); (try rw [ex_9]); first | done | rfl)), (show q_7 = zTr fb mr.toInt [10] from by (rw [hsr_4_0]; first | done | rfl)), trivial⟩, zRet ht hP hD [0, 1] (by decide) rfl⟩, hS.F ht⟩) hS.2.2 dX1_run_134
    · exact absurd c_3 (by decide)
set_option maxHeartbeats 4000000 in
set_option maxRecDepth 100000 in
theorem c_F_M_run_5_0_1_3 (l : Launch) (D : va_G) (cI cJ cZ cP cS : ClassId) (po : zPool) (mv mb : Nat) (mr mm mq : Int32) (fb : Nat → Int32) (x : Int32) (hy0 : 0 ≤ mr.toInt) (hy1 : mr.toInt ≤ 1300) (hpz : Nat) : Met l yX1_run wsX1_run ({ frames := 3, cells := 0, slots := 0, locals := 72 }) (va_Pc [.ref mv, .int 0, .int 1, .int x, .int 3] (zW D (zKT cI cJ cZ cP cS) po [(mv, .inr (1, [.ref mb, .int mr, .int 5, .int mm, .int mq])), (mb, .inl (cI, 20, .inl fb))] hpz)) (va_Qi (fun (r : Int32) (u : (Int32) × (Nat → Int32)) => u.1.toInt = mr.toInt + 2 ∧ (r = ((x + mm) * 2)) ∧ (u.2 = zTr fb mr.toInt [11, 10]) ∧ (True)) (zB D [(mv, .inr (1, [.ref mb, .int mr, .int 5, .int mm, .int mq])), (mb, .inl (cI, 20, .inl fb))] hpz (fun (u : (Int32) × (Nat → Int32)) => [(mv, .inr (1, [.ref mb, .int u.1, .int 5, .int mm, .int mq])), (mb, .inl (cI, 20, .inl u.2))])) (va_A [(mv, .inr (1, [.ref mb, .int mr, .int 5, .int mm, .int mq])), (mb, .inl (cI, 20, .inl fb))] hpz)) 0 0 (va_A [(mv, .inr (1, [.ref mb, .int mr, .int 5, .int mm, .int mq])), (mb, .inl (cI, 20, .inl fb))] hpz) := by
  refine Met.ofW (cc := cX1_run) (maxL := 7) (ret := (some .int)) (by decide) rfl ?_
  intro p e s m args below meth c s₁ B hml hv
  obtain ⟨rfl, hsz, hP, hK, hD0, hN, hZ⟩ := hv
  have hx := B.exec
  have hb := B.bytes
  have hr := B.returns
  have hts := atoms_spec (ws := wsX1_run) B.pre
  have hown : s.vm.findClass RX1 = some m.cls := findClass_of_methodNamed B.named
  have hlocks := B.notSynchronized
  subst hsz
  have hD := hD0.self (sz := s.heap.size)
  have hA := zA_of hD
  have hl := lv_entry ([.ref mv, .int 0, .int 1, .int x, .int 3]) (n := 7) (Nat.le_of_ble_eq_true rfl)
  rw [lg_entry_eq]
  generalize (lg_sl ([.ref mv, .int 0, .int 1, .int x, .int 3]) ++ List.replicate (7 - (lg_sl ([.ref mv, .int 0, .int 1, .int x, .int 3])).length) Slot.unset).toArray = ls at hl ⊢
  replace hl : lv_has ls 7 [(0, .ref mv), (1, .int 0), (2, .int 1), (3, .int x), (4, .int 3)] := hl
  refine zw_begin hP hD (fun H locs hP1 hS => ?_)
  clear hP
  have hP := hP1
  clear hP1
  refine lv_iload_n hx hb dX1_run_0 rfl (lv_at hl 1 rfl) ?_
  refine lv_iload_n hx hb dX1_run_1 rfl (lv_at hl 2 rfl) ?_
  refine zc_S (As := [.int 0, .int 1]) (rest := []) ⟨hx, hb, hml, hown, hts⟩ (c_M_bodyFor_0_1 l D cI cJ cZ cP cS po  ) (va_cwS 2 hts gX1_run_X1_bodyFor rfl rfl rfl dh_X1_bodyFor ⟨Nat.le_of_ble_eq_true rfl, Nat.le_of_ble_eq_true rfl⟩) hK hN (hZ.kept hS) rfl hl.1 rfl (Nat.le_of_ble_eq_true rfl) dX1_run_2 ⟨Nat.le_of_ble_eq_true rfl, Nat.le_of_ble_eq_true rfl⟩ (fun r_1 hr_1 => ?_)
  obtain rfl := hr_1
  refine lv_istore (lv' := [(5, .int 11), (0, .ref mv), (1, .int 0), (2, .int 1), (3, .int x), (4, .int 3)]) hx hb dX1_run_5 hl (by decide) rfl (fun ls hl => ?_)
  refine lv_iload hx hb dX1_run_7 (lv_at hl 0 rfl) ?_
  refine lv_iconst (v := (-1)) hx hb dX1_run_9 (by decide) ?_
  refine lv_icmp_eq (tgt := 20) hx hb dX1_run_10 (by decide) (fun c_2 => ?_) (fun c_2 => ?_)
  · exact absurd c_2 (by decide)
  · refine lv_iload hx hb dX1_run_13 (lv_at hl 5 rfl) ?_
    refine lv_bipush (v := 40) hx hb dX1_run_15 (by decide) ?_
    refine lv_icmp_lt (tgt := 22) hx hb dX1_run_17 (by decide) (fun c_3 => ?_) (fun c_3 => ?_)
    · refine lv_aload_n hx hb dX1_run_22 rfl (lv_at hl 1 rfl) ?_
      refine lv_iload hx hb dX1_run_23 (lv_at hl 0 rfl) ?_
      skip
      refine zw_Vv (As := [.int 11]) (rest := []) (wr := []) ⟨hx, hb, hml, hown, hts⟩ (c_F_M_note l D cI cJ cZ cP cS po mv mb (mr) (5) (mm) (mq) fb (11) hy0 (by omega) H.size) (cwV 1 hts gX1_run_X1_note rfl rfl rfl ⟨rfl, dh_X1_note⟩ ⟨Nat.le_of_ble_eq_true rfl, Nat.le_of_ble_eq_true rfl⟩) hK hN (hZ.kept hS) hP hD hS hA [0, 1] [] rfl rfl (by decide) (by decide) (by decide) (va_recv (q := (RX1, TX1, 5)) hK hP (ci := 1) (q0 := 0) rfl rfl) rfl hl.1 rfl (Nat.le_of_ble_eq_true rfl) dX1_run_25 ⟨Nat.le_of_ble_eq_true rfl, Nat.le_of_ble_eq_true rfl⟩ (fun u_5 H locs hr_4 hP hD hS => ?_)
      obtain ⟨q_6, q_7⟩ := u_5
      try dsimp only at hr_4
      obtain ⟨hbq_6, hsr_4_0, hr_4⟩ := hr_4
      have h9R := zRe (ws' := [(mv, .inr (1, [.ref mb, .int q_6, .int 5, .int mm, .int mq])), (mb, .inl (cI, 20, .inl q_7))]) hP hD rfl
      clear hP hD
      obtain ⟨hP, hD⟩ := h9R
      refine lv_iload hx hb dX1_run_28 (lv_at hl 5 rfl) ?_
      refine lv_iconst (v := 1) hx hb dX1_run_30 (by decide) ?_
      refine lv_iadd hx hb dX1_run_31 ?_
      refine lv_topi (fun y_8 ey_8 => ?_)
      obtain rfl : y_8 = 4 := ey_8.trans (by decide)
      refine lv_istore (lv' := [(6, .int 4), (5, .int 11), (0, .ref mv), (1, .int 0), (2, .int 1), (3, .int x), (4, .int 3)]) hx hb dX1_run_32 hl (by decide) rfl (fun ls hl => ?_)
      refine lv_iload hx hb dX1_run_34 (lv_at hl 1 rfl) ?_
      refine lv_lookup (off := 99) (tgt := 135) hx hb dX1_run_36 (by decide) (by decide) (by decide) ?_
      refine lv_aload_n hx hb dX1_run_135 rfl (lv_at hl 2 rfl) ?_
      refine lv_aload_n hx hb dX1_run_136 rfl (lv_at hl 2 rfl) ?_
      refine va_get (D := D) (ci := 1) (v := .int 5) (C := RX1) (T := TX1) (N := 5) hx hb hts hi_X1_run_1 hown hK hP 0 rfl rfl 2 (by decide) (hts (.fieldLink RX1 19 "TheLiningsInIt$Moves" "kind" "I") (List.mem_of_getElem? (i := 2) rfl)) (fun _ h9 => h9) rfl dX1_run_137 ?_
      refine lv_iconst (v := 0) hx hb dX1_run_140 (by decide) ?_
      refine lv_iload_n hx hb dX1_run_141 rfl (lv_at hl 5 rfl) ?_
      refine lv_iload hx hb dX1_run_142 (lv_at hl 0 rfl) ?_
      skip
      refine zw_V (As := [.int 5, .int 0, .int x, .int 4]) (rest := []) (wr := []) ⟨hx, hb, hml, hown, hts⟩ (c_F_M_run_5_5_0_4 l D cI cJ cZ cP cS po mv mb (q_6) (mm) (mq) q_7 (x) (by omega) (by omega) H.size) (cwV 4 hts gX1_run_X1_run rfl rfl rfl ⟨rfl, dh_X1_run⟩ ⟨Nat.le_of_ble_eq_true rfl, Nat.le_of_ble_eq_true rfl⟩) hK hN (hZ.kept hS) hP hD hS hA [0, 1] [] rfl rfl (by decide) (by decide) (by decide) (va_recv (q := (RX1, TX1, 5)) hK hP (ci := 1) (q0 := 0) rfl rfl) rfl hl.1 rfl (Nat.le_of_ble_eq_true rfl) dX1_run_144 ⟨Nat.le_of_ble_eq_true rfl, Nat.le_of_ble_eq_true rfl⟩ (fun r_9 u_10 H locs hr_9 hP hD hS => ?_)
      obtain ⟨q_11, q_12⟩ := u_10
      try dsimp only at hr_9
      obtain ⟨hbq_11, hsr_9_0, hsr_9_1, hr_9⟩ := hr_9
      have h9R := zRe (ws' := [(mv, .inr (1, [.ref mb, .int q_11, .int 5, .int mm, .int mq])), (mb, .inl (cI, 20, .inl q_12))]) hP hD rfl
      clear hP hD
      obtain ⟨hP, hD⟩ := h9R
      refine lv_iconst (v := 2) hx hb dX1_run_147 (by decide) ?_
      refine lv_imul hx hb dX1_run_148 ?_
      refine lv_topi (fun x_13 ex_13 => ?_)
      exact W.iret (v := x_13) hx hb hr (fun t ht hW => ⟨⟨x_13, (q_11, q_12), rfl, ⟨(show q_11.toInt = mr.toInt + 2 from by omega), (show (x_13 : Int32) = ((x + mm) * 2) from by ((try rw [ex_13]); (try rw [hsr_9_0]); (try rw [ex_13]); first | done | rfl)), (show q_12 = zTr fb mr.toInt [11, 10] from by (rw [hsr_9_1]; rw [hsr_4_0]; rw [zTr_app (by (have q : (([11] : List Int32).length : Int) = 1 := rfl; omega))]; first | done | rfl)), trivial⟩, zRet ht hP hD [0, 1] (by decide) rfl⟩, hS.F ht⟩) hS.2.2 dX1_run_149
    · exact absurd c_3 (by decide)
set_option maxHeartbeats 4000000 in
set_option maxRecDepth 100000 in
theorem c_F_M_run_5_5_1_2 (l : Launch) (D : va_G) (cI cJ cZ cP cS : ClassId) (po : zPool) (mv mb : Nat) (mr mm mq : Int32) (fb : Nat → Int32) (x : Int32) (hy0 : 0 ≤ mr.toInt) (hy1 : mr.toInt ≤ 1200) (hpz : Nat) : Met l yX1_run wsX1_run ({ frames := 4, cells := 0, slots := 0, locals := 98 }) (va_Pc [.ref mv, .int 5, .int 1, .int x, .int 2] (zW D (zKT cI cJ cZ cP cS) po [(mv, .inr (1, [.ref mb, .int mr, .int 5, .int mm, .int mq])), (mb, .inl (cI, 20, .inl fb))] hpz)) (va_Qi (fun (r : Int32) (u : (Int32) × (Nat → Int32)) => u.1.toInt = mr.toInt + 3 ∧ (r = (((x + mm) * 2) * 3)) ∧ (u.2 = zTr fb mr.toInt [30, 11, 10]) ∧ (True)) (zB D [(mv, .inr (1, [.ref mb, .int mr, .int 5, .int mm, .int mq])), (mb, .inl (cI, 20, .inl fb))] hpz (fun (u : (Int32) × (Nat → Int32)) => [(mv, .inr (1, [.ref mb, .int u.1, .int 5, .int mm, .int mq])), (mb, .inl (cI, 20, .inl u.2))])) (va_A [(mv, .inr (1, [.ref mb, .int mr, .int 5, .int mm, .int mq])), (mb, .inl (cI, 20, .inl fb))] hpz)) 0 0 (va_A [(mv, .inr (1, [.ref mb, .int mr, .int 5, .int mm, .int mq])), (mb, .inl (cI, 20, .inl fb))] hpz) := by
  refine Met.ofW (cc := cX1_run) (maxL := 7) (ret := (some .int)) (by decide) rfl ?_
  intro p e s m args below meth c s₁ B hml hv
  obtain ⟨rfl, hsz, hP, hK, hD0, hN, hZ⟩ := hv
  have hx := B.exec
  have hb := B.bytes
  have hr := B.returns
  have hts := atoms_spec (ws := wsX1_run) B.pre
  have hown : s.vm.findClass RX1 = some m.cls := findClass_of_methodNamed B.named
  have hlocks := B.notSynchronized
  subst hsz
  have hD := hD0.self (sz := s.heap.size)
  have hA := zA_of hD
  have hl := lv_entry ([.ref mv, .int 5, .int 1, .int x, .int 2]) (n := 7) (Nat.le_of_ble_eq_true rfl)
  rw [lg_entry_eq]
  generalize (lg_sl ([.ref mv, .int 5, .int 1, .int x, .int 2]) ++ List.replicate (7 - (lg_sl ([.ref mv, .int 5, .int 1, .int x, .int 2])).length) Slot.unset).toArray = ls at hl ⊢
  replace hl : lv_has ls 7 [(0, .ref mv), (1, .int 5), (2, .int 1), (3, .int x), (4, .int 2)] := hl
  refine zw_begin hP hD (fun H locs hP1 hS => ?_)
  clear hP
  have hP := hP1
  clear hP1
  refine lv_iload_n hx hb dX1_run_0 rfl (lv_at hl 1 rfl) ?_
  refine lv_iload_n hx hb dX1_run_1 rfl (lv_at hl 2 rfl) ?_
  refine zc_S (As := [.int 5, .int 1]) (rest := []) ⟨hx, hb, hml, hown, hts⟩ (c_M_bodyFor_5_1 l D cI cJ cZ cP cS po  ) (va_cwS 2 hts gX1_run_X1_bodyFor rfl rfl rfl dh_X1_bodyFor ⟨Nat.le_of_ble_eq_true rfl, Nat.le_of_ble_eq_true rfl⟩) hK hN (hZ.kept hS) rfl hl.1 rfl (Nat.le_of_ble_eq_true rfl) dX1_run_2 ⟨Nat.le_of_ble_eq_true rfl, Nat.le_of_ble_eq_true rfl⟩ (fun r_1 hr_1 => ?_)
  obtain rfl := hr_1
  refine lv_istore (lv' := [(5, .int 30), (0, .ref mv), (1, .int 5), (2, .int 1), (3, .int x), (4, .int 2)]) hx hb dX1_run_5 hl (by decide) rfl (fun ls hl => ?_)
  refine lv_iload hx hb dX1_run_7 (lv_at hl 0 rfl) ?_
  refine lv_iconst (v := (-1)) hx hb dX1_run_9 (by decide) ?_
  refine lv_icmp_eq (tgt := 20) hx hb dX1_run_10 (by decide) (fun c_2 => ?_) (fun c_2 => ?_)
  · exact absurd c_2 (by decide)
  · refine lv_iload hx hb dX1_run_13 (lv_at hl 5 rfl) ?_
    refine lv_bipush (v := 40) hx hb dX1_run_15 (by decide) ?_
    refine lv_icmp_lt (tgt := 22) hx hb dX1_run_17 (by decide) (fun c_3 => ?_) (fun c_3 => ?_)
    · refine lv_aload_n hx hb dX1_run_22 rfl (lv_at hl 1 rfl) ?_
      refine lv_iload hx hb dX1_run_23 (lv_at hl 0 rfl) ?_
      skip
      refine zw_Vv (As := [.int 30]) (rest := []) (wr := []) ⟨hx, hb, hml, hown, hts⟩ (c_F_M_note l D cI cJ cZ cP cS po mv mb (mr) (5) (mm) (mq) fb (30) hy0 (by omega) H.size) (cwV 1 hts gX1_run_X1_note rfl rfl rfl ⟨rfl, dh_X1_note⟩ ⟨Nat.le_of_ble_eq_true rfl, Nat.le_of_ble_eq_true rfl⟩) hK hN (hZ.kept hS) hP hD hS hA [0, 1] [] rfl rfl (by decide) (by decide) (by decide) (va_recv (q := (RX1, TX1, 5)) hK hP (ci := 1) (q0 := 0) rfl rfl) rfl hl.1 rfl (Nat.le_of_ble_eq_true rfl) dX1_run_25 ⟨Nat.le_of_ble_eq_true rfl, Nat.le_of_ble_eq_true rfl⟩ (fun u_5 H locs hr_4 hP hD hS => ?_)
      obtain ⟨q_6, q_7⟩ := u_5
      try dsimp only at hr_4
      obtain ⟨hbq_6, hsr_4_0, hr_4⟩ := hr_4
      have h9R := zRe (ws' := [(mv, .inr (1, [.ref mb, .int q_6, .int 5, .int mm, .int mq])), (mb, .inl (cI, 20, .inl q_7))]) hP hD rfl
      clear hP hD
      obtain ⟨hP, hD⟩ := h9R
      refine lv_iload hx hb dX1_run_28 (lv_at hl 5 rfl) ?_
      refine lv_iconst (v := 1) hx hb dX1_run_30 (by decide) ?_
      refine lv_iadd hx hb dX1_run_31 ?_
      refine lv_topi (fun y_8 ey_8 => ?_)
      obtain rfl : y_8 = 3 := ey_8.trans (by decide)
      refine lv_istore (lv' := [(6, .int 3), (5, .int 30), (0, .ref mv), (1, .int 5), (2, .int 1), (3, .int x), (4, .int 2)]) hx hb dX1_run_32 hl (by decide) rfl (fun ls hl => ?_)
      refine lv_iload hx hb dX1_run_34 (lv_at hl 1 rfl) ?_
      refine lv_lookup (off := 160) (tgt := 196) hx hb dX1_run_36 (by decide) (by decide) (by decide) ?_
      refine lv_aload_n hx hb dX1_run_196 rfl (lv_at hl 2 rfl) ?_
      refine lv_iconst (v := 0) hx hb dX1_run_197 (by decide) ?_
      refine lv_iconst (v := 1) hx hb dX1_run_198 (by decide) ?_
      refine lv_iload_n hx hb dX1_run_199 rfl (lv_at hl 5 rfl) ?_
      refine lv_iload hx hb dX1_run_200 (lv_at hl 0 rfl) ?_
      skip
      refine zw_V (As := [.int 0, .int 1, .int x, .int 3]) (rest := []) (wr := []) ⟨hx, hb, hml, hown, hts⟩ (c_F_M_run_5_0_1_3 l D cI cJ cZ cP cS po mv mb (q_6) (mm) (mq) q_7 (x) (by omega) (by omega) H.size) (cwV 4 hts gX1_run_X1_run rfl rfl rfl ⟨rfl, dh_X1_run⟩ ⟨Nat.le_of_ble_eq_true rfl, Nat.le_of_ble_eq_true rfl⟩) hK hN (hZ.kept hS) hP hD hS hA [0, 1] [] rfl rfl (by decide) (by decide) (by decide) (va_recv (q := (RX1, TX1, 5)) hK hP (ci := 1) (q0 := 0) rfl rfl) rfl hl.1 rfl (Nat.le_of_ble_eq_true rfl) dX1_run_202 ⟨Nat.le_of_ble_eq_true rfl, Nat.le_of_ble_eq_true rfl⟩ (fun r_9 u_10 H locs hr_9 hP hD hS => ?_)
      obtain ⟨q_11, q_12⟩ := u_10
      try dsimp only at hr_9
      obtain ⟨hbq_11, hsr_9_0, hsr_9_1, hr_9⟩ := hr_9
      have h9R := zRe (ws' := [(mv, .inr (1, [.ref mb, .int q_11, .int 5, .int mm, .int mq])), (mb, .inl (cI, 20, .inl q_12))]) hP hD rfl
      clear hP hD
      obtain ⟨hP, hD⟩ := h9R
      refine lv_iconst (v := 3) hx hb dX1_run_205 (by decide) ?_
      refine lv_imul hx hb dX1_run_206 ?_
      refine lv_topi (fun x_13 ex_13 => ?_)
      exact W.iret (v := x_13) hx hb hr (fun t ht hW => ⟨⟨x_13, (q_11, q_12), rfl, ⟨(show q_11.toInt = mr.toInt + 3 from by omega), (show (x_13 : Int32) = (((x + mm) * 2) * 3) from by ((try rw [ex_13]); (try rw [hsr_9_0]); (try rw [ex_13]); first | done | rfl)), (show q_12 = zTr fb mr.toInt [30, 11, 10] from by (rw [hsr_9_1]; rw [hsr_4_0]; rw [zTr_app (by (have q : (([30] : List Int32).length : Int) = 1 := rfl; omega))]; first | done | rfl)), trivial⟩, zRet ht hP hD [0, 1] (by decide) rfl⟩, hS.F ht⟩) hS.2.2 dX1_run_207
    · exact absurd c_3 (by decide)
set_option maxHeartbeats 4000000 in
set_option maxRecDepth 100000 in
theorem c_F_M_run_5_2_2_1 (l : Launch) (D : va_G) (cI cJ cZ cP cS : ClassId) (po : zPool) (mv mb : Nat) (mr mm mq : Int32) (fb : Nat → Int32) (x : Int32) (hy0 : 0 ≤ mr.toInt) (hy1 : mr.toInt ≤ 1100) (hpz : Nat) : Met l yX1_run wsX1_run ({ frames := 5, cells := 0, slots := 0, locals := 124 }) (va_Pc [.ref mv, .int 2, .int 2, .int x, .int 1] (zW D (zKT cI cJ cZ cP cS) po [(mv, .inr (1, [.ref mb, .int mr, .int 5, .int mm, .int mq])), (mb, .inl (cI, 20, .inl fb))] hpz)) (va_Qi (fun (r : Int32) (u : (Int32) × (Nat → Int32)) => u.1.toInt = mr.toInt + 5 ∧ (r = ((((x + mm) * 2) * 3) ^^^ ((x - mq) + mm))) ∧ (u.2 = zTr fb mr.toInt [12, 30, 11, 10, 10]) ∧ (True)) (zB D [(mv, .inr (1, [.ref mb, .int mr, .int 5, .int mm, .int mq])), (mb, .inl (cI, 20, .inl fb))] hpz (fun (u : (Int32) × (Nat → Int32)) => [(mv, .inr (1, [.ref mb, .int u.1, .int 5, .int mm, .int mq])), (mb, .inl (cI, 20, .inl u.2))])) (va_A [(mv, .inr (1, [.ref mb, .int mr, .int 5, .int mm, .int mq])), (mb, .inl (cI, 20, .inl fb))] hpz)) 0 0 (va_A [(mv, .inr (1, [.ref mb, .int mr, .int 5, .int mm, .int mq])), (mb, .inl (cI, 20, .inl fb))] hpz) := by
  refine Met.ofW (cc := cX1_run) (maxL := 7) (ret := (some .int)) (by decide) rfl ?_
  intro p e s m args below meth c s₁ B hml hv
  obtain ⟨rfl, hsz, hP, hK, hD0, hN, hZ⟩ := hv
  have hx := B.exec
  have hb := B.bytes
  have hr := B.returns
  have hts := atoms_spec (ws := wsX1_run) B.pre
  have hown : s.vm.findClass RX1 = some m.cls := findClass_of_methodNamed B.named
  have hlocks := B.notSynchronized
  subst hsz
  have hD := hD0.self (sz := s.heap.size)
  have hA := zA_of hD
  have hl := lv_entry ([.ref mv, .int 2, .int 2, .int x, .int 1]) (n := 7) (Nat.le_of_ble_eq_true rfl)
  rw [lg_entry_eq]
  generalize (lg_sl ([.ref mv, .int 2, .int 2, .int x, .int 1]) ++ List.replicate (7 - (lg_sl ([.ref mv, .int 2, .int 2, .int x, .int 1])).length) Slot.unset).toArray = ls at hl ⊢
  replace hl : lv_has ls 7 [(0, .ref mv), (1, .int 2), (2, .int 2), (3, .int x), (4, .int 1)] := hl
  refine zw_begin hP hD (fun H locs hP1 hS => ?_)
  clear hP
  have hP := hP1
  clear hP1
  refine lv_iload_n hx hb dX1_run_0 rfl (lv_at hl 1 rfl) ?_
  refine lv_iload_n hx hb dX1_run_1 rfl (lv_at hl 2 rfl) ?_
  refine zc_S (As := [.int 2, .int 2]) (rest := []) ⟨hx, hb, hml, hown, hts⟩ (c_M_bodyFor_2_2 l D cI cJ cZ cP cS po  ) (va_cwS 2 hts gX1_run_X1_bodyFor rfl rfl rfl dh_X1_bodyFor ⟨Nat.le_of_ble_eq_true rfl, Nat.le_of_ble_eq_true rfl⟩) hK hN (hZ.kept hS) rfl hl.1 rfl (Nat.le_of_ble_eq_true rfl) dX1_run_2 ⟨Nat.le_of_ble_eq_true rfl, Nat.le_of_ble_eq_true rfl⟩ (fun r_1 hr_1 => ?_)
  obtain rfl := hr_1
  refine lv_istore (lv' := [(5, .int 12), (0, .ref mv), (1, .int 2), (2, .int 2), (3, .int x), (4, .int 1)]) hx hb dX1_run_5 hl (by decide) rfl (fun ls hl => ?_)
  refine lv_iload hx hb dX1_run_7 (lv_at hl 0 rfl) ?_
  refine lv_iconst (v := (-1)) hx hb dX1_run_9 (by decide) ?_
  refine lv_icmp_eq (tgt := 20) hx hb dX1_run_10 (by decide) (fun c_2 => ?_) (fun c_2 => ?_)
  · exact absurd c_2 (by decide)
  · refine lv_iload hx hb dX1_run_13 (lv_at hl 5 rfl) ?_
    refine lv_bipush (v := 40) hx hb dX1_run_15 (by decide) ?_
    refine lv_icmp_lt (tgt := 22) hx hb dX1_run_17 (by decide) (fun c_3 => ?_) (fun c_3 => ?_)
    · refine lv_aload_n hx hb dX1_run_22 rfl (lv_at hl 1 rfl) ?_
      refine lv_iload hx hb dX1_run_23 (lv_at hl 0 rfl) ?_
      skip
      refine zw_Vv (As := [.int 12]) (rest := []) (wr := []) ⟨hx, hb, hml, hown, hts⟩ (c_F_M_note l D cI cJ cZ cP cS po mv mb (mr) (5) (mm) (mq) fb (12) hy0 (by omega) H.size) (cwV 1 hts gX1_run_X1_note rfl rfl rfl ⟨rfl, dh_X1_note⟩ ⟨Nat.le_of_ble_eq_true rfl, Nat.le_of_ble_eq_true rfl⟩) hK hN (hZ.kept hS) hP hD hS hA [0, 1] [] rfl rfl (by decide) (by decide) (by decide) (va_recv (q := (RX1, TX1, 5)) hK hP (ci := 1) (q0 := 0) rfl rfl) rfl hl.1 rfl (Nat.le_of_ble_eq_true rfl) dX1_run_25 ⟨Nat.le_of_ble_eq_true rfl, Nat.le_of_ble_eq_true rfl⟩ (fun u_5 H locs hr_4 hP hD hS => ?_)
      obtain ⟨q_6, q_7⟩ := u_5
      try dsimp only at hr_4
      obtain ⟨hbq_6, hsr_4_0, hr_4⟩ := hr_4
      have h9R := zRe (ws' := [(mv, .inr (1, [.ref mb, .int q_6, .int 5, .int mm, .int mq])), (mb, .inl (cI, 20, .inl q_7))]) hP hD rfl
      clear hP hD
      obtain ⟨hP, hD⟩ := h9R
      refine lv_iload hx hb dX1_run_28 (lv_at hl 5 rfl) ?_
      refine lv_iconst (v := 1) hx hb dX1_run_30 (by decide) ?_
      refine lv_iadd hx hb dX1_run_31 ?_
      refine lv_topi (fun y_8 ey_8 => ?_)
      obtain rfl : y_8 = 2 := ey_8.trans (by decide)
      refine lv_istore (lv' := [(6, .int 2), (5, .int 12), (0, .ref mv), (1, .int 2), (2, .int 2), (3, .int x), (4, .int 1)]) hx hb dX1_run_32 hl (by decide) rfl (fun ls hl => ?_)
      refine lv_iload hx hb dX1_run_34 (lv_at hl 1 rfl) ?_
      refine lv_lookup (off := 114) (tgt := 150) hx hb dX1_run_36 (by decide) (by decide) (by decide) ?_
      refine lv_aload_n hx hb dX1_run_150 rfl (lv_at hl 2 rfl) ?_
      refine lv_aload_n hx hb dX1_run_151 rfl (lv_at hl 2 rfl) ?_
      refine va_get (D := D) (ci := 1) (v := .int 5) (C := RX1) (T := TX1) (N := 5) hx hb hts hi_X1_run_1 hown hK hP 0 rfl rfl 2 (by decide) (hts (.fieldLink RX1 19 "TheLiningsInIt$Moves" "kind" "I") (List.mem_of_getElem? (i := 2) rfl)) (fun _ h9 => h9) rfl dX1_run_152 ?_
      refine lv_iconst (v := 1) hx hb dX1_run_155 (by decide) ?_
      refine lv_iload_n hx hb dX1_run_156 rfl (lv_at hl 5 rfl) ?_
      refine lv_iload hx hb dX1_run_157 (lv_at hl 0 rfl) ?_
      skip
      refine zw_V (As := [.int 5, .int 1, .int x, .int 2]) (rest := []) (wr := []) ⟨hx, hb, hml, hown, hts⟩ (c_F_M_run_5_5_1_2 l D cI cJ cZ cP cS po mv mb (q_6) (mm) (mq) q_7 (x) (by omega) (by omega) H.size) (cwV 4 hts gX1_run_X1_run rfl rfl rfl ⟨rfl, dh_X1_run⟩ ⟨Nat.le_of_ble_eq_true rfl, Nat.le_of_ble_eq_true rfl⟩) hK hN (hZ.kept hS) hP hD hS hA [0, 1] [] rfl rfl (by decide) (by decide) (by decide) (va_recv (q := (RX1, TX1, 5)) hK hP (ci := 1) (q0 := 0) rfl rfl) rfl hl.1 rfl (Nat.le_of_ble_eq_true rfl) dX1_run_159 ⟨Nat.le_of_ble_eq_true rfl, Nat.le_of_ble_eq_true rfl⟩ (fun r_9 u_10 H locs hr_9 hP hD hS => ?_)
      obtain ⟨q_11, q_12⟩ := u_10
      try dsimp only at hr_9
      obtain ⟨hbq_11, hsr_9_0, hsr_9_1, hr_9⟩ := hr_9
      have h9R := zRe (ws' := [(mv, .inr (1, [.ref mb, .int q_11, .int 5, .int mm, .int mq])), (mb, .inl (cI, 20, .inl q_12))]) hP hD rfl
      clear hP hD
      obtain ⟨hP, hD⟩ := h9R
      refine lv_aload_n hx hb dX1_run_162 rfl (lv_at hl 2 rfl) ?_
      refine lv_aload_n hx hb dX1_run_163 rfl (lv_at hl 2 rfl) ?_
      refine va_get (D := D) (ci := 1) (v := .int 5) (C := RX1) (T := TX1) (N := 5) hx hb hts hi_X1_run_1 hown hK hP 0 rfl rfl 2 (by decide) (hts (.fieldLink RX1 19 "TheLiningsInIt$Moves" "kind" "I") (List.mem_of_getElem? (i := 2) rfl)) (fun _ h9 => h9) rfl dX1_run_164 ?_
      refine lv_iconst (v := 0) hx hb dX1_run_167 (by decide) ?_
      refine lv_iload_n hx hb dX1_run_168 rfl (lv_at hl 5 rfl) ?_
      refine lv_aload_n hx hb dX1_run_169 rfl (lv_at hl 2 rfl) ?_
      refine va_get (D := D) (ci := 1) (v := .int mq) (C := RX1) (T := TX1) (N := 5) hx hb hts hi_X1_run_1 hown hK hP 0 rfl rfl 4 (by decide) (hts (.fieldLink RX1 25 "TheLiningsInIt$Moves" "k" "I") (List.mem_of_getElem? (i := 3) rfl)) (fun _ h9 => h9) rfl dX1_run_170 ?_
      refine lv_isub hx hb dX1_run_173 ?_
      refine lv_topi (fun x_13 ex_13 => ?_)
      refine lv_iload hx hb dX1_run_174 (lv_at hl 0 rfl) ?_
      skip
      refine zw_V (As := [.int 5, .int 0, .int x_13, .int 2]) (rest := [.int r_9]) (wr := []) ⟨hx, hb, hml, hown, hts⟩ (c_F_M_run_5_5_0_2 l D cI cJ cZ cP cS po mv mb (q_11) (mm) (mq) q_12 (x_13) (by omega) (by omega) H.size) (cwV 4 hts gX1_run_X1_run rfl rfl rfl ⟨rfl, dh_X1_run⟩ ⟨Nat.le_of_ble_eq_true rfl, Nat.le_of_ble_eq_true rfl⟩) hK hN (hZ.kept hS) hP hD hS hA [0, 1] [] rfl rfl (by decide) (by decide) (by decide) (va_recv (q := (RX1, TX1, 5)) hK hP (ci := 1) (q0 := 0) rfl rfl) rfl hl.1 rfl (Nat.le_of_ble_eq_true rfl) dX1_run_176 ⟨Nat.le_of_ble_eq_true rfl, Nat.le_of_ble_eq_true rfl⟩ (fun r_14 u_15 H locs hr_14 hP hD hS => ?_)
      obtain ⟨q_16, q_17⟩ := u_15
      try dsimp only at hr_14
      obtain ⟨hbq_16, hsr_14_0, hsr_14_1, hr_14⟩ := hr_14
      have h9R := zRe (ws' := [(mv, .inr (1, [.ref mb, .int q_16, .int 5, .int mm, .int mq])), (mb, .inl (cI, 20, .inl q_17))]) hP hD rfl
      clear hP hD
      obtain ⟨hP, hD⟩ := h9R
      refine lv_ixor hx hb dX1_run_179 ?_
      refine lv_topi (fun x_18 ex_18 => ?_)
      exact W.iret (v := x_18) hx hb hr (fun t ht hW => ⟨⟨x_18, (q_16, q_17), rfl, ⟨(show q_16.toInt = mr.toInt + 5 from by omega), (show (x_18 : Int32) = ((((x + mm) * 2) * 3) ^^^ ((x - mq) + mm)) from by ((try rw [ex_18]); (try rw [ex_13]); (try rw [hsr_9_0]); (try rw [hsr_14_0]); (try rw [ex_18]); (try rw [ex_13]); first | done | rfl)), (show q_17 = zTr fb mr.toInt [12, 30, 11, 10, 10] from by (rw [hsr_14_1]; rw [hsr_9_1]; rw [hsr_4_0]; rw [zTr_app (by (have q : (([30, 11, 10] : List Int32).length : Int) = 3 := rfl; omega))]; rw [zTr_app (by (have q : (([12] : List Int32).length : Int) = 1 := rfl; omega))]; first | done | rfl)), trivial⟩, zRet ht hP hD [0, 1] (by decide) rfl⟩, hS.F ht⟩) hS.2.2 dX1_run_180
    · exact absurd c_3 (by decide)
set_option maxHeartbeats 4000000 in
set_option maxRecDepth 100000 in
theorem c_F_M_run_5_5_2_0 (l : Launch) (D : va_G) (cI cJ cZ cP cS : ClassId) (po : zPool) (mv mb : Nat) (mr mm mq : Int32) (fb : Nat → Int32) (x : Int32) (hy0 : 0 ≤ mr.toInt) (hy1 : mr.toInt ≤ 1000) (hpz : Nat) : Met l yX1_run wsX1_run ({ frames := 6, cells := 0, slots := 0, locals := 150 }) (va_Pc [.ref mv, .int 5, .int 2, .int x, .int 0] (zW D (zKT cI cJ cZ cP cS) po [(mv, .inr (1, [.ref mb, .int mr, .int 5, .int mm, .int mq])), (mb, .inl (cI, 20, .inl fb))] hpz)) (va_Qi (fun (r : Int32) (u : (Int32) × (Nat → Int32)) => u.1.toInt = mr.toInt + 6 ∧ (r = (((((x + mm) * 2) * 3) ^^^ ((x - mq) + mm)) ^^^ 5)) ∧ (u.2 = zTr fb mr.toInt [60, 12, 30, 11, 10, 10]) ∧ (True)) (zB D [(mv, .inr (1, [.ref mb, .int mr, .int 5, .int mm, .int mq])), (mb, .inl (cI, 20, .inl fb))] hpz (fun (u : (Int32) × (Nat → Int32)) => [(mv, .inr (1, [.ref mb, .int u.1, .int 5, .int mm, .int mq])), (mb, .inl (cI, 20, .inl u.2))])) (va_A [(mv, .inr (1, [.ref mb, .int mr, .int 5, .int mm, .int mq])), (mb, .inl (cI, 20, .inl fb))] hpz)) 0 0 (va_A [(mv, .inr (1, [.ref mb, .int mr, .int 5, .int mm, .int mq])), (mb, .inl (cI, 20, .inl fb))] hpz) := by
  refine Met.ofW (cc := cX1_run) (maxL := 7) (ret := (some .int)) (by decide) rfl ?_
  intro p e s m args below meth c s₁ B hml hv
  obtain ⟨rfl, hsz, hP, hK, hD0, hN, hZ⟩ := hv
  have hx := B.exec
  have hb := B.bytes
  have hr := B.returns
  have hts := atoms_spec (ws := wsX1_run) B.pre
  have hown : s.vm.findClass RX1 = some m.cls := findClass_of_methodNamed B.named
  have hlocks := B.notSynchronized
  subst hsz
  have hD := hD0.self (sz := s.heap.size)
  have hA := zA_of hD
  have hl := lv_entry ([.ref mv, .int 5, .int 2, .int x, .int 0]) (n := 7) (Nat.le_of_ble_eq_true rfl)
  rw [lg_entry_eq]
  generalize (lg_sl ([.ref mv, .int 5, .int 2, .int x, .int 0]) ++ List.replicate (7 - (lg_sl ([.ref mv, .int 5, .int 2, .int x, .int 0])).length) Slot.unset).toArray = ls at hl ⊢
  replace hl : lv_has ls 7 [(0, .ref mv), (1, .int 5), (2, .int 2), (3, .int x), (4, .int 0)] := hl
  refine zw_begin hP hD (fun H locs hP1 hS => ?_)
  clear hP
  have hP := hP1
  clear hP1
  refine lv_iload_n hx hb dX1_run_0 rfl (lv_at hl 1 rfl) ?_
  refine lv_iload_n hx hb dX1_run_1 rfl (lv_at hl 2 rfl) ?_
  refine zc_S (As := [.int 5, .int 2]) (rest := []) ⟨hx, hb, hml, hown, hts⟩ (c_M_bodyFor_5_2 l D cI cJ cZ cP cS po  ) (va_cwS 2 hts gX1_run_X1_bodyFor rfl rfl rfl dh_X1_bodyFor ⟨Nat.le_of_ble_eq_true rfl, Nat.le_of_ble_eq_true rfl⟩) hK hN (hZ.kept hS) rfl hl.1 rfl (Nat.le_of_ble_eq_true rfl) dX1_run_2 ⟨Nat.le_of_ble_eq_true rfl, Nat.le_of_ble_eq_true rfl⟩ (fun r_1 hr_1 => ?_)
  obtain rfl := hr_1
  refine lv_istore (lv' := [(5, .int 60), (0, .ref mv), (1, .int 5), (2, .int 2), (3, .int x), (4, .int 0)]) hx hb dX1_run_5 hl (by decide) rfl (fun ls hl => ?_)
  refine lv_iload hx hb dX1_run_7 (lv_at hl 0 rfl) ?_
  refine lv_iconst (v := (-1)) hx hb dX1_run_9 (by decide) ?_
  refine lv_icmp_eq (tgt := 20) hx hb dX1_run_10 (by decide) (fun c_2 => ?_) (fun c_2 => ?_)
  · exact absurd c_2 (by decide)
  · refine lv_iload hx hb dX1_run_13 (lv_at hl 5 rfl) ?_
    refine lv_bipush (v := 40) hx hb dX1_run_15 (by decide) ?_
    refine lv_icmp_lt (tgt := 22) hx hb dX1_run_17 (by decide) (fun c_3 => ?_) (fun c_3 => ?_)
    · refine lv_aload_n hx hb dX1_run_22 rfl (lv_at hl 1 rfl) ?_
      refine lv_iload hx hb dX1_run_23 (lv_at hl 0 rfl) ?_
      skip
      refine zw_Vv (As := [.int 60]) (rest := []) (wr := []) ⟨hx, hb, hml, hown, hts⟩ (c_F_M_note l D cI cJ cZ cP cS po mv mb (mr) (5) (mm) (mq) fb (60) hy0 (by omega) H.size) (cwV 1 hts gX1_run_X1_note rfl rfl rfl ⟨rfl, dh_X1_note⟩ ⟨Nat.le_of_ble_eq_true rfl, Nat.le_of_ble_eq_true rfl⟩) hK hN (hZ.kept hS) hP hD hS hA [0, 1] [] rfl rfl (by decide) (by decide) (by decide) (va_recv (q := (RX1, TX1, 5)) hK hP (ci := 1) (q0 := 0) rfl rfl) rfl hl.1 rfl (Nat.le_of_ble_eq_true rfl) dX1_run_25 ⟨Nat.le_of_ble_eq_true rfl, Nat.le_of_ble_eq_true rfl⟩ (fun u_5 H locs hr_4 hP hD hS => ?_)
      obtain ⟨q_6, q_7⟩ := u_5
      try dsimp only at hr_4
      obtain ⟨hbq_6, hsr_4_0, hr_4⟩ := hr_4
      have h9R := zRe (ws' := [(mv, .inr (1, [.ref mb, .int q_6, .int 5, .int mm, .int mq])), (mb, .inl (cI, 20, .inl q_7))]) hP hD rfl
      clear hP hD
      obtain ⟨hP, hD⟩ := h9R
      refine lv_iload hx hb dX1_run_28 (lv_at hl 5 rfl) ?_
      refine lv_iconst (v := 1) hx hb dX1_run_30 (by decide) ?_
      refine lv_iadd hx hb dX1_run_31 ?_
      refine lv_topi (fun y_8 ey_8 => ?_)
      obtain rfl : y_8 = 1 := ey_8.trans (by decide)
      refine lv_istore (lv' := [(6, .int 1), (5, .int 60), (0, .ref mv), (1, .int 5), (2, .int 2), (3, .int x), (4, .int 0)]) hx hb dX1_run_32 hl (by decide) rfl (fun ls hl => ?_)
      refine lv_iload hx hb dX1_run_34 (lv_at hl 1 rfl) ?_
      refine lv_lookup (off := 210) (tgt := 246) hx hb dX1_run_36 (by decide) (by decide) (by decide) ?_
      refine lv_aload_n hx hb dX1_run_246 rfl (lv_at hl 2 rfl) ?_
      refine lv_iconst (v := 2) hx hb dX1_run_247 (by decide) ?_
      refine lv_iconst (v := 2) hx hb dX1_run_248 (by decide) ?_
      refine lv_iload_n hx hb dX1_run_249 rfl (lv_at hl 5 rfl) ?_
      refine lv_iload hx hb dX1_run_250 (lv_at hl 0 rfl) ?_
      skip
      refine zw_V (As := [.int 2, .int 2, .int x, .int 1]) (rest := []) (wr := []) ⟨hx, hb, hml, hown, hts⟩ (c_F_M_run_5_2_2_1 l D cI cJ cZ cP cS po mv mb (q_6) (mm) (mq) q_7 (x) (by omega) (by omega) H.size) (cwV 4 hts gX1_run_X1_run rfl rfl rfl ⟨rfl, dh_X1_run⟩ ⟨Nat.le_of_ble_eq_true rfl, Nat.le_of_ble_eq_true rfl⟩) hK hN (hZ.kept hS) hP hD hS hA [0, 1] [] rfl rfl (by decide) (by decide) (by decide) (va_recv (q := (RX1, TX1, 5)) hK hP (ci := 1) (q0 := 0) rfl rfl) rfl hl.1 rfl (Nat.le_of_ble_eq_true rfl) dX1_run_252 ⟨Nat.le_of_ble_eq_true rfl, Nat.le_of_ble_eq_true rfl⟩ (fun r_9 u_10 H locs hr_9 hP hD hS => ?_)
      obtain ⟨q_11, q_12⟩ := u_10
      try dsimp only at hr_9
      obtain ⟨hbq_11, hsr_9_0, hsr_9_1, hr_9⟩ := hr_9
      have h9R := zRe (ws' := [(mv, .inr (1, [.ref mb, .int q_11, .int 5, .int mm, .int mq])), (mb, .inl (cI, 20, .inl q_12))]) hP hD rfl
      clear hP hD
      obtain ⟨hP, hD⟩ := h9R
      refine lv_iconst (v := 5) hx hb dX1_run_255 (by decide) ?_
      refine lv_ixor hx hb dX1_run_256 ?_
      refine lv_topi (fun x_13 ex_13 => ?_)
      exact W.iret (v := x_13) hx hb hr (fun t ht hW => ⟨⟨x_13, (q_11, q_12), rfl, ⟨(show q_11.toInt = mr.toInt + 6 from by omega), (show (x_13 : Int32) = (((((x + mm) * 2) * 3) ^^^ ((x - mq) + mm)) ^^^ 5) from by ((try rw [ex_13]); (try rw [hsr_9_0]); (try rw [ex_13]); first | done | rfl)), (show q_12 = zTr fb mr.toInt [60, 12, 30, 11, 10, 10] from by (rw [hsr_9_1]; rw [hsr_4_0]; rw [zTr_app (by (have q : (([60] : List Int32).length : Int) = 1 := rfl; omega))]; first | done | rfl)), trivial⟩, zRet ht hP hD [0, 1] (by decide) rfl⟩, hS.F ht⟩) hS.2.2 dX1_run_257
    · exact absurd c_3 (by decide)
set_option maxHeartbeats 4000000 in
set_option maxRecDepth 100000 in
theorem c_F_M_run_6_0_0_2 (l : Launch) (D : va_G) (cI cJ cZ cP cS : ClassId) (po : zPool) (mv mb : Nat) (mr mm mq : Int32) (fb : Nat → Int32) (x : Int32) (hy0 : 0 ≤ mr.toInt) (hy1 : mr.toInt ≤ 1200) (hpz : Nat) : Met l yX1_run wsX1_run ({ frames := 2, cells := 0, slots := 0, locals := 46 }) (va_Pc [.ref mv, .int 0, .int 0, .int x, .int 2] (zW D (zKT cI cJ cZ cP cS) po [(mv, .inr (1, [.ref mb, .int mr, .int 6, .int mm, .int mq])), (mb, .inl (cI, 20, .inl fb))] hpz)) (va_Qi (fun (r : Int32) (u : (Int32) × (Nat → Int32)) => u.1.toInt = mr.toInt + 1 ∧ (r = (x + mm)) ∧ (u.2 = zTr fb mr.toInt [10]) ∧ (True)) (zB D [(mv, .inr (1, [.ref mb, .int mr, .int 6, .int mm, .int mq])), (mb, .inl (cI, 20, .inl fb))] hpz (fun (u : (Int32) × (Nat → Int32)) => [(mv, .inr (1, [.ref mb, .int u.1, .int 6, .int mm, .int mq])), (mb, .inl (cI, 20, .inl u.2))])) (va_A [(mv, .inr (1, [.ref mb, .int mr, .int 6, .int mm, .int mq])), (mb, .inl (cI, 20, .inl fb))] hpz)) 0 0 (va_A [(mv, .inr (1, [.ref mb, .int mr, .int 6, .int mm, .int mq])), (mb, .inl (cI, 20, .inl fb))] hpz) := by
  refine Met.ofW (cc := cX1_run) (maxL := 7) (ret := (some .int)) (by decide) rfl ?_
  intro p e s m args below meth c s₁ B hml hv
  obtain ⟨rfl, hsz, hP, hK, hD0, hN, hZ⟩ := hv
  have hx := B.exec
  have hb := B.bytes
  have hr := B.returns
  have hts := atoms_spec (ws := wsX1_run) B.pre
  have hown : s.vm.findClass RX1 = some m.cls := findClass_of_methodNamed B.named
  have hlocks := B.notSynchronized
  subst hsz
  have hD := hD0.self (sz := s.heap.size)
  have hA := zA_of hD
  have hl := lv_entry ([.ref mv, .int 0, .int 0, .int x, .int 2]) (n := 7) (Nat.le_of_ble_eq_true rfl)
  rw [lg_entry_eq]
  generalize (lg_sl ([.ref mv, .int 0, .int 0, .int x, .int 2]) ++ List.replicate (7 - (lg_sl ([.ref mv, .int 0, .int 0, .int x, .int 2])).length) Slot.unset).toArray = ls at hl ⊢
  replace hl : lv_has ls 7 [(0, .ref mv), (1, .int 0), (2, .int 0), (3, .int x), (4, .int 2)] := hl
  refine zw_begin hP hD (fun H locs hP1 hS => ?_)
  clear hP
  have hP := hP1
  clear hP1
  refine lv_iload_n hx hb dX1_run_0 rfl (lv_at hl 1 rfl) ?_
  refine lv_iload_n hx hb dX1_run_1 rfl (lv_at hl 2 rfl) ?_
  refine zc_S (As := [.int 0, .int 0]) (rest := []) ⟨hx, hb, hml, hown, hts⟩ (c_M_bodyFor_0_0 l D cI cJ cZ cP cS po  ) (va_cwS 2 hts gX1_run_X1_bodyFor rfl rfl rfl dh_X1_bodyFor ⟨Nat.le_of_ble_eq_true rfl, Nat.le_of_ble_eq_true rfl⟩) hK hN (hZ.kept hS) rfl hl.1 rfl (Nat.le_of_ble_eq_true rfl) dX1_run_2 ⟨Nat.le_of_ble_eq_true rfl, Nat.le_of_ble_eq_true rfl⟩ (fun r_1 hr_1 => ?_)
  obtain rfl := hr_1
  refine lv_istore (lv' := [(5, .int 10), (0, .ref mv), (1, .int 0), (2, .int 0), (3, .int x), (4, .int 2)]) hx hb dX1_run_5 hl (by decide) rfl (fun ls hl => ?_)
  refine lv_iload hx hb dX1_run_7 (lv_at hl 0 rfl) ?_
  refine lv_iconst (v := (-1)) hx hb dX1_run_9 (by decide) ?_
  refine lv_icmp_eq (tgt := 20) hx hb dX1_run_10 (by decide) (fun c_2 => ?_) (fun c_2 => ?_)
  · exact absurd c_2 (by decide)
  · refine lv_iload hx hb dX1_run_13 (lv_at hl 5 rfl) ?_
    refine lv_bipush (v := 40) hx hb dX1_run_15 (by decide) ?_
    refine lv_icmp_lt (tgt := 22) hx hb dX1_run_17 (by decide) (fun c_3 => ?_) (fun c_3 => ?_)
    · refine lv_aload_n hx hb dX1_run_22 rfl (lv_at hl 1 rfl) ?_
      refine lv_iload hx hb dX1_run_23 (lv_at hl 0 rfl) ?_
      skip
      refine zw_Vv (As := [.int 10]) (rest := []) (wr := []) ⟨hx, hb, hml, hown, hts⟩ (c_F_M_note l D cI cJ cZ cP cS po mv mb (mr) (6) (mm) (mq) fb (10) hy0 (by omega) H.size) (cwV 1 hts gX1_run_X1_note rfl rfl rfl ⟨rfl, dh_X1_note⟩ ⟨Nat.le_of_ble_eq_true rfl, Nat.le_of_ble_eq_true rfl⟩) hK hN (hZ.kept hS) hP hD hS hA [0, 1] [] rfl rfl (by decide) (by decide) (by decide) (va_recv (q := (RX1, TX1, 5)) hK hP (ci := 1) (q0 := 0) rfl rfl) rfl hl.1 rfl (Nat.le_of_ble_eq_true rfl) dX1_run_25 ⟨Nat.le_of_ble_eq_true rfl, Nat.le_of_ble_eq_true rfl⟩ (fun u_5 H locs hr_4 hP hD hS => ?_)
      obtain ⟨q_6, q_7⟩ := u_5
      try dsimp only at hr_4
      obtain ⟨hbq_6, hsr_4_0, hr_4⟩ := hr_4
      have h9R := zRe (ws' := [(mv, .inr (1, [.ref mb, .int q_6, .int 6, .int mm, .int mq])), (mb, .inl (cI, 20, .inl q_7))]) hP hD rfl
      clear hP hD
      obtain ⟨hP, hD⟩ := h9R
      refine lv_iload hx hb dX1_run_28 (lv_at hl 5 rfl) ?_
      refine lv_iconst (v := 1) hx hb dX1_run_30 (by decide) ?_
      refine lv_iadd hx hb dX1_run_31 ?_
      refine lv_topi (fun y_8 ey_8 => ?_)
      obtain rfl : y_8 = 3 := ey_8.trans (by decide)
      refine lv_istore (lv' := [(6, .int 3), (5, .int 10), (0, .ref mv), (1, .int 0), (2, .int 0), (3, .int x), (4, .int 2)]) hx hb dX1_run_32 hl (by decide) rfl (fun ls hl => ?_)
      refine lv_iload hx hb dX1_run_34 (lv_at hl 1 rfl) ?_
      refine lv_lookup (off := 92) (tgt := 128) hx hb dX1_run_36 (by decide) (by decide) (by decide) ?_
      refine lv_iload_n hx hb dX1_run_128 rfl (lv_at hl 5 rfl) ?_
      refine lv_aload_n hx hb dX1_run_129 rfl (lv_at hl 2 rfl) ?_
      refine va_get (D := D) (ci := 1) (v := .int mm) (C := RX1) (T := TX1) (N := 5) hx hb hts hi_X1_run_1 hown hK hP 0 rfl rfl 3 (by decide) (hts (.fieldLink RX1 22 "TheLiningsInIt$Moves" "m" "I") (List.mem_of_getElem? (i := 1) rfl)) (fun _ h9 => h9) rfl dX1_run_130 ?_
      refine lv_iadd hx hb dX1_run_133 ?_
      refine lv_topi (fun x_9 ex_9 => ?_)
      exact W.iret (v := x_9) hx hb hr (fun t ht hW => ⟨⟨x_9, (q_6, q_7), rfl, ⟨(show q_6.toInt = mr.toInt + 1 from by omega), (show (x_9 : Int32) = (x + mm) from by ((try rw [ex_9]); (try rw [ex_9]); first | done | rfl)), (show q_7 = zTr fb mr.toInt [10] from by (rw [hsr_4_0]; first | done | rfl)), trivial⟩, zRet ht hP hD [0, 1] (by decide) rfl⟩, hS.F ht⟩) hS.2.2 dX1_run_134
    · exact absurd c_3 (by decide)
set_option maxHeartbeats 4000000 in
set_option maxRecDepth 100000 in
theorem c_F_M_run_6_4_0_1 (l : Launch) (D : va_G) (cI cJ cZ cP cS : ClassId) (po : zPool) (mv mb : Nat) (mr mm mq : Int32) (fb : Nat → Int32) (x : Int32) (hy0 : 0 ≤ mr.toInt) (hy1 : mr.toInt ≤ 1100) (hpz : Nat) : Met l yX1_run wsX1_run ({ frames := 3, cells := 0, slots := 0, locals := 72 }) (va_Pc [.ref mv, .int 4, .int 0, .int x, .int 1] (zW D (zKT cI cJ cZ cP cS) po [(mv, .inr (1, [.ref mb, .int mr, .int 6, .int mm, .int mq])), (mb, .inl (cI, 20, .inl fb))] hpz)) (va_Qi (fun (r : Int32) (u : (Int32) × (Nat → Int32)) => u.1.toInt = mr.toInt + 2 ∧ (r = ((x + mm) - mm)) ∧ (u.2 = zTr fb mr.toInt [51, 10]) ∧ (True)) (zB D [(mv, .inr (1, [.ref mb, .int mr, .int 6, .int mm, .int mq])), (mb, .inl (cI, 20, .inl fb))] hpz (fun (u : (Int32) × (Nat → Int32)) => [(mv, .inr (1, [.ref mb, .int u.1, .int 6, .int mm, .int mq])), (mb, .inl (cI, 20, .inl u.2))])) (va_A [(mv, .inr (1, [.ref mb, .int mr, .int 6, .int mm, .int mq])), (mb, .inl (cI, 20, .inl fb))] hpz)) 0 0 (va_A [(mv, .inr (1, [.ref mb, .int mr, .int 6, .int mm, .int mq])), (mb, .inl (cI, 20, .inl fb))] hpz) := by
  refine Met.ofW (cc := cX1_run) (maxL := 7) (ret := (some .int)) (by decide) rfl ?_
  intro p e s m args below meth c s₁ B hml hv
  obtain ⟨rfl, hsz, hP, hK, hD0, hN, hZ⟩ := hv
  have hx := B.exec
  have hb := B.bytes
  have hr := B.returns
  have hts := atoms_spec (ws := wsX1_run) B.pre
  have hown : s.vm.findClass RX1 = some m.cls := findClass_of_methodNamed B.named
  have hlocks := B.notSynchronized
  subst hsz
  have hD := hD0.self (sz := s.heap.size)
  have hA := zA_of hD
  have hl := lv_entry ([.ref mv, .int 4, .int 0, .int x, .int 1]) (n := 7) (Nat.le_of_ble_eq_true rfl)
  rw [lg_entry_eq]
  generalize (lg_sl ([.ref mv, .int 4, .int 0, .int x, .int 1]) ++ List.replicate (7 - (lg_sl ([.ref mv, .int 4, .int 0, .int x, .int 1])).length) Slot.unset).toArray = ls at hl ⊢
  replace hl : lv_has ls 7 [(0, .ref mv), (1, .int 4), (2, .int 0), (3, .int x), (4, .int 1)] := hl
  refine zw_begin hP hD (fun H locs hP1 hS => ?_)
  clear hP
  have hP := hP1
  clear hP1
  refine lv_iload_n hx hb dX1_run_0 rfl (lv_at hl 1 rfl) ?_
  refine lv_iload_n hx hb dX1_run_1 rfl (lv_at hl 2 rfl) ?_
  refine zc_S (As := [.int 4, .int 0]) (rest := []) ⟨hx, hb, hml, hown, hts⟩ (c_M_bodyFor_4_0 l D cI cJ cZ cP cS po  ) (va_cwS 2 hts gX1_run_X1_bodyFor rfl rfl rfl dh_X1_bodyFor ⟨Nat.le_of_ble_eq_true rfl, Nat.le_of_ble_eq_true rfl⟩) hK hN (hZ.kept hS) rfl hl.1 rfl (Nat.le_of_ble_eq_true rfl) dX1_run_2 ⟨Nat.le_of_ble_eq_true rfl, Nat.le_of_ble_eq_true rfl⟩ (fun r_1 hr_1 => ?_)
  obtain rfl := hr_1
  refine lv_istore (lv' := [(5, .int 51), (0, .ref mv), (1, .int 4), (2, .int 0), (3, .int x), (4, .int 1)]) hx hb dX1_run_5 hl (by decide) rfl (fun ls hl => ?_)
  refine lv_iload hx hb dX1_run_7 (lv_at hl 0 rfl) ?_
  refine lv_iconst (v := (-1)) hx hb dX1_run_9 (by decide) ?_
  refine lv_icmp_eq (tgt := 20) hx hb dX1_run_10 (by decide) (fun c_2 => ?_) (fun c_2 => ?_)
  · exact absurd c_2 (by decide)
  · refine lv_iload hx hb dX1_run_13 (lv_at hl 5 rfl) ?_
    refine lv_bipush (v := 40) hx hb dX1_run_15 (by decide) ?_
    refine lv_icmp_lt (tgt := 22) hx hb dX1_run_17 (by decide) (fun c_3 => ?_) (fun c_3 => ?_)
    · refine lv_aload_n hx hb dX1_run_22 rfl (lv_at hl 1 rfl) ?_
      refine lv_iload hx hb dX1_run_23 (lv_at hl 0 rfl) ?_
      skip
      refine zw_Vv (As := [.int 51]) (rest := []) (wr := []) ⟨hx, hb, hml, hown, hts⟩ (c_F_M_note l D cI cJ cZ cP cS po mv mb (mr) (6) (mm) (mq) fb (51) hy0 (by omega) H.size) (cwV 1 hts gX1_run_X1_note rfl rfl rfl ⟨rfl, dh_X1_note⟩ ⟨Nat.le_of_ble_eq_true rfl, Nat.le_of_ble_eq_true rfl⟩) hK hN (hZ.kept hS) hP hD hS hA [0, 1] [] rfl rfl (by decide) (by decide) (by decide) (va_recv (q := (RX1, TX1, 5)) hK hP (ci := 1) (q0 := 0) rfl rfl) rfl hl.1 rfl (Nat.le_of_ble_eq_true rfl) dX1_run_25 ⟨Nat.le_of_ble_eq_true rfl, Nat.le_of_ble_eq_true rfl⟩ (fun u_5 H locs hr_4 hP hD hS => ?_)
      obtain ⟨q_6, q_7⟩ := u_5
      try dsimp only at hr_4
      obtain ⟨hbq_6, hsr_4_0, hr_4⟩ := hr_4
      have h9R := zRe (ws' := [(mv, .inr (1, [.ref mb, .int q_6, .int 6, .int mm, .int mq])), (mb, .inl (cI, 20, .inl q_7))]) hP hD rfl
      clear hP hD
      obtain ⟨hP, hD⟩ := h9R
      refine lv_iload hx hb dX1_run_28 (lv_at hl 5 rfl) ?_
      refine lv_iconst (v := 1) hx hb dX1_run_30 (by decide) ?_
      refine lv_iadd hx hb dX1_run_31 ?_
      refine lv_topi (fun y_8 ey_8 => ?_)
      obtain rfl : y_8 = 2 := ey_8.trans (by decide)
      refine lv_istore (lv' := [(6, .int 2), (5, .int 51), (0, .ref mv), (1, .int 4), (2, .int 0), (3, .int x), (4, .int 1)]) hx hb dX1_run_32 hl (by decide) rfl (fun ls hl => ?_)
      refine lv_iload hx hb dX1_run_34 (lv_at hl 1 rfl) ?_
      refine lv_lookup (off := 195) (tgt := 231) hx hb dX1_run_36 (by decide) (by decide) (by decide) ?_
      refine lv_aload_n hx hb dX1_run_231 rfl (lv_at hl 2 rfl) ?_
      refine lv_iconst (v := 0) hx hb dX1_run_232 (by decide) ?_
      refine lv_iconst (v := 0) hx hb dX1_run_233 (by decide) ?_
      refine lv_iload_n hx hb dX1_run_234 rfl (lv_at hl 5 rfl) ?_
      refine lv_iload hx hb dX1_run_235 (lv_at hl 0 rfl) ?_
      skip
      refine zw_V (As := [.int 0, .int 0, .int x, .int 2]) (rest := []) (wr := []) ⟨hx, hb, hml, hown, hts⟩ (c_F_M_run_6_0_0_2 l D cI cJ cZ cP cS po mv mb (q_6) (mm) (mq) q_7 (x) (by omega) (by omega) H.size) (cwV 4 hts gX1_run_X1_run rfl rfl rfl ⟨rfl, dh_X1_run⟩ ⟨Nat.le_of_ble_eq_true rfl, Nat.le_of_ble_eq_true rfl⟩) hK hN (hZ.kept hS) hP hD hS hA [0, 1] [] rfl rfl (by decide) (by decide) (by decide) (va_recv (q := (RX1, TX1, 5)) hK hP (ci := 1) (q0 := 0) rfl rfl) rfl hl.1 rfl (Nat.le_of_ble_eq_true rfl) dX1_run_237 ⟨Nat.le_of_ble_eq_true rfl, Nat.le_of_ble_eq_true rfl⟩ (fun r_9 u_10 H locs hr_9 hP hD hS => ?_)
      obtain ⟨q_11, q_12⟩ := u_10
      try dsimp only at hr_9
      obtain ⟨hbq_11, hsr_9_0, hsr_9_1, hr_9⟩ := hr_9
      have h9R := zRe (ws' := [(mv, .inr (1, [.ref mb, .int q_11, .int 6, .int mm, .int mq])), (mb, .inl (cI, 20, .inl q_12))]) hP hD rfl
      clear hP hD
      obtain ⟨hP, hD⟩ := h9R
      refine lv_aload_n hx hb dX1_run_240 rfl (lv_at hl 2 rfl) ?_
      refine va_get (D := D) (ci := 1) (v := .int mm) (C := RX1) (T := TX1) (N := 5) hx hb hts hi_X1_run_1 hown hK hP 0 rfl rfl 3 (by decide) (hts (.fieldLink RX1 22 "TheLiningsInIt$Moves" "m" "I") (List.mem_of_getElem? (i := 1) rfl)) (fun _ h9 => h9) rfl dX1_run_241 ?_
      refine lv_isub hx hb dX1_run_244 ?_
      refine lv_topi (fun x_13 ex_13 => ?_)
      exact W.iret (v := x_13) hx hb hr (fun t ht hW => ⟨⟨x_13, (q_11, q_12), rfl, ⟨(show q_11.toInt = mr.toInt + 2 from by omega), (show (x_13 : Int32) = ((x + mm) - mm) from by ((try rw [ex_13]); (try rw [hsr_9_0]); (try rw [ex_13]); first | done | rfl)), (show q_12 = zTr fb mr.toInt [51, 10] from by (rw [hsr_9_1]; rw [hsr_4_0]; rw [zTr_app (by (have q : (([51] : List Int32).length : Int) = 1 := rfl; omega))]; first | done | rfl)), trivial⟩, zRet ht hP hD [0, 1] (by decide) rfl⟩, hS.F ht⟩) hS.2.2 dX1_run_245
    · exact absurd c_3 (by decide)
set_option maxHeartbeats 4000000 in
set_option maxRecDepth 100000 in
theorem c_F_M_run_6_6_0_0 (l : Launch) (D : va_G) (cI cJ cZ cP cS : ClassId) (po : zPool) (mv mb : Nat) (mr mm mq : Int32) (fb : Nat → Int32) (x : Int32) (hy0 : 0 ≤ mr.toInt) (hy1 : mr.toInt ≤ 1000) (hpz : Nat) : Met l yX1_run wsX1_run ({ frames := 4, cells := 0, slots := 0, locals := 98 }) (va_Pc [.ref mv, .int 6, .int 0, .int x, .int 0] (zW D (zKT cI cJ cZ cP cS) po [(mv, .inr (1, [.ref mb, .int mr, .int 6, .int mm, .int mq])), (mb, .inl (cI, 20, .inl fb))] hpz)) (va_Qi (fun (r : Int32) (u : (Int32) × (Nat → Int32)) => u.1.toInt = mr.toInt + 3 ∧ (r = (((x + mm) - mm) * 2)) ∧ (u.2 = zTr fb mr.toInt [70, 51, 10]) ∧ (True)) (zB D [(mv, .inr (1, [.ref mb, .int mr, .int 6, .int mm, .int mq])), (mb, .inl (cI, 20, .inl fb))] hpz (fun (u : (Int32) × (Nat → Int32)) => [(mv, .inr (1, [.ref mb, .int u.1, .int 6, .int mm, .int mq])), (mb, .inl (cI, 20, .inl u.2))])) (va_A [(mv, .inr (1, [.ref mb, .int mr, .int 6, .int mm, .int mq])), (mb, .inl (cI, 20, .inl fb))] hpz)) 0 0 (va_A [(mv, .inr (1, [.ref mb, .int mr, .int 6, .int mm, .int mq])), (mb, .inl (cI, 20, .inl fb))] hpz) := by
  refine Met.ofW (cc := cX1_run) (maxL := 7) (ret := (some .int)) (by decide) rfl ?_
  intro p e s m args below meth c s₁ B hml hv
  obtain ⟨rfl, hsz, hP, hK, hD0, hN, hZ⟩ := hv
  have hx := B.exec
  have hb := B.bytes
  have hr := B.returns
  have hts := atoms_spec (ws := wsX1_run) B.pre
  have hown : s.vm.findClass RX1 = some m.cls := findClass_of_methodNamed B.named
  have hlocks := B.notSynchronized
  subst hsz
  have hD := hD0.self (sz := s.heap.size)
  have hA := zA_of hD
  have hl := lv_entry ([.ref mv, .int 6, .int 0, .int x, .int 0]) (n := 7) (Nat.le_of_ble_eq_true rfl)
  rw [lg_entry_eq]
  generalize (lg_sl ([.ref mv, .int 6, .int 0, .int x, .int 0]) ++ List.replicate (7 - (lg_sl ([.ref mv, .int 6, .int 0, .int x, .int 0])).length) Slot.unset).toArray = ls at hl ⊢
  replace hl : lv_has ls 7 [(0, .ref mv), (1, .int 6), (2, .int 0), (3, .int x), (4, .int 0)] := hl
  refine zw_begin hP hD (fun H locs hP1 hS => ?_)
  clear hP
  have hP := hP1
  clear hP1
  refine lv_iload_n hx hb dX1_run_0 rfl (lv_at hl 1 rfl) ?_
  refine lv_iload_n hx hb dX1_run_1 rfl (lv_at hl 2 rfl) ?_
  refine zc_S (As := [.int 6, .int 0]) (rest := []) ⟨hx, hb, hml, hown, hts⟩ (c_M_bodyFor_6_0 l D cI cJ cZ cP cS po  ) (va_cwS 2 hts gX1_run_X1_bodyFor rfl rfl rfl dh_X1_bodyFor ⟨Nat.le_of_ble_eq_true rfl, Nat.le_of_ble_eq_true rfl⟩) hK hN (hZ.kept hS) rfl hl.1 rfl (Nat.le_of_ble_eq_true rfl) dX1_run_2 ⟨Nat.le_of_ble_eq_true rfl, Nat.le_of_ble_eq_true rfl⟩ (fun r_1 hr_1 => ?_)
  obtain rfl := hr_1
  refine lv_istore (lv' := [(5, .int 70), (0, .ref mv), (1, .int 6), (2, .int 0), (3, .int x), (4, .int 0)]) hx hb dX1_run_5 hl (by decide) rfl (fun ls hl => ?_)
  refine lv_iload hx hb dX1_run_7 (lv_at hl 0 rfl) ?_
  refine lv_iconst (v := (-1)) hx hb dX1_run_9 (by decide) ?_
  refine lv_icmp_eq (tgt := 20) hx hb dX1_run_10 (by decide) (fun c_2 => ?_) (fun c_2 => ?_)
  · exact absurd c_2 (by decide)
  · refine lv_iload hx hb dX1_run_13 (lv_at hl 5 rfl) ?_
    refine lv_bipush (v := 40) hx hb dX1_run_15 (by decide) ?_
    refine lv_icmp_lt (tgt := 22) hx hb dX1_run_17 (by decide) (fun c_3 => ?_) (fun c_3 => ?_)
    · refine lv_aload_n hx hb dX1_run_22 rfl (lv_at hl 1 rfl) ?_
      refine lv_iload hx hb dX1_run_23 (lv_at hl 0 rfl) ?_
      skip
      refine zw_Vv (As := [.int 70]) (rest := []) (wr := []) ⟨hx, hb, hml, hown, hts⟩ (c_F_M_note l D cI cJ cZ cP cS po mv mb (mr) (6) (mm) (mq) fb (70) hy0 (by omega) H.size) (cwV 1 hts gX1_run_X1_note rfl rfl rfl ⟨rfl, dh_X1_note⟩ ⟨Nat.le_of_ble_eq_true rfl, Nat.le_of_ble_eq_true rfl⟩) hK hN (hZ.kept hS) hP hD hS hA [0, 1] [] rfl rfl (by decide) (by decide) (by decide) (va_recv (q := (RX1, TX1, 5)) hK hP (ci := 1) (q0 := 0) rfl rfl) rfl hl.1 rfl (Nat.le_of_ble_eq_true rfl) dX1_run_25 ⟨Nat.le_of_ble_eq_true rfl, Nat.le_of_ble_eq_true rfl⟩ (fun u_5 H locs hr_4 hP hD hS => ?_)
      obtain ⟨q_6, q_7⟩ := u_5
      try dsimp only at hr_4
      obtain ⟨hbq_6, hsr_4_0, hr_4⟩ := hr_4
      have h9R := zRe (ws' := [(mv, .inr (1, [.ref mb, .int q_6, .int 6, .int mm, .int mq])), (mb, .inl (cI, 20, .inl q_7))]) hP hD rfl
      clear hP hD
      obtain ⟨hP, hD⟩ := h9R
      refine lv_iload hx hb dX1_run_28 (lv_at hl 5 rfl) ?_
      refine lv_iconst (v := 1) hx hb dX1_run_30 (by decide) ?_
      refine lv_iadd hx hb dX1_run_31 ?_
      refine lv_topi (fun y_8 ey_8 => ?_)
      obtain rfl : y_8 = 1 := ey_8.trans (by decide)
      refine lv_istore (lv' := [(6, .int 1), (5, .int 70), (0, .ref mv), (1, .int 6), (2, .int 0), (3, .int x), (4, .int 0)]) hx hb dX1_run_32 hl (by decide) rfl (fun ls hl => ?_)
      refine lv_iload hx hb dX1_run_34 (lv_at hl 1 rfl) ?_
      refine lv_lookup (off := 222) (tgt := 258) hx hb dX1_run_36 (by decide) (by decide) (by decide) ?_
      refine lv_aload_n hx hb dX1_run_258 rfl (lv_at hl 2 rfl) ?_
      refine lv_iconst (v := 4) hx hb dX1_run_259 (by decide) ?_
      refine lv_iconst (v := 0) hx hb dX1_run_260 (by decide) ?_
      refine lv_iload_n hx hb dX1_run_261 rfl (lv_at hl 5 rfl) ?_
      refine lv_iload hx hb dX1_run_262 (lv_at hl 0 rfl) ?_
      skip
      refine zw_V (As := [.int 4, .int 0, .int x, .int 1]) (rest := []) (wr := []) ⟨hx, hb, hml, hown, hts⟩ (c_F_M_run_6_4_0_1 l D cI cJ cZ cP cS po mv mb (q_6) (mm) (mq) q_7 (x) (by omega) (by omega) H.size) (cwV 4 hts gX1_run_X1_run rfl rfl rfl ⟨rfl, dh_X1_run⟩ ⟨Nat.le_of_ble_eq_true rfl, Nat.le_of_ble_eq_true rfl⟩) hK hN (hZ.kept hS) hP hD hS hA [0, 1] [] rfl rfl (by decide) (by decide) (by decide) (va_recv (q := (RX1, TX1, 5)) hK hP (ci := 1) (q0 := 0) rfl rfl) rfl hl.1 rfl (Nat.le_of_ble_eq_true rfl) dX1_run_264 ⟨Nat.le_of_ble_eq_true rfl, Nat.le_of_ble_eq_true rfl⟩ (fun r_9 u_10 H locs hr_9 hP hD hS => ?_)
      obtain ⟨q_11, q_12⟩ := u_10
      try dsimp only at hr_9
      obtain ⟨hbq_11, hsr_9_0, hsr_9_1, hr_9⟩ := hr_9
      have h9R := zRe (ws' := [(mv, .inr (1, [.ref mb, .int q_11, .int 6, .int mm, .int mq])), (mb, .inl (cI, 20, .inl q_12))]) hP hD rfl
      clear hP hD
      obtain ⟨hP, hD⟩ := h9R
      refine lv_iconst (v := 2) hx hb dX1_run_267 (by decide) ?_
      refine lv_imul hx hb dX1_run_268 ?_
      refine lv_topi (fun x_13 ex_13 => ?_)
      exact W.iret (v := x_13) hx hb hr (fun t ht hW => ⟨⟨x_13, (q_11, q_12), rfl, ⟨(show q_11.toInt = mr.toInt + 3 from by omega), (show (x_13 : Int32) = (((x + mm) - mm) * 2) from by ((try rw [ex_13]); (try rw [hsr_9_0]); (try rw [ex_13]); first | done | rfl)), (show q_12 = zTr fb mr.toInt [70, 51, 10] from by (rw [hsr_9_1]; rw [hsr_4_0]; rw [zTr_app (by (have q : (([70] : List Int32).length : Int) = 1 := rfl; omega))]; first | done | rfl)), trivial⟩, zRet ht hP hD [0, 1] (by decide) rfl⟩, hS.F ht⟩) hS.2.2 dX1_run_269
    · exact absurd c_3 (by decide)
set_option maxHeartbeats 4000000 in
set_option maxRecDepth 100000 in
theorem c_F_M_run_6_0_0_4 (l : Launch) (D : va_G) (cI cJ cZ cP cS : ClassId) (po : zPool) (mv mb : Nat) (mr mm mq : Int32) (fb : Nat → Int32) (x : Int32) (hy0 : 0 ≤ mr.toInt) (hy1 : mr.toInt ≤ 1400) (hpz : Nat) : Met l yX1_run wsX1_run ({ frames := 2, cells := 0, slots := 0, locals := 46 }) (va_Pc [.ref mv, .int 0, .int 0, .int x, .int 4] (zW D (zKT cI cJ cZ cP cS) po [(mv, .inr (1, [.ref mb, .int mr, .int 6, .int mm, .int mq])), (mb, .inl (cI, 20, .inl fb))] hpz)) (va_Qi (fun (r : Int32) (u : (Int32) × (Nat → Int32)) => u.1.toInt = mr.toInt + 1 ∧ (r = (x + mm)) ∧ (u.2 = zTr fb mr.toInt [10]) ∧ (True)) (zB D [(mv, .inr (1, [.ref mb, .int mr, .int 6, .int mm, .int mq])), (mb, .inl (cI, 20, .inl fb))] hpz (fun (u : (Int32) × (Nat → Int32)) => [(mv, .inr (1, [.ref mb, .int u.1, .int 6, .int mm, .int mq])), (mb, .inl (cI, 20, .inl u.2))])) (va_A [(mv, .inr (1, [.ref mb, .int mr, .int 6, .int mm, .int mq])), (mb, .inl (cI, 20, .inl fb))] hpz)) 0 0 (va_A [(mv, .inr (1, [.ref mb, .int mr, .int 6, .int mm, .int mq])), (mb, .inl (cI, 20, .inl fb))] hpz) := by
  refine Met.ofW (cc := cX1_run) (maxL := 7) (ret := (some .int)) (by decide) rfl ?_
  intro p e s m args below meth c s₁ B hml hv
  obtain ⟨rfl, hsz, hP, hK, hD0, hN, hZ⟩ := hv
  have hx := B.exec
  have hb := B.bytes
  have hr := B.returns
  have hts := atoms_spec (ws := wsX1_run) B.pre
  have hown : s.vm.findClass RX1 = some m.cls := findClass_of_methodNamed B.named
  have hlocks := B.notSynchronized
  subst hsz
  have hD := hD0.self (sz := s.heap.size)
  have hA := zA_of hD
  have hl := lv_entry ([.ref mv, .int 0, .int 0, .int x, .int 4]) (n := 7) (Nat.le_of_ble_eq_true rfl)
  rw [lg_entry_eq]
  generalize (lg_sl ([.ref mv, .int 0, .int 0, .int x, .int 4]) ++ List.replicate (7 - (lg_sl ([.ref mv, .int 0, .int 0, .int x, .int 4])).length) Slot.unset).toArray = ls at hl ⊢
  replace hl : lv_has ls 7 [(0, .ref mv), (1, .int 0), (2, .int 0), (3, .int x), (4, .int 4)] := hl
  refine zw_begin hP hD (fun H locs hP1 hS => ?_)
  clear hP
  have hP := hP1
  clear hP1
  refine lv_iload_n hx hb dX1_run_0 rfl (lv_at hl 1 rfl) ?_
  refine lv_iload_n hx hb dX1_run_1 rfl (lv_at hl 2 rfl) ?_
  refine zc_S (As := [.int 0, .int 0]) (rest := []) ⟨hx, hb, hml, hown, hts⟩ (c_M_bodyFor_0_0 l D cI cJ cZ cP cS po  ) (va_cwS 2 hts gX1_run_X1_bodyFor rfl rfl rfl dh_X1_bodyFor ⟨Nat.le_of_ble_eq_true rfl, Nat.le_of_ble_eq_true rfl⟩) hK hN (hZ.kept hS) rfl hl.1 rfl (Nat.le_of_ble_eq_true rfl) dX1_run_2 ⟨Nat.le_of_ble_eq_true rfl, Nat.le_of_ble_eq_true rfl⟩ (fun r_1 hr_1 => ?_)
  obtain rfl := hr_1
  refine lv_istore (lv' := [(5, .int 10), (0, .ref mv), (1, .int 0), (2, .int 0), (3, .int x), (4, .int 4)]) hx hb dX1_run_5 hl (by decide) rfl (fun ls hl => ?_)
  refine lv_iload hx hb dX1_run_7 (lv_at hl 0 rfl) ?_
  refine lv_iconst (v := (-1)) hx hb dX1_run_9 (by decide) ?_
  refine lv_icmp_eq (tgt := 20) hx hb dX1_run_10 (by decide) (fun c_2 => ?_) (fun c_2 => ?_)
  · exact absurd c_2 (by decide)
  · refine lv_iload hx hb dX1_run_13 (lv_at hl 5 rfl) ?_
    refine lv_bipush (v := 40) hx hb dX1_run_15 (by decide) ?_
    refine lv_icmp_lt (tgt := 22) hx hb dX1_run_17 (by decide) (fun c_3 => ?_) (fun c_3 => ?_)
    · refine lv_aload_n hx hb dX1_run_22 rfl (lv_at hl 1 rfl) ?_
      refine lv_iload hx hb dX1_run_23 (lv_at hl 0 rfl) ?_
      skip
      refine zw_Vv (As := [.int 10]) (rest := []) (wr := []) ⟨hx, hb, hml, hown, hts⟩ (c_F_M_note l D cI cJ cZ cP cS po mv mb (mr) (6) (mm) (mq) fb (10) hy0 (by omega) H.size) (cwV 1 hts gX1_run_X1_note rfl rfl rfl ⟨rfl, dh_X1_note⟩ ⟨Nat.le_of_ble_eq_true rfl, Nat.le_of_ble_eq_true rfl⟩) hK hN (hZ.kept hS) hP hD hS hA [0, 1] [] rfl rfl (by decide) (by decide) (by decide) (va_recv (q := (RX1, TX1, 5)) hK hP (ci := 1) (q0 := 0) rfl rfl) rfl hl.1 rfl (Nat.le_of_ble_eq_true rfl) dX1_run_25 ⟨Nat.le_of_ble_eq_true rfl, Nat.le_of_ble_eq_true rfl⟩ (fun u_5 H locs hr_4 hP hD hS => ?_)
      obtain ⟨q_6, q_7⟩ := u_5
      try dsimp only at hr_4
      obtain ⟨hbq_6, hsr_4_0, hr_4⟩ := hr_4
      have h9R := zRe (ws' := [(mv, .inr (1, [.ref mb, .int q_6, .int 6, .int mm, .int mq])), (mb, .inl (cI, 20, .inl q_7))]) hP hD rfl
      clear hP hD
      obtain ⟨hP, hD⟩ := h9R
      refine lv_iload hx hb dX1_run_28 (lv_at hl 5 rfl) ?_
      refine lv_iconst (v := 1) hx hb dX1_run_30 (by decide) ?_
      refine lv_iadd hx hb dX1_run_31 ?_
      refine lv_topi (fun y_8 ey_8 => ?_)
      obtain rfl : y_8 = 5 := ey_8.trans (by decide)
      refine lv_istore (lv' := [(6, .int 5), (5, .int 10), (0, .ref mv), (1, .int 0), (2, .int 0), (3, .int x), (4, .int 4)]) hx hb dX1_run_32 hl (by decide) rfl (fun ls hl => ?_)
      refine lv_iload hx hb dX1_run_34 (lv_at hl 1 rfl) ?_
      refine lv_lookup (off := 92) (tgt := 128) hx hb dX1_run_36 (by decide) (by decide) (by decide) ?_
      refine lv_iload_n hx hb dX1_run_128 rfl (lv_at hl 5 rfl) ?_
      refine lv_aload_n hx hb dX1_run_129 rfl (lv_at hl 2 rfl) ?_
      refine va_get (D := D) (ci := 1) (v := .int mm) (C := RX1) (T := TX1) (N := 5) hx hb hts hi_X1_run_1 hown hK hP 0 rfl rfl 3 (by decide) (hts (.fieldLink RX1 22 "TheLiningsInIt$Moves" "m" "I") (List.mem_of_getElem? (i := 1) rfl)) (fun _ h9 => h9) rfl dX1_run_130 ?_
      refine lv_iadd hx hb dX1_run_133 ?_
      refine lv_topi (fun x_9 ex_9 => ?_)
      exact W.iret (v := x_9) hx hb hr (fun t ht hW => ⟨⟨x_9, (q_6, q_7), rfl, ⟨(show q_6.toInt = mr.toInt + 1 from by omega), (show (x_9 : Int32) = (x + mm) from by ((try rw [ex_9]); (try rw [ex_9]); first | done | rfl)), (show q_7 = zTr fb mr.toInt [10] from by (rw [hsr_4_0]; first | done | rfl)), trivial⟩, zRet ht hP hD [0, 1] (by decide) rfl⟩, hS.F ht⟩) hS.2.2 dX1_run_134
    · exact absurd c_3 (by decide)
set_option maxHeartbeats 4000000 in
set_option maxRecDepth 100000 in
theorem c_F_M_run_6_4_0_3 (l : Launch) (D : va_G) (cI cJ cZ cP cS : ClassId) (po : zPool) (mv mb : Nat) (mr mm mq : Int32) (fb : Nat → Int32) (x : Int32) (hy0 : 0 ≤ mr.toInt) (hy1 : mr.toInt ≤ 1300) (hpz : Nat) : Met l yX1_run wsX1_run ({ frames := 3, cells := 0, slots := 0, locals := 72 }) (va_Pc [.ref mv, .int 4, .int 0, .int x, .int 3] (zW D (zKT cI cJ cZ cP cS) po [(mv, .inr (1, [.ref mb, .int mr, .int 6, .int mm, .int mq])), (mb, .inl (cI, 20, .inl fb))] hpz)) (va_Qi (fun (r : Int32) (u : (Int32) × (Nat → Int32)) => u.1.toInt = mr.toInt + 2 ∧ (r = ((x + mm) - mm)) ∧ (u.2 = zTr fb mr.toInt [51, 10]) ∧ (True)) (zB D [(mv, .inr (1, [.ref mb, .int mr, .int 6, .int mm, .int mq])), (mb, .inl (cI, 20, .inl fb))] hpz (fun (u : (Int32) × (Nat → Int32)) => [(mv, .inr (1, [.ref mb, .int u.1, .int 6, .int mm, .int mq])), (mb, .inl (cI, 20, .inl u.2))])) (va_A [(mv, .inr (1, [.ref mb, .int mr, .int 6, .int mm, .int mq])), (mb, .inl (cI, 20, .inl fb))] hpz)) 0 0 (va_A [(mv, .inr (1, [.ref mb, .int mr, .int 6, .int mm, .int mq])), (mb, .inl (cI, 20, .inl fb))] hpz) := by
  refine Met.ofW (cc := cX1_run) (maxL := 7) (ret := (some .int)) (by decide) rfl ?_
  intro p e s m args below meth c s₁ B hml hv
  obtain ⟨rfl, hsz, hP, hK, hD0, hN, hZ⟩ := hv
  have hx := B.exec
  have hb := B.bytes
  have hr := B.returns
  have hts := atoms_spec (ws := wsX1_run) B.pre
  have hown : s.vm.findClass RX1 = some m.cls := findClass_of_methodNamed B.named
  have hlocks := B.notSynchronized
  subst hsz
  have hD := hD0.self (sz := s.heap.size)
  have hA := zA_of hD
  have hl := lv_entry ([.ref mv, .int 4, .int 0, .int x, .int 3]) (n := 7) (Nat.le_of_ble_eq_true rfl)
  rw [lg_entry_eq]
  generalize (lg_sl ([.ref mv, .int 4, .int 0, .int x, .int 3]) ++ List.replicate (7 - (lg_sl ([.ref mv, .int 4, .int 0, .int x, .int 3])).length) Slot.unset).toArray = ls at hl ⊢
  replace hl : lv_has ls 7 [(0, .ref mv), (1, .int 4), (2, .int 0), (3, .int x), (4, .int 3)] := hl
  refine zw_begin hP hD (fun H locs hP1 hS => ?_)
  clear hP
  have hP := hP1
  clear hP1
  refine lv_iload_n hx hb dX1_run_0 rfl (lv_at hl 1 rfl) ?_
  refine lv_iload_n hx hb dX1_run_1 rfl (lv_at hl 2 rfl) ?_
  refine zc_S (As := [.int 4, .int 0]) (rest := []) ⟨hx, hb, hml, hown, hts⟩ (c_M_bodyFor_4_0 l D cI cJ cZ cP cS po  ) (va_cwS 2 hts gX1_run_X1_bodyFor rfl rfl rfl dh_X1_bodyFor ⟨Nat.le_of_ble_eq_true rfl, Nat.le_of_ble_eq_true rfl⟩) hK hN (hZ.kept hS) rfl hl.1 rfl (Nat.le_of_ble_eq_true rfl) dX1_run_2 ⟨Nat.le_of_ble_eq_true rfl, Nat.le_of_ble_eq_true rfl⟩ (fun r_1 hr_1 => ?_)
  obtain rfl := hr_1
  refine lv_istore (lv' := [(5, .int 51), (0, .ref mv), (1, .int 4), (2, .int 0), (3, .int x), (4, .int 3)]) hx hb dX1_run_5 hl (by decide) rfl (fun ls hl => ?_)
  refine lv_iload hx hb dX1_run_7 (lv_at hl 0 rfl) ?_
  refine lv_iconst (v := (-1)) hx hb dX1_run_9 (by decide) ?_
  refine lv_icmp_eq (tgt := 20) hx hb dX1_run_10 (by decide) (fun c_2 => ?_) (fun c_2 => ?_)
  · exact absurd c_2 (by decide)
  · refine lv_iload hx hb dX1_run_13 (lv_at hl 5 rfl) ?_
    refine lv_bipush (v := 40) hx hb dX1_run_15 (by decide) ?_
    refine lv_icmp_lt (tgt := 22) hx hb dX1_run_17 (by decide) (fun c_3 => ?_) (fun c_3 => ?_)
    · refine lv_aload_n hx hb dX1_run_22 rfl (lv_at hl 1 rfl) ?_
      refine lv_iload hx hb dX1_run_23 (lv_at hl 0 rfl) ?_
      skip
      refine zw_Vv (As := [.int 51]) (rest := []) (wr := []) ⟨hx, hb, hml, hown, hts⟩ (c_F_M_note l D cI cJ cZ cP cS po mv mb (mr) (6) (mm) (mq) fb (51) hy0 (by omega) H.size) (cwV 1 hts gX1_run_X1_note rfl rfl rfl ⟨rfl, dh_X1_note⟩ ⟨Nat.le_of_ble_eq_true rfl, Nat.le_of_ble_eq_true rfl⟩) hK hN (hZ.kept hS) hP hD hS hA [0, 1] [] rfl rfl (by decide) (by decide) (by decide) (va_recv (q := (RX1, TX1, 5)) hK hP (ci := 1) (q0 := 0) rfl rfl) rfl hl.1 rfl (Nat.le_of_ble_eq_true rfl) dX1_run_25 ⟨Nat.le_of_ble_eq_true rfl, Nat.le_of_ble_eq_true rfl⟩ (fun u_5 H locs hr_4 hP hD hS => ?_)
      obtain ⟨q_6, q_7⟩ := u_5
      try dsimp only at hr_4
      obtain ⟨hbq_6, hsr_4_0, hr_4⟩ := hr_4
      have h9R := zRe (ws' := [(mv, .inr (1, [.ref mb, .int q_6, .int 6, .int mm, .int mq])), (mb, .inl (cI, 20, .inl q_7))]) hP hD rfl
      clear hP hD
      obtain ⟨hP, hD⟩ := h9R
      refine lv_iload hx hb dX1_run_28 (lv_at hl 5 rfl) ?_
      refine lv_iconst (v := 1) hx hb dX1_run_30 (by decide) ?_
      refine lv_iadd hx hb dX1_run_31 ?_
      refine lv_topi (fun y_8 ey_8 => ?_)
      obtain rfl : y_8 = 4 := ey_8.trans (by decide)
      refine lv_istore (lv' := [(6, .int 4), (5, .int 51), (0, .ref mv), (1, .int 4), (2, .int 0), (3, .int x), (4, .int 3)]) hx hb dX1_run_32 hl (by decide) rfl (fun ls hl => ?_)
      refine lv_iload hx hb dX1_run_34 (lv_at hl 1 rfl) ?_
      refine lv_lookup (off := 195) (tgt := 231) hx hb dX1_run_36 (by decide) (by decide) (by decide) ?_
      refine lv_aload_n hx hb dX1_run_231 rfl (lv_at hl 2 rfl) ?_
      refine lv_iconst (v := 0) hx hb dX1_run_232 (by decide) ?_
      refine lv_iconst (v := 0) hx hb dX1_run_233 (by decide) ?_
      refine lv_iload_n hx hb dX1_run_234 rfl (lv_at hl 5 rfl) ?_
      refine lv_iload hx hb dX1_run_235 (lv_at hl 0 rfl) ?_
      skip
      refine zw_V (As := [.int 0, .int 0, .int x, .int 4]) (rest := []) (wr := []) ⟨hx, hb, hml, hown, hts⟩ (c_F_M_run_6_0_0_4 l D cI cJ cZ cP cS po mv mb (q_6) (mm) (mq) q_7 (x) (by omega) (by omega) H.size) (cwV 4 hts gX1_run_X1_run rfl rfl rfl ⟨rfl, dh_X1_run⟩ ⟨Nat.le_of_ble_eq_true rfl, Nat.le_of_ble_eq_true rfl⟩) hK hN (hZ.kept hS) hP hD hS hA [0, 1] [] rfl rfl (by decide) (by decide) (by decide) (va_recv (q := (RX1, TX1, 5)) hK hP (ci := 1) (q0 := 0) rfl rfl) rfl hl.1 rfl (Nat.le_of_ble_eq_true rfl) dX1_run_237 ⟨Nat.le_of_ble_eq_true rfl, Nat.le_of_ble_eq_true rfl⟩ (fun r_9 u_10 H locs hr_9 hP hD hS => ?_)
      obtain ⟨q_11, q_12⟩ := u_10
      try dsimp only at hr_9
      obtain ⟨hbq_11, hsr_9_0, hsr_9_1, hr_9⟩ := hr_9
      have h9R := zRe (ws' := [(mv, .inr (1, [.ref mb, .int q_11, .int 6, .int mm, .int mq])), (mb, .inl (cI, 20, .inl q_12))]) hP hD rfl
      clear hP hD
      obtain ⟨hP, hD⟩ := h9R
      refine lv_aload_n hx hb dX1_run_240 rfl (lv_at hl 2 rfl) ?_
      refine va_get (D := D) (ci := 1) (v := .int mm) (C := RX1) (T := TX1) (N := 5) hx hb hts hi_X1_run_1 hown hK hP 0 rfl rfl 3 (by decide) (hts (.fieldLink RX1 22 "TheLiningsInIt$Moves" "m" "I") (List.mem_of_getElem? (i := 1) rfl)) (fun _ h9 => h9) rfl dX1_run_241 ?_
      refine lv_isub hx hb dX1_run_244 ?_
      refine lv_topi (fun x_13 ex_13 => ?_)
      exact W.iret (v := x_13) hx hb hr (fun t ht hW => ⟨⟨x_13, (q_11, q_12), rfl, ⟨(show q_11.toInt = mr.toInt + 2 from by omega), (show (x_13 : Int32) = ((x + mm) - mm) from by ((try rw [ex_13]); (try rw [hsr_9_0]); (try rw [ex_13]); first | done | rfl)), (show q_12 = zTr fb mr.toInt [51, 10] from by (rw [hsr_9_1]; rw [hsr_4_0]; rw [zTr_app (by (have q : (([51] : List Int32).length : Int) = 1 := rfl; omega))]; first | done | rfl)), trivial⟩, zRet ht hP hD [0, 1] (by decide) rfl⟩, hS.F ht⟩) hS.2.2 dX1_run_245
    · exact absurd c_3 (by decide)
set_option maxHeartbeats 4000000 in
set_option maxRecDepth 100000 in
theorem c_F_M_run_6_6_0_2 (l : Launch) (D : va_G) (cI cJ cZ cP cS : ClassId) (po : zPool) (mv mb : Nat) (mr mm mq : Int32) (fb : Nat → Int32) (x : Int32) (hy0 : 0 ≤ mr.toInt) (hy1 : mr.toInt ≤ 1200) (hpz : Nat) : Met l yX1_run wsX1_run ({ frames := 4, cells := 0, slots := 0, locals := 98 }) (va_Pc [.ref mv, .int 6, .int 0, .int x, .int 2] (zW D (zKT cI cJ cZ cP cS) po [(mv, .inr (1, [.ref mb, .int mr, .int 6, .int mm, .int mq])), (mb, .inl (cI, 20, .inl fb))] hpz)) (va_Qi (fun (r : Int32) (u : (Int32) × (Nat → Int32)) => u.1.toInt = mr.toInt + 3 ∧ (r = (((x + mm) - mm) * 2)) ∧ (u.2 = zTr fb mr.toInt [70, 51, 10]) ∧ (True)) (zB D [(mv, .inr (1, [.ref mb, .int mr, .int 6, .int mm, .int mq])), (mb, .inl (cI, 20, .inl fb))] hpz (fun (u : (Int32) × (Nat → Int32)) => [(mv, .inr (1, [.ref mb, .int u.1, .int 6, .int mm, .int mq])), (mb, .inl (cI, 20, .inl u.2))])) (va_A [(mv, .inr (1, [.ref mb, .int mr, .int 6, .int mm, .int mq])), (mb, .inl (cI, 20, .inl fb))] hpz)) 0 0 (va_A [(mv, .inr (1, [.ref mb, .int mr, .int 6, .int mm, .int mq])), (mb, .inl (cI, 20, .inl fb))] hpz) := by
  refine Met.ofW (cc := cX1_run) (maxL := 7) (ret := (some .int)) (by decide) rfl ?_
  intro p e s m args below meth c s₁ B hml hv
  obtain ⟨rfl, hsz, hP, hK, hD0, hN, hZ⟩ := hv
  have hx := B.exec
  have hb := B.bytes
  have hr := B.returns
  have hts := atoms_spec (ws := wsX1_run) B.pre
  have hown : s.vm.findClass RX1 = some m.cls := findClass_of_methodNamed B.named
  have hlocks := B.notSynchronized
  subst hsz
  have hD := hD0.self (sz := s.heap.size)
  have hA := zA_of hD
  have hl := lv_entry ([.ref mv, .int 6, .int 0, .int x, .int 2]) (n := 7) (Nat.le_of_ble_eq_true rfl)
  rw [lg_entry_eq]
  generalize (lg_sl ([.ref mv, .int 6, .int 0, .int x, .int 2]) ++ List.replicate (7 - (lg_sl ([.ref mv, .int 6, .int 0, .int x, .int 2])).length) Slot.unset).toArray = ls at hl ⊢
  replace hl : lv_has ls 7 [(0, .ref mv), (1, .int 6), (2, .int 0), (3, .int x), (4, .int 2)] := hl
  refine zw_begin hP hD (fun H locs hP1 hS => ?_)
  clear hP
  have hP := hP1
  clear hP1
  refine lv_iload_n hx hb dX1_run_0 rfl (lv_at hl 1 rfl) ?_
  refine lv_iload_n hx hb dX1_run_1 rfl (lv_at hl 2 rfl) ?_
  refine zc_S (As := [.int 6, .int 0]) (rest := []) ⟨hx, hb, hml, hown, hts⟩ (c_M_bodyFor_6_0 l D cI cJ cZ cP cS po  ) (va_cwS 2 hts gX1_run_X1_bodyFor rfl rfl rfl dh_X1_bodyFor ⟨Nat.le_of_ble_eq_true rfl, Nat.le_of_ble_eq_true rfl⟩) hK hN (hZ.kept hS) rfl hl.1 rfl (Nat.le_of_ble_eq_true rfl) dX1_run_2 ⟨Nat.le_of_ble_eq_true rfl, Nat.le_of_ble_eq_true rfl⟩ (fun r_1 hr_1 => ?_)
  obtain rfl := hr_1
  refine lv_istore (lv' := [(5, .int 70), (0, .ref mv), (1, .int 6), (2, .int 0), (3, .int x), (4, .int 2)]) hx hb dX1_run_5 hl (by decide) rfl (fun ls hl => ?_)
  refine lv_iload hx hb dX1_run_7 (lv_at hl 0 rfl) ?_
  refine lv_iconst (v := (-1)) hx hb dX1_run_9 (by decide) ?_
  refine lv_icmp_eq (tgt := 20) hx hb dX1_run_10 (by decide) (fun c_2 => ?_) (fun c_2 => ?_)
  · exact absurd c_2 (by decide)
  · refine lv_iload hx hb dX1_run_13 (lv_at hl 5 rfl) ?_
    refine lv_bipush (v := 40) hx hb dX1_run_15 (by decide) ?_
    refine lv_icmp_lt (tgt := 22) hx hb dX1_run_17 (by decide) (fun c_3 => ?_) (fun c_3 => ?_)
    · refine lv_aload_n hx hb dX1_run_22 rfl (lv_at hl 1 rfl) ?_
      refine lv_iload hx hb dX1_run_23 (lv_at hl 0 rfl) ?_
      skip
      refine zw_Vv (As := [.int 70]) (rest := []) (wr := []) ⟨hx, hb, hml, hown, hts⟩ (c_F_M_note l D cI cJ cZ cP cS po mv mb (mr) (6) (mm) (mq) fb (70) hy0 (by omega) H.size) (cwV 1 hts gX1_run_X1_note rfl rfl rfl ⟨rfl, dh_X1_note⟩ ⟨Nat.le_of_ble_eq_true rfl, Nat.le_of_ble_eq_true rfl⟩) hK hN (hZ.kept hS) hP hD hS hA [0, 1] [] rfl rfl (by decide) (by decide) (by decide) (va_recv (q := (RX1, TX1, 5)) hK hP (ci := 1) (q0 := 0) rfl rfl) rfl hl.1 rfl (Nat.le_of_ble_eq_true rfl) dX1_run_25 ⟨Nat.le_of_ble_eq_true rfl, Nat.le_of_ble_eq_true rfl⟩ (fun u_5 H locs hr_4 hP hD hS => ?_)
      obtain ⟨q_6, q_7⟩ := u_5
      try dsimp only at hr_4
      obtain ⟨hbq_6, hsr_4_0, hr_4⟩ := hr_4
      have h9R := zRe (ws' := [(mv, .inr (1, [.ref mb, .int q_6, .int 6, .int mm, .int mq])), (mb, .inl (cI, 20, .inl q_7))]) hP hD rfl
      clear hP hD
      obtain ⟨hP, hD⟩ := h9R
      refine lv_iload hx hb dX1_run_28 (lv_at hl 5 rfl) ?_
      refine lv_iconst (v := 1) hx hb dX1_run_30 (by decide) ?_
      refine lv_iadd hx hb dX1_run_31 ?_
      refine lv_topi (fun y_8 ey_8 => ?_)
      obtain rfl : y_8 = 3 := ey_8.trans (by decide)
      refine lv_istore (lv' := [(6, .int 3), (5, .int 70), (0, .ref mv), (1, .int 6), (2, .int 0), (3, .int x), (4, .int 2)]) hx hb dX1_run_32 hl (by decide) rfl (fun ls hl => ?_)
      refine lv_iload hx hb dX1_run_34 (lv_at hl 1 rfl) ?_
      refine lv_lookup (off := 222) (tgt := 258) hx hb dX1_run_36 (by decide) (by decide) (by decide) ?_
      refine lv_aload_n hx hb dX1_run_258 rfl (lv_at hl 2 rfl) ?_
      refine lv_iconst (v := 4) hx hb dX1_run_259 (by decide) ?_
      refine lv_iconst (v := 0) hx hb dX1_run_260 (by decide) ?_
      refine lv_iload_n hx hb dX1_run_261 rfl (lv_at hl 5 rfl) ?_
      refine lv_iload hx hb dX1_run_262 (lv_at hl 0 rfl) ?_
      skip
      refine zw_V (As := [.int 4, .int 0, .int x, .int 3]) (rest := []) (wr := []) ⟨hx, hb, hml, hown, hts⟩ (c_F_M_run_6_4_0_3 l D cI cJ cZ cP cS po mv mb (q_6) (mm) (mq) q_7 (x) (by omega) (by omega) H.size) (cwV 4 hts gX1_run_X1_run rfl rfl rfl ⟨rfl, dh_X1_run⟩ ⟨Nat.le_of_ble_eq_true rfl, Nat.le_of_ble_eq_true rfl⟩) hK hN (hZ.kept hS) hP hD hS hA [0, 1] [] rfl rfl (by decide) (by decide) (by decide) (va_recv (q := (RX1, TX1, 5)) hK hP (ci := 1) (q0 := 0) rfl rfl) rfl hl.1 rfl (Nat.le_of_ble_eq_true rfl) dX1_run_264 ⟨Nat.le_of_ble_eq_true rfl, Nat.le_of_ble_eq_true rfl⟩ (fun r_9 u_10 H locs hr_9 hP hD hS => ?_)
      obtain ⟨q_11, q_12⟩ := u_10
      try dsimp only at hr_9
      obtain ⟨hbq_11, hsr_9_0, hsr_9_1, hr_9⟩ := hr_9
      have h9R := zRe (ws' := [(mv, .inr (1, [.ref mb, .int q_11, .int 6, .int mm, .int mq])), (mb, .inl (cI, 20, .inl q_12))]) hP hD rfl
      clear hP hD
      obtain ⟨hP, hD⟩ := h9R
      refine lv_iconst (v := 2) hx hb dX1_run_267 (by decide) ?_
      refine lv_imul hx hb dX1_run_268 ?_
      refine lv_topi (fun x_13 ex_13 => ?_)
      exact W.iret (v := x_13) hx hb hr (fun t ht hW => ⟨⟨x_13, (q_11, q_12), rfl, ⟨(show q_11.toInt = mr.toInt + 3 from by omega), (show (x_13 : Int32) = (((x + mm) - mm) * 2) from by ((try rw [ex_13]); (try rw [hsr_9_0]); (try rw [ex_13]); first | done | rfl)), (show q_12 = zTr fb mr.toInt [70, 51, 10] from by (rw [hsr_9_1]; rw [hsr_4_0]; rw [zTr_app (by (have q : (([70] : List Int32).length : Int) = 1 := rfl; omega))]; first | done | rfl)), trivial⟩, zRet ht hP hD [0, 1] (by decide) rfl⟩, hS.F ht⟩) hS.2.2 dX1_run_269
    · exact absurd c_3 (by decide)
set_option maxHeartbeats 4000000 in
set_option maxRecDepth 100000 in
theorem c_F_M_run_6_4_1_1 (l : Launch) (D : va_G) (cI cJ cZ cP cS : ClassId) (po : zPool) (mv mb : Nat) (mr mm mq : Int32) (fb : Nat → Int32) (x : Int32) (hy0 : 0 ≤ mr.toInt) (hy1 : mr.toInt ≤ 1100) (hpz : Nat) : Met l yX1_run wsX1_run ({ frames := 5, cells := 0, slots := 0, locals := 124 }) (va_Pc [.ref mv, .int 4, .int 1, .int x, .int 1] (zW D (zKT cI cJ cZ cP cS) po [(mv, .inr (1, [.ref mb, .int mr, .int 6, .int mm, .int mq])), (mb, .inl (cI, 20, .inl fb))] hpz)) (va_Qi (fun (r : Int32) (u : (Int32) × (Nat → Int32)) => u.1.toInt = mr.toInt + 4 ∧ (r = ((((x + mm) - mm) * 2) * 2)) ∧ (u.2 = zTr fb mr.toInt [11, 70, 51, 10]) ∧ (True)) (zB D [(mv, .inr (1, [.ref mb, .int mr, .int 6, .int mm, .int mq])), (mb, .inl (cI, 20, .inl fb))] hpz (fun (u : (Int32) × (Nat → Int32)) => [(mv, .inr (1, [.ref mb, .int u.1, .int 6, .int mm, .int mq])), (mb, .inl (cI, 20, .inl u.2))])) (va_A [(mv, .inr (1, [.ref mb, .int mr, .int 6, .int mm, .int mq])), (mb, .inl (cI, 20, .inl fb))] hpz)) 0 0 (va_A [(mv, .inr (1, [.ref mb, .int mr, .int 6, .int mm, .int mq])), (mb, .inl (cI, 20, .inl fb))] hpz) := by
  refine Met.ofW (cc := cX1_run) (maxL := 7) (ret := (some .int)) (by decide) rfl ?_
  intro p e s m args below meth c s₁ B hml hv
  obtain ⟨rfl, hsz, hP, hK, hD0, hN, hZ⟩ := hv
  have hx := B.exec
  have hb := B.bytes
  have hr := B.returns
  have hts := atoms_spec (ws := wsX1_run) B.pre
  have hown : s.vm.findClass RX1 = some m.cls := findClass_of_methodNamed B.named
  have hlocks := B.notSynchronized
  subst hsz
  have hD := hD0.self (sz := s.heap.size)
  have hA := zA_of hD
  have hl := lv_entry ([.ref mv, .int 4, .int 1, .int x, .int 1]) (n := 7) (Nat.le_of_ble_eq_true rfl)
  rw [lg_entry_eq]
  generalize (lg_sl ([.ref mv, .int 4, .int 1, .int x, .int 1]) ++ List.replicate (7 - (lg_sl ([.ref mv, .int 4, .int 1, .int x, .int 1])).length) Slot.unset).toArray = ls at hl ⊢
  replace hl : lv_has ls 7 [(0, .ref mv), (1, .int 4), (2, .int 1), (3, .int x), (4, .int 1)] := hl
  refine zw_begin hP hD (fun H locs hP1 hS => ?_)
  clear hP
  have hP := hP1
  clear hP1
  refine lv_iload_n hx hb dX1_run_0 rfl (lv_at hl 1 rfl) ?_
  refine lv_iload_n hx hb dX1_run_1 rfl (lv_at hl 2 rfl) ?_
  refine zc_S (As := [.int 4, .int 1]) (rest := []) ⟨hx, hb, hml, hown, hts⟩ (c_M_bodyFor_4_1 l D cI cJ cZ cP cS po  ) (va_cwS 2 hts gX1_run_X1_bodyFor rfl rfl rfl dh_X1_bodyFor ⟨Nat.le_of_ble_eq_true rfl, Nat.le_of_ble_eq_true rfl⟩) hK hN (hZ.kept hS) rfl hl.1 rfl (Nat.le_of_ble_eq_true rfl) dX1_run_2 ⟨Nat.le_of_ble_eq_true rfl, Nat.le_of_ble_eq_true rfl⟩ (fun r_1 hr_1 => ?_)
  obtain rfl := hr_1
  refine lv_istore (lv' := [(5, .int 11), (0, .ref mv), (1, .int 4), (2, .int 1), (3, .int x), (4, .int 1)]) hx hb dX1_run_5 hl (by decide) rfl (fun ls hl => ?_)
  refine lv_iload hx hb dX1_run_7 (lv_at hl 0 rfl) ?_
  refine lv_iconst (v := (-1)) hx hb dX1_run_9 (by decide) ?_
  refine lv_icmp_eq (tgt := 20) hx hb dX1_run_10 (by decide) (fun c_2 => ?_) (fun c_2 => ?_)
  · exact absurd c_2 (by decide)
  · refine lv_iload hx hb dX1_run_13 (lv_at hl 5 rfl) ?_
    refine lv_bipush (v := 40) hx hb dX1_run_15 (by decide) ?_
    refine lv_icmp_lt (tgt := 22) hx hb dX1_run_17 (by decide) (fun c_3 => ?_) (fun c_3 => ?_)
    · refine lv_aload_n hx hb dX1_run_22 rfl (lv_at hl 1 rfl) ?_
      refine lv_iload hx hb dX1_run_23 (lv_at hl 0 rfl) ?_
      skip
      refine zw_Vv (As := [.int 11]) (rest := []) (wr := []) ⟨hx, hb, hml, hown, hts⟩ (c_F_M_note l D cI cJ cZ cP cS po mv mb (mr) (6) (mm) (mq) fb (11) hy0 (by omega) H.size) (cwV 1 hts gX1_run_X1_note rfl rfl rfl ⟨rfl, dh_X1_note⟩ ⟨Nat.le_of_ble_eq_true rfl, Nat.le_of_ble_eq_true rfl⟩) hK hN (hZ.kept hS) hP hD hS hA [0, 1] [] rfl rfl (by decide) (by decide) (by decide) (va_recv (q := (RX1, TX1, 5)) hK hP (ci := 1) (q0 := 0) rfl rfl) rfl hl.1 rfl (Nat.le_of_ble_eq_true rfl) dX1_run_25 ⟨Nat.le_of_ble_eq_true rfl, Nat.le_of_ble_eq_true rfl⟩ (fun u_5 H locs hr_4 hP hD hS => ?_)
      obtain ⟨q_6, q_7⟩ := u_5
      try dsimp only at hr_4
      obtain ⟨hbq_6, hsr_4_0, hr_4⟩ := hr_4
      have h9R := zRe (ws' := [(mv, .inr (1, [.ref mb, .int q_6, .int 6, .int mm, .int mq])), (mb, .inl (cI, 20, .inl q_7))]) hP hD rfl
      clear hP hD
      obtain ⟨hP, hD⟩ := h9R
      refine lv_iload hx hb dX1_run_28 (lv_at hl 5 rfl) ?_
      refine lv_iconst (v := 1) hx hb dX1_run_30 (by decide) ?_
      refine lv_iadd hx hb dX1_run_31 ?_
      refine lv_topi (fun y_8 ey_8 => ?_)
      obtain rfl : y_8 = 2 := ey_8.trans (by decide)
      refine lv_istore (lv' := [(6, .int 2), (5, .int 11), (0, .ref mv), (1, .int 4), (2, .int 1), (3, .int x), (4, .int 1)]) hx hb dX1_run_32 hl (by decide) rfl (fun ls hl => ?_)
      refine lv_iload hx hb dX1_run_34 (lv_at hl 1 rfl) ?_
      refine lv_lookup (off := 99) (tgt := 135) hx hb dX1_run_36 (by decide) (by decide) (by decide) ?_
      refine lv_aload_n hx hb dX1_run_135 rfl (lv_at hl 2 rfl) ?_
      refine lv_aload_n hx hb dX1_run_136 rfl (lv_at hl 2 rfl) ?_
      refine va_get (D := D) (ci := 1) (v := .int 6) (C := RX1) (T := TX1) (N := 5) hx hb hts hi_X1_run_1 hown hK hP 0 rfl rfl 2 (by decide) (hts (.fieldLink RX1 19 "TheLiningsInIt$Moves" "kind" "I") (List.mem_of_getElem? (i := 2) rfl)) (fun _ h9 => h9) rfl dX1_run_137 ?_
      refine lv_iconst (v := 0) hx hb dX1_run_140 (by decide) ?_
      refine lv_iload_n hx hb dX1_run_141 rfl (lv_at hl 5 rfl) ?_
      refine lv_iload hx hb dX1_run_142 (lv_at hl 0 rfl) ?_
      skip
      refine zw_V (As := [.int 6, .int 0, .int x, .int 2]) (rest := []) (wr := []) ⟨hx, hb, hml, hown, hts⟩ (c_F_M_run_6_6_0_2 l D cI cJ cZ cP cS po mv mb (q_6) (mm) (mq) q_7 (x) (by omega) (by omega) H.size) (cwV 4 hts gX1_run_X1_run rfl rfl rfl ⟨rfl, dh_X1_run⟩ ⟨Nat.le_of_ble_eq_true rfl, Nat.le_of_ble_eq_true rfl⟩) hK hN (hZ.kept hS) hP hD hS hA [0, 1] [] rfl rfl (by decide) (by decide) (by decide) (va_recv (q := (RX1, TX1, 5)) hK hP (ci := 1) (q0 := 0) rfl rfl) rfl hl.1 rfl (Nat.le_of_ble_eq_true rfl) dX1_run_144 ⟨Nat.le_of_ble_eq_true rfl, Nat.le_of_ble_eq_true rfl⟩ (fun r_9 u_10 H locs hr_9 hP hD hS => ?_)
      obtain ⟨q_11, q_12⟩ := u_10
      try dsimp only at hr_9
      obtain ⟨hbq_11, hsr_9_0, hsr_9_1, hr_9⟩ := hr_9
      have h9R := zRe (ws' := [(mv, .inr (1, [.ref mb, .int q_11, .int 6, .int mm, .int mq])), (mb, .inl (cI, 20, .inl q_12))]) hP hD rfl
      clear hP hD
      obtain ⟨hP, hD⟩ := h9R
      refine lv_iconst (v := 2) hx hb dX1_run_147 (by decide) ?_
      refine lv_imul hx hb dX1_run_148 ?_
      refine lv_topi (fun x_13 ex_13 => ?_)
      exact W.iret (v := x_13) hx hb hr (fun t ht hW => ⟨⟨x_13, (q_11, q_12), rfl, ⟨(show q_11.toInt = mr.toInt + 4 from by omega), (show (x_13 : Int32) = ((((x + mm) - mm) * 2) * 2) from by ((try rw [ex_13]); (try rw [hsr_9_0]); (try rw [ex_13]); first | done | rfl)), (show q_12 = zTr fb mr.toInt [11, 70, 51, 10] from by (rw [hsr_9_1]; rw [hsr_4_0]; rw [zTr_app (by (have q : (([11] : List Int32).length : Int) = 1 := rfl; omega))]; first | done | rfl)), trivial⟩, zRet ht hP hD [0, 1] (by decide) rfl⟩, hS.F ht⟩) hS.2.2 dX1_run_149
    · exact absurd c_3 (by decide)
set_option maxHeartbeats 4000000 in
set_option maxRecDepth 100000 in
theorem c_F_M_run_6_6_1_0 (l : Launch) (D : va_G) (cI cJ cZ cP cS : ClassId) (po : zPool) (mv mb : Nat) (mr mm mq : Int32) (fb : Nat → Int32) (x : Int32) (hy0 : 0 ≤ mr.toInt) (hy1 : mr.toInt ≤ 1000) (hpz : Nat) : Met l yX1_run wsX1_run ({ frames := 6, cells := 0, slots := 0, locals := 150 }) (va_Pc [.ref mv, .int 6, .int 1, .int x, .int 0] (zW D (zKT cI cJ cZ cP cS) po [(mv, .inr (1, [.ref mb, .int mr, .int 6, .int mm, .int mq])), (mb, .inl (cI, 20, .inl fb))] hpz)) (va_Qi (fun (r : Int32) (u : (Int32) × (Nat → Int32)) => u.1.toInt = mr.toInt + 5 ∧ (r = (((((x - mq) + mm) - mm) * 2) * 2)) ∧ (u.2 = zTr fb mr.toInt [71, 11, 70, 51, 10]) ∧ (True)) (zB D [(mv, .inr (1, [.ref mb, .int mr, .int 6, .int mm, .int mq])), (mb, .inl (cI, 20, .inl fb))] hpz (fun (u : (Int32) × (Nat → Int32)) => [(mv, .inr (1, [.ref mb, .int u.1, .int 6, .int mm, .int mq])), (mb, .inl (cI, 20, .inl u.2))])) (va_A [(mv, .inr (1, [.ref mb, .int mr, .int 6, .int mm, .int mq])), (mb, .inl (cI, 20, .inl fb))] hpz)) 0 0 (va_A [(mv, .inr (1, [.ref mb, .int mr, .int 6, .int mm, .int mq])), (mb, .inl (cI, 20, .inl fb))] hpz) := by
  refine Met.ofW (cc := cX1_run) (maxL := 7) (ret := (some .int)) (by decide) rfl ?_
  intro p e s m args below meth c s₁ B hml hv
  obtain ⟨rfl, hsz, hP, hK, hD0, hN, hZ⟩ := hv
  have hx := B.exec
  have hb := B.bytes
  have hr := B.returns
  have hts := atoms_spec (ws := wsX1_run) B.pre
  have hown : s.vm.findClass RX1 = some m.cls := findClass_of_methodNamed B.named
  have hlocks := B.notSynchronized
  subst hsz
  have hD := hD0.self (sz := s.heap.size)
  have hA := zA_of hD
  have hl := lv_entry ([.ref mv, .int 6, .int 1, .int x, .int 0]) (n := 7) (Nat.le_of_ble_eq_true rfl)
  rw [lg_entry_eq]
  generalize (lg_sl ([.ref mv, .int 6, .int 1, .int x, .int 0]) ++ List.replicate (7 - (lg_sl ([.ref mv, .int 6, .int 1, .int x, .int 0])).length) Slot.unset).toArray = ls at hl ⊢
  replace hl : lv_has ls 7 [(0, .ref mv), (1, .int 6), (2, .int 1), (3, .int x), (4, .int 0)] := hl
  refine zw_begin hP hD (fun H locs hP1 hS => ?_)
  clear hP
  have hP := hP1
  clear hP1
  refine lv_iload_n hx hb dX1_run_0 rfl (lv_at hl 1 rfl) ?_
  refine lv_iload_n hx hb dX1_run_1 rfl (lv_at hl 2 rfl) ?_
  refine zc_S (As := [.int 6, .int 1]) (rest := []) ⟨hx, hb, hml, hown, hts⟩ (c_M_bodyFor_6_1 l D cI cJ cZ cP cS po  ) (va_cwS 2 hts gX1_run_X1_bodyFor rfl rfl rfl dh_X1_bodyFor ⟨Nat.le_of_ble_eq_true rfl, Nat.le_of_ble_eq_true rfl⟩) hK hN (hZ.kept hS) rfl hl.1 rfl (Nat.le_of_ble_eq_true rfl) dX1_run_2 ⟨Nat.le_of_ble_eq_true rfl, Nat.le_of_ble_eq_true rfl⟩ (fun r_1 hr_1 => ?_)
  obtain rfl := hr_1
  refine lv_istore (lv' := [(5, .int 71), (0, .ref mv), (1, .int 6), (2, .int 1), (3, .int x), (4, .int 0)]) hx hb dX1_run_5 hl (by decide) rfl (fun ls hl => ?_)
  refine lv_iload hx hb dX1_run_7 (lv_at hl 0 rfl) ?_
  refine lv_iconst (v := (-1)) hx hb dX1_run_9 (by decide) ?_
  refine lv_icmp_eq (tgt := 20) hx hb dX1_run_10 (by decide) (fun c_2 => ?_) (fun c_2 => ?_)
  · exact absurd c_2 (by decide)
  · refine lv_iload hx hb dX1_run_13 (lv_at hl 5 rfl) ?_
    refine lv_bipush (v := 40) hx hb dX1_run_15 (by decide) ?_
    refine lv_icmp_lt (tgt := 22) hx hb dX1_run_17 (by decide) (fun c_3 => ?_) (fun c_3 => ?_)
    · refine lv_aload_n hx hb dX1_run_22 rfl (lv_at hl 1 rfl) ?_
      refine lv_iload hx hb dX1_run_23 (lv_at hl 0 rfl) ?_
      skip
      refine zw_Vv (As := [.int 71]) (rest := []) (wr := []) ⟨hx, hb, hml, hown, hts⟩ (c_F_M_note l D cI cJ cZ cP cS po mv mb (mr) (6) (mm) (mq) fb (71) hy0 (by omega) H.size) (cwV 1 hts gX1_run_X1_note rfl rfl rfl ⟨rfl, dh_X1_note⟩ ⟨Nat.le_of_ble_eq_true rfl, Nat.le_of_ble_eq_true rfl⟩) hK hN (hZ.kept hS) hP hD hS hA [0, 1] [] rfl rfl (by decide) (by decide) (by decide) (va_recv (q := (RX1, TX1, 5)) hK hP (ci := 1) (q0 := 0) rfl rfl) rfl hl.1 rfl (Nat.le_of_ble_eq_true rfl) dX1_run_25 ⟨Nat.le_of_ble_eq_true rfl, Nat.le_of_ble_eq_true rfl⟩ (fun u_5 H locs hr_4 hP hD hS => ?_)
      obtain ⟨q_6, q_7⟩ := u_5
      try dsimp only at hr_4
      obtain ⟨hbq_6, hsr_4_0, hr_4⟩ := hr_4
      have h9R := zRe (ws' := [(mv, .inr (1, [.ref mb, .int q_6, .int 6, .int mm, .int mq])), (mb, .inl (cI, 20, .inl q_7))]) hP hD rfl
      clear hP hD
      obtain ⟨hP, hD⟩ := h9R
      refine lv_iload hx hb dX1_run_28 (lv_at hl 5 rfl) ?_
      refine lv_iconst (v := 1) hx hb dX1_run_30 (by decide) ?_
      refine lv_iadd hx hb dX1_run_31 ?_
      refine lv_topi (fun y_8 ey_8 => ?_)
      obtain rfl : y_8 = 1 := ey_8.trans (by decide)
      refine lv_istore (lv' := [(6, .int 1), (5, .int 71), (0, .ref mv), (1, .int 6), (2, .int 1), (3, .int x), (4, .int 0)]) hx hb dX1_run_32 hl (by decide) rfl (fun ls hl => ?_)
      refine lv_iload hx hb dX1_run_34 (lv_at hl 1 rfl) ?_
      refine lv_lookup (off := 234) (tgt := 270) hx hb dX1_run_36 (by decide) (by decide) (by decide) ?_
      refine lv_aload_n hx hb dX1_run_270 rfl (lv_at hl 2 rfl) ?_
      refine lv_iconst (v := 4) hx hb dX1_run_271 (by decide) ?_
      refine lv_iconst (v := 1) hx hb dX1_run_272 (by decide) ?_
      refine lv_iload_n hx hb dX1_run_273 rfl (lv_at hl 5 rfl) ?_
      refine lv_aload_n hx hb dX1_run_274 rfl (lv_at hl 2 rfl) ?_
      refine va_get (D := D) (ci := 1) (v := .int mq) (C := RX1) (T := TX1) (N := 5) hx hb hts hi_X1_run_1 hown hK hP 0 rfl rfl 4 (by decide) (hts (.fieldLink RX1 25 "TheLiningsInIt$Moves" "k" "I") (List.mem_of_getElem? (i := 3) rfl)) (fun _ h9 => h9) rfl dX1_run_275 ?_
      refine lv_isub hx hb dX1_run_278 ?_
      refine lv_topi (fun x_9 ex_9 => ?_)
      refine lv_iload hx hb dX1_run_279 (lv_at hl 0 rfl) ?_
      skip
      refine zw_V (As := [.int 4, .int 1, .int x_9, .int 1]) (rest := []) (wr := []) ⟨hx, hb, hml, hown, hts⟩ (c_F_M_run_6_4_1_1 l D cI cJ cZ cP cS po mv mb (q_6) (mm) (mq) q_7 (x_9) (by omega) (by omega) H.size) (cwV 4 hts gX1_run_X1_run rfl rfl rfl ⟨rfl, dh_X1_run⟩ ⟨Nat.le_of_ble_eq_true rfl, Nat.le_of_ble_eq_true rfl⟩) hK hN (hZ.kept hS) hP hD hS hA [0, 1] [] rfl rfl (by decide) (by decide) (by decide) (va_recv (q := (RX1, TX1, 5)) hK hP (ci := 1) (q0 := 0) rfl rfl) rfl hl.1 rfl (Nat.le_of_ble_eq_true rfl) dX1_run_281 ⟨Nat.le_of_ble_eq_true rfl, Nat.le_of_ble_eq_true rfl⟩ (fun r_10 u_11 H locs hr_10 hP hD hS => ?_)
      obtain ⟨q_12, q_13⟩ := u_11
      try dsimp only at hr_10
      obtain ⟨hbq_12, hsr_10_0, hsr_10_1, hr_10⟩ := hr_10
      have h9R := zRe (ws' := [(mv, .inr (1, [.ref mb, .int q_12, .int 6, .int mm, .int mq])), (mb, .inl (cI, 20, .inl q_13))]) hP hD rfl
      clear hP hD
      obtain ⟨hP, hD⟩ := h9R
      exact W.iret (v := r_10) hx hb hr (fun t ht hW => ⟨⟨r_10, (q_12, q_13), rfl, ⟨(show q_12.toInt = mr.toInt + 5 from by omega), (show (r_10 : Int32) = (((((x - mq) + mm) - mm) * 2) * 2) from by ((try rw [ex_9]); (try rw [hsr_10_0]); (try rw [ex_9]); first | done | rfl)), (show q_13 = zTr fb mr.toInt [71, 11, 70, 51, 10] from by (rw [hsr_10_1]; rw [hsr_4_0]; rw [zTr_app (by (have q : (([71] : List Int32).length : Int) = 1 := rfl; omega))]; first | done | rfl)), trivial⟩, zRet ht hP hD [0, 1] (by decide) rfl⟩, hS.F ht⟩) hS.2.2 dX1_run_284
    · exact absurd c_3 (by decide)
set_option maxHeartbeats 4000000 in
set_option maxRecDepth 100000 in
theorem c_F_M_run_6_0_0_6 (l : Launch) (D : va_G) (cI cJ cZ cP cS : ClassId) (po : zPool) (mv mb : Nat) (mr mm mq : Int32) (fb : Nat → Int32) (x : Int32) (hy0 : 0 ≤ mr.toInt) (hy1 : mr.toInt ≤ 1600) (hpz : Nat) : Met l yX1_run wsX1_run ({ frames := 2, cells := 0, slots := 0, locals := 46 }) (va_Pc [.ref mv, .int 0, .int 0, .int x, .int 6] (zW D (zKT cI cJ cZ cP cS) po [(mv, .inr (1, [.ref mb, .int mr, .int 6, .int mm, .int mq])), (mb, .inl (cI, 20, .inl fb))] hpz)) (va_Qi (fun (r : Int32) (u : (Int32) × (Nat → Int32)) => u.1.toInt = mr.toInt + 1 ∧ (r = (x + mm)) ∧ (u.2 = zTr fb mr.toInt [10]) ∧ (True)) (zB D [(mv, .inr (1, [.ref mb, .int mr, .int 6, .int mm, .int mq])), (mb, .inl (cI, 20, .inl fb))] hpz (fun (u : (Int32) × (Nat → Int32)) => [(mv, .inr (1, [.ref mb, .int u.1, .int 6, .int mm, .int mq])), (mb, .inl (cI, 20, .inl u.2))])) (va_A [(mv, .inr (1, [.ref mb, .int mr, .int 6, .int mm, .int mq])), (mb, .inl (cI, 20, .inl fb))] hpz)) 0 0 (va_A [(mv, .inr (1, [.ref mb, .int mr, .int 6, .int mm, .int mq])), (mb, .inl (cI, 20, .inl fb))] hpz) := by
  refine Met.ofW (cc := cX1_run) (maxL := 7) (ret := (some .int)) (by decide) rfl ?_
  intro p e s m args below meth c s₁ B hml hv
  obtain ⟨rfl, hsz, hP, hK, hD0, hN, hZ⟩ := hv
  have hx := B.exec
  have hb := B.bytes
  have hr := B.returns
  have hts := atoms_spec (ws := wsX1_run) B.pre
  have hown : s.vm.findClass RX1 = some m.cls := findClass_of_methodNamed B.named
  have hlocks := B.notSynchronized
  subst hsz
  have hD := hD0.self (sz := s.heap.size)
  have hA := zA_of hD
  have hl := lv_entry ([.ref mv, .int 0, .int 0, .int x, .int 6]) (n := 7) (Nat.le_of_ble_eq_true rfl)
  rw [lg_entry_eq]
  generalize (lg_sl ([.ref mv, .int 0, .int 0, .int x, .int 6]) ++ List.replicate (7 - (lg_sl ([.ref mv, .int 0, .int 0, .int x, .int 6])).length) Slot.unset).toArray = ls at hl ⊢
  replace hl : lv_has ls 7 [(0, .ref mv), (1, .int 0), (2, .int 0), (3, .int x), (4, .int 6)] := hl
  refine zw_begin hP hD (fun H locs hP1 hS => ?_)
  clear hP
  have hP := hP1
  clear hP1
  refine lv_iload_n hx hb dX1_run_0 rfl (lv_at hl 1 rfl) ?_
  refine lv_iload_n hx hb dX1_run_1 rfl (lv_at hl 2 rfl) ?_
  refine zc_S (As := [.int 0, .int 0]) (rest := []) ⟨hx, hb, hml, hown, hts⟩ (c_M_bodyFor_0_0 l D cI cJ cZ cP cS po  ) (va_cwS 2 hts gX1_run_X1_bodyFor rfl rfl rfl dh_X1_bodyFor ⟨Nat.le_of_ble_eq_true rfl, Nat.le_of_ble_eq_true rfl⟩) hK hN (hZ.kept hS) rfl hl.1 rfl (Nat.le_of_ble_eq_true rfl) dX1_run_2 ⟨Nat.le_of_ble_eq_true rfl, Nat.le_of_ble_eq_true rfl⟩ (fun r_1 hr_1 => ?_)
  obtain rfl := hr_1
  refine lv_istore (lv' := [(5, .int 10), (0, .ref mv), (1, .int 0), (2, .int 0), (3, .int x), (4, .int 6)]) hx hb dX1_run_5 hl (by decide) rfl (fun ls hl => ?_)
  refine lv_iload hx hb dX1_run_7 (lv_at hl 0 rfl) ?_
  refine lv_iconst (v := (-1)) hx hb dX1_run_9 (by decide) ?_
  refine lv_icmp_eq (tgt := 20) hx hb dX1_run_10 (by decide) (fun c_2 => ?_) (fun c_2 => ?_)
  · exact absurd c_2 (by decide)
  · refine lv_iload hx hb dX1_run_13 (lv_at hl 5 rfl) ?_
    refine lv_bipush (v := 40) hx hb dX1_run_15 (by decide) ?_
    refine lv_icmp_lt (tgt := 22) hx hb dX1_run_17 (by decide) (fun c_3 => ?_) (fun c_3 => ?_)
    · refine lv_aload_n hx hb dX1_run_22 rfl (lv_at hl 1 rfl) ?_
      refine lv_iload hx hb dX1_run_23 (lv_at hl 0 rfl) ?_
      skip
      refine zw_Vv (As := [.int 10]) (rest := []) (wr := []) ⟨hx, hb, hml, hown, hts⟩ (c_F_M_note l D cI cJ cZ cP cS po mv mb (mr) (6) (mm) (mq) fb (10) hy0 (by omega) H.size) (cwV 1 hts gX1_run_X1_note rfl rfl rfl ⟨rfl, dh_X1_note⟩ ⟨Nat.le_of_ble_eq_true rfl, Nat.le_of_ble_eq_true rfl⟩) hK hN (hZ.kept hS) hP hD hS hA [0, 1] [] rfl rfl (by decide) (by decide) (by decide) (va_recv (q := (RX1, TX1, 5)) hK hP (ci := 1) (q0 := 0) rfl rfl) rfl hl.1 rfl (Nat.le_of_ble_eq_true rfl) dX1_run_25 ⟨Nat.le_of_ble_eq_true rfl, Nat.le_of_ble_eq_true rfl⟩ (fun u_5 H locs hr_4 hP hD hS => ?_)
      obtain ⟨q_6, q_7⟩ := u_5
      try dsimp only at hr_4
      obtain ⟨hbq_6, hsr_4_0, hr_4⟩ := hr_4
      have h9R := zRe (ws' := [(mv, .inr (1, [.ref mb, .int q_6, .int 6, .int mm, .int mq])), (mb, .inl (cI, 20, .inl q_7))]) hP hD rfl
      clear hP hD
      obtain ⟨hP, hD⟩ := h9R
      refine lv_iload hx hb dX1_run_28 (lv_at hl 5 rfl) ?_
      refine lv_iconst (v := 1) hx hb dX1_run_30 (by decide) ?_
      refine lv_iadd hx hb dX1_run_31 ?_
      refine lv_topi (fun y_8 ey_8 => ?_)
      obtain rfl : y_8 = 7 := ey_8.trans (by decide)
      refine lv_istore (lv' := [(6, .int 7), (5, .int 10), (0, .ref mv), (1, .int 0), (2, .int 0), (3, .int x), (4, .int 6)]) hx hb dX1_run_32 hl (by decide) rfl (fun ls hl => ?_)
      refine lv_iload hx hb dX1_run_34 (lv_at hl 1 rfl) ?_
      refine lv_lookup (off := 92) (tgt := 128) hx hb dX1_run_36 (by decide) (by decide) (by decide) ?_
      refine lv_iload_n hx hb dX1_run_128 rfl (lv_at hl 5 rfl) ?_
      refine lv_aload_n hx hb dX1_run_129 rfl (lv_at hl 2 rfl) ?_
      refine va_get (D := D) (ci := 1) (v := .int mm) (C := RX1) (T := TX1) (N := 5) hx hb hts hi_X1_run_1 hown hK hP 0 rfl rfl 3 (by decide) (hts (.fieldLink RX1 22 "TheLiningsInIt$Moves" "m" "I") (List.mem_of_getElem? (i := 1) rfl)) (fun _ h9 => h9) rfl dX1_run_130 ?_
      refine lv_iadd hx hb dX1_run_133 ?_
      refine lv_topi (fun x_9 ex_9 => ?_)
      exact W.iret (v := x_9) hx hb hr (fun t ht hW => ⟨⟨x_9, (q_6, q_7), rfl, ⟨(show q_6.toInt = mr.toInt + 1 from by omega), (show (x_9 : Int32) = (x + mm) from by ((try rw [ex_9]); (try rw [ex_9]); first | done | rfl)), (show q_7 = zTr fb mr.toInt [10] from by (rw [hsr_4_0]; first | done | rfl)), trivial⟩, zRet ht hP hD [0, 1] (by decide) rfl⟩, hS.F ht⟩) hS.2.2 dX1_run_134
    · exact absurd c_3 (by decide)
set_option maxHeartbeats 4000000 in
set_option maxRecDepth 100000 in
theorem c_F_M_run_6_4_0_5 (l : Launch) (D : va_G) (cI cJ cZ cP cS : ClassId) (po : zPool) (mv mb : Nat) (mr mm mq : Int32) (fb : Nat → Int32) (x : Int32) (hy0 : 0 ≤ mr.toInt) (hy1 : mr.toInt ≤ 1500) (hpz : Nat) : Met l yX1_run wsX1_run ({ frames := 3, cells := 0, slots := 0, locals := 72 }) (va_Pc [.ref mv, .int 4, .int 0, .int x, .int 5] (zW D (zKT cI cJ cZ cP cS) po [(mv, .inr (1, [.ref mb, .int mr, .int 6, .int mm, .int mq])), (mb, .inl (cI, 20, .inl fb))] hpz)) (va_Qi (fun (r : Int32) (u : (Int32) × (Nat → Int32)) => u.1.toInt = mr.toInt + 2 ∧ (r = ((x + mm) - mm)) ∧ (u.2 = zTr fb mr.toInt [51, 10]) ∧ (True)) (zB D [(mv, .inr (1, [.ref mb, .int mr, .int 6, .int mm, .int mq])), (mb, .inl (cI, 20, .inl fb))] hpz (fun (u : (Int32) × (Nat → Int32)) => [(mv, .inr (1, [.ref mb, .int u.1, .int 6, .int mm, .int mq])), (mb, .inl (cI, 20, .inl u.2))])) (va_A [(mv, .inr (1, [.ref mb, .int mr, .int 6, .int mm, .int mq])), (mb, .inl (cI, 20, .inl fb))] hpz)) 0 0 (va_A [(mv, .inr (1, [.ref mb, .int mr, .int 6, .int mm, .int mq])), (mb, .inl (cI, 20, .inl fb))] hpz) := by
  refine Met.ofW (cc := cX1_run) (maxL := 7) (ret := (some .int)) (by decide) rfl ?_
  intro p e s m args below meth c s₁ B hml hv
  obtain ⟨rfl, hsz, hP, hK, hD0, hN, hZ⟩ := hv
  have hx := B.exec
  have hb := B.bytes
  have hr := B.returns
  have hts := atoms_spec (ws := wsX1_run) B.pre
  have hown : s.vm.findClass RX1 = some m.cls := findClass_of_methodNamed B.named
  have hlocks := B.notSynchronized
  subst hsz
  have hD := hD0.self (sz := s.heap.size)
  have hA := zA_of hD
  have hl := lv_entry ([.ref mv, .int 4, .int 0, .int x, .int 5]) (n := 7) (Nat.le_of_ble_eq_true rfl)
  rw [lg_entry_eq]
  generalize (lg_sl ([.ref mv, .int 4, .int 0, .int x, .int 5]) ++ List.replicate (7 - (lg_sl ([.ref mv, .int 4, .int 0, .int x, .int 5])).length) Slot.unset).toArray = ls at hl ⊢
  replace hl : lv_has ls 7 [(0, .ref mv), (1, .int 4), (2, .int 0), (3, .int x), (4, .int 5)] := hl
  refine zw_begin hP hD (fun H locs hP1 hS => ?_)
  clear hP
  have hP := hP1
  clear hP1
  refine lv_iload_n hx hb dX1_run_0 rfl (lv_at hl 1 rfl) ?_
  refine lv_iload_n hx hb dX1_run_1 rfl (lv_at hl 2 rfl) ?_
  refine zc_S (As := [.int 4, .int 0]) (rest := []) ⟨hx, hb, hml, hown, hts⟩ (c_M_bodyFor_4_0 l D cI cJ cZ cP cS po  ) (va_cwS 2 hts gX1_run_X1_bodyFor rfl rfl rfl dh_X1_bodyFor ⟨Nat.le_of_ble_eq_true rfl, Nat.le_of_ble_eq_true rfl⟩) hK hN (hZ.kept hS) rfl hl.1 rfl (Nat.le_of_ble_eq_true rfl) dX1_run_2 ⟨Nat.le_of_ble_eq_true rfl, Nat.le_of_ble_eq_true rfl⟩ (fun r_1 hr_1 => ?_)
  obtain rfl := hr_1
  refine lv_istore (lv' := [(5, .int 51), (0, .ref mv), (1, .int 4), (2, .int 0), (3, .int x), (4, .int 5)]) hx hb dX1_run_5 hl (by decide) rfl (fun ls hl => ?_)
  refine lv_iload hx hb dX1_run_7 (lv_at hl 0 rfl) ?_
  refine lv_iconst (v := (-1)) hx hb dX1_run_9 (by decide) ?_
  refine lv_icmp_eq (tgt := 20) hx hb dX1_run_10 (by decide) (fun c_2 => ?_) (fun c_2 => ?_)
  · exact absurd c_2 (by decide)
  · refine lv_iload hx hb dX1_run_13 (lv_at hl 5 rfl) ?_
    refine lv_bipush (v := 40) hx hb dX1_run_15 (by decide) ?_
    refine lv_icmp_lt (tgt := 22) hx hb dX1_run_17 (by decide) (fun c_3 => ?_) (fun c_3 => ?_)
    · refine lv_aload_n hx hb dX1_run_22 rfl (lv_at hl 1 rfl) ?_
      refine lv_iload hx hb dX1_run_23 (lv_at hl 0 rfl) ?_
      skip
      refine zw_Vv (As := [.int 51]) (rest := []) (wr := []) ⟨hx, hb, hml, hown, hts⟩ (c_F_M_note l D cI cJ cZ cP cS po mv mb (mr) (6) (mm) (mq) fb (51) hy0 (by omega) H.size) (cwV 1 hts gX1_run_X1_note rfl rfl rfl ⟨rfl, dh_X1_note⟩ ⟨Nat.le_of_ble_eq_true rfl, Nat.le_of_ble_eq_true rfl⟩) hK hN (hZ.kept hS) hP hD hS hA [0, 1] [] rfl rfl (by decide) (by decide) (by decide) (va_recv (q := (RX1, TX1, 5)) hK hP (ci := 1) (q0 := 0) rfl rfl) rfl hl.1 rfl (Nat.le_of_ble_eq_true rfl) dX1_run_25 ⟨Nat.le_of_ble_eq_true rfl, Nat.le_of_ble_eq_true rfl⟩ (fun u_5 H locs hr_4 hP hD hS => ?_)
      obtain ⟨q_6, q_7⟩ := u_5
      try dsimp only at hr_4
      obtain ⟨hbq_6, hsr_4_0, hr_4⟩ := hr_4
      have h9R := zRe (ws' := [(mv, .inr (1, [.ref mb, .int q_6, .int 6, .int mm, .int mq])), (mb, .inl (cI, 20, .inl q_7))]) hP hD rfl
      clear hP hD
      obtain ⟨hP, hD⟩ := h9R
      refine lv_iload hx hb dX1_run_28 (lv_at hl 5 rfl) ?_
      refine lv_iconst (v := 1) hx hb dX1_run_30 (by decide) ?_
      refine lv_iadd hx hb dX1_run_31 ?_
      refine lv_topi (fun y_8 ey_8 => ?_)
      obtain rfl : y_8 = 6 := ey_8.trans (by decide)
      refine lv_istore (lv' := [(6, .int 6), (5, .int 51), (0, .ref mv), (1, .int 4), (2, .int 0), (3, .int x), (4, .int 5)]) hx hb dX1_run_32 hl (by decide) rfl (fun ls hl => ?_)
      refine lv_iload hx hb dX1_run_34 (lv_at hl 1 rfl) ?_
      refine lv_lookup (off := 195) (tgt := 231) hx hb dX1_run_36 (by decide) (by decide) (by decide) ?_
      refine lv_aload_n hx hb dX1_run_231 rfl (lv_at hl 2 rfl) ?_
      refine lv_iconst (v := 0) hx hb dX1_run_232 (by decide) ?_
      refine lv_iconst (v := 0) hx hb dX1_run_233 (by decide) ?_
      refine lv_iload_n hx hb dX1_run_234 rfl (lv_at hl 5 rfl) ?_
      refine lv_iload hx hb dX1_run_235 (lv_at hl 0 rfl) ?_
      skip
      refine zw_V (As := [.int 0, .int 0, .int x, .int 6]) (rest := []) (wr := []) ⟨hx, hb, hml, hown, hts⟩ (c_F_M_run_6_0_0_6 l D cI cJ cZ cP cS po mv mb (q_6) (mm) (mq) q_7 (x) (by omega) (by omega) H.size) (cwV 4 hts gX1_run_X1_run rfl rfl rfl ⟨rfl, dh_X1_run⟩ ⟨Nat.le_of_ble_eq_true rfl, Nat.le_of_ble_eq_true rfl⟩) hK hN (hZ.kept hS) hP hD hS hA [0, 1] [] rfl rfl (by decide) (by decide) (by decide) (va_recv (q := (RX1, TX1, 5)) hK hP (ci := 1) (q0 := 0) rfl rfl) rfl hl.1 rfl (Nat.le_of_ble_eq_true rfl) dX1_run_237 ⟨Nat.le_of_ble_eq_true rfl, Nat.le_of_ble_eq_true rfl⟩ (fun r_9 u_10 H locs hr_9 hP hD hS => ?_)
      obtain ⟨q_11, q_12⟩ := u_10
      try dsimp only at hr_9
      obtain ⟨hbq_11, hsr_9_0, hsr_9_1, hr_9⟩ := hr_9
      have h9R := zRe (ws' := [(mv, .inr (1, [.ref mb, .int q_11, .int 6, .int mm, .int mq])), (mb, .inl (cI, 20, .inl q_12))]) hP hD rfl
      clear hP hD
      obtain ⟨hP, hD⟩ := h9R
      refine lv_aload_n hx hb dX1_run_240 rfl (lv_at hl 2 rfl) ?_
      refine va_get (D := D) (ci := 1) (v := .int mm) (C := RX1) (T := TX1) (N := 5) hx hb hts hi_X1_run_1 hown hK hP 0 rfl rfl 3 (by decide) (hts (.fieldLink RX1 22 "TheLiningsInIt$Moves" "m" "I") (List.mem_of_getElem? (i := 1) rfl)) (fun _ h9 => h9) rfl dX1_run_241 ?_
      refine lv_isub hx hb dX1_run_244 ?_
      refine lv_topi (fun x_13 ex_13 => ?_)
      exact W.iret (v := x_13) hx hb hr (fun t ht hW => ⟨⟨x_13, (q_11, q_12), rfl, ⟨(show q_11.toInt = mr.toInt + 2 from by omega), (show (x_13 : Int32) = ((x + mm) - mm) from by ((try rw [ex_13]); (try rw [hsr_9_0]); (try rw [ex_13]); first | done | rfl)), (show q_12 = zTr fb mr.toInt [51, 10] from by (rw [hsr_9_1]; rw [hsr_4_0]; rw [zTr_app (by (have q : (([51] : List Int32).length : Int) = 1 := rfl; omega))]; first | done | rfl)), trivial⟩, zRet ht hP hD [0, 1] (by decide) rfl⟩, hS.F ht⟩) hS.2.2 dX1_run_245
    · exact absurd c_3 (by decide)
set_option maxHeartbeats 4000000 in
set_option maxRecDepth 100000 in
theorem c_F_M_run_6_6_0_4 (l : Launch) (D : va_G) (cI cJ cZ cP cS : ClassId) (po : zPool) (mv mb : Nat) (mr mm mq : Int32) (fb : Nat → Int32) (x : Int32) (hy0 : 0 ≤ mr.toInt) (hy1 : mr.toInt ≤ 1400) (hpz : Nat) : Met l yX1_run wsX1_run ({ frames := 4, cells := 0, slots := 0, locals := 98 }) (va_Pc [.ref mv, .int 6, .int 0, .int x, .int 4] (zW D (zKT cI cJ cZ cP cS) po [(mv, .inr (1, [.ref mb, .int mr, .int 6, .int mm, .int mq])), (mb, .inl (cI, 20, .inl fb))] hpz)) (va_Qi (fun (r : Int32) (u : (Int32) × (Nat → Int32)) => u.1.toInt = mr.toInt + 3 ∧ (r = (((x + mm) - mm) * 2)) ∧ (u.2 = zTr fb mr.toInt [70, 51, 10]) ∧ (True)) (zB D [(mv, .inr (1, [.ref mb, .int mr, .int 6, .int mm, .int mq])), (mb, .inl (cI, 20, .inl fb))] hpz (fun (u : (Int32) × (Nat → Int32)) => [(mv, .inr (1, [.ref mb, .int u.1, .int 6, .int mm, .int mq])), (mb, .inl (cI, 20, .inl u.2))])) (va_A [(mv, .inr (1, [.ref mb, .int mr, .int 6, .int mm, .int mq])), (mb, .inl (cI, 20, .inl fb))] hpz)) 0 0 (va_A [(mv, .inr (1, [.ref mb, .int mr, .int 6, .int mm, .int mq])), (mb, .inl (cI, 20, .inl fb))] hpz) := by
  refine Met.ofW (cc := cX1_run) (maxL := 7) (ret := (some .int)) (by decide) rfl ?_
  intro p e s m args below meth c s₁ B hml hv
  obtain ⟨rfl, hsz, hP, hK, hD0, hN, hZ⟩ := hv
  have hx := B.exec
  have hb := B.bytes
  have hr := B.returns
  have hts := atoms_spec (ws := wsX1_run) B.pre
  have hown : s.vm.findClass RX1 = some m.cls := findClass_of_methodNamed B.named
  have hlocks := B.notSynchronized
  subst hsz
  have hD := hD0.self (sz := s.heap.size)
  have hA := zA_of hD
  have hl := lv_entry ([.ref mv, .int 6, .int 0, .int x, .int 4]) (n := 7) (Nat.le_of_ble_eq_true rfl)
  rw [lg_entry_eq]
  generalize (lg_sl ([.ref mv, .int 6, .int 0, .int x, .int 4]) ++ List.replicate (7 - (lg_sl ([.ref mv, .int 6, .int 0, .int x, .int 4])).length) Slot.unset).toArray = ls at hl ⊢
  replace hl : lv_has ls 7 [(0, .ref mv), (1, .int 6), (2, .int 0), (3, .int x), (4, .int 4)] := hl
  refine zw_begin hP hD (fun H locs hP1 hS => ?_)
  clear hP
  have hP := hP1
  clear hP1
  refine lv_iload_n hx hb dX1_run_0 rfl (lv_at hl 1 rfl) ?_
  refine lv_iload_n hx hb dX1_run_1 rfl (lv_at hl 2 rfl) ?_
  refine zc_S (As := [.int 6, .int 0]) (rest := []) ⟨hx, hb, hml, hown, hts⟩ (c_M_bodyFor_6_0 l D cI cJ cZ cP cS po  ) (va_cwS 2 hts gX1_run_X1_bodyFor rfl rfl rfl dh_X1_bodyFor ⟨Nat.le_of_ble_eq_true rfl, Nat.le_of_ble_eq_true rfl⟩) hK hN (hZ.kept hS) rfl hl.1 rfl (Nat.le_of_ble_eq_true rfl) dX1_run_2 ⟨Nat.le_of_ble_eq_true rfl, Nat.le_of_ble_eq_true rfl⟩ (fun r_1 hr_1 => ?_)
  obtain rfl := hr_1
  refine lv_istore (lv' := [(5, .int 70), (0, .ref mv), (1, .int 6), (2, .int 0), (3, .int x), (4, .int 4)]) hx hb dX1_run_5 hl (by decide) rfl (fun ls hl => ?_)
  refine lv_iload hx hb dX1_run_7 (lv_at hl 0 rfl) ?_
  refine lv_iconst (v := (-1)) hx hb dX1_run_9 (by decide) ?_
  refine lv_icmp_eq (tgt := 20) hx hb dX1_run_10 (by decide) (fun c_2 => ?_) (fun c_2 => ?_)
  · exact absurd c_2 (by decide)
  · refine lv_iload hx hb dX1_run_13 (lv_at hl 5 rfl) ?_
    refine lv_bipush (v := 40) hx hb dX1_run_15 (by decide) ?_
    refine lv_icmp_lt (tgt := 22) hx hb dX1_run_17 (by decide) (fun c_3 => ?_) (fun c_3 => ?_)
    · refine lv_aload_n hx hb dX1_run_22 rfl (lv_at hl 1 rfl) ?_
      refine lv_iload hx hb dX1_run_23 (lv_at hl 0 rfl) ?_
      skip
      refine zw_Vv (As := [.int 70]) (rest := []) (wr := []) ⟨hx, hb, hml, hown, hts⟩ (c_F_M_note l D cI cJ cZ cP cS po mv mb (mr) (6) (mm) (mq) fb (70) hy0 (by omega) H.size) (cwV 1 hts gX1_run_X1_note rfl rfl rfl ⟨rfl, dh_X1_note⟩ ⟨Nat.le_of_ble_eq_true rfl, Nat.le_of_ble_eq_true rfl⟩) hK hN (hZ.kept hS) hP hD hS hA [0, 1] [] rfl rfl (by decide) (by decide) (by decide) (va_recv (q := (RX1, TX1, 5)) hK hP (ci := 1) (q0 := 0) rfl rfl) rfl hl.1 rfl (Nat.le_of_ble_eq_true rfl) dX1_run_25 ⟨Nat.le_of_ble_eq_true rfl, Nat.le_of_ble_eq_true rfl⟩ (fun u_5 H locs hr_4 hP hD hS => ?_)
      obtain ⟨q_6, q_7⟩ := u_5
      try dsimp only at hr_4
      obtain ⟨hbq_6, hsr_4_0, hr_4⟩ := hr_4
      have h9R := zRe (ws' := [(mv, .inr (1, [.ref mb, .int q_6, .int 6, .int mm, .int mq])), (mb, .inl (cI, 20, .inl q_7))]) hP hD rfl
      clear hP hD
      obtain ⟨hP, hD⟩ := h9R
      refine lv_iload hx hb dX1_run_28 (lv_at hl 5 rfl) ?_
      refine lv_iconst (v := 1) hx hb dX1_run_30 (by decide) ?_
      refine lv_iadd hx hb dX1_run_31 ?_
      refine lv_topi (fun y_8 ey_8 => ?_)
      obtain rfl : y_8 = 5 := ey_8.trans (by decide)
      refine lv_istore (lv' := [(6, .int 5), (5, .int 70), (0, .ref mv), (1, .int 6), (2, .int 0), (3, .int x), (4, .int 4)]) hx hb dX1_run_32 hl (by decide) rfl (fun ls hl => ?_)
      refine lv_iload hx hb dX1_run_34 (lv_at hl 1 rfl) ?_
      refine lv_lookup (off := 222) (tgt := 258) hx hb dX1_run_36 (by decide) (by decide) (by decide) ?_
      refine lv_aload_n hx hb dX1_run_258 rfl (lv_at hl 2 rfl) ?_
      refine lv_iconst (v := 4) hx hb dX1_run_259 (by decide) ?_
      refine lv_iconst (v := 0) hx hb dX1_run_260 (by decide) ?_
      refine lv_iload_n hx hb dX1_run_261 rfl (lv_at hl 5 rfl) ?_
      refine lv_iload hx hb dX1_run_262 (lv_at hl 0 rfl) ?_
      skip
      refine zw_V (As := [.int 4, .int 0, .int x, .int 5]) (rest := []) (wr := []) ⟨hx, hb, hml, hown, hts⟩ (c_F_M_run_6_4_0_5 l D cI cJ cZ cP cS po mv mb (q_6) (mm) (mq) q_7 (x) (by omega) (by omega) H.size) (cwV 4 hts gX1_run_X1_run rfl rfl rfl ⟨rfl, dh_X1_run⟩ ⟨Nat.le_of_ble_eq_true rfl, Nat.le_of_ble_eq_true rfl⟩) hK hN (hZ.kept hS) hP hD hS hA [0, 1] [] rfl rfl (by decide) (by decide) (by decide) (va_recv (q := (RX1, TX1, 5)) hK hP (ci := 1) (q0 := 0) rfl rfl) rfl hl.1 rfl (Nat.le_of_ble_eq_true rfl) dX1_run_264 ⟨Nat.le_of_ble_eq_true rfl, Nat.le_of_ble_eq_true rfl⟩ (fun r_9 u_10 H locs hr_9 hP hD hS => ?_)
      obtain ⟨q_11, q_12⟩ := u_10
      try dsimp only at hr_9
      obtain ⟨hbq_11, hsr_9_0, hsr_9_1, hr_9⟩ := hr_9
      have h9R := zRe (ws' := [(mv, .inr (1, [.ref mb, .int q_11, .int 6, .int mm, .int mq])), (mb, .inl (cI, 20, .inl q_12))]) hP hD rfl
      clear hP hD
      obtain ⟨hP, hD⟩ := h9R
      refine lv_iconst (v := 2) hx hb dX1_run_267 (by decide) ?_
      refine lv_imul hx hb dX1_run_268 ?_
      refine lv_topi (fun x_13 ex_13 => ?_)
      exact W.iret (v := x_13) hx hb hr (fun t ht hW => ⟨⟨x_13, (q_11, q_12), rfl, ⟨(show q_11.toInt = mr.toInt + 3 from by omega), (show (x_13 : Int32) = (((x + mm) - mm) * 2) from by ((try rw [ex_13]); (try rw [hsr_9_0]); (try rw [ex_13]); first | done | rfl)), (show q_12 = zTr fb mr.toInt [70, 51, 10] from by (rw [hsr_9_1]; rw [hsr_4_0]; rw [zTr_app (by (have q : (([70] : List Int32).length : Int) = 1 := rfl; omega))]; first | done | rfl)), trivial⟩, zRet ht hP hD [0, 1] (by decide) rfl⟩, hS.F ht⟩) hS.2.2 dX1_run_269
    · exact absurd c_3 (by decide)
set_option maxHeartbeats 4000000 in
set_option maxRecDepth 100000 in
theorem c_F_M_run_6_4_1_3 (l : Launch) (D : va_G) (cI cJ cZ cP cS : ClassId) (po : zPool) (mv mb : Nat) (mr mm mq : Int32) (fb : Nat → Int32) (x : Int32) (hy0 : 0 ≤ mr.toInt) (hy1 : mr.toInt ≤ 1300) (hpz : Nat) : Met l yX1_run wsX1_run ({ frames := 5, cells := 0, slots := 0, locals := 124 }) (va_Pc [.ref mv, .int 4, .int 1, .int x, .int 3] (zW D (zKT cI cJ cZ cP cS) po [(mv, .inr (1, [.ref mb, .int mr, .int 6, .int mm, .int mq])), (mb, .inl (cI, 20, .inl fb))] hpz)) (va_Qi (fun (r : Int32) (u : (Int32) × (Nat → Int32)) => u.1.toInt = mr.toInt + 4 ∧ (r = ((((x + mm) - mm) * 2) * 2)) ∧ (u.2 = zTr fb mr.toInt [11, 70, 51, 10]) ∧ (True)) (zB D [(mv, .inr (1, [.ref mb, .int mr, .int 6, .int mm, .int mq])), (mb, .inl (cI, 20, .inl fb))] hpz (fun (u : (Int32) × (Nat → Int32)) => [(mv, .inr (1, [.ref mb, .int u.1, .int 6, .int mm, .int mq])), (mb, .inl (cI, 20, .inl u.2))])) (va_A [(mv, .inr (1, [.ref mb, .int mr, .int 6, .int mm, .int mq])), (mb, .inl (cI, 20, .inl fb))] hpz)) 0 0 (va_A [(mv, .inr (1, [.ref mb, .int mr, .int 6, .int mm, .int mq])), (mb, .inl (cI, 20, .inl fb))] hpz) := by
  refine Met.ofW (cc := cX1_run) (maxL := 7) (ret := (some .int)) (by decide) rfl ?_
  intro p e s m args below meth c s₁ B hml hv
  obtain ⟨rfl, hsz, hP, hK, hD0, hN, hZ⟩ := hv
  have hx := B.exec
  have hb := B.bytes
  have hr := B.returns
  have hts := atoms_spec (ws := wsX1_run) B.pre
  have hown : s.vm.findClass RX1 = some m.cls := findClass_of_methodNamed B.named
  have hlocks := B.notSynchronized
  subst hsz
  have hD := hD0.self (sz := s.heap.size)
  have hA := zA_of hD
  have hl := lv_entry ([.ref mv, .int 4, .int 1, .int x, .int 3]) (n := 7) (Nat.le_of_ble_eq_true rfl)
  rw [lg_entry_eq]
  generalize (lg_sl ([.ref mv, .int 4, .int 1, .int x, .int 3]) ++ List.replicate (7 - (lg_sl ([.ref mv, .int 4, .int 1, .int x, .int 3])).length) Slot.unset).toArray = ls at hl ⊢
  replace hl : lv_has ls 7 [(0, .ref mv), (1, .int 4), (2, .int 1), (3, .int x), (4, .int 3)] := hl
  refine zw_begin hP hD (fun H locs hP1 hS => ?_)
  clear hP
  have hP := hP1
  clear hP1
  refine lv_iload_n hx hb dX1_run_0 rfl (lv_at hl 1 rfl) ?_
  refine lv_iload_n hx hb dX1_run_1 rfl (lv_at hl 2 rfl) ?_
  refine zc_S (As := [.int 4, .int 1]) (rest := []) ⟨hx, hb, hml, hown, hts⟩ (c_M_bodyFor_4_1 l D cI cJ cZ cP cS po  ) (va_cwS 2 hts gX1_run_X1_bodyFor rfl rfl rfl dh_X1_bodyFor ⟨Nat.le_of_ble_eq_true rfl, Nat.le_of_ble_eq_true rfl⟩) hK hN (hZ.kept hS) rfl hl.1 rfl (Nat.le_of_ble_eq_true rfl) dX1_run_2 ⟨Nat.le_of_ble_eq_true rfl, Nat.le_of_ble_eq_true rfl⟩ (fun r_1 hr_1 => ?_)
  obtain rfl := hr_1
  refine lv_istore (lv' := [(5, .int 11), (0, .ref mv), (1, .int 4), (2, .int 1), (3, .int x), (4, .int 3)]) hx hb dX1_run_5 hl (by decide) rfl (fun ls hl => ?_)
  refine lv_iload hx hb dX1_run_7 (lv_at hl 0 rfl) ?_
  refine lv_iconst (v := (-1)) hx hb dX1_run_9 (by decide) ?_
  refine lv_icmp_eq (tgt := 20) hx hb dX1_run_10 (by decide) (fun c_2 => ?_) (fun c_2 => ?_)
  · exact absurd c_2 (by decide)
  · refine lv_iload hx hb dX1_run_13 (lv_at hl 5 rfl) ?_
    refine lv_bipush (v := 40) hx hb dX1_run_15 (by decide) ?_
    refine lv_icmp_lt (tgt := 22) hx hb dX1_run_17 (by decide) (fun c_3 => ?_) (fun c_3 => ?_)
    · refine lv_aload_n hx hb dX1_run_22 rfl (lv_at hl 1 rfl) ?_
      refine lv_iload hx hb dX1_run_23 (lv_at hl 0 rfl) ?_
      skip
      refine zw_Vv (As := [.int 11]) (rest := []) (wr := []) ⟨hx, hb, hml, hown, hts⟩ (c_F_M_note l D cI cJ cZ cP cS po mv mb (mr) (6) (mm) (mq) fb (11) hy0 (by omega) H.size) (cwV 1 hts gX1_run_X1_note rfl rfl rfl ⟨rfl, dh_X1_note⟩ ⟨Nat.le_of_ble_eq_true rfl, Nat.le_of_ble_eq_true rfl⟩) hK hN (hZ.kept hS) hP hD hS hA [0, 1] [] rfl rfl (by decide) (by decide) (by decide) (va_recv (q := (RX1, TX1, 5)) hK hP (ci := 1) (q0 := 0) rfl rfl) rfl hl.1 rfl (Nat.le_of_ble_eq_true rfl) dX1_run_25 ⟨Nat.le_of_ble_eq_true rfl, Nat.le_of_ble_eq_true rfl⟩ (fun u_5 H locs hr_4 hP hD hS => ?_)
      obtain ⟨q_6, q_7⟩ := u_5
      try dsimp only at hr_4
      obtain ⟨hbq_6, hsr_4_0, hr_4⟩ := hr_4
      have h9R := zRe (ws' := [(mv, .inr (1, [.ref mb, .int q_6, .int 6, .int mm, .int mq])), (mb, .inl (cI, 20, .inl q_7))]) hP hD rfl
      clear hP hD
      obtain ⟨hP, hD⟩ := h9R
      refine lv_iload hx hb dX1_run_28 (lv_at hl 5 rfl) ?_
      refine lv_iconst (v := 1) hx hb dX1_run_30 (by decide) ?_
      refine lv_iadd hx hb dX1_run_31 ?_
      refine lv_topi (fun y_8 ey_8 => ?_)
      obtain rfl : y_8 = 4 := ey_8.trans (by decide)
      refine lv_istore (lv' := [(6, .int 4), (5, .int 11), (0, .ref mv), (1, .int 4), (2, .int 1), (3, .int x), (4, .int 3)]) hx hb dX1_run_32 hl (by decide) rfl (fun ls hl => ?_)
      refine lv_iload hx hb dX1_run_34 (lv_at hl 1 rfl) ?_
      refine lv_lookup (off := 99) (tgt := 135) hx hb dX1_run_36 (by decide) (by decide) (by decide) ?_
      refine lv_aload_n hx hb dX1_run_135 rfl (lv_at hl 2 rfl) ?_
      refine lv_aload_n hx hb dX1_run_136 rfl (lv_at hl 2 rfl) ?_
      refine va_get (D := D) (ci := 1) (v := .int 6) (C := RX1) (T := TX1) (N := 5) hx hb hts hi_X1_run_1 hown hK hP 0 rfl rfl 2 (by decide) (hts (.fieldLink RX1 19 "TheLiningsInIt$Moves" "kind" "I") (List.mem_of_getElem? (i := 2) rfl)) (fun _ h9 => h9) rfl dX1_run_137 ?_
      refine lv_iconst (v := 0) hx hb dX1_run_140 (by decide) ?_
      refine lv_iload_n hx hb dX1_run_141 rfl (lv_at hl 5 rfl) ?_
      refine lv_iload hx hb dX1_run_142 (lv_at hl 0 rfl) ?_
      skip
      refine zw_V (As := [.int 6, .int 0, .int x, .int 4]) (rest := []) (wr := []) ⟨hx, hb, hml, hown, hts⟩ (c_F_M_run_6_6_0_4 l D cI cJ cZ cP cS po mv mb (q_6) (mm) (mq) q_7 (x) (by omega) (by omega) H.size) (cwV 4 hts gX1_run_X1_run rfl rfl rfl ⟨rfl, dh_X1_run⟩ ⟨Nat.le_of_ble_eq_true rfl, Nat.le_of_ble_eq_true rfl⟩) hK hN (hZ.kept hS) hP hD hS hA [0, 1] [] rfl rfl (by decide) (by decide) (by decide) (va_recv (q := (RX1, TX1, 5)) hK hP (ci := 1) (q0 := 0) rfl rfl) rfl hl.1 rfl (Nat.le_of_ble_eq_true rfl) dX1_run_144 ⟨Nat.le_of_ble_eq_true rfl, Nat.le_of_ble_eq_true rfl⟩ (fun r_9 u_10 H locs hr_9 hP hD hS => ?_)
      obtain ⟨q_11, q_12⟩ := u_10
      try dsimp only at hr_9
      obtain ⟨hbq_11, hsr_9_0, hsr_9_1, hr_9⟩ := hr_9
      have h9R := zRe (ws' := [(mv, .inr (1, [.ref mb, .int q_11, .int 6, .int mm, .int mq])), (mb, .inl (cI, 20, .inl q_12))]) hP hD rfl
      clear hP hD
      obtain ⟨hP, hD⟩ := h9R
      refine lv_iconst (v := 2) hx hb dX1_run_147 (by decide) ?_
      refine lv_imul hx hb dX1_run_148 ?_
      refine lv_topi (fun x_13 ex_13 => ?_)
      exact W.iret (v := x_13) hx hb hr (fun t ht hW => ⟨⟨x_13, (q_11, q_12), rfl, ⟨(show q_11.toInt = mr.toInt + 4 from by omega), (show (x_13 : Int32) = ((((x + mm) - mm) * 2) * 2) from by ((try rw [ex_13]); (try rw [hsr_9_0]); (try rw [ex_13]); first | done | rfl)), (show q_12 = zTr fb mr.toInt [11, 70, 51, 10] from by (rw [hsr_9_1]; rw [hsr_4_0]; rw [zTr_app (by (have q : (([11] : List Int32).length : Int) = 1 := rfl; omega))]; first | done | rfl)), trivial⟩, zRet ht hP hD [0, 1] (by decide) rfl⟩, hS.F ht⟩) hS.2.2 dX1_run_149
    · exact absurd c_3 (by decide)
set_option maxHeartbeats 4000000 in
set_option maxRecDepth 100000 in
theorem c_F_M_run_6_6_1_2 (l : Launch) (D : va_G) (cI cJ cZ cP cS : ClassId) (po : zPool) (mv mb : Nat) (mr mm mq : Int32) (fb : Nat → Int32) (x : Int32) (hy0 : 0 ≤ mr.toInt) (hy1 : mr.toInt ≤ 1200) (hpz : Nat) : Met l yX1_run wsX1_run ({ frames := 6, cells := 0, slots := 0, locals := 150 }) (va_Pc [.ref mv, .int 6, .int 1, .int x, .int 2] (zW D (zKT cI cJ cZ cP cS) po [(mv, .inr (1, [.ref mb, .int mr, .int 6, .int mm, .int mq])), (mb, .inl (cI, 20, .inl fb))] hpz)) (va_Qi (fun (r : Int32) (u : (Int32) × (Nat → Int32)) => u.1.toInt = mr.toInt + 5 ∧ (r = (((((x - mq) + mm) - mm) * 2) * 2)) ∧ (u.2 = zTr fb mr.toInt [71, 11, 70, 51, 10]) ∧ (True)) (zB D [(mv, .inr (1, [.ref mb, .int mr, .int 6, .int mm, .int mq])), (mb, .inl (cI, 20, .inl fb))] hpz (fun (u : (Int32) × (Nat → Int32)) => [(mv, .inr (1, [.ref mb, .int u.1, .int 6, .int mm, .int mq])), (mb, .inl (cI, 20, .inl u.2))])) (va_A [(mv, .inr (1, [.ref mb, .int mr, .int 6, .int mm, .int mq])), (mb, .inl (cI, 20, .inl fb))] hpz)) 0 0 (va_A [(mv, .inr (1, [.ref mb, .int mr, .int 6, .int mm, .int mq])), (mb, .inl (cI, 20, .inl fb))] hpz) := by
  refine Met.ofW (cc := cX1_run) (maxL := 7) (ret := (some .int)) (by decide) rfl ?_
  intro p e s m args below meth c s₁ B hml hv
  obtain ⟨rfl, hsz, hP, hK, hD0, hN, hZ⟩ := hv
  have hx := B.exec
  have hb := B.bytes
  have hr := B.returns
  have hts := atoms_spec (ws := wsX1_run) B.pre
  have hown : s.vm.findClass RX1 = some m.cls := findClass_of_methodNamed B.named
  have hlocks := B.notSynchronized
  subst hsz
  have hD := hD0.self (sz := s.heap.size)
  have hA := zA_of hD
  have hl := lv_entry ([.ref mv, .int 6, .int 1, .int x, .int 2]) (n := 7) (Nat.le_of_ble_eq_true rfl)
  rw [lg_entry_eq]
  generalize (lg_sl ([.ref mv, .int 6, .int 1, .int x, .int 2]) ++ List.replicate (7 - (lg_sl ([.ref mv, .int 6, .int 1, .int x, .int 2])).length) Slot.unset).toArray = ls at hl ⊢
  replace hl : lv_has ls 7 [(0, .ref mv), (1, .int 6), (2, .int 1), (3, .int x), (4, .int 2)] := hl
  refine zw_begin hP hD (fun H locs hP1 hS => ?_)
  clear hP
  have hP := hP1
  clear hP1
  refine lv_iload_n hx hb dX1_run_0 rfl (lv_at hl 1 rfl) ?_
  refine lv_iload_n hx hb dX1_run_1 rfl (lv_at hl 2 rfl) ?_
  refine zc_S (As := [.int 6, .int 1]) (rest := []) ⟨hx, hb, hml, hown, hts⟩ (c_M_bodyFor_6_1 l D cI cJ cZ cP cS po  ) (va_cwS 2 hts gX1_run_X1_bodyFor rfl rfl rfl dh_X1_bodyFor ⟨Nat.le_of_ble_eq_true rfl, Nat.le_of_ble_eq_true rfl⟩) hK hN (hZ.kept hS) rfl hl.1 rfl (Nat.le_of_ble_eq_true rfl) dX1_run_2 ⟨Nat.le_of_ble_eq_true rfl, Nat.le_of_ble_eq_true rfl⟩ (fun r_1 hr_1 => ?_)
  obtain rfl := hr_1
  refine lv_istore (lv' := [(5, .int 71), (0, .ref mv), (1, .int 6), (2, .int 1), (3, .int x), (4, .int 2)]) hx hb dX1_run_5 hl (by decide) rfl (fun ls hl => ?_)
  refine lv_iload hx hb dX1_run_7 (lv_at hl 0 rfl) ?_
  refine lv_iconst (v := (-1)) hx hb dX1_run_9 (by decide) ?_
  refine lv_icmp_eq (tgt := 20) hx hb dX1_run_10 (by decide) (fun c_2 => ?_) (fun c_2 => ?_)
  · exact absurd c_2 (by decide)
  · refine lv_iload hx hb dX1_run_13 (lv_at hl 5 rfl) ?_
    refine lv_bipush (v := 40) hx hb dX1_run_15 (by decide) ?_
    refine lv_icmp_lt (tgt := 22) hx hb dX1_run_17 (by decide) (fun c_3 => ?_) (fun c_3 => ?_)
    · refine lv_aload_n hx hb dX1_run_22 rfl (lv_at hl 1 rfl) ?_
      refine lv_iload hx hb dX1_run_23 (lv_at hl 0 rfl) ?_
      skip
      refine zw_Vv (As := [.int 71]) (rest := []) (wr := []) ⟨hx, hb, hml, hown, hts⟩ (c_F_M_note l D cI cJ cZ cP cS po mv mb (mr) (6) (mm) (mq) fb (71) hy0 (by omega) H.size) (cwV 1 hts gX1_run_X1_note rfl rfl rfl ⟨rfl, dh_X1_note⟩ ⟨Nat.le_of_ble_eq_true rfl, Nat.le_of_ble_eq_true rfl⟩) hK hN (hZ.kept hS) hP hD hS hA [0, 1] [] rfl rfl (by decide) (by decide) (by decide) (va_recv (q := (RX1, TX1, 5)) hK hP (ci := 1) (q0 := 0) rfl rfl) rfl hl.1 rfl (Nat.le_of_ble_eq_true rfl) dX1_run_25 ⟨Nat.le_of_ble_eq_true rfl, Nat.le_of_ble_eq_true rfl⟩ (fun u_5 H locs hr_4 hP hD hS => ?_)
      obtain ⟨q_6, q_7⟩ := u_5
      try dsimp only at hr_4
      obtain ⟨hbq_6, hsr_4_0, hr_4⟩ := hr_4
      have h9R := zRe (ws' := [(mv, .inr (1, [.ref mb, .int q_6, .int 6, .int mm, .int mq])), (mb, .inl (cI, 20, .inl q_7))]) hP hD rfl
      clear hP hD
      obtain ⟨hP, hD⟩ := h9R
      refine lv_iload hx hb dX1_run_28 (lv_at hl 5 rfl) ?_
      refine lv_iconst (v := 1) hx hb dX1_run_30 (by decide) ?_
      refine lv_iadd hx hb dX1_run_31 ?_
      refine lv_topi (fun y_8 ey_8 => ?_)
      obtain rfl : y_8 = 3 := ey_8.trans (by decide)
      refine lv_istore (lv' := [(6, .int 3), (5, .int 71), (0, .ref mv), (1, .int 6), (2, .int 1), (3, .int x), (4, .int 2)]) hx hb dX1_run_32 hl (by decide) rfl (fun ls hl => ?_)
      refine lv_iload hx hb dX1_run_34 (lv_at hl 1 rfl) ?_
      refine lv_lookup (off := 234) (tgt := 270) hx hb dX1_run_36 (by decide) (by decide) (by decide) ?_
      refine lv_aload_n hx hb dX1_run_270 rfl (lv_at hl 2 rfl) ?_
      refine lv_iconst (v := 4) hx hb dX1_run_271 (by decide) ?_
      refine lv_iconst (v := 1) hx hb dX1_run_272 (by decide) ?_
      refine lv_iload_n hx hb dX1_run_273 rfl (lv_at hl 5 rfl) ?_
      refine lv_aload_n hx hb dX1_run_274 rfl (lv_at hl 2 rfl) ?_
      refine va_get (D := D) (ci := 1) (v := .int mq) (C := RX1) (T := TX1) (N := 5) hx hb hts hi_X1_run_1 hown hK hP 0 rfl rfl 4 (by decide) (hts (.fieldLink RX1 25 "TheLiningsInIt$Moves" "k" "I") (List.mem_of_getElem? (i := 3) rfl)) (fun _ h9 => h9) rfl dX1_run_275 ?_
      refine lv_isub hx hb dX1_run_278 ?_
      refine lv_topi (fun x_9 ex_9 => ?_)
      refine lv_iload hx hb dX1_run_279 (lv_at hl 0 rfl) ?_
      skip
      refine zw_V (As := [.int 4, .int 1, .int x_9, .int 3]) (rest := []) (wr := []) ⟨hx, hb, hml, hown, hts⟩ (c_F_M_run_6_4_1_3 l D cI cJ cZ cP cS po mv mb (q_6) (mm) (mq) q_7 (x_9) (by omega) (by omega) H.size) (cwV 4 hts gX1_run_X1_run rfl rfl rfl ⟨rfl, dh_X1_run⟩ ⟨Nat.le_of_ble_eq_true rfl, Nat.le_of_ble_eq_true rfl⟩) hK hN (hZ.kept hS) hP hD hS hA [0, 1] [] rfl rfl (by decide) (by decide) (by decide) (va_recv (q := (RX1, TX1, 5)) hK hP (ci := 1) (q0 := 0) rfl rfl) rfl hl.1 rfl (Nat.le_of_ble_eq_true rfl) dX1_run_281 ⟨Nat.le_of_ble_eq_true rfl, Nat.le_of_ble_eq_true rfl⟩ (fun r_10 u_11 H locs hr_10 hP hD hS => ?_)
      obtain ⟨q_12, q_13⟩ := u_11
      try dsimp only at hr_10
      obtain ⟨hbq_12, hsr_10_0, hsr_10_1, hr_10⟩ := hr_10
      have h9R := zRe (ws' := [(mv, .inr (1, [.ref mb, .int q_12, .int 6, .int mm, .int mq])), (mb, .inl (cI, 20, .inl q_13))]) hP hD rfl
      clear hP hD
      obtain ⟨hP, hD⟩ := h9R
      exact W.iret (v := r_10) hx hb hr (fun t ht hW => ⟨⟨r_10, (q_12, q_13), rfl, ⟨(show q_12.toInt = mr.toInt + 5 from by omega), (show (r_10 : Int32) = (((((x - mq) + mm) - mm) * 2) * 2) from by ((try rw [ex_9]); (try rw [hsr_10_0]); (try rw [ex_9]); first | done | rfl)), (show q_13 = zTr fb mr.toInt [71, 11, 70, 51, 10] from by (rw [hsr_10_1]; rw [hsr_4_0]; rw [zTr_app (by (have q : (([71] : List Int32).length : Int) = 1 := rfl; omega))]; first | done | rfl)), trivial⟩, zRet ht hP hD [0, 1] (by decide) rfl⟩, hS.F ht⟩) hS.2.2 dX1_run_284
    · exact absurd c_3 (by decide)
set_option maxHeartbeats 4000000 in
set_option maxRecDepth 100000 in
theorem c_F_M_run_6_0_2_1 (l : Launch) (D : va_G) (cI cJ cZ cP cS : ClassId) (po : zPool) (mv mb : Nat) (mr mm mq : Int32) (fb : Nat → Int32) (x : Int32) (hy0 : 0 ≤ mr.toInt) (hy1 : mr.toInt ≤ 1100) (hpz : Nat) : Met l yX1_run wsX1_run ({ frames := 7, cells := 0, slots := 0, locals := 176 }) (va_Pc [.ref mv, .int 0, .int 2, .int x, .int 1] (zW D (zKT cI cJ cZ cP cS) po [(mv, .inr (1, [.ref mb, .int mr, .int 6, .int mm, .int mq])), (mb, .inl (cI, 20, .inl fb))] hpz)) (va_Qi (fun (r : Int32) (u : (Int32) × (Nat → Int32)) => u.1.toInt = mr.toInt + 9 ∧ (r = ((((((x - mq) + mm) - mm) * 2) * 2) ^^^ ((((x - mq) + mm) - mm) * 2))) ∧ (u.2 = zTr fb mr.toInt [12, 71, 11, 70, 51, 10, 70, 51, 10]) ∧ (True)) (zB D [(mv, .inr (1, [.ref mb, .int mr, .int 6, .int mm, .int mq])), (mb, .inl (cI, 20, .inl fb))] hpz (fun (u : (Int32) × (Nat → Int32)) => [(mv, .inr (1, [.ref mb, .int u.1, .int 6, .int mm, .int mq])), (mb, .inl (cI, 20, .inl u.2))])) (va_A [(mv, .inr (1, [.ref mb, .int mr, .int 6, .int mm, .int mq])), (mb, .inl (cI, 20, .inl fb))] hpz)) 0 0 (va_A [(mv, .inr (1, [.ref mb, .int mr, .int 6, .int mm, .int mq])), (mb, .inl (cI, 20, .inl fb))] hpz) := by
  refine Met.ofW (cc := cX1_run) (maxL := 7) (ret := (some .int)) (by decide) rfl ?_
  intro p e s m args below meth c s₁ B hml hv
  obtain ⟨rfl, hsz, hP, hK, hD0, hN, hZ⟩ := hv
  have hx := B.exec
  have hb := B.bytes
  have hr := B.returns
  have hts := atoms_spec (ws := wsX1_run) B.pre
  have hown : s.vm.findClass RX1 = some m.cls := findClass_of_methodNamed B.named
  have hlocks := B.notSynchronized
  subst hsz
  have hD := hD0.self (sz := s.heap.size)
  have hA := zA_of hD
  have hl := lv_entry ([.ref mv, .int 0, .int 2, .int x, .int 1]) (n := 7) (Nat.le_of_ble_eq_true rfl)
  rw [lg_entry_eq]
  generalize (lg_sl ([.ref mv, .int 0, .int 2, .int x, .int 1]) ++ List.replicate (7 - (lg_sl ([.ref mv, .int 0, .int 2, .int x, .int 1])).length) Slot.unset).toArray = ls at hl ⊢
  replace hl : lv_has ls 7 [(0, .ref mv), (1, .int 0), (2, .int 2), (3, .int x), (4, .int 1)] := hl
  refine zw_begin hP hD (fun H locs hP1 hS => ?_)
  clear hP
  have hP := hP1
  clear hP1
  refine lv_iload_n hx hb dX1_run_0 rfl (lv_at hl 1 rfl) ?_
  refine lv_iload_n hx hb dX1_run_1 rfl (lv_at hl 2 rfl) ?_
  refine zc_S (As := [.int 0, .int 2]) (rest := []) ⟨hx, hb, hml, hown, hts⟩ (c_M_bodyFor_0_2 l D cI cJ cZ cP cS po  ) (va_cwS 2 hts gX1_run_X1_bodyFor rfl rfl rfl dh_X1_bodyFor ⟨Nat.le_of_ble_eq_true rfl, Nat.le_of_ble_eq_true rfl⟩) hK hN (hZ.kept hS) rfl hl.1 rfl (Nat.le_of_ble_eq_true rfl) dX1_run_2 ⟨Nat.le_of_ble_eq_true rfl, Nat.le_of_ble_eq_true rfl⟩ (fun r_1 hr_1 => ?_)
  obtain rfl := hr_1
  refine lv_istore (lv' := [(5, .int 12), (0, .ref mv), (1, .int 0), (2, .int 2), (3, .int x), (4, .int 1)]) hx hb dX1_run_5 hl (by decide) rfl (fun ls hl => ?_)
  refine lv_iload hx hb dX1_run_7 (lv_at hl 0 rfl) ?_
  refine lv_iconst (v := (-1)) hx hb dX1_run_9 (by decide) ?_
  refine lv_icmp_eq (tgt := 20) hx hb dX1_run_10 (by decide) (fun c_2 => ?_) (fun c_2 => ?_)
  · exact absurd c_2 (by decide)
  · refine lv_iload hx hb dX1_run_13 (lv_at hl 5 rfl) ?_
    refine lv_bipush (v := 40) hx hb dX1_run_15 (by decide) ?_
    refine lv_icmp_lt (tgt := 22) hx hb dX1_run_17 (by decide) (fun c_3 => ?_) (fun c_3 => ?_)
    · refine lv_aload_n hx hb dX1_run_22 rfl (lv_at hl 1 rfl) ?_
      refine lv_iload hx hb dX1_run_23 (lv_at hl 0 rfl) ?_
      skip
      refine zw_Vv (As := [.int 12]) (rest := []) (wr := []) ⟨hx, hb, hml, hown, hts⟩ (c_F_M_note l D cI cJ cZ cP cS po mv mb (mr) (6) (mm) (mq) fb (12) hy0 (by omega) H.size) (cwV 1 hts gX1_run_X1_note rfl rfl rfl ⟨rfl, dh_X1_note⟩ ⟨Nat.le_of_ble_eq_true rfl, Nat.le_of_ble_eq_true rfl⟩) hK hN (hZ.kept hS) hP hD hS hA [0, 1] [] rfl rfl (by decide) (by decide) (by decide) (va_recv (q := (RX1, TX1, 5)) hK hP (ci := 1) (q0 := 0) rfl rfl) rfl hl.1 rfl (Nat.le_of_ble_eq_true rfl) dX1_run_25 ⟨Nat.le_of_ble_eq_true rfl, Nat.le_of_ble_eq_true rfl⟩ (fun u_5 H locs hr_4 hP hD hS => ?_)
      obtain ⟨q_6, q_7⟩ := u_5
      try dsimp only at hr_4
      obtain ⟨hbq_6, hsr_4_0, hr_4⟩ := hr_4
      have h9R := zRe (ws' := [(mv, .inr (1, [.ref mb, .int q_6, .int 6, .int mm, .int mq])), (mb, .inl (cI, 20, .inl q_7))]) hP hD rfl
      clear hP hD
      obtain ⟨hP, hD⟩ := h9R
      refine lv_iload hx hb dX1_run_28 (lv_at hl 5 rfl) ?_
      refine lv_iconst (v := 1) hx hb dX1_run_30 (by decide) ?_
      refine lv_iadd hx hb dX1_run_31 ?_
      refine lv_topi (fun y_8 ey_8 => ?_)
      obtain rfl : y_8 = 2 := ey_8.trans (by decide)
      refine lv_istore (lv' := [(6, .int 2), (5, .int 12), (0, .ref mv), (1, .int 0), (2, .int 2), (3, .int x), (4, .int 1)]) hx hb dX1_run_32 hl (by decide) rfl (fun ls hl => ?_)
      refine lv_iload hx hb dX1_run_34 (lv_at hl 1 rfl) ?_
      refine lv_lookup (off := 114) (tgt := 150) hx hb dX1_run_36 (by decide) (by decide) (by decide) ?_
      refine lv_aload_n hx hb dX1_run_150 rfl (lv_at hl 2 rfl) ?_
      refine lv_aload_n hx hb dX1_run_151 rfl (lv_at hl 2 rfl) ?_
      refine va_get (D := D) (ci := 1) (v := .int 6) (C := RX1) (T := TX1) (N := 5) hx hb hts hi_X1_run_1 hown hK hP 0 rfl rfl 2 (by decide) (hts (.fieldLink RX1 19 "TheLiningsInIt$Moves" "kind" "I") (List.mem_of_getElem? (i := 2) rfl)) (fun _ h9 => h9) rfl dX1_run_152 ?_
      refine lv_iconst (v := 1) hx hb dX1_run_155 (by decide) ?_
      refine lv_iload_n hx hb dX1_run_156 rfl (lv_at hl 5 rfl) ?_
      refine lv_iload hx hb dX1_run_157 (lv_at hl 0 rfl) ?_
      skip
      refine zw_V (As := [.int 6, .int 1, .int x, .int 2]) (rest := []) (wr := []) ⟨hx, hb, hml, hown, hts⟩ (c_F_M_run_6_6_1_2 l D cI cJ cZ cP cS po mv mb (q_6) (mm) (mq) q_7 (x) (by omega) (by omega) H.size) (cwV 4 hts gX1_run_X1_run rfl rfl rfl ⟨rfl, dh_X1_run⟩ ⟨Nat.le_of_ble_eq_true rfl, Nat.le_of_ble_eq_true rfl⟩) hK hN (hZ.kept hS) hP hD hS hA [0, 1] [] rfl rfl (by decide) (by decide) (by decide) (va_recv (q := (RX1, TX1, 5)) hK hP (ci := 1) (q0 := 0) rfl rfl) rfl hl.1 rfl (Nat.le_of_ble_eq_true rfl) dX1_run_159 ⟨Nat.le_of_ble_eq_true rfl, Nat.le_of_ble_eq_true rfl⟩ (fun r_9 u_10 H locs hr_9 hP hD hS => ?_)
      obtain ⟨q_11, q_12⟩ := u_10
      try dsimp only at hr_9
      obtain ⟨hbq_11, hsr_9_0, hsr_9_1, hr_9⟩ := hr_9
      have h9R := zRe (ws' := [(mv, .inr (1, [.ref mb, .int q_11, .int 6, .int mm, .int mq])), (mb, .inl (cI, 20, .inl q_12))]) hP hD rfl
      clear hP hD
      obtain ⟨hP, hD⟩ := h9R
      refine lv_aload_n hx hb dX1_run_162 rfl (lv_at hl 2 rfl) ?_
      refine lv_aload_n hx hb dX1_run_163 rfl (lv_at hl 2 rfl) ?_
      refine va_get (D := D) (ci := 1) (v := .int 6) (C := RX1) (T := TX1) (N := 5) hx hb hts hi_X1_run_1 hown hK hP 0 rfl rfl 2 (by decide) (hts (.fieldLink RX1 19 "TheLiningsInIt$Moves" "kind" "I") (List.mem_of_getElem? (i := 2) rfl)) (fun _ h9 => h9) rfl dX1_run_164 ?_
      refine lv_iconst (v := 0) hx hb dX1_run_167 (by decide) ?_
      refine lv_iload_n hx hb dX1_run_168 rfl (lv_at hl 5 rfl) ?_
      refine lv_aload_n hx hb dX1_run_169 rfl (lv_at hl 2 rfl) ?_
      refine va_get (D := D) (ci := 1) (v := .int mq) (C := RX1) (T := TX1) (N := 5) hx hb hts hi_X1_run_1 hown hK hP 0 rfl rfl 4 (by decide) (hts (.fieldLink RX1 25 "TheLiningsInIt$Moves" "k" "I") (List.mem_of_getElem? (i := 3) rfl)) (fun _ h9 => h9) rfl dX1_run_170 ?_
      refine lv_isub hx hb dX1_run_173 ?_
      refine lv_topi (fun x_13 ex_13 => ?_)
      refine lv_iload hx hb dX1_run_174 (lv_at hl 0 rfl) ?_
      skip
      refine zw_V (As := [.int 6, .int 0, .int x_13, .int 2]) (rest := [.int r_9]) (wr := []) ⟨hx, hb, hml, hown, hts⟩ (c_F_M_run_6_6_0_2 l D cI cJ cZ cP cS po mv mb (q_11) (mm) (mq) q_12 (x_13) (by omega) (by omega) H.size) (cwV 4 hts gX1_run_X1_run rfl rfl rfl ⟨rfl, dh_X1_run⟩ ⟨Nat.le_of_ble_eq_true rfl, Nat.le_of_ble_eq_true rfl⟩) hK hN (hZ.kept hS) hP hD hS hA [0, 1] [] rfl rfl (by decide) (by decide) (by decide) (va_recv (q := (RX1, TX1, 5)) hK hP (ci := 1) (q0 := 0) rfl rfl) rfl hl.1 rfl (Nat.le_of_ble_eq_true rfl) dX1_run_176 ⟨Nat.le_of_ble_eq_true rfl, Nat.le_of_ble_eq_true rfl⟩ (fun r_14 u_15 H locs hr_14 hP hD hS => ?_)
      obtain ⟨q_16, q_17⟩ := u_15
      try dsimp only at hr_14
      obtain ⟨hbq_16, hsr_14_0, hsr_14_1, hr_14⟩ := hr_14
      have h9R := zRe (ws' := [(mv, .inr (1, [.ref mb, .int q_16, .int 6, .int mm, .int mq])), (mb, .inl (cI, 20, .inl q_17))]) hP hD rfl
      clear hP hD
      obtain ⟨hP, hD⟩ := h9R
      refine lv_ixor hx hb dX1_run_179 ?_
      refine lv_topi (fun x_18 ex_18 => ?_)
      exact W.iret (v := x_18) hx hb hr (fun t ht hW => ⟨⟨x_18, (q_16, q_17), rfl, ⟨(show q_16.toInt = mr.toInt + 9 from by omega), (show (x_18 : Int32) = ((((((x - mq) + mm) - mm) * 2) * 2) ^^^ ((((x - mq) + mm) - mm) * 2)) from by ((try rw [ex_18]); (try rw [ex_13]); (try rw [hsr_9_0]); (try rw [hsr_14_0]); (try rw [ex_18]); (try rw [ex_13]); first | done | rfl)), (show q_17 = zTr fb mr.toInt [12, 71, 11, 70, 51, 10, 70, 51, 10] from by (rw [hsr_14_1]; rw [hsr_9_1]; rw [hsr_4_0]; rw [zTr_app (by (have q : (([71, 11, 70, 51, 10] : List Int32).length : Int) = 5 := rfl; omega))]; rw [zTr_app (by (have q : (([12] : List Int32).length : Int) = 1 := rfl; omega))]; first | done | rfl)), trivial⟩, zRet ht hP hD [0, 1] (by decide) rfl⟩, hS.F ht⟩) hS.2.2 dX1_run_180
    · exact absurd c_3 (by decide)
set_option maxHeartbeats 4000000 in
set_option maxRecDepth 100000 in
theorem c_F_M_run_6_6_2_0 (l : Launch) (D : va_G) (cI cJ cZ cP cS : ClassId) (po : zPool) (mv mb : Nat) (mr mm mq : Int32) (fb : Nat → Int32) (x : Int32) (hy0 : 0 ≤ mr.toInt) (hy1 : mr.toInt ≤ 1000) (hpz : Nat) : Met l yX1_run wsX1_run ({ frames := 8, cells := 0, slots := 0, locals := 202 }) (va_Pc [.ref mv, .int 6, .int 2, .int x, .int 0] (zW D (zKT cI cJ cZ cP cS) po [(mv, .inr (1, [.ref mb, .int mr, .int 6, .int mm, .int mq])), (mb, .inl (cI, 20, .inl fb))] hpz)) (va_Qi (fun (r : Int32) (u : (Int32) × (Nat → Int32)) => u.1.toInt = mr.toInt + 10 ∧ (r = (-((((((x - mq) + mm) - mm) * 2) * 2) ^^^ ((((x - mq) + mm) - mm) * 2)))) ∧ (u.2 = zTr fb mr.toInt [50, 12, 71, 11, 70, 51, 10, 70, 51, 10]) ∧ (True)) (zB D [(mv, .inr (1, [.ref mb, .int mr, .int 6, .int mm, .int mq])), (mb, .inl (cI, 20, .inl fb))] hpz (fun (u : (Int32) × (Nat → Int32)) => [(mv, .inr (1, [.ref mb, .int u.1, .int 6, .int mm, .int mq])), (mb, .inl (cI, 20, .inl u.2))])) (va_A [(mv, .inr (1, [.ref mb, .int mr, .int 6, .int mm, .int mq])), (mb, .inl (cI, 20, .inl fb))] hpz)) 0 0 (va_A [(mv, .inr (1, [.ref mb, .int mr, .int 6, .int mm, .int mq])), (mb, .inl (cI, 20, .inl fb))] hpz) := by
  refine Met.ofW (cc := cX1_run) (maxL := 7) (ret := (some .int)) (by decide) rfl ?_
  intro p e s m args below meth c s₁ B hml hv
  obtain ⟨rfl, hsz, hP, hK, hD0, hN, hZ⟩ := hv
  have hx := B.exec
  have hb := B.bytes
  have hr := B.returns
  have hts := atoms_spec (ws := wsX1_run) B.pre
  have hown : s.vm.findClass RX1 = some m.cls := findClass_of_methodNamed B.named
  have hlocks := B.notSynchronized
  subst hsz
  have hD := hD0.self (sz := s.heap.size)
  have hA := zA_of hD
  have hl := lv_entry ([.ref mv, .int 6, .int 2, .int x, .int 0]) (n := 7) (Nat.le_of_ble_eq_true rfl)
  rw [lg_entry_eq]
  generalize (lg_sl ([.ref mv, .int 6, .int 2, .int x, .int 0]) ++ List.replicate (7 - (lg_sl ([.ref mv, .int 6, .int 2, .int x, .int 0])).length) Slot.unset).toArray = ls at hl ⊢
  replace hl : lv_has ls 7 [(0, .ref mv), (1, .int 6), (2, .int 2), (3, .int x), (4, .int 0)] := hl
  refine zw_begin hP hD (fun H locs hP1 hS => ?_)
  clear hP
  have hP := hP1
  clear hP1
  refine lv_iload_n hx hb dX1_run_0 rfl (lv_at hl 1 rfl) ?_
  refine lv_iload_n hx hb dX1_run_1 rfl (lv_at hl 2 rfl) ?_
  refine zc_S (As := [.int 6, .int 2]) (rest := []) ⟨hx, hb, hml, hown, hts⟩ (c_M_bodyFor_6_2 l D cI cJ cZ cP cS po  ) (va_cwS 2 hts gX1_run_X1_bodyFor rfl rfl rfl dh_X1_bodyFor ⟨Nat.le_of_ble_eq_true rfl, Nat.le_of_ble_eq_true rfl⟩) hK hN (hZ.kept hS) rfl hl.1 rfl (Nat.le_of_ble_eq_true rfl) dX1_run_2 ⟨Nat.le_of_ble_eq_true rfl, Nat.le_of_ble_eq_true rfl⟩ (fun r_1 hr_1 => ?_)
  obtain rfl := hr_1
  refine lv_istore (lv' := [(5, .int 50), (0, .ref mv), (1, .int 6), (2, .int 2), (3, .int x), (4, .int 0)]) hx hb dX1_run_5 hl (by decide) rfl (fun ls hl => ?_)
  refine lv_iload hx hb dX1_run_7 (lv_at hl 0 rfl) ?_
  refine lv_iconst (v := (-1)) hx hb dX1_run_9 (by decide) ?_
  refine lv_icmp_eq (tgt := 20) hx hb dX1_run_10 (by decide) (fun c_2 => ?_) (fun c_2 => ?_)
  · exact absurd c_2 (by decide)
  · refine lv_iload hx hb dX1_run_13 (lv_at hl 5 rfl) ?_
    refine lv_bipush (v := 40) hx hb dX1_run_15 (by decide) ?_
    refine lv_icmp_lt (tgt := 22) hx hb dX1_run_17 (by decide) (fun c_3 => ?_) (fun c_3 => ?_)
    · refine lv_aload_n hx hb dX1_run_22 rfl (lv_at hl 1 rfl) ?_
      refine lv_iload hx hb dX1_run_23 (lv_at hl 0 rfl) ?_
      skip
      refine zw_Vv (As := [.int 50]) (rest := []) (wr := []) ⟨hx, hb, hml, hown, hts⟩ (c_F_M_note l D cI cJ cZ cP cS po mv mb (mr) (6) (mm) (mq) fb (50) hy0 (by omega) H.size) (cwV 1 hts gX1_run_X1_note rfl rfl rfl ⟨rfl, dh_X1_note⟩ ⟨Nat.le_of_ble_eq_true rfl, Nat.le_of_ble_eq_true rfl⟩) hK hN (hZ.kept hS) hP hD hS hA [0, 1] [] rfl rfl (by decide) (by decide) (by decide) (va_recv (q := (RX1, TX1, 5)) hK hP (ci := 1) (q0 := 0) rfl rfl) rfl hl.1 rfl (Nat.le_of_ble_eq_true rfl) dX1_run_25 ⟨Nat.le_of_ble_eq_true rfl, Nat.le_of_ble_eq_true rfl⟩ (fun u_5 H locs hr_4 hP hD hS => ?_)
      obtain ⟨q_6, q_7⟩ := u_5
      try dsimp only at hr_4
      obtain ⟨hbq_6, hsr_4_0, hr_4⟩ := hr_4
      have h9R := zRe (ws' := [(mv, .inr (1, [.ref mb, .int q_6, .int 6, .int mm, .int mq])), (mb, .inl (cI, 20, .inl q_7))]) hP hD rfl
      clear hP hD
      obtain ⟨hP, hD⟩ := h9R
      refine lv_iload hx hb dX1_run_28 (lv_at hl 5 rfl) ?_
      refine lv_iconst (v := 1) hx hb dX1_run_30 (by decide) ?_
      refine lv_iadd hx hb dX1_run_31 ?_
      refine lv_topi (fun y_8 ey_8 => ?_)
      obtain rfl : y_8 = 1 := ey_8.trans (by decide)
      refine lv_istore (lv' := [(6, .int 1), (5, .int 50), (0, .ref mv), (1, .int 6), (2, .int 2), (3, .int x), (4, .int 0)]) hx hb dX1_run_32 hl (by decide) rfl (fun ls hl => ?_)
      refine lv_iload hx hb dX1_run_34 (lv_at hl 1 rfl) ?_
      refine lv_lookup (off := 184) (tgt := 220) hx hb dX1_run_36 (by decide) (by decide) (by decide) ?_
      refine lv_aload_n hx hb dX1_run_220 rfl (lv_at hl 2 rfl) ?_
      refine lv_iconst (v := 0) hx hb dX1_run_221 (by decide) ?_
      refine lv_iconst (v := 2) hx hb dX1_run_222 (by decide) ?_
      refine lv_iload_n hx hb dX1_run_223 rfl (lv_at hl 5 rfl) ?_
      refine lv_iload hx hb dX1_run_224 (lv_at hl 0 rfl) ?_
      skip
      refine zw_V (As := [.int 0, .int 2, .int x, .int 1]) (rest := []) (wr := []) ⟨hx, hb, hml, hown, hts⟩ (c_F_M_run_6_0_2_1 l D cI cJ cZ cP cS po mv mb (q_6) (mm) (mq) q_7 (x) (by omega) (by omega) H.size) (cwV 4 hts gX1_run_X1_run rfl rfl rfl ⟨rfl, dh_X1_run⟩ ⟨Nat.le_of_ble_eq_true rfl, Nat.le_of_ble_eq_true rfl⟩) hK hN (hZ.kept hS) hP hD hS hA [0, 1] [] rfl rfl (by decide) (by decide) (by decide) (va_recv (q := (RX1, TX1, 5)) hK hP (ci := 1) (q0 := 0) rfl rfl) rfl hl.1 rfl (Nat.le_of_ble_eq_true rfl) dX1_run_226 ⟨Nat.le_of_ble_eq_true rfl, Nat.le_of_ble_eq_true rfl⟩ (fun r_9 u_10 H locs hr_9 hP hD hS => ?_)
      obtain ⟨q_11, q_12⟩ := u_10
      try dsimp only at hr_9
      obtain ⟨hbq_11, hsr_9_0, hsr_9_1, hr_9⟩ := hr_9
      have h9R := zRe (ws' := [(mv, .inr (1, [.ref mb, .int q_11, .int 6, .int mm, .int mq])), (mb, .inl (cI, 20, .inl q_12))]) hP hD rfl
      clear hP hD
      obtain ⟨hP, hD⟩ := h9R
      refine lv_ineg hx hb dX1_run_229 ?_
      refine lv_topi (fun x_13 ex_13 => ?_)
      exact W.iret (v := x_13) hx hb hr (fun t ht hW => ⟨⟨x_13, (q_11, q_12), rfl, ⟨(show q_11.toInt = mr.toInt + 10 from by omega), (show (x_13 : Int32) = (-((((((x - mq) + mm) - mm) * 2) * 2) ^^^ ((((x - mq) + mm) - mm) * 2))) from by ((try rw [ex_13]); (try rw [hsr_9_0]); (try rw [ex_13]); first | done | rfl)), (show q_12 = zTr fb mr.toInt [50, 12, 71, 11, 70, 51, 10, 70, 51, 10] from by (rw [hsr_9_1]; rw [hsr_4_0]; rw [zTr_app (by (have q : (([50] : List Int32).length : Int) = 1 := rfl; omega))]; first | done | rfl)), trivial⟩, zRet ht hP hD [0, 1] (by decide) rfl⟩, hS.F ht⟩) hS.2.2 dX1_run_230
    · exact absurd c_3 (by decide)

