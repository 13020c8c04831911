section
set_option maxHeartbeats 4000000 in
set_option maxRecDepth 100000 in
theorem c_F_M_begin (l : Launch) (D : va_G) (cI cJ cZ cP cS : ClassId) (po : zPool) (mv mb : Nat) (mr mk mm mq : Int32) (fb : Nat → Int32) (nb mo x : Int32) (u0 : Nat) (ki a_ ta : Int32) (hu_u0 : zPu po u0 ki a_ ta) (hr_u0 : zPr ki a_ ta) (hy2 : 0 ≤ mr.toInt) (hy3 : mr.toInt ≤ 1000) (hy4 : 0 ≤ mo.toInt) (hy5 : mo.toInt ≤ 2) (hpz : Nat) : Met l yX1_begin wsX1_begin ({ frames := 9, cells := 0, slots := 0, locals := 228 }) (va_Pc [.ref mv, .ref u0, .int nb, .int mo, .int x] (zW D (zKT cI cJ cZ cP cS) po [(mv, .inr (1, [.ref mb, .int mr, .int mk, .int mm, .int mq])), (mb, .inl (cI, 20, .inl fb))] hpz)) (va_Qi (fun (r : Int32) (u : (Int32) × (Int32) × (Int32) × (Int32) × (Nat → Int32)) => (0 ≤ u.1.toInt ∧ u.1.toInt ≤ 2000) ∧ (r = zQa ki.toInt mo.toInt x nb a_) ∧ (u.2.2.2.2 = zTr fb mr.toInt (zBa ki.toInt mo.toInt)) ∧ (u.1.toInt = mr.toInt + ((zBa ki.toInt mo.toInt).length : Nat)) ∧ (True)) (zB D [(mv, .inr (1, [.ref mb, .int mr, .int mk, .int mm, .int mq])), (mb, .inl (cI, 20, .inl fb))] hpz (fun (u : (Int32) × (Int32) × (Int32) × (Int32) × (Nat → Int32)) => [(mv, .inr (1, [.ref mb, .int u.1, .int u.2.1, .int u.2.2.1, .int u.2.2.2.1])), (mb, .inl (cI, 20, .inl u.2.2.2.2))])) (va_A [(mv, .inr (1, [.ref mb, .int mr, .int mk, .int mm, .int mq])), (mb, .inl (cI, 20, .inl fb))] hpz)) 0 0 (va_A [(mv, .inr (1, [.ref mb, .int mr, .int mk, .int mm, .int mq])), (mb, .inl (cI, 20, .inl fb))] hpz) := by
  refine Met.ofW (cc := cX1_begin) (maxL := 5) (ret := (some .int)) (by decide) rfl ?_
  intro p e s m args below meth c s₁ B hml hv
  obtain ⟨rfl, hsz, hP, hK, hD0, hN, hZ⟩ := hv
  have hx := B.exec
  have hb := B.bytes
  have hr := B.returns
  have hts := atoms_spec (ws := wsX1_begin) B.pre
  have hown : s.vm.findClass RX1 = some m.cls := findClass_of_methodNamed B.named
  have hlocks := B.notSynchronized
  subst hsz
  have hD := hD0.self (sz := s.heap.size)
  have hA := zA_of hD
  have hl := lv_entry ([.ref mv, .ref u0, .int nb, .int mo, .int x]) (n := 5) (Nat.le_of_ble_eq_true rfl)
  rw [lg_entry_eq]
  generalize (lg_sl ([.ref mv, .ref u0, .int nb, .int mo, .int x]) ++ List.replicate (5 - (lg_sl ([.ref mv, .ref u0, .int nb, .int mo, .int x])).length) Slot.unset).toArray = ls at hl ⊢
  replace hl : lv_has ls 5 [(0, .ref mv), (1, .ref u0), (2, .int nb), (3, .int mo), (4, .int x)] := hl
  refine zw_begin hP hD (fun H locs hP1 hS => ?_)
  clear hP
  have hP := hP1
  clear hP1
  obtain ⟨⟨p1_u0, p2_u0⟩, ⟨p3_u0, p4_u0⟩, p5_u0, p6_u0⟩ := id hr_u0
  have hsp : ki = 0 ∨ ki = 1 ∨ ki = 2 ∨ ki = 3 ∨ ki = 4 ∨ ki = 5 ∨ ki = 6 := by
    rcases (show ki.toInt = 0 ∨ ki.toInt = 1 ∨ ki.toInt = 2 ∨ ki.toInt = 3 ∨ ki.toInt = 4 ∨ ki.toInt = 5 ∨ ki.toInt = 6 by omega) with h9 | h9 | h9 | h9 | h9 | h9 | h9
    · refine Or.inl ?_; exact zf_val h9 (by decide)
    · refine Or.inr (Or.inl ?_); exact zf_val h9 (by decide)
    · refine Or.inr (Or.inr (Or.inl ?_)); exact zf_val h9 (by decide)
    · refine Or.inr (Or.inr (Or.inr (Or.inl ?_))); exact zf_val h9 (by decide)
    · refine Or.inr (Or.inr (Or.inr (Or.inr (Or.inl ?_)))); exact zf_val h9 (by decide)
    · refine Or.inr (Or.inr (Or.inr (Or.inr (Or.inr (Or.inl ?_))))); exact zf_val h9 (by decide)
    · refine Or.inr (Or.inr (Or.inr (Or.inr (Or.inr (Or.inr (?_)))))); exact zf_val h9 (by decide)
  rcases hsp with rfl | rfl | rfl | rfl | rfl | rfl | rfl
  · refine lv_aload_n hx hb dX1_begin_0 rfl (lv_at hl 0 rfl) ?_
    have hsp : mo = 0 ∨ mo = 1 ∨ mo = 2 := by
      rcases (show mo.toInt = 0 ∨ mo.toInt = 1 ∨ mo.toInt = 2 by omega) with h9 | h9 | h9
      · refine Or.inl ?_; exact zf_val h9 (by decide)
      · refine Or.inr (Or.inl ?_); exact zf_val h9 (by decide)
      · refine Or.inr (Or.inr (?_)); exact zf_val h9 (by decide)
    rcases hsp with rfl | rfl | rfl
    · refine lv_aload_n hx hb dX1_begin_1 rfl (lv_at hl 1 rfl) ?_
      refine va_get (D := D) (ci := 2) (v := .int 0) (C := RX2) (T := TX2) (N := 3) hx hb hts hi_X1_begin_2 hown hK (zPu_P (hZ.kept hS) hu_u0) 0 rfl rfl 0 (by decide) (hts (.fieldLink RX1 28 "TheLiningsInIt$Pull" "kind" "I") (List.mem_of_getElem? (i := 1) rfl)) (fun _ h9 => h9) rfl dX1_begin_2 ?_
      refine va_put (D := D) (ci := 1) (v := .int 0) (ty := .int) (C := RX1) (T := TX1) (N := 5) hx hb hts hi_X1_begin_1 tyX1 tyX1_ok nmX1 hown hK hP hD hS 0 rfl rfl 2 (by decide) (hts (.fieldLink RX1 19 "TheLiningsInIt$Moves" "kind" "I") (List.mem_of_getElem? (i := 2) rfl)) (fun _ h9 => h9) rfl (tyX1_ok 2 (Nat.le_of_ble_eq_true rfl)) rfl rfl (Nat.le_of_ble_eq_true rfl) dX1_begin_5 (fun H locs hP hD hS => ?_)
      have h9R := zRe (ws' := [(mv, .inr (1, [.ref mb, .int mr, .int 0, .int mm, .int mq])), (mb, .inl (cI, 20, .inl fb))]) hP hD rfl
      clear hP hD
      obtain ⟨hP, hD⟩ := h9R
      refine lv_aload_n hx hb dX1_begin_8 rfl (lv_at hl 0 rfl) ?_
      refine lv_iload_n hx hb dX1_begin_9 rfl (lv_at hl 2 rfl) ?_
      refine va_put (D := D) (ci := 1) (v := .int nb) (ty := .int) (C := RX1) (T := TX1) (N := 5) hx hb hts hi_X1_begin_1 tyX1 tyX1_ok nmX1 hown hK hP hD hS 0 rfl rfl 3 (by decide) (hts (.fieldLink RX1 22 "TheLiningsInIt$Moves" "m" "I") (List.mem_of_getElem? (i := 3) rfl)) (fun _ h9 => h9) rfl (tyX1_ok 3 (Nat.le_of_ble_eq_true rfl)) rfl rfl (Nat.le_of_ble_eq_true rfl) dX1_begin_10 (fun H locs hP hD hS => ?_)
      have h9R := zRe (ws' := [(mv, .inr (1, [.ref mb, .int mr, .int 0, .int nb, .int mq])), (mb, .inl (cI, 20, .inl fb))]) hP hD rfl
      clear hP hD
      obtain ⟨hP, hD⟩ := h9R
      refine lv_aload_n hx hb dX1_begin_13 rfl (lv_at hl 0 rfl) ?_
      refine lv_aload_n hx hb dX1_begin_14 rfl (lv_at hl 1 rfl) ?_
      refine va_get (D := D) (ci := 2) (v := .int a_) (C := RX2) (T := TX2) (N := 3) hx hb hts hi_X1_begin_2 hown hK (zPu_P (hZ.kept hS) hu_u0) 0 rfl rfl 1 (by decide) (hts (.fieldLink RX1 31 "TheLiningsInIt$Pull" "a" "I") (List.mem_of_getElem? (i := 4) rfl)) (fun _ h9 => h9) rfl dX1_begin_15 ?_
      refine va_put (D := D) (ci := 1) (v := .int a_) (ty := .int) (C := RX1) (T := TX1) (N := 5) hx hb hts hi_X1_begin_1 tyX1 tyX1_ok nmX1 hown hK hP hD hS 0 rfl rfl 4 (by decide) (hts (.fieldLink RX1 25 "TheLiningsInIt$Moves" "k" "I") (List.mem_of_getElem? (i := 5) rfl)) (fun _ h9 => h9) rfl (tyX1_ok 4 (Nat.le_of_ble_eq_true rfl)) rfl rfl (Nat.le_of_ble_eq_true rfl) dX1_begin_18 (fun H locs hP hD hS => ?_)
      have h9R := zRe (ws' := [(mv, .inr (1, [.ref mb, .int mr, .int 0, .int nb, .int a_])), (mb, .inl (cI, 20, .inl fb))]) hP hD rfl
      clear hP hD
      obtain ⟨hP, hD⟩ := h9R
      refine lv_aload_n hx hb dX1_begin_21 rfl (lv_at hl 0 rfl) ?_
      refine lv_aload_n hx hb dX1_begin_22 rfl (lv_at hl 0 rfl) ?_
      refine va_get (D := D) (ci := 1) (v := .int 0) (C := RX1) (T := TX1) (N := 5) hx hb hts hi_X1_begin_1 hown hK hP 0 rfl rfl 2 (by decide) (hts (.fieldLink RX1 19 "TheLiningsInIt$Moves" "kind" "I") (List.mem_of_getElem? (i := 2) rfl)) (fun _ h9 => h9) rfl dX1_begin_23 ?_
      refine lv_iload_n hx hb dX1_begin_26 rfl (lv_at hl 3 rfl) ?_
      refine lv_iload hx hb dX1_begin_27 (lv_at hl 4 rfl) ?_
      refine lv_iconst (v := 0) hx hb dX1_begin_29 (by decide) ?_
      skip
      refine zw_V (As := [.int 0, .int 0, .int x, .int 0]) (rest := []) (wr := []) ⟨hx, hb, hml, hown, hts⟩ (c_F_M_run_0_0_0_0 l D cI cJ cZ cP cS po mv mb (mr) (nb) (a_) fb (x) hy2 hy3 H.size) (cwV 4 hts gX1_begin_X1_run rfl rfl rfl ⟨rfl, dh_X1_run⟩ ⟨Nat.le_of_ble_eq_true rfl, Nat.le_of_ble_eq_true rfl⟩) hK hN (hZ.kept hS) hP hD hS hA [0, 1] [] rfl rfl (by decide) (by decide) (by decide) (va_recv (q := (RX1, TX1, 5)) hK hP (ci := 1) (q0 := 0) rfl rfl) rfl hl.1 rfl (Nat.le_of_ble_eq_true rfl) dX1_begin_30 ⟨Nat.le_of_ble_eq_true rfl, Nat.le_of_ble_eq_true rfl⟩ (fun r_1 u_2 H locs hr_1 hP hD hS => ?_)
      obtain ⟨q_3, q_4⟩ := u_2
      try dsimp only at hr_1
      obtain ⟨hbq_3, hsr_1_0, hsr_1_1, hr_1⟩ := hr_1
      have h9R := zRe (ws' := [(mv, .inr (1, [.ref mb, .int q_3, .int 0, .int nb, .int a_])), (mb, .inl (cI, 20, .inl q_4))]) hP hD rfl
      clear hP hD
      obtain ⟨hP, hD⟩ := h9R
      exact W.iret (v := r_1) hx hb hr (fun t ht hW => ⟨⟨r_1, (q_3, 0, nb, a_, q_4), rfl, ⟨(show 0 ≤ q_3.toInt ∧ q_3.toInt ≤ 2000 from ⟨by omega, by omega⟩), (show (r_1 : Int32) = zQa (0 : Int32).toInt (0 : Int32).toInt x nb a_ from by (rw [hsr_1_0, show (0 : Int32).toInt = 0 from by decide]; first | done | rfl)), (show q_4 = zTr fb mr.toInt (zBa (0 : Int32).toInt (0 : Int32).toInt) from by (rw [hsr_1_1, show (0 : Int32).toInt = 0 from by decide]; first | done | rfl)), (show q_3.toInt = mr.toInt + ((zBa (0 : Int32).toInt (0 : Int32).toInt).length : Nat) from by (have q : ((zBa (0 : Int32).toInt (0 : Int32).toInt).length : Int) = 1 := (by rw [show (0 : Int32).toInt = 0 from by decide]; first | done | rfl); omega)), trivial⟩, zRet ht hP hD [0, 1] (by decide) rfl⟩, hS.F ht⟩) hS.2.2 dX1_begin_33
    · refine lv_aload_n hx hb dX1_begin_1 rfl (lv_at hl 1 rfl) ?_
      refine va_get (D := D) (ci := 2) (v := .int 0) (C := RX2) (T := TX2) (N := 3) hx hb hts hi_X1_begin_2 hown hK (zPu_P (hZ.kept hS) hu_u0) 0 rfl rfl 0 (by decide) (hts (.fieldLink RX1 28 "TheLiningsInIt$Pull" "kind" "I") (List.mem_of_getElem? (i := 1) rfl)) (fun _ h9 => h9) rfl dX1_begin_2 ?_
      refine va_put (D := D) (ci := 1) (v := .int 0) (ty := .int) (C := RX1) (T := TX1) (N := 5) hx hb hts hi_X1_begin_1 tyX1 tyX1_ok nmX1 hown hK hP hD hS 0 rfl rfl 2 (by decide) (hts (.fieldLink RX1 19 "TheLiningsInIt$Moves" "kind" "I") (List.mem_of_getElem? (i := 2) rfl)) (fun _ h9 => h9) rfl (tyX1_ok 2 (Nat.le_of_ble_eq_true rfl)) rfl rfl (Nat.le_of_ble_eq_true rfl) dX1_begin_5 (fun H locs hP hD hS => ?_)
      have h9R := zRe (ws' := [(mv, .inr (1, [.ref mb, .int mr, .int 0, .int mm, .int mq])), (mb, .inl (cI, 20, .inl fb))]) hP hD rfl
      clear hP hD
      obtain ⟨hP, hD⟩ := h9R
      refine lv_aload_n hx hb dX1_begin_8 rfl (lv_at hl 0 rfl) ?_
      refine lv_iload_n hx hb dX1_begin_9 rfl (lv_at hl 2 rfl) ?_
      refine va_put (D := D) (ci := 1) (v := .int nb) (ty := .int) (C := RX1) (T := TX1) (N := 5) hx hb hts hi_X1_begin_1 tyX1 tyX1_ok nmX1 hown hK hP hD hS 0 rfl rfl 3 (by decide) (hts (.fieldLink RX1 22 "TheLiningsInIt$Moves" "m" "I") (List.mem_of_getElem? (i := 3) rfl)) (fun _ h9 => h9) rfl (tyX1_ok 3 (Nat.le_of_ble_eq_true rfl)) rfl rfl (Nat.le_of_ble_eq_true rfl) dX1_begin_10 (fun H locs hP hD hS => ?_)
      have h9R := zRe (ws' := [(mv, .inr (1, [.ref mb, .int mr, .int 0, .int nb, .int mq])), (mb, .inl (cI, 20, .inl fb))]) hP hD rfl
      clear hP hD
      obtain ⟨hP, hD⟩ := h9R
      refine lv_aload_n hx hb dX1_begin_13 rfl (lv_at hl 0 rfl) ?_
      refine lv_aload_n hx hb dX1_begin_14 rfl (lv_at hl 1 rfl) ?_
      refine va_get (D := D) (ci := 2) (v := .int a_) (C := RX2) (T := TX2) (N := 3) hx hb hts hi_X1_begin_2 hown hK (zPu_P (hZ.kept hS) hu_u0) 0 rfl rfl 1 (by decide) (hts (.fieldLink RX1 31 "TheLiningsInIt$Pull" "a" "I") (List.mem_of_getElem? (i := 4) rfl)) (fun _ h9 => h9) rfl dX1_begin_15 ?_
      refine va_put (D := D) (ci := 1) (v := .int a_) (ty := .int) (C := RX1) (T := TX1) (N := 5) hx hb hts hi_X1_begin_1 tyX1 tyX1_ok nmX1 hown hK hP hD hS 0 rfl rfl 4 (by decide) (hts (.fieldLink RX1 25 "TheLiningsInIt$Moves" "k" "I") (List.mem_of_getElem? (i := 5) rfl)) (fun _ h9 => h9) rfl (tyX1_ok 4 (Nat.le_of_ble_eq_true rfl)) rfl rfl (Nat.le_of_ble_eq_true rfl) dX1_begin_18 (fun H locs hP hD hS => ?_)
      have h9R := zRe (ws' := [(mv, .inr (1, [.ref mb, .int mr, .int 0, .int nb, .int a_])), (mb, .inl (cI, 20, .inl fb))]) hP hD rfl
      clear hP hD
      obtain ⟨hP, hD⟩ := h9R
      refine lv_aload_n hx hb dX1_begin_21 rfl (lv_at hl 0 rfl) ?_
      refine lv_aload_n hx hb dX1_begin_22 rfl (lv_at hl 0 rfl) ?_
      refine va_get (D := D) (ci := 1) (v := .int 0) (C := RX1) (T := TX1) (N := 5) hx hb hts hi_X1_begin_1 hown hK hP 0 rfl rfl 2 (by decide) (hts (.fieldLink RX1 19 "TheLiningsInIt$Moves" "kind" "I") (List.mem_of_getElem? (i := 2) rfl)) (fun _ h9 => h9) rfl dX1_begin_23 ?_
      refine lv_iload_n hx hb dX1_begin_26 rfl (lv_at hl 3 rfl) ?_
      refine lv_iload hx hb dX1_begin_27 (lv_at hl 4 rfl) ?_
      refine lv_iconst (v := 0) hx hb dX1_begin_29 (by decide) ?_
      skip
      refine zw_V (As := [.int 0, .int 1, .int x, .int 0]) (rest := []) (wr := []) ⟨hx, hb, hml, hown, hts⟩ (c_F_M_run_0_0_1_0 l D cI cJ cZ cP cS po mv mb (mr) (nb) (a_) fb (x) hy2 hy3 H.size) (cwV 4 hts gX1_begin_X1_run rfl rfl rfl ⟨rfl, dh_X1_run⟩ ⟨Nat.le_of_ble_eq_true rfl, Nat.le_of_ble_eq_true rfl⟩) hK hN (hZ.kept hS) hP hD hS hA [0, 1] [] rfl rfl (by decide) (by decide) (by decide) (va_recv (q := (RX1, TX1, 5)) hK hP (ci := 1) (q0 := 0) rfl rfl) rfl hl.1 rfl (Nat.le_of_ble_eq_true rfl) dX1_begin_30 ⟨Nat.le_of_ble_eq_true rfl, Nat.le_of_ble_eq_true rfl⟩ (fun r_5 u_6 H locs hr_5 hP hD hS => ?_)
      obtain ⟨q_7, q_8⟩ := u_6
      try dsimp only at hr_5
      obtain ⟨hbq_7, hsr_5_0, hsr_5_1, hr_5⟩ := hr_5
      have h9R := zRe (ws' := [(mv, .inr (1, [.ref mb, .int q_7, .int 0, .int nb, .int a_])), (mb, .inl (cI, 20, .inl q_8))]) hP hD rfl
      clear hP hD
      obtain ⟨hP, hD⟩ := h9R
      exact W.iret (v := r_5) hx hb hr (fun t ht hW => ⟨⟨r_5, (q_7, 0, nb, a_, q_8), rfl, ⟨(show 0 ≤ q_7.toInt ∧ q_7.toInt ≤ 2000 from ⟨by omega, by omega⟩), (show (r_5 : Int32) = zQa (0 : Int32).toInt (1 : Int32).toInt x nb a_ from by (rw [hsr_5_0, show (0 : Int32).toInt = 0 from by decide, show (1 : Int32).toInt = 1 from by decide]; first | done | rfl)), (show q_8 = zTr fb mr.toInt (zBa (0 : Int32).toInt (1 : Int32).toInt) from by (rw [hsr_5_1, show (0 : Int32).toInt = 0 from by decide, show (1 : Int32).toInt = 1 from by decide]; first | done | rfl)), (show q_7.toInt = mr.toInt + ((zBa (0 : Int32).toInt (1 : Int32).toInt).length : Nat) from by (have q : ((zBa (0 : Int32).toInt (1 : Int32).toInt).length : Int) = 2 := (by rw [show (0 : Int32).toInt = 0 from by decide, show (1 : Int32).toInt = 1 from by decide]; first | done | rfl); omega)), trivial⟩, zRet ht hP hD [0, 1] (by decide) rfl⟩, hS.F ht⟩) hS.2.2 dX1_begin_33
    · refine lv_aload_n hx hb dX1_begin_1 rfl (lv_at hl 1 rfl) ?_
      refine va_get (D := D) (ci := 2) (v := .int 0) (C := RX2) (T := TX2) (N := 3) hx hb hts hi_X1_begin_2 hown hK (zPu_P (hZ.kept hS) hu_u0) 0 rfl rfl 0 (by decide) (hts (.fieldLink RX1 28 "TheLiningsInIt$Pull" "kind" "I") (List.mem_of_getElem? (i := 1) rfl)) (fun _ h9 => h9) rfl dX1_begin_2 ?_
      refine va_put (D := D) (ci := 1) (v := .int 0) (ty := .int) (C := RX1) (T := TX1) (N := 5) hx hb hts hi_X1_begin_1 tyX1 tyX1_ok nmX1 hown hK hP hD hS 0 rfl rfl 2 (by decide) (hts (.fieldLink RX1 19 "TheLiningsInIt$Moves" "kind" "I") (List.mem_of_getElem? (i := 2) rfl)) (fun _ h9 => h9) rfl (tyX1_ok 2 (Nat.le_of_ble_eq_true rfl)) rfl rfl (Nat.le_of_ble_eq_true rfl) dX1_begin_5 (fun H locs hP hD hS => ?_)
      have h9R := zRe (ws' := [(mv, .inr (1, [.ref mb, .int mr, .int 0, .int mm, .int mq])), (mb, .inl (cI, 20, .inl fb))]) hP hD rfl
      clear hP hD
      obtain ⟨hP, hD⟩ := h9R
      refine lv_aload_n hx hb dX1_begin_8 rfl (lv_at hl 0 rfl) ?_
      refine lv_iload_n hx hb dX1_begin_9 rfl (lv_at hl 2 rfl) ?_
      refine va_put (D := D) (ci := 1) (v := .int nb) (ty := .int) (C := RX1) (T := TX1) (N := 5) hx hb hts hi_X1_begin_1 tyX1 tyX1_ok nmX1 hown hK hP hD hS 0 rfl rfl 3 (by decide) (hts (.fieldLink RX1 22 "TheLiningsInIt$Moves" "m" "I") (List.mem_of_getElem? (i := 3) rfl)) (fun _ h9 => h9) rfl (tyX1_ok 3 (Nat.le_of_ble_eq_true rfl)) rfl rfl (Nat.le_of_ble_eq_true rfl) dX1_begin_10 (fun H locs hP hD hS => ?_)
      have h9R := zRe (ws' := [(mv, .inr (1, [.ref mb, .int mr, .int 0, .int nb, .int mq])), (mb, .inl (cI, 20, .inl fb))]) hP hD rfl
      clear hP hD
      obtain ⟨hP, hD⟩ := h9R
      refine lv_aload_n hx hb dX1_begin_13 rfl (lv_at hl 0 rfl) ?_
      refine lv_aload_n hx hb dX1_begin_14 rfl (lv_at hl 1 rfl) ?_
      refine va_get (D := D) (ci := 2) (v := .int a_) (C := RX2) (T := TX2) (N := 3) hx hb hts hi_X1_begin_2 hown hK (zPu_P (hZ.kept hS) hu_u0) 0 rfl rfl 1 (by decide) (hts (.fieldLink RX1 31 "TheLiningsInIt$Pull" "a" "I") (List.mem_of_getElem? (i := 4) rfl)) (fun _ h9 => h9) rfl dX1_begin_15 ?_
      refine va_put (D := D) (ci := 1) (v := .int a_) (ty := .int) (C := RX1) (T := TX1) (N := 5) hx hb hts hi_X1_begin_1 tyX1 tyX1_ok nmX1 hown hK hP hD hS 0 rfl rfl 4 (by decide) (hts (.fieldLink RX1 25 "TheLiningsInIt$Moves" "k" "I") (List.mem_of_getElem? (i := 5) rfl)) (fun _ h9 => h9) rfl (tyX1_ok 4 (Nat.le_of_ble_eq_true rfl)) rfl rfl (Nat.le_of_ble_eq_true rfl) dX1_begin_18 (fun H locs hP hD hS => ?_)
      have h9R := zRe (ws' := [(mv, .inr (1, [.ref mb, .int mr, .int 0, .int nb, .int a_])), (mb, .inl (cI, 20, .inl fb))]) hP hD rfl
      clear hP hD
      obtain ⟨hP, hD⟩ := h9R
      refine lv_aload_n hx hb dX1_begin_21 rfl (lv_at hl 0 rfl) ?_
      refine lv_aload_n hx hb dX1_begin_22 rfl (lv_at hl 0 rfl) ?_
      refine va_get (D := D) (ci := 1) (v := .int 0) (C := RX1) (T := TX1) (N := 5) hx hb hts hi_X1_begin_1 hown hK hP 0 rfl rfl 2 (by decide) (hts (.fieldLink RX1 19 "TheLiningsInIt$Moves" "kind" "I") (List.mem_of_getElem? (i := 2) rfl)) (fun _ h9 => h9) rfl dX1_begin_23 ?_
      refine lv_iload_n hx hb dX1_begin_26 rfl (lv_at hl 3 rfl) ?_
      refine lv_iload hx hb dX1_begin_27 (lv_at hl 4 rfl) ?_
      refine lv_iconst (v := 0) hx hb dX1_begin_29 (by decide) ?_
      skip
      refine zw_V (As := [.int 0, .int 2, .int x, .int 0]) (rest := []) (wr := []) ⟨hx, hb, hml, hown, hts⟩ (c_F_M_run_0_0_2_0 l D cI cJ cZ cP cS po mv mb (mr) (nb) (a_) fb (x) hy2 hy3 H.size) (cwV 4 hts gX1_begin_X1_run rfl rfl rfl ⟨rfl, dh_X1_run⟩ ⟨Nat.le_of_ble_eq_true rfl, Nat.le_of_ble_eq_true rfl⟩) hK hN (hZ.kept hS) hP hD hS hA [0, 1] [] rfl rfl (by decide) (by decide) (by decide) (va_recv (q := (RX1, TX1, 5)) hK hP (ci := 1) (q0 := 0) rfl rfl) rfl hl.1 rfl (Nat.le_of_ble_eq_true rfl) dX1_begin_30 ⟨Nat.le_of_ble_eq_true rfl, Nat.le_of_ble_eq_true rfl⟩ (fun r_9 u_10 H locs hr_9 hP hD hS => ?_)
      obtain ⟨q_11, q_12⟩ := u_10
      try dsimp only at hr_9
      obtain ⟨hbq_11, hsr_9_0, hsr_9_1, hr_9⟩ := hr_9
      have h9R := zRe (ws' := [(mv, .inr (1, [.ref mb, .int q_11, .int 0, .int nb, .int a_])), (mb, .inl (cI, 20, .inl q_12))]) hP hD rfl
      clear hP hD
      obtain ⟨hP, hD⟩ := h9R
      exact W.iret (v := r_9) hx hb hr (fun t ht hW => ⟨⟨r_9, (q_11, 0, nb, a_, q_12), rfl, ⟨(show 0 ≤ q_11.toInt ∧ q_11.toInt ≤ 2000 from ⟨by omega, by omega⟩), (show (r_9 : Int32) = zQa (0 : Int32).toInt (2 : Int32).toInt x nb a_ from by (rw [hsr_9_0, show (0 : Int32).toInt = 0 from by decide, show (2 : Int32).toInt = 2 from by decide]; first | done | rfl)), (show q_12 = zTr fb mr.toInt (zBa (0 : Int32).toInt (2 : Int32).toInt) from by (rw [hsr_9_1, show (0 : Int32).toInt = 0 from by decide, show (2 : Int32).toInt = 2 from by decide]; first | done | rfl)), (show q_11.toInt = mr.toInt + ((zBa (0 : Int32).toInt (2 : Int32).toInt).length : Nat) from by (have q : ((zBa (0 : Int32).toInt (2 : Int32).toInt).length : Int) = 4 := (by rw [show (0 : Int32).toInt = 0 from by decide, show (2 : Int32).toInt = 2 from by decide]; first | done | rfl); omega)), trivial⟩, zRet ht hP hD [0, 1] (by decide) rfl⟩, hS.F ht⟩) hS.2.2 dX1_begin_33
  · refine lv_aload_n hx hb dX1_begin_0 rfl (lv_at hl 0 rfl) ?_
    have hsp : mo = 0 ∨ mo = 1 ∨ mo = 2 := by
      rcases (show mo.toInt = 0 ∨ mo.toInt = 1 ∨ mo.toInt = 2 by omega) with h9 | h9 | h9
      · refine Or.inl ?_; exact zf_val h9 (by decide)
      · refine Or.inr (Or.inl ?_); exact zf_val h9 (by decide)
      · refine Or.inr (Or.inr (?_)); exact zf_val h9 (by decide)
    rcases hsp with rfl | rfl | rfl
    · refine lv_aload_n hx hb dX1_begin_1 rfl (lv_at hl 1 rfl) ?_
      refine va_get (D := D) (ci := 2) (v := .int 1) (C := RX2) (T := TX2) (N := 3) hx hb hts hi_X1_begin_2 hown hK (zPu_P (hZ.kept hS) hu_u0) 0 rfl rfl 0 (by decide) (hts (.fieldLink RX1 28 "TheLiningsInIt$Pull" "kind" "I") (List.mem_of_getElem? (i := 1) rfl)) (fun _ h9 => h9) rfl dX1_begin_2 ?_
      refine va_put (D := D) (ci := 1) (v := .int 1) (ty := .int) (C := RX1) (T := TX1) (N := 5) hx hb hts hi_X1_begin_1 tyX1 tyX1_ok nmX1 hown hK hP hD hS 0 rfl rfl 2 (by decide) (hts (.fieldLink RX1 19 "TheLiningsInIt$Moves" "kind" "I") (List.mem_of_getElem? (i := 2) rfl)) (fun _ h9 => h9) rfl (tyX1_ok 2 (Nat.le_of_ble_eq_true rfl)) rfl rfl (Nat.le_of_ble_eq_true rfl) dX1_begin_5 (fun H locs hP hD hS => ?_)
      have h9R := zRe (ws' := [(mv, .inr (1, [.ref mb, .int mr, .int 1, .int mm, .int mq])), (mb, .inl (cI, 20, .inl fb))]) hP hD rfl
      clear hP hD
      obtain ⟨hP, hD⟩ := h9R
      refine lv_aload_n hx hb dX1_begin_8 rfl (lv_at hl 0 rfl) ?_
      refine lv_iload_n hx hb dX1_begin_9 rfl (lv_at hl 2 rfl) ?_
      refine va_put (D := D) (ci := 1) (v := .int nb) (ty := .int) (C := RX1) (T := TX1) (N := 5) hx hb hts hi_X1_begin_1 tyX1 tyX1_ok nmX1 hown hK hP hD hS 0 rfl rfl 3 (by decide) (hts (.fieldLink RX1 22 "TheLiningsInIt$Moves" "m" "I") (List.mem_of_getElem? (i := 3) rfl)) (fun _ h9 => h9) rfl (tyX1_ok 3 (Nat.le_of_ble_eq_true rfl)) rfl rfl (Nat.le_of_ble_eq_true rfl) dX1_begin_10 (fun H locs hP hD hS => ?_)
      have h9R := zRe (ws' := [(mv, .inr (1, [.ref mb, .int mr, .int 1, .int nb, .int mq])), (mb, .inl (cI, 20, .inl fb))]) hP hD rfl
      clear hP hD
      obtain ⟨hP, hD⟩ := h9R
      refine lv_aload_n hx hb dX1_begin_13 rfl (lv_at hl 0 rfl) ?_
      refine lv_aload_n hx hb dX1_begin_14 rfl (lv_at hl 1 rfl) ?_
      refine va_get (D := D) (ci := 2) (v := .int a_) (C := RX2) (T := TX2) (N := 3) hx hb hts hi_X1_begin_2 hown hK (zPu_P (hZ.kept hS) hu_u0) 0 rfl rfl 1 (by decide) (hts (.fieldLink RX1 31 "TheLiningsInIt$Pull" "a" "I") (List.mem_of_getElem? (i := 4) rfl)) (fun _ h9 => h9) rfl dX1_begin_15 ?_
      refine va_put (D := D) (ci := 1) (v := .int a_) (ty := .int) (C := RX1) (T := TX1) (N := 5) hx hb hts hi_X1_begin_1 tyX1 tyX1_ok nmX1 hown hK hP hD hS 0 rfl rfl 4 (by decide) (hts (.fieldLink RX1 25 "TheLiningsInIt$Moves" "k" "I") (List.mem_of_getElem? (i := 5) rfl)) (fun _ h9 => h9) rfl (tyX1_ok 4 (Nat.le_of_ble_eq_true rfl)) rfl rfl (Nat.le_of_ble_eq_true rfl) dX1_begin_18 (fun H locs hP hD hS => ?_)
      have h9R := zRe (ws' := [(mv, .inr (1, [.ref mb, .int mr, .int 1, .int nb, .int a_])), (mb, .inl (cI, 20, .inl fb))]) hP hD rfl
      clear hP hD
      obtain ⟨hP, hD⟩ := h9R
      refine lv_aload_n hx hb dX1_begin_21 rfl (lv_at hl 0 rfl) ?_
      refine lv_aload_n hx hb dX1_begin_22 rfl (lv_at hl 0 rfl) ?_
      refine va_get (D := D) (ci := 1) (v := .int 1) (C := RX1) (T := TX1) (N := 5) hx hb hts hi_X1_begin_1 hown hK hP 0 rfl rfl 2 (by decide) (hts (.fieldLink RX1 19 "TheLiningsInIt$Moves" "kind" "I") (List.mem_of_getElem? (i := 2) rfl)) (fun _ h9 => h9) rfl dX1_begin_23 ?_
      refine lv_iload_n hx hb dX1_begin_26 rfl (lv_at hl 3 rfl) ?_
      refine lv_iload hx hb dX1_begin_27 (lv_at hl 4 rfl) ?_
      refine lv_iconst (v := 0) hx hb dX1_begin_29 (by decide) ?_
      skip
      refine zw_V (As := [.int 1, .int 0, .int x, .int 0]) (rest := []) (wr := []) ⟨hx, hb, hml, hown, hts⟩ (c_F_M_run_1_1_0_0 l D cI cJ cZ cP cS po mv mb (mr) (nb) (a_) fb (x) hy2 hy3 H.size) (cwV 4 hts gX1_begin_X1_run rfl rfl rfl ⟨rfl, dh_X1_run⟩ ⟨Nat.le_of_ble_eq_true rfl, Nat.le_of_ble_eq_true rfl⟩) hK hN (hZ.kept hS) hP hD hS hA [0, 1] [] rfl rfl (by decide) (by decide) (by decide) (va_recv (q := (RX1, TX1, 5)) hK hP (ci := 1) (q0 := 0) rfl rfl) rfl hl.1 rfl (Nat.le_of_ble_eq_true rfl) dX1_begin_30 ⟨Nat.le_of_ble_eq_true rfl, Nat.le_of_ble_eq_true rfl⟩ (fun r_13 u_14 H locs hr_13 hP hD hS => ?_)
      obtain ⟨q_15, q_16⟩ := u_14
      try dsimp only at hr_13
      obtain ⟨hbq_15, hsr_13_0, hsr_13_1, hr_13⟩ := hr_13
      have h9R := zRe (ws' := [(mv, .inr (1, [.ref mb, .int q_15, .int 1, .int nb, .int a_])), (mb, .inl (cI, 20, .inl q_16))]) hP hD rfl
      clear hP hD
      obtain ⟨hP, hD⟩ := h9R
      exact W.iret (v := r_13) hx hb hr (fun t ht hW => ⟨⟨r_13, (q_15, 1, nb, a_, q_16), rfl, ⟨(show 0 ≤ q_15.toInt ∧ q_15.toInt ≤ 2000 from ⟨by omega, by omega⟩), (show (r_13 : Int32) = zQa (1 : Int32).toInt (0 : Int32).toInt x nb a_ from by (rw [hsr_13_0, show (0 : Int32).toInt = 0 from by decide, show (1 : Int32).toInt = 1 from by decide]; first | done | rfl)), (show q_16 = zTr fb mr.toInt (zBa (1 : Int32).toInt (0 : Int32).toInt) from by (rw [hsr_13_1, show (0 : Int32).toInt = 0 from by decide, show (1 : Int32).toInt = 1 from by decide]; first | done | rfl)), (show q_15.toInt = mr.toInt + ((zBa (1 : Int32).toInt (0 : Int32).toInt).length : Nat) from by (have q : ((zBa (1 : Int32).toInt (0 : Int32).toInt).length : Int) = 2 := (by rw [show (0 : Int32).toInt = 0 from by decide, show (1 : Int32).toInt = 1 from by decide]; first | done | rfl); omega)), trivial⟩, zRet ht hP hD [0, 1] (by decide) rfl⟩, hS.F ht⟩) hS.2.2 dX1_begin_33
    · refine lv_aload_n hx hb dX1_begin_1 rfl (lv_at hl 1 rfl) ?_
      refine va_get (D := D) (ci := 2) (v := .int 1) (C := RX2) (T := TX2) (N := 3) hx hb hts hi_X1_begin_2 hown hK (zPu_P (hZ.kept hS) hu_u0) 0 rfl rfl 0 (by decide) (hts (.fieldLink RX1 28 "TheLiningsInIt$Pull" "kind" "I") (List.mem_of_getElem? (i := 1) rfl)) (fun _ h9 => h9) rfl dX1_begin_2 ?_
      refine va_put (D := D) (ci := 1) (v := .int 1) (ty := .int) (C := RX1) (T := TX1) (N := 5) hx hb hts hi_X1_begin_1 tyX1 tyX1_ok nmX1 hown hK hP hD hS 0 rfl rfl 2 (by decide) (hts (.fieldLink RX1 19 "TheLiningsInIt$Moves" "kind" "I") (List.mem_of_getElem? (i := 2) rfl)) (fun _ h9 => h9) rfl (tyX1_ok 2 (Nat.le_of_ble_eq_true rfl)) rfl rfl (Nat.le_of_ble_eq_true rfl) dX1_begin_5 (fun H locs hP hD hS => ?_)
      have h9R := zRe (ws' := [(mv, .inr (1, [.ref mb, .int mr, .int 1, .int mm, .int mq])), (mb, .inl (cI, 20, .inl fb))]) hP hD rfl
      clear hP hD
      obtain ⟨hP, hD⟩ := h9R
      refine lv_aload_n hx hb dX1_begin_8 rfl (lv_at hl 0 rfl) ?_
      refine lv_iload_n hx hb dX1_begin_9 rfl (lv_at hl 2 rfl) ?_
      refine va_put (D := D) (ci := 1) (v := .int nb) (ty := .int) (C := RX1) (T := TX1) (N := 5) hx hb hts hi_X1_begin_1 tyX1 tyX1_ok nmX1 hown hK hP hD hS 0 rfl rfl 3 (by decide) (hts (.fieldLink RX1 22 "TheLiningsInIt$Moves" "m" "I") (List.mem_of_getElem? (i := 3) rfl)) (fun _ h9 => h9) rfl (tyX1_ok 3 (Nat.le_of_ble_eq_true rfl)) rfl rfl (Nat.le_of_ble_eq_true rfl) dX1_begin_10 (fun H locs hP hD hS => ?_)
      have h9R := zRe (ws' := [(mv, .inr (1, [.ref mb, .int mr, .int 1, .int nb, .int mq])), (mb, .inl (cI, 20, .inl fb))]) hP hD rfl
      clear hP hD
      obtain ⟨hP, hD⟩ := h9R
      refine lv_aload_n hx hb dX1_begin_13 rfl (lv_at hl 0 rfl) ?_
      refine lv_aload_n hx hb dX1_begin_14 rfl (lv_at hl 1 rfl) ?_
      refine va_get (D := D) (ci := 2) (v := .int a_) (C := RX2) (T := TX2) (N := 3) hx hb hts hi_X1_begin_2 hown hK (zPu_P (hZ.kept hS) hu_u0) 0 rfl rfl 1 (by decide) (hts (.fieldLink RX1 31 "TheLiningsInIt$Pull" "a" "I") (List.mem_of_getElem? (i := 4) rfl)) (fun _ h9 => h9) rfl dX1_begin_15 ?_
      refine va_put (D := D) (ci := 1) (v := .int a_) (ty := .int) (C := RX1) (T := TX1) (N := 5) hx hb hts hi_X1_begin_1 tyX1 tyX1_ok nmX1 hown hK hP hD hS 0 rfl rfl 4 (by decide) (hts (.fieldLink RX1 25 "TheLiningsInIt$Moves" "k" "I") (List.mem_of_getElem? (i := 5) rfl)) (fun _ h9 => h9) rfl (tyX1_ok 4 (Nat.le_of_ble_eq_true rfl)) rfl rfl (Nat.le_of_ble_eq_true rfl) dX1_begin_18 (fun H locs hP hD hS => ?_)
      have h9R := zRe (ws' := [(mv, .inr (1, [.ref mb, .int mr, .int 1, .int nb, .int a_])), (mb, .inl (cI, 20, .inl fb))]) hP hD rfl
      clear hP hD
      obtain ⟨hP, hD⟩ := h9R
      refine lv_aload_n hx hb dX1_begin_21 rfl (lv_at hl 0 rfl) ?_
      refine lv_aload_n hx hb dX1_begin_22 rfl (lv_at hl 0 rfl) ?_
      refine va_get (D := D) (ci := 1) (v := .int 1) (C := RX1) (T := TX1) (N := 5) hx hb hts hi_X1_begin_1 hown hK hP 0 rfl rfl 2 (by decide) (hts (.fieldLink RX1 19 "TheLiningsInIt$Moves" "kind" "I") (List.mem_of_getElem? (i := 2) rfl)) (fun _ h9 => h9) rfl dX1_begin_23 ?_
      refine lv_iload_n hx hb dX1_begin_26 rfl (lv_at hl 3 rfl) ?_
      refine lv_iload hx hb dX1_begin_27 (lv_at hl 4 rfl) ?_
      refine lv_iconst (v := 0) hx hb dX1_begin_29 (by decide) ?_
      skip
      refine zw_V (As := [.int 1, .int 1, .int x, .int 0]) (rest := []) (wr := []) ⟨hx, hb, hml, hown, hts⟩ (c_F_M_run_1_1_1_0 l D cI cJ cZ cP cS po mv mb (mr) (nb) (a_) fb (x) hy2 hy3 H.size) (cwV 4 hts gX1_begin_X1_run rfl rfl rfl ⟨rfl, dh_X1_run⟩ ⟨Nat.le_of_ble_eq_true rfl, Nat.le_of_ble_eq_true rfl⟩) hK hN (hZ.kept hS) hP hD hS hA [0, 1] [] rfl rfl (by decide) (by decide) (by decide) (va_recv (q := (RX1, TX1, 5)) hK hP (ci := 1) (q0 := 0) rfl rfl) rfl hl.1 rfl (Nat.le_of_ble_eq_true rfl) dX1_begin_30 ⟨Nat.le_of_ble_eq_true rfl, Nat.le_of_ble_eq_true rfl⟩ (fun r_17 u_18 H locs hr_17 hP hD hS => ?_)
      obtain ⟨q_19, q_20⟩ := u_18
      try dsimp only at hr_17
      obtain ⟨hbq_19, hsr_17_0, hsr_17_1, hr_17⟩ := hr_17
      have h9R := zRe (ws' := [(mv, .inr (1, [.ref mb, .int q_19, .int 1, .int nb, .int a_])), (mb, .inl (cI, 20, .inl q_20))]) hP hD rfl
      clear hP hD
      obtain ⟨hP, hD⟩ := h9R
      exact W.iret (v := r_17) hx hb hr (fun t ht hW => ⟨⟨r_17, (q_19, 1, nb, a_, q_20), rfl, ⟨(show 0 ≤ q_19.toInt ∧ q_19.toInt ≤ 2000 from ⟨by omega, by omega⟩), (show (r_17 : Int32) = zQa (1 : Int32).toInt (1 : Int32).toInt x nb a_ from by (rw [hsr_17_0, show (1 : Int32).toInt = 1 from by decide]; first | done | rfl)), (show q_20 = zTr fb mr.toInt (zBa (1 : Int32).toInt (1 : Int32).toInt) from by (rw [hsr_17_1, show (1 : Int32).toInt = 1 from by decide]; first | done | rfl)), (show q_19.toInt = mr.toInt + ((zBa (1 : Int32).toInt (1 : Int32).toInt).length : Nat) from by (have q : ((zBa (1 : Int32).toInt (1 : Int32).toInt).length : Int) = 3 := (by rw [show (1 : Int32).toInt = 1 from by decide]; first | done | rfl); omega)), trivial⟩, zRet ht hP hD [0, 1] (by decide) rfl⟩, hS.F ht⟩) hS.2.2 dX1_begin_33
    · refine lv_aload_n hx hb dX1_begin_1 rfl (lv_at hl 1 rfl) ?_
      refine va_get (D := D) (ci := 2) (v := .int 1) (C := RX2) (T := TX2) (N := 3) hx hb hts hi_X1_begin_2 hown hK (zPu_P (hZ.kept hS) hu_u0) 0 rfl rfl 0 (by decide) (hts (.fieldLink RX1 28 "TheLiningsInIt$Pull" "kind" "I") (List.mem_of_getElem? (i := 1) rfl)) (fun _ h9 => h9) rfl dX1_begin_2 ?_
      refine va_put (D := D) (ci := 1) (v := .int 1) (ty := .int) (C := RX1) (T := TX1) (N := 5) hx hb hts hi_X1_begin_1 tyX1 tyX1_ok nmX1 hown hK hP hD hS 0 rfl rfl 2 (by decide) (hts (.fieldLink RX1 19 "TheLiningsInIt$Moves" "kind" "I") (List.mem_of_getElem? (i := 2) rfl)) (fun _ h9 => h9) rfl (tyX1_ok 2 (Nat.le_of_ble_eq_true rfl)) rfl rfl (Nat.le_of_ble_eq_true rfl) dX1_begin_5 (fun H locs hP hD hS => ?_)
      have h9R := zRe (ws' := [(mv, .inr (1, [.ref mb, .int mr, .int 1, .int mm, .int mq])), (mb, .inl (cI, 20, .inl fb))]) hP hD rfl
      clear hP hD
      obtain ⟨hP, hD⟩ := h9R
      refine lv_aload_n hx hb dX1_begin_8 rfl (lv_at hl 0 rfl) ?_
      refine lv_iload_n hx hb dX1_begin_9 rfl (lv_at hl 2 rfl) ?_
      refine va_put (D := D) (ci := 1) (v := .int nb) (ty := .int) (C := RX1) (T := TX1) (N := 5) hx hb hts hi_X1_begin_1 tyX1 tyX1_ok nmX1 hown hK hP hD hS 0 rfl rfl 3 (by decide) (hts (.fieldLink RX1 22 "TheLiningsInIt$Moves" "m" "I") (List.mem_of_getElem? (i := 3) rfl)) (fun _ h9 => h9) rfl (tyX1_ok 3 (Nat.le_of_ble_eq_true rfl)) rfl rfl (Nat.le_of_ble_eq_true rfl) dX1_begin_10 (fun H locs hP hD hS => ?_)
      have h9R := zRe (ws' := [(mv, .inr (1, [.ref mb, .int mr, .int 1, .int nb, .int mq])), (mb, .inl (cI, 20, .inl fb))]) hP hD rfl
      clear hP hD
      obtain ⟨hP, hD⟩ := h9R
      refine lv_aload_n hx hb dX1_begin_13 rfl (lv_at hl 0 rfl) ?_
      refine lv_aload_n hx hb dX1_begin_14 rfl (lv_at hl 1 rfl) ?_
      refine va_get (D := D) (ci := 2) (v := .int a_) (C := RX2) (T := TX2) (N := 3) hx hb hts hi_X1_begin_2 hown hK (zPu_P (hZ.kept hS) hu_u0) 0 rfl rfl 1 (by decide) (hts (.fieldLink RX1 31 "TheLiningsInIt$Pull" "a" "I") (List.mem_of_getElem? (i := 4) rfl)) (fun _ h9 => h9) rfl dX1_begin_15 ?_
      refine va_put (D := D) (ci := 1) (v := .int a_) (ty := .int) (C := RX1) (T := TX1) (N := 5) hx hb hts hi_X1_begin_1 tyX1 tyX1_ok nmX1 hown hK hP hD hS 0 rfl rfl 4 (by decide) (hts (.fieldLink RX1 25 "TheLiningsInIt$Moves" "k" "I") (List.mem_of_getElem? (i := 5) rfl)) (fun _ h9 => h9) rfl (tyX1_ok 4 (Nat.le_of_ble_eq_true rfl)) rfl rfl (Nat.le_of_ble_eq_true rfl) dX1_begin_18 (fun H locs hP hD hS => ?_)
      have h9R := zRe (ws' := [(mv, .inr (1, [.ref mb, .int mr, .int 1, .int nb, .int a_])), (mb, .inl (cI, 20, .inl fb))]) hP hD rfl
      clear hP hD
      obtain ⟨hP, hD⟩ := h9R
      refine lv_aload_n hx hb dX1_begin_21 rfl (lv_at hl 0 rfl) ?_
      refine lv_aload_n hx hb dX1_begin_22 rfl (lv_at hl 0 rfl) ?_
      refine va_get (D := D) (ci := 1) (v := .int 1) (C := RX1) (T := TX1) (N := 5) hx hb hts hi_X1_begin_1 hown hK hP 0 rfl rfl 2 (by decide) (hts (.fieldLink RX1 19 "TheLiningsInIt$Moves" "kind" "I") (List.mem_of_getElem? (i := 2) rfl)) (fun _ h9 => h9) rfl dX1_begin_23 ?_
      refine lv_iload_n hx hb dX1_begin_26 rfl (lv_at hl 3 rfl) ?_
      refine lv_iload hx hb dX1_begin_27 (lv_at hl 4 rfl) ?_
      refine lv_iconst (v := 0) hx hb dX1_begin_29 (by decide) ?_
      skip
      refine zw_V (As := [.int 1, .int 2, .int x, .int 0]) (rest := []) (wr := []) ⟨hx, hb, hml, hown, hts⟩ (c_F_M_run_1_1_2_0 l D cI cJ cZ cP cS po mv mb (mr) (nb) (a_) fb (x) hy2 hy3 H.size) (cwV 4 hts gX1_begin_X1_run rfl rfl rfl ⟨rfl, dh_X1_run⟩ ⟨Nat.le_of_ble_eq_true rfl, Nat.le_of_ble_eq_true rfl⟩) hK hN (hZ.kept hS) hP hD hS hA [0, 1] [] rfl rfl (by decide) (by decide) (by decide) (va_recv (q := (RX1, TX1, 5)) hK hP (ci := 1) (q0 := 0) rfl rfl) rfl hl.1 rfl (Nat.le_of_ble_eq_true rfl) dX1_begin_30 ⟨Nat.le_of_ble_eq_true rfl, Nat.le_of_ble_eq_true rfl⟩ (fun r_21 u_22 H locs hr_21 hP hD hS => ?_)
      obtain ⟨q_23, q_24⟩ := u_22
      try dsimp only at hr_21
      obtain ⟨hbq_23, hsr_21_0, hsr_21_1, hr_21⟩ := hr_21
      have h9R := zRe (ws' := [(mv, .inr (1, [.ref mb, .int q_23, .int 1, .int nb, .int a_])), (mb, .inl (cI, 20, .inl q_24))]) hP hD rfl
      clear hP hD
      obtain ⟨hP, hD⟩ := h9R
      exact W.iret (v := r_21) hx hb hr (fun t ht hW => ⟨⟨r_21, (q_23, 1, nb, a_, q_24), rfl, ⟨(show 0 ≤ q_23.toInt ∧ q_23.toInt ≤ 2000 from ⟨by omega, by omega⟩), (show (r_21 : Int32) = zQa (1 : Int32).toInt (2 : Int32).toInt x nb a_ from by (rw [hsr_21_0, show (1 : Int32).toInt = 1 from by decide, show (2 : Int32).toInt = 2 from by decide]; first | done | rfl)), (show q_24 = zTr fb mr.toInt (zBa (1 : Int32).toInt (2 : Int32).toInt) from by (rw [hsr_21_1, show (1 : Int32).toInt = 1 from by decide, show (2 : Int32).toInt = 2 from by decide]; first | done | rfl)), (show q_23.toInt = mr.toInt + ((zBa (1 : Int32).toInt (2 : Int32).toInt).length : Nat) from by (have q : ((zBa (1 : Int32).toInt (2 : Int32).toInt).length : Int) = 6 := (by rw [show (1 : Int32).toInt = 1 from by decide, show (2 : Int32).toInt = 2 from by decide]; first | done | rfl); omega)), trivial⟩, zRet ht hP hD [0, 1] (by decide) rfl⟩, hS.F ht⟩) hS.2.2 dX1_begin_33
  · refine lv_aload_n hx hb dX1_begin_0 rfl (lv_at hl 0 rfl) ?_
    have hsp : mo = 0 ∨ mo = 1 ∨ mo = 2 := by
      rcases (show mo.toInt = 0 ∨ mo.toInt = 1 ∨ mo.toInt = 2 by omega) with h9 | h9 | h9
      · refine Or.inl ?_; exact zf_val h9 (by decide)
      · refine Or.inr (Or.inl ?_); exact zf_val h9 (by decide)
      · refine Or.inr (Or.inr (?_)); exact zf_val h9 (by decide)
    rcases hsp with rfl | rfl | rfl
    · refine lv_aload_n hx hb dX1_begin_1 rfl (lv_at hl 1 rfl) ?_
      refine va_get (D := D) (ci := 2) (v := .int 2) (C := RX2) (T := TX2) (N := 3) hx hb hts hi_X1_begin_2 hown hK (zPu_P (hZ.kept hS) hu_u0) 0 rfl rfl 0 (by decide) (hts (.fieldLink RX1 28 "TheLiningsInIt$Pull" "kind" "I") (List.mem_of_getElem? (i := 1) rfl)) (fun _ h9 => h9) rfl dX1_begin_2 ?_
      refine va_put (D := D) (ci := 1) (v := .int 2) (ty := .int) (C := RX1) (T := TX1) (N := 5) hx hb hts hi_X1_begin_1 tyX1 tyX1_ok nmX1 hown hK hP hD hS 0 rfl rfl 2 (by decide) (hts (.fieldLink RX1 19 "TheLiningsInIt$Moves" "kind" "I") (List.mem_of_getElem? (i := 2) rfl)) (fun _ h9 => h9) rfl (tyX1_ok 2 (Nat.le_of_ble_eq_true rfl)) rfl rfl (Nat.le_of_ble_eq_true rfl) dX1_begin_5 (fun H locs hP hD hS => ?_)
      have h9R := zRe (ws' := [(mv, .inr (1, [.ref mb, .int mr, .int 2, .int mm, .int mq])), (mb, .inl (cI, 20, .inl fb))]) hP hD rfl
      clear hP hD
      obtain ⟨hP, hD⟩ := h9R
      refine lv_aload_n hx hb dX1_begin_8 rfl (lv_at hl 0 rfl) ?_
      refine lv_iload_n hx hb dX1_begin_9 rfl (lv_at hl 2 rfl) ?_
      refine va_put (D := D) (ci := 1) (v := .int nb) (ty := .int) (C := RX1) (T := TX1) (N := 5) hx hb hts hi_X1_begin_1 tyX1 tyX1_ok nmX1 hown hK hP hD hS 0 rfl rfl 3 (by decide) (hts (.fieldLink RX1 22 "TheLiningsInIt$Moves" "m" "I") (List.mem_of_getElem? (i := 3) rfl)) (fun _ h9 => h9) rfl (tyX1_ok 3 (Nat.le_of_ble_eq_true rfl)) rfl rfl (Nat.le_of_ble_eq_true rfl) dX1_begin_10 (fun H locs hP hD hS => ?_)
      have h9R := zRe (ws' := [(mv, .inr (1, [.ref mb, .int mr, .int 2, .int nb, .int mq])), (mb, .inl (cI, 20, .inl fb))]) hP hD rfl
      clear hP hD
      obtain ⟨hP, hD⟩ := h9R
      refine lv_aload_n hx hb dX1_begin_13 rfl (lv_at hl 0 rfl) ?_
      refine lv_aload_n hx hb dX1_begin_14 rfl (lv_at hl 1 rfl) ?_
      refine va_get (D := D) (ci := 2) (v := .int a_) (C := RX2) (T := TX2) (N := 3) hx hb hts hi_X1_begin_2 hown hK (zPu_P (hZ.kept hS) hu_u0) 0 rfl rfl 1 (by decide) (hts (.fieldLink RX1 31 "TheLiningsInIt$Pull" "a" "I") (List.mem_of_getElem? (i := 4) rfl)) (fun _ h9 => h9) rfl dX1_begin_15 ?_
      refine va_put (D := D) (ci := 1) (v := .int a_) (ty := .int) (C := RX1) (T := TX1) (N := 5) hx hb hts hi_X1_begin_1 tyX1 tyX1_ok nmX1 hown hK hP hD hS 0 rfl rfl 4 (by decide) (hts (.fieldLink RX1 25 "TheLiningsInIt$Moves" "k" "I") (List.mem_of_getElem? (i := 5) rfl)) (fun _ h9 => h9) rfl (tyX1_ok 4 (Nat.le_of_ble_eq_true rfl)) rfl rfl (Nat.le_of_ble_eq_true rfl) dX1_begin_18 (fun H locs hP hD hS => ?_)
      have h9R := zRe (ws' := [(mv, .inr (1, [.ref mb, .int mr, .int 2, .int nb, .int a_])), (mb, .inl (cI, 20, .inl fb))]) hP hD rfl
      clear hP hD
      obtain ⟨hP, hD⟩ := h9R
      refine lv_aload_n hx hb dX1_begin_21 rfl (lv_at hl 0 rfl) ?_
      refine lv_aload_n hx hb dX1_begin_22 rfl (lv_at hl 0 rfl) ?_
      refine va_get (D := D) (ci := 1) (v := .int 2) (C := RX1) (T := TX1) (N := 5) hx hb hts hi_X1_begin_1 hown hK hP 0 rfl rfl 2 (by decide) (hts (.fieldLink RX1 19 "TheLiningsInIt$Moves" "kind" "I") (List.mem_of_getElem? (i := 2) rfl)) (fun _ h9 => h9) rfl dX1_begin_23 ?_
      refine lv_iload_n hx hb dX1_begin_26 rfl (lv_at hl 3 rfl) ?_
      refine lv_iload hx hb dX1_begin_27 (lv_at hl 4 rfl) ?_
      refine lv_iconst (v := 0) hx hb dX1_begin_29 (by decide) ?_
      skip
      refine zw_V (As := [.int 2, .int 0, .int x, .int 0]) (rest := []) (wr := []) ⟨hx, hb, hml, hown, hts⟩ (c_F_M_run_2_2_0_0 l D cI cJ cZ cP cS po mv mb (mr) (nb) (a_) fb (x) hy2 hy3 H.size) (cwV 4 hts gX1_begin_X1_run rfl rfl rfl ⟨rfl, dh_X1_run⟩ ⟨Nat.le_of_ble_eq_true rfl, Nat.le_of_ble_eq_true rfl⟩) hK hN (hZ.kept hS) hP hD hS hA [0, 1] [] rfl rfl (by decide) (by decide) (by decide) (va_recv (q := (RX1, TX1, 5)) hK hP (ci := 1) (q0 := 0) rfl rfl) rfl hl.1 rfl (Nat.le_of_ble_eq_true rfl) dX1_begin_30 ⟨Nat.le_of_ble_eq_true rfl, Nat.le_of_ble_eq_true rfl⟩ (fun r_25 u_26 H locs hr_25 hP hD hS => ?_)
      obtain ⟨q_27, q_28⟩ := u_26
      try dsimp only at hr_25
      obtain ⟨hbq_27, hsr_25_0, hsr_25_1, hr_25⟩ := hr_25
      have h9R := zRe (ws' := [(mv, .inr (1, [.ref mb, .int q_27, .int 2, .int nb, .int a_])), (mb, .inl (cI, 20, .inl q_28))]) hP hD rfl
      clear hP hD
      obtain ⟨hP, hD⟩ := h9R
      exact W.iret (v := r_25) hx hb hr (fun t ht hW => ⟨⟨r_25, (q_27, 2, nb, a_, q_28), rfl, ⟨(show 0 ≤ q_27.toInt ∧ q_27.toInt ≤ 2000 from ⟨by omega, by omega⟩), (show (r_25 : Int32) = zQa (2 : Int32).toInt (0 : Int32).toInt x nb a_ from by (rw [hsr_25_0, show (0 : Int32).toInt = 0 from by decide, show (2 : Int32).toInt = 2 from by decide]; first | done | rfl)), (show q_28 = zTr fb mr.toInt (zBa (2 : Int32).toInt (0 : Int32).toInt) from by (rw [hsr_25_1, show (0 : Int32).toInt = 0 from by decide, show (2 : Int32).toInt = 2 from by decide]; first | done | rfl)), (show q_27.toInt = mr.toInt + ((zBa (2 : Int32).toInt (0 : Int32).toInt).length : Nat) from by (have q : ((zBa (2 : Int32).toInt (0 : Int32).toInt).length : Int) = 1 := (by rw [show (0 : Int32).toInt = 0 from by decide, show (2 : Int32).toInt = 2 from by decide]; first | done | rfl); omega)), trivial⟩, zRet ht hP hD [0, 1] (by decide) rfl⟩, hS.F ht⟩) hS.2.2 dX1_begin_33
    · refine lv_aload_n hx hb dX1_begin_1 rfl (lv_at hl 1 rfl) ?_
      refine va_get (D := D) (ci := 2) (v := .int 2) (C := RX2) (T := TX2) (N := 3) hx hb hts hi_X1_begin_2 hown hK (zPu_P (hZ.kept hS) hu_u0) 0 rfl rfl 0 (by decide) (hts (.fieldLink RX1 28 "TheLiningsInIt$Pull" "kind" "I") (List.mem_of_getElem? (i := 1) rfl)) (fun _ h9 => h9) rfl dX1_begin_2 ?_
      refine va_put (D := D) (ci := 1) (v := .int 2) (ty := .int) (C := RX1) (T := TX1) (N := 5) hx hb hts hi_X1_begin_1 tyX1 tyX1_ok nmX1 hown hK hP hD hS 0 rfl rfl 2 (by decide) (hts (.fieldLink RX1 19 "TheLiningsInIt$Moves" "kind" "I") (List.mem_of_getElem? (i := 2) rfl)) (fun _ h9 => h9) rfl (tyX1_ok 2 (Nat.le_of_ble_eq_true rfl)) rfl rfl (Nat.le_of_ble_eq_true rfl) dX1_begin_5 (fun H locs hP hD hS => ?_)
      have h9R := zRe (ws' := [(mv, .inr (1, [.ref mb, .int mr, .int 2, .int mm, .int mq])), (mb, .inl (cI, 20, .inl fb))]) hP hD rfl
      clear hP hD
      obtain ⟨hP, hD⟩ := h9R
      refine lv_aload_n hx hb dX1_begin_8 rfl (lv_at hl 0 rfl) ?_
      refine lv_iload_n hx hb dX1_begin_9 rfl (lv_at hl 2 rfl) ?_
      refine va_put (D := D) (ci := 1) (v := .int nb) (ty := .int) (C := RX1) (T := TX1) (N := 5) hx hb hts hi_X1_begin_1 tyX1 tyX1_ok nmX1 hown hK hP hD hS 0 rfl rfl 3 (by decide) (hts (.fieldLink RX1 22 "TheLiningsInIt$Moves" "m" "I") (List.mem_of_getElem? (i := 3) rfl)) (fun _ h9 => h9) rfl (tyX1_ok 3 (Nat.le_of_ble_eq_true rfl)) rfl rfl (Nat.le_of_ble_eq_true rfl) dX1_begin_10 (fun H locs hP hD hS => ?_)
      have h9R := zRe (ws' := [(mv, .inr (1, [.ref mb, .int mr, .int 2, .int nb, .int mq])), (mb, .inl (cI, 20, .inl fb))]) hP hD rfl
      clear hP hD
      obtain ⟨hP, hD⟩ := h9R
      refine lv_aload_n hx hb dX1_begin_13 rfl (lv_at hl 0 rfl) ?_
      refine lv_aload_n hx hb dX1_begin_14 rfl (lv_at hl 1 rfl) ?_
      refine va_get (D := D) (ci := 2) (v := .int a_) (C := RX2) (T := TX2) (N := 3) hx hb hts hi_X1_begin_2 hown hK (zPu_P (hZ.kept hS) hu_u0) 0 rfl rfl 1 (by decide) (hts (.fieldLink RX1 31 "TheLiningsInIt$Pull" "a" "I") (List.mem_of_getElem? (i := 4) rfl)) (fun _ h9 => h9) rfl dX1_begin_15 ?_
      refine va_put (D := D) (ci := 1) (v := .int a_) (ty := .int) (C := RX1) (T := TX1) (N := 5) hx hb hts hi_X1_begin_1 tyX1 tyX1_ok nmX1 hown hK hP hD hS 0 rfl rfl 4 (by decide) (hts (.fieldLink RX1 25 "TheLiningsInIt$Moves" "k" "I") (List.mem_of_getElem? (i := 5) rfl)) (fun _ h9 => h9) rfl (tyX1_ok 4 (Nat.le_of_ble_eq_true rfl)) rfl rfl (Nat.le_of_ble_eq_true rfl) dX1_begin_18 (fun H locs hP hD hS => ?_)
      have h9R := zRe (ws' := [(mv, .inr (1, [.ref mb, .int mr, .int 2, .int nb, .int a_])), (mb, .inl (cI, 20, .inl fb))]) hP hD rfl
      clear hP hD
      obtain ⟨hP, hD⟩ := h9R
      refine lv_aload_n hx hb dX1_begin_21 rfl (lv_at hl 0 rfl) ?_
      refine lv_aload_n hx hb dX1_begin_22 rfl (lv_at hl 0 rfl) ?_
      refine va_get (D := D) (ci := 1) (v := .int 2) (C := RX1) (T := TX1) (N := 5) hx hb hts hi_X1_begin_1 hown hK hP 0 rfl rfl 2 (by decide) (hts (.fieldLink RX1 19 "TheLiningsInIt$Moves" "kind" "I") (List.mem_of_getElem? (i := 2) rfl)) (fun _ h9 => h9) rfl dX1_begin_23 ?_
      refine lv_iload_n hx hb dX1_begin_26 rfl (lv_at hl 3 rfl) ?_
      refine lv_iload hx hb dX1_begin_27 (lv_at hl 4 rfl) ?_
      refine lv_iconst (v := 0) hx hb dX1_begin_29 (by decide) ?_
      skip
      refine zw_V (As := [.int 2, .int 1, .int x, .int 0]) (rest := []) (wr := []) ⟨hx, hb, hml, hown, hts⟩ (c_F_M_run_2_2_1_0 l D cI cJ cZ cP cS po mv mb (mr) (nb) (a_) fb (x) hy2 hy3 H.size) (cwV 4 hts gX1_begin_X1_run rfl rfl rfl ⟨rfl, dh_X1_run⟩ ⟨Nat.le_of_ble_eq_true rfl, Nat.le_of_ble_eq_true rfl⟩) hK hN (hZ.kept hS) hP hD hS hA [0, 1] [] rfl rfl (by decide) (by decide) (by decide) (va_recv (q := (RX1, TX1, 5)) hK hP (ci := 1) (q0 := 0) rfl rfl) rfl hl.1 rfl (Nat.le_of_ble_eq_true rfl) dX1_begin_30 ⟨Nat.le_of_ble_eq_true rfl, Nat.le_of_ble_eq_true rfl⟩ (fun r_29 u_30 H locs hr_29 hP hD hS => ?_)
      obtain ⟨q_31, q_32⟩ := u_30
      try dsimp only at hr_29
      obtain ⟨hbq_31, hsr_29_0, hsr_29_1, hr_29⟩ := hr_29
      have h9R := zRe (ws' := [(mv, .inr (1, [.ref mb, .int q_31, .int 2, .int nb, .int a_])), (mb, .inl (cI, 20, .inl q_32))]) hP hD rfl
      clear hP hD
      obtain ⟨hP, hD⟩ := h9R
      exact W.iret (v := r_29) hx hb hr (fun t ht hW => ⟨⟨r_29, (q_31, 2, nb, a_, q_32), rfl, ⟨(show 0 ≤ q_31.toInt ∧ q_31.toInt ≤ 2000 from ⟨by omega, by omega⟩), (show (r_29 : Int32) = zQa (2 : Int32).toInt (1 : Int32).toInt x nb a_ from by (rw [hsr_29_0, show (1 : Int32).toInt = 1 from by decide, show (2 : Int32).toInt = 2 from by decide]; first | done | rfl)), (show q_32 = zTr fb mr.toInt (zBa (2 : Int32).toInt (1 : Int32).toInt) from by (rw [hsr_29_1, show (1 : Int32).toInt = 1 from by decide, show (2 : Int32).toInt = 2 from by decide]; first | done | rfl)), (show q_31.toInt = mr.toInt + ((zBa (2 : Int32).toInt (1 : Int32).toInt).length : Nat) from by (have q : ((zBa (2 : Int32).toInt (1 : Int32).toInt).length : Int) = 3 := (by rw [show (1 : Int32).toInt = 1 from by decide, show (2 : Int32).toInt = 2 from by decide]; first | done | rfl); omega)), trivial⟩, zRet ht hP hD [0, 1] (by decide) rfl⟩, hS.F ht⟩) hS.2.2 dX1_begin_33
    · refine lv_aload_n hx hb dX1_begin_1 rfl (lv_at hl 1 rfl) ?_
      refine va_get (D := D) (ci := 2) (v := .int 2) (C := RX2) (T := TX2) (N := 3) hx hb hts hi_X1_begin_2 hown hK (zPu_P (hZ.kept hS) hu_u0) 0 rfl rfl 0 (by decide) (hts (.fieldLink RX1 28 "TheLiningsInIt$Pull" "kind" "I") (List.mem_of_getElem? (i := 1) rfl)) (fun _ h9 => h9) rfl dX1_begin_2 ?_
      refine va_put (D := D) (ci := 1) (v := .int 2) (ty := .int) (C := RX1) (T := TX1) (N := 5) hx hb hts hi_X1_begin_1 tyX1 tyX1_ok nmX1 hown hK hP hD hS 0 rfl rfl 2 (by decide) (hts (.fieldLink RX1 19 "TheLiningsInIt$Moves" "kind" "I") (List.mem_of_getElem? (i := 2) rfl)) (fun _ h9 => h9) rfl (tyX1_ok 2 (Nat.le_of_ble_eq_true rfl)) rfl rfl (Nat.le_of_ble_eq_true rfl) dX1_begin_5 (fun H locs hP hD hS => ?_)
      have h9R := zRe (ws' := [(mv, .inr (1, [.ref mb, .int mr, .int 2, .int mm, .int mq])), (mb, .inl (cI, 20, .inl fb))]) hP hD rfl
      clear hP hD
      obtain ⟨hP, hD⟩ := h9R
      refine lv_aload_n hx hb dX1_begin_8 rfl (lv_at hl 0 rfl) ?_
      refine lv_iload_n hx hb dX1_begin_9 rfl (lv_at hl 2 rfl) ?_
      refine va_put (D := D) (ci := 1) (v := .int nb) (ty := .int) (C := RX1) (T := TX1) (N := 5) hx hb hts hi_X1_begin_1 tyX1 tyX1_ok nmX1 hown hK hP hD hS 0 rfl rfl 3 (by decide) (hts (.fieldLink RX1 22 "TheLiningsInIt$Moves" "m" "I") (List.mem_of_getElem? (i := 3) rfl)) (fun _ h9 => h9) rfl (tyX1_ok 3 (Nat.le_of_ble_eq_true rfl)) rfl rfl (Nat.le_of_ble_eq_true rfl) dX1_begin_10 (fun H locs hP hD hS => ?_)
      have h9R := zRe (ws' := [(mv, .inr (1, [.ref mb, .int mr, .int 2, .int nb, .int mq])), (mb, .inl (cI, 20, .inl fb))]) hP hD rfl
      clear hP hD
      obtain ⟨hP, hD⟩ := h9R
      refine lv_aload_n hx hb dX1_begin_13 rfl (lv_at hl 0 rfl) ?_
      refine lv_aload_n hx hb dX1_begin_14 rfl (lv_at hl 1 rfl) ?_
      refine va_get (D := D) (ci := 2) (v := .int a_) (C := RX2) (T := TX2) (N := 3) hx hb hts hi_X1_begin_2 hown hK (zPu_P (hZ.kept hS) hu_u0) 0 rfl rfl 1 (by decide) (hts (.fieldLink RX1 31 "TheLiningsInIt$Pull" "a" "I") (List.mem_of_getElem? (i := 4) rfl)) (fun _ h9 => h9) rfl dX1_begin_15 ?_
      refine va_put (D := D) (ci := 1) (v := .int a_) (ty := .int) (C := RX1) (T := TX1) (N := 5) hx hb hts hi_X1_begin_1 tyX1 tyX1_ok nmX1 hown hK hP hD hS 0 rfl rfl 4 (by decide) (hts (.fieldLink RX1 25 "TheLiningsInIt$Moves" "k" "I") (List.mem_of_getElem? (i := 5) rfl)) (fun _ h9 => h9) rfl (tyX1_ok 4 (Nat.le_of_ble_eq_true rfl)) rfl rfl (Nat.le_of_ble_eq_true rfl) dX1_begin_18 (fun H locs hP hD hS => ?_)
      have h9R := zRe (ws' := [(mv, .inr (1, [.ref mb, .int mr, .int 2, .int nb, .int a_])), (mb, .inl (cI, 20, .inl fb))]) hP hD rfl
      clear hP hD
      obtain ⟨hP, hD⟩ := h9R
      refine lv_aload_n hx hb dX1_begin_21 rfl (lv_at hl 0 rfl) ?_
      refine lv_aload_n hx hb dX1_begin_22 rfl (lv_at hl 0 rfl) ?_
      refine va_get (D := D) (ci := 1) (v := .int 2) (C := RX1) (T := TX1) (N := 5) hx hb hts hi_X1_begin_1 hown hK hP 0 rfl rfl 2 (by decide) (hts (.fieldLink RX1 19 "TheLiningsInIt$Moves" "kind" "I") (List.mem_of_getElem? (i := 2) rfl)) (fun _ h9 => h9) rfl dX1_begin_23 ?_
      refine lv_iload_n hx hb dX1_begin_26 rfl (lv_at hl 3 rfl) ?_
      refine lv_iload hx hb dX1_begin_27 (lv_at hl 4 rfl) ?_
      refine lv_iconst (v := 0) hx hb dX1_begin_29 (by decide) ?_
      skip
      refine zw_V (As := [.int 2, .int 2, .int x, .int 0]) (rest := []) (wr := []) ⟨hx, hb, hml, hown, hts⟩ (c_F_M_run_2_2_2_0 l D cI cJ cZ cP cS po mv mb (mr) (nb) (a_) fb (x) hy2 hy3 H.size) (cwV 4 hts gX1_begin_X1_run rfl rfl rfl ⟨rfl, dh_X1_run⟩ ⟨Nat.le_of_ble_eq_true rfl, Nat.le_of_ble_eq_true rfl⟩) hK hN (hZ.kept hS) hP hD hS hA [0, 1] [] rfl rfl (by decide) (by decide) (by decide) (va_recv (q := (RX1, TX1, 5)) hK hP (ci := 1) (q0 := 0) rfl rfl) rfl hl.1 rfl (Nat.le_of_ble_eq_true rfl) dX1_begin_30 ⟨Nat.le_of_ble_eq_true rfl, Nat.le_of_ble_eq_true rfl⟩ (fun r_33 u_34 H locs hr_33 hP hD hS => ?_)
      obtain ⟨q_35, q_36⟩ := u_34
      try dsimp only at hr_33
      obtain ⟨hbq_35, hsr_33_0, hsr_33_1, hr_33⟩ := hr_33
      have h9R := zRe (ws' := [(mv, .inr (1, [.ref mb, .int q_35, .int 2, .int nb, .int a_])), (mb, .inl (cI, 20, .inl q_36))]) hP hD rfl
      clear hP hD
      obtain ⟨hP, hD⟩ := h9R
      exact W.iret (v := r_33) hx hb hr (fun t ht hW => ⟨⟨r_33, (q_35, 2, nb, a_, q_36), rfl, ⟨(show 0 ≤ q_35.toInt ∧ q_35.toInt ≤ 2000 from ⟨by omega, by omega⟩), (show (r_33 : Int32) = zQa (2 : Int32).toInt (2 : Int32).toInt x nb a_ from by (rw [hsr_33_0, show (2 : Int32).toInt = 2 from by decide]; first | done | rfl)), (show q_36 = zTr fb mr.toInt (zBa (2 : Int32).toInt (2 : Int32).toInt) from by (rw [hsr_33_1, show (2 : Int32).toInt = 2 from by decide]; first | done | rfl)), (show q_35.toInt = mr.toInt + ((zBa (2 : Int32).toInt (2 : Int32).toInt).length : Nat) from by (have q : ((zBa (2 : Int32).toInt (2 : Int32).toInt).length : Int) = 5 := (by rw [show (2 : Int32).toInt = 2 from by decide]; first | done | rfl); omega)), trivial⟩, zRet ht hP hD [0, 1] (by decide) rfl⟩, hS.F ht⟩) hS.2.2 dX1_begin_33
  · refine lv_aload_n hx hb dX1_begin_0 rfl (lv_at hl 0 rfl) ?_
    have hsp : mo = 0 ∨ mo = 1 ∨ mo = 2 := by
      rcases (show mo.toInt = 0 ∨ mo.toInt = 1 ∨ mo.toInt = 2 by omega) with h9 | h9 | h9
      · refine Or.inl ?_; exact zf_val h9 (by decide)
      · refine Or.inr (Or.inl ?_); exact zf_val h9 (by decide)
      · refine Or.inr (Or.inr (?_)); exact zf_val h9 (by decide)
    rcases hsp with rfl | rfl | rfl
    · refine lv_aload_n hx hb dX1_begin_1 rfl (lv_at hl 1 rfl) ?_
      refine va_get (D := D) (ci := 2) (v := .int 3) (C := RX2) (T := TX2) (N := 3) hx hb hts hi_X1_begin_2 hown hK (zPu_P (hZ.kept hS) hu_u0) 0 rfl rfl 0 (by decide) (hts (.fieldLink RX1 28 "TheLiningsInIt$Pull" "kind" "I") (List.mem_of_getElem? (i := 1) rfl)) (fun _ h9 => h9) rfl dX1_begin_2 ?_
      refine va_put (D := D) (ci := 1) (v := .int 3) (ty := .int) (C := RX1) (T := TX1) (N := 5) hx hb hts hi_X1_begin_1 tyX1 tyX1_ok nmX1 hown hK hP hD hS 0 rfl rfl 2 (by decide) (hts (.fieldLink RX1 19 "TheLiningsInIt$Moves" "kind" "I") (List.mem_of_getElem? (i := 2) rfl)) (fun _ h9 => h9) rfl (tyX1_ok 2 (Nat.le_of_ble_eq_true rfl)) rfl rfl (Nat.le_of_ble_eq_true rfl) dX1_begin_5 (fun H locs hP hD hS => ?_)
      have h9R := zRe (ws' := [(mv, .inr (1, [.ref mb, .int mr, .int 3, .int mm, .int mq])), (mb, .inl (cI, 20, .inl fb))]) hP hD rfl
      clear hP hD
      obtain ⟨hP, hD⟩ := h9R
      refine lv_aload_n hx hb dX1_begin_8 rfl (lv_at hl 0 rfl) ?_
      refine lv_iload_n hx hb dX1_begin_9 rfl (lv_at hl 2 rfl) ?_
      refine va_put (D := D) (ci := 1) (v := .int nb) (ty := .int) (C := RX1) (T := TX1) (N := 5) hx hb hts hi_X1_begin_1 tyX1 tyX1_ok nmX1 hown hK hP hD hS 0 rfl rfl 3 (by decide) (hts (.fieldLink RX1 22 "TheLiningsInIt$Moves" "m" "I") (List.mem_of_getElem? (i := 3) rfl)) (fun _ h9 => h9) rfl (tyX1_ok 3 (Nat.le_of_ble_eq_true rfl)) rfl rfl (Nat.le_of_ble_eq_true rfl) dX1_begin_10 (fun H locs hP hD hS => ?_)
      have h9R := zRe (ws' := [(mv, .inr (1, [.ref mb, .int mr, .int 3, .int nb, .int mq])), (mb, .inl (cI, 20, .inl fb))]) hP hD rfl
      clear hP hD
      obtain ⟨hP, hD⟩ := h9R
      refine lv_aload_n hx hb dX1_begin_13 rfl (lv_at hl 0 rfl) ?_
      refine lv_aload_n hx hb dX1_begin_14 rfl (lv_at hl 1 rfl) ?_
      refine va_get (D := D) (ci := 2) (v := .int a_) (C := RX2) (T := TX2) (N := 3) hx hb hts hi_X1_begin_2 hown hK (zPu_P (hZ.kept hS) hu_u0) 0 rfl rfl 1 (by decide) (hts (.fieldLink RX1 31 "TheLiningsInIt$Pull" "a" "I") (List.mem_of_getElem? (i := 4) rfl)) (fun _ h9 => h9) rfl dX1_begin_15 ?_
      refine va_put (D := D) (ci := 1) (v := .int a_) (ty := .int) (C := RX1) (T := TX1) (N := 5) hx hb hts hi_X1_begin_1 tyX1 tyX1_ok nmX1 hown hK hP hD hS 0 rfl rfl 4 (by decide) (hts (.fieldLink RX1 25 "TheLiningsInIt$Moves" "k" "I") (List.mem_of_getElem? (i := 5) rfl)) (fun _ h9 => h9) rfl (tyX1_ok 4 (Nat.le_of_ble_eq_true rfl)) rfl rfl (Nat.le_of_ble_eq_true rfl) dX1_begin_18 (fun H locs hP hD hS => ?_)
      have h9R := zRe (ws' := [(mv, .inr (1, [.ref mb, .int mr, .int 3, .int nb, .int a_])), (mb, .inl (cI, 20, .inl fb))]) hP hD rfl
      clear hP hD
      obtain ⟨hP, hD⟩ := h9R
      refine lv_aload_n hx hb dX1_begin_21 rfl (lv_at hl 0 rfl) ?_
      refine lv_aload_n hx hb dX1_begin_22 rfl (lv_at hl 0 rfl) ?_
      refine va_get (D := D) (ci := 1) (v := .int 3) (C := RX1) (T := TX1) (N := 5) hx hb hts hi_X1_begin_1 hown hK hP 0 rfl rfl 2 (by decide) (hts (.fieldLink RX1 19 "TheLiningsInIt$Moves" "kind" "I") (List.mem_of_getElem? (i := 2) rfl)) (fun _ h9 => h9) rfl dX1_begin_23 ?_
      refine lv_iload_n hx hb dX1_begin_26 rfl (lv_at hl 3 rfl) ?_
      refine lv_iload hx hb dX1_begin_27 (lv_at hl 4 rfl) ?_
      refine lv_iconst (v := 0) hx hb dX1_begin_29 (by decide) ?_
      skip
      refine zw_V (As := [.int 3, .int 0, .int x, .int 0]) (rest := []) (wr := []) ⟨hx, hb, hml, hown, hts⟩ (c_F_M_run_3_3_0_0 l D cI cJ cZ cP cS po mv mb (mr) (nb) (a_) fb (x) hy2 hy3 H.size) (cwV 4 hts gX1_begin_X1_run rfl rfl rfl ⟨rfl, dh_X1_run⟩ ⟨Nat.le_of_ble_eq_true rfl, Nat.le_of_ble_eq_true rfl⟩) hK hN (hZ.kept hS) hP hD hS hA [0, 1] [] rfl rfl (by decide) (by decide) (by decide) (va_recv (q := (RX1, TX1, 5)) hK hP (ci := 1) (q0 := 0) rfl rfl) rfl hl.1 rfl (Nat.le_of_ble_eq_true rfl) dX1_begin_30 ⟨Nat.le_of_ble_eq_true rfl, Nat.le_of_ble_eq_true rfl⟩ (fun r_37 u_38 H locs hr_37 hP hD hS => ?_)
      obtain ⟨q_39, q_40⟩ := u_38
      try dsimp only at hr_37
      obtain ⟨hbq_39, hsr_37_0, hsr_37_1, hr_37⟩ := hr_37
      have h9R := zRe (ws' := [(mv, .inr (1, [.ref mb, .int q_39, .int 3, .int nb, .int a_])), (mb, .inl (cI, 20, .inl q_40))]) hP hD rfl
      clear hP hD
      obtain ⟨hP, hD⟩ := h9R
      exact W.iret (v := r_37) hx hb hr (fun t ht hW => ⟨⟨r_37, (q_39, 3, nb, a_, q_40), rfl, ⟨(show 0 ≤ q_39.toInt ∧ q_39.toInt ≤ 2000 from ⟨by omega, by omega⟩), (show (r_37 : Int32) = zQa (3 : Int32).toInt (0 : Int32).toInt x nb a_ from by (rw [hsr_37_0, show (0 : Int32).toInt = 0 from by decide, show (3 : Int32).toInt = 3 from by decide]; first | done | rfl)), (show q_40 = zTr fb mr.toInt (zBa (3 : Int32).toInt (0 : Int32).toInt) from by (rw [hsr_37_1, show (0 : Int32).toInt = 0 from by decide, show (3 : Int32).toInt = 3 from by decide]; first | done | rfl)), (show q_39.toInt = mr.toInt + ((zBa (3 : Int32).toInt (0 : Int32).toInt).length : Nat) from by (have q : ((zBa (3 : Int32).toInt (0 : Int32).toInt).length : Int) = 2 := (by rw [show (0 : Int32).toInt = 0 from by decide, show (3 : Int32).toInt = 3 from by decide]; first | done | rfl); omega)), trivial⟩, zRet ht hP hD [0, 1] (by decide) rfl⟩, hS.F ht⟩) hS.2.2 dX1_begin_33
    · refine lv_aload_n hx hb dX1_begin_1 rfl (lv_at hl 1 rfl) ?_
      refine va_get (D := D) (ci := 2) (v := .int 3) (C := RX2) (T := TX2) (N := 3) hx hb hts hi_X1_begin_2 hown hK (zPu_P (hZ.kept hS) hu_u0) 0 rfl rfl 0 (by decide) (hts (.fieldLink RX1 28 "TheLiningsInIt$Pull" "kind" "I") (List.mem_of_getElem? (i := 1) rfl)) (fun _ h9 => h9) rfl dX1_begin_2 ?_
      refine va_put (D := D) (ci := 1) (v := .int 3) (ty := .int) (C := RX1) (T := TX1) (N := 5) hx hb hts hi_X1_begin_1 tyX1 tyX1_ok nmX1 hown hK hP hD hS 0 rfl rfl 2 (by decide) (hts (.fieldLink RX1 19 "TheLiningsInIt$Moves" "kind" "I") (List.mem_of_getElem? (i := 2) rfl)) (fun _ h9 => h9) rfl (tyX1_ok 2 (Nat.le_of_ble_eq_true rfl)) rfl rfl (Nat.le_of_ble_eq_true rfl) dX1_begin_5 (fun H locs hP hD hS => ?_)
      have h9R := zRe (ws' := [(mv, .inr (1, [.ref mb, .int mr, .int 3, .int mm, .int mq])), (mb, .inl (cI, 20, .inl fb))]) hP hD rfl
      clear hP hD
      obtain ⟨hP, hD⟩ := h9R
      refine lv_aload_n hx hb dX1_begin_8 rfl (lv_at hl 0 rfl) ?_
      refine lv_iload_n hx hb dX1_begin_9 rfl (lv_at hl 2 rfl) ?_
      refine va_put (D := D) (ci := 1) (v := .int nb) (ty := .int) (C := RX1) (T := TX1) (N := 5) hx hb hts hi_X1_begin_1 tyX1 tyX1_ok nmX1 hown hK hP hD hS 0 rfl rfl 3 (by decide) (hts (.fieldLink RX1 22 "TheLiningsInIt$Moves" "m" "I") (List.mem_of_getElem? (i := 3) rfl)) (fun _ h9 => h9) rfl (tyX1_ok 3 (Nat.le_of_ble_eq_true rfl)) rfl rfl (Nat.le_of_ble_eq_true rfl) dX1_begin_10 (fun H locs hP hD hS => ?_)
      have h9R := zRe (ws' := [(mv, .inr (1, [.ref mb, .int mr, .int 3, .int nb, .int mq])), (mb, .inl (cI, 20, .inl fb))]) hP hD rfl
      clear hP hD
      obtain ⟨hP, hD⟩ := h9R
      refine lv_aload_n hx hb dX1_begin_13 rfl (lv_at hl 0 rfl) ?_
      refine lv_aload_n hx hb dX1_begin_14 rfl (lv_at hl 1 rfl) ?_
      refine va_get (D := D) (ci := 2) (v := .int a_) (C := RX2) (T := TX2) (N := 3) hx hb hts hi_X1_begin_2 hown hK (zPu_P (hZ.kept hS) hu_u0) 0 rfl rfl 1 (by decide) (hts (.fieldLink RX1 31 "TheLiningsInIt$Pull" "a" "I") (List.mem_of_getElem? (i := 4) rfl)) (fun _ h9 => h9) rfl dX1_begin_15 ?_
      refine va_put (D := D) (ci := 1) (v := .int a_) (ty := .int) (C := RX1) (T := TX1) (N := 5) hx hb hts hi_X1_begin_1 tyX1 tyX1_ok nmX1 hown hK hP hD hS 0 rfl rfl 4 (by decide) (hts (.fieldLink RX1 25 "TheLiningsInIt$Moves" "k" "I") (List.mem_of_getElem? (i := 5) rfl)) (fun _ h9 => h9) rfl (tyX1_ok 4 (Nat.le_of_ble_eq_true rfl)) rfl rfl (Nat.le_of_ble_eq_true rfl) dX1_begin_18 (fun H locs hP hD hS => ?_)
      have h9R := zRe (ws' := [(mv, .inr (1, [.ref mb, .int mr, .int 3, .int nb, .int a_])), (mb, .inl (cI, 20, .inl fb))]) hP hD rfl
      clear hP hD
      obtain ⟨hP, hD⟩ := h9R
      refine lv_aload_n hx hb dX1_begin_21 rfl (lv_at hl 0 rfl) ?_
      refine lv_aload_n hx hb dX1_begin_22 rfl (lv_at hl 0 rfl) ?_
      refine va_get (D := D) (ci := 1) (v := .int 3) (C := RX1) (T := TX1) (N := 5) hx hb hts hi_X1_begin_1 hown hK hP 0 rfl rfl 2 (by decide) (hts (.fieldLink RX1 19 "TheLiningsInIt$Moves" "kind" "I") (List.mem_of_getElem? (i := 2) rfl)) (fun _ h9 => h9) rfl dX1_begin_23 ?_
      refine lv_iload_n hx hb dX1_begin_26 rfl (lv_at hl 3 rfl) ?_
      refine lv_iload hx hb dX1_begin_27 (lv_at hl 4 rfl) ?_
      refine lv_iconst (v := 0) hx hb dX1_begin_29 (by decide) ?_
      skip
      refine zw_V (As := [.int 3, .int 1, .int x, .int 0]) (rest := []) (wr := []) ⟨hx, hb, hml, hown, hts⟩ (c_F_M_run_3_3_1_0 l D cI cJ cZ cP cS po mv mb (mr) (nb) (a_) fb (x) hy2 hy3 H.size) (cwV 4 hts gX1_begin_X1_run rfl rfl rfl ⟨rfl, dh_X1_run⟩ ⟨Nat.le_of_ble_eq_true rfl, Nat.le_of_ble_eq_true rfl⟩) hK hN (hZ.kept hS) hP hD hS hA [0, 1] [] rfl rfl (by decide) (by decide) (by decide) (va_recv (q := (RX1, TX1, 5)) hK hP (ci := 1) (q0 := 0) rfl rfl) rfl hl.1 rfl (Nat.le_of_ble_eq_true rfl) dX1_begin_30 ⟨Nat.le_of_ble_eq_true rfl, Nat.le_of_ble_eq_true rfl⟩ (fun r_41 u_42 H locs hr_41 hP hD hS => ?_)
      obtain ⟨q_43, q_44⟩ := u_42
      try dsimp only at hr_41
      obtain ⟨hbq_43, hsr_41_0, hsr_41_1, hr_41⟩ := hr_41
      have h9R := zRe (ws' := [(mv, .inr (1, [.ref mb, .int q_43, .int 3, .int nb, .int a_])), (mb, .inl (cI, 20, .inl q_44))]) hP hD rfl
      clear hP hD
      obtain ⟨hP, hD⟩ := h9R
      exact W.iret (v := r_41) hx hb hr (fun t ht hW => ⟨⟨r_41, (q_43, 3, nb, a_, q_44), rfl, ⟨(show 0 ≤ q_43.toInt ∧ q_43.toInt ≤ 2000 from ⟨by omega, by omega⟩), (show (r_41 : Int32) = zQa (3 : Int32).toInt (1 : Int32).toInt x nb a_ from by (rw [hsr_41_0, show (1 : Int32).toInt = 1 from by decide, show (3 : Int32).toInt = 3 from by decide]; first | done | rfl)), (show q_44 = zTr fb mr.toInt (zBa (3 : Int32).toInt (1 : Int32).toInt) from by (rw [hsr_41_1, show (1 : Int32).toInt = 1 from by decide, show (3 : Int32).toInt = 3 from by decide]; first | done | rfl)), (show q_43.toInt = mr.toInt + ((zBa (3 : Int32).toInt (1 : Int32).toInt).length : Nat) from by (have q : ((zBa (3 : Int32).toInt (1 : Int32).toInt).length : Int) = 4 := (by rw [show (1 : Int32).toInt = 1 from by decide, show (3 : Int32).toInt = 3 from by decide]; first | done | rfl); omega)), trivial⟩, zRet ht hP hD [0, 1] (by decide) rfl⟩, hS.F ht⟩) hS.2.2 dX1_begin_33
    · refine lv_aload_n hx hb dX1_begin_1 rfl (lv_at hl 1 rfl) ?_
      refine va_get (D := D) (ci := 2) (v := .int 3) (C := RX2) (T := TX2) (N := 3) hx hb hts hi_X1_begin_2 hown hK (zPu_P (hZ.kept hS) hu_u0) 0 rfl rfl 0 (by decide) (hts (.fieldLink RX1 28 "TheLiningsInIt$Pull" "kind" "I") (List.mem_of_getElem? (i := 1) rfl)) (fun _ h9 => h9) rfl dX1_begin_2 ?_
      refine va_put (D := D) (ci := 1) (v := .int 3) (ty := .int) (C := RX1) (T := TX1) (N := 5) hx hb hts hi_X1_begin_1 tyX1 tyX1_ok nmX1 hown hK hP hD hS 0 rfl rfl 2 (by decide) (hts (.fieldLink RX1 19 "TheLiningsInIt$Moves" "kind" "I") (List.mem_of_getElem? (i := 2) rfl)) (fun _ h9 => h9) rfl (tyX1_ok 2 (Nat.le_of_ble_eq_true rfl)) rfl rfl (Nat.le_of_ble_eq_true rfl) dX1_begin_5 (fun H locs hP hD hS => ?_)
      have h9R := zRe (ws' := [(mv, .inr (1, [.ref mb, .int mr, .int 3, .int mm, .int mq])), (mb, .inl (cI, 20, .inl fb))]) hP hD rfl
      clear hP hD
      obtain ⟨hP, hD⟩ := h9R
      refine lv_aload_n hx hb dX1_begin_8 rfl (lv_at hl 0 rfl) ?_
      refine lv_iload_n hx hb dX1_begin_9 rfl (lv_at hl 2 rfl) ?_
      refine va_put (D := D) (ci := 1) (v := .int nb) (ty := .int) (C := RX1) (T := TX1) (N := 5) hx hb hts hi_X1_begin_1 tyX1 tyX1_ok nmX1 hown hK hP hD hS 0 rfl rfl 3 (by decide) (hts (.fieldLink RX1 22 "TheLiningsInIt$Moves" "m" "I") (List.mem_of_getElem? (i := 3) rfl)) (fun _ h9 => h9) rfl (tyX1_ok 3 (Nat.le_of_ble_eq_true rfl)) rfl rfl (Nat.le_of_ble_eq_true rfl) dX1_begin_10 (fun H locs hP hD hS => ?_)
      have h9R := zRe (ws' := [(mv, .inr (1, [.ref mb, .int mr, .int 3, .int nb, .int mq])), (mb, .inl (cI, 20, .inl fb))]) hP hD rfl
      clear hP hD
      obtain ⟨hP, hD⟩ := h9R
      refine lv_aload_n hx hb dX1_begin_13 rfl (lv_at hl 0 rfl) ?_
      refine lv_aload_n hx hb dX1_begin_14 rfl (lv_at hl 1 rfl) ?_
      refine va_get (D := D) (ci := 2) (v := .int a_) (C := RX2) (T := TX2) (N := 3) hx hb hts hi_X1_begin_2 hown hK (zPu_P (hZ.kept hS) hu_u0) 0 rfl rfl 1 (by decide) (hts (.fieldLink RX1 31 "TheLiningsInIt$Pull" "a" "I") (List.mem_of_getElem? (i := 4) rfl)) (fun _ h9 => h9) rfl dX1_begin_15 ?_
      refine va_put (D := D) (ci := 1) (v := .int a_) (ty := .int) (C := RX1) (T := TX1) (N := 5) hx hb hts hi_X1_begin_1 tyX1 tyX1_ok nmX1 hown hK hP hD hS 0 rfl rfl 4 (by decide) (hts (.fieldLink RX1 25 "TheLiningsInIt$Moves" "k" "I") (List.mem_of_getElem? (i := 5) rfl)) (fun _ h9 => h9) rfl (tyX1_ok 4 (Nat.le_of_ble_eq_true rfl)) rfl rfl (Nat.le_of_ble_eq_true rfl) dX1_begin_18 (fun H locs hP hD hS => ?_)
      have h9R := zRe (ws' := [(mv, .inr (1, [.ref mb, .int mr, .int 3, .int nb, .int a_])), (mb, .inl (cI, 20, .inl fb))]) hP hD rfl
      clear hP hD
      obtain ⟨hP, hD⟩ := h9R
      refine lv_aload_n hx hb dX1_begin_21 rfl (lv_at hl 0 rfl) ?_
      refine lv_aload_n hx hb dX1_begin_22 rfl (lv_at hl 0 rfl) ?_
      refine va_get (D := D) (ci := 1) (v := .int 3) (C := RX1) (T := TX1) (N := 5) hx hb hts hi_X1_begin_1 hown hK hP 0 rfl rfl 2 (by decide) (hts (.fieldLink RX1 19 "TheLiningsInIt$Moves" "kind" "I") (List.mem_of_getElem? (i := 2) rfl)) (fun _ h9 => h9) rfl dX1_begin_23 ?_
      refine lv_iload_n hx hb dX1_begin_26 rfl (lv_at hl 3 rfl) ?_
      refine lv_iload hx hb dX1_begin_27 (lv_at hl 4 rfl) ?_
      refine lv_iconst (v := 0) hx hb dX1_begin_29 (by decide) ?_
      skip
      refine zw_V (As := [.int 3, .int 2, .int x, .int 0]) (rest := []) (wr := []) ⟨hx, hb, hml, hown, hts⟩ (c_F_M_run_3_3_2_0 l D cI cJ cZ cP cS po mv mb (mr) (nb) (a_) fb (x) hy2 hy3 H.size) (cwV 4 hts gX1_begin_X1_run rfl rfl rfl ⟨rfl, dh_X1_run⟩ ⟨Nat.le_of_ble_eq_true rfl, Nat.le_of_ble_eq_true rfl⟩) hK hN (hZ.kept hS) hP hD hS hA [0, 1] [] rfl rfl (by decide) (by decide) (by decide) (va_recv (q := (RX1, TX1, 5)) hK hP (ci := 1) (q0 := 0) rfl rfl) rfl hl.1 rfl (Nat.le_of_ble_eq_true rfl) dX1_begin_30 ⟨Nat.le_of_ble_eq_true rfl, Nat.le_of_ble_eq_true rfl⟩ (fun r_45 u_46 H locs hr_45 hP hD hS => ?_)
      obtain ⟨q_47, q_48⟩ := u_46
      try dsimp only at hr_45
      obtain ⟨hbq_47, hsr_45_0, hsr_45_1, hr_45⟩ := hr_45
      have h9R := zRe (ws' := [(mv, .inr (1, [.ref mb, .int q_47, .int 3, .int nb, .int a_])), (mb, .inl (cI, 20, .inl q_48))]) hP hD rfl
      clear hP hD
      obtain ⟨hP, hD⟩ := h9R
      exact W.iret (v := r_45) hx hb hr (fun t ht hW => ⟨⟨r_45, (q_47, 3, nb, a_, q_48), rfl, ⟨(show 0 ≤ q_47.toInt ∧ q_47.toInt ≤ 2000 from ⟨by omega, by omega⟩), (show (r_45 : Int32) = zQa (3 : Int32).toInt (2 : Int32).toInt x nb a_ from by (rw [hsr_45_0, show (2 : Int32).toInt = 2 from by decide, show (3 : Int32).toInt = 3 from by decide]; first | done | rfl)), (show q_48 = zTr fb mr.toInt (zBa (3 : Int32).toInt (2 : Int32).toInt) from by (rw [hsr_45_1, show (2 : Int32).toInt = 2 from by decide, show (3 : Int32).toInt = 3 from by decide]; first | done | rfl)), (show q_47.toInt = mr.toInt + ((zBa (3 : Int32).toInt (2 : Int32).toInt).length : Nat) from by (have q : ((zBa (3 : Int32).toInt (2 : Int32).toInt).length : Int) = 7 := (by rw [show (2 : Int32).toInt = 2 from by decide, show (3 : Int32).toInt = 3 from by decide]; first | done | rfl); omega)), trivial⟩, zRet ht hP hD [0, 1] (by decide) rfl⟩, hS.F ht⟩) hS.2.2 dX1_begin_33
  · refine lv_aload_n hx hb dX1_begin_0 rfl (lv_at hl 0 rfl) ?_
    have hsp : mo = 0 ∨ mo = 1 ∨ mo = 2 := by
      rcases (show mo.toInt = 0 ∨ mo.toInt = 1 ∨ mo.toInt = 2 by omega) with h9 | h9 | h9
      · refine Or.inl ?_; exact zf_val h9 (by decide)
      · refine Or.inr (Or.inl ?_); exact zf_val h9 (by decide)
      · refine Or.inr (Or.inr (?_)); exact zf_val h9 (by decide)
    rcases hsp with rfl | rfl | rfl
    · refine lv_aload_n hx hb dX1_begin_1 rfl (lv_at hl 1 rfl) ?_
      refine va_get (D := D) (ci := 2) (v := .int 4) (C := RX2) (T := TX2) (N := 3) hx hb hts hi_X1_begin_2 hown hK (zPu_P (hZ.kept hS) hu_u0) 0 rfl rfl 0 (by decide) (hts (.fieldLink RX1 28 "TheLiningsInIt$Pull" "kind" "I") (List.mem_of_getElem? (i := 1) rfl)) (fun _ h9 => h9) rfl dX1_begin_2 ?_
      refine va_put (D := D) (ci := 1) (v := .int 4) (ty := .int) (C := RX1) (T := TX1) (N := 5) hx hb hts hi_X1_begin_1 tyX1 tyX1_ok nmX1 hown hK hP hD hS 0 rfl rfl 2 (by decide) (hts (.fieldLink RX1 19 "TheLiningsInIt$Moves" "kind" "I") (List.mem_of_getElem? (i := 2) rfl)) (fun _ h9 => h9) rfl (tyX1_ok 2 (Nat.le_of_ble_eq_true rfl)) rfl rfl (Nat.le_of_ble_eq_true rfl) dX1_begin_5 (fun H locs hP hD hS => ?_)
      have h9R := zRe (ws' := [(mv, .inr (1, [.ref mb, .int mr, .int 4, .int mm, .int mq])), (mb, .inl (cI, 20, .inl fb))]) hP hD rfl
      clear hP hD
      obtain ⟨hP, hD⟩ := h9R
      refine lv_aload_n hx hb dX1_begin_8 rfl (lv_at hl 0 rfl) ?_
      refine lv_iload_n hx hb dX1_begin_9 rfl (lv_at hl 2 rfl) ?_
      refine va_put (D := D) (ci := 1) (v := .int nb) (ty := .int) (C := RX1) (T := TX1) (N := 5) hx hb hts hi_X1_begin_1 tyX1 tyX1_ok nmX1 hown hK hP hD hS 0 rfl rfl 3 (by decide) (hts (.fieldLink RX1 22 "TheLiningsInIt$Moves" "m" "I") (List.mem_of_getElem? (i := 3) rfl)) (fun _ h9 => h9) rfl (tyX1_ok 3 (Nat.le_of_ble_eq_true rfl)) rfl rfl (Nat.le_of_ble_eq_true rfl) dX1_begin_10 (fun H locs hP hD hS => ?_)
      have h9R := zRe (ws' := [(mv, .inr (1, [.ref mb, .int mr, .int 4, .int nb, .int mq])), (mb, .inl (cI, 20, .inl fb))]) hP hD rfl
      clear hP hD
      obtain ⟨hP, hD⟩ := h9R
      refine lv_aload_n hx hb dX1_begin_13 rfl (lv_at hl 0 rfl) ?_
      refine lv_aload_n hx hb dX1_begin_14 rfl (lv_at hl 1 rfl) ?_
      refine va_get (D := D) (ci := 2) (v := .int a_) (C := RX2) (T := TX2) (N := 3) hx hb hts hi_X1_begin_2 hown hK (zPu_P (hZ.kept hS) hu_u0) 0 rfl rfl 1 (by decide) (hts (.fieldLink RX1 31 "TheLiningsInIt$Pull" "a" "I") (List.mem_of_getElem? (i := 4) rfl)) (fun _ h9 => h9) rfl dX1_begin_15 ?_
      refine va_put (D := D) (ci := 1) (v := .int a_) (ty := .int) (C := RX1) (T := TX1) (N := 5) hx hb hts hi_X1_begin_1 tyX1 tyX1_ok nmX1 hown hK hP hD hS 0 rfl rfl 4 (by decide) (hts (.fieldLink RX1 25 "TheLiningsInIt$Moves" "k" "I") (List.mem_of_getElem? (i := 5) rfl)) (fun _ h9 => h9) rfl (tyX1_ok 4 (Nat.le_of_ble_eq_true rfl)) rfl rfl (Nat.le_of_ble_eq_true rfl) dX1_begin_18 (fun H locs hP hD hS => ?_)
      have h9R := zRe (ws' := [(mv, .inr (1, [.ref mb, .int mr, .int 4, .int nb, .int a_])), (mb, .inl (cI, 20, .inl fb))]) hP hD rfl
      clear hP hD
      obtain ⟨hP, hD⟩ := h9R
      refine lv_aload_n hx hb dX1_begin_21 rfl (lv_at hl 0 rfl) ?_
      refine lv_aload_n hx hb dX1_begin_22 rfl (lv_at hl 0 rfl) ?_
      refine va_get (D := D) (ci := 1) (v := .int 4) (C := RX1) (T := TX1) (N := 5) hx hb hts hi_X1_begin_1 hown hK hP 0 rfl rfl 2 (by decide) (hts (.fieldLink RX1 19 "TheLiningsInIt$Moves" "kind" "I") (List.mem_of_getElem? (i := 2) rfl)) (fun _ h9 => h9) rfl dX1_begin_23 ?_
      refine lv_iload_n hx hb dX1_begin_26 rfl (lv_at hl 3 rfl) ?_
      refine lv_iload hx hb dX1_begin_27 (lv_at hl 4 rfl) ?_
      refine lv_iconst (v := 0) hx hb dX1_begin_29 (by decide) ?_
      skip
      refine zw_V (As := [.int 4, .int 0, .int x, .int 0]) (rest := []) (wr := []) ⟨hx, hb, hml, hown, hts⟩ (c_F_M_run_4_4_0_0 l D cI cJ cZ cP cS po mv mb (mr) (nb) (a_) fb (x) hy2 hy3 H.size) (cwV 4 hts gX1_begin_X1_run rfl rfl rfl ⟨rfl, dh_X1_run⟩ ⟨Nat.le_of_ble_eq_true rfl, Nat.le_of_ble_eq_true rfl⟩) hK hN (hZ.kept hS) hP hD hS hA [0, 1] [] rfl rfl (by decide) (by decide) (by decide) (va_recv (q := (RX1, TX1, 5)) hK hP (ci := 1) (q0 := 0) rfl rfl) rfl hl.1 rfl (Nat.le_of_ble_eq_true rfl) dX1_begin_30 ⟨Nat.le_of_ble_eq_true rfl, Nat.le_of_ble_eq_true rfl⟩ (fun r_49 u_50 H locs hr_49 hP hD hS => ?_)
      obtain ⟨q_51, q_52⟩ := u_50
      try dsimp only at hr_49
      obtain ⟨hbq_51, hsr_49_0, hsr_49_1, hr_49⟩ := hr_49
      have h9R := zRe (ws' := [(mv, .inr (1, [.ref mb, .int q_51, .int 4, .int nb, .int a_])), (mb, .inl (cI, 20, .inl q_52))]) hP hD rfl
      clear hP hD
      obtain ⟨hP, hD⟩ := h9R
      exact W.iret (v := r_49) hx hb hr (fun t ht hW => ⟨⟨r_49, (q_51, 4, nb, a_, q_52), rfl, ⟨(show 0 ≤ q_51.toInt ∧ q_51.toInt ≤ 2000 from ⟨by omega, by omega⟩), (show (r_49 : Int32) = zQa (4 : Int32).toInt (0 : Int32).toInt x nb a_ from by (rw [hsr_49_0, show (0 : Int32).toInt = 0 from by decide, show (4 : Int32).toInt = 4 from by decide]; first | done | rfl)), (show q_52 = zTr fb mr.toInt (zBa (4 : Int32).toInt (0 : Int32).toInt) from by (rw [hsr_49_1, show (0 : Int32).toInt = 0 from by decide, show (4 : Int32).toInt = 4 from by decide]; first | done | rfl)), (show q_51.toInt = mr.toInt + ((zBa (4 : Int32).toInt (0 : Int32).toInt).length : Nat) from by (have q : ((zBa (4 : Int32).toInt (0 : Int32).toInt).length : Int) = 2 := (by rw [show (0 : Int32).toInt = 0 from by decide, show (4 : Int32).toInt = 4 from by decide]; first | done | rfl); omega)), trivial⟩, zRet ht hP hD [0, 1] (by decide) rfl⟩, hS.F ht⟩) hS.2.2 dX1_begin_33
    · refine lv_aload_n hx hb dX1_begin_1 rfl (lv_at hl 1 rfl) ?_
      refine va_get (D := D) (ci := 2) (v := .int 4) (C := RX2) (T := TX2) (N := 3) hx hb hts hi_X1_begin_2 hown hK (zPu_P (hZ.kept hS) hu_u0) 0 rfl rfl 0 (by decide) (hts (.fieldLink RX1 28 "TheLiningsInIt$Pull" "kind" "I") (List.mem_of_getElem? (i := 1) rfl)) (fun _ h9 => h9) rfl dX1_begin_2 ?_
      refine va_put (D := D) (ci := 1) (v := .int 4) (ty := .int) (C := RX1) (T := TX1) (N := 5) hx hb hts hi_X1_begin_1 tyX1 tyX1_ok nmX1 hown hK hP hD hS 0 rfl rfl 2 (by decide) (hts (.fieldLink RX1 19 "TheLiningsInIt$Moves" "kind" "I") (List.mem_of_getElem? (i := 2) rfl)) (fun _ h9 => h9) rfl (tyX1_ok 2 (Nat.le_of_ble_eq_true rfl)) rfl rfl (Nat.le_of_ble_eq_true rfl) dX1_begin_5 (fun H locs hP hD hS => ?_)
      have h9R := zRe (ws' := [(mv, .inr (1, [.ref mb, .int mr, .int 4, .int mm, .int mq])), (mb, .inl (cI, 20, .inl fb))]) hP hD rfl
      clear hP hD
      obtain ⟨hP, hD⟩ := h9R
      refine lv_aload_n hx hb dX1_begin_8 rfl (lv_at hl 0 rfl) ?_
      refine lv_iload_n hx hb dX1_begin_9 rfl (lv_at hl 2 rfl) ?_
      refine va_put (D := D) (ci := 1) (v := .int nb) (ty := .int) (C := RX1) (T := TX1) (N := 5) hx hb hts hi_X1_begin_1 tyX1 tyX1_ok nmX1 hown hK hP hD hS 0 rfl rfl 3 (by decide) (hts (.fieldLink RX1 22 "TheLiningsInIt$Moves" "m" "I") (List.mem_of_getElem? (i := 3) rfl)) (fun _ h9 => h9) rfl (tyX1_ok 3 (Nat.le_of_ble_eq_true rfl)) rfl rfl (Nat.le_of_ble_eq_true rfl) dX1_begin_10 (fun H locs hP hD hS => ?_)
      have h9R := zRe (ws' := [(mv, .inr (1, [.ref mb, .int mr, .int 4, .int nb, .int mq])), (mb, .inl (cI, 20, .inl fb))]) hP hD rfl
      clear hP hD
      obtain ⟨hP, hD⟩ := h9R
      refine lv_aload_n hx hb dX1_begin_13 rfl (lv_at hl 0 rfl) ?_
      refine lv_aload_n hx hb dX1_begin_14 rfl (lv_at hl 1 rfl) ?_
      refine va_get (D := D) (ci := 2) (v := .int a_) (C := RX2) (T := TX2) (N := 3) hx hb hts hi_X1_begin_2 hown hK (zPu_P (hZ.kept hS) hu_u0) 0 rfl rfl 1 (by decide) (hts (.fieldLink RX1 31 "TheLiningsInIt$Pull" "a" "I") (List.mem_of_getElem? (i := 4) rfl)) (fun _ h9 => h9) rfl dX1_begin_15 ?_
      refine va_put (D := D) (ci := 1) (v := .int a_) (ty := .int) (C := RX1) (T := TX1) (N := 5) hx hb hts hi_X1_begin_1 tyX1 tyX1_ok nmX1 hown hK hP hD hS 0 rfl rfl 4 (by decide) (hts (.fieldLink RX1 25 "TheLiningsInIt$Moves" "k" "I") (List.mem_of_getElem? (i := 5) rfl)) (fun _ h9 => h9) rfl (tyX1_ok 4 (Nat.le_of_ble_eq_true rfl)) rfl rfl (Nat.le_of_ble_eq_true rfl) dX1_begin_18 (fun H locs hP hD hS => ?_)
      have h9R := zRe (ws' := [(mv, .inr (1, [.ref mb, .int mr, .int 4, .int nb, .int a_])), (mb, .inl (cI, 20, .inl fb))]) hP hD rfl
      clear hP hD
      obtain ⟨hP, hD⟩ := h9R
      refine lv_aload_n hx hb dX1_begin_21 rfl (lv_at hl 0 rfl) ?_
      refine lv_aload_n hx hb dX1_begin_22 rfl (lv_at hl 0 rfl) ?_
      refine va_get (D := D) (ci := 1) (v := .int 4) (C := RX1) (T := TX1) (N := 5) hx hb hts hi_X1_begin_1 hown hK hP 0 rfl rfl 2 (by decide) (hts (.fieldLink RX1 19 "TheLiningsInIt$Moves" "kind" "I") (List.mem_of_getElem? (i := 2) rfl)) (fun _ h9 => h9) rfl dX1_begin_23 ?_
      refine lv_iload_n hx hb dX1_begin_26 rfl (lv_at hl 3 rfl) ?_
      refine lv_iload hx hb dX1_begin_27 (lv_at hl 4 rfl) ?_
      refine lv_iconst (v := 0) hx hb dX1_begin_29 (by decide) ?_
      skip
      refine zw_V (As := [.int 4, .int 1, .int x, .int 0]) (rest := []) (wr := []) ⟨hx, hb, hml, hown, hts⟩ (c_F_M_run_4_4_1_0 l D cI cJ cZ cP cS po mv mb (mr) (nb) (a_) fb (x) hy2 hy3 H.size) (cwV 4 hts gX1_begin_X1_run rfl rfl rfl ⟨rfl, dh_X1_run⟩ ⟨Nat.le_of_ble_eq_true rfl, Nat.le_of_ble_eq_true rfl⟩) hK hN (hZ.kept hS) hP hD hS hA [0, 1] [] rfl rfl (by decide) (by decide) (by decide) (va_recv (q := (RX1, TX1, 5)) hK hP (ci := 1) (q0 := 0) rfl rfl) rfl hl.1 rfl (Nat.le_of_ble_eq_true rfl) dX1_begin_30 ⟨Nat.le_of_ble_eq_true rfl, Nat.le_of_ble_eq_true rfl⟩ (fun r_53 u_54 H locs hr_53 hP hD hS => ?_)
      obtain ⟨q_55, q_56⟩ := u_54
      try dsimp only at hr_53
      obtain ⟨hbq_55, hsr_53_0, hsr_53_1, hr_53⟩ := hr_53
      have h9R := zRe (ws' := [(mv, .inr (1, [.ref mb, .int q_55, .int 4, .int nb, .int a_])), (mb, .inl (cI, 20, .inl q_56))]) hP hD rfl
      clear hP hD
      obtain ⟨hP, hD⟩ := h9R
      exact W.iret (v := r_53) hx hb hr (fun t ht hW => ⟨⟨r_53, (q_55, 4, nb, a_, q_56), rfl, ⟨(show 0 ≤ q_55.toInt ∧ q_55.toInt ≤ 2000 from ⟨by omega, by omega⟩), (show (r_53 : Int32) = zQa (4 : Int32).toInt (1 : Int32).toInt x nb a_ from by (rw [hsr_53_0, show (1 : Int32).toInt = 1 from by decide, show (4 : Int32).toInt = 4 from by decide]; first | done | rfl)), (show q_56 = zTr fb mr.toInt (zBa (4 : Int32).toInt (1 : Int32).toInt) from by (rw [hsr_53_1, show (1 : Int32).toInt = 1 from by decide, show (4 : Int32).toInt = 4 from by decide]; first | done | rfl)), (show q_55.toInt = mr.toInt + ((zBa (4 : Int32).toInt (1 : Int32).toInt).length : Nat) from by (have q : ((zBa (4 : Int32).toInt (1 : Int32).toInt).length : Int) = 3 := (by rw [show (1 : Int32).toInt = 1 from by decide, show (4 : Int32).toInt = 4 from by decide]; first | done | rfl); omega)), trivial⟩, zRet ht hP hD [0, 1] (by decide) rfl⟩, hS.F ht⟩) hS.2.2 dX1_begin_33
    · refine lv_aload_n hx hb dX1_begin_1 rfl (lv_at hl 1 rfl) ?_
      refine va_get (D := D) (ci := 2) (v := .int 4) (C := RX2) (T := TX2) (N := 3) hx hb hts hi_X1_begin_2 hown hK (zPu_P (hZ.kept hS) hu_u0) 0 rfl rfl 0 (by decide) (hts (.fieldLink RX1 28 "TheLiningsInIt$Pull" "kind" "I") (List.mem_of_getElem? (i := 1) rfl)) (fun _ h9 => h9) rfl dX1_begin_2 ?_
      refine va_put (D := D) (ci := 1) (v := .int 4) (ty := .int) (C := RX1) (T := TX1) (N := 5) hx hb hts hi_X1_begin_1 tyX1 tyX1_ok nmX1 hown hK hP hD hS 0 rfl rfl 2 (by decide) (hts (.fieldLink RX1 19 "TheLiningsInIt$Moves" "kind" "I") (List.mem_of_getElem? (i := 2) rfl)) (fun _ h9 => h9) rfl (tyX1_ok 2 (Nat.le_of_ble_eq_true rfl)) rfl rfl (Nat.le_of_ble_eq_true rfl) dX1_begin_5 (fun H locs hP hD hS => ?_)
      have h9R := zRe (ws' := [(mv, .inr (1, [.ref mb, .int mr, .int 4, .int mm, .int mq])), (mb, .inl (cI, 20, .inl fb))]) hP hD rfl
      clear hP hD
      obtain ⟨hP, hD⟩ := h9R
      refine lv_aload_n hx hb dX1_begin_8 rfl (lv_at hl 0 rfl) ?_
      refine lv_iload_n hx hb dX1_begin_9 rfl (lv_at hl 2 rfl) ?_
      refine va_put (D := D) (ci := 1) (v := .int nb) (ty := .int) (C := RX1) (T := TX1) (N := 5) hx hb hts hi_X1_begin_1 tyX1 tyX1_ok nmX1 hown hK hP hD hS 0 rfl rfl 3 (by decide) (hts (.fieldLink RX1 22 "TheLiningsInIt$Moves" "m" "I") (List.mem_of_getElem? (i := 3) rfl)) (fun _ h9 => h9) rfl (tyX1_ok 3 (Nat.le_of_ble_eq_true rfl)) rfl rfl (Nat.le_of_ble_eq_true rfl) dX1_begin_10 (fun H locs hP hD hS => ?_)
      have h9R := zRe (ws' := [(mv, .inr (1, [.ref mb, .int mr, .int 4, .int nb, .int mq])), (mb, .inl (cI, 20, .inl fb))]) hP hD rfl
      clear hP hD
      obtain ⟨hP, hD⟩ := h9R
      refine lv_aload_n hx hb dX1_begin_13 rfl (lv_at hl 0 rfl) ?_
      refine lv_aload_n hx hb dX1_begin_14 rfl (lv_at hl 1 rfl) ?_
      refine va_get (D := D) (ci := 2) (v := .int a_) (C := RX2) (T := TX2) (N := 3) hx hb hts hi_X1_begin_2 hown hK (zPu_P (hZ.kept hS) hu_u0) 0 rfl rfl 1 (by decide) (hts (.fieldLink RX1 31 "TheLiningsInIt$Pull" "a" "I") (List.mem_of_getElem? (i := 4) rfl)) (fun _ h9 => h9) rfl dX1_begin_15 ?_
      refine va_put (D := D) (ci := 1) (v := .int a_) (ty := .int) (C := RX1) (T := TX1) (N := 5) hx hb hts hi_X1_begin_1 tyX1 tyX1_ok nmX1 hown hK hP hD hS 0 rfl rfl 4 (by decide) (hts (.fieldLink RX1 25 "TheLiningsInIt$Moves" "k" "I") (List.mem_of_getElem? (i := 5) rfl)) (fun _ h9 => h9) rfl (tyX1_ok 4 (Nat.le_of_ble_eq_true rfl)) rfl rfl (Nat.le_of_ble_eq_true rfl) dX1_begin_18 (fun H locs hP hD hS => ?_)
      have h9R := zRe (ws' := [(mv, .inr (1, [.ref mb, .int mr, .int 4, .int nb, .int a_])), (mb, .inl (cI, 20, .inl fb))]) hP hD rfl
      clear hP hD
      obtain ⟨hP, hD⟩ := h9R
      refine lv_aload_n hx hb dX1_begin_21 rfl (lv_at hl 0 rfl) ?_
      refine lv_aload_n hx hb dX1_begin_22 rfl (lv_at hl 0 rfl) ?_
      refine va_get (D := D) (ci := 1) (v := .int 4) (C := RX1) (T := TX1) (N := 5) hx hb hts hi_X1_begin_1 hown hK hP 0 rfl rfl 2 (by decide) (hts (.fieldLink RX1 19 "TheLiningsInIt$Moves" "kind" "I") (List.mem_of_getElem? (i := 2) rfl)) (fun _ h9 => h9) rfl dX1_begin_23 ?_
      refine lv_iload_n hx hb dX1_begin_26 rfl (lv_at hl 3 rfl) ?_
      refine lv_iload hx hb dX1_begin_27 (lv_at hl 4 rfl) ?_
      refine lv_iconst (v := 0) hx hb dX1_begin_29 (by decide) ?_
      skip
      refine zw_V (As := [.int 4, .int 2, .int x, .int 0]) (rest := []) (wr := []) ⟨hx, hb, hml, hown, hts⟩ (c_F_M_run_4_4_2_0 l D cI cJ cZ cP cS po mv mb (mr) (nb) (a_) fb (x) hy2 hy3 H.size) (cwV 4 hts gX1_begin_X1_run rfl rfl rfl ⟨rfl, dh_X1_run⟩ ⟨Nat.le_of_ble_eq_true rfl, Nat.le_of_ble_eq_true rfl⟩) hK hN (hZ.kept hS) hP hD hS hA [0, 1] [] rfl rfl (by decide) (by decide) (by decide) (va_recv (q := (RX1, TX1, 5)) hK hP (ci := 1) (q0 := 0) rfl rfl) rfl hl.1 rfl (Nat.le_of_ble_eq_true rfl) dX1_begin_30 ⟨Nat.le_of_ble_eq_true rfl, Nat.le_of_ble_eq_true rfl⟩ (fun r_57 u_58 H locs hr_57 hP hD hS => ?_)
      obtain ⟨q_59, q_60⟩ := u_58
      try dsimp only at hr_57
      obtain ⟨hbq_59, hsr_57_0, hsr_57_1, hr_57⟩ := hr_57
      have h9R := zRe (ws' := [(mv, .inr (1, [.ref mb, .int q_59, .int 4, .int nb, .int a_])), (mb, .inl (cI, 20, .inl q_60))]) hP hD rfl
      clear hP hD
      obtain ⟨hP, hD⟩ := h9R
      exact W.iret (v := r_57) hx hb hr (fun t ht hW => ⟨⟨r_57, (q_59, 4, nb, a_, q_60), rfl, ⟨(show 0 ≤ q_59.toInt ∧ q_59.toInt ≤ 2000 from ⟨by omega, by omega⟩), (show (r_57 : Int32) = zQa (4 : Int32).toInt (2 : Int32).toInt x nb a_ from by (rw [hsr_57_0, show (2 : Int32).toInt = 2 from by decide, show (4 : Int32).toInt = 4 from by decide]; first | done | rfl)), (show q_60 = zTr fb mr.toInt (zBa (4 : Int32).toInt (2 : Int32).toInt) from by (rw [hsr_57_1, show (2 : Int32).toInt = 2 from by decide, show (4 : Int32).toInt = 4 from by decide]; first | done | rfl)), (show q_59.toInt = mr.toInt + ((zBa (4 : Int32).toInt (2 : Int32).toInt).length : Nat) from by (have q : ((zBa (4 : Int32).toInt (2 : Int32).toInt).length : Int) = 7 := (by rw [show (2 : Int32).toInt = 2 from by decide, show (4 : Int32).toInt = 4 from by decide]; first | done | rfl); omega)), trivial⟩, zRet ht hP hD [0, 1] (by decide) rfl⟩, hS.F ht⟩) hS.2.2 dX1_begin_33
  · refine lv_aload_n hx hb dX1_begin_0 rfl (lv_at hl 0 rfl) ?_
    have hsp : mo = 0 ∨ mo = 1 ∨ mo = 2 := by
      rcases (show mo.toInt = 0 ∨ mo.toInt = 1 ∨ mo.toInt = 2 by omega) with h9 | h9 | h9
      · refine Or.inl ?_; exact zf_val h9 (by decide)
      · refine Or.inr (Or.inl ?_); exact zf_val h9 (by decide)
      · refine Or.inr (Or.inr (?_)); exact zf_val h9 (by decide)
    rcases hsp with rfl | rfl | rfl
    · refine lv_aload_n hx hb dX1_begin_1 rfl (lv_at hl 1 rfl) ?_
      refine va_get (D := D) (ci := 2) (v := .int 5) (C := RX2) (T := TX2) (N := 3) hx hb hts hi_X1_begin_2 hown hK (zPu_P (hZ.kept hS) hu_u0) 0 rfl rfl 0 (by decide) (hts (.fieldLink RX1 28 "TheLiningsInIt$Pull" "kind" "I") (List.mem_of_getElem? (i := 1) rfl)) (fun _ h9 => h9) rfl dX1_begin_2 ?_
      refine va_put (D := D) (ci := 1) (v := .int 5) (ty := .int) (C := RX1) (T := TX1) (N := 5) hx hb hts hi_X1_begin_1 tyX1 tyX1_ok nmX1 hown hK hP hD hS 0 rfl rfl 2 (by decide) (hts (.fieldLink RX1 19 "TheLiningsInIt$Moves" "kind" "I") (List.mem_of_getElem? (i := 2) rfl)) (fun _ h9 => h9) rfl (tyX1_ok 2 (Nat.le_of_ble_eq_true rfl)) rfl rfl (Nat.le_of_ble_eq_true rfl) dX1_begin_5 (fun H locs hP hD hS => ?_)
      have h9R := zRe (ws' := [(mv, .inr (1, [.ref mb, .int mr, .int 5, .int mm, .int mq])), (mb, .inl (cI, 20, .inl fb))]) hP hD rfl
      clear hP hD
      obtain ⟨hP, hD⟩ := h9R
      refine lv_aload_n hx hb dX1_begin_8 rfl (lv_at hl 0 rfl) ?_
      refine lv_iload_n hx hb dX1_begin_9 rfl (lv_at hl 2 rfl) ?_
      refine va_put (D := D) (ci := 1) (v := .int nb) (ty := .int) (C := RX1) (T := TX1) (N := 5) hx hb hts hi_X1_begin_1 tyX1 tyX1_ok nmX1 hown hK hP hD hS 0 rfl rfl 3 (by decide) (hts (.fieldLink RX1 22 "TheLiningsInIt$Moves" "m" "I") (List.mem_of_getElem? (i := 3) rfl)) (fun _ h9 => h9) rfl (tyX1_ok 3 (Nat.le_of_ble_eq_true rfl)) rfl rfl (Nat.le_of_ble_eq_true rfl) dX1_begin_10 (fun H locs hP hD hS => ?_)
      have h9R := zRe (ws' := [(mv, .inr (1, [.ref mb, .int mr, .int 5, .int nb, .int mq])), (mb, .inl (cI, 20, .inl fb))]) hP hD rfl
      clear hP hD
      obtain ⟨hP, hD⟩ := h9R
      refine lv_aload_n hx hb dX1_begin_13 rfl (lv_at hl 0 rfl) ?_
      refine lv_aload_n hx hb dX1_begin_14 rfl (lv_at hl 1 rfl) ?_
      refine va_get (D := D) (ci := 2) (v := .int a_) (C := RX2) (T := TX2) (N := 3) hx hb hts hi_X1_begin_2 hown hK (zPu_P (hZ.kept hS) hu_u0) 0 rfl rfl 1 (by decide) (hts (.fieldLink RX1 31 "TheLiningsInIt$Pull" "a" "I") (List.mem_of_getElem? (i := 4) rfl)) (fun _ h9 => h9) rfl dX1_begin_15 ?_
      refine va_put (D := D) (ci := 1) (v := .int a_) (ty := .int) (C := RX1) (T := TX1) (N := 5) hx hb hts hi_X1_begin_1 tyX1 tyX1_ok nmX1 hown hK hP hD hS 0 rfl rfl 4 (by decide) (hts (.fieldLink RX1 25 "TheLiningsInIt$Moves" "k" "I") (List.mem_of_getElem? (i := 5) rfl)) (fun _ h9 => h9) rfl (tyX1_ok 4 (Nat.le_of_ble_eq_true rfl)) rfl rfl (Nat.le_of_ble_eq_true rfl) dX1_begin_18 (fun H locs hP hD hS => ?_)
      have h9R := zRe (ws' := [(mv, .inr (1, [.ref mb, .int mr, .int 5, .int nb, .int a_])), (mb, .inl (cI, 20, .inl fb))]) hP hD rfl
      clear hP hD
      obtain ⟨hP, hD⟩ := h9R
      refine lv_aload_n hx hb dX1_begin_21 rfl (lv_at hl 0 rfl) ?_
      refine lv_aload_n hx hb dX1_begin_22 rfl (lv_at hl 0 rfl) ?_
      refine va_get (D := D) (ci := 1) (v := .int 5) (C := RX1) (T := TX1) (N := 5) hx hb hts hi_X1_begin_1 hown hK hP 0 rfl rfl 2 (by decide) (hts (.fieldLink RX1 19 "TheLiningsInIt$Moves" "kind" "I") (List.mem_of_getElem? (i := 2) rfl)) (fun _ h9 => h9) rfl dX1_begin_23 ?_
      refine lv_iload_n hx hb dX1_begin_26 rfl (lv_at hl 3 rfl) ?_
      refine lv_iload hx hb dX1_begin_27 (lv_at hl 4 rfl) ?_
      refine lv_iconst (v := 0) hx hb dX1_begin_29 (by decide) ?_
      skip
      refine zw_V (As := [.int 5, .int 0, .int x, .int 0]) (rest := []) (wr := []) ⟨hx, hb, hml, hown, hts⟩ (c_F_M_run_5_5_0_0 l D cI cJ cZ cP cS po mv mb (mr) (nb) (a_) fb (x) hy2 hy3 H.size) (cwV 4 hts gX1_begin_X1_run rfl rfl rfl ⟨rfl, dh_X1_run⟩ ⟨Nat.le_of_ble_eq_true rfl, Nat.le_of_ble_eq_true rfl⟩) hK hN (hZ.kept hS) hP hD hS hA [0, 1] [] rfl rfl (by decide) (by decide) (by decide) (va_recv (q := (RX1, TX1, 5)) hK hP (ci := 1) (q0 := 0) rfl rfl) rfl hl.1 rfl (Nat.le_of_ble_eq_true rfl) dX1_begin_30 ⟨Nat.le_of_ble_eq_true rfl, Nat.le_of_ble_eq_true rfl⟩ (fun r_61 u_62 H locs hr_61 hP hD hS => ?_)
      obtain ⟨q_63, q_64⟩ := u_62
      try dsimp only at hr_61
      obtain ⟨hbq_63, hsr_61_0, hsr_61_1, hr_61⟩ := hr_61
      have h9R := zRe (ws' := [(mv, .inr (1, [.ref mb, .int q_63, .int 5, .int nb, .int a_])), (mb, .inl (cI, 20, .inl q_64))]) hP hD rfl
      clear hP hD
      obtain ⟨hP, hD⟩ := h9R
      exact W.iret (v := r_61) hx hb hr (fun t ht hW => ⟨⟨r_61, (q_63, 5, nb, a_, q_64), rfl, ⟨(show 0 ≤ q_63.toInt ∧ q_63.toInt ≤ 2000 from ⟨by omega, by omega⟩), (show (r_61 : Int32) = zQa (5 : Int32).toInt (0 : Int32).toInt x nb a_ from by (rw [hsr_61_0, show (0 : Int32).toInt = 0 from by decide, show (5 : Int32).toInt = 5 from by decide]; first | done | rfl)), (show q_64 = zTr fb mr.toInt (zBa (5 : Int32).toInt (0 : Int32).toInt) from by (rw [hsr_61_1, show (0 : Int32).toInt = 0 from by decide, show (5 : Int32).toInt = 5 from by decide]; first | done | rfl)), (show q_63.toInt = mr.toInt + ((zBa (5 : Int32).toInt (0 : Int32).toInt).length : Nat) from by (have q : ((zBa (5 : Int32).toInt (0 : Int32).toInt).length : Int) = 1 := (by rw [show (0 : Int32).toInt = 0 from by decide, show (5 : Int32).toInt = 5 from by decide]; first | done | rfl); omega)), trivial⟩, zRet ht hP hD [0, 1] (by decide) rfl⟩, hS.F ht⟩) hS.2.2 dX1_begin_33
    · refine lv_aload_n hx hb dX1_begin_1 rfl (lv_at hl 1 rfl) ?_
      refine va_get (D := D) (ci := 2) (v := .int 5) (C := RX2) (T := TX2) (N := 3) hx hb hts hi_X1_begin_2 hown hK (zPu_P (hZ.kept hS) hu_u0) 0 rfl rfl 0 (by decide) (hts (.fieldLink RX1 28 "TheLiningsInIt$Pull" "kind" "I") (List.mem_of_getElem? (i := 1) rfl)) (fun _ h9 => h9) rfl dX1_begin_2 ?_
      refine va_put (D := D) (ci := 1) (v := .int 5) (ty := .int) (C := RX1) (T := TX1) (N := 5) hx hb hts hi_X1_begin_1 tyX1 tyX1_ok nmX1 hown hK hP hD hS 0 rfl rfl 2 (by decide) (hts (.fieldLink RX1 19 "TheLiningsInIt$Moves" "kind" "I") (List.mem_of_getElem? (i := 2) rfl)) (fun _ h9 => h9) rfl (tyX1_ok 2 (Nat.le_of_ble_eq_true rfl)) rfl rfl (Nat.le_of_ble_eq_true rfl) dX1_begin_5 (fun H locs hP hD hS => ?_)
      have h9R := zRe (ws' := [(mv, .inr (1, [.ref mb, .int mr, .int 5, .int mm, .int mq])), (mb, .inl (cI, 20, .inl fb))]) hP hD rfl
      clear hP hD
      obtain ⟨hP, hD⟩ := h9R
      refine lv_aload_n hx hb dX1_begin_8 rfl (lv_at hl 0 rfl) ?_
      refine lv_iload_n hx hb dX1_begin_9 rfl (lv_at hl 2 rfl) ?_
      refine va_put (D := D) (ci := 1) (v := .int nb) (ty := .int) (C := RX1) (T := TX1) (N := 5) hx hb hts hi_X1_begin_1 tyX1 tyX1_ok nmX1 hown hK hP hD hS 0 rfl rfl 3 (by decide) (hts (.fieldLink RX1 22 "TheLiningsInIt$Moves" "m" "I") (List.mem_of_getElem? (i := 3) rfl)) (fun _ h9 => h9) rfl (tyX1_ok 3 (Nat.le_of_ble_eq_true rfl)) rfl rfl (Nat.le_of_ble_eq_true rfl) dX1_begin_10 (fun H locs hP hD hS => ?_)
      have h9R := zRe (ws' := [(mv, .inr (1, [.ref mb, .int mr, .int 5, .int nb, .int mq])), (mb, .inl (cI, 20, .inl fb))]) hP hD rfl
      clear hP hD
      obtain ⟨hP, hD⟩ := h9R
      refine lv_aload_n hx hb dX1_begin_13 rfl (lv_at hl 0 rfl) ?_
      refine lv_aload_n hx hb dX1_begin_14 rfl (lv_at hl 1 rfl) ?_
      refine va_get (D := D) (ci := 2) (v := .int a_) (C := RX2) (T := TX2) (N := 3) hx hb hts hi_X1_begin_2 hown hK (zPu_P (hZ.kept hS) hu_u0) 0 rfl rfl 1 (by decide) (hts (.fieldLink RX1 31 "TheLiningsInIt$Pull" "a" "I") (List.mem_of_getElem? (i := 4) rfl)) (fun _ h9 => h9) rfl dX1_begin_15 ?_
      refine va_put (D := D) (ci := 1) (v := .int a_) (ty := .int) (C := RX1) (T := TX1) (N := 5) hx hb hts hi_X1_begin_1 tyX1 tyX1_ok nmX1 hown hK hP hD hS 0 rfl rfl 4 (by decide) (hts (.fieldLink RX1 25 "TheLiningsInIt$Moves" "k" "I") (List.mem_of_getElem? (i := 5) rfl)) (fun _ h9 => h9) rfl (tyX1_ok 4 (Nat.le_of_ble_eq_true rfl)) rfl rfl (Nat.le_of_ble_eq_true rfl) dX1_begin_18 (fun H locs hP hD hS => ?_)
      have h9R := zRe (ws' := [(mv, .inr (1, [.ref mb, .int mr, .int 5, .int nb, .int a_])), (mb, .inl (cI, 20, .inl fb))]) hP hD rfl
      clear hP hD
      obtain ⟨hP, hD⟩ := h9R
      refine lv_aload_n hx hb dX1_begin_21 rfl (lv_at hl 0 rfl) ?_
      refine lv_aload_n hx hb dX1_begin_22 rfl (lv_at hl 0 rfl) ?_
      refine va_get (D := D) (ci := 1) (v := .int 5) (C := RX1) (T := TX1) (N := 5) hx hb hts hi_X1_begin_1 hown hK hP 0 rfl rfl 2 (by decide) (hts (.fieldLink RX1 19 "TheLiningsInIt$Moves" "kind" "I") (List.mem_of_getElem? (i := 2) rfl)) (fun _ h9 => h9) rfl dX1_begin_23 ?_
      refine lv_iload_n hx hb dX1_begin_26 rfl (lv_at hl 3 rfl) ?_
      refine lv_iload hx hb dX1_begin_27 (lv_at hl 4 rfl) ?_
      refine lv_iconst (v := 0) hx hb dX1_begin_29 (by decide) ?_
      skip
      refine zw_V (As := [.int 5, .int 1, .int x, .int 0]) (rest := []) (wr := []) ⟨hx, hb, hml, hown, hts⟩ (c_F_M_run_5_5_1_0 l D cI cJ cZ cP cS po mv mb (mr) (nb) (a_) fb (x) hy2 hy3 H.size) (cwV 4 hts gX1_begin_X1_run rfl rfl rfl ⟨rfl, dh_X1_run⟩ ⟨Nat.le_of_ble_eq_true rfl, Nat.le_of_ble_eq_true rfl⟩) hK hN (hZ.kept hS) hP hD hS hA [0, 1] [] rfl rfl (by decide) (by decide) (by decide) (va_recv (q := (RX1, TX1, 5)) hK hP (ci := 1) (q0 := 0) rfl rfl) rfl hl.1 rfl (Nat.le_of_ble_eq_true rfl) dX1_begin_30 ⟨Nat.le_of_ble_eq_true rfl, Nat.le_of_ble_eq_true rfl⟩ (fun r_65 u_66 H locs hr_65 hP hD hS => ?_)
      obtain ⟨q_67, q_68⟩ := u_66
      try dsimp only at hr_65
      obtain ⟨hbq_67, hsr_65_0, hsr_65_1, hr_65⟩ := hr_65
      have h9R := zRe (ws' := [(mv, .inr (1, [.ref mb, .int q_67, .int 5, .int nb, .int a_])), (mb, .inl (cI, 20, .inl q_68))]) hP hD rfl
      clear hP hD
      obtain ⟨hP, hD⟩ := h9R
      exact W.iret (v := r_65) hx hb hr (fun t ht hW => ⟨⟨r_65, (q_67, 5, nb, a_, q_68), rfl, ⟨(show 0 ≤ q_67.toInt ∧ q_67.toInt ≤ 2000 from ⟨by omega, by omega⟩), (show (r_65 : Int32) = zQa (5 : Int32).toInt (1 : Int32).toInt x nb a_ from by (rw [hsr_65_0, show (1 : Int32).toInt = 1 from by decide, show (5 : Int32).toInt = 5 from by decide]; first | done | rfl)), (show q_68 = zTr fb mr.toInt (zBa (5 : Int32).toInt (1 : Int32).toInt) from by (rw [hsr_65_1, show (1 : Int32).toInt = 1 from by decide, show (5 : Int32).toInt = 5 from by decide]; first | done | rfl)), (show q_67.toInt = mr.toInt + ((zBa (5 : Int32).toInt (1 : Int32).toInt).length : Nat) from by (have q : ((zBa (5 : Int32).toInt (1 : Int32).toInt).length : Int) = 3 := (by rw [show (1 : Int32).toInt = 1 from by decide, show (5 : Int32).toInt = 5 from by decide]; first | done | rfl); omega)), trivial⟩, zRet ht hP hD [0, 1] (by decide) rfl⟩, hS.F ht⟩) hS.2.2 dX1_begin_33
    · refine lv_aload_n hx hb dX1_begin_1 rfl (lv_at hl 1 rfl) ?_
      refine va_get (D := D) (ci := 2) (v := .int 5) (C := RX2) (T := TX2) (N := 3) hx hb hts hi_X1_begin_2 hown hK (zPu_P (hZ.kept hS) hu_u0) 0 rfl rfl 0 (by decide) (hts (.fieldLink RX1 28 "TheLiningsInIt$Pull" "kind" "I") (List.mem_of_getElem? (i := 1) rfl)) (fun _ h9 => h9) rfl dX1_begin_2 ?_
      refine va_put (D := D) (ci := 1) (v := .int 5) (ty := .int) (C := RX1) (T := TX1) (N := 5) hx hb hts hi_X1_begin_1 tyX1 tyX1_ok nmX1 hown hK hP hD hS 0 rfl rfl 2 (by decide) (hts (.fieldLink RX1 19 "TheLiningsInIt$Moves" "kind" "I") (List.mem_of_getElem? (i := 2) rfl)) (fun _ h9 => h9) rfl (tyX1_ok 2 (Nat.le_of_ble_eq_true rfl)) rfl rfl (Nat.le_of_ble_eq_true rfl) dX1_begin_5 (fun H locs hP hD hS => ?_)
      have h9R := zRe (ws' := [(mv, .inr (1, [.ref mb, .int mr, .int 5, .int mm, .int mq])), (mb, .inl (cI, 20, .inl fb))]) hP hD rfl
      clear hP hD
      obtain ⟨hP, hD⟩ := h9R
      refine lv_aload_n hx hb dX1_begin_8 rfl (lv_at hl 0 rfl) ?_
      refine lv_iload_n hx hb dX1_begin_9 rfl (lv_at hl 2 rfl) ?_
      refine va_put (D := D) (ci := 1) (v := .int nb) (ty := .int) (C := RX1) (T := TX1) (N := 5) hx hb hts hi_X1_begin_1 tyX1 tyX1_ok nmX1 hown hK hP hD hS 0 rfl rfl 3 (by decide) (hts (.fieldLink RX1 22 "TheLiningsInIt$Moves" "m" "I") (List.mem_of_getElem? (i := 3) rfl)) (fun _ h9 => h9) rfl (tyX1_ok 3 (Nat.le_of_ble_eq_true rfl)) rfl rfl (Nat.le_of_ble_eq_true rfl) dX1_begin_10 (fun H locs hP hD hS => ?_)
      have h9R := zRe (ws' := [(mv, .inr (1, [.ref mb, .int mr, .int 5, .int nb, .int mq])), (mb, .inl (cI, 20, .inl fb))]) hP hD rfl
      clear hP hD
      obtain ⟨hP, hD⟩ := h9R
      refine lv_aload_n hx hb dX1_begin_13 rfl (lv_at hl 0 rfl) ?_
      refine lv_aload_n hx hb dX1_begin_14 rfl (lv_at hl 1 rfl) ?_
      refine va_get (D := D) (ci := 2) (v := .int a_) (C := RX2) (T := TX2) (N := 3) hx hb hts hi_X1_begin_2 hown hK (zPu_P (hZ.kept hS) hu_u0) 0 rfl rfl 1 (by decide) (hts (.fieldLink RX1 31 "TheLiningsInIt$Pull" "a" "I") (List.mem_of_getElem? (i := 4) rfl)) (fun _ h9 => h9) rfl dX1_begin_15 ?_
      refine va_put (D := D) (ci := 1) (v := .int a_) (ty := .int) (C := RX1) (T := TX1) (N := 5) hx hb hts hi_X1_begin_1 tyX1 tyX1_ok nmX1 hown hK hP hD hS 0 rfl rfl 4 (by decide) (hts (.fieldLink RX1 25 "TheLiningsInIt$Moves" "k" "I") (List.mem_of_getElem? (i := 5) rfl)) (fun _ h9 => h9) rfl (tyX1_ok 4 (Nat.le_of_ble_eq_true rfl)) rfl rfl (Nat.le_of_ble_eq_true rfl) dX1_begin_18 (fun H locs hP hD hS => ?_)
      have h9R := zRe (ws' := [(mv, .inr (1, [.ref mb, .int mr, .int 5, .int nb, .int a_])), (mb, .inl (cI, 20, .inl fb))]) hP hD rfl
      clear hP hD
      obtain ⟨hP, hD⟩ := h9R
      refine lv_aload_n hx hb dX1_begin_21 rfl (lv_at hl 0 rfl) ?_
      refine lv_aload_n hx hb dX1_begin_22 rfl (lv_at hl 0 rfl) ?_
      refine va_get (D := D) (ci := 1) (v := .int 5) (C := RX1) (T := TX1) (N := 5) hx hb hts hi_X1_begin_1 hown hK hP 0 rfl rfl 2 (by decide) (hts (.fieldLink RX1 19 "TheLiningsInIt$Moves" "kind" "I") (List.mem_of_getElem? (i := 2) rfl)) (fun _ h9 => h9) rfl dX1_begin_23 ?_
      refine lv_iload_n hx hb dX1_begin_26 rfl (lv_at hl 3 rfl) ?_
      refine lv_iload hx hb dX1_begin_27 (lv_at hl 4 rfl) ?_
      refine lv_iconst (v := 0) hx hb dX1_begin_29 (by decide) ?_
      skip
      refine zw_V (As := [.int 5, .int 2, .int x, .int 0]) (rest := []) (wr := []) ⟨hx, hb, hml, hown, hts⟩ (c_F_M_run_5_5_2_0 l D cI cJ cZ cP cS po mv mb (mr) (nb) (a_) fb (x) hy2 hy3 H.size) (cwV 4 hts gX1_begin_X1_run rfl rfl rfl ⟨rfl, dh_X1_run⟩ ⟨Nat.le_of_ble_eq_true rfl, Nat.le_of_ble_eq_true rfl⟩) hK hN (hZ.kept hS) hP hD hS hA [0, 1] [] rfl rfl (by decide) (by decide) (by decide) (va_recv (q := (RX1, TX1, 5)) hK hP (ci := 1) (q0 := 0) rfl rfl) rfl hl.1 rfl (Nat.le_of_ble_eq_true rfl) dX1_begin_30 ⟨Nat.le_of_ble_eq_true rfl, Nat.le_of_ble_eq_true rfl⟩ (fun r_69 u_70 H locs hr_69 hP hD hS => ?_)
      obtain ⟨q_71, q_72⟩ := u_70
      try dsimp only at hr_69
      obtain ⟨hbq_71, hsr_69_0, hsr_69_1, hr_69⟩ := hr_69
      have h9R := zRe (ws' := [(mv, .inr (1, [.ref mb, .int q_71, .int 5, .int nb, .int a_])), (mb, .inl (cI, 20, .inl q_72))]) hP hD rfl
      clear hP hD
      obtain ⟨hP, hD⟩ := h9R
      exact W.iret (v := r_69) hx hb hr (fun t ht hW => ⟨⟨r_69, (q_71, 5, nb, a_, q_72), rfl, ⟨(show 0 ≤ q_71.toInt ∧ q_71.toInt ≤ 2000 from ⟨by omega, by omega⟩), (show (r_69 : Int32) = zQa (5 : Int32).toInt (2 : Int32).toInt x nb a_ from by (rw [hsr_69_0, show (2 : Int32).toInt = 2 from by decide, show (5 : Int32).toInt = 5 from by decide]; first | done | rfl)), (show q_72 = zTr fb mr.toInt (zBa (5 : Int32).toInt (2 : Int32).toInt) from by (rw [hsr_69_1, show (2 : Int32).toInt = 2 from by decide, show (5 : Int32).toInt = 5 from by decide]; first | done | rfl)), (show q_71.toInt = mr.toInt + ((zBa (5 : Int32).toInt (2 : Int32).toInt).length : Nat) from by (have q : ((zBa (5 : Int32).toInt (2 : Int32).toInt).length : Int) = 6 := (by rw [show (2 : Int32).toInt = 2 from by decide, show (5 : Int32).toInt = 5 from by decide]; first | done | rfl); omega)), trivial⟩, zRet ht hP hD [0, 1] (by decide) rfl⟩, hS.F ht⟩) hS.2.2 dX1_begin_33
  · refine lv_aload_n hx hb dX1_begin_0 rfl (lv_at hl 0 rfl) ?_
    have hsp : mo = 0 ∨ mo = 1 ∨ mo = 2 := by
      rcases (show mo.toInt = 0 ∨ mo.toInt = 1 ∨ mo.toInt = 2 by omega) with h9 | h9 | h9
      · refine Or.inl ?_; exact zf_val h9 (by decide)
      · refine Or.inr (Or.inl ?_); exact zf_val h9 (by decide)
      · refine Or.inr (Or.inr (?_)); exact zf_val h9 (by decide)
    rcases hsp with rfl | rfl | rfl
    · refine lv_aload_n hx hb dX1_begin_1 rfl (lv_at hl 1 rfl) ?_
      refine va_get (D := D) (ci := 2) (v := .int 6) (C := RX2) (T := TX2) (N := 3) hx hb hts hi_X1_begin_2 hown hK (zPu_P (hZ.kept hS) hu_u0) 0 rfl rfl 0 (by decide) (hts (.fieldLink RX1 28 "TheLiningsInIt$Pull" "kind" "I") (List.mem_of_getElem? (i := 1) rfl)) (fun _ h9 => h9) rfl dX1_begin_2 ?_
      refine va_put (D := D) (ci := 1) (v := .int 6) (ty := .int) (C := RX1) (T := TX1) (N := 5) hx hb hts hi_X1_begin_1 tyX1 tyX1_ok nmX1 hown hK hP hD hS 0 rfl rfl 2 (by decide) (hts (.fieldLink RX1 19 "TheLiningsInIt$Moves" "kind" "I") (List.mem_of_getElem? (i := 2) rfl)) (fun _ h9 => h9) rfl (tyX1_ok 2 (Nat.le_of_ble_eq_true rfl)) rfl rfl (Nat.le_of_ble_eq_true rfl) dX1_begin_5 (fun H locs hP hD hS => ?_)
      have h9R := zRe (ws' := [(mv, .inr (1, [.ref mb, .int mr, .int 6, .int mm, .int mq])), (mb, .inl (cI, 20, .inl fb))]) hP hD rfl
      clear hP hD
      obtain ⟨hP, hD⟩ := h9R
      refine lv_aload_n hx hb dX1_begin_8 rfl (lv_at hl 0 rfl) ?_
      refine lv_iload_n hx hb dX1_begin_9 rfl (lv_at hl 2 rfl) ?_
      refine va_put (D := D) (ci := 1) (v := .int nb) (ty := .int) (C := RX1) (T := TX1) (N := 5) hx hb hts hi_X1_begin_1 tyX1 tyX1_ok nmX1 hown hK hP hD hS 0 rfl rfl 3 (by decide) (hts (.fieldLink RX1 22 "TheLiningsInIt$Moves" "m" "I") (List.mem_of_getElem? (i := 3) rfl)) (fun _ h9 => h9) rfl (tyX1_ok 3 (Nat.le_of_ble_eq_true rfl)) rfl rfl (Nat.le_of_ble_eq_true rfl) dX1_begin_10 (fun H locs hP hD hS => ?_)
      have h9R := zRe (ws' := [(mv, .inr (1, [.ref mb, .int mr, .int 6, .int nb, .int mq])), (mb, .inl (cI, 20, .inl fb))]) hP hD rfl
      clear hP hD
      obtain ⟨hP, hD⟩ := h9R
      refine lv_aload_n hx hb dX1_begin_13 rfl (lv_at hl 0 rfl) ?_
      refine lv_aload_n hx hb dX1_begin_14 rfl (lv_at hl 1 rfl) ?_
      refine va_get (D := D) (ci := 2) (v := .int a_) (C := RX2) (T := TX2) (N := 3) hx hb hts hi_X1_begin_2 hown hK (zPu_P (hZ.kept hS) hu_u0) 0 rfl rfl 1 (by decide) (hts (.fieldLink RX1 31 "TheLiningsInIt$Pull" "a" "I") (List.mem_of_getElem? (i := 4) rfl)) (fun _ h9 => h9) rfl dX1_begin_15 ?_
      refine va_put (D := D) (ci := 1) (v := .int a_) (ty := .int) (C := RX1) (T := TX1) (N := 5) hx hb hts hi_X1_begin_1 tyX1 tyX1_ok nmX1 hown hK hP hD hS 0 rfl rfl 4 (by decide) (hts (.fieldLink RX1 25 "TheLiningsInIt$Moves" "k" "I") (List.mem_of_getElem? (i := 5) rfl)) (fun _ h9 => h9) rfl (tyX1_ok 4 (Nat.le_of_ble_eq_true rfl)) rfl rfl (Nat.le_of_ble_eq_true rfl) dX1_begin_18 (fun H locs hP hD hS => ?_)
      have h9R := zRe (ws' := [(mv, .inr (1, [.ref mb, .int mr, .int 6, .int nb, .int a_])), (mb, .inl (cI, 20, .inl fb))]) hP hD rfl
      clear hP hD
      obtain ⟨hP, hD⟩ := h9R
      refine lv_aload_n hx hb dX1_begin_21 rfl (lv_at hl 0 rfl) ?_
      refine lv_aload_n hx hb dX1_begin_22 rfl (lv_at hl 0 rfl) ?_
      refine va_get (D := D) (ci := 1) (v := .int 6) (C := RX1) (T := TX1) (N := 5) hx hb hts hi_X1_begin_1 hown hK hP 0 rfl rfl 2 (by decide) (hts (.fieldLink RX1 19 "TheLiningsInIt$Moves" "kind" "I") (List.mem_of_getElem? (i := 2) rfl)) (fun _ h9 => h9) rfl dX1_begin_23 ?_
      refine lv_iload_n hx hb dX1_begin_26 rfl (lv_at hl 3 rfl) ?_
      refine lv_iload hx hb dX1_begin_27 (lv_at hl 4 rfl) ?_
      refine lv_iconst (v := 0) hx hb dX1_begin_29 (by decide) ?_
      skip
      refine zw_V (As := [.int 6, .int 0, .int x, .int 0]) (rest := []) (wr := []) ⟨hx, hb, hml, hown, hts⟩ (c_F_M_run_6_6_0_0 l D cI cJ cZ cP cS po mv mb (mr) (nb) (a_) fb (x) hy2 hy3 H.size) (cwV 4 hts gX1_begin_X1_run rfl rfl rfl ⟨rfl, dh_X1_run⟩ ⟨Nat.le_of_ble_eq_true rfl, Nat.le_of_ble_eq_true rfl⟩) hK hN (hZ.kept hS) hP hD hS hA [0, 1] [] rfl rfl (by decide) (by decide) (by decide) (va_recv (q := (RX1, TX1, 5)) hK hP (ci := 1) (q0 := 0) rfl rfl) rfl hl.1 rfl (Nat.le_of_ble_eq_true rfl) dX1_begin_30 ⟨Nat.le_of_ble_eq_true rfl, Nat.le_of_ble_eq_true rfl⟩ (fun r_73 u_74 H locs hr_73 hP hD hS => ?_)
      obtain ⟨q_75, q_76⟩ := u_74
      try dsimp only at hr_73
      obtain ⟨hbq_75, hsr_73_0, hsr_73_1, hr_73⟩ := hr_73
      have h9R := zRe (ws' := [(mv, .inr (1, [.ref mb, .int q_75, .int 6, .int nb, .int a_])), (mb, .inl (cI, 20, .inl q_76))]) hP hD rfl
      clear hP hD
      obtain ⟨hP, hD⟩ := h9R
      exact W.iret (v := r_73) hx hb hr (fun t ht hW => ⟨⟨r_73, (q_75, 6, nb, a_, q_76), rfl, ⟨(show 0 ≤ q_75.toInt ∧ q_75.toInt ≤ 2000 from ⟨by omega, by omega⟩), (show (r_73 : Int32) = zQa (6 : Int32).toInt (0 : Int32).toInt x nb a_ from by (rw [hsr_73_0, show (0 : Int32).toInt = 0 from by decide, show (6 : Int32).toInt = 6 from by decide]; first | done | rfl)), (show q_76 = zTr fb mr.toInt (zBa (6 : Int32).toInt (0 : Int32).toInt) from by (rw [hsr_73_1, show (0 : Int32).toInt = 0 from by decide, show (6 : Int32).toInt = 6 from by decide]; first | done | rfl)), (show q_75.toInt = mr.toInt + ((zBa (6 : Int32).toInt (0 : Int32).toInt).length : Nat) from by (have q : ((zBa (6 : Int32).toInt (0 : Int32).toInt).length : Int) = 3 := (by rw [show (0 : Int32).toInt = 0 from by decide, show (6 : Int32).toInt = 6 from by decide]; first | done | rfl); omega)), trivial⟩, zRet ht hP hD [0, 1] (by decide) rfl⟩, hS.F ht⟩) hS.2.2 dX1_begin_33
    · refine lv_aload_n hx hb dX1_begin_1 rfl (lv_at hl 1 rfl) ?_
      refine va_get (D := D) (ci := 2) (v := .int 6) (C := RX2) (T := TX2) (N := 3) hx hb hts hi_X1_begin_2 hown hK (zPu_P (hZ.kept hS) hu_u0) 0 rfl rfl 0 (by decide) (hts (.fieldLink RX1 28 "TheLiningsInIt$Pull" "kind" "I") (List.mem_of_getElem? (i := 1) rfl)) (fun _ h9 => h9) rfl dX1_begin_2 ?_
      refine va_put (D := D) (ci := 1) (v := .int 6) (ty := .int) (C := RX1) (T := TX1) (N := 5) hx hb hts hi_X1_begin_1 tyX1 tyX1_ok nmX1 hown hK hP hD hS 0 rfl rfl 2 (by decide) (hts (.fieldLink RX1 19 "TheLiningsInIt$Moves" "kind" "I") (List.mem_of_getElem? (i := 2) rfl)) (fun _ h9 => h9) rfl (tyX1_ok 2 (Nat.le_of_ble_eq_true rfl)) rfl rfl (Nat.le_of_ble_eq_true rfl) dX1_begin_5 (fun H locs hP hD hS => ?_)
      have h9R := zRe (ws' := [(mv, .inr (1, [.ref mb, .int mr, .int 6, .int mm, .int mq])), (mb, .inl (cI, 20, .inl fb))]) hP hD rfl
      clear hP hD
      obtain ⟨hP, hD⟩ := h9R
      refine lv_aload_n hx hb dX1_begin_8 rfl (lv_at hl 0 rfl) ?_
      refine lv_iload_n hx hb dX1_begin_9 rfl (lv_at hl 2 rfl) ?_
      refine va_put (D := D) (ci := 1) (v := .int nb) (ty := .int) (C := RX1) (T := TX1) (N := 5) hx hb hts hi_X1_begin_1 tyX1 tyX1_ok nmX1 hown hK hP hD hS 0 rfl rfl 3 (by decide) (hts (.fieldLink RX1 22 "TheLiningsInIt$Moves" "m" "I") (List.mem_of_getElem? (i := 3) rfl)) (fun _ h9 => h9) rfl (tyX1_ok 3 (Nat.le_of_ble_eq_true rfl)) rfl rfl (Nat.le_of_ble_eq_true rfl) dX1_begin_10 (fun H locs hP hD hS => ?_)
      have h9R := zRe (ws' := [(mv, .inr (1, [.ref mb, .int mr, .int 6, .int nb, .int mq])), (mb, .inl (cI, 20, .inl fb))]) hP hD rfl
      clear hP hD
      obtain ⟨hP, hD⟩ := h9R
      refine lv_aload_n hx hb dX1_begin_13 rfl (lv_at hl 0 rfl) ?_
      refine lv_aload_n hx hb dX1_begin_14 rfl (lv_at hl 1 rfl) ?_
      refine va_get (D := D) (ci := 2) (v := .int a_) (C := RX2) (T := TX2) (N := 3) hx hb hts hi_X1_begin_2 hown hK (zPu_P (hZ.kept hS) hu_u0) 0 rfl rfl 1 (by decide) (hts (.fieldLink RX1 31 "TheLiningsInIt$Pull" "a" "I") (List.mem_of_getElem? (i := 4) rfl)) (fun _ h9 => h9) rfl dX1_begin_15 ?_
      refine va_put (D := D) (ci := 1) (v := .int a_) (ty := .int) (C := RX1) (T := TX1) (N := 5) hx hb hts hi_X1_begin_1 tyX1 tyX1_ok nmX1 hown hK hP hD hS 0 rfl rfl 4 (by decide) (hts (.fieldLink RX1 25 "TheLiningsInIt$Moves" "k" "I") (List.mem_of_getElem? (i := 5) rfl)) (fun _ h9 => h9) rfl (tyX1_ok 4 (Nat.le_of_ble_eq_true rfl)) rfl rfl (Nat.le_of_ble_eq_true rfl) dX1_begin_18 (fun H locs hP hD hS => ?_)
      have h9R := zRe (ws' := [(mv, .inr (1, [.ref mb, .int mr, .int 6, .int nb, .int a_])), (mb, .inl (cI, 20, .inl fb))]) hP hD rfl
      clear hP hD
      obtain ⟨hP, hD⟩ := h9R
      refine lv_aload_n hx hb dX1_begin_21 rfl (lv_at hl 0 rfl) ?_
      refine lv_aload_n hx hb dX1_begin_22 rfl (lv_at hl 0 rfl) ?_
      refine va_get (D := D) (ci := 1) (v := .int 6) (C := RX1) (T := TX1) (N := 5) hx hb hts hi_X1_begin_1 hown hK hP 0 rfl rfl 2 (by decide) (hts (.fieldLink RX1 19 "TheLiningsInIt$Moves" "kind" "I") (List.mem_of_getElem? (i := 2) rfl)) (fun _ h9 => h9) rfl dX1_begin_23 ?_
      refine lv_iload_n hx hb dX1_begin_26 rfl (lv_at hl 3 rfl) ?_
      refine lv_iload hx hb dX1_begin_27 (lv_at hl 4 rfl) ?_
      refine lv_iconst (v := 0) hx hb dX1_begin_29 (by decide) ?_
      skip
      refine zw_V (As := [.int 6, .int 1, .int x, .int 0]) (rest := []) (wr := []) ⟨hx, hb, hml, hown, hts⟩ (c_F_M_run_6_6_1_0 l D cI cJ cZ cP cS po mv mb (mr) (nb) (a_) fb (x) hy2 hy3 H.size) (cwV 4 hts gX1_begin_X1_run rfl rfl rfl ⟨rfl, dh_X1_run⟩ ⟨Nat.le_of_ble_eq_true rfl, Nat.le_of_ble_eq_true rfl⟩) hK hN (hZ.kept hS) hP hD hS hA [0, 1] [] rfl rfl (by decide) (by decide) (by decide) (va_recv (q := (RX1, TX1, 5)) hK hP (ci := 1) (q0 := 0) rfl rfl) rfl hl.1 rfl (Nat.le_of_ble_eq_true rfl) dX1_begin_30 ⟨Nat.le_of_ble_eq_true rfl, Nat.le_of_ble_eq_true rfl⟩ (fun r_77 u_78 H locs hr_77 hP hD hS => ?_)
      obtain ⟨q_79, q_80⟩ := u_78
      try dsimp only at hr_77
      obtain ⟨hbq_79, hsr_77_0, hsr_77_1, hr_77⟩ := hr_77
      have h9R := zRe (ws' := [(mv, .inr (1, [.ref mb, .int q_79, .int 6, .int nb, .int a_])), (mb, .inl (cI, 20, .inl q_80))]) hP hD rfl
      clear hP hD
      obtain ⟨hP, hD⟩ := h9R
      exact W.iret (v := r_77) hx hb hr (fun t ht hW => ⟨⟨r_77, (q_79, 6, nb, a_, q_80), rfl, ⟨(show 0 ≤ q_79.toInt ∧ q_79.toInt ≤ 2000 from ⟨by omega, by omega⟩), (show (r_77 : Int32) = zQa (6 : Int32).toInt (1 : Int32).toInt x nb a_ from by (rw [hsr_77_0, show (1 : Int32).toInt = 1 from by decide, show (6 : Int32).toInt = 6 from by decide]; first | done | rfl)), (show q_80 = zTr fb mr.toInt (zBa (6 : Int32).toInt (1 : Int32).toInt) from by (rw [hsr_77_1, show (1 : Int32).toInt = 1 from by decide, show (6 : Int32).toInt = 6 from by decide]; first | done | rfl)), (show q_79.toInt = mr.toInt + ((zBa (6 : Int32).toInt (1 : Int32).toInt).length : Nat) from by (have q : ((zBa (6 : Int32).toInt (1 : Int32).toInt).length : Int) = 5 := (by rw [show (1 : Int32).toInt = 1 from by decide, show (6 : Int32).toInt = 6 from by decide]; first | done | rfl); omega)), trivial⟩, zRet ht hP hD [0, 1] (by decide) rfl⟩, hS.F ht⟩) hS.2.2 dX1_begin_33
    · refine lv_aload_n hx hb dX1_begin_1 rfl (lv_at hl 1 rfl) ?_
      refine va_get (D := D) (ci := 2) (v := .int 6) (C := RX2) (T := TX2) (N := 3) hx hb hts hi_X1_begin_2 hown hK (zPu_P (hZ.kept hS) hu_u0) 0 rfl rfl 0 (by decide) (hts (.fieldLink RX1 28 "TheLiningsInIt$Pull" "kind" "I") (List.mem_of_getElem? (i := 1) rfl)) (fun _ h9 => h9) rfl dX1_begin_2 ?_
      refine va_put (D := D) (ci := 1) (v := .int 6) (ty := .int) (C := RX1) (T := TX1) (N := 5) hx hb hts hi_X1_begin_1 tyX1 tyX1_ok nmX1 hown hK hP hD hS 0 rfl rfl 2 (by decide) (hts (.fieldLink RX1 19 "TheLiningsInIt$Moves" "kind" "I") (List.mem_of_getElem? (i := 2) rfl)) (fun _ h9 => h9) rfl (tyX1_ok 2 (Nat.le_of_ble_eq_true rfl)) rfl rfl (Nat.le_of_ble_eq_true rfl) dX1_begin_5 (fun H locs hP hD hS => ?_)
      have h9R := zRe (ws' := [(mv, .inr (1, [.ref mb, .int mr, .int 6, .int mm, .int mq])), (mb, .inl (cI, 20, .inl fb))]) hP hD rfl
      clear hP hD
      obtain ⟨hP, hD⟩ := h9R
      refine lv_aload_n hx hb dX1_begin_8 rfl (lv_at hl 0 rfl) ?_
      refine lv_iload_n hx hb dX1_begin_9 rfl (lv_at hl 2 rfl) ?_
      refine va_put (D := D) (ci := 1) (v := .int nb) (ty := .int) (C := RX1) (T := TX1) (N := 5) hx hb hts hi_X1_begin_1 tyX1 tyX1_ok nmX1 hown hK hP hD hS 0 rfl rfl 3 (by decide) (hts (.fieldLink RX1 22 "TheLiningsInIt$Moves" "m" "I") (List.mem_of_getElem? (i := 3) rfl)) (fun _ h9 => h9) rfl (tyX1_ok 3 (Nat.le_of_ble_eq_true rfl)) rfl rfl (Nat.le_of_ble_eq_true rfl) dX1_begin_10 (fun H locs hP hD hS => ?_)
      have h9R := zRe (ws' := [(mv, .inr (1, [.ref mb, .int mr, .int 6, .int nb, .int mq])), (mb, .inl (cI, 20, .inl fb))]) hP hD rfl
      clear hP hD
      obtain ⟨hP, hD⟩ := h9R
      refine lv_aload_n hx hb dX1_begin_13 rfl (lv_at hl 0 rfl) ?_
      refine lv_aload_n hx hb dX1_begin_14 rfl (lv_at hl 1 rfl) ?_
      refine va_get (D := D) (ci := 2) (v := .int a_) (C := RX2) (T := TX2) (N := 3) hx hb hts hi_X1_begin_2 hown hK (zPu_P (hZ.kept hS) hu_u0) 0 rfl rfl 1 (by decide) (hts (.fieldLink RX1 31 "TheLiningsInIt$Pull" "a" "I") (List.mem_of_getElem? (i := 4) rfl)) (fun _ h9 => h9) rfl dX1_begin_15 ?_
      refine va_put (D := D) (ci := 1) (v := .int a_) (ty := .int) (C := RX1) (T := TX1) (N := 5) hx hb hts hi_X1_begin_1 tyX1 tyX1_ok nmX1 hown hK hP hD hS 0 rfl rfl 4 (by decide) (hts (.fieldLink RX1 25 "TheLiningsInIt$Moves" "k" "I") (List.mem_of_getElem? (i := 5) rfl)) (fun _ h9 => h9) rfl (tyX1_ok 4 (Nat.le_of_ble_eq_true rfl)) rfl rfl (Nat.le_of_ble_eq_true rfl) dX1_begin_18 (fun H locs hP hD hS => ?_)
      have h9R := zRe (ws' := [(mv, .inr (1, [.ref mb, .int mr, .int 6, .int nb, .int a_])), (mb, .inl (cI, 20, .inl fb))]) hP hD rfl
      clear hP hD
      obtain ⟨hP, hD⟩ := h9R
      refine lv_aload_n hx hb dX1_begin_21 rfl (lv_at hl 0 rfl) ?_
      refine lv_aload_n hx hb dX1_begin_22 rfl (lv_at hl 0 rfl) ?_
      refine va_get (D := D) (ci := 1) (v := .int 6) (C := RX1) (T := TX1) (N := 5) hx hb hts hi_X1_begin_1 hown hK hP 0 rfl rfl 2 (by decide) (hts (.fieldLink RX1 19 "TheLiningsInIt$Moves" "kind" "I") (List.mem_of_getElem? (i := 2) rfl)) (fun _ h9 => h9) rfl dX1_begin_23 ?_
      refine lv_iload_n hx hb dX1_begin_26 rfl (lv_at hl 3 rfl) ?_
      refine lv_iload hx hb dX1_begin_27 (lv_at hl 4 rfl) ?_
      refine lv_iconst (v := 0) hx hb dX1_begin_29 (by decide) ?_
      skip
      refine zw_V (As := [.int 6, .int 2, .int x, .int 0]) (rest := []) (wr := []) ⟨hx, hb, hml, hown, hts⟩ (c_F_M_run_6_6_2_0 l D cI cJ cZ cP cS po mv mb (mr) (nb) (a_) fb (x) hy2 hy3 H.size) (cwV 4 hts gX1_begin_X1_run rfl rfl rfl ⟨rfl, dh_X1_run⟩ ⟨Nat.le_of_ble_eq_true rfl, Nat.le_of_ble_eq_true rfl⟩) hK hN (hZ.kept hS) hP hD hS hA [0, 1] [] rfl rfl (by decide) (by decide) (by decide) (va_recv (q := (RX1, TX1, 5)) hK hP (ci := 1) (q0 := 0) rfl rfl) rfl hl.1 rfl (Nat.le_of_ble_eq_true rfl) dX1_begin_30 ⟨Nat.le_of_ble_eq_true rfl, Nat.le_of_ble_eq_true rfl⟩ (fun r_81 u_82 H locs hr_81 hP hD hS => ?_)
      obtain ⟨q_83, q_84⟩ := u_82
      try dsimp only at hr_81
      obtain ⟨hbq_83, hsr_81_0, hsr_81_1, hr_81⟩ := hr_81
      have h9R := zRe (ws' := [(mv, .inr (1, [.ref mb, .int q_83, .int 6, .int nb, .int a_])), (mb, .inl (cI, 20, .inl q_84))]) hP hD rfl
      clear hP hD
      obtain ⟨hP, hD⟩ := h9R
      exact W.iret (v := r_81) hx hb hr (fun t ht hW => ⟨⟨r_81, (q_83, 6, nb, a_, q_84), rfl, ⟨(show 0 ≤ q_83.toInt ∧ q_83.toInt ≤ 2000 from ⟨by omega, by omega⟩), (show (r_81 : Int32) = zQa (6 : Int32).toInt (2 : Int32).toInt x nb a_ from by (rw [hsr_81_0, show (2 : Int32).toInt = 2 from by decide, show (6 : Int32).toInt = 6 from by decide]; first | done | rfl)), (show q_84 = zTr fb mr.toInt (zBa (6 : Int32).toInt (2 : Int32).toInt) from by (rw [hsr_81_1, show (2 : Int32).toInt = 2 from by decide, show (6 : Int32).toInt = 6 from by decide]; first | done | rfl)), (show q_83.toInt = mr.toInt + ((zBa (6 : Int32).toInt (2 : Int32).toInt).length : Nat) from by (have q : ((zBa (6 : Int32).toInt (2 : Int32).toInt).length : Int) = 10 := (by rw [show (2 : Int32).toInt = 2 from by decide, show (6 : Int32).toInt = 6 from by decide]; first | done | rfl); omega)), trivial⟩, zRet ht hP hD [0, 1] (by decide) rfl⟩, hS.F ht⟩) hS.2.2 dX1_begin_33
set_option maxHeartbeats 4000000 in
set_option maxRecDepth 100000 in
theorem c_F_X_act (l : Launch) (D : va_G) (cI cJ cZ cP cS : ClassId) (po : zPool) (x0 xs j0 k0 w0 rd mv xr : Nat) (im lf : Int32) (fr : Nat → Int32) (j0 jp jc z0 zl zs : Nat) (cn de tr se hu sd : Int32) (fp : Nat → Option Nat) (kf af tf : Nat → Int32) (mb : Nat) (mr mk mm mq : Int32) (fb : Nat → Int32) (p_ mo x : Int32) (hy0 : 0 ≤ im.toInt) (hy1 : im.toInt ≤ 1) (hy2 : (-1) ≤ lf.toInt) (hy3 : lf.toInt ≤ 160) (hy4 : 0 ≤ cn.toInt) (hy5 : cn.toInt ≤ 8) (hy6 : 0 ≤ de.toInt) (hy7 : de.toInt ≤ 24) (hy8 : 0 ≤ hu.toInt) (hy9 : hu.toInt ≤ 9) (hjp : zJP po fp cn kf af tf) (hy11 : 0 ≤ mr.toInt) (hy12 : mr.toInt ≤ 2000) (hpz : Nat) : Met l yX7_act wsX7_act ({ frames := 10, cells := 0, slots := 0, locals := 252 }) (va_Pc [.ref x0, .int p_, .int mo, .int x] (zW D (zKT cI cJ cZ cP cS) po [(x0, .inr (7, [.ref xs, .ref j0, .ref k0, .ref w0, .ref rd, .ref mv, .ref xr, .int im, .int lf])), (j0, .inr (0, [.ref z0, .ref jp, .ref jc, .int cn, .int de, .int tr, .int se, .int hu, .int sd])), (jp, .inl (cP, 8, .inr (.inr (.inr (.inr fp))))), (mv, .inr (1, [.ref mb, .int mr, .int mk, .int mm, .int mq])), (mb, .inl (cI, 20, .inl fb))] hpz)) (va_Qi (fun (r : Int32) (u : (Int32) × (Int32) × (Int32) × (Int32) × (Nat → Int32)) => (0 ≤ u.1.toInt ∧ u.1.toInt ≤ 2000) ∧ (((p_.toInt < 0 ∨ cn.toInt ≤ p_.toInt ∨ mo.toInt < 0 ∨ 2 < mo.toInt) ∧ r = 0 ∧ u.1.toInt = 0) ∨ ((0 ≤ p_.toInt ∧ p_.toInt < cn.toInt) ∧ (0 ≤ mo.toInt ∧ mo.toInt ≤ 2) ∧ r = zQa (kf p_.toNatClampNeg).toInt mo.toInt x p_ (af p_.toNatClampNeg) ∧ u.1.toInt = ((zBa (kf p_.toNatClampNeg).toInt mo.toInt).length : Nat) ∧ u.2.2.2.2 = zTr fb 0 (zBa (kf p_.toNatClampNeg).toInt mo.toInt))) ∧ (True)) (zB D [(x0, .inr (7, [.ref xs, .ref j0, .ref k0, .ref w0, .ref rd, .ref mv, .ref xr, .int im, .int lf])), (j0, .inr (0, [.ref z0, .ref jp, .ref jc, .int cn, .int de, .int tr, .int se, .int hu, .int sd])), (jp, .inl (cP, 8, .inr (.inr (.inr (.inr fp))))), (mv, .inr (1, [.ref mb, .int mr, .int mk, .int mm, .int mq])), (mb, .inl (cI, 20, .inl fb))] hpz (fun (u : (Int32) × (Int32) × (Int32) × (Int32) × (Nat → Int32)) => [(x0, .inr (7, [.ref xs, .ref j0, .ref k0, .ref w0, .ref rd, .ref mv, .ref xr, .int im, .int lf])), (j0, .inr (0, [.ref z0, .ref jp, .ref jc, .int cn, .int de, .int tr, .int se, .int hu, .int sd])), (jp, .inl (cP, 8, .inr (.inr (.inr (.inr fp))))), (mv, .inr (1, [.ref mb, .int u.1, .int u.2.1, .int u.2.2.1, .int u.2.2.2.1])), (mb, .inl (cI, 20, .inl u.2.2.2.2))])) (va_A [(x0, .inr (7, [.ref xs, .ref j0, .ref k0, .ref w0, .ref rd, .ref mv, .ref xr, .int im, .int lf])), (j0, .inr (0, [.ref z0, .ref jp, .ref jc, .int cn, .int de, .int tr, .int se, .int hu, .int sd])), (jp, .inl (cP, 8, .inr (.inr (.inr (.inr fp))))), (mv, .inr (1, [.ref mb, .int mr, .int mk, .int mm, .int mq])), (mb, .inl (cI, 20, .inl fb))] hpz)) 0 0 (va_A [(x0, .inr (7, [.ref xs, .ref j0, .ref k0, .ref w0, .ref rd, .ref mv, .ref xr, .int im, .int lf])), (j0, .inr (0, [.ref z0, .ref jp, .ref jc, .int cn, .int de, .int tr, .int se, .int hu, .int sd])), (jp, .inl (cP, 8, .inr (.inr (.inr (.inr fp))))), (mv, .inr (1, [.ref mb, .int mr, .int mk, .int mm, .int mq])), (mb, .inl (cI, 20, .inl fb))] hpz) := by
  refine Met.ofW (cc := cX7_act) (maxL := 5) (ret := (some .int)) (by decide) rfl ?_
  intro p e s m args below meth c s₁ B hml hv
  obtain ⟨rfl, hsz, hP, hK, hD0, hN, hZ⟩ := hv
  have hx := B.exec
  have hb := B.bytes
  have hr := B.returns
  have hts := atoms_spec (ws := wsX7_act) B.pre
  have hown : s.vm.findClass RX7 = some m.cls := findClass_of_methodNamed B.named
  have hlocks := B.notSynchronized
  subst hsz
  have hD := hD0.self (sz := s.heap.size)
  have hA := zA_of hD
  have hl := lv_entry ([.ref x0, .int p_, .int mo, .int x]) (n := 5) (Nat.le_of_ble_eq_true rfl)
  rw [lg_entry_eq]
  generalize (lg_sl ([.ref x0, .int p_, .int mo, .int x]) ++ List.replicate (5 - (lg_sl ([.ref x0, .int p_, .int mo, .int x])).length) Slot.unset).toArray = ls at hl ⊢
  replace hl : lv_has ls 5 [(0, .ref x0), (1, .int p_), (2, .int mo), (3, .int x)] := hl
  refine zw_begin hP hD (fun H locs hP1 hS => ?_)
  clear hP
  have hP := hP1
  clear hP1
  refine lv_aload_n hx hb dX7_act_0 rfl (lv_at hl 0 rfl) ?_
  refine va_get (D := D) (ci := 7) (v := .ref mv) (C := RX7) (T := TX7) (N := 9) hx hb hts hi_X7_act_7 hown hK hP 0 rfl rfl 5 (by decide) (hts (.fieldLink RX7 42 "TheLiningsInIt" "moves" "LTheLiningsInIt$Moves;") (List.mem_of_getElem? (i := 1) rfl)) (fun _ h9 => h9) rfl dX7_act_1 ?_
  refine lv_iconst (v := 0) hx hb dX7_act_4 (by decide) ?_
  refine va_put (D := D) (ci := 1) (v := .int 0) (ty := .int) (C := RX1) (T := TX1) (N := 5) hx hb hts hi_X7_act_1 tyX1 tyX1_ok nmX1 hown hK hP hD hS 3 rfl rfl 1 (by decide) (hts (.fieldLink RX7 288 "TheLiningsInIt$Moves" "ran" "I") (List.mem_of_getElem? (i := 2) rfl)) (fun _ h9 => h9) rfl (tyX1_ok 1 (Nat.le_of_ble_eq_true rfl)) rfl rfl (Nat.le_of_ble_eq_true rfl) dX7_act_5 (fun H locs hP hD hS => ?_)
  have h9R := zRe (ws' := [(x0, .inr (7, [.ref xs, .ref j0, .ref k0, .ref w0, .ref rd, .ref mv, .ref xr, .int im, .int lf])), (j0, .inr (0, [.ref z0, .ref jp, .ref jc, .int cn, .int de, .int tr, .int se, .int hu, .int sd])), (jp, .inl (cP, 8, .inr (.inr (.inr (.inr fp))))), (mv, .inr (1, [.ref mb, .int 0, .int mk, .int mm, .int mq])), (mb, .inl (cI, 20, .inl fb))]) hP hD rfl
  clear hP hD
  obtain ⟨hP, hD⟩ := h9R
  refine lv_aload_n hx hb dX7_act_8 rfl (lv_at hl 0 rfl) ?_
  refine va_get (D := D) (ci := 7) (v := .ref j0) (C := RX7) (T := TX7) (N := 9) hx hb hts hi_X7_act_7 hown hK hP 0 rfl rfl 1 (by decide) (hts (.fieldLink RX7 18 "TheLiningsInIt" "now" "LTheLiningsInIt$Jacket;") (List.mem_of_getElem? (i := 3) rfl)) (fun _ h9 => h9) rfl dX7_act_9 ?_
  refine lv_iload_n hx hb dX7_act_12 rfl (lv_at hl 1 rfl) ?_
  refine zc_Vq (As := [.int p_]) (rest := []) ⟨hx, hb, hml, hown, hts⟩ (c_F_J_pullAt l D cI cJ cZ cP cS po j0 jp jc z0 0 0 (cn) (de) (tr) (se) (hu) (sd) fp kf af tf (p_) hy4 hy5 hy6 hy7 hy8 hy9 hjp) (cwV 1 hts gX7_act_X0_pullAt rfl rfl rfl ⟨rfl, dh_X0_pullAt⟩ ⟨Nat.le_of_ble_eq_true rfl, Nat.le_of_ble_eq_true rfl⟩) hK hN (hZ.kept hS) hP (hP.sub [1, 2] rfl) (va_recv (q := (RX0, TX0, 9)) hK hP (ci := 0) (q0 := 1) rfl rfl) rfl hl.1 rfl (Nat.le_of_ble_eq_true rfl) dX7_act_13 ⟨Nat.le_of_ble_eq_true rfl, Nat.le_of_ble_eq_true rfl⟩ (fun r_1 hr_1 => ?_)
  rcases hr_1 with ⟨rfl, g_2⟩ | ⟨rfl, g_3, g_4⟩ | ⟨⟨u_6, kiu_6, au_6, tu_6, rfl, huu_6, hkku_6⟩, g_5⟩
  · refine lv_astoreN (lv' := [(4, .null), (0, .ref x0), (1, .int p_), (2, .int mo), (3, .int x)]) hx hb dX7_act_16 hl (by decide) rfl (fun ls hl => ?_)
    refine lv_aloadN hx hb dX7_act_18 (lv_at hl 0 rfl) ?_
    refine lv_ifnullN (tgt := 32) hx hb dX7_act_20 (by decide) ?_
    refine lv_iconst (v := 0) hx hb dX7_act_32 (by decide) ?_
    exact W.iret (v := 0) hx hb hr (fun t ht hW => ⟨⟨0, (0, mk, mm, mq, fb), rfl, ⟨(show 0 ≤ (0 : Int32).toInt ∧ (0 : Int32).toInt ≤ 2000 from by decide), (show ((p_.toInt < 0 ∨ cn.toInt ≤ p_.toInt ∨ mo.toInt < 0 ∨ 2 < mo.toInt) ∧ (0 : Int32) = 0 ∧ (0 : Int32).toInt = 0) ∨ ((0 ≤ p_.toInt ∧ p_.toInt < cn.toInt) ∧ (0 ≤ mo.toInt ∧ mo.toInt ≤ 2) ∧ (0 : Int32) = zQa (kf p_.toNatClampNeg).toInt mo.toInt x p_ (af p_.toNatClampNeg) ∧ (0 : Int32).toInt = ((zBa (kf p_.toNatClampNeg).toInt mo.toInt).length : Nat) ∧ fb = zTr fb 0 (zBa (kf p_.toNatClampNeg).toInt mo.toInt)) from by (exact Or.inl ⟨by omega, rfl, by decide⟩)), trivial⟩, zRet ht hP hD [0, 1, 2, 3, 4] (by decide) rfl⟩, hS.F ht⟩) hS.2.2 dX7_act_33
  · refine lv_astoreN (lv' := [(4, .null), (0, .ref x0), (1, .int p_), (2, .int mo), (3, .int x)]) hx hb dX7_act_16 hl (by decide) rfl (fun ls hl => ?_)
    refine lv_aloadN hx hb dX7_act_18 (lv_at hl 0 rfl) ?_
    refine lv_ifnullN (tgt := 32) hx hb dX7_act_20 (by decide) ?_
    refine lv_iconst (v := 0) hx hb dX7_act_32 (by decide) ?_
    exact W.iret (v := 0) hx hb hr (fun t ht hW => ⟨⟨0, (0, mk, mm, mq, fb), rfl, ⟨(show 0 ≤ (0 : Int32).toInt ∧ (0 : Int32).toInt ≤ 2000 from by decide), (show ((p_.toInt < 0 ∨ cn.toInt ≤ p_.toInt ∨ mo.toInt < 0 ∨ 2 < mo.toInt) ∧ (0 : Int32) = 0 ∧ (0 : Int32).toInt = 0) ∨ ((0 ≤ p_.toInt ∧ p_.toInt < cn.toInt) ∧ (0 ≤ mo.toInt ∧ mo.toInt ≤ 2) ∧ (0 : Int32) = zQa (kf p_.toNatClampNeg).toInt mo.toInt x p_ (af p_.toNatClampNeg) ∧ (0 : Int32).toInt = ((zBa (kf p_.toNatClampNeg).toInt mo.toInt).length : Nat) ∧ fb = zTr fb 0 (zBa (kf p_.toNatClampNeg).toInt mo.toInt)) from by (exact Or.inl ⟨by omega, rfl, by decide⟩)), trivial⟩, zRet ht hP hD [0, 1, 2, 3, 4] (by decide) rfl⟩, hS.F ht⟩) hS.2.2 dX7_act_33
  · refine W.eq (g2 := F0 m 16 ls (.ref u_6 :: [])) rfl ?_
    obtain ⟨hku_6, hau_6, htu_6⟩ := zPu_pr (hZ.kept hS) huu_6
    refine lv_astore (lv' := [(4, .ref u_6), (0, .ref x0), (1, .int p_), (2, .int mo), (3, .int x)]) hx hb dX7_act_16 hl (by decide) rfl (fun ls hl => ?_)
    refine lv_aload hx hb dX7_act_18 (lv_at hl 0 rfl) ?_
    refine lv_ifnull hx hb dX7_act_20 ?_
    refine lv_iload_n hx hb dX7_act_23 rfl (lv_at hl 3 rfl) ?_
    refine lv_iconst (v := 0) hx hb dX7_act_24 (by decide) ?_
    refine lv_iconst (v := 2) hx hb dX7_act_25 (by decide) ?_
    have kc0 : (0 : Int32).toInt = 0 := by decide
    have kc2 : (2 : Int32).toInt = 2 := by decide
    refine zc_S (As := [.int mo, .int 0, .int 2]) (rest := []) ⟨hx, hb, hml, hown, hts⟩ (c_within l D cI cJ cZ cP cS po (mo) (0) (2) ) (va_cwS 3 hts gX7_act_X7_within rfl rfl rfl dh_X7_within ⟨Nat.le_of_ble_eq_true rfl, Nat.le_of_ble_eq_true rfl⟩) hK hN (hZ.kept hS) rfl hl.1 rfl (Nat.le_of_ble_eq_true rfl) dX7_act_26 ⟨Nat.le_of_ble_eq_true rfl, Nat.le_of_ble_eq_true rfl⟩ (fun r_7 hr_7 => ?_)
    rcases hr_7 with ⟨rfl, g_8⟩ | ⟨rfl, g_9, g_10⟩ | ⟨rfl, g_11, g_12⟩
    · refine lv_if_ne (tgt := 34) hx hb dX7_act_29 (by decide) (fun c_13 => ?_) (fun c_13 => ?_)
      · exact absurd c_13 (by decide)
      · refine lv_iconst (v := 0) hx hb dX7_act_32 (by decide) ?_
        exact W.iret (v := 0) hx hb hr (fun t ht hW => ⟨⟨0, (0, mk, mm, mq, fb), rfl, ⟨(show 0 ≤ (0 : Int32).toInt ∧ (0 : Int32).toInt ≤ 2000 from by decide), (show ((p_.toInt < 0 ∨ cn.toInt ≤ p_.toInt ∨ mo.toInt < 0 ∨ 2 < mo.toInt) ∧ (0 : Int32) = 0 ∧ (0 : Int32).toInt = 0) ∨ ((0 ≤ p_.toInt ∧ p_.toInt < cn.toInt) ∧ (0 ≤ mo.toInt ∧ mo.toInt ≤ 2) ∧ (0 : Int32) = zQa (kf p_.toNatClampNeg).toInt mo.toInt x p_ (af p_.toNatClampNeg) ∧ (0 : Int32).toInt = ((zBa (kf p_.toNatClampNeg).toInt mo.toInt).length : Nat) ∧ fb = zTr fb 0 (zBa (kf p_.toNatClampNeg).toInt mo.toInt)) from by (obtain ⟨-, y4, y5⟩ := hkku_6; exact Or.inl ⟨by omega, rfl, by decide⟩)), trivial⟩, zRet ht hP hD [0, 1, 2, 3, 4] (by decide) rfl⟩, hS.F ht⟩) hS.2.2 dX7_act_33
    · refine lv_if_ne (tgt := 34) hx hb dX7_act_29 (by decide) (fun c_14 => ?_) (fun c_14 => ?_)
      · exact absurd c_14 (by decide)
      · refine lv_iconst (v := 0) hx hb dX7_act_32 (by decide) ?_
        exact W.iret (v := 0) hx hb hr (fun t ht hW => ⟨⟨0, (0, mk, mm, mq, fb), rfl, ⟨(show 0 ≤ (0 : Int32).toInt ∧ (0 : Int32).toInt ≤ 2000 from by decide), (show ((p_.toInt < 0 ∨ cn.toInt ≤ p_.toInt ∨ mo.toInt < 0 ∨ 2 < mo.toInt) ∧ (0 : Int32) = 0 ∧ (0 : Int32).toInt = 0) ∨ ((0 ≤ p_.toInt ∧ p_.toInt < cn.toInt) ∧ (0 ≤ mo.toInt ∧ mo.toInt ≤ 2) ∧ (0 : Int32) = zQa (kf p_.toNatClampNeg).toInt mo.toInt x p_ (af p_.toNatClampNeg) ∧ (0 : Int32).toInt = ((zBa (kf p_.toNatClampNeg).toInt mo.toInt).length : Nat) ∧ fb = zTr fb 0 (zBa (kf p_.toNatClampNeg).toInt mo.toInt)) from by (obtain ⟨-, y4, y5⟩ := hkku_6; exact Or.inl ⟨by omega, rfl, by decide⟩)), trivial⟩, zRet ht hP hD [0, 1, 2, 3, 4] (by decide) rfl⟩, hS.F ht⟩) hS.2.2 dX7_act_33
    · refine lv_if_ne (tgt := 34) hx hb dX7_act_29 (by decide) (fun c_15 => ?_) (fun c_15 => ?_)
      · refine lv_aload_n hx hb dX7_act_34 rfl (lv_at hl 1 rfl) ?_
        refine va_get (D := D) (ci := 7) (v := .ref mv) (C := RX7) (T := TX7) (N := 9) hx hb hts hi_X7_act_7 hown hK hP 0 rfl rfl 5 (by decide) (hts (.fieldLink RX7 42 "TheLiningsInIt" "moves" "LTheLiningsInIt$Moves;") (List.mem_of_getElem? (i := 1) rfl)) (fun _ h9 => h9) rfl dX7_act_35 ?_
        refine lv_aload hx hb dX7_act_38 (lv_at hl 0 rfl) ?_
        refine lv_iload_n hx hb dX7_act_40 rfl (lv_at hl 2 rfl) ?_
        refine lv_iload_n hx hb dX7_act_41 rfl (lv_at hl 3 rfl) ?_
        refine lv_iload_n hx hb dX7_act_42 rfl (lv_at hl 4 rfl) ?_
        skip
        refine zw_V (As := [.ref u_6, .int p_, .int mo, .int x]) (rest := []) (wr := [(x0, .inr (7, [.ref xs, .ref j0, .ref k0, .ref w0, .ref rd, .ref mv, .ref xr, .int im, .int lf])), (j0, .inr (0, [.ref z0, .ref jp, .ref jc, .int cn, .int de, .int tr, .int se, .int hu, .int sd])), (jp, .inl (cP, 8, .inr (.inr (.inr (.inr fp)))))]) ⟨hx, hb, hml, hown, hts⟩ (c_F_M_begin l D cI cJ cZ cP cS po mv mb (0) (mk) (mm) (mq) fb (p_) (mo) (x) u_6 (kiu_6) (au_6) (tu_6) huu_6 ⟨by omega, by omega, by omega, by omega⟩ (by omega) (by omega) (by omega) (by omega) H.size) (cwV 4 hts gX7_act_X1_begin rfl rfl rfl ⟨rfl, dh_X1_begin⟩ ⟨Nat.le_of_ble_eq_true rfl, Nat.le_of_ble_eq_true rfl⟩) hK hN (hZ.kept hS) hP hD hS hA [3, 4] [0, 1, 2] rfl rfl (by decide) (by decide) (by decide) (va_recv (q := (RX1, TX1, 5)) hK hP (ci := 1) (q0 := 3) rfl rfl) rfl hl.1 rfl (Nat.le_of_ble_eq_true rfl) dX7_act_43 ⟨Nat.le_of_ble_eq_true rfl, Nat.le_of_ble_eq_true rfl⟩ (fun r_16 u_17 H locs hr_16 hP hD hS => ?_)
        obtain ⟨q_18, q_19, q_20, q_21, q_22⟩ := u_17
        try dsimp only at hr_16
        obtain ⟨hbq_18, hsr_16_0, hsr_16_1, hsr_16_2, hr_16⟩ := hr_16
        have h9R := zRe (ws' := [(x0, .inr (7, [.ref xs, .ref j0, .ref k0, .ref w0, .ref rd, .ref mv, .ref xr, .int im, .int lf])), (j0, .inr (0, [.ref z0, .ref jp, .ref jc, .int cn, .int de, .int tr, .int se, .int hu, .int sd])), (jp, .inl (cP, 8, .inr (.inr (.inr (.inr fp))))), (mv, .inr (1, [.ref mb, .int q_18, .int q_19, .int q_20, .int q_21])), (mb, .inl (cI, 20, .inl q_22))]) hP hD rfl
        clear hP hD
        obtain ⟨hP, hD⟩ := h9R
        exact W.iret (v := r_16) hx hb hr (fun t ht hW => ⟨⟨r_16, (q_18, q_19, q_20, q_21, q_22), rfl, ⟨(show 0 ≤ q_18.toInt ∧ q_18.toInt ≤ 2000 from hbq_18), (show ((p_.toInt < 0 ∨ cn.toInt ≤ p_.toInt ∨ mo.toInt < 0 ∨ 2 < mo.toInt) ∧ (r_16 : Int32) = 0 ∧ q_18.toInt = 0) ∨ ((0 ≤ p_.toInt ∧ p_.toInt < cn.toInt) ∧ (0 ≤ mo.toInt ∧ mo.toInt ≤ 2) ∧ (r_16 : Int32) = zQa (kf p_.toNatClampNeg).toInt mo.toInt x p_ (af p_.toNatClampNeg) ∧ q_18.toInt = ((zBa (kf p_.toNatClampNeg).toInt mo.toInt).length : Nat) ∧ q_22 = zTr fb 0 (zBa (kf p_.toNatClampNeg).toInt mo.toInt)) from by (obtain ⟨⟨y1, y2, y3⟩, y4, y5⟩ := hkku_6; refine Or.inr ⟨by omega, by omega, ?_, ?_, ?_⟩; (rw [← y1, ← y2]; exact hsr_16_0); (rw [← y1]; have z := hsr_16_2; rw [show (0 : Int32).toInt = 0 from by decide] at z; omega); (rw [← y1]; have z := hsr_16_1; rw [show (0 : Int32).toInt = 0 from by decide] at z; exact z))), trivial⟩, zRet ht hP hD [0, 1, 2, 3, 4] (by decide) rfl⟩, hS.F ht⟩) hS.2.2 dX7_act_46
      · exact absurd c_15 (by decide)
set_option maxHeartbeats 4000000 in
set_option maxRecDepth 100000 in
theorem c_F_M_bodyAt (l : Launch) (D : va_G) (cI cJ cZ cP cS : ClassId) (po : zPool) (mv mb : Nat) (mr mk mm mq : Int32) (fb : Nat → Int32) (i : Int32) (hy0 : 0 ≤ mr.toInt) (hy1 : mr.toInt ≤ 100000) : Met l yX1_bodyAt wsX1_bodyAt ({ frames := 1, cells := 0, slots := 0, locals := 22 }) (va_Pc [.ref mv, .int i] (zR D (zKT cI cJ cZ cP cS) po [(mv, .inr (1, [.ref mb, .int mr, .int mk, .int mm, .int mq])), (mb, .inl (cI, 20, .inl fb))])) (vp_Si (fun r => (((0 ≤ i.toInt ∧ i.toInt < 20 ∧ i.toInt < mr.toInt) ∧ r = fb i.toNatClampNeg) ∨ (¬ (0 ≤ i.toInt ∧ i.toInt < 20 ∧ i.toInt < mr.toInt) ∧ r = -1)))) 0 0 (fun _ => False) := by
  refine Met.ofW (cc := cX1_bodyAt) (maxL := 2) (ret := (some .int)) (by decide) rfl ?_
  intro p e s m args below meth c s₁ B hml hv
  obtain ⟨rfl, hP, hK, hN, hZ⟩ := hv
  have hx := B.exec
  have hb := B.bytes
  have hr := B.returns
  have hts := atoms_spec (ws := wsX1_bodyAt) B.pre
  have hown : s.vm.findClass RX1 = some m.cls := findClass_of_methodNamed B.named
  have hlocks := B.notSynchronized
  have hl := lv_entry ([.ref mv, .int i]) (n := 2) (Nat.le_of_ble_eq_true rfl)
  rw [lg_entry_eq]
  generalize (lg_sl ([.ref mv, .int i]) ++ List.replicate (2 - (lg_sl ([.ref mv, .int i])).length) Slot.unset).toArray = ls at hl ⊢
  replace hl : lv_has ls 2 [(0, .ref mv), (1, .int i)] := hl
  refine lv_iload_n hx hb dX1_bodyAt_0 rfl (lv_at hl 1 rfl) ?_
  refine lv_iconst (v := 0) hx hb dX1_bodyAt_1 (by decide) ?_
  refine lv_aload_n hx hb dX1_bodyAt_2 rfl (lv_at hl 0 rfl) ?_
  refine va_get (D := D) (ci := 1) (v := .int mr) (C := RX1) (T := TX1) (N := 5) hx hb hts hi_X1_bodyAt_1 hown hK hP 0 rfl rfl 1 (by decide) (hts (.fieldLink RX1 15 "TheLiningsInIt$Moves" "ran" "I") (List.mem_of_getElem? (i := 1) rfl)) (fun _ h9 => h9) rfl dX1_bodyAt_3 ?_
  refine lv_bipush (v := 20) hx hb dX1_bodyAt_6 (by decide) ?_
  refine va_mmin hx hb (hml.trans hl.1.symm) hown (hts (.methodLink RX1 38 Lib.Math.min.name) (List.mem_of_getElem? (i := 2) rfl)) (hts _ (List.mem_of_getElem? (i := 3) rfl)) (hts _ (List.mem_of_getElem? (i := 4) rfl)) (hts _ (List.mem_of_getElem? (i := 5) rfl)) (Nat.le_of_ble_eq_true rfl) (Nat.le_of_ble_eq_true rfl) (Nat.le_of_ble_eq_true rfl) (Nat.le_of_ble_eq_true rfl) dX1_bodyAt_8 ?_
  refine lv_topi (fun x_1 ex_1 => ?_)
  have qx_1 := zf_min ex_1 (x1 := mr.toInt) (y1 := 20) rfl (by decide)
  refine lv_iconst (v := 1) hx hb dX1_bodyAt_11 (by decide) ?_
  refine lv_isub hx hb dX1_bodyAt_12 ?_
  refine lv_topi (fun x_2 ex_2 => ?_)
  have qx_2 : x_2.toInt = x_1.toInt - 1 := by rw [ex_2]; exact zf_sub rfl (by decide) (by omega) (by omega)
  have kc0 : (0 : Int32).toInt = 0 := by decide
  refine zc_SN (As := [.int i, .int 0, .int x_2]) (rest := []) ⟨hx, hb, hml, hown, hts⟩ (c_within l D cI cJ cZ cP cS po (i) (0) (x_2) ) ⟨(va_cnB 3 hts gX1_bodyAt_X7_within_n44 rfl rfl rfl (hN.1 (RX1, 44, yX7_within) (List.mem_of_getElem? (i := 13) rfl)) (hts _ (List.mem_of_getElem? (i := 8) rfl)) dh_X7_within ⟨Nat.le_of_ble_eq_true rfl, Nat.le_of_ble_eq_true rfl⟩), (hts _ (List.mem_of_getElem? (i := 7) rfl)), trivial⟩ hK hN hZ rfl hl.1 rfl (Nat.le_of_ble_eq_true rfl) dX1_bodyAt_13 ⟨Nat.le_of_ble_eq_true rfl, Nat.le_of_ble_eq_true rfl⟩ (fun r_3 hr_3 => ?_)
  rcases hr_3 with ⟨rfl, g_4⟩ | ⟨rfl, g_5, g_6⟩ | ⟨rfl, g_7, g_8⟩
  · refine lv_if_eq (tgt := 28) hx hb dX1_bodyAt_16 (by decide) (fun c_9 => ?_) (fun c_9 => ?_)
    · refine lv_iconst (v := (-1)) hx hb dX1_bodyAt_28 (by decide) ?_
      exact W.iret (v := (-1)) hx hb hr (fun t ht hW => ⟨(-1), rfl, (show ((0 ≤ i.toInt ∧ i.toInt < 20 ∧ i.toInt < mr.toInt) ∧ ((-1) : Int32) = fb i.toNatClampNeg) ∨ (¬ (0 ≤ i.toInt ∧ i.toInt < 20 ∧ i.toInt < mr.toInt) ∧ ((-1) : Int32) = -1) from by (exact Or.inr ⟨by omega, rfl⟩)), ht⟩) (fun q hq => by cases hq) dX1_bodyAt_29
    · exact absurd c_9 (by decide)
  · refine lv_if_eq (tgt := 28) hx hb dX1_bodyAt_16 (by decide) (fun c_10 => ?_) (fun c_10 => ?_)
    · refine lv_iconst (v := (-1)) hx hb dX1_bodyAt_28 (by decide) ?_
      exact W.iret (v := (-1)) hx hb hr (fun t ht hW => ⟨(-1), rfl, (show ((0 ≤ i.toInt ∧ i.toInt < 20 ∧ i.toInt < mr.toInt) ∧ ((-1) : Int32) = fb i.toNatClampNeg) ∨ (¬ (0 ≤ i.toInt ∧ i.toInt < 20 ∧ i.toInt < mr.toInt) ∧ ((-1) : Int32) = -1) from by (exact Or.inr ⟨by omega, rfl⟩)), ht⟩) (fun q hq => by cases hq) dX1_bodyAt_29
    · exact absurd c_10 (by decide)
  · refine lv_if_eq (tgt := 28) hx hb dX1_bodyAt_16 (by decide) (fun c_11 => ?_) (fun c_11 => ?_)
    · exact absurd c_11 (by decide)
    · refine lv_aload_n hx hb dX1_bodyAt_19 rfl (lv_at hl 0 rfl) ?_
      refine va_get (D := D) (ci := 1) (v := .ref mb) (C := RX1) (T := TX1) (N := 5) hx hb hts hi_X1_bodyAt_1 hown hK hP 0 rfl rfl 0 (by decide) (hts (.fieldLink RX1 11 "TheLiningsInIt$Moves" "bodies" "[I") (List.mem_of_getElem? (i := 6) rfl)) (fun _ h9 => h9) rfl dX1_bodyAt_20 ?_
      refine lv_iload_n hx hb dX1_bodyAt_23 rfl (lv_at hl 1 rfl) ?_
      refine va_iald hx hb hK hP 1 0 rfl rfl (zf_in (by omega) (by omega)) dX1_bodyAt_24 ?_
      refine lv_topi (fun x_12 ex_12 => ?_)
      refine lv_goto (tgt := 29) hx hb dX1_bodyAt_25 (by decide) ?_
      exact W.iret (v := x_12) hx hb hr (fun t ht hW => ⟨x_12, rfl, (show ((0 ≤ i.toInt ∧ i.toInt < 20 ∧ i.toInt < mr.toInt) ∧ (x_12 : Int32) = fb i.toNatClampNeg) ∨ (¬ (0 ≤ i.toInt ∧ i.toInt < 20 ∧ i.toInt < mr.toInt) ∧ (x_12 : Int32) = -1) from by (exact Or.inl ⟨by omega, ex_12⟩)), ht⟩) (fun q hq => by cases hq) dX1_bodyAt_29
set_option maxHeartbeats 4000000 in
set_option maxRecDepth 100000 in
theorem c_F_X_trace (l : Launch) (D : va_G) (cI cJ cZ cP cS : ClassId) (po : zPool) (x0 xs j0 k0 w0 rd mv xr : Nat) (im lf : Int32) (fr : Nat → Int32) (mb : Nat) (mr mk mm mq : Int32) (fb : Nat → Int32) (i : Int32) (hy0 : 0 ≤ im.toInt) (hy1 : im.toInt ≤ 1) (hy2 : (-1) ≤ lf.toInt) (hy3 : lf.toInt ≤ 160) (hy4 : 0 ≤ mr.toInt) (hy5 : mr.toInt ≤ 2000) : Met l yX7_trace wsX7_trace ({ frames := 2, cells := 0, slots := 0, locals := 43 }) (va_Pc [.ref x0, .int i] (zR D (zKT cI cJ cZ cP cS) po [(x0, .inr (7, [.ref xs, .ref j0, .ref k0, .ref w0, .ref rd, .ref mv, .ref xr, .int im, .int lf])), (mv, .inr (1, [.ref mb, .int mr, .int mk, .int mm, .int mq])), (mb, .inl (cI, 20, .inl fb))])) (vp_Si (fun r => (((0 ≤ i.toInt ∧ i.toInt < 20 ∧ i.toInt < mr.toInt) ∧ r = fb i.toNatClampNeg) ∨ (¬ (0 ≤ i.toInt ∧ i.toInt < 20 ∧ i.toInt < mr.toInt) ∧ r = -1)))) 0 0 (fun _ => False) := by
  refine Met.ofW (cc := cX7_trace) (maxL := 2) (ret := (some .int)) (by decide) rfl ?_
  intro p e s m args below meth c s₁ B hml hv
  obtain ⟨rfl, hP, hK, hN, hZ⟩ := hv
  have hx := B.exec
  have hb := B.bytes
  have hr := B.returns
  have hts := atoms_spec (ws := wsX7_trace) B.pre
  have hown : s.vm.findClass RX7 = some m.cls := findClass_of_methodNamed B.named
  have hlocks := B.notSynchronized
  have hl := lv_entry ([.ref x0, .int i]) (n := 2) (Nat.le_of_ble_eq_true rfl)
  rw [lg_entry_eq]
  generalize (lg_sl ([.ref x0, .int i]) ++ List.replicate (2 - (lg_sl ([.ref x0, .int i])).length) Slot.unset).toArray = ls at hl ⊢
  replace hl : lv_has ls 2 [(0, .ref x0), (1, .int i)] := hl
  refine lv_aload_n hx hb dX7_trace_0 rfl (lv_at hl 0 rfl) ?_
  refine va_get (D := D) (ci := 7) (v := .ref mv) (C := RX7) (T := TX7) (N := 9) hx hb hts hi_X7_trace_7 hown hK hP 0 rfl rfl 5 (by decide) (hts (.fieldLink RX7 42 "TheLiningsInIt" "moves" "LTheLiningsInIt$Moves;") (List.mem_of_getElem? (i := 1) rfl)) (fun _ h9 => h9) rfl dX7_trace_1 ?_
  refine lv_iload_n hx hb dX7_trace_4 rfl (lv_at hl 1 rfl) ?_
  refine zc_V (As := [.int i]) (rest := []) ⟨hx, hb, hml, hown, hts⟩ (c_F_M_bodyAt l D cI cJ cZ cP cS po mv mb (mr) (mk) (mm) (mq) fb (i) hy4 (by omega)) (cwV 1 hts gX7_trace_X1_bodyAt rfl rfl rfl ⟨rfl, dh_X1_bodyAt⟩ ⟨Nat.le_of_ble_eq_true rfl, Nat.le_of_ble_eq_true rfl⟩) hK hN hZ hP (hP.sub [1, 2] rfl) (va_recv (q := (RX1, TX1, 5)) hK hP (ci := 1) (q0 := 1) rfl rfl) rfl hl.1 rfl (Nat.le_of_ble_eq_true rfl) dX7_trace_5 ⟨Nat.le_of_ble_eq_true rfl, Nat.le_of_ble_eq_true rfl⟩ (fun r_1 hr_1 => ?_)
  have hsr_1_0 := hr_1
  exact W.iret (v := r_1) hx hb hr (fun t ht hW => ⟨r_1, rfl, (show ((0 ≤ i.toInt ∧ i.toInt < 20 ∧ i.toInt < mr.toInt) ∧ (r_1 : Int32) = fb i.toNatClampNeg) ∨ (¬ (0 ≤ i.toInt ∧ i.toInt < 20 ∧ i.toInt < mr.toInt) ∧ (r_1 : Int32) = -1) from by exact hsr_1_0), ht⟩) (fun q hq => by cases hq) dX7_trace_8
end
section
set_option maxHeartbeats 4000000 in
set_option maxRecDepth 100000 in
theorem c_F_M_body (l : Launch) (D : va_G) (cI cJ cZ cP cS : ClassId) (po : zPool) (m0 mrf mki mpa mta mla msl mco mhe mso msi msh mce mca mwo mnu mte mwa mke mma mth mtr : Nat) (npu nte nat_ nde nto nse nhu nga nsd nfa nba npl nen nnu nwr nra nik : Int32) (gtr : Nat → Int32) (bo : Int32) (hy0 : 0 ≤ npu.toInt) (hy1 : npu.toInt ≤ 8) (hy2 : 4 ≤ nte.toInt) (hy3 : nte.toInt ≤ 40) (hy4 : 0 ≤ nat_.toInt) (hy5 : nat_.toInt ≤ 40) (hy6 : 0 ≤ nde.toInt) (hy7 : nde.toInt ≤ 24) (hy8 : 0 ≤ nhu.toInt) (hy9 : nhu.toInt ≤ 9) (hy10 : 0 ≤ nra.toInt) (hy11 : nra.toInt ≤ 2000) (hy12 : 0 ≤ nik.toInt) (hy13 : nik.toInt ≤ 1) (hy14 : 0 ≤ nra.toInt) (hy15 : nra.toInt ≤ 2000) (hpz : Nat) : Met l yX8_body wsX8_body ({ frames := 0, cells := 0, slots := 0, locals := 0 }) (va_Pc [.ref m0, .int bo] (zW D (zKT cI cJ cZ cP cS) po [(zMO m0 npu nte nat_ nde nto nse nhu nga nsd nfa mrf mki mpa mta mla msl mco mhe mso msi msh mce mca mwo mnu mte nba npl nen nnu nwr mwa mke mma mth mtr nra nik), (mtr, .inl (cI, 20, .inl gtr))] hpz)) (va_Qv (fun (u : (Int32) × (Nat → Int32)) => u.1.toInt = nra.toInt + 1 ∧ (u.2 = zTr gtr nra.toInt [bo]) ∧ (True)) (zB D [(zMO m0 npu nte nat_ nde nto nse nhu nga nsd nfa mrf mki mpa mta mla msl mco mhe mso msi msh mce mca mwo mnu mte nba npl nen nnu nwr mwa mke mma mth mtr nra nik), (mtr, .inl (cI, 20, .inl gtr))] hpz (fun (u : (Int32) × (Nat → Int32)) => [(zMO m0 npu nte nat_ nde nto nse nhu nga nsd nfa mrf mki mpa mta mla msl mco mhe mso msi msh mce mca mwo mnu mte nba npl nen nnu nwr mwa mke mma mth mtr u.1 nik), (mtr, .inl (cI, 20, .inl u.2))])) (va_A [(zMO m0 npu nte nat_ nde nto nse nhu nga nsd nfa mrf mki mpa mta mla msl mco mhe mso msi msh mce mca mwo mnu mte nba npl nen nnu nwr mwa mke mma mth mtr nra nik), (mtr, .inl (cI, 20, .inl gtr))] hpz)) 0 0 (va_A [(zMO m0 npu nte nat_ nde nto nse nhu nga nsd nfa mrf mki mpa mta mla msl mco mhe mso msi msh mce mca mwo mnu mte nba npl nen nnu nwr mwa mke mma mth mtr nra nik), (mtr, .inl (cI, 20, .inl gtr))] hpz) := by
  refine Met.ofW (cc := cX8_body) (maxL := 2) (ret := none) (by decide) rfl ?_
  intro p e s m args below meth c s₁ B hml hv
  obtain ⟨rfl, hsz, hP, hK, hD0, hN, hZ⟩ := hv
  have hx := B.exec
  have hb := B.bytes
  have hr := B.returns
  have hts := atoms_spec (ws := wsX8_body) B.pre
  have hown : s.vm.findClass RX8 = some m.cls := findClass_of_methodNamed B.named
  have hlocks := B.notSynchronized
  subst hsz
  have hD := hD0.self (sz := s.heap.size)
  have hA := zA_of hD
  have hl := lv_entry ([.ref m0, .int bo]) (n := 2) (Nat.le_of_ble_eq_true rfl)
  rw [lg_entry_eq]
  generalize (lg_sl ([.ref m0, .int bo]) ++ List.replicate (2 - (lg_sl ([.ref m0, .int bo])).length) Slot.unset).toArray = ls at hl ⊢
  replace hl : lv_has ls 2 [(0, .ref m0), (1, .int bo)] := hl
  refine zw_begin hP hD (fun H locs hP1 hS => ?_)
  clear hP
  have hP := hP1
  clear hP1
  refine lv_aload_n hx hb dX8_body_0 rfl (lv_at hl 0 rfl) ?_
  refine va_get (D := D) (ci := 8) (v := .int nra) (C := RX8) (T := TX8) (N := 38) hx hb hts hi_X8_body_8 hown hK hP 0 rfl rfl 36 (by decide) (hts (.fieldLink RX8 285 "TheLiningsInItModel" "ran" "I") (List.mem_of_getElem? (i := 1) rfl)) (fun _ h9 => h9) rfl dX8_body_1 ?_
  refine lv_bipush (v := 20) hx hb dX8_body_4 (by decide) ?_
  refine lv_icmp_ge (tgt := 19) hx hb dX8_body_6 (by decide) (fun c_1 => ?_) (fun c_1 => ?_)
  · have fc_1 : 20 ≤ nra.toInt := zf_le c_1 (by decide) rfl
    refine lv_aload_n hx hb dX8_body_19 rfl (lv_at hl 0 rfl) ?_
    refine lv_dup hx hb dX8_body_20 rfl ?_
    refine va_get (D := D) (ci := 8) (v := .int nra) (C := RX8) (T := TX8) (N := 38) hx hb hts hi_X8_body_8 hown hK hP 0 rfl rfl 36 (by decide) (hts (.fieldLink RX8 285 "TheLiningsInItModel" "ran" "I") (List.mem_of_getElem? (i := 1) rfl)) (fun _ h9 => h9) rfl dX8_body_21 ?_
    refine lv_iconst (v := 1) hx hb dX8_body_24 (by decide) ?_
    refine lv_iadd hx hb dX8_body_25 ?_
    refine lv_topi (fun x_2 ex_2 => ?_)
    have qx_2 : x_2.toInt = nra.toInt + 1 := by rw [ex_2]; exact zf_add rfl (by decide) (by omega) (by omega)
    refine va_put (D := D) (ci := 8) (v := .int x_2) (ty := .int) (C := RX8) (T := TX8) (N := 38) hx hb hts hi_X8_body_8 tyX8 tyX8_ok nmX8 hown hK hP hD hS 0 rfl rfl 36 (by decide) (hts (.fieldLink RX8 285 "TheLiningsInItModel" "ran" "I") (List.mem_of_getElem? (i := 1) rfl)) (fun _ h9 => h9) rfl (tyX8_ok 36 (Nat.le_of_ble_eq_true rfl)) rfl rfl (Nat.le_of_ble_eq_true rfl) dX8_body_26 (fun H locs hP hD hS => ?_)
    have h9R := zRe (ws' := [(zMO m0 npu nte nat_ nde nto nse nhu nga nsd nfa mrf mki mpa mta mla msl mco mhe mso msi msh mce mca mwo mnu mte nba npl nen nnu nwr mwa mke mma mth mtr x_2 nik), (mtr, .inl (cI, 20, .inl gtr))]) hP hD rfl
    clear hP hD
    obtain ⟨hP, hD⟩ := h9R
    exact W.vret hx hb hr (fun t ht hW => ⟨⟨(x_2, gtr), rfl, ⟨(show x_2.toInt = nra.toInt + 1 from by omega), (show gtr = zTr gtr nra.toInt [bo] from by (exact zTr_n (by omega))), trivial⟩, zRet ht hP hD [0, 1] (by decide) rfl⟩, hS.F ht⟩) hS.2.2 dX8_body_29
  · have fc_1 : nra.toInt < 20 := zf_nle c_1 (by decide) rfl
    refine lv_aload_n hx hb dX8_body_9 rfl (lv_at hl 0 rfl) ?_
    refine va_get (D := D) (ci := 8) (v := .ref mtr) (C := RX8) (T := TX8) (N := 38) hx hb hts hi_X8_body_8 hown hK hP 0 rfl rfl 35 (by decide) (hts (.fieldLink RX8 87 "TheLiningsInItModel" "trace" "[I") (List.mem_of_getElem? (i := 2) rfl)) (fun _ h9 => h9) rfl dX8_body_10 ?_
    refine lv_aload_n hx hb dX8_body_13 rfl (lv_at hl 0 rfl) ?_
    refine va_get (D := D) (ci := 8) (v := .int nra) (C := RX8) (T := TX8) (N := 38) hx hb hts hi_X8_body_8 hown hK hP 0 rfl rfl 36 (by decide) (hts (.fieldLink RX8 285 "TheLiningsInItModel" "ran" "I") (List.mem_of_getElem? (i := 1) rfl)) (fun _ h9 => h9) rfl dX8_body_14 ?_
    refine lv_iload_n hx hb dX8_body_17 rfl (lv_at hl 1 rfl) ?_
    refine va_iast hx hb hK hP hD hS 1 0 rfl rfl (zf_in (by omega) (by omega)) dX8_body_18 (fun H locs hP hD hS => ?_)
    obtain ⟨g_3, hg_3⟩ : ∃ g : Nat → Int32, g = upd gtr nra.toNatClampNeg bo := ⟨_, rfl⟩
    rw [← hg_3] at hP hD
    have h9R := zRe (ws' := [(zMO m0 npu nte nat_ nde nto nse nhu nga nsd nfa mrf mki mpa mta mla msl mco mhe mso msi msh mce mca mwo mnu mte nba npl nen nnu nwr mwa mke mma mth mtr nra nik), (mtr, .inl (cI, 20, .inl g_3))]) hP hD rfl
    clear hP hD
    obtain ⟨hP, hD⟩ := h9R
    refine lv_aload_n hx hb dX8_body_19 rfl (lv_at hl 0 rfl) ?_
    refine lv_dup hx hb dX8_body_20 rfl ?_
    refine va_get (D := D) (ci := 8) (v := .int nra) (C := RX8) (T := TX8) (N := 38) hx hb hts hi_X8_body_8 hown hK hP 0 rfl rfl 36 (by decide) (hts (.fieldLink RX8 285 "TheLiningsInItModel" "ran" "I") (List.mem_of_getElem? (i := 1) rfl)) (fun _ h9 => h9) rfl dX8_body_21 ?_
    refine lv_iconst (v := 1) hx hb dX8_body_24 (by decide) ?_
    refine lv_iadd hx hb dX8_body_25 ?_
    refine lv_topi (fun x_4 ex_4 => ?_)
    have qx_4 : x_4.toInt = nra.toInt + 1 := dw_incK ex_4 fc_1 (by decide)
    refine va_put (D := D) (ci := 8) (v := .int x_4) (ty := .int) (C := RX8) (T := TX8) (N := 38) hx hb hts hi_X8_body_8 tyX8 tyX8_ok nmX8 hown hK hP hD hS 0 rfl rfl 36 (by decide) (hts (.fieldLink RX8 285 "TheLiningsInItModel" "ran" "I") (List.mem_of_getElem? (i := 1) rfl)) (fun _ h9 => h9) rfl (tyX8_ok 36 (Nat.le_of_ble_eq_true rfl)) rfl rfl (Nat.le_of_ble_eq_true rfl) dX8_body_26 (fun H locs hP hD hS => ?_)
    have h9R := zRe (ws' := [(zMO m0 npu nte nat_ nde nto nse nhu nga nsd nfa mrf mki mpa mta mla msl mco mhe mso msi msh mce mca mwo mnu mte nba npl nen nnu nwr mwa mke mma mth mtr x_4 nik), (mtr, .inl (cI, 20, .inl g_3))]) hP hD rfl
    clear hP hD
    obtain ⟨hP, hD⟩ := h9R
    exact W.vret hx hb hr (fun t ht hW => ⟨⟨(x_4, g_3), rfl, ⟨(show x_4.toInt = nra.toInt + 1 from by omega), (show g_3 = zTr gtr nra.toInt [bo] from by (rw [hg_3]; exact zTr_y (by omega) (by omega))), trivial⟩, zRet ht hP hD [0, 1] (by decide) rfl⟩, hS.F ht⟩) hS.2.2 dX8_body_29
set_option maxHeartbeats 4000000 in
set_option maxRecDepth 100000 in
theorem c_F_M_pulling (l : Launch) (D : va_G) (cI cJ cZ cP cS : ClassId) (po : zPool) (m0 mrf mki mpa mta mla msl mco mhe mso msi msh mce mca mwo mnu mte mwa mke mma mth mtr : Nat) (npu nte nat_ nde nto nse nhu nga nsd nfa nba npl nen nnu nwr nra nik : Int32) (gki gpa gtr : Nat → Int32) (p_ x : Int32) (hy0 : 0 ≤ npu.toInt) (hy1 : npu.toInt ≤ 8) (hy2 : 4 ≤ nte.toInt) (hy3 : nte.toInt ≤ 40) (hy4 : 0 ≤ nat_.toInt) (hy5 : nat_.toInt ≤ 40) (hy6 : 0 ≤ nde.toInt) (hy7 : nde.toInt ≤ 24) (hy8 : 0 ≤ nhu.toInt) (hy9 : nhu.toInt ≤ 9) (hy10 : 0 ≤ nra.toInt) (hy11 : nra.toInt ≤ 2000) (hy12 : 0 ≤ nik.toInt) (hy13 : nik.toInt ≤ 1) (hy14 : 0 ≤ p_.toInt) (hy15 : p_.toInt ≤ 7) (hy16 : 0 ≤ nra.toInt) (hy17 : nra.toInt ≤ 1000) (hp_gki : zRg gki (0) 6) (hp_gpa : zRg gpa (0) 9) (hpz : Nat) : Met l yX8_pulling wsX8_pulling ({ frames := 1, cells := 0, slots := 0, locals := 21 }) (va_Pc [.ref m0, .int p_, .int x] (zW D (zKT cI cJ cZ cP cS) po [(zMO m0 npu nte nat_ nde nto nse nhu nga nsd nfa mrf mki mpa mta mla msl mco mhe mso msi msh mce mca mwo mnu mte nba npl nen nnu nwr mwa mke mma mth mtr nra nik), (mki, .inl (cI, 8, .inl gki)), (mpa, .inl (cI, 8, .inl gpa)), (mtr, .inl (cI, 20, .inl gtr))] hpz)) (va_Qi (fun (r : Int32) (u : (Int32) × (Nat → Int32)) => (0 ≤ u.1.toInt ∧ u.1.toInt ≤ 2000) ∧ (r = zQp (gki p_.toNatClampNeg).toInt x p_ (gpa p_.toNatClampNeg)) ∧ (u.2 = zTr gtr nra.toInt (zBp (gki p_.toNatClampNeg).toInt)) ∧ (u.1.toInt = nra.toInt + ((zBp (gki p_.toNatClampNeg).toInt).length : Nat)) ∧ (True)) (zB D [(zMO m0 npu nte nat_ nde nto nse nhu nga nsd nfa mrf mki mpa mta mla msl mco mhe mso msi msh mce mca mwo mnu mte nba npl nen nnu nwr mwa mke mma mth mtr nra nik), (mki, .inl (cI, 8, .inl gki)), (mpa, .inl (cI, 8, .inl gpa)), (mtr, .inl (cI, 20, .inl gtr))] hpz (fun (u : (Int32) × (Nat → Int32)) => [(zMO m0 npu nte nat_ nde nto nse nhu nga nsd nfa mrf mki mpa mta mla msl mco mhe mso msi msh mce mca mwo mnu mte nba npl nen nnu nwr mwa mke mma mth mtr u.1 nik), (mki, .inl (cI, 8, .inl gki)), (mpa, .inl (cI, 8, .inl gpa)), (mtr, .inl (cI, 20, .inl u.2))])) (va_A [(zMO m0 npu nte nat_ nde nto nse nhu nga nsd nfa mrf mki mpa mta mla msl mco mhe mso msi msh mce mca mwo mnu mte nba npl nen nnu nwr mwa mke mma mth mtr nra nik), (mki, .inl (cI, 8, .inl gki)), (mpa, .inl (cI, 8, .inl gpa)), (mtr, .inl (cI, 20, .inl gtr))] hpz)) 0 0 (va_A [(zMO m0 npu nte nat_ nde nto nse nhu nga nsd nfa mrf mki mpa mta mla msl mco mhe mso msi msh mce mca mwo mnu mte nba npl nen nnu nwr mwa mke mma mth mtr nra nik), (mki, .inl (cI, 8, .inl gki)), (mpa, .inl (cI, 8, .inl gpa)), (mtr, .inl (cI, 20, .inl gtr))] hpz) := by
  refine Met.ofW (cc := cX8_pulling) (maxL := 5) (ret := (some .int)) (by decide) rfl ?_
  intro p e s m args below meth c s₁ B hml hv
  obtain ⟨rfl, hsz, hP, hK, hD0, hN, hZ⟩ := hv
  have hx := B.exec
  have hb := B.bytes
  have hr := B.returns
  have hts := atoms_spec (ws := wsX8_pulling) B.pre
  have hown : s.vm.findClass RX8 = some m.cls := findClass_of_methodNamed B.named
  have hlocks := B.notSynchronized
  subst hsz
  have hD := hD0.self (sz := s.heap.size)
  have hA := zA_of hD
  have hl := lv_entry ([.ref m0, .int p_, .int x]) (n := 5) (Nat.le_of_ble_eq_true rfl)
  rw [lg_entry_eq]
  generalize (lg_sl ([.ref m0, .int p_, .int x]) ++ List.replicate (5 - (lg_sl ([.ref m0, .int p_, .int x])).length) Slot.unset).toArray = ls at hl ⊢
  replace hl : lv_has ls 5 [(0, .ref m0), (1, .int p_), (2, .int x)] := hl
  refine zw_begin hP hD (fun H locs hP1 hS => ?_)
  clear hP
  have hP := hP1
  clear hP1
  refine lv_aload_n hx hb dX8_pulling_0 rfl (lv_at hl 0 rfl) ?_
  refine va_get (D := D) (ci := 8) (v := .ref mki) (C := RX8) (T := TX8) (N := 38) hx hb hts hi_X8_pulling_8 hown hK hP 0 rfl rfl 11 (by decide) (hts (.fieldLink RX8 29 "TheLiningsInItModel" "kind" "[I") (List.mem_of_getElem? (i := 1) rfl)) (fun _ h9 => h9) rfl dX8_pulling_1 ?_
  refine lv_iload_n hx hb dX8_pulling_4 rfl (lv_at hl 1 rfl) ?_
  refine va_iald hx hb hK hP 1 0 rfl rfl (zf_in (by omega) (by omega)) dX8_pulling_5 ?_
  refine lv_topi (fun x_1 ex_1 => ?_)
  have bx_1 : 0 ≤ x_1.toInt ∧ x_1.toInt ≤ 6 := by rw [ex_1]; exact hp_gki _
  refine lv_istore_n (lv' := [(3, .int x_1), (0, .ref m0), (1, .int p_), (2, .int x)]) hx hb dX8_pulling_6 rfl hl (by decide) rfl (fun ls hl => ?_)
  have hsp : x_1 = 0 ∨ x_1 = 1 ∨ x_1 = 2 ∨ x_1 = 3 ∨ x_1 = 4 ∨ x_1 = 5 ∨ x_1 = 6 := by
    rcases (show x_1.toInt = 0 ∨ x_1.toInt = 1 ∨ x_1.toInt = 2 ∨ x_1.toInt = 3 ∨ x_1.toInt = 4 ∨ x_1.toInt = 5 ∨ x_1.toInt = 6 by omega) with h9 | h9 | h9 | h9 | h9 | h9 | h9
    · refine Or.inl ?_; exact zf_val h9 (by decide)
    · refine Or.inr (Or.inl ?_); exact zf_val h9 (by decide)
    · refine Or.inr (Or.inr (Or.inl ?_)); exact zf_val h9 (by decide)
    · refine Or.inr (Or.inr (Or.inr (Or.inl ?_))); exact zf_val h9 (by decide)
    · refine Or.inr (Or.inr (Or.inr (Or.inr (Or.inl ?_)))); exact zf_val h9 (by decide)
    · refine Or.inr (Or.inr (Or.inr (Or.inr (Or.inr (Or.inl ?_))))); exact zf_val h9 (by decide)
    · refine Or.inr (Or.inr (Or.inr (Or.inr (Or.inr (Or.inr (?_)))))); exact zf_val h9 (by decide)
  rcases hsp with rfl | rfl | rfl | rfl | rfl | rfl | rfl
  · have kc0 : (0 : Int32).toInt = 0 := by decide
    refine lv_iload_n hx hb dX8_pulling_7 rfl (lv_at hl 0 rfl) ?_
    refine lv_bipush (v := 6) hx hb dX8_pulling_8 (by decide) ?_
    refine lv_icmp_ne (tgt := 19) hx hb dX8_pulling_10 (by decide) (fun c_2 => ?_) (fun c_2 => ?_)
    · refine lv_iload_n hx hb dX8_pulling_19 rfl (lv_at hl 0 rfl) ?_
      refine lv_iconst (v := 4) hx hb dX8_pulling_20 (by decide) ?_
      refine lv_icmp_eq (tgt := 30) hx hb dX8_pulling_21 (by decide) (fun c_3 => ?_) (fun c_3 => ?_)
      · exact absurd c_3 (by decide)
      · refine lv_iload_n hx hb dX8_pulling_24 rfl (lv_at hl 0 rfl) ?_
        refine lv_bipush (v := 6) hx hb dX8_pulling_25 (by decide) ?_
        refine lv_icmp_ne (tgt := 36) hx hb dX8_pulling_27 (by decide) (fun c_4 => ?_) (fun c_4 => ?_)
        · refine lv_iload_n hx hb dX8_pulling_36 rfl (lv_at hl 0 rfl) ?_
          refine lv_iconst (v := 1) hx hb dX8_pulling_37 (by decide) ?_
          refine lv_icmp_eq (tgt := 46) hx hb dX8_pulling_38 (by decide) (fun c_5 => ?_) (fun c_5 => ?_)
          · exact absurd c_5 (by decide)
          · refine lv_iload_n hx hb dX8_pulling_41 rfl (lv_at hl 0 rfl) ?_
            refine lv_iconst (v := 3) hx hb dX8_pulling_42 (by decide) ?_
            refine lv_icmp_ne (tgt := 52) hx hb dX8_pulling_43 (by decide) (fun c_6 => ?_) (fun c_6 => ?_)
            · refine lv_aload_n hx hb dX8_pulling_52 rfl (lv_at hl 1 rfl) ?_
              refine lv_bipush (v := 10) hx hb dX8_pulling_53 (by decide) ?_
              skip
              refine zw_Vv (As := [.int 10]) (rest := []) (wr := [(mki, .inl (cI, 8, .inl gki)), (mpa, .inl (cI, 8, .inl gpa))]) ⟨hx, hb, hml, hown, hts⟩ (c_F_M_body l D cI cJ cZ cP cS po m0 mrf mki mpa mta mla msl mco mhe mso msi msh mce mca mwo mnu mte mwa mke mma mth mtr (npu) (nte) (nat_) (nde) (nto) (nse) (nhu) (nga) (nsd) (nfa) (nba) (npl) (nen) (nnu) (nwr) (nra) (nik) gtr (10) hy0 hy1 hy2 hy3 hy4 hy5 hy6 hy7 hy8 hy9 hy10 hy11 hy12 hy13 hy10 hy11 H.size) (cwV 1 hts gX8_pulling_X8_body rfl rfl rfl ⟨rfl, dh_X8_body⟩ ⟨Nat.le_of_ble_eq_true rfl, Nat.le_of_ble_eq_true rfl⟩) hK hN (hZ.kept hS) hP hD hS hA [0, 3] [1, 2] rfl rfl (by decide) (by decide) (by decide) (va_recv (q := (RX8, TX8, 38)) hK hP (ci := 8) (q0 := 0) rfl rfl) rfl hl.1 rfl (Nat.le_of_ble_eq_true rfl) dX8_pulling_55 ⟨Nat.le_of_ble_eq_true rfl, Nat.le_of_ble_eq_true rfl⟩ (fun u_8 H locs hr_7 hP hD hS => ?_)
              obtain ⟨q_9, q_10⟩ := u_8
              try dsimp only at hr_7
              obtain ⟨hbq_9, hsr_7_0, hr_7⟩ := hr_7
              have h9R := zRe (ws' := [(mki, .inl (cI, 8, .inl gki)), (mpa, .inl (cI, 8, .inl gpa)), (zMO m0 npu nte nat_ nde nto nse nhu nga nsd nfa mrf mki mpa mta mla msl mco mhe mso msi msh mce mca mwo mnu mte nba npl nen nnu nwr mwa mke mma mth mtr q_9 nik), (mtr, .inl (cI, 20, .inl q_10))]) hP hD rfl
              clear hP hD
              obtain ⟨hP, hD⟩ := h9R
              refine lv_iload_n hx hb dX8_pulling_58 rfl (lv_at hl 3 rfl) ?_
              refine lv_iload_n hx hb dX8_pulling_59 rfl (lv_at hl 2 rfl) ?_
              refine lv_iadd hx hb dX8_pulling_60 ?_
              refine lv_topi (fun x_11 ex_11 => ?_)
              refine lv_istore (lv' := [(4, .int x_11), (3, .int 0), (0, .ref m0), (1, .int p_), (2, .int x)]) hx hb dX8_pulling_61 hl (by decide) rfl (fun ls hl => ?_)
              refine lv_iload_n hx hb dX8_pulling_63 rfl (lv_at hl 1 rfl) ?_
              refine lv_iconst (v := 1) hx hb dX8_pulling_64 (by decide) ?_
              refine lv_icmp_eq (tgt := 73) hx hb dX8_pulling_65 (by decide) (fun c_12 => ?_) (fun c_12 => ?_)
              · exact absurd c_12 (by decide)
              · refine lv_iload_n hx hb dX8_pulling_68 rfl (lv_at hl 1 rfl) ?_
                refine lv_iconst (v := 3) hx hb dX8_pulling_69 (by decide) ?_
                refine lv_icmp_ne (tgt := 84) hx hb dX8_pulling_70 (by decide) (fun c_13 => ?_) (fun c_13 => ?_)
                · refine lv_iload_n hx hb dX8_pulling_84 rfl (lv_at hl 1 rfl) ?_
                  refine lv_iconst (v := 4) hx hb dX8_pulling_85 (by decide) ?_
                  refine lv_icmp_eq (tgt := 95) hx hb dX8_pulling_86 (by decide) (fun c_14 => ?_) (fun c_14 => ?_)
                  · exact absurd c_14 (by decide)
                  · refine lv_iload_n hx hb dX8_pulling_89 rfl (lv_at hl 1 rfl) ?_
                    refine lv_bipush (v := 6) hx hb dX8_pulling_90 (by decide) ?_
                    refine lv_icmp_ne (tgt := 101) hx hb dX8_pulling_92 (by decide) (fun c_15 => ?_) (fun c_15 => ?_)
                    · refine lv_iload_n hx hb dX8_pulling_101 rfl (lv_at hl 1 rfl) ?_
                      refine lv_bipush (v := 6) hx hb dX8_pulling_102 (by decide) ?_
                      refine lv_icmp_ne (tgt := 114) hx hb dX8_pulling_104 (by decide) (fun c_16 => ?_) (fun c_16 => ?_)
                      · refine lv_iload hx hb dX8_pulling_114 (lv_at hl 0 rfl) ?_
                        exact W.iret (v := x_11) hx hb hr (fun t ht hW => ⟨⟨x_11, (q_9, q_10), rfl, ⟨(show 0 ≤ q_9.toInt ∧ q_9.toInt ≤ 2000 from ⟨by omega, by omega⟩), (show (x_11 : Int32) = zQp (gki p_.toNatClampNeg).toInt x p_ (gpa p_.toNatClampNeg) from by (have hk : (gki p_.toNatClampNeg).toInt = 0 := (by rw [← ex_1]; first | done | decide); rw [hk]; unfold zQp; (repeat (first | rw [if_pos (by decide)] | rw [if_neg (by decide)])); (try rw [ex_11]); (try rw [ex_11]); first | done | rfl)), (show q_10 = zTr gtr nra.toInt (zBp (gki p_.toNatClampNeg).toInt) from by (have hk : (gki p_.toNatClampNeg).toInt = 0 := (by rw [← ex_1]; first | done | decide); have zbp0 : ((zBp 0).length : Int) = 1 := rfl; have zbf1 : ((zBf 0).length : Int) = 2 := rfl; have zbr2 : ((zBr 0).length : Int) = 4 := rfl; rw [hsr_7_0]; (try rw [hk]); first | done | rfl)), (show q_9.toInt = nra.toInt + ((zBp (gki p_.toNatClampNeg).toInt).length : Nat) from by (have hk : (gki p_.toNatClampNeg).toInt = 0 := (by rw [← ex_1]; first | done | decide); have zp : ((zBp 0).length : Int) = 1 := rfl; have zf : ((zBf 0).length : Int) = 2 := rfl; have zr : ((zBr 0).length : Int) = 4 := rfl; rw [hk]; omega)), trivial⟩, zRet ht hP hD [2, 0, 1, 3] (by decide) rfl⟩, hS.F ht⟩) hS.2.2 dX8_pulling_116
                      · exact absurd c_16 (by decide)
                    · exact absurd c_15 (by decide)
                · exact absurd c_13 (by decide)
            · exact absurd c_6 (by decide)
        · exact absurd c_4 (by decide)
    · exact absurd c_2 (by decide)
  · have kc1 : (1 : Int32).toInt = 1 := by decide
    refine lv_iload_n hx hb dX8_pulling_7 rfl (lv_at hl 0 rfl) ?_
    refine lv_bipush (v := 6) hx hb dX8_pulling_8 (by decide) ?_
    refine lv_icmp_ne (tgt := 19) hx hb dX8_pulling_10 (by decide) (fun c_17 => ?_) (fun c_17 => ?_)
    · refine lv_iload_n hx hb dX8_pulling_19 rfl (lv_at hl 0 rfl) ?_
      refine lv_iconst (v := 4) hx hb dX8_pulling_20 (by decide) ?_
      refine lv_icmp_eq (tgt := 30) hx hb dX8_pulling_21 (by decide) (fun c_18 => ?_) (fun c_18 => ?_)
      · exact absurd c_18 (by decide)
      · refine lv_iload_n hx hb dX8_pulling_24 rfl (lv_at hl 0 rfl) ?_
        refine lv_bipush (v := 6) hx hb dX8_pulling_25 (by decide) ?_
        refine lv_icmp_ne (tgt := 36) hx hb dX8_pulling_27 (by decide) (fun c_19 => ?_) (fun c_19 => ?_)
        · refine lv_iload_n hx hb dX8_pulling_36 rfl (lv_at hl 0 rfl) ?_
          refine lv_iconst (v := 1) hx hb dX8_pulling_37 (by decide) ?_
          refine lv_icmp_eq (tgt := 46) hx hb dX8_pulling_38 (by decide) (fun c_20 => ?_) (fun c_20 => ?_)
          · refine lv_aload_n hx hb dX8_pulling_46 rfl (lv_at hl 1 rfl) ?_
            refine lv_bipush (v := 20) hx hb dX8_pulling_47 (by decide) ?_
            skip
            refine zw_Vv (As := [.int 20]) (rest := []) (wr := [(mki, .inl (cI, 8, .inl gki)), (mpa, .inl (cI, 8, .inl gpa))]) ⟨hx, hb, hml, hown, hts⟩ (c_F_M_body l D cI cJ cZ cP cS po m0 mrf mki mpa mta mla msl mco mhe mso msi msh mce mca mwo mnu mte mwa mke mma mth mtr (npu) (nte) (nat_) (nde) (nto) (nse) (nhu) (nga) (nsd) (nfa) (nba) (npl) (nen) (nnu) (nwr) (nra) (nik) gtr (20) hy0 hy1 hy2 hy3 hy4 hy5 hy6 hy7 hy8 hy9 hy10 hy11 hy12 hy13 hy10 hy11 H.size) (cwV 1 hts gX8_pulling_X8_body rfl rfl rfl ⟨rfl, dh_X8_body⟩ ⟨Nat.le_of_ble_eq_true rfl, Nat.le_of_ble_eq_true rfl⟩) hK hN (hZ.kept hS) hP hD hS hA [0, 3] [1, 2] rfl rfl (by decide) (by decide) (by decide) (va_recv (q := (RX8, TX8, 38)) hK hP (ci := 8) (q0 := 0) rfl rfl) rfl hl.1 rfl (Nat.le_of_ble_eq_true rfl) dX8_pulling_49 ⟨Nat.le_of_ble_eq_true rfl, Nat.le_of_ble_eq_true rfl⟩ (fun u_22 H locs hr_21 hP hD hS => ?_)
            obtain ⟨q_23, q_24⟩ := u_22
            try dsimp only at hr_21
            obtain ⟨hbq_23, hsr_21_0, hr_21⟩ := hr_21
            have h9R := zRe (ws' := [(mki, .inl (cI, 8, .inl gki)), (mpa, .inl (cI, 8, .inl gpa)), (zMO m0 npu nte nat_ nde nto nse nhu nga nsd nfa mrf mki mpa mta mla msl mco mhe mso msi msh mce mca mwo mnu mte nba npl nen nnu nwr mwa mke mma mth mtr q_23 nik), (mtr, .inl (cI, 20, .inl q_24))]) hP hD rfl
            clear hP hD
            obtain ⟨hP, hD⟩ := h9R
            refine lv_aload_n hx hb dX8_pulling_52 rfl (lv_at hl 1 rfl) ?_
            refine lv_bipush (v := 10) hx hb dX8_pulling_53 (by decide) ?_
            skip
            refine zw_Vv (As := [.int 10]) (rest := []) (wr := [(mki, .inl (cI, 8, .inl gki)), (mpa, .inl (cI, 8, .inl gpa))]) ⟨hx, hb, hml, hown, hts⟩ (c_F_M_body l D cI cJ cZ cP cS po m0 mrf mki mpa mta mla msl mco mhe mso msi msh mce mca mwo mnu mte mwa mke mma mth mtr (npu) (nte) (nat_) (nde) (nto) (nse) (nhu) (nga) (nsd) (nfa) (nba) (npl) (nen) (nnu) (nwr) (q_23) (nik) q_24 (10) hy0 hy1 hy2 hy3 hy4 hy5 hy6 hy7 hy8 hy9 (by omega) (by omega) hy12 hy13 (by omega) (by omega) H.size) (cwV 1 hts gX8_pulling_X8_body rfl rfl rfl ⟨rfl, dh_X8_body⟩ ⟨Nat.le_of_ble_eq_true rfl, Nat.le_of_ble_eq_true rfl⟩) hK hN (hZ.kept hS) hP hD hS hA [2, 3] [0, 1] rfl rfl (by decide) (by decide) (by decide) (va_recv (q := (RX8, TX8, 38)) hK hP (ci := 8) (q0 := 2) rfl rfl) rfl hl.1 rfl (Nat.le_of_ble_eq_true rfl) dX8_pulling_55 ⟨Nat.le_of_ble_eq_true rfl, Nat.le_of_ble_eq_true rfl⟩ (fun u_26 H locs hr_25 hP hD hS => ?_)
            obtain ⟨q_27, q_28⟩ := u_26
            try dsimp only at hr_25
            obtain ⟨hbq_27, hsr_25_0, hr_25⟩ := hr_25
            have h9R := zRe (ws' := [(mki, .inl (cI, 8, .inl gki)), (mpa, .inl (cI, 8, .inl gpa)), (zMO m0 npu nte nat_ nde nto nse nhu nga nsd nfa mrf mki mpa mta mla msl mco mhe mso msi msh mce mca mwo mnu mte nba npl nen nnu nwr mwa mke mma mth mtr q_27 nik), (mtr, .inl (cI, 20, .inl q_28))]) hP hD rfl
            clear hP hD
            obtain ⟨hP, hD⟩ := h9R
            refine lv_iload_n hx hb dX8_pulling_58 rfl (lv_at hl 3 rfl) ?_
            refine lv_iload_n hx hb dX8_pulling_59 rfl (lv_at hl 2 rfl) ?_
            refine lv_iadd hx hb dX8_pulling_60 ?_
            refine lv_topi (fun x_29 ex_29 => ?_)
            refine lv_istore (lv' := [(4, .int x_29), (3, .int 1), (0, .ref m0), (1, .int p_), (2, .int x)]) hx hb dX8_pulling_61 hl (by decide) rfl (fun ls hl => ?_)
            refine lv_iload_n hx hb dX8_pulling_63 rfl (lv_at hl 1 rfl) ?_
            refine lv_iconst (v := 1) hx hb dX8_pulling_64 (by decide) ?_
            refine lv_icmp_eq (tgt := 73) hx hb dX8_pulling_65 (by decide) (fun c_30 => ?_) (fun c_30 => ?_)
            · refine lv_iload hx hb dX8_pulling_73 (lv_at hl 0 rfl) ?_
              refine lv_aload_n hx hb dX8_pulling_75 rfl (lv_at hl 2 rfl) ?_
              refine va_get (D := D) (ci := 8) (v := .ref mpa) (C := RX8) (T := TX8) (N := 38) hx hb hts hi_X8_pulling_8 hown hK hP 2 rfl rfl 12 (by decide) (hts (.fieldLink RX8 32 "TheLiningsInItModel" "part" "[I") (List.mem_of_getElem? (i := 2) rfl)) (fun _ h9 => h9) rfl dX8_pulling_76 ?_
              refine lv_iload_n hx hb dX8_pulling_79 rfl (lv_at hl 3 rfl) ?_
              refine va_iald hx hb hK hP 1 0 rfl rfl (zf_in (by omega) (by omega)) dX8_pulling_80 ?_
              refine lv_topi (fun x_31 ex_31 => ?_)
              have bx_31 : 0 ≤ x_31.toInt ∧ x_31.toInt ≤ 9 := by rw [ex_31]; exact hp_gpa _
              refine lv_iadd hx hb dX8_pulling_81 ?_
              refine lv_topi (fun x_32 ex_32 => ?_)
              refine lv_istore (lv' := [(4, .int x_32), (3, .int 1), (0, .ref m0), (1, .int p_), (2, .int x)]) hx hb dX8_pulling_82 hl (by decide) rfl (fun ls hl => ?_)
              refine lv_iload_n hx hb dX8_pulling_84 rfl (lv_at hl 1 rfl) ?_
              refine lv_iconst (v := 4) hx hb dX8_pulling_85 (by decide) ?_
              refine lv_icmp_eq (tgt := 95) hx hb dX8_pulling_86 (by decide) (fun c_33 => ?_) (fun c_33 => ?_)
              · exact absurd c_33 (by decide)
              · refine lv_iload_n hx hb dX8_pulling_89 rfl (lv_at hl 1 rfl) ?_
                refine lv_bipush (v := 6) hx hb dX8_pulling_90 (by decide) ?_
                refine lv_icmp_ne (tgt := 101) hx hb dX8_pulling_92 (by decide) (fun c_34 => ?_) (fun c_34 => ?_)
                · refine lv_iload_n hx hb dX8_pulling_101 rfl (lv_at hl 1 rfl) ?_
                  refine lv_bipush (v := 6) hx hb dX8_pulling_102 (by decide) ?_
                  refine lv_icmp_ne (tgt := 114) hx hb dX8_pulling_104 (by decide) (fun c_35 => ?_) (fun c_35 => ?_)
                  · refine lv_iload hx hb dX8_pulling_114 (lv_at hl 0 rfl) ?_
                    exact W.iret (v := x_32) hx hb hr (fun t ht hW => ⟨⟨x_32, (q_27, q_28), rfl, ⟨(show 0 ≤ q_27.toInt ∧ q_27.toInt ≤ 2000 from ⟨by omega, by omega⟩), (show (x_32 : Int32) = zQp (gki p_.toNatClampNeg).toInt x p_ (gpa p_.toNatClampNeg) from by (have hk : (gki p_.toNatClampNeg).toInt = 1 := (by rw [← ex_1]; first | done | decide); rw [hk]; unfold zQp; (repeat (first | rw [if_pos (by decide)] | rw [if_neg (by decide)])); (try rw [ex_32]); (try rw [ex_31]); (try rw [ex_29]); (try rw [ex_32]); (try rw [ex_31]); (try rw [ex_29]); (try rw [ex_31]); first | done | rfl)), (show q_28 = zTr gtr nra.toInt (zBp (gki p_.toNatClampNeg).toInt) from by (have hk : (gki p_.toNatClampNeg).toInt = 1 := (by rw [← ex_1]; first | done | decide); have zbp0 : ((zBp 1).length : Int) = 2 := rfl; have zbf1 : ((zBf 1).length : Int) = 3 := rfl; have zbr2 : ((zBr 1).length : Int) = 6 := rfl; rw [hsr_25_0]; rw [hsr_21_0]; rw [zTr_app (by first | omega | (simp; omega) | (show _ = _ + 1; omega))]; (try rw [hk]); first | done | rfl)), (show q_27.toInt = nra.toInt + ((zBp (gki p_.toNatClampNeg).toInt).length : Nat) from by (have hk : (gki p_.toNatClampNeg).toInt = 1 := (by rw [← ex_1]; first | done | decide); have zp : ((zBp 1).length : Int) = 2 := rfl; have zf : ((zBf 1).length : Int) = 3 := rfl; have zr : ((zBr 1).length : Int) = 6 := rfl; rw [hk]; omega)), trivial⟩, zRet ht hP hD [2, 0, 1, 3] (by decide) rfl⟩, hS.F ht⟩) hS.2.2 dX8_pulling_116
                  · exact absurd c_35 (by decide)
                · exact absurd c_34 (by decide)
            · exact absurd c_30 (by decide)
          · exact absurd c_20 (by decide)
        · exact absurd c_19 (by decide)
    · exact absurd c_17 (by decide)
  · have kc2 : (2 : Int32).toInt = 2 := by decide
    refine lv_iload_n hx hb dX8_pulling_7 rfl (lv_at hl 0 rfl) ?_
    refine lv_bipush (v := 6) hx hb dX8_pulling_8 (by decide) ?_
    refine lv_icmp_ne (tgt := 19) hx hb dX8_pulling_10 (by decide) (fun c_36 => ?_) (fun c_36 => ?_)
    · refine lv_iload_n hx hb dX8_pulling_19 rfl (lv_at hl 0 rfl) ?_
      refine lv_iconst (v := 4) hx hb dX8_pulling_20 (by decide) ?_
      refine lv_icmp_eq (tgt := 30) hx hb dX8_pulling_21 (by decide) (fun c_37 => ?_) (fun c_37 => ?_)
      · exact absurd c_37 (by decide)
      · refine lv_iload_n hx hb dX8_pulling_24 rfl (lv_at hl 0 rfl) ?_
        refine lv_bipush (v := 6) hx hb dX8_pulling_25 (by decide) ?_
        refine lv_icmp_ne (tgt := 36) hx hb dX8_pulling_27 (by decide) (fun c_38 => ?_) (fun c_38 => ?_)
        · refine lv_iload_n hx hb dX8_pulling_36 rfl (lv_at hl 0 rfl) ?_
          refine lv_iconst (v := 1) hx hb dX8_pulling_37 (by decide) ?_
          refine lv_icmp_eq (tgt := 46) hx hb dX8_pulling_38 (by decide) (fun c_39 => ?_) (fun c_39 => ?_)
          · exact absurd c_39 (by decide)
          · refine lv_iload_n hx hb dX8_pulling_41 rfl (lv_at hl 0 rfl) ?_
            refine lv_iconst (v := 3) hx hb dX8_pulling_42 (by decide) ?_
            refine lv_icmp_ne (tgt := 52) hx hb dX8_pulling_43 (by decide) (fun c_40 => ?_) (fun c_40 => ?_)
            · refine lv_aload_n hx hb dX8_pulling_52 rfl (lv_at hl 1 rfl) ?_
              refine lv_bipush (v := 10) hx hb dX8_pulling_53 (by decide) ?_
              skip
              refine zw_Vv (As := [.int 10]) (rest := []) (wr := [(mki, .inl (cI, 8, .inl gki)), (mpa, .inl (cI, 8, .inl gpa))]) ⟨hx, hb, hml, hown, hts⟩ (c_F_M_body l D cI cJ cZ cP cS po m0 mrf mki mpa mta mla msl mco mhe mso msi msh mce mca mwo mnu mte mwa mke mma mth mtr (npu) (nte) (nat_) (nde) (nto) (nse) (nhu) (nga) (nsd) (nfa) (nba) (npl) (nen) (nnu) (nwr) (nra) (nik) gtr (10) hy0 hy1 hy2 hy3 hy4 hy5 hy6 hy7 hy8 hy9 hy10 hy11 hy12 hy13 hy10 hy11 H.size) (cwV 1 hts gX8_pulling_X8_body rfl rfl rfl ⟨rfl, dh_X8_body⟩ ⟨Nat.le_of_ble_eq_true rfl, Nat.le_of_ble_eq_true rfl⟩) hK hN (hZ.kept hS) hP hD hS hA [0, 3] [1, 2] rfl rfl (by decide) (by decide) (by decide) (va_recv (q := (RX8, TX8, 38)) hK hP (ci := 8) (q0 := 0) rfl rfl) rfl hl.1 rfl (Nat.le_of_ble_eq_true rfl) dX8_pulling_55 ⟨Nat.le_of_ble_eq_true rfl, Nat.le_of_ble_eq_true rfl⟩ (fun u_42 H locs hr_41 hP hD hS => ?_)
              obtain ⟨q_43, q_44⟩ := u_42
              try dsimp only at hr_41
              obtain ⟨hbq_43, hsr_41_0, hr_41⟩ := hr_41
              have h9R := zRe (ws' := [(mki, .inl (cI, 8, .inl gki)), (mpa, .inl (cI, 8, .inl gpa)), (zMO m0 npu nte nat_ nde nto nse nhu nga nsd nfa mrf mki mpa mta mla msl mco mhe mso msi msh mce mca mwo mnu mte nba npl nen nnu nwr mwa mke mma mth mtr q_43 nik), (mtr, .inl (cI, 20, .inl q_44))]) hP hD rfl
              clear hP hD
              obtain ⟨hP, hD⟩ := h9R
              refine lv_iload_n hx hb dX8_pulling_58 rfl (lv_at hl 3 rfl) ?_
              refine lv_iload_n hx hb dX8_pulling_59 rfl (lv_at hl 2 rfl) ?_
              refine lv_iadd hx hb dX8_pulling_60 ?_
              refine lv_topi (fun x_45 ex_45 => ?_)
              refine lv_istore (lv' := [(4, .int x_45), (3, .int 2), (0, .ref m0), (1, .int p_), (2, .int x)]) hx hb dX8_pulling_61 hl (by decide) rfl (fun ls hl => ?_)
              refine lv_iload_n hx hb dX8_pulling_63 rfl (lv_at hl 1 rfl) ?_
              refine lv_iconst (v := 1) hx hb dX8_pulling_64 (by decide) ?_
              refine lv_icmp_eq (tgt := 73) hx hb dX8_pulling_65 (by decide) (fun c_46 => ?_) (fun c_46 => ?_)
              · exact absurd c_46 (by decide)
              · refine lv_iload_n hx hb dX8_pulling_68 rfl (lv_at hl 1 rfl) ?_
                refine lv_iconst (v := 3) hx hb dX8_pulling_69 (by decide) ?_
                refine lv_icmp_ne (tgt := 84) hx hb dX8_pulling_70 (by decide) (fun c_47 => ?_) (fun c_47 => ?_)
                · refine lv_iload_n hx hb dX8_pulling_84 rfl (lv_at hl 1 rfl) ?_
                  refine lv_iconst (v := 4) hx hb dX8_pulling_85 (by decide) ?_
                  refine lv_icmp_eq (tgt := 95) hx hb dX8_pulling_86 (by decide) (fun c_48 => ?_) (fun c_48 => ?_)
                  · exact absurd c_48 (by decide)
                  · refine lv_iload_n hx hb dX8_pulling_89 rfl (lv_at hl 1 rfl) ?_
                    refine lv_bipush (v := 6) hx hb dX8_pulling_90 (by decide) ?_
                    refine lv_icmp_ne (tgt := 101) hx hb dX8_pulling_92 (by decide) (fun c_49 => ?_) (fun c_49 => ?_)
                    · refine lv_iload_n hx hb dX8_pulling_101 rfl (lv_at hl 1 rfl) ?_
                      refine lv_bipush (v := 6) hx hb dX8_pulling_102 (by decide) ?_
                      refine lv_icmp_ne (tgt := 114) hx hb dX8_pulling_104 (by decide) (fun c_50 => ?_) (fun c_50 => ?_)
                      · refine lv_iload hx hb dX8_pulling_114 (lv_at hl 0 rfl) ?_
                        exact W.iret (v := x_45) hx hb hr (fun t ht hW => ⟨⟨x_45, (q_43, q_44), rfl, ⟨(show 0 ≤ q_43.toInt ∧ q_43.toInt ≤ 2000 from ⟨by omega, by omega⟩), (show (x_45 : Int32) = zQp (gki p_.toNatClampNeg).toInt x p_ (gpa p_.toNatClampNeg) from by (have hk : (gki p_.toNatClampNeg).toInt = 2 := (by rw [← ex_1]; first | done | decide); rw [hk]; unfold zQp; (repeat (first | rw [if_pos (by decide)] | rw [if_neg (by decide)])); (try rw [ex_45]); (try rw [ex_45]); first | done | rfl)), (show q_44 = zTr gtr nra.toInt (zBp (gki p_.toNatClampNeg).toInt) from by (have hk : (gki p_.toNatClampNeg).toInt = 2 := (by rw [← ex_1]; first | done | decide); have zbp0 : ((zBp 2).length : Int) = 1 := rfl; have zbf1 : ((zBf 2).length : Int) = 3 := rfl; have zbr2 : ((zBr 2).length : Int) = 5 := rfl; rw [hsr_41_0]; (try rw [hk]); first | done | rfl)), (show q_43.toInt = nra.toInt + ((zBp (gki p_.toNatClampNeg).toInt).length : Nat) from by (have hk : (gki p_.toNatClampNeg).toInt = 2 := (by rw [← ex_1]; first | done | decide); have zp : ((zBp 2).length : Int) = 1 := rfl; have zf : ((zBf 2).length : Int) = 3 := rfl; have zr : ((zBr 2).length : Int) = 5 := rfl; rw [hk]; omega)), trivial⟩, zRet ht hP hD [2, 0, 1, 3] (by decide) rfl⟩, hS.F ht⟩) hS.2.2 dX8_pulling_116
                      · exact absurd c_50 (by decide)
                    · exact absurd c_49 (by decide)
                · exact absurd c_47 (by decide)
            · exact absurd c_40 (by decide)
        · exact absurd c_38 (by decide)
    · exact absurd c_36 (by decide)
  · have kc3 : (3 : Int32).toInt = 3 := by decide
    refine lv_iload_n hx hb dX8_pulling_7 rfl (lv_at hl 0 rfl) ?_
    refine lv_bipush (v := 6) hx hb dX8_pulling_8 (by decide) ?_
    refine lv_icmp_ne (tgt := 19) hx hb dX8_pulling_10 (by decide) (fun c_51 => ?_) (fun c_51 => ?_)
    · refine lv_iload_n hx hb dX8_pulling_19 rfl (lv_at hl 0 rfl) ?_
      refine lv_iconst (v := 4) hx hb dX8_pulling_20 (by decide) ?_
      refine lv_icmp_eq (tgt := 30) hx hb dX8_pulling_21 (by decide) (fun c_52 => ?_) (fun c_52 => ?_)
      · exact absurd c_52 (by decide)
      · refine lv_iload_n hx hb dX8_pulling_24 rfl (lv_at hl 0 rfl) ?_
        refine lv_bipush (v := 6) hx hb dX8_pulling_25 (by decide) ?_
        refine lv_icmp_ne (tgt := 36) hx hb dX8_pulling_27 (by decide) (fun c_53 => ?_) (fun c_53 => ?_)
        · refine lv_iload_n hx hb dX8_pulling_36 rfl (lv_at hl 0 rfl) ?_
          refine lv_iconst (v := 1) hx hb dX8_pulling_37 (by decide) ?_
          refine lv_icmp_eq (tgt := 46) hx hb dX8_pulling_38 (by decide) (fun c_54 => ?_) (fun c_54 => ?_)
          · exact absurd c_54 (by decide)
          · refine lv_iload_n hx hb dX8_pulling_41 rfl (lv_at hl 0 rfl) ?_
            refine lv_iconst (v := 3) hx hb dX8_pulling_42 (by decide) ?_
            refine lv_icmp_ne (tgt := 52) hx hb dX8_pulling_43 (by decide) (fun c_55 => ?_) (fun c_55 => ?_)
            · exact absurd c_55 (by decide)
            · refine lv_aload_n hx hb dX8_pulling_46 rfl (lv_at hl 1 rfl) ?_
              refine lv_bipush (v := 20) hx hb dX8_pulling_47 (by decide) ?_
              skip
              refine zw_Vv (As := [.int 20]) (rest := []) (wr := [(mki, .inl (cI, 8, .inl gki)), (mpa, .inl (cI, 8, .inl gpa))]) ⟨hx, hb, hml, hown, hts⟩ (c_F_M_body l D cI cJ cZ cP cS po m0 mrf mki mpa mta mla msl mco mhe mso msi msh mce mca mwo mnu mte mwa mke mma mth mtr (npu) (nte) (nat_) (nde) (nto) (nse) (nhu) (nga) (nsd) (nfa) (nba) (npl) (nen) (nnu) (nwr) (nra) (nik) gtr (20) hy0 hy1 hy2 hy3 hy4 hy5 hy6 hy7 hy8 hy9 hy10 hy11 hy12 hy13 hy10 hy11 H.size) (cwV 1 hts gX8_pulling_X8_body rfl rfl rfl ⟨rfl, dh_X8_body⟩ ⟨Nat.le_of_ble_eq_true rfl, Nat.le_of_ble_eq_true rfl⟩) hK hN (hZ.kept hS) hP hD hS hA [0, 3] [1, 2] rfl rfl (by decide) (by decide) (by decide) (va_recv (q := (RX8, TX8, 38)) hK hP (ci := 8) (q0 := 0) rfl rfl) rfl hl.1 rfl (Nat.le_of_ble_eq_true rfl) dX8_pulling_49 ⟨Nat.le_of_ble_eq_true rfl, Nat.le_of_ble_eq_true rfl⟩ (fun u_57 H locs hr_56 hP hD hS => ?_)
              obtain ⟨q_58, q_59⟩ := u_57
              try dsimp only at hr_56
              obtain ⟨hbq_58, hsr_56_0, hr_56⟩ := hr_56
              have h9R := zRe (ws' := [(mki, .inl (cI, 8, .inl gki)), (mpa, .inl (cI, 8, .inl gpa)), (zMO m0 npu nte nat_ nde nto nse nhu nga nsd nfa mrf mki mpa mta mla msl mco mhe mso msi msh mce mca mwo mnu mte nba npl nen nnu nwr mwa mke mma mth mtr q_58 nik), (mtr, .inl (cI, 20, .inl q_59))]) hP hD rfl
              clear hP hD
              obtain ⟨hP, hD⟩ := h9R
              refine lv_aload_n hx hb dX8_pulling_52 rfl (lv_at hl 1 rfl) ?_
              refine lv_bipush (v := 10) hx hb dX8_pulling_53 (by decide) ?_
              skip
              refine zw_Vv (As := [.int 10]) (rest := []) (wr := [(mki, .inl (cI, 8, .inl gki)), (mpa, .inl (cI, 8, .inl gpa))]) ⟨hx, hb, hml, hown, hts⟩ (c_F_M_body l D cI cJ cZ cP cS po m0 mrf mki mpa mta mla msl mco mhe mso msi msh mce mca mwo mnu mte mwa mke mma mth mtr (npu) (nte) (nat_) (nde) (nto) (nse) (nhu) (nga) (nsd) (nfa) (nba) (npl) (nen) (nnu) (nwr) (q_58) (nik) q_59 (10) hy0 hy1 hy2 hy3 hy4 hy5 hy6 hy7 hy8 hy9 (by omega) (by omega) hy12 hy13 (by omega) (by omega) H.size) (cwV 1 hts gX8_pulling_X8_body rfl rfl rfl ⟨rfl, dh_X8_body⟩ ⟨Nat.le_of_ble_eq_true rfl, Nat.le_of_ble_eq_true rfl⟩) hK hN (hZ.kept hS) hP hD hS hA [2, 3] [0, 1] rfl rfl (by decide) (by decide) (by decide) (va_recv (q := (RX8, TX8, 38)) hK hP (ci := 8) (q0 := 2) rfl rfl) rfl hl.1 rfl (Nat.le_of_ble_eq_true rfl) dX8_pulling_55 ⟨Nat.le_of_ble_eq_true rfl, Nat.le_of_ble_eq_true rfl⟩ (fun u_61 H locs hr_60 hP hD hS => ?_)
              obtain ⟨q_62, q_63⟩ := u_61
              try dsimp only at hr_60
              obtain ⟨hbq_62, hsr_60_0, hr_60⟩ := hr_60
              have h9R := zRe (ws' := [(mki, .inl (cI, 8, .inl gki)), (mpa, .inl (cI, 8, .inl gpa)), (zMO m0 npu nte nat_ nde nto nse nhu nga nsd nfa mrf mki mpa mta mla msl mco mhe mso msi msh mce mca mwo mnu mte nba npl nen nnu nwr mwa mke mma mth mtr q_62 nik), (mtr, .inl (cI, 20, .inl q_63))]) hP hD rfl
              clear hP hD
              obtain ⟨hP, hD⟩ := h9R
              refine lv_iload_n hx hb dX8_pulling_58 rfl (lv_at hl 3 rfl) ?_
              refine lv_iload_n hx hb dX8_pulling_59 rfl (lv_at hl 2 rfl) ?_
              refine lv_iadd hx hb dX8_pulling_60 ?_
              refine lv_topi (fun x_64 ex_64 => ?_)
              refine lv_istore (lv' := [(4, .int x_64), (3, .int 3), (0, .ref m0), (1, .int p_), (2, .int x)]) hx hb dX8_pulling_61 hl (by decide) rfl (fun ls hl => ?_)
              refine lv_iload_n hx hb dX8_pulling_63 rfl (lv_at hl 1 rfl) ?_
              refine lv_iconst (v := 1) hx hb dX8_pulling_64 (by decide) ?_
              refine lv_icmp_eq (tgt := 73) hx hb dX8_pulling_65 (by decide) (fun c_65 => ?_) (fun c_65 => ?_)
              · exact absurd c_65 (by decide)
              · refine lv_iload_n hx hb dX8_pulling_68 rfl (lv_at hl 1 rfl) ?_
                refine lv_iconst (v := 3) hx hb dX8_pulling_69 (by decide) ?_
                refine lv_icmp_ne (tgt := 84) hx hb dX8_pulling_70 (by decide) (fun c_66 => ?_) (fun c_66 => ?_)
                · exact absurd c_66 (by decide)
                · refine lv_iload hx hb dX8_pulling_73 (lv_at hl 0 rfl) ?_
                  refine lv_aload_n hx hb dX8_pulling_75 rfl (lv_at hl 2 rfl) ?_
                  refine va_get (D := D) (ci := 8) (v := .ref mpa) (C := RX8) (T := TX8) (N := 38) hx hb hts hi_X8_pulling_8 hown hK hP 2 rfl rfl 12 (by decide) (hts (.fieldLink RX8 32 "TheLiningsInItModel" "part" "[I") (List.mem_of_getElem? (i := 2) rfl)) (fun _ h9 => h9) rfl dX8_pulling_76 ?_
                  refine lv_iload_n hx hb dX8_pulling_79 rfl (lv_at hl 3 rfl) ?_
                  refine va_iald hx hb hK hP 1 0 rfl rfl (zf_in (by omega) (by omega)) dX8_pulling_80 ?_
                  refine lv_topi (fun x_67 ex_67 => ?_)
                  have bx_67 : 0 ≤ x_67.toInt ∧ x_67.toInt ≤ 9 := by rw [ex_67]; exact hp_gpa _
                  refine lv_iadd hx hb dX8_pulling_81 ?_
                  refine lv_topi (fun x_68 ex_68 => ?_)
                  refine lv_istore (lv' := [(4, .int x_68), (3, .int 3), (0, .ref m0), (1, .int p_), (2, .int x)]) hx hb dX8_pulling_82 hl (by decide) rfl (fun ls hl => ?_)
                  refine lv_iload_n hx hb dX8_pulling_84 rfl (lv_at hl 1 rfl) ?_
                  refine lv_iconst (v := 4) hx hb dX8_pulling_85 (by decide) ?_
                  refine lv_icmp_eq (tgt := 95) hx hb dX8_pulling_86 (by decide) (fun c_69 => ?_) (fun c_69 => ?_)
                  · exact absurd c_69 (by decide)
                  · refine lv_iload_n hx hb dX8_pulling_89 rfl (lv_at hl 1 rfl) ?_
                    refine lv_bipush (v := 6) hx hb dX8_pulling_90 (by decide) ?_
                    refine lv_icmp_ne (tgt := 101) hx hb dX8_pulling_92 (by decide) (fun c_70 => ?_) (fun c_70 => ?_)
                    · refine lv_iload_n hx hb dX8_pulling_101 rfl (lv_at hl 1 rfl) ?_
                      refine lv_bipush (v := 6) hx hb dX8_pulling_102 (by decide) ?_
                      refine lv_icmp_ne (tgt := 114) hx hb dX8_pulling_104 (by decide) (fun c_71 => ?_) (fun c_71 => ?_)
                      · refine lv_iload hx hb dX8_pulling_114 (lv_at hl 0 rfl) ?_
                        exact W.iret (v := x_68) hx hb hr (fun t ht hW => ⟨⟨x_68, (q_62, q_63), rfl, ⟨(show 0 ≤ q_62.toInt ∧ q_62.toInt ≤ 2000 from ⟨by omega, by omega⟩), (show (x_68 : Int32) = zQp (gki p_.toNatClampNeg).toInt x p_ (gpa p_.toNatClampNeg) from by (have hk : (gki p_.toNatClampNeg).toInt = 3 := (by rw [← ex_1]; first | done | decide); rw [hk]; unfold zQp; (repeat (first | rw [if_pos (by decide)] | rw [if_neg (by decide)])); (try rw [ex_68]); (try rw [ex_67]); (try rw [ex_64]); (try rw [ex_68]); (try rw [ex_67]); (try rw [ex_64]); (try rw [ex_67]); first | done | rfl)), (show q_63 = zTr gtr nra.toInt (zBp (gki p_.toNatClampNeg).toInt) from by (have hk : (gki p_.toNatClampNeg).toInt = 3 := (by rw [← ex_1]; first | done | decide); have zbp0 : ((zBp 3).length : Int) = 2 := rfl; have zbf1 : ((zBf 3).length : Int) = 4 := rfl; have zbr2 : ((zBr 3).length : Int) = 7 := rfl; rw [hsr_60_0]; rw [hsr_56_0]; rw [zTr_app (by first | omega | (simp; omega) | (show _ = _ + 1; omega))]; (try rw [hk]); first | done | rfl)), (show q_62.toInt = nra.toInt + ((zBp (gki p_.toNatClampNeg).toInt).length : Nat) from by (have hk : (gki p_.toNatClampNeg).toInt = 3 := (by rw [← ex_1]; first | done | decide); have zp : ((zBp 3).length : Int) = 2 := rfl; have zf : ((zBf 3).length : Int) = 4 := rfl; have zr : ((zBr 3).length : Int) = 7 := rfl; rw [hk]; omega)), trivial⟩, zRet ht hP hD [2, 0, 1, 3] (by decide) rfl⟩, hS.F ht⟩) hS.2.2 dX8_pulling_116
                      · exact absurd c_71 (by decide)
                    · exact absurd c_70 (by decide)
        · exact absurd c_53 (by decide)
    · exact absurd c_51 (by decide)
  · have kc4 : (4 : Int32).toInt = 4 := by decide
    refine lv_iload_n hx hb dX8_pulling_7 rfl (lv_at hl 0 rfl) ?_
    refine lv_bipush (v := 6) hx hb dX8_pulling_8 (by decide) ?_
    refine lv_icmp_ne (tgt := 19) hx hb dX8_pulling_10 (by decide) (fun c_72 => ?_) (fun c_72 => ?_)
    · refine lv_iload_n hx hb dX8_pulling_19 rfl (lv_at hl 0 rfl) ?_
      refine lv_iconst (v := 4) hx hb dX8_pulling_20 (by decide) ?_
      refine lv_icmp_eq (tgt := 30) hx hb dX8_pulling_21 (by decide) (fun c_73 => ?_) (fun c_73 => ?_)
      · refine lv_aload_n hx hb dX8_pulling_30 rfl (lv_at hl 1 rfl) ?_
        refine lv_bipush (v := 51) hx hb dX8_pulling_31 (by decide) ?_
        skip
        refine zw_Vv (As := [.int 51]) (rest := []) (wr := [(mki, .inl (cI, 8, .inl gki)), (mpa, .inl (cI, 8, .inl gpa))]) ⟨hx, hb, hml, hown, hts⟩ (c_F_M_body l D cI cJ cZ cP cS po m0 mrf mki mpa mta mla msl mco mhe mso msi msh mce mca mwo mnu mte mwa mke mma mth mtr (npu) (nte) (nat_) (nde) (nto) (nse) (nhu) (nga) (nsd) (nfa) (nba) (npl) (nen) (nnu) (nwr) (nra) (nik) gtr (51) hy0 hy1 hy2 hy3 hy4 hy5 hy6 hy7 hy8 hy9 hy10 hy11 hy12 hy13 hy10 hy11 H.size) (cwV 1 hts gX8_pulling_X8_body rfl rfl rfl ⟨rfl, dh_X8_body⟩ ⟨Nat.le_of_ble_eq_true rfl, Nat.le_of_ble_eq_true rfl⟩) hK hN (hZ.kept hS) hP hD hS hA [0, 3] [1, 2] rfl rfl (by decide) (by decide) (by decide) (va_recv (q := (RX8, TX8, 38)) hK hP (ci := 8) (q0 := 0) rfl rfl) rfl hl.1 rfl (Nat.le_of_ble_eq_true rfl) dX8_pulling_33 ⟨Nat.le_of_ble_eq_true rfl, Nat.le_of_ble_eq_true rfl⟩ (fun u_75 H locs hr_74 hP hD hS => ?_)
        obtain ⟨q_76, q_77⟩ := u_75
        try dsimp only at hr_74
        obtain ⟨hbq_76, hsr_74_0, hr_74⟩ := hr_74
        have h9R := zRe (ws' := [(mki, .inl (cI, 8, .inl gki)), (mpa, .inl (cI, 8, .inl gpa)), (zMO m0 npu nte nat_ nde nto nse nhu nga nsd nfa mrf mki mpa mta mla msl mco mhe mso msi msh mce mca mwo mnu mte nba npl nen nnu nwr mwa mke mma mth mtr q_76 nik), (mtr, .inl (cI, 20, .inl q_77))]) hP hD rfl
        clear hP hD
        obtain ⟨hP, hD⟩ := h9R
        refine lv_iload_n hx hb dX8_pulling_36 rfl (lv_at hl 0 rfl) ?_
        refine lv_iconst (v := 1) hx hb dX8_pulling_37 (by decide) ?_
        refine lv_icmp_eq (tgt := 46) hx hb dX8_pulling_38 (by decide) (fun c_78 => ?_) (fun c_78 => ?_)
        · exact absurd c_78 (by decide)
        · refine lv_iload_n hx hb dX8_pulling_41 rfl (lv_at hl 0 rfl) ?_
          refine lv_iconst (v := 3) hx hb dX8_pulling_42 (by decide) ?_
          refine lv_icmp_ne (tgt := 52) hx hb dX8_pulling_43 (by decide) (fun c_79 => ?_) (fun c_79 => ?_)
          · refine lv_aload_n hx hb dX8_pulling_52 rfl (lv_at hl 1 rfl) ?_
            refine lv_bipush (v := 10) hx hb dX8_pulling_53 (by decide) ?_
            skip
            refine zw_Vv (As := [.int 10]) (rest := []) (wr := [(mki, .inl (cI, 8, .inl gki)), (mpa, .inl (cI, 8, .inl gpa))]) ⟨hx, hb, hml, hown, hts⟩ (c_F_M_body l D cI cJ cZ cP cS po m0 mrf mki mpa mta mla msl mco mhe mso msi msh mce mca mwo mnu mte mwa mke mma mth mtr (npu) (nte) (nat_) (nde) (nto) (nse) (nhu) (nga) (nsd) (nfa) (nba) (npl) (nen) (nnu) (nwr) (q_76) (nik) q_77 (10) hy0 hy1 hy2 hy3 hy4 hy5 hy6 hy7 hy8 hy9 (by omega) (by omega) hy12 hy13 (by omega) (by omega) H.size) (cwV 1 hts gX8_pulling_X8_body rfl rfl rfl ⟨rfl, dh_X8_body⟩ ⟨Nat.le_of_ble_eq_true rfl, Nat.le_of_ble_eq_true rfl⟩) hK hN (hZ.kept hS) hP hD hS hA [2, 3] [0, 1] rfl rfl (by decide) (by decide) (by decide) (va_recv (q := (RX8, TX8, 38)) hK hP (ci := 8) (q0 := 2) rfl rfl) rfl hl.1 rfl (Nat.le_of_ble_eq_true rfl) dX8_pulling_55 ⟨Nat.le_of_ble_eq_true rfl, Nat.le_of_ble_eq_true rfl⟩ (fun u_81 H locs hr_80 hP hD hS => ?_)
            obtain ⟨q_82, q_83⟩ := u_81
            try dsimp only at hr_80
            obtain ⟨hbq_82, hsr_80_0, hr_80⟩ := hr_80
            have h9R := zRe (ws' := [(mki, .inl (cI, 8, .inl gki)), (mpa, .inl (cI, 8, .inl gpa)), (zMO m0 npu nte nat_ nde nto nse nhu nga nsd nfa mrf mki mpa mta mla msl mco mhe mso msi msh mce mca mwo mnu mte nba npl nen nnu nwr mwa mke mma mth mtr q_82 nik), (mtr, .inl (cI, 20, .inl q_83))]) hP hD rfl
            clear hP hD
            obtain ⟨hP, hD⟩ := h9R
            refine lv_iload_n hx hb dX8_pulling_58 rfl (lv_at hl 3 rfl) ?_
            refine lv_iload_n hx hb dX8_pulling_59 rfl (lv_at hl 2 rfl) ?_
            refine lv_iadd hx hb dX8_pulling_60 ?_
            refine lv_topi (fun x_84 ex_84 => ?_)
            refine lv_istore (lv' := [(4, .int x_84), (3, .int 4), (0, .ref m0), (1, .int p_), (2, .int x)]) hx hb dX8_pulling_61 hl (by decide) rfl (fun ls hl => ?_)
            refine lv_iload_n hx hb dX8_pulling_63 rfl (lv_at hl 1 rfl) ?_
            refine lv_iconst (v := 1) hx hb dX8_pulling_64 (by decide) ?_
            refine lv_icmp_eq (tgt := 73) hx hb dX8_pulling_65 (by decide) (fun c_85 => ?_) (fun c_85 => ?_)
            · exact absurd c_85 (by decide)
            · refine lv_iload_n hx hb dX8_pulling_68 rfl (lv_at hl 1 rfl) ?_
              refine lv_iconst (v := 3) hx hb dX8_pulling_69 (by decide) ?_
              refine lv_icmp_ne (tgt := 84) hx hb dX8_pulling_70 (by decide) (fun c_86 => ?_) (fun c_86 => ?_)
              · refine lv_iload_n hx hb dX8_pulling_84 rfl (lv_at hl 1 rfl) ?_
                refine lv_iconst (v := 4) hx hb dX8_pulling_85 (by decide) ?_
                refine lv_icmp_eq (tgt := 95) hx hb dX8_pulling_86 (by decide) (fun c_87 => ?_) (fun c_87 => ?_)
                · refine lv_iload hx hb dX8_pulling_95 (lv_at hl 0 rfl) ?_
                  refine lv_iload_n hx hb dX8_pulling_97 rfl (lv_at hl 3 rfl) ?_
                  refine lv_isub hx hb dX8_pulling_98 ?_
                  refine lv_topi (fun x_88 ex_88 => ?_)
                  refine lv_istore (lv' := [(4, .int x_88), (3, .int 4), (0, .ref m0), (1, .int p_), (2, .int x)]) hx hb dX8_pulling_99 hl (by decide) rfl (fun ls hl => ?_)
                  refine lv_iload_n hx hb dX8_pulling_101 rfl (lv_at hl 1 rfl) ?_
                  refine lv_bipush (v := 6) hx hb dX8_pulling_102 (by decide) ?_
                  refine lv_icmp_ne (tgt := 114) hx hb dX8_pulling_104 (by decide) (fun c_89 => ?_) (fun c_89 => ?_)
                  · refine lv_iload hx hb dX8_pulling_114 (lv_at hl 0 rfl) ?_
                    exact W.iret (v := x_88) hx hb hr (fun t ht hW => ⟨⟨x_88, (q_82, q_83), rfl, ⟨(show 0 ≤ q_82.toInt ∧ q_82.toInt ≤ 2000 from ⟨by omega, by omega⟩), (show (x_88 : Int32) = zQp (gki p_.toNatClampNeg).toInt x p_ (gpa p_.toNatClampNeg) from by (have hk : (gki p_.toNatClampNeg).toInt = 4 := (by rw [← ex_1]; first | done | decide); rw [hk]; unfold zQp; (repeat (first | rw [if_pos (by decide)] | rw [if_neg (by decide)])); (try rw [ex_88]); (try rw [ex_84]); (try rw [ex_88]); (try rw [ex_84]); first | done | rfl)), (show q_83 = zTr gtr nra.toInt (zBp (gki p_.toNatClampNeg).toInt) from by (have hk : (gki p_.toNatClampNeg).toInt = 4 := (by rw [← ex_1]; first | done | decide); have zbp0 : ((zBp 4).length : Int) = 2 := rfl; have zbf1 : ((zBf 4).length : Int) = 3 := rfl; have zbr2 : ((zBr 4).length : Int) = 7 := rfl; rw [hsr_80_0]; rw [hsr_74_0]; rw [zTr_app (by first | omega | (simp; omega) | (show _ = _ + 1; omega))]; (try rw [hk]); first | done | rfl)), (show q_82.toInt = nra.toInt + ((zBp (gki p_.toNatClampNeg).toInt).length : Nat) from by (have hk : (gki p_.toNatClampNeg).toInt = 4 := (by rw [← ex_1]; first | done | decide); have zp : ((zBp 4).length : Int) = 2 := rfl; have zf : ((zBf 4).length : Int) = 3 := rfl; have zr : ((zBr 4).length : Int) = 7 := rfl; rw [hk]; omega)), trivial⟩, zRet ht hP hD [2, 0, 1, 3] (by decide) rfl⟩, hS.F ht⟩) hS.2.2 dX8_pulling_116
                  · exact absurd c_89 (by decide)
                · exact absurd c_87 (by decide)
              · exact absurd c_86 (by decide)
          · exact absurd c_79 (by decide)
      · exact absurd c_73 (by decide)
    · exact absurd c_72 (by decide)
  · have kc5 : (5 : Int32).toInt = 5 := by decide
    refine lv_iload_n hx hb dX8_pulling_7 rfl (lv_at hl 0 rfl) ?_
    refine lv_bipush (v := 6) hx hb dX8_pulling_8 (by decide) ?_
    refine lv_icmp_ne (tgt := 19) hx hb dX8_pulling_10 (by decide) (fun c_90 => ?_) (fun c_90 => ?_)
    · refine lv_iload_n hx hb dX8_pulling_19 rfl (lv_at hl 0 rfl) ?_
      refine lv_iconst (v := 4) hx hb dX8_pulling_20 (by decide) ?_
      refine lv_icmp_eq (tgt := 30) hx hb dX8_pulling_21 (by decide) (fun c_91 => ?_) (fun c_91 => ?_)
      · exact absurd c_91 (by decide)
      · refine lv_iload_n hx hb dX8_pulling_24 rfl (lv_at hl 0 rfl) ?_
        refine lv_bipush (v := 6) hx hb dX8_pulling_25 (by decide) ?_
        refine lv_icmp_ne (tgt := 36) hx hb dX8_pulling_27 (by decide) (fun c_92 => ?_) (fun c_92 => ?_)
        · refine lv_iload_n hx hb dX8_pulling_36 rfl (lv_at hl 0 rfl) ?_
          refine lv_iconst (v := 1) hx hb dX8_pulling_37 (by decide) ?_
          refine lv_icmp_eq (tgt := 46) hx hb dX8_pulling_38 (by decide) (fun c_93 => ?_) (fun c_93 => ?_)
          · exact absurd c_93 (by decide)
          · refine lv_iload_n hx hb dX8_pulling_41 rfl (lv_at hl 0 rfl) ?_
            refine lv_iconst (v := 3) hx hb dX8_pulling_42 (by decide) ?_
            refine lv_icmp_ne (tgt := 52) hx hb dX8_pulling_43 (by decide) (fun c_94 => ?_) (fun c_94 => ?_)
            · refine lv_aload_n hx hb dX8_pulling_52 rfl (lv_at hl 1 rfl) ?_
              refine lv_bipush (v := 10) hx hb dX8_pulling_53 (by decide) ?_
              skip
              refine zw_Vv (As := [.int 10]) (rest := []) (wr := [(mki, .inl (cI, 8, .inl gki)), (mpa, .inl (cI, 8, .inl gpa))]) ⟨hx, hb, hml, hown, hts⟩ (c_F_M_body l D cI cJ cZ cP cS po m0 mrf mki mpa mta mla msl mco mhe mso msi msh mce mca mwo mnu mte mwa mke mma mth mtr (npu) (nte) (nat_) (nde) (nto) (nse) (nhu) (nga) (nsd) (nfa) (nba) (npl) (nen) (nnu) (nwr) (nra) (nik) gtr (10) hy0 hy1 hy2 hy3 hy4 hy5 hy6 hy7 hy8 hy9 hy10 hy11 hy12 hy13 hy10 hy11 H.size) (cwV 1 hts gX8_pulling_X8_body rfl rfl rfl ⟨rfl, dh_X8_body⟩ ⟨Nat.le_of_ble_eq_true rfl, Nat.le_of_ble_eq_true rfl⟩) hK hN (hZ.kept hS) hP hD hS hA [0, 3] [1, 2] rfl rfl (by decide) (by decide) (by decide) (va_recv (q := (RX8, TX8, 38)) hK hP (ci := 8) (q0 := 0) rfl rfl) rfl hl.1 rfl (Nat.le_of_ble_eq_true rfl) dX8_pulling_55 ⟨Nat.le_of_ble_eq_true rfl, Nat.le_of_ble_eq_true rfl⟩ (fun u_96 H locs hr_95 hP hD hS => ?_)
              obtain ⟨q_97, q_98⟩ := u_96
              try dsimp only at hr_95
              obtain ⟨hbq_97, hsr_95_0, hr_95⟩ := hr_95
              have h9R := zRe (ws' := [(mki, .inl (cI, 8, .inl gki)), (mpa, .inl (cI, 8, .inl gpa)), (zMO m0 npu nte nat_ nde nto nse nhu nga nsd nfa mrf mki mpa mta mla msl mco mhe mso msi msh mce mca mwo mnu mte nba npl nen nnu nwr mwa mke mma mth mtr q_97 nik), (mtr, .inl (cI, 20, .inl q_98))]) hP hD rfl
              clear hP hD
              obtain ⟨hP, hD⟩ := h9R
              refine lv_iload_n hx hb dX8_pulling_58 rfl (lv_at hl 3 rfl) ?_
              refine lv_iload_n hx hb dX8_pulling_59 rfl (lv_at hl 2 rfl) ?_
              refine lv_iadd hx hb dX8_pulling_60 ?_
              refine lv_topi (fun x_99 ex_99 => ?_)
              refine lv_istore (lv' := [(4, .int x_99), (3, .int 5), (0, .ref m0), (1, .int p_), (2, .int x)]) hx hb dX8_pulling_61 hl (by decide) rfl (fun ls hl => ?_)
              refine lv_iload_n hx hb dX8_pulling_63 rfl (lv_at hl 1 rfl) ?_
              refine lv_iconst (v := 1) hx hb dX8_pulling_64 (by decide) ?_
              refine lv_icmp_eq (tgt := 73) hx hb dX8_pulling_65 (by decide) (fun c_100 => ?_) (fun c_100 => ?_)
              · exact absurd c_100 (by decide)
              · refine lv_iload_n hx hb dX8_pulling_68 rfl (lv_at hl 1 rfl) ?_
                refine lv_iconst (v := 3) hx hb dX8_pulling_69 (by decide) ?_
                refine lv_icmp_ne (tgt := 84) hx hb dX8_pulling_70 (by decide) (fun c_101 => ?_) (fun c_101 => ?_)
                · refine lv_iload_n hx hb dX8_pulling_84 rfl (lv_at hl 1 rfl) ?_
                  refine lv_iconst (v := 4) hx hb dX8_pulling_85 (by decide) ?_
                  refine lv_icmp_eq (tgt := 95) hx hb dX8_pulling_86 (by decide) (fun c_102 => ?_) (fun c_102 => ?_)
                  · exact absurd c_102 (by decide)
                  · refine lv_iload_n hx hb dX8_pulling_89 rfl (lv_at hl 1 rfl) ?_
                    refine lv_bipush (v := 6) hx hb dX8_pulling_90 (by decide) ?_
                    refine lv_icmp_ne (tgt := 101) hx hb dX8_pulling_92 (by decide) (fun c_103 => ?_) (fun c_103 => ?_)
                    · refine lv_iload_n hx hb dX8_pulling_101 rfl (lv_at hl 1 rfl) ?_
                      refine lv_bipush (v := 6) hx hb dX8_pulling_102 (by decide) ?_
                      refine lv_icmp_ne (tgt := 114) hx hb dX8_pulling_104 (by decide) (fun c_104 => ?_) (fun c_104 => ?_)
                      · refine lv_iload hx hb dX8_pulling_114 (lv_at hl 0 rfl) ?_
                        exact W.iret (v := x_99) hx hb hr (fun t ht hW => ⟨⟨x_99, (q_97, q_98), rfl, ⟨(show 0 ≤ q_97.toInt ∧ q_97.toInt ≤ 2000 from ⟨by omega, by omega⟩), (show (x_99 : Int32) = zQp (gki p_.toNatClampNeg).toInt x p_ (gpa p_.toNatClampNeg) from by (have hk : (gki p_.toNatClampNeg).toInt = 5 := (by rw [← ex_1]; first | done | decide); rw [hk]; unfold zQp; (repeat (first | rw [if_pos (by decide)] | rw [if_neg (by decide)])); (try rw [ex_99]); (try rw [ex_99]); first | done | rfl)), (show q_98 = zTr gtr nra.toInt (zBp (gki p_.toNatClampNeg).toInt) from by (have hk : (gki p_.toNatClampNeg).toInt = 5 := (by rw [← ex_1]; first | done | decide); have zbp0 : ((zBp 5).length : Int) = 1 := rfl; have zbf1 : ((zBf 5).length : Int) = 3 := rfl; have zbr2 : ((zBr 5).length : Int) = 6 := rfl; rw [hsr_95_0]; (try rw [hk]); first | done | rfl)), (show q_97.toInt = nra.toInt + ((zBp (gki p_.toNatClampNeg).toInt).length : Nat) from by (have hk : (gki p_.toNatClampNeg).toInt = 5 := (by rw [← ex_1]; first | done | decide); have zp : ((zBp 5).length : Int) = 1 := rfl; have zf : ((zBf 5).length : Int) = 3 := rfl; have zr : ((zBr 5).length : Int) = 6 := rfl; rw [hk]; omega)), trivial⟩, zRet ht hP hD [2, 0, 1, 3] (by decide) rfl⟩, hS.F ht⟩) hS.2.2 dX8_pulling_116
                      · exact absurd c_104 (by decide)
                    · exact absurd c_103 (by decide)
                · exact absurd c_101 (by decide)
            · exact absurd c_94 (by decide)
        · exact absurd c_92 (by decide)
    · exact absurd c_90 (by decide)
  · have kc6 : (6 : Int32).toInt = 6 := by decide
    refine lv_iload_n hx hb dX8_pulling_7 rfl (lv_at hl 0 rfl) ?_
    refine lv_bipush (v := 6) hx hb dX8_pulling_8 (by decide) ?_
    refine lv_icmp_ne (tgt := 19) hx hb dX8_pulling_10 (by decide) (fun c_105 => ?_) (fun c_105 => ?_)
    · exact absurd c_105 (by decide)
    · refine lv_aload_n hx hb dX8_pulling_13 rfl (lv_at hl 1 rfl) ?_
      refine lv_bipush (v := 70) hx hb dX8_pulling_14 (by decide) ?_
      skip
      refine zw_Vv (As := [.int 70]) (rest := []) (wr := [(mki, .inl (cI, 8, .inl gki)), (mpa, .inl (cI, 8, .inl gpa))]) ⟨hx, hb, hml, hown, hts⟩ (c_F_M_body l D cI cJ cZ cP cS po m0 mrf mki mpa mta mla msl mco mhe mso msi msh mce mca mwo mnu mte mwa mke mma mth mtr (npu) (nte) (nat_) (nde) (nto) (nse) (nhu) (nga) (nsd) (nfa) (nba) (npl) (nen) (nnu) (nwr) (nra) (nik) gtr (70) hy0 hy1 hy2 hy3 hy4 hy5 hy6 hy7 hy8 hy9 hy10 hy11 hy12 hy13 hy10 hy11 H.size) (cwV 1 hts gX8_pulling_X8_body rfl rfl rfl ⟨rfl, dh_X8_body⟩ ⟨Nat.le_of_ble_eq_true rfl, Nat.le_of_ble_eq_true rfl⟩) hK hN (hZ.kept hS) hP hD hS hA [0, 3] [1, 2] rfl rfl (by decide) (by decide) (by decide) (va_recv (q := (RX8, TX8, 38)) hK hP (ci := 8) (q0 := 0) rfl rfl) rfl hl.1 rfl (Nat.le_of_ble_eq_true rfl) dX8_pulling_16 ⟨Nat.le_of_ble_eq_true rfl, Nat.le_of_ble_eq_true rfl⟩ (fun u_107 H locs hr_106 hP hD hS => ?_)
      obtain ⟨q_108, q_109⟩ := u_107
      try dsimp only at hr_106
      obtain ⟨hbq_108, hsr_106_0, hr_106⟩ := hr_106
      have h9R := zRe (ws' := [(mki, .inl (cI, 8, .inl gki)), (mpa, .inl (cI, 8, .inl gpa)), (zMO m0 npu nte nat_ nde nto nse nhu nga nsd nfa mrf mki mpa mta mla msl mco mhe mso msi msh mce mca mwo mnu mte nba npl nen nnu nwr mwa mke mma mth mtr q_108 nik), (mtr, .inl (cI, 20, .inl q_109))]) hP hD rfl
      clear hP hD
      obtain ⟨hP, hD⟩ := h9R
      refine lv_iload_n hx hb dX8_pulling_19 rfl (lv_at hl 0 rfl) ?_
      refine lv_iconst (v := 4) hx hb dX8_pulling_20 (by decide) ?_
      refine lv_icmp_eq (tgt := 30) hx hb dX8_pulling_21 (by decide) (fun c_110 => ?_) (fun c_110 => ?_)
      · exact absurd c_110 (by decide)
      · refine lv_iload_n hx hb dX8_pulling_24 rfl (lv_at hl 0 rfl) ?_
        refine lv_bipush (v := 6) hx hb dX8_pulling_25 (by decide) ?_
        refine lv_icmp_ne (tgt := 36) hx hb dX8_pulling_27 (by decide) (fun c_111 => ?_) (fun c_111 => ?_)
        · exact absurd c_111 (by decide)
        · refine lv_aload_n hx hb dX8_pulling_30 rfl (lv_at hl 1 rfl) ?_
          refine lv_bipush (v := 51) hx hb dX8_pulling_31 (by decide) ?_
          skip
          refine zw_Vv (As := [.int 51]) (rest := []) (wr := [(mki, .inl (cI, 8, .inl gki)), (mpa, .inl (cI, 8, .inl gpa))]) ⟨hx, hb, hml, hown, hts⟩ (c_F_M_body l D cI cJ cZ cP cS po m0 mrf mki mpa mta mla msl mco mhe mso msi msh mce mca mwo mnu mte mwa mke mma mth mtr (npu) (nte) (nat_) (nde) (nto) (nse) (nhu) (nga) (nsd) (nfa) (nba) (npl) (nen) (nnu) (nwr) (q_108) (nik) q_109 (51) hy0 hy1 hy2 hy3 hy4 hy5 hy6 hy7 hy8 hy9 (by omega) (by omega) hy12 hy13 (by omega) (by omega) H.size) (cwV 1 hts gX8_pulling_X8_body rfl rfl rfl ⟨rfl, dh_X8_body⟩ ⟨Nat.le_of_ble_eq_true rfl, Nat.le_of_ble_eq_true rfl⟩) hK hN (hZ.kept hS) hP hD hS hA [2, 3] [0, 1] rfl rfl (by decide) (by decide) (by decide) (va_recv (q := (RX8, TX8, 38)) hK hP (ci := 8) (q0 := 2) rfl rfl) rfl hl.1 rfl (Nat.le_of_ble_eq_true rfl) dX8_pulling_33 ⟨Nat.le_of_ble_eq_true rfl, Nat.le_of_ble_eq_true rfl⟩ (fun u_113 H locs hr_112 hP hD hS => ?_)
          obtain ⟨q_114, q_115⟩ := u_113
          try dsimp only at hr_112
          obtain ⟨hbq_114, hsr_112_0, hr_112⟩ := hr_112
          have h9R := zRe (ws' := [(mki, .inl (cI, 8, .inl gki)), (mpa, .inl (cI, 8, .inl gpa)), (zMO m0 npu nte nat_ nde nto nse nhu nga nsd nfa mrf mki mpa mta mla msl mco mhe mso msi msh mce mca mwo mnu mte nba npl nen nnu nwr mwa mke mma mth mtr q_114 nik), (mtr, .inl (cI, 20, .inl q_115))]) hP hD rfl
          clear hP hD
          obtain ⟨hP, hD⟩ := h9R
          refine lv_iload_n hx hb dX8_pulling_36 rfl (lv_at hl 0 rfl) ?_
          refine lv_iconst (v := 1) hx hb dX8_pulling_37 (by decide) ?_
          refine lv_icmp_eq (tgt := 46) hx hb dX8_pulling_38 (by decide) (fun c_116 => ?_) (fun c_116 => ?_)
          · exact absurd c_116 (by decide)
          · refine lv_iload_n hx hb dX8_pulling_41 rfl (lv_at hl 0 rfl) ?_
            refine lv_iconst (v := 3) hx hb dX8_pulling_42 (by decide) ?_
            refine lv_icmp_ne (tgt := 52) hx hb dX8_pulling_43 (by decide) (fun c_117 => ?_) (fun c_117 => ?_)
            · refine lv_aload_n hx hb dX8_pulling_52 rfl (lv_at hl 1 rfl) ?_
              refine lv_bipush (v := 10) hx hb dX8_pulling_53 (by decide) ?_
              skip
              refine zw_Vv (As := [.int 10]) (rest := []) (wr := [(mki, .inl (cI, 8, .inl gki)), (mpa, .inl (cI, 8, .inl gpa))]) ⟨hx, hb, hml, hown, hts⟩ (c_F_M_body l D cI cJ cZ cP cS po m0 mrf mki mpa mta mla msl mco mhe mso msi msh mce mca mwo mnu mte mwa mke mma mth mtr (npu) (nte) (nat_) (nde) (nto) (nse) (nhu) (nga) (nsd) (nfa) (nba) (npl) (nen) (nnu) (nwr) (q_114) (nik) q_115 (10) hy0 hy1 hy2 hy3 hy4 hy5 hy6 hy7 hy8 hy9 (by omega) (by omega) hy12 hy13 (by omega) (by omega) H.size) (cwV 1 hts gX8_pulling_X8_body rfl rfl rfl ⟨rfl, dh_X8_body⟩ ⟨Nat.le_of_ble_eq_true rfl, Nat.le_of_ble_eq_true rfl⟩) hK hN (hZ.kept hS) hP hD hS hA [2, 3] [0, 1] rfl rfl (by decide) (by decide) (by decide) (va_recv (q := (RX8, TX8, 38)) hK hP (ci := 8) (q0 := 2) rfl rfl) rfl hl.1 rfl (Nat.le_of_ble_eq_true rfl) dX8_pulling_55 ⟨Nat.le_of_ble_eq_true rfl, Nat.le_of_ble_eq_true rfl⟩ (fun u_119 H locs hr_118 hP hD hS => ?_)
              obtain ⟨q_120, q_121⟩ := u_119
              try dsimp only at hr_118
              obtain ⟨hbq_120, hsr_118_0, hr_118⟩ := hr_118
              have h9R := zRe (ws' := [(mki, .inl (cI, 8, .inl gki)), (mpa, .inl (cI, 8, .inl gpa)), (zMO m0 npu nte nat_ nde nto nse nhu nga nsd nfa mrf mki mpa mta mla msl mco mhe mso msi msh mce mca mwo mnu mte nba npl nen nnu nwr mwa mke mma mth mtr q_120 nik), (mtr, .inl (cI, 20, .inl q_121))]) hP hD rfl
              clear hP hD
              obtain ⟨hP, hD⟩ := h9R
              refine lv_iload_n hx hb dX8_pulling_58 rfl (lv_at hl 3 rfl) ?_
              refine lv_iload_n hx hb dX8_pulling_59 rfl (lv_at hl 2 rfl) ?_
              refine lv_iadd hx hb dX8_pulling_60 ?_
              refine lv_topi (fun x_122 ex_122 => ?_)
              refine lv_istore (lv' := [(4, .int x_122), (3, .int 6), (0, .ref m0), (1, .int p_), (2, .int x)]) hx hb dX8_pulling_61 hl (by decide) rfl (fun ls hl => ?_)
              refine lv_iload_n hx hb dX8_pulling_63 rfl (lv_at hl 1 rfl) ?_
              refine lv_iconst (v := 1) hx hb dX8_pulling_64 (by decide) ?_
              refine lv_icmp_eq (tgt := 73) hx hb dX8_pulling_65 (by decide) (fun c_123 => ?_) (fun c_123 => ?_)
              · exact absurd c_123 (by decide)
              · refine lv_iload_n hx hb dX8_pulling_68 rfl (lv_at hl 1 rfl) ?_
                refine lv_iconst (v := 3) hx hb dX8_pulling_69 (by decide) ?_
                refine lv_icmp_ne (tgt := 84) hx hb dX8_pulling_70 (by decide) (fun c_124 => ?_) (fun c_124 => ?_)
                · refine lv_iload_n hx hb dX8_pulling_84 rfl (lv_at hl 1 rfl) ?_
                  refine lv_iconst (v := 4) hx hb dX8_pulling_85 (by decide) ?_
                  refine lv_icmp_eq (tgt := 95) hx hb dX8_pulling_86 (by decide) (fun c_125 => ?_) (fun c_125 => ?_)
                  · exact absurd c_125 (by decide)
                  · refine lv_iload_n hx hb dX8_pulling_89 rfl (lv_at hl 1 rfl) ?_
                    refine lv_bipush (v := 6) hx hb dX8_pulling_90 (by decide) ?_
                    refine lv_icmp_ne (tgt := 101) hx hb dX8_pulling_92 (by decide) (fun c_126 => ?_) (fun c_126 => ?_)
                    · exact absurd c_126 (by decide)
                    · refine lv_iload hx hb dX8_pulling_95 (lv_at hl 0 rfl) ?_
                      refine lv_iload_n hx hb dX8_pulling_97 rfl (lv_at hl 3 rfl) ?_
                      refine lv_isub hx hb dX8_pulling_98 ?_
                      refine lv_topi (fun x_127 ex_127 => ?_)
                      refine lv_istore (lv' := [(4, .int x_127), (3, .int 6), (0, .ref m0), (1, .int p_), (2, .int x)]) hx hb dX8_pulling_99 hl (by decide) rfl (fun ls hl => ?_)
                      refine lv_iload_n hx hb dX8_pulling_101 rfl (lv_at hl 1 rfl) ?_
                      refine lv_bipush (v := 6) hx hb dX8_pulling_102 (by decide) ?_
                      refine lv_icmp_ne (tgt := 114) hx hb dX8_pulling_104 (by decide) (fun c_128 => ?_) (fun c_128 => ?_)
                      · exact absurd c_128 (by decide)
                      · refine lv_iload hx hb dX8_pulling_107 (lv_at hl 0 rfl) ?_
                        refine lv_iconst (v := 2) hx hb dX8_pulling_109 (by decide) ?_
                        refine lv_imul hx hb dX8_pulling_110 ?_
                        refine lv_topi (fun x_129 ex_129 => ?_)
                        refine lv_goto (tgt := 116) hx hb dX8_pulling_111 (by decide) ?_
                        exact W.iret (v := x_129) hx hb hr (fun t ht hW => ⟨⟨x_129, (q_120, q_121), rfl, ⟨(show 0 ≤ q_120.toInt ∧ q_120.toInt ≤ 2000 from ⟨by omega, by omega⟩), (show (x_129 : Int32) = zQp (gki p_.toNatClampNeg).toInt x p_ (gpa p_.toNatClampNeg) from by (have hk : (gki p_.toNatClampNeg).toInt = 6 := (by rw [← ex_1]; first | done | decide); rw [hk]; unfold zQp; (repeat (first | rw [if_pos (by decide)] | rw [if_neg (by decide)])); (try rw [ex_129]); (try rw [ex_127]); (try rw [ex_122]); (try rw [ex_129]); (try rw [ex_127]); (try rw [ex_122]); first | done | rfl)), (show q_121 = zTr gtr nra.toInt (zBp (gki p_.toNatClampNeg).toInt) from by (have hk : (gki p_.toNatClampNeg).toInt = 6 := (by rw [← ex_1]; first | done | decide); have zbp0 : ((zBp 6).length : Int) = 3 := rfl; have zbf1 : ((zBf 6).length : Int) = 5 := rfl; have zbr2 : ((zBr 6).length : Int) = 10 := rfl; rw [hsr_118_0]; rw [hsr_112_0]; rw [hsr_106_0]; rw [zTr_app (by first | omega | (simp; omega) | (show _ = _ + 1; omega))]; rw [zTr_app (by first | omega | (simp; omega) | (show _ = _ + 1; omega))]; (try rw [hk]); first | done | rfl)), (show q_120.toInt = nra.toInt + ((zBp (gki p_.toNatClampNeg).toInt).length : Nat) from by (have hk : (gki p_.toNatClampNeg).toInt = 6 := (by rw [← ex_1]; first | done | decide); have zp : ((zBp 6).length : Int) = 3 := rfl; have zf : ((zBf 6).length : Int) = 5 := rfl; have zr : ((zBr 6).length : Int) = 10 := rfl; rw [hk]; omega)), trivial⟩, zRet ht hP hD [2, 0, 1, 3] (by decide) rfl⟩, hS.F ht⟩) hS.2.2 dX8_pulling_116
                · exact absurd c_124 (by decide)
            · exact absurd c_117 (by decide)
set_option maxHeartbeats 4000000 in
set_option maxRecDepth 100000 in
theorem c_F_M_freeing (l : Launch) (D : va_G) (cI cJ cZ cP cS : ClassId) (po : zPool) (m0 mrf mki mpa mta mla msl mco mhe mso msi msh mce mca mwo mnu mte mwa mke mma mth mtr : Nat) (npu nte nat_ nde nto nse nhu nga nsd nfa nba npl nen nnu nwr nra nik : Int32) (gki gpa gtr : Nat → Int32) (p_ x : Int32) (hy0 : 0 ≤ npu.toInt) (hy1 : npu.toInt ≤ 8) (hy2 : 4 ≤ nte.toInt) (hy3 : nte.toInt ≤ 40) (hy4 : 0 ≤ nat_.toInt) (hy5 : nat_.toInt ≤ 40) (hy6 : 0 ≤ nde.toInt) (hy7 : nde.toInt ≤ 24) (hy8 : 0 ≤ nhu.toInt) (hy9 : nhu.toInt ≤ 9) (hy10 : 0 ≤ nra.toInt) (hy11 : nra.toInt ≤ 2000) (hy12 : 0 ≤ nik.toInt) (hy13 : nik.toInt ≤ 1) (hy14 : 0 ≤ p_.toInt) (hy15 : p_.toInt ≤ 7) (hy16 : 0 ≤ nra.toInt) (hy17 : nra.toInt ≤ 900) (hp_gki : zRg gki (0) 6) (hp_gpa : zRg gpa (0) 9) (hpz : Nat) : Met l yX8_freeing wsX8_freeing ({ frames := 2, cells := 0, slots := 0, locals := 45 }) (va_Pc [.ref m0, .int p_, .int x] (zW D (zKT cI cJ cZ cP cS) po [(zMO m0 npu nte nat_ nde nto nse nhu nga nsd nfa mrf mki mpa mta mla msl mco mhe mso msi msh mce mca mwo mnu mte nba npl nen nnu nwr mwa mke mma mth mtr nra nik), (mki, .inl (cI, 8, .inl gki)), (mpa, .inl (cI, 8, .inl gpa)), (mtr, .inl (cI, 20, .inl gtr))] hpz)) (va_Qi (fun (r : Int32) (u : (Int32) × (Nat → Int32)) => (0 ≤ u.1.toInt ∧ u.1.toInt ≤ 2000) ∧ (r = zQf (gki p_.toNatClampNeg).toInt x p_ (gpa p_.toNatClampNeg)) ∧ (u.2 = zTr gtr nra.toInt (zBf (gki p_.toNatClampNeg).toInt)) ∧ (u.1.toInt = nra.toInt + ((zBf (gki p_.toNatClampNeg).toInt).length : Nat)) ∧ (True)) (zB D [(zMO m0 npu nte nat_ nde nto nse nhu nga nsd nfa mrf mki mpa mta mla msl mco mhe mso msi msh mce mca mwo mnu mte nba npl nen nnu nwr mwa mke mma mth mtr nra nik), (mki, .inl (cI, 8, .inl gki)), (mpa, .inl (cI, 8, .inl gpa)), (mtr, .inl (cI, 20, .inl gtr))] hpz (fun (u : (Int32) × (Nat → Int32)) => [(zMO m0 npu nte nat_ nde nto nse nhu nga nsd nfa mrf mki mpa mta mla msl mco mhe mso msi msh mce mca mwo mnu mte nba npl nen nnu nwr mwa mke mma mth mtr u.1 nik), (mki, .inl (cI, 8, .inl gki)), (mpa, .inl (cI, 8, .inl gpa)), (mtr, .inl (cI, 20, .inl u.2))])) (va_A [(zMO m0 npu nte nat_ nde nto nse nhu nga nsd nfa mrf mki mpa mta mla msl mco mhe mso msi msh mce mca mwo mnu mte nba npl nen nnu nwr mwa mke mma mth mtr nra nik), (mki, .inl (cI, 8, .inl gki)), (mpa, .inl (cI, 8, .inl gpa)), (mtr, .inl (cI, 20, .inl gtr))] hpz)) 0 0 (va_A [(zMO m0 npu nte nat_ nde nto nse nhu nga nsd nfa mrf mki mpa mta mla msl mco mhe mso msi msh mce mca mwo mnu mte nba npl nen nnu nwr mwa mke mma mth mtr nra nik), (mki, .inl (cI, 8, .inl gki)), (mpa, .inl (cI, 8, .inl gpa)), (mtr, .inl (cI, 20, .inl gtr))] hpz) := by
  refine Met.ofW (cc := cX8_freeing) (maxL := 7) (ret := (some .int)) (by decide) rfl ?_
  intro p e s m args below meth c s₁ B hml hv
  obtain ⟨rfl, hsz, hP, hK, hD0, hN, hZ⟩ := hv
  have hx := B.exec
  have hb := B.bytes
  have hr := B.returns
  have hts := atoms_spec (ws := wsX8_freeing) B.pre
  have hown : s.vm.findClass RX8 = some m.cls := findClass_of_methodNamed B.named
  have hlocks := B.notSynchronized
  subst hsz
  have hD := hD0.self (sz := s.heap.size)
  have hA := zA_of hD
  have hl := lv_entry ([.ref m0, .int p_, .int x]) (n := 7) (Nat.le_of_ble_eq_true rfl)
  rw [lg_entry_eq]
  generalize (lg_sl ([.ref m0, .int p_, .int x]) ++ List.replicate (7 - (lg_sl ([.ref m0, .int p_, .int x])).length) Slot.unset).toArray = ls at hl ⊢
  replace hl : lv_has ls 7 [(0, .ref m0), (1, .int p_), (2, .int x)] := hl
  refine zw_begin hP hD (fun H locs hP1 hS => ?_)
  clear hP
  have hP := hP1
  clear hP1
  refine lv_aload_n hx hb dX8_freeing_0 rfl (lv_at hl 0 rfl) ?_
  refine va_get (D := D) (ci := 8) (v := .ref mki) (C := RX8) (T := TX8) (N := 38) hx hb hts hi_X8_freeing_8 hown hK hP 0 rfl rfl 11 (by decide) (hts (.fieldLink RX8 29 "TheLiningsInItModel" "kind" "[I") (List.mem_of_getElem? (i := 1) rfl)) (fun _ h9 => h9) rfl dX8_freeing_1 ?_
  refine lv_iload_n hx hb dX8_freeing_4 rfl (lv_at hl 1 rfl) ?_
  refine va_iald hx hb hK hP 1 0 rfl rfl (zf_in (by omega) (by omega)) dX8_freeing_5 ?_
  refine lv_topi (fun x_1 ex_1 => ?_)
  have bx_1 : 0 ≤ x_1.toInt ∧ x_1.toInt ≤ 6 := by rw [ex_1]; exact hp_gki _
  refine lv_istore_n (lv' := [(3, .int x_1), (0, .ref m0), (1, .int p_), (2, .int x)]) hx hb dX8_freeing_6 rfl hl (by decide) rfl (fun ls hl => ?_)
  have hsp : x_1 = 0 ∨ x_1 = 1 ∨ x_1 = 2 ∨ x_1 = 3 ∨ x_1 = 4 ∨ x_1 = 5 ∨ x_1 = 6 := by
    rcases (show x_1.toInt = 0 ∨ x_1.toInt = 1 ∨ x_1.toInt = 2 ∨ x_1.toInt = 3 ∨ x_1.toInt = 4 ∨ x_1.toInt = 5 ∨ x_1.toInt = 6 by omega) with h9 | h9 | h9 | h9 | h9 | h9 | h9
    · refine Or.inl ?_; exact zf_val h9 (by decide)
    · refine Or.inr (Or.inl ?_); exact zf_val h9 (by decide)
    · refine Or.inr (Or.inr (Or.inl ?_)); exact zf_val h9 (by decide)
    · refine Or.inr (Or.inr (Or.inr (Or.inl ?_))); exact zf_val h9 (by decide)
    · refine Or.inr (Or.inr (Or.inr (Or.inr (Or.inl ?_)))); exact zf_val h9 (by decide)
    · refine Or.inr (Or.inr (Or.inr (Or.inr (Or.inr (Or.inl ?_))))); exact zf_val h9 (by decide)
    · refine Or.inr (Or.inr (Or.inr (Or.inr (Or.inr (Or.inr (?_)))))); exact zf_val h9 (by decide)
  rcases hsp with rfl | rfl | rfl | rfl | rfl | rfl | rfl
  · have kc0 : (0 : Int32).toInt = 0 := by decide
    refine lv_iload_n hx hb dX8_freeing_7 rfl (lv_at hl 3 rfl) ?_
    refine lv_istore (lv' := [(4, .int x), (3, .int 0), (0, .ref m0), (1, .int p_), (2, .int x)]) hx hb dX8_freeing_8 hl (by decide) rfl (fun ls hl => ?_)
    refine lv_iload_n hx hb dX8_freeing_10 rfl (lv_at hl 1 rfl) ?_
    refine lv_bipush (v := 6) hx hb dX8_freeing_11 (by decide) ?_
    refine lv_icmp_ne (tgt := 32) hx hb dX8_freeing_13 (by decide) (fun c_2 => ?_) (fun c_2 => ?_)
    · refine lv_iload_n hx hb dX8_freeing_32 rfl (lv_at hl 1 rfl) ?_
      refine lv_iconst (v := 3) hx hb dX8_freeing_33 (by decide) ?_
      refine lv_icmp_ne (tgt := 48) hx hb dX8_freeing_34 (by decide) (fun c_3 => ?_) (fun c_3 => ?_)
      · refine lv_iload_n hx hb dX8_freeing_48 rfl (lv_at hl 1 rfl) ?_
        refine lv_iconst (v := 2) hx hb dX8_freeing_49 (by decide) ?_
        refine lv_icmp_eq (tgt := 58) hx hb dX8_freeing_50 (by decide) (fun c_4 => ?_) (fun c_4 => ?_)
        · exact absurd c_4 (by decide)
        · refine lv_iload_n hx hb dX8_freeing_53 rfl (lv_at hl 1 rfl) ?_
          refine lv_iconst (v := 5) hx hb dX8_freeing_54 (by decide) ?_
          refine lv_icmp_ne (tgt := 62) hx hb dX8_freeing_55 (by decide) (fun c_5 => ?_) (fun c_5 => ?_)
          · refine lv_iconst (v := 0) hx hb dX8_freeing_62 (by decide) ?_
            refine lv_istore (lv' := [(5, .int 0), (4, .int x), (3, .int 0), (0, .ref m0), (1, .int p_), (2, .int x)]) hx hb dX8_freeing_63 hl (by decide) rfl (fun ls hl => ?_)
            refine lv_iload hx hb dX8_freeing_65 (lv_at hl 0 rfl) ?_
            refine lv_if_eq (tgt := 76) hx hb dX8_freeing_67 (by decide) (fun c_6 => ?_) (fun c_6 => ?_)
            · refine lv_aload_n hx hb dX8_freeing_76 rfl (lv_at hl 3 rfl) ?_
              refine lv_bipush (v := 11) hx hb dX8_freeing_77 (by decide) ?_
              skip
              refine zw_Vv (As := [.int 11]) (rest := []) (wr := [(mki, .inl (cI, 8, .inl gki)), (mpa, .inl (cI, 8, .inl gpa))]) ⟨hx, hb, hml, hown, hts⟩ (c_F_M_body l D cI cJ cZ cP cS po m0 mrf mki mpa mta mla msl mco mhe mso msi msh mce mca mwo mnu mte mwa mke mma mth mtr (npu) (nte) (nat_) (nde) (nto) (nse) (nhu) (nga) (nsd) (nfa) (nba) (npl) (nen) (nnu) (nwr) (nra) (nik) gtr (11) hy0 hy1 hy2 hy3 hy4 hy5 hy6 hy7 hy8 hy9 hy10 hy11 hy12 hy13 hy10 hy11 H.size) (cwV 1 hts gX8_freeing_X8_body rfl rfl rfl ⟨rfl, dh_X8_body⟩ ⟨Nat.le_of_ble_eq_true rfl, Nat.le_of_ble_eq_true rfl⟩) hK hN (hZ.kept hS) hP hD hS hA [0, 3] [1, 2] rfl rfl (by decide) (by decide) (by decide) (va_recv (q := (RX8, TX8, 38)) hK hP (ci := 8) (q0 := 0) rfl rfl) rfl hl.1 rfl (Nat.le_of_ble_eq_true rfl) dX8_freeing_79 ⟨Nat.le_of_ble_eq_true rfl, Nat.le_of_ble_eq_true rfl⟩ (fun u_8 H locs hr_7 hP hD hS => ?_)
              obtain ⟨q_9, q_10⟩ := u_8
              try dsimp only at hr_7
              obtain ⟨hbq_9, hsr_7_0, hr_7⟩ := hr_7
              have h9R := zRe (ws' := [(mki, .inl (cI, 8, .inl gki)), (mpa, .inl (cI, 8, .inl gpa)), (zMO m0 npu nte nat_ nde nto nse nhu nga nsd nfa mrf mki mpa mta mla msl mco mhe mso msi msh mce mca mwo mnu mte nba npl nen nnu nwr mwa mke mma mth mtr q_9 nik), (mtr, .inl (cI, 20, .inl q_10))]) hP hD rfl
              clear hP hD
              obtain ⟨hP, hD⟩ := h9R
              refine lv_aload_n hx hb dX8_freeing_82 rfl (lv_at hl 3 rfl) ?_
              refine lv_iload_n hx hb dX8_freeing_83 rfl (lv_at hl 4 rfl) ?_
              refine lv_iload hx hb dX8_freeing_84 (lv_at hl 1 rfl) ?_
              skip
              refine zw_V (As := [.int p_, .int x]) (rest := []) (wr := []) ⟨hx, hb, hml, hown, hts⟩ (c_F_M_pulling l D cI cJ cZ cP cS po m0 mrf mki mpa mta mla msl mco mhe mso msi msh mce mca mwo mnu mte mwa mke mma mth mtr (npu) (nte) (nat_) (nde) (nto) (nse) (nhu) (nga) (nsd) (nfa) (nba) (npl) (nen) (nnu) (nwr) (q_9) (nik) gki gpa q_10 (p_) (x) hy0 hy1 hy2 hy3 hy4 hy5 hy6 hy7 hy8 hy9 (by omega) (by omega) hy12 hy13 hy14 hy15 (by omega) (by omega) hp_gki hp_gpa H.size) (cwV 2 hts gX8_freeing_X8_pulling rfl rfl rfl ⟨rfl, dh_X8_pulling⟩ ⟨Nat.le_of_ble_eq_true rfl, Nat.le_of_ble_eq_true rfl⟩) hK hN (hZ.kept hS) hP hD hS hA [2, 0, 1, 3] [] rfl rfl (by decide) (by decide) (by decide) (va_recv (q := (RX8, TX8, 38)) hK hP (ci := 8) (q0 := 2) rfl rfl) rfl hl.1 rfl (Nat.le_of_ble_eq_true rfl) dX8_freeing_86 ⟨Nat.le_of_ble_eq_true rfl, Nat.le_of_ble_eq_true rfl⟩ (fun r_11 u_12 H locs hr_11 hP hD hS => ?_)
              obtain ⟨q_13, q_14⟩ := u_12
              try dsimp only at hr_11
              obtain ⟨hbq_13, hsr_11_0, hsr_11_1, hsr_11_2, hr_11⟩ := hr_11
              have h9R := zRe (ws' := [(zMO m0 npu nte nat_ nde nto nse nhu nga nsd nfa mrf mki mpa mta mla msl mco mhe mso msi msh mce mca mwo mnu mte nba npl nen nnu nwr mwa mke mma mth mtr q_13 nik), (mki, .inl (cI, 8, .inl gki)), (mpa, .inl (cI, 8, .inl gpa)), (mtr, .inl (cI, 20, .inl q_14))]) hP hD rfl
              clear hP hD
              obtain ⟨hP, hD⟩ := h9R
              refine lv_iconst (v := 2) hx hb dX8_freeing_89 (by decide) ?_
              refine lv_imul hx hb dX8_freeing_90 ?_
              refine lv_topi (fun x_15 ex_15 => ?_)
              refine lv_istore (lv' := [(6, .int x_15), (5, .int 0), (4, .int x), (3, .int 0), (0, .ref m0), (1, .int p_), (2, .int x)]) hx hb dX8_freeing_91 hl (by decide) rfl (fun ls hl => ?_)
              refine lv_iload hx hb dX8_freeing_93 (lv_at hl 1 rfl) ?_
              refine lv_if_eq (tgt := 105) hx hb dX8_freeing_95 (by decide) (fun c_16 => ?_) (fun c_16 => ?_)
              · refine lv_iload hx hb dX8_freeing_105 (lv_at hl 0 rfl) ?_
                exact W.iret (v := x_15) hx hb hr (fun t ht hW => ⟨⟨x_15, (q_13, q_14), rfl, ⟨(show 0 ≤ q_13.toInt ∧ q_13.toInt ≤ 2000 from hbq_13), (show (x_15 : Int32) = zQf (gki p_.toNatClampNeg).toInt x p_ (gpa p_.toNatClampNeg) from by (have hk : (gki p_.toNatClampNeg).toInt = 0 := (by rw [← ex_1]; first | done | decide); rw [hk]; unfold zQf; (repeat (first | rw [if_pos (by decide)] | rw [if_neg (by decide)])); (try rw [ex_15]); (try rw [hsr_11_0, hk]); (try rw [ex_15]); first | done | rfl)), (show q_14 = zTr gtr nra.toInt (zBf (gki p_.toNatClampNeg).toInt) from by (have hk : (gki p_.toNatClampNeg).toInt = 0 := (by rw [← ex_1]; first | done | decide); have zbp0 : ((zBp 0).length : Int) = 1 := rfl; have zbf1 : ((zBf 0).length : Int) = 2 := rfl; have zbr2 : ((zBr 0).length : Int) = 4 := rfl; have q0 := hsr_11_2; rw [hk] at q0; rw [hsr_11_1, hk]; rw [hsr_7_0]; rw [zTr_app (by first | omega | (simp; omega) | (show _ = _ + 1; omega))]; (try rw [hk]); first | done | rfl)), (show q_13.toInt = nra.toInt + ((zBf (gki p_.toNatClampNeg).toInt).length : Nat) from by (have hk : (gki p_.toNatClampNeg).toInt = 0 := (by rw [← ex_1]; first | done | decide); have zp : ((zBp 0).length : Int) = 1 := rfl; have zf : ((zBf 0).length : Int) = 2 := rfl; have zr : ((zBr 0).length : Int) = 4 := rfl; have q0 := hsr_11_2; rw [hk] at q0; rw [hk]; omega)), trivial⟩, zRet ht hP hD [0, 1, 2, 3] (by decide) rfl⟩, hS.F ht⟩) hS.2.2 dX8_freeing_107
              · exact absurd c_16 (by decide)
            · exact absurd c_6 (by decide)
          · exact absurd c_5 (by decide)
      · exact absurd c_3 (by decide)
    · exact absurd c_2 (by decide)
  · have kc1 : (1 : Int32).toInt = 1 := by decide
    refine lv_iload_n hx hb dX8_freeing_7 rfl (lv_at hl 3 rfl) ?_
    refine lv_istore (lv' := [(4, .int x), (3, .int 1), (0, .ref m0), (1, .int p_), (2, .int x)]) hx hb dX8_freeing_8 hl (by decide) rfl (fun ls hl => ?_)
    refine lv_iload_n hx hb dX8_freeing_10 rfl (lv_at hl 1 rfl) ?_
    refine lv_bipush (v := 6) hx hb dX8_freeing_11 (by decide) ?_
    refine lv_icmp_ne (tgt := 32) hx hb dX8_freeing_13 (by decide) (fun c_17 => ?_) (fun c_17 => ?_)
    · refine lv_iload_n hx hb dX8_freeing_32 rfl (lv_at hl 1 rfl) ?_
      refine lv_iconst (v := 3) hx hb dX8_freeing_33 (by decide) ?_
      refine lv_icmp_ne (tgt := 48) hx hb dX8_freeing_34 (by decide) (fun c_18 => ?_) (fun c_18 => ?_)
      · refine lv_iload_n hx hb dX8_freeing_48 rfl (lv_at hl 1 rfl) ?_
        refine lv_iconst (v := 2) hx hb dX8_freeing_49 (by decide) ?_
        refine lv_icmp_eq (tgt := 58) hx hb dX8_freeing_50 (by decide) (fun c_19 => ?_) (fun c_19 => ?_)
        · exact absurd c_19 (by decide)
        · refine lv_iload_n hx hb dX8_freeing_53 rfl (lv_at hl 1 rfl) ?_
          refine lv_iconst (v := 5) hx hb dX8_freeing_54 (by decide) ?_
          refine lv_icmp_ne (tgt := 62) hx hb dX8_freeing_55 (by decide) (fun c_20 => ?_) (fun c_20 => ?_)
          · refine lv_iconst (v := 0) hx hb dX8_freeing_62 (by decide) ?_
            refine lv_istore (lv' := [(5, .int 0), (4, .int x), (3, .int 1), (0, .ref m0), (1, .int p_), (2, .int x)]) hx hb dX8_freeing_63 hl (by decide) rfl (fun ls hl => ?_)
            refine lv_iload hx hb dX8_freeing_65 (lv_at hl 0 rfl) ?_
            refine lv_if_eq (tgt := 76) hx hb dX8_freeing_67 (by decide) (fun c_21 => ?_) (fun c_21 => ?_)
            · refine lv_aload_n hx hb dX8_freeing_76 rfl (lv_at hl 3 rfl) ?_
              refine lv_bipush (v := 11) hx hb dX8_freeing_77 (by decide) ?_
              skip
              refine zw_Vv (As := [.int 11]) (rest := []) (wr := [(mki, .inl (cI, 8, .inl gki)), (mpa, .inl (cI, 8, .inl gpa))]) ⟨hx, hb, hml, hown, hts⟩ (c_F_M_body l D cI cJ cZ cP cS po m0 mrf mki mpa mta mla msl mco mhe mso msi msh mce mca mwo mnu mte mwa mke mma mth mtr (npu) (nte) (nat_) (nde) (nto) (nse) (nhu) (nga) (nsd) (nfa) (nba) (npl) (nen) (nnu) (nwr) (nra) (nik) gtr (11) hy0 hy1 hy2 hy3 hy4 hy5 hy6 hy7 hy8 hy9 hy10 hy11 hy12 hy13 hy10 hy11 H.size) (cwV 1 hts gX8_freeing_X8_body rfl rfl rfl ⟨rfl, dh_X8_body⟩ ⟨Nat.le_of_ble_eq_true rfl, Nat.le_of_ble_eq_true rfl⟩) hK hN (hZ.kept hS) hP hD hS hA [0, 3] [1, 2] rfl rfl (by decide) (by decide) (by decide) (va_recv (q := (RX8, TX8, 38)) hK hP (ci := 8) (q0 := 0) rfl rfl) rfl hl.1 rfl (Nat.le_of_ble_eq_true rfl) dX8_freeing_79 ⟨Nat.le_of_ble_eq_true rfl, Nat.le_of_ble_eq_true rfl⟩ (fun u_23 H locs hr_22 hP hD hS => ?_)
              obtain ⟨q_24, q_25⟩ := u_23
              try dsimp only at hr_22
              obtain ⟨hbq_24, hsr_22_0, hr_22⟩ := hr_22
              have h9R := zRe (ws' := [(mki, .inl (cI, 8, .inl gki)), (mpa, .inl (cI, 8, .inl gpa)), (zMO m0 npu nte nat_ nde nto nse nhu nga nsd nfa mrf mki mpa mta mla msl mco mhe mso msi msh mce mca mwo mnu mte nba npl nen nnu nwr mwa mke mma mth mtr q_24 nik), (mtr, .inl (cI, 20, .inl q_25))]) hP hD rfl
              clear hP hD
              obtain ⟨hP, hD⟩ := h9R
              refine lv_aload_n hx hb dX8_freeing_82 rfl (lv_at hl 3 rfl) ?_
              refine lv_iload_n hx hb dX8_freeing_83 rfl (lv_at hl 4 rfl) ?_
              refine lv_iload hx hb dX8_freeing_84 (lv_at hl 1 rfl) ?_
              skip
              refine zw_V (As := [.int p_, .int x]) (rest := []) (wr := []) ⟨hx, hb, hml, hown, hts⟩ (c_F_M_pulling l D cI cJ cZ cP cS po m0 mrf mki mpa mta mla msl mco mhe mso msi msh mce mca mwo mnu mte mwa mke mma mth mtr (npu) (nte) (nat_) (nde) (nto) (nse) (nhu) (nga) (nsd) (nfa) (nba) (npl) (nen) (nnu) (nwr) (q_24) (nik) gki gpa q_25 (p_) (x) hy0 hy1 hy2 hy3 hy4 hy5 hy6 hy7 hy8 hy9 (by omega) (by omega) hy12 hy13 hy14 hy15 (by omega) (by omega) hp_gki hp_gpa H.size) (cwV 2 hts gX8_freeing_X8_pulling rfl rfl rfl ⟨rfl, dh_X8_pulling⟩ ⟨Nat.le_of_ble_eq_true rfl, Nat.le_of_ble_eq_true rfl⟩) hK hN (hZ.kept hS) hP hD hS hA [2, 0, 1, 3] [] rfl rfl (by decide) (by decide) (by decide) (va_recv (q := (RX8, TX8, 38)) hK hP (ci := 8) (q0 := 2) rfl rfl) rfl hl.1 rfl (Nat.le_of_ble_eq_true rfl) dX8_freeing_86 ⟨Nat.le_of_ble_eq_true rfl, Nat.le_of_ble_eq_true rfl⟩ (fun r_26 u_27 H locs hr_26 hP hD hS => ?_)
              obtain ⟨q_28, q_29⟩ := u_27
              try dsimp only at hr_26
              obtain ⟨hbq_28, hsr_26_0, hsr_26_1, hsr_26_2, hr_26⟩ := hr_26
              have h9R := zRe (ws' := [(zMO m0 npu nte nat_ nde nto nse nhu nga nsd nfa mrf mki mpa mta mla msl mco mhe mso msi msh mce mca mwo mnu mte nba npl nen nnu nwr mwa mke mma mth mtr q_28 nik), (mki, .inl (cI, 8, .inl gki)), (mpa, .inl (cI, 8, .inl gpa)), (mtr, .inl (cI, 20, .inl q_29))]) hP hD rfl
              clear hP hD
              obtain ⟨hP, hD⟩ := h9R
              refine lv_iconst (v := 2) hx hb dX8_freeing_89 (by decide) ?_
              refine lv_imul hx hb dX8_freeing_90 ?_
              refine lv_topi (fun x_30 ex_30 => ?_)
              refine lv_istore (lv' := [(6, .int x_30), (5, .int 0), (4, .int x), (3, .int 1), (0, .ref m0), (1, .int p_), (2, .int x)]) hx hb dX8_freeing_91 hl (by decide) rfl (fun ls hl => ?_)
              refine lv_iload hx hb dX8_freeing_93 (lv_at hl 1 rfl) ?_
              refine lv_if_eq (tgt := 105) hx hb dX8_freeing_95 (by decide) (fun c_31 => ?_) (fun c_31 => ?_)
              · refine lv_iload hx hb dX8_freeing_105 (lv_at hl 0 rfl) ?_
                exact W.iret (v := x_30) hx hb hr (fun t ht hW => ⟨⟨x_30, (q_28, q_29), rfl, ⟨(show 0 ≤ q_28.toInt ∧ q_28.toInt ≤ 2000 from hbq_28), (show (x_30 : Int32) = zQf (gki p_.toNatClampNeg).toInt x p_ (gpa p_.toNatClampNeg) from by (have hk : (gki p_.toNatClampNeg).toInt = 1 := (by rw [← ex_1]; first | done | decide); rw [hk]; unfold zQf; (repeat (first | rw [if_pos (by decide)] | rw [if_neg (by decide)])); (try rw [ex_30]); (try rw [hsr_26_0, hk]); (try rw [ex_30]); first | done | rfl)), (show q_29 = zTr gtr nra.toInt (zBf (gki p_.toNatClampNeg).toInt) from by (have hk : (gki p_.toNatClampNeg).toInt = 1 := (by rw [← ex_1]; first | done | decide); have zbp0 : ((zBp 1).length : Int) = 2 := rfl; have zbf1 : ((zBf 1).length : Int) = 3 := rfl; have zbr2 : ((zBr 1).length : Int) = 6 := rfl; have q0 := hsr_26_2; rw [hk] at q0; rw [hsr_26_1, hk]; rw [hsr_22_0]; rw [zTr_app (by first | omega | (simp; omega) | (show _ = _ + 1; omega))]; (try rw [hk]); first | done | rfl)), (show q_28.toInt = nra.toInt + ((zBf (gki p_.toNatClampNeg).toInt).length : Nat) from by (have hk : (gki p_.toNatClampNeg).toInt = 1 := (by rw [← ex_1]; first | done | decide); have zp : ((zBp 1).length : Int) = 2 := rfl; have zf : ((zBf 1).length : Int) = 3 := rfl; have zr : ((zBr 1).length : Int) = 6 := rfl; have q0 := hsr_26_2; rw [hk] at q0; rw [hk]; omega)), trivial⟩, zRet ht hP hD [0, 1, 2, 3] (by decide) rfl⟩, hS.F ht⟩) hS.2.2 dX8_freeing_107
              · exact absurd c_31 (by decide)
            · exact absurd c_21 (by decide)
          · exact absurd c_20 (by decide)
      · exact absurd c_18 (by decide)
    · exact absurd c_17 (by decide)
  · have kc2 : (2 : Int32).toInt = 2 := by decide
    refine lv_iload_n hx hb dX8_freeing_7 rfl (lv_at hl 3 rfl) ?_
    refine lv_istore (lv' := [(4, .int x), (3, .int 2), (0, .ref m0), (1, .int p_), (2, .int x)]) hx hb dX8_freeing_8 hl (by decide) rfl (fun ls hl => ?_)
    refine lv_iload_n hx hb dX8_freeing_10 rfl (lv_at hl 1 rfl) ?_
    refine lv_bipush (v := 6) hx hb dX8_freeing_11 (by decide) ?_
    refine lv_icmp_ne (tgt := 32) hx hb dX8_freeing_13 (by decide) (fun c_32 => ?_) (fun c_32 => ?_)
    · refine lv_iload_n hx hb dX8_freeing_32 rfl (lv_at hl 1 rfl) ?_
      refine lv_iconst (v := 3) hx hb dX8_freeing_33 (by decide) ?_
      refine lv_icmp_ne (tgt := 48) hx hb dX8_freeing_34 (by decide) (fun c_33 => ?_) (fun c_33 => ?_)
      · refine lv_iload_n hx hb dX8_freeing_48 rfl (lv_at hl 1 rfl) ?_
        refine lv_iconst (v := 2) hx hb dX8_freeing_49 (by decide) ?_
        refine lv_icmp_eq (tgt := 58) hx hb dX8_freeing_50 (by decide) (fun c_34 => ?_) (fun c_34 => ?_)
        · refine lv_iconst (v := 1) hx hb dX8_freeing_58 (by decide) ?_
          refine lv_goto (tgt := 63) hx hb dX8_freeing_59 (by decide) ?_
          refine lv_istore (lv' := [(5, .int 1), (4, .int x), (3, .int 2), (0, .ref m0), (1, .int p_), (2, .int x)]) hx hb dX8_freeing_63 hl (by decide) rfl (fun ls hl => ?_)
          refine lv_iload hx hb dX8_freeing_65 (lv_at hl 0 rfl) ?_
          refine lv_if_eq (tgt := 76) hx hb dX8_freeing_67 (by decide) (fun c_35 => ?_) (fun c_35 => ?_)
          · exact absurd c_35 (by decide)
          · refine lv_aload_n hx hb dX8_freeing_70 rfl (lv_at hl 3 rfl) ?_
            refine lv_bipush (v := 30) hx hb dX8_freeing_71 (by decide) ?_
            skip
            refine zw_Vv (As := [.int 30]) (rest := []) (wr := [(mki, .inl (cI, 8, .inl gki)), (mpa, .inl (cI, 8, .inl gpa))]) ⟨hx, hb, hml, hown, hts⟩ (c_F_M_body l D cI cJ cZ cP cS po m0 mrf mki mpa mta mla msl mco mhe mso msi msh mce mca mwo mnu mte mwa mke mma mth mtr (npu) (nte) (nat_) (nde) (nto) (nse) (nhu) (nga) (nsd) (nfa) (nba) (npl) (nen) (nnu) (nwr) (nra) (nik) gtr (30) hy0 hy1 hy2 hy3 hy4 hy5 hy6 hy7 hy8 hy9 hy10 hy11 hy12 hy13 hy10 hy11 H.size) (cwV 1 hts gX8_freeing_X8_body rfl rfl rfl ⟨rfl, dh_X8_body⟩ ⟨Nat.le_of_ble_eq_true rfl, Nat.le_of_ble_eq_true rfl⟩) hK hN (hZ.kept hS) hP hD hS hA [0, 3] [1, 2] rfl rfl (by decide) (by decide) (by decide) (va_recv (q := (RX8, TX8, 38)) hK hP (ci := 8) (q0 := 0) rfl rfl) rfl hl.1 rfl (Nat.le_of_ble_eq_true rfl) dX8_freeing_73 ⟨Nat.le_of_ble_eq_true rfl, Nat.le_of_ble_eq_true rfl⟩ (fun u_37 H locs hr_36 hP hD hS => ?_)
            obtain ⟨q_38, q_39⟩ := u_37
            try dsimp only at hr_36
            obtain ⟨hbq_38, hsr_36_0, hr_36⟩ := hr_36
            have h9R := zRe (ws' := [(mki, .inl (cI, 8, .inl gki)), (mpa, .inl (cI, 8, .inl gpa)), (zMO m0 npu nte nat_ nde nto nse nhu nga nsd nfa mrf mki mpa mta mla msl mco mhe mso msi msh mce mca mwo mnu mte nba npl nen nnu nwr mwa mke mma mth mtr q_38 nik), (mtr, .inl (cI, 20, .inl q_39))]) hP hD rfl
            clear hP hD
            obtain ⟨hP, hD⟩ := h9R
            refine lv_aload_n hx hb dX8_freeing_76 rfl (lv_at hl 3 rfl) ?_
            refine lv_bipush (v := 11) hx hb dX8_freeing_77 (by decide) ?_
            skip
            refine zw_Vv (As := [.int 11]) (rest := []) (wr := [(mki, .inl (cI, 8, .inl gki)), (mpa, .inl (cI, 8, .inl gpa))]) ⟨hx, hb, hml, hown, hts⟩ (c_F_M_body l D cI cJ cZ cP cS po m0 mrf mki mpa mta mla msl mco mhe mso msi msh mce mca mwo mnu mte mwa mke mma mth mtr (npu) (nte) (nat_) (nde) (nto) (nse) (nhu) (nga) (nsd) (nfa) (nba) (npl) (nen) (nnu) (nwr) (q_38) (nik) q_39 (11) hy0 hy1 hy2 hy3 hy4 hy5 hy6 hy7 hy8 hy9 (by omega) (by omega) hy12 hy13 (by omega) (by omega) H.size) (cwV 1 hts gX8_freeing_X8_body rfl rfl rfl ⟨rfl, dh_X8_body⟩ ⟨Nat.le_of_ble_eq_true rfl, Nat.le_of_ble_eq_true rfl⟩) hK hN (hZ.kept hS) hP hD hS hA [2, 3] [0, 1] rfl rfl (by decide) (by decide) (by decide) (va_recv (q := (RX8, TX8, 38)) hK hP (ci := 8) (q0 := 2) rfl rfl) rfl hl.1 rfl (Nat.le_of_ble_eq_true rfl) dX8_freeing_79 ⟨Nat.le_of_ble_eq_true rfl, Nat.le_of_ble_eq_true rfl⟩ (fun u_41 H locs hr_40 hP hD hS => ?_)
            obtain ⟨q_42, q_43⟩ := u_41
            try dsimp only at hr_40
            obtain ⟨hbq_42, hsr_40_0, hr_40⟩ := hr_40
            have h9R := zRe (ws' := [(mki, .inl (cI, 8, .inl gki)), (mpa, .inl (cI, 8, .inl gpa)), (zMO m0 npu nte nat_ nde nto nse nhu nga nsd nfa mrf mki mpa mta mla msl mco mhe mso msi msh mce mca mwo mnu mte nba npl nen nnu nwr mwa mke mma mth mtr q_42 nik), (mtr, .inl (cI, 20, .inl q_43))]) hP hD rfl
            clear hP hD
            obtain ⟨hP, hD⟩ := h9R
            refine lv_aload_n hx hb dX8_freeing_82 rfl (lv_at hl 3 rfl) ?_
            refine lv_iload_n hx hb dX8_freeing_83 rfl (lv_at hl 4 rfl) ?_
            refine lv_iload hx hb dX8_freeing_84 (lv_at hl 1 rfl) ?_
            skip
            refine zw_V (As := [.int p_, .int x]) (rest := []) (wr := []) ⟨hx, hb, hml, hown, hts⟩ (c_F_M_pulling l D cI cJ cZ cP cS po m0 mrf mki mpa mta mla msl mco mhe mso msi msh mce mca mwo mnu mte mwa mke mma mth mtr (npu) (nte) (nat_) (nde) (nto) (nse) (nhu) (nga) (nsd) (nfa) (nba) (npl) (nen) (nnu) (nwr) (q_42) (nik) gki gpa q_43 (p_) (x) hy0 hy1 hy2 hy3 hy4 hy5 hy6 hy7 hy8 hy9 (by omega) (by omega) hy12 hy13 hy14 hy15 (by omega) (by omega) hp_gki hp_gpa H.size) (cwV 2 hts gX8_freeing_X8_pulling rfl rfl rfl ⟨rfl, dh_X8_pulling⟩ ⟨Nat.le_of_ble_eq_true rfl, Nat.le_of_ble_eq_true rfl⟩) hK hN (hZ.kept hS) hP hD hS hA [2, 0, 1, 3] [] rfl rfl (by decide) (by decide) (by decide) (va_recv (q := (RX8, TX8, 38)) hK hP (ci := 8) (q0 := 2) rfl rfl) rfl hl.1 rfl (Nat.le_of_ble_eq_true rfl) dX8_freeing_86 ⟨Nat.le_of_ble_eq_true rfl, Nat.le_of_ble_eq_true rfl⟩ (fun r_44 u_45 H locs hr_44 hP hD hS => ?_)
            obtain ⟨q_46, q_47⟩ := u_45
            try dsimp only at hr_44
            obtain ⟨hbq_46, hsr_44_0, hsr_44_1, hsr_44_2, hr_44⟩ := hr_44
            have h9R := zRe (ws' := [(zMO m0 npu nte nat_ nde nto nse nhu nga nsd nfa mrf mki mpa mta mla msl mco mhe mso msi msh mce mca mwo mnu mte nba npl nen nnu nwr mwa mke mma mth mtr q_46 nik), (mki, .inl (cI, 8, .inl gki)), (mpa, .inl (cI, 8, .inl gpa)), (mtr, .inl (cI, 20, .inl q_47))]) hP hD rfl
            clear hP hD
            obtain ⟨hP, hD⟩ := h9R
            refine lv_iconst (v := 2) hx hb dX8_freeing_89 (by decide) ?_
            refine lv_imul hx hb dX8_freeing_90 ?_
            refine lv_topi (fun x_48 ex_48 => ?_)
            refine lv_istore (lv' := [(6, .int x_48), (5, .int 1), (4, .int x), (3, .int 2), (0, .ref m0), (1, .int p_), (2, .int x)]) hx hb dX8_freeing_91 hl (by decide) rfl (fun ls hl => ?_)
            refine lv_iload hx hb dX8_freeing_93 (lv_at hl 1 rfl) ?_
            refine lv_if_eq (tgt := 105) hx hb dX8_freeing_95 (by decide) (fun c_49 => ?_) (fun c_49 => ?_)
            · exact absurd c_49 (by decide)
            · refine lv_iload hx hb dX8_freeing_98 (lv_at hl 0 rfl) ?_
              refine lv_iconst (v := 3) hx hb dX8_freeing_100 (by decide) ?_
              refine lv_imul hx hb dX8_freeing_101 ?_
              refine lv_topi (fun x_50 ex_50 => ?_)
              refine lv_goto (tgt := 107) hx hb dX8_freeing_102 (by decide) ?_
              exact W.iret (v := x_50) hx hb hr (fun t ht hW => ⟨⟨x_50, (q_46, q_47), rfl, ⟨(show 0 ≤ q_46.toInt ∧ q_46.toInt ≤ 2000 from hbq_46), (show (x_50 : Int32) = zQf (gki p_.toNatClampNeg).toInt x p_ (gpa p_.toNatClampNeg) from by (have hk : (gki p_.toNatClampNeg).toInt = 2 := (by rw [← ex_1]; first | done | decide); rw [hk]; unfold zQf; (repeat (first | rw [if_pos (by decide)] | rw [if_neg (by decide)])); (try rw [ex_50]); (try rw [ex_48]); (try rw [hsr_44_0, hk]); (try rw [ex_50]); (try rw [ex_48]); first | done | rfl)), (show q_47 = zTr gtr nra.toInt (zBf (gki p_.toNatClampNeg).toInt) from by (have hk : (gki p_.toNatClampNeg).toInt = 2 := (by rw [← ex_1]; first | done | decide); have zbp0 : ((zBp 2).length : Int) = 1 := rfl; have zbf1 : ((zBf 2).length : Int) = 3 := rfl; have zbr2 : ((zBr 2).length : Int) = 5 := rfl; have q0 := hsr_44_2; rw [hk] at q0; rw [hsr_44_1, hk]; rw [hsr_40_0]; rw [hsr_36_0]; rw [zTr_app (by first | omega | (simp; omega) | (show _ = _ + 1; omega))]; rw [zTr_app (by first | omega | (simp; omega) | (show _ = _ + 1; omega))]; (try rw [hk]); first | done | rfl)), (show q_46.toInt = nra.toInt + ((zBf (gki p_.toNatClampNeg).toInt).length : Nat) from by (have hk : (gki p_.toNatClampNeg).toInt = 2 := (by rw [← ex_1]; first | done | decide); have zp : ((zBp 2).length : Int) = 1 := rfl; have zf : ((zBf 2).length : Int) = 3 := rfl; have zr : ((zBr 2).length : Int) = 5 := rfl; have q0 := hsr_44_2; rw [hk] at q0; rw [hk]; omega)), trivial⟩, zRet ht hP hD [0, 1, 2, 3] (by decide) rfl⟩, hS.F ht⟩) hS.2.2 dX8_freeing_107
        · exact absurd c_34 (by decide)
      · exact absurd c_33 (by decide)
    · exact absurd c_32 (by decide)
  · have kc3 : (3 : Int32).toInt = 3 := by decide
    refine lv_iload_n hx hb dX8_freeing_7 rfl (lv_at hl 3 rfl) ?_
    refine lv_istore (lv' := [(4, .int x), (3, .int 3), (0, .ref m0), (1, .int p_), (2, .int x)]) hx hb dX8_freeing_8 hl (by decide) rfl (fun ls hl => ?_)
    refine lv_iload_n hx hb dX8_freeing_10 rfl (lv_at hl 1 rfl) ?_
    refine lv_bipush (v := 6) hx hb dX8_freeing_11 (by decide) ?_
    refine lv_icmp_ne (tgt := 32) hx hb dX8_freeing_13 (by decide) (fun c_51 => ?_) (fun c_51 => ?_)
    · refine lv_iload_n hx hb dX8_freeing_32 rfl (lv_at hl 1 rfl) ?_
      refine lv_iconst (v := 3) hx hb dX8_freeing_33 (by decide) ?_
      refine lv_icmp_ne (tgt := 48) hx hb dX8_freeing_34 (by decide) (fun c_52 => ?_) (fun c_52 => ?_)
      · exact absurd c_52 (by decide)
      · refine lv_aload_n hx hb dX8_freeing_37 rfl (lv_at hl 2 rfl) ?_
        refine lv_bipush (v := 40) hx hb dX8_freeing_38 (by decide) ?_
        skip
        refine zw_Vv (As := [.int 40]) (rest := []) (wr := [(mki, .inl (cI, 8, .inl gki)), (mpa, .inl (cI, 8, .inl gpa))]) ⟨hx, hb, hml, hown, hts⟩ (c_F_M_body l D cI cJ cZ cP cS po m0 mrf mki mpa mta mla msl mco mhe mso msi msh mce mca mwo mnu mte mwa mke mma mth mtr (npu) (nte) (nat_) (nde) (nto) (nse) (nhu) (nga) (nsd) (nfa) (nba) (npl) (nen) (nnu) (nwr) (nra) (nik) gtr (40) hy0 hy1 hy2 hy3 hy4 hy5 hy6 hy7 hy8 hy9 hy10 hy11 hy12 hy13 hy10 hy11 H.size) (cwV 1 hts gX8_freeing_X8_body rfl rfl rfl ⟨rfl, dh_X8_body⟩ ⟨Nat.le_of_ble_eq_true rfl, Nat.le_of_ble_eq_true rfl⟩) hK hN (hZ.kept hS) hP hD hS hA [0, 3] [1, 2] rfl rfl (by decide) (by decide) (by decide) (va_recv (q := (RX8, TX8, 38)) hK hP (ci := 8) (q0 := 0) rfl rfl) rfl hl.1 rfl (Nat.le_of_ble_eq_true rfl) dX8_freeing_40 ⟨Nat.le_of_ble_eq_true rfl, Nat.le_of_ble_eq_true rfl⟩ (fun u_54 H locs hr_53 hP hD hS => ?_)
        obtain ⟨q_55, q_56⟩ := u_54
        try dsimp only at hr_53
        obtain ⟨hbq_55, hsr_53_0, hr_53⟩ := hr_53
        have h9R := zRe (ws' := [(mki, .inl (cI, 8, .inl gki)), (mpa, .inl (cI, 8, .inl gpa)), (zMO m0 npu nte nat_ nde nto nse nhu nga nsd nfa mrf mki mpa mta mla msl mco mhe mso msi msh mce mca mwo mnu mte nba npl nen nnu nwr mwa mke mma mth mtr q_55 nik), (mtr, .inl (cI, 20, .inl q_56))]) hP hD rfl
        clear hP hD
        obtain ⟨hP, hD⟩ := h9R
        refine lv_iload_n hx hb dX8_freeing_43 rfl (lv_at hl 4 rfl) ?_
        refine lv_iconst (v := 1) hx hb dX8_freeing_44 (by decide) ?_
        refine lv_iadd hx hb dX8_freeing_45 ?_
        refine lv_topi (fun x_57 ex_57 => ?_)
        refine lv_istore (lv' := [(4, .int x_57), (3, .int 3), (0, .ref m0), (1, .int p_), (2, .int x)]) hx hb dX8_freeing_46 hl (by decide) rfl (fun ls hl => ?_)
        refine lv_iload_n hx hb dX8_freeing_48 rfl (lv_at hl 1 rfl) ?_
        refine lv_iconst (v := 2) hx hb dX8_freeing_49 (by decide) ?_
        refine lv_icmp_eq (tgt := 58) hx hb dX8_freeing_50 (by decide) (fun c_58 => ?_) (fun c_58 => ?_)
        · exact absurd c_58 (by decide)
        · refine lv_iload_n hx hb dX8_freeing_53 rfl (lv_at hl 1 rfl) ?_
          refine lv_iconst (v := 5) hx hb dX8_freeing_54 (by decide) ?_
          refine lv_icmp_ne (tgt := 62) hx hb dX8_freeing_55 (by decide) (fun c_59 => ?_) (fun c_59 => ?_)
          · refine lv_iconst (v := 0) hx hb dX8_freeing_62 (by decide) ?_
            refine lv_istore (lv' := [(5, .int 0), (4, .int x_57), (3, .int 3), (0, .ref m0), (1, .int p_), (2, .int x)]) hx hb dX8_freeing_63 hl (by decide) rfl (fun ls hl => ?_)
            refine lv_iload hx hb dX8_freeing_65 (lv_at hl 0 rfl) ?_
            refine lv_if_eq (tgt := 76) hx hb dX8_freeing_67 (by decide) (fun c_60 => ?_) (fun c_60 => ?_)
            · refine lv_aload_n hx hb dX8_freeing_76 rfl (lv_at hl 3 rfl) ?_
              refine lv_bipush (v := 11) hx hb dX8_freeing_77 (by decide) ?_
              skip
              refine zw_Vv (As := [.int 11]) (rest := []) (wr := [(mki, .inl (cI, 8, .inl gki)), (mpa, .inl (cI, 8, .inl gpa))]) ⟨hx, hb, hml, hown, hts⟩ (c_F_M_body l D cI cJ cZ cP cS po m0 mrf mki mpa mta mla msl mco mhe mso msi msh mce mca mwo mnu mte mwa mke mma mth mtr (npu) (nte) (nat_) (nde) (nto) (nse) (nhu) (nga) (nsd) (nfa) (nba) (npl) (nen) (nnu) (nwr) (q_55) (nik) q_56 (11) hy0 hy1 hy2 hy3 hy4 hy5 hy6 hy7 hy8 hy9 (by omega) (by omega) hy12 hy13 (by omega) (by omega) H.size) (cwV 1 hts gX8_freeing_X8_body rfl rfl rfl ⟨rfl, dh_X8_body⟩ ⟨Nat.le_of_ble_eq_true rfl, Nat.le_of_ble_eq_true rfl⟩) hK hN (hZ.kept hS) hP hD hS hA [2, 3] [0, 1] rfl rfl (by decide) (by decide) (by decide) (va_recv (q := (RX8, TX8, 38)) hK hP (ci := 8) (q0 := 2) rfl rfl) rfl hl.1 rfl (Nat.le_of_ble_eq_true rfl) dX8_freeing_79 ⟨Nat.le_of_ble_eq_true rfl, Nat.le_of_ble_eq_true rfl⟩ (fun u_62 H locs hr_61 hP hD hS => ?_)
              obtain ⟨q_63, q_64⟩ := u_62
              try dsimp only at hr_61
              obtain ⟨hbq_63, hsr_61_0, hr_61⟩ := hr_61
              have h9R := zRe (ws' := [(mki, .inl (cI, 8, .inl gki)), (mpa, .inl (cI, 8, .inl gpa)), (zMO m0 npu nte nat_ nde nto nse nhu nga nsd nfa mrf mki mpa mta mla msl mco mhe mso msi msh mce mca mwo mnu mte nba npl nen nnu nwr mwa mke mma mth mtr q_63 nik), (mtr, .inl (cI, 20, .inl q_64))]) hP hD rfl
              clear hP hD
              obtain ⟨hP, hD⟩ := h9R
              refine lv_aload_n hx hb dX8_freeing_82 rfl (lv_at hl 3 rfl) ?_
              refine lv_iload_n hx hb dX8_freeing_83 rfl (lv_at hl 4 rfl) ?_
              refine lv_iload hx hb dX8_freeing_84 (lv_at hl 1 rfl) ?_
              skip
              refine zw_V (As := [.int p_, .int x_57]) (rest := []) (wr := []) ⟨hx, hb, hml, hown, hts⟩ (c_F_M_pulling l D cI cJ cZ cP cS po m0 mrf mki mpa mta mla msl mco mhe mso msi msh mce mca mwo mnu mte mwa mke mma mth mtr (npu) (nte) (nat_) (nde) (nto) (nse) (nhu) (nga) (nsd) (nfa) (nba) (npl) (nen) (nnu) (nwr) (q_63) (nik) gki gpa q_64 (p_) (x_57) hy0 hy1 hy2 hy3 hy4 hy5 hy6 hy7 hy8 hy9 (by omega) (by omega) hy12 hy13 hy14 hy15 (by omega) (by omega) hp_gki hp_gpa H.size) (cwV 2 hts gX8_freeing_X8_pulling rfl rfl rfl ⟨rfl, dh_X8_pulling⟩ ⟨Nat.le_of_ble_eq_true rfl, Nat.le_of_ble_eq_true rfl⟩) hK hN (hZ.kept hS) hP hD hS hA [2, 0, 1, 3] [] rfl rfl (by decide) (by decide) (by decide) (va_recv (q := (RX8, TX8, 38)) hK hP (ci := 8) (q0 := 2) rfl rfl) rfl hl.1 rfl (Nat.le_of_ble_eq_true rfl) dX8_freeing_86 ⟨Nat.le_of_ble_eq_true rfl, Nat.le_of_ble_eq_true rfl⟩ (fun r_65 u_66 H locs hr_65 hP hD hS => ?_)
              obtain ⟨q_67, q_68⟩ := u_66
              try dsimp only at hr_65
              obtain ⟨hbq_67, hsr_65_0, hsr_65_1, hsr_65_2, hr_65⟩ := hr_65
              have h9R := zRe (ws' := [(zMO m0 npu nte nat_ nde nto nse nhu nga nsd nfa mrf mki mpa mta mla msl mco mhe mso msi msh mce mca mwo mnu mte nba npl nen nnu nwr mwa mke mma mth mtr q_67 nik), (mki, .inl (cI, 8, .inl gki)), (mpa, .inl (cI, 8, .inl gpa)), (mtr, .inl (cI, 20, .inl q_68))]) hP hD rfl
              clear hP hD
              obtain ⟨hP, hD⟩ := h9R
              refine lv_iconst (v := 2) hx hb dX8_freeing_89 (by decide) ?_
              refine lv_imul hx hb dX8_freeing_90 ?_
              refine lv_topi (fun x_69 ex_69 => ?_)
              refine lv_istore (lv' := [(6, .int x_69), (5, .int 0), (4, .int x_57), (3, .int 3), (0, .ref m0), (1, .int p_), (2, .int x)]) hx hb dX8_freeing_91 hl (by decide) rfl (fun ls hl => ?_)
              refine lv_iload hx hb dX8_freeing_93 (lv_at hl 1 rfl) ?_
              refine lv_if_eq (tgt := 105) hx hb dX8_freeing_95 (by decide) (fun c_70 => ?_) (fun c_70 => ?_)
              · refine lv_iload hx hb dX8_freeing_105 (lv_at hl 0 rfl) ?_
                exact W.iret (v := x_69) hx hb hr (fun t ht hW => ⟨⟨x_69, (q_67, q_68), rfl, ⟨(show 0 ≤ q_67.toInt ∧ q_67.toInt ≤ 2000 from hbq_67), (show (x_69 : Int32) = zQf (gki p_.toNatClampNeg).toInt x p_ (gpa p_.toNatClampNeg) from by (have hk : (gki p_.toNatClampNeg).toInt = 3 := (by rw [← ex_1]; first | done | decide); rw [hk]; unfold zQf; (repeat (first | rw [if_pos (by decide)] | rw [if_neg (by decide)])); (try rw [ex_69]); (try rw [ex_57]); (try rw [hsr_65_0, hk]); (try rw [ex_69]); (try rw [ex_57]); first | done | rfl)), (show q_68 = zTr gtr nra.toInt (zBf (gki p_.toNatClampNeg).toInt) from by (have hk : (gki p_.toNatClampNeg).toInt = 3 := (by rw [← ex_1]; first | done | decide); have zbp0 : ((zBp 3).length : Int) = 2 := rfl; have zbf1 : ((zBf 3).length : Int) = 4 := rfl; have zbr2 : ((zBr 3).length : Int) = 7 := rfl; have q0 := hsr_65_2; rw [hk] at q0; rw [hsr_65_1, hk]; rw [hsr_61_0]; rw [hsr_53_0]; rw [zTr_app (by first | omega | (simp; omega) | (show _ = _ + 1; omega))]; rw [zTr_app (by first | omega | (simp; omega) | (show _ = _ + 1; omega))]; (try rw [hk]); first | done | rfl)), (show q_67.toInt = nra.toInt + ((zBf (gki p_.toNatClampNeg).toInt).length : Nat) from by (have hk : (gki p_.toNatClampNeg).toInt = 3 := (by rw [← ex_1]; first | done | decide); have zp : ((zBp 3).length : Int) = 2 := rfl; have zf : ((zBf 3).length : Int) = 4 := rfl; have zr : ((zBr 3).length : Int) = 7 := rfl; have q0 := hsr_65_2; rw [hk] at q0; rw [hk]; omega)), trivial⟩, zRet ht hP hD [0, 1, 2, 3] (by decide) rfl⟩, hS.F ht⟩) hS.2.2 dX8_freeing_107
              · exact absurd c_70 (by decide)
            · exact absurd c_60 (by decide)
          · exact absurd c_59 (by decide)
    · exact absurd c_51 (by decide)
  · have kc4 : (4 : Int32).toInt = 4 := by decide
    refine lv_iload_n hx hb dX8_freeing_7 rfl (lv_at hl 3 rfl) ?_
    refine lv_istore (lv' := [(4, .int x), (3, .int 4), (0, .ref m0), (1, .int p_), (2, .int x)]) hx hb dX8_freeing_8 hl (by decide) rfl (fun ls hl => ?_)
    refine lv_iload_n hx hb dX8_freeing_10 rfl (lv_at hl 1 rfl) ?_
    refine lv_bipush (v := 6) hx hb dX8_freeing_11 (by decide) ?_
    refine lv_icmp_ne (tgt := 32) hx hb dX8_freeing_13 (by decide) (fun c_71 => ?_) (fun c_71 => ?_)
    · refine lv_iload_n hx hb dX8_freeing_32 rfl (lv_at hl 1 rfl) ?_
      refine lv_iconst (v := 3) hx hb dX8_freeing_33 (by decide) ?_
      refine lv_icmp_ne (tgt := 48) hx hb dX8_freeing_34 (by decide) (fun c_72 => ?_) (fun c_72 => ?_)
      · refine lv_iload_n hx hb dX8_freeing_48 rfl (lv_at hl 1 rfl) ?_
        refine lv_iconst (v := 2) hx hb dX8_freeing_49 (by decide) ?_
        refine lv_icmp_eq (tgt := 58) hx hb dX8_freeing_50 (by decide) (fun c_73 => ?_) (fun c_73 => ?_)
        · exact absurd c_73 (by decide)
        · refine lv_iload_n hx hb dX8_freeing_53 rfl (lv_at hl 1 rfl) ?_
          refine lv_iconst (v := 5) hx hb dX8_freeing_54 (by decide) ?_
          refine lv_icmp_ne (tgt := 62) hx hb dX8_freeing_55 (by decide) (fun c_74 => ?_) (fun c_74 => ?_)
          · refine lv_iconst (v := 0) hx hb dX8_freeing_62 (by decide) ?_
            refine lv_istore (lv' := [(5, .int 0), (4, .int x), (3, .int 4), (0, .ref m0), (1, .int p_), (2, .int x)]) hx hb dX8_freeing_63 hl (by decide) rfl (fun ls hl => ?_)
            refine lv_iload hx hb dX8_freeing_65 (lv_at hl 0 rfl) ?_
            refine lv_if_eq (tgt := 76) hx hb dX8_freeing_67 (by decide) (fun c_75 => ?_) (fun c_75 => ?_)
            · refine lv_aload_n hx hb dX8_freeing_76 rfl (lv_at hl 3 rfl) ?_
              refine lv_bipush (v := 11) hx hb dX8_freeing_77 (by decide) ?_
              skip
              refine zw_Vv (As := [.int 11]) (rest := []) (wr := [(mki, .inl (cI, 8, .inl gki)), (mpa, .inl (cI, 8, .inl gpa))]) ⟨hx, hb, hml, hown, hts⟩ (c_F_M_body l D cI cJ cZ cP cS po m0 mrf mki mpa mta mla msl mco mhe mso msi msh mce mca mwo mnu mte mwa mke mma mth mtr (npu) (nte) (nat_) (nde) (nto) (nse) (nhu) (nga) (nsd) (nfa) (nba) (npl) (nen) (nnu) (nwr) (nra) (nik) gtr (11) hy0 hy1 hy2 hy3 hy4 hy5 hy6 hy7 hy8 hy9 hy10 hy11 hy12 hy13 hy10 hy11 H.size) (cwV 1 hts gX8_freeing_X8_body rfl rfl rfl ⟨rfl, dh_X8_body⟩ ⟨Nat.le_of_ble_eq_true rfl, Nat.le_of_ble_eq_true rfl⟩) hK hN (hZ.kept hS) hP hD hS hA [0, 3] [1, 2] rfl rfl (by decide) (by decide) (by decide) (va_recv (q := (RX8, TX8, 38)) hK hP (ci := 8) (q0 := 0) rfl rfl) rfl hl.1 rfl (Nat.le_of_ble_eq_true rfl) dX8_freeing_79 ⟨Nat.le_of_ble_eq_true rfl, Nat.le_of_ble_eq_true rfl⟩ (fun u_77 H locs hr_76 hP hD hS => ?_)
              obtain ⟨q_78, q_79⟩ := u_77
              try dsimp only at hr_76
              obtain ⟨hbq_78, hsr_76_0, hr_76⟩ := hr_76
              have h9R := zRe (ws' := [(mki, .inl (cI, 8, .inl gki)), (mpa, .inl (cI, 8, .inl gpa)), (zMO m0 npu nte nat_ nde nto nse nhu nga nsd nfa mrf mki mpa mta mla msl mco mhe mso msi msh mce mca mwo mnu mte nba npl nen nnu nwr mwa mke mma mth mtr q_78 nik), (mtr, .inl (cI, 20, .inl q_79))]) hP hD rfl
              clear hP hD
              obtain ⟨hP, hD⟩ := h9R
              refine lv_aload_n hx hb dX8_freeing_82 rfl (lv_at hl 3 rfl) ?_
              refine lv_iload_n hx hb dX8_freeing_83 rfl (lv_at hl 4 rfl) ?_
              refine lv_iload hx hb dX8_freeing_84 (lv_at hl 1 rfl) ?_
              skip
              refine zw_V (As := [.int p_, .int x]) (rest := []) (wr := []) ⟨hx, hb, hml, hown, hts⟩ (c_F_M_pulling l D cI cJ cZ cP cS po m0 mrf mki mpa mta mla msl mco mhe mso msi msh mce mca mwo mnu mte mwa mke mma mth mtr (npu) (nte) (nat_) (nde) (nto) (nse) (nhu) (nga) (nsd) (nfa) (nba) (npl) (nen) (nnu) (nwr) (q_78) (nik) gki gpa q_79 (p_) (x) hy0 hy1 hy2 hy3 hy4 hy5 hy6 hy7 hy8 hy9 (by omega) (by omega) hy12 hy13 hy14 hy15 (by omega) (by omega) hp_gki hp_gpa H.size) (cwV 2 hts gX8_freeing_X8_pulling rfl rfl rfl ⟨rfl, dh_X8_pulling⟩ ⟨Nat.le_of_ble_eq_true rfl, Nat.le_of_ble_eq_true rfl⟩) hK hN (hZ.kept hS) hP hD hS hA [2, 0, 1, 3] [] rfl rfl (by decide) (by decide) (by decide) (va_recv (q := (RX8, TX8, 38)) hK hP (ci := 8) (q0 := 2) rfl rfl) rfl hl.1 rfl (Nat.le_of_ble_eq_true rfl) dX8_freeing_86 ⟨Nat.le_of_ble_eq_true rfl, Nat.le_of_ble_eq_true rfl⟩ (fun r_80 u_81 H locs hr_80 hP hD hS => ?_)
              obtain ⟨q_82, q_83⟩ := u_81
              try dsimp only at hr_80
              obtain ⟨hbq_82, hsr_80_0, hsr_80_1, hsr_80_2, hr_80⟩ := hr_80
              have h9R := zRe (ws' := [(zMO m0 npu nte nat_ nde nto nse nhu nga nsd nfa mrf mki mpa mta mla msl mco mhe mso msi msh mce mca mwo mnu mte nba npl nen nnu nwr mwa mke mma mth mtr q_82 nik), (mki, .inl (cI, 8, .inl gki)), (mpa, .inl (cI, 8, .inl gpa)), (mtr, .inl (cI, 20, .inl q_83))]) hP hD rfl
              clear hP hD
              obtain ⟨hP, hD⟩ := h9R
              refine lv_iconst (v := 2) hx hb dX8_freeing_89 (by decide) ?_
              refine lv_imul hx hb dX8_freeing_90 ?_
              refine lv_topi (fun x_84 ex_84 => ?_)
              refine lv_istore (lv' := [(6, .int x_84), (5, .int 0), (4, .int x), (3, .int 4), (0, .ref m0), (1, .int p_), (2, .int x)]) hx hb dX8_freeing_91 hl (by decide) rfl (fun ls hl => ?_)
              refine lv_iload hx hb dX8_freeing_93 (lv_at hl 1 rfl) ?_
              refine lv_if_eq (tgt := 105) hx hb dX8_freeing_95 (by decide) (fun c_85 => ?_) (fun c_85 => ?_)
              · refine lv_iload hx hb dX8_freeing_105 (lv_at hl 0 rfl) ?_
                exact W.iret (v := x_84) hx hb hr (fun t ht hW => ⟨⟨x_84, (q_82, q_83), rfl, ⟨(show 0 ≤ q_82.toInt ∧ q_82.toInt ≤ 2000 from hbq_82), (show (x_84 : Int32) = zQf (gki p_.toNatClampNeg).toInt x p_ (gpa p_.toNatClampNeg) from by (have hk : (gki p_.toNatClampNeg).toInt = 4 := (by rw [← ex_1]; first | done | decide); rw [hk]; unfold zQf; (repeat (first | rw [if_pos (by decide)] | rw [if_neg (by decide)])); (try rw [ex_84]); (try rw [hsr_80_0, hk]); (try rw [ex_84]); first | done | rfl)), (show q_83 = zTr gtr nra.toInt (zBf (gki p_.toNatClampNeg).toInt) from by (have hk : (gki p_.toNatClampNeg).toInt = 4 := (by rw [← ex_1]; first | done | decide); have zbp0 : ((zBp 4).length : Int) = 2 := rfl; have zbf1 : ((zBf 4).length : Int) = 3 := rfl; have zbr2 : ((zBr 4).length : Int) = 7 := rfl; have q0 := hsr_80_2; rw [hk] at q0; rw [hsr_80_1, hk]; rw [hsr_76_0]; rw [zTr_app (by first | omega | (simp; omega) | (show _ = _ + 1; omega))]; (try rw [hk]); first | done | rfl)), (show q_82.toInt = nra.toInt + ((zBf (gki p_.toNatClampNeg).toInt).length : Nat) from by (have hk : (gki p_.toNatClampNeg).toInt = 4 := (by rw [← ex_1]; first | done | decide); have zp : ((zBp 4).length : Int) = 2 := rfl; have zf : ((zBf 4).length : Int) = 3 := rfl; have zr : ((zBr 4).length : Int) = 7 := rfl; have q0 := hsr_80_2; rw [hk] at q0; rw [hk]; omega)), trivial⟩, zRet ht hP hD [0, 1, 2, 3] (by decide) rfl⟩, hS.F ht⟩) hS.2.2 dX8_freeing_107
              · exact absurd c_85 (by decide)
            · exact absurd c_75 (by decide)
          · exact absurd c_74 (by decide)
      · exact absurd c_72 (by decide)
    · exact absurd c_71 (by decide)
  · have kc5 : (5 : Int32).toInt = 5 := by decide
    refine lv_iload_n hx hb dX8_freeing_7 rfl (lv_at hl 3 rfl) ?_
    refine lv_istore (lv' := [(4, .int x), (3, .int 5), (0, .ref m0), (1, .int p_), (2, .int x)]) hx hb dX8_freeing_8 hl (by decide) rfl (fun ls hl => ?_)
    refine lv_iload_n hx hb dX8_freeing_10 rfl (lv_at hl 1 rfl) ?_
    refine lv_bipush (v := 6) hx hb dX8_freeing_11 (by decide) ?_
    refine lv_icmp_ne (tgt := 32) hx hb dX8_freeing_13 (by decide) (fun c_86 => ?_) (fun c_86 => ?_)
    · refine lv_iload_n hx hb dX8_freeing_32 rfl (lv_at hl 1 rfl) ?_
      refine lv_iconst (v := 3) hx hb dX8_freeing_33 (by decide) ?_
      refine lv_icmp_ne (tgt := 48) hx hb dX8_freeing_34 (by decide) (fun c_87 => ?_) (fun c_87 => ?_)
      · refine lv_iload_n hx hb dX8_freeing_48 rfl (lv_at hl 1 rfl) ?_
        refine lv_iconst (v := 2) hx hb dX8_freeing_49 (by decide) ?_
        refine lv_icmp_eq (tgt := 58) hx hb dX8_freeing_50 (by decide) (fun c_88 => ?_) (fun c_88 => ?_)
        · exact absurd c_88 (by decide)
        · refine lv_iload_n hx hb dX8_freeing_53 rfl (lv_at hl 1 rfl) ?_
          refine lv_iconst (v := 5) hx hb dX8_freeing_54 (by decide) ?_
          refine lv_icmp_ne (tgt := 62) hx hb dX8_freeing_55 (by decide) (fun c_89 => ?_) (fun c_89 => ?_)
          · exact absurd c_89 (by decide)
          · refine lv_iconst (v := 1) hx hb dX8_freeing_58 (by decide) ?_
            refine lv_goto (tgt := 63) hx hb dX8_freeing_59 (by decide) ?_
            refine lv_istore (lv' := [(5, .int 1), (4, .int x), (3, .int 5), (0, .ref m0), (1, .int p_), (2, .int x)]) hx hb dX8_freeing_63 hl (by decide) rfl (fun ls hl => ?_)
            refine lv_iload hx hb dX8_freeing_65 (lv_at hl 0 rfl) ?_
            refine lv_if_eq (tgt := 76) hx hb dX8_freeing_67 (by decide) (fun c_90 => ?_) (fun c_90 => ?_)
            · exact absurd c_90 (by decide)
            · refine lv_aload_n hx hb dX8_freeing_70 rfl (lv_at hl 3 rfl) ?_
              refine lv_bipush (v := 30) hx hb dX8_freeing_71 (by decide) ?_
              skip
              refine zw_Vv (As := [.int 30]) (rest := []) (wr := [(mki, .inl (cI, 8, .inl gki)), (mpa, .inl (cI, 8, .inl gpa))]) ⟨hx, hb, hml, hown, hts⟩ (c_F_M_body l D cI cJ cZ cP cS po m0 mrf mki mpa mta mla msl mco mhe mso msi msh mce mca mwo mnu mte mwa mke mma mth mtr (npu) (nte) (nat_) (nde) (nto) (nse) (nhu) (nga) (nsd) (nfa) (nba) (npl) (nen) (nnu) (nwr) (nra) (nik) gtr (30) hy0 hy1 hy2 hy3 hy4 hy5 hy6 hy7 hy8 hy9 hy10 hy11 hy12 hy13 hy10 hy11 H.size) (cwV 1 hts gX8_freeing_X8_body rfl rfl rfl ⟨rfl, dh_X8_body⟩ ⟨Nat.le_of_ble_eq_true rfl, Nat.le_of_ble_eq_true rfl⟩) hK hN (hZ.kept hS) hP hD hS hA [0, 3] [1, 2] rfl rfl (by decide) (by decide) (by decide) (va_recv (q := (RX8, TX8, 38)) hK hP (ci := 8) (q0 := 0) rfl rfl) rfl hl.1 rfl (Nat.le_of_ble_eq_true rfl) dX8_freeing_73 ⟨Nat.le_of_ble_eq_true rfl, Nat.le_of_ble_eq_true rfl⟩ (fun u_92 H locs hr_91 hP hD hS => ?_)
              obtain ⟨q_93, q_94⟩ := u_92
              try dsimp only at hr_91
              obtain ⟨hbq_93, hsr_91_0, hr_91⟩ := hr_91
              have h9R := zRe (ws' := [(mki, .inl (cI, 8, .inl gki)), (mpa, .inl (cI, 8, .inl gpa)), (zMO m0 npu nte nat_ nde nto nse nhu nga nsd nfa mrf mki mpa mta mla msl mco mhe mso msi msh mce mca mwo mnu mte nba npl nen nnu nwr mwa mke mma mth mtr q_93 nik), (mtr, .inl (cI, 20, .inl q_94))]) hP hD rfl
              clear hP hD
              obtain ⟨hP, hD⟩ := h9R
              refine lv_aload_n hx hb dX8_freeing_76 rfl (lv_at hl 3 rfl) ?_
              refine lv_bipush (v := 11) hx hb dX8_freeing_77 (by decide) ?_
              skip
              refine zw_Vv (As := [.int 11]) (rest := []) (wr := [(mki, .inl (cI, 8, .inl gki)), (mpa, .inl (cI, 8, .inl gpa))]) ⟨hx, hb, hml, hown, hts⟩ (c_F_M_body l D cI cJ cZ cP cS po m0 mrf mki mpa mta mla msl mco mhe mso msi msh mce mca mwo mnu mte mwa mke mma mth mtr (npu) (nte) (nat_) (nde) (nto) (nse) (nhu) (nga) (nsd) (nfa) (nba) (npl) (nen) (nnu) (nwr) (q_93) (nik) q_94 (11) hy0 hy1 hy2 hy3 hy4 hy5 hy6 hy7 hy8 hy9 (by omega) (by omega) hy12 hy13 (by omega) (by omega) H.size) (cwV 1 hts gX8_freeing_X8_body rfl rfl rfl ⟨rfl, dh_X8_body⟩ ⟨Nat.le_of_ble_eq_true rfl, Nat.le_of_ble_eq_true rfl⟩) hK hN (hZ.kept hS) hP hD hS hA [2, 3] [0, 1] rfl rfl (by decide) (by decide) (by decide) (va_recv (q := (RX8, TX8, 38)) hK hP (ci := 8) (q0 := 2) rfl rfl) rfl hl.1 rfl (Nat.le_of_ble_eq_true rfl) dX8_freeing_79 ⟨Nat.le_of_ble_eq_true rfl, Nat.le_of_ble_eq_true rfl⟩ (fun u_96 H locs hr_95 hP hD hS => ?_)
              obtain ⟨q_97, q_98⟩ := u_96
              try dsimp only at hr_95
              obtain ⟨hbq_97, hsr_95_0, hr_95⟩ := hr_95
              have h9R := zRe (ws' := [(mki, .inl (cI, 8, .inl gki)), (mpa, .inl (cI, 8, .inl gpa)), (zMO m0 npu nte nat_ nde nto nse nhu nga nsd nfa mrf mki mpa mta mla msl mco mhe mso msi msh mce mca mwo mnu mte nba npl nen nnu nwr mwa mke mma mth mtr q_97 nik), (mtr, .inl (cI, 20, .inl q_98))]) hP hD rfl
              clear hP hD
              obtain ⟨hP, hD⟩ := h9R
              refine lv_aload_n hx hb dX8_freeing_82 rfl (lv_at hl 3 rfl) ?_
              refine lv_iload_n hx hb dX8_freeing_83 rfl (lv_at hl 4 rfl) ?_
              refine lv_iload hx hb dX8_freeing_84 (lv_at hl 1 rfl) ?_
              skip
              refine zw_V (As := [.int p_, .int x]) (rest := []) (wr := []) ⟨hx, hb, hml, hown, hts⟩ (c_F_M_pulling l D cI cJ cZ cP cS po m0 mrf mki mpa mta mla msl mco mhe mso msi msh mce mca mwo mnu mte mwa mke mma mth mtr (npu) (nte) (nat_) (nde) (nto) (nse) (nhu) (nga) (nsd) (nfa) (nba) (npl) (nen) (nnu) (nwr) (q_97) (nik) gki gpa q_98 (p_) (x) hy0 hy1 hy2 hy3 hy4 hy5 hy6 hy7 hy8 hy9 (by omega) (by omega) hy12 hy13 hy14 hy15 (by omega) (by omega) hp_gki hp_gpa H.size) (cwV 2 hts gX8_freeing_X8_pulling rfl rfl rfl ⟨rfl, dh_X8_pulling⟩ ⟨Nat.le_of_ble_eq_true rfl, Nat.le_of_ble_eq_true rfl⟩) hK hN (hZ.kept hS) hP hD hS hA [2, 0, 1, 3] [] rfl rfl (by decide) (by decide) (by decide) (va_recv (q := (RX8, TX8, 38)) hK hP (ci := 8) (q0 := 2) rfl rfl) rfl hl.1 rfl (Nat.le_of_ble_eq_true rfl) dX8_freeing_86 ⟨Nat.le_of_ble_eq_true rfl, Nat.le_of_ble_eq_true rfl⟩ (fun r_99 u_100 H locs hr_99 hP hD hS => ?_)
              obtain ⟨q_101, q_102⟩ := u_100
              try dsimp only at hr_99
              obtain ⟨hbq_101, hsr_99_0, hsr_99_1, hsr_99_2, hr_99⟩ := hr_99
              have h9R := zRe (ws' := [(zMO m0 npu nte nat_ nde nto nse nhu nga nsd nfa mrf mki mpa mta mla msl mco mhe mso msi msh mce mca mwo mnu mte nba npl nen nnu nwr mwa mke mma mth mtr q_101 nik), (mki, .inl (cI, 8, .inl gki)), (mpa, .inl (cI, 8, .inl gpa)), (mtr, .inl (cI, 20, .inl q_102))]) hP hD rfl
              clear hP hD
              obtain ⟨hP, hD⟩ := h9R
              refine lv_iconst (v := 2) hx hb dX8_freeing_89 (by decide) ?_
              refine lv_imul hx hb dX8_freeing_90 ?_
              refine lv_topi (fun x_103 ex_103 => ?_)
              refine lv_istore (lv' := [(6, .int x_103), (5, .int 1), (4, .int x), (3, .int 5), (0, .ref m0), (1, .int p_), (2, .int x)]) hx hb dX8_freeing_91 hl (by decide) rfl (fun ls hl => ?_)
              refine lv_iload hx hb dX8_freeing_93 (lv_at hl 1 rfl) ?_
              refine lv_if_eq (tgt := 105) hx hb dX8_freeing_95 (by decide) (fun c_104 => ?_) (fun c_104 => ?_)
              · exact absurd c_104 (by decide)
              · refine lv_iload hx hb dX8_freeing_98 (lv_at hl 0 rfl) ?_
                refine lv_iconst (v := 3) hx hb dX8_freeing_100 (by decide) ?_
                refine lv_imul hx hb dX8_freeing_101 ?_
                refine lv_topi (fun x_105 ex_105 => ?_)
                refine lv_goto (tgt := 107) hx hb dX8_freeing_102 (by decide) ?_
                exact W.iret (v := x_105) hx hb hr (fun t ht hW => ⟨⟨x_105, (q_101, q_102), rfl, ⟨(show 0 ≤ q_101.toInt ∧ q_101.toInt ≤ 2000 from hbq_101), (show (x_105 : Int32) = zQf (gki p_.toNatClampNeg).toInt x p_ (gpa p_.toNatClampNeg) from by (have hk : (gki p_.toNatClampNeg).toInt = 5 := (by rw [← ex_1]; first | done | decide); rw [hk]; unfold zQf; (repeat (first | rw [if_pos (by decide)] | rw [if_neg (by decide)])); (try rw [ex_105]); (try rw [ex_103]); (try rw [hsr_99_0, hk]); (try rw [ex_105]); (try rw [ex_103]); first | done | rfl)), (show q_102 = zTr gtr nra.toInt (zBf (gki p_.toNatClampNeg).toInt) from by (have hk : (gki p_.toNatClampNeg).toInt = 5 := (by rw [← ex_1]; first | done | decide); have zbp0 : ((zBp 5).length : Int) = 1 := rfl; have zbf1 : ((zBf 5).length : Int) = 3 := rfl; have zbr2 : ((zBr 5).length : Int) = 6 := rfl; have q0 := hsr_99_2; rw [hk] at q0; rw [hsr_99_1, hk]; rw [hsr_95_0]; rw [hsr_91_0]; rw [zTr_app (by first | omega | (simp; omega) | (show _ = _ + 1; omega))]; rw [zTr_app (by first | omega | (simp; omega) | (show _ = _ + 1; omega))]; (try rw [hk]); first | done | rfl)), (show q_101.toInt = nra.toInt + ((zBf (gki p_.toNatClampNeg).toInt).length : Nat) from by (have hk : (gki p_.toNatClampNeg).toInt = 5 := (by rw [← ex_1]; first | done | decide); have zp : ((zBp 5).length : Int) = 1 := rfl; have zf : ((zBf 5).length : Int) = 3 := rfl; have zr : ((zBr 5).length : Int) = 6 := rfl; have q0 := hsr_99_2; rw [hk] at q0; rw [hk]; omega)), trivial⟩, zRet ht hP hD [0, 1, 2, 3] (by decide) rfl⟩, hS.F ht⟩) hS.2.2 dX8_freeing_107
      · exact absurd c_87 (by decide)
    · exact absurd c_86 (by decide)
  · have kc6 : (6 : Int32).toInt = 6 := by decide
    refine lv_iload_n hx hb dX8_freeing_7 rfl (lv_at hl 3 rfl) ?_
    refine lv_istore (lv' := [(4, .int x), (3, .int 6), (0, .ref m0), (1, .int p_), (2, .int x)]) hx hb dX8_freeing_8 hl (by decide) rfl (fun ls hl => ?_)
    refine lv_iload_n hx hb dX8_freeing_10 rfl (lv_at hl 1 rfl) ?_
    refine lv_bipush (v := 6) hx hb dX8_freeing_11 (by decide) ?_
    refine lv_icmp_ne (tgt := 32) hx hb dX8_freeing_13 (by decide) (fun c_106 => ?_) (fun c_106 => ?_)
    · exact absurd c_106 (by decide)
    · refine lv_aload_n hx hb dX8_freeing_16 rfl (lv_at hl 2 rfl) ?_
      refine lv_bipush (v := 71) hx hb dX8_freeing_17 (by decide) ?_
      skip
      refine zw_Vv (As := [.int 71]) (rest := []) (wr := [(mki, .inl (cI, 8, .inl gki)), (mpa, .inl (cI, 8, .inl gpa))]) ⟨hx, hb, hml, hown, hts⟩ (c_F_M_body l D cI cJ cZ cP cS po m0 mrf mki mpa mta mla msl mco mhe mso msi msh mce mca mwo mnu mte mwa mke mma mth mtr (npu) (nte) (nat_) (nde) (nto) (nse) (nhu) (nga) (nsd) (nfa) (nba) (npl) (nen) (nnu) (nwr) (nra) (nik) gtr (71) hy0 hy1 hy2 hy3 hy4 hy5 hy6 hy7 hy8 hy9 hy10 hy11 hy12 hy13 hy10 hy11 H.size) (cwV 1 hts gX8_freeing_X8_body rfl rfl rfl ⟨rfl, dh_X8_body⟩ ⟨Nat.le_of_ble_eq_true rfl, Nat.le_of_ble_eq_true rfl⟩) hK hN (hZ.kept hS) hP hD hS hA [0, 3] [1, 2] rfl rfl (by decide) (by decide) (by decide) (va_recv (q := (RX8, TX8, 38)) hK hP (ci := 8) (q0 := 0) rfl rfl) rfl hl.1 rfl (Nat.le_of_ble_eq_true rfl) dX8_freeing_19 ⟨Nat.le_of_ble_eq_true rfl, Nat.le_of_ble_eq_true rfl⟩ (fun u_108 H locs hr_107 hP hD hS => ?_)
      obtain ⟨q_109, q_110⟩ := u_108
      try dsimp only at hr_107
      obtain ⟨hbq_109, hsr_107_0, hr_107⟩ := hr_107
      have h9R := zRe (ws' := [(mki, .inl (cI, 8, .inl gki)), (mpa, .inl (cI, 8, .inl gpa)), (zMO m0 npu nte nat_ nde nto nse nhu nga nsd nfa mrf mki mpa mta mla msl mco mhe mso msi msh mce mca mwo mnu mte nba npl nen nnu nwr mwa mke mma mth mtr q_109 nik), (mtr, .inl (cI, 20, .inl q_110))]) hP hD rfl
      clear hP hD
      obtain ⟨hP, hD⟩ := h9R
      refine lv_iload_n hx hb dX8_freeing_22 rfl (lv_at hl 4 rfl) ?_
      refine lv_aload_n hx hb dX8_freeing_23 rfl (lv_at hl 2 rfl) ?_
      refine va_get (D := D) (ci := 8) (v := .ref mpa) (C := RX8) (T := TX8) (N := 38) hx hb hts hi_X8_freeing_8 hown hK hP 2 rfl rfl 12 (by decide) (hts (.fieldLink RX8 32 "TheLiningsInItModel" "part" "[I") (List.mem_of_getElem? (i := 2) rfl)) (fun _ h9 => h9) rfl dX8_freeing_24 ?_
      refine lv_iload_n hx hb dX8_freeing_27 rfl (lv_at hl 3 rfl) ?_
      refine va_iald hx hb hK hP 1 0 rfl rfl (zf_in (by omega) (by omega)) dX8_freeing_28 ?_
      refine lv_topi (fun x_111 ex_111 => ?_)
      have bx_111 : 0 ≤ x_111.toInt ∧ x_111.toInt ≤ 9 := by rw [ex_111]; exact hp_gpa _
      refine lv_isub hx hb dX8_freeing_29 ?_
      refine lv_topi (fun x_112 ex_112 => ?_)
      refine lv_istore (lv' := [(4, .int x_112), (3, .int 6), (0, .ref m0), (1, .int p_), (2, .int x)]) hx hb dX8_freeing_30 hl (by decide) rfl (fun ls hl => ?_)
      refine lv_iload_n hx hb dX8_freeing_32 rfl (lv_at hl 1 rfl) ?_
      refine lv_iconst (v := 3) hx hb dX8_freeing_33 (by decide) ?_
      refine lv_icmp_ne (tgt := 48) hx hb dX8_freeing_34 (by decide) (fun c_113 => ?_) (fun c_113 => ?_)
      · refine lv_iload_n hx hb dX8_freeing_48 rfl (lv_at hl 1 rfl) ?_
        refine lv_iconst (v := 2) hx hb dX8_freeing_49 (by decide) ?_
        refine lv_icmp_eq (tgt := 58) hx hb dX8_freeing_50 (by decide) (fun c_114 => ?_) (fun c_114 => ?_)
        · exact absurd c_114 (by decide)
        · refine lv_iload_n hx hb dX8_freeing_53 rfl (lv_at hl 1 rfl) ?_
          refine lv_iconst (v := 5) hx hb dX8_freeing_54 (by decide) ?_
          refine lv_icmp_ne (tgt := 62) hx hb dX8_freeing_55 (by decide) (fun c_115 => ?_) (fun c_115 => ?_)
          · refine lv_iconst (v := 0) hx hb dX8_freeing_62 (by decide) ?_
            refine lv_istore (lv' := [(5, .int 0), (4, .int x_112), (3, .int 6), (0, .ref m0), (1, .int p_), (2, .int x)]) hx hb dX8_freeing_63 hl (by decide) rfl (fun ls hl => ?_)
            refine lv_iload hx hb dX8_freeing_65 (lv_at hl 0 rfl) ?_
            refine lv_if_eq (tgt := 76) hx hb dX8_freeing_67 (by decide) (fun c_116 => ?_) (fun c_116 => ?_)
            · refine lv_aload_n hx hb dX8_freeing_76 rfl (lv_at hl 3 rfl) ?_
              refine lv_bipush (v := 11) hx hb dX8_freeing_77 (by decide) ?_
              skip
              refine zw_Vv (As := [.int 11]) (rest := []) (wr := [(mki, .inl (cI, 8, .inl gki)), (mpa, .inl (cI, 8, .inl gpa))]) ⟨hx, hb, hml, hown, hts⟩ (c_F_M_body l D cI cJ cZ cP cS po m0 mrf mki mpa mta mla msl mco mhe mso msi msh mce mca mwo mnu mte mwa mke mma mth mtr (npu) (nte) (nat_) (nde) (nto) (nse) (nhu) (nga) (nsd) (nfa) (nba) (npl) (nen) (nnu) (nwr) (q_109) (nik) q_110 (11) hy0 hy1 hy2 hy3 hy4 hy5 hy6 hy7 hy8 hy9 (by omega) (by omega) hy12 hy13 (by omega) (by omega) H.size) (cwV 1 hts gX8_freeing_X8_body rfl rfl rfl ⟨rfl, dh_X8_body⟩ ⟨Nat.le_of_ble_eq_true rfl, Nat.le_of_ble_eq_true rfl⟩) hK hN (hZ.kept hS) hP hD hS hA [2, 3] [0, 1] rfl rfl (by decide) (by decide) (by decide) (va_recv (q := (RX8, TX8, 38)) hK hP (ci := 8) (q0 := 2) rfl rfl) rfl hl.1 rfl (Nat.le_of_ble_eq_true rfl) dX8_freeing_79 ⟨Nat.le_of_ble_eq_true rfl, Nat.le_of_ble_eq_true rfl⟩ (fun u_118 H locs hr_117 hP hD hS => ?_)
              obtain ⟨q_119, q_120⟩ := u_118
              try dsimp only at hr_117
              obtain ⟨hbq_119, hsr_117_0, hr_117⟩ := hr_117
              have h9R := zRe (ws' := [(mki, .inl (cI, 8, .inl gki)), (mpa, .inl (cI, 8, .inl gpa)), (zMO m0 npu nte nat_ nde nto nse nhu nga nsd nfa mrf mki mpa mta mla msl mco mhe mso msi msh mce mca mwo mnu mte nba npl nen nnu nwr mwa mke mma mth mtr q_119 nik), (mtr, .inl (cI, 20, .inl q_120))]) hP hD rfl
              clear hP hD
              obtain ⟨hP, hD⟩ := h9R
              refine lv_aload_n hx hb dX8_freeing_82 rfl (lv_at hl 3 rfl) ?_
              refine lv_iload_n hx hb dX8_freeing_83 rfl (lv_at hl 4 rfl) ?_
              refine lv_iload hx hb dX8_freeing_84 (lv_at hl 1 rfl) ?_
              skip
              refine zw_V (As := [.int p_, .int x_112]) (rest := []) (wr := []) ⟨hx, hb, hml, hown, hts⟩ (c_F_M_pulling l D cI cJ cZ cP cS po m0 mrf mki mpa mta mla msl mco mhe mso msi msh mce mca mwo mnu mte mwa mke mma mth mtr (npu) (nte) (nat_) (nde) (nto) (nse) (nhu) (nga) (nsd) (nfa) (nba) (npl) (nen) (nnu) (nwr) (q_119) (nik) gki gpa q_120 (p_) (x_112) hy0 hy1 hy2 hy3 hy4 hy5 hy6 hy7 hy8 hy9 (by omega) (by omega) hy12 hy13 hy14 hy15 (by omega) (by omega) hp_gki hp_gpa H.size) (cwV 2 hts gX8_freeing_X8_pulling rfl rfl rfl ⟨rfl, dh_X8_pulling⟩ ⟨Nat.le_of_ble_eq_true rfl, Nat.le_of_ble_eq_true rfl⟩) hK hN (hZ.kept hS) hP hD hS hA [2, 0, 1, 3] [] rfl rfl (by decide) (by decide) (by decide) (va_recv (q := (RX8, TX8, 38)) hK hP (ci := 8) (q0 := 2) rfl rfl) rfl hl.1 rfl (Nat.le_of_ble_eq_true rfl) dX8_freeing_86 ⟨Nat.le_of_ble_eq_true rfl, Nat.le_of_ble_eq_true rfl⟩ (fun r_121 u_122 H locs hr_121 hP hD hS => ?_)
              obtain ⟨q_123, q_124⟩ := u_122
              try dsimp only at hr_121
              obtain ⟨hbq_123, hsr_121_0, hsr_121_1, hsr_121_2, hr_121⟩ := hr_121
              have h9R := zRe (ws' := [(zMO m0 npu nte nat_ nde nto nse nhu nga nsd nfa mrf mki mpa mta mla msl mco mhe mso msi msh mce mca mwo mnu mte nba npl nen nnu nwr mwa mke mma mth mtr q_123 nik), (mki, .inl (cI, 8, .inl gki)), (mpa, .inl (cI, 8, .inl gpa)), (mtr, .inl (cI, 20, .inl q_124))]) hP hD rfl
              clear hP hD
              obtain ⟨hP, hD⟩ := h9R
              refine lv_iconst (v := 2) hx hb dX8_freeing_89 (by decide) ?_
              refine lv_imul hx hb dX8_freeing_90 ?_
              refine lv_topi (fun x_125 ex_125 => ?_)
              refine lv_istore (lv' := [(6, .int x_125), (5, .int 0), (4, .int x_112), (3, .int 6), (0, .ref m0), (1, .int p_), (2, .int x)]) hx hb dX8_freeing_91 hl (by decide) rfl (fun ls hl => ?_)
              refine lv_iload hx hb dX8_freeing_93 (lv_at hl 1 rfl) ?_
              refine lv_if_eq (tgt := 105) hx hb dX8_freeing_95 (by decide) (fun c_126 => ?_) (fun c_126 => ?_)
              · refine lv_iload hx hb dX8_freeing_105 (lv_at hl 0 rfl) ?_
                exact W.iret (v := x_125) hx hb hr (fun t ht hW => ⟨⟨x_125, (q_123, q_124), rfl, ⟨(show 0 ≤ q_123.toInt ∧ q_123.toInt ≤ 2000 from hbq_123), (show (x_125 : Int32) = zQf (gki p_.toNatClampNeg).toInt x p_ (gpa p_.toNatClampNeg) from by (have hk : (gki p_.toNatClampNeg).toInt = 6 := (by rw [← ex_1]; first | done | decide); rw [hk]; unfold zQf; (repeat (first | rw [if_pos (by decide)] | rw [if_neg (by decide)])); (try rw [ex_125]); (try rw [ex_112]); (try rw [ex_111]); (try rw [hsr_121_0, hk]); (try rw [ex_125]); (try rw [ex_112]); (try rw [ex_111]); (try rw [ex_111]); first | done | rfl)), (show q_124 = zTr gtr nra.toInt (zBf (gki p_.toNatClampNeg).toInt) from by (have hk : (gki p_.toNatClampNeg).toInt = 6 := (by rw [← ex_1]; first | done | decide); have zbp0 : ((zBp 6).length : Int) = 3 := rfl; have zbf1 : ((zBf 6).length : Int) = 5 := rfl; have zbr2 : ((zBr 6).length : Int) = 10 := rfl; have q0 := hsr_121_2; rw [hk] at q0; rw [hsr_121_1, hk]; rw [hsr_117_0]; rw [hsr_107_0]; rw [zTr_app (by first | omega | (simp; omega) | (show _ = _ + 1; omega))]; rw [zTr_app (by first | omega | (simp; omega) | (show _ = _ + 1; omega))]; (try rw [hk]); first | done | rfl)), (show q_123.toInt = nra.toInt + ((zBf (gki p_.toNatClampNeg).toInt).length : Nat) from by (have hk : (gki p_.toNatClampNeg).toInt = 6 := (by rw [← ex_1]; first | done | decide); have zp : ((zBp 6).length : Int) = 3 := rfl; have zf : ((zBf 6).length : Int) = 5 := rfl; have zr : ((zBr 6).length : Int) = 10 := rfl; have q0 := hsr_121_2; rw [hk] at q0; rw [hk]; omega)), trivial⟩, zRet ht hP hD [0, 1, 2, 3] (by decide) rfl⟩, hS.F ht⟩) hS.2.2 dX8_freeing_107
              · exact absurd c_126 (by decide)
            · exact absurd c_116 (by decide)
          · exact absurd c_115 (by decide)
      · exact absurd c_113 (by decide)
theorem zBp_le (k : Int) : ((zBp k).length : Int) ≤ 3 := by
  unfold zBp
  repeat' split
  all_goals first | decide | simp
theorem zBf_le (k : Int) : ((zBf k).length : Int) ≤ 5 := by
  have h := zBp_le k
  unfold zBf
  repeat' split
  all_goals (simp only [List.length_append, List.length_cons, List.length_nil]; omega)
set_option maxHeartbeats 4000000 in
set_option maxRecDepth 100000 in
theorem c_F_M_resting (l : Launch) (D : va_G) (cI cJ cZ cP cS : ClassId) (po : zPool) (m0 mrf mki mpa mta mla msl mco mhe mso msi msh mce mca mwo mnu mte mwa mke mma mth mtr : Nat) (npu nte nat_ nde nto nse nhu nga nsd nfa nba npl nen nnu nwr nra nik : Int32) (gki gpa gtr : Nat → Int32) (p_ x : Int32) (hy0 : 0 ≤ npu.toInt) (hy1 : npu.toInt ≤ 8) (hy2 : 4 ≤ nte.toInt) (hy3 : nte.toInt ≤ 40) (hy4 : 0 ≤ nat_.toInt) (hy5 : nat_.toInt ≤ 40) (hy6 : 0 ≤ nde.toInt) (hy7 : nde.toInt ≤ 24) (hy8 : 0 ≤ nhu.toInt) (hy9 : nhu.toInt ≤ 9) (hy10 : 0 ≤ nra.toInt) (hy11 : nra.toInt ≤ 2000) (hy12 : 0 ≤ nik.toInt) (hy13 : nik.toInt ≤ 1) (hy14 : 0 ≤ p_.toInt) (hy15 : p_.toInt ≤ 7) (hy16 : 0 ≤ nra.toInt) (hy17 : nra.toInt ≤ 800) (hp_gki : zRg gki (0) 6) (hp_gpa : zRg gpa (0) 9) (hpz : Nat) : Met l yX8_resting wsX8_resting ({ frames := 3, cells := 0, slots := 0, locals := 71 }) (va_Pc [.ref m0, .int p_, .int x] (zW D (zKT cI cJ cZ cP cS) po [(zMO m0 npu nte nat_ nde nto nse nhu nga nsd nfa mrf mki mpa mta mla msl mco mhe mso msi msh mce mca mwo mnu mte nba npl nen nnu nwr mwa mke mma mth mtr nra nik), (mki, .inl (cI, 8, .inl gki)), (mpa, .inl (cI, 8, .inl gpa)), (mtr, .inl (cI, 20, .inl gtr))] hpz)) (va_Qi (fun (r : Int32) (u : (Int32) × (Nat → Int32)) => (0 ≤ u.1.toInt ∧ u.1.toInt ≤ 2000) ∧ (r = zQr (gki p_.toNatClampNeg).toInt x p_ (gpa p_.toNatClampNeg)) ∧ (u.2 = zTr gtr nra.toInt (zBr (gki p_.toNatClampNeg).toInt)) ∧ (u.1.toInt = nra.toInt + ((zBr (gki p_.toNatClampNeg).toInt).length : Nat)) ∧ (True)) (zB D [(zMO m0 npu nte nat_ nde nto nse nhu nga nsd nfa mrf mki mpa mta mla msl mco mhe mso msi msh mce mca mwo mnu mte nba npl nen nnu nwr mwa mke mma mth mtr nra nik), (mki, .inl (cI, 8, .inl gki)), (mpa, .inl (cI, 8, .inl gpa)), (mtr, .inl (cI, 20, .inl gtr))] hpz (fun (u : (Int32) × (Nat → Int32)) => [(zMO m0 npu nte nat_ nde nto nse nhu nga nsd nfa mrf mki mpa mta mla msl mco mhe mso msi msh mce mca mwo mnu mte nba npl nen nnu nwr mwa mke mma mth mtr u.1 nik), (mki, .inl (cI, 8, .inl gki)), (mpa, .inl (cI, 8, .inl gpa)), (mtr, .inl (cI, 20, .inl u.2))])) (va_A [(zMO m0 npu nte nat_ nde nto nse nhu nga nsd nfa mrf mki mpa mta mla msl mco mhe mso msi msh mce mca mwo mnu mte nba npl nen nnu nwr mwa mke mma mth mtr nra nik), (mki, .inl (cI, 8, .inl gki)), (mpa, .inl (cI, 8, .inl gpa)), (mtr, .inl (cI, 20, .inl gtr))] hpz)) 0 0 (va_A [(zMO m0 npu nte nat_ nde nto nse nhu nga nsd nfa mrf mki mpa mta mla msl mco mhe mso msi msh mce mca mwo mnu mte nba npl nen nnu nwr mwa mke mma mth mtr nra nik), (mki, .inl (cI, 8, .inl gki)), (mpa, .inl (cI, 8, .inl gpa)), (mtr, .inl (cI, 20, .inl gtr))] hpz) := by
  refine Met.ofW (cc := cX8_resting) (maxL := 5) (ret := (some .int)) (by decide) rfl ?_
  intro p e s m args below meth c s₁ B hml hv
  obtain ⟨rfl, hsz, hP, hK, hD0, hN, hZ⟩ := hv
  have hx := B.exec
  have hb := B.bytes
  have hr := B.returns
  have hts := atoms_spec (ws := wsX8_resting) B.pre
  have hown : s.vm.findClass RX8 = some m.cls := findClass_of_methodNamed B.named
  have hlocks := B.notSynchronized
  subst hsz
  have hD := hD0.self (sz := s.heap.size)
  have hA := zA_of hD
  have hl := lv_entry ([.ref m0, .int p_, .int x]) (n := 5) (Nat.le_of_ble_eq_true rfl)
  rw [lg_entry_eq]
  generalize (lg_sl ([.ref m0, .int p_, .int x]) ++ List.replicate (5 - (lg_sl ([.ref m0, .int p_, .int x])).length) Slot.unset).toArray = ls at hl ⊢
  replace hl : lv_has ls 5 [(0, .ref m0), (1, .int p_), (2, .int x)] := hl
  refine zw_begin hP hD (fun H locs hP1 hS => ?_)
  clear hP
  have hP := hP1
  clear hP1
  refine lv_aload_n hx hb dX8_resting_0 rfl (lv_at hl 0 rfl) ?_
  refine va_get (D := D) (ci := 8) (v := .ref mki) (C := RX8) (T := TX8) (N := 38) hx hb hts hi_X8_resting_8 hown hK hP 0 rfl rfl 11 (by decide) (hts (.fieldLink RX8 29 "TheLiningsInItModel" "kind" "[I") (List.mem_of_getElem? (i := 1) rfl)) (fun _ h9 => h9) rfl dX8_resting_1 ?_
  refine lv_iload_n hx hb dX8_resting_4 rfl (lv_at hl 1 rfl) ?_
  refine va_iald hx hb hK hP 1 0 rfl rfl (zf_in (by omega) (by omega)) dX8_resting_5 ?_
  refine lv_topi (fun x_1 ex_1 => ?_)
  have bx_1 : 0 ≤ x_1.toInt ∧ x_1.toInt ≤ 6 := by rw [ex_1]; exact hp_gki _
  refine lv_istore_n (lv' := [(3, .int x_1), (0, .ref m0), (1, .int p_), (2, .int x)]) hx hb dX8_resting_6 rfl hl (by decide) rfl (fun ls hl => ?_)
  have hsp : x_1 = 0 ∨ x_1 = 1 ∨ x_1 = 2 ∨ x_1 = 3 ∨ x_1 = 4 ∨ x_1 = 5 ∨ x_1 = 6 := by
    rcases (show x_1.toInt = 0 ∨ x_1.toInt = 1 ∨ x_1.toInt = 2 ∨ x_1.toInt = 3 ∨ x_1.toInt = 4 ∨ x_1.toInt = 5 ∨ x_1.toInt = 6 by omega) with h9 | h9 | h9 | h9 | h9 | h9 | h9
    · refine Or.inl ?_; exact zf_val h9 (by decide)
    · refine Or.inr (Or.inl ?_); exact zf_val h9 (by decide)
    · refine Or.inr (Or.inr (Or.inl ?_)); exact zf_val h9 (by decide)
    · refine Or.inr (Or.inr (Or.inr (Or.inl ?_))); exact zf_val h9 (by decide)
    · refine Or.inr (Or.inr (Or.inr (Or.inr (Or.inl ?_)))); exact zf_val h9 (by decide)
    · refine Or.inr (Or.inr (Or.inr (Or.inr (Or.inr (Or.inl ?_))))); exact zf_val h9 (by decide)
    · refine Or.inr (Or.inr (Or.inr (Or.inr (Or.inr (Or.inr (?_)))))); exact zf_val h9 (by decide)
  rcases hsp with rfl | rfl | rfl | rfl | rfl | rfl | rfl
  · have kc0 : (0 : Int32).toInt = 0 := by decide
    refine lv_iload_n hx hb dX8_resting_7 rfl (lv_at hl 0 rfl) ?_
    refine lv_iconst (v := 4) hx hb dX8_resting_8 (by decide) ?_
    refine lv_icmp_eq (tgt := 18) hx hb dX8_resting_9 (by decide) (fun c_2 => ?_) (fun c_2 => ?_)
    · exact absurd c_2 (by decide)
    · refine lv_iload_n hx hb dX8_resting_12 rfl (lv_at hl 0 rfl) ?_
      refine lv_bipush (v := 6) hx hb dX8_resting_13 (by decide) ?_
      refine lv_icmp_ne (tgt := 24) hx hb dX8_resting_15 (by decide) (fun c_3 => ?_) (fun c_3 => ?_)
      · refine lv_iload_n hx hb dX8_resting_24 rfl (lv_at hl 0 rfl) ?_
        refine lv_iconst (v := 5) hx hb dX8_resting_25 (by decide) ?_
        refine lv_icmp_ne (tgt := 35) hx hb dX8_resting_26 (by decide) (fun c_4 => ?_) (fun c_4 => ?_)
        · refine lv_aload_n hx hb dX8_resting_35 rfl (lv_at hl 1 rfl) ?_
          refine lv_bipush (v := 12) hx hb dX8_resting_36 (by decide) ?_
          skip
          refine zw_Vv (As := [.int 12]) (rest := []) (wr := [(mki, .inl (cI, 8, .inl gki)), (mpa, .inl (cI, 8, .inl gpa))]) ⟨hx, hb, hml, hown, hts⟩ (c_F_M_body l D cI cJ cZ cP cS po m0 mrf mki mpa mta mla msl mco mhe mso msi msh mce mca mwo mnu mte mwa mke mma mth mtr (npu) (nte) (nat_) (nde) (nto) (nse) (nhu) (nga) (nsd) (nfa) (nba) (npl) (nen) (nnu) (nwr) (nra) (nik) gtr (12) hy0 hy1 hy2 hy3 hy4 hy5 hy6 hy7 hy8 hy9 hy10 hy11 hy12 hy13 hy10 hy11 H.size) (cwV 1 hts gX8_resting_X8_body rfl rfl rfl ⟨rfl, dh_X8_body⟩ ⟨Nat.le_of_ble_eq_true rfl, Nat.le_of_ble_eq_true rfl⟩) hK hN (hZ.kept hS) hP hD hS hA [0, 3] [1, 2] rfl rfl (by decide) (by decide) (by decide) (va_recv (q := (RX8, TX8, 38)) hK hP (ci := 8) (q0 := 0) rfl rfl) rfl hl.1 rfl (Nat.le_of_ble_eq_true rfl) dX8_resting_38 ⟨Nat.le_of_ble_eq_true rfl, Nat.le_of_ble_eq_true rfl⟩ (fun u_6 H locs hr_5 hP hD hS => ?_)
          obtain ⟨q_7, q_8⟩ := u_6
          try dsimp only at hr_5
          obtain ⟨hbq_7, hsr_5_0, hr_5⟩ := hr_5
          have h9R := zRe (ws' := [(mki, .inl (cI, 8, .inl gki)), (mpa, .inl (cI, 8, .inl gpa)), (zMO m0 npu nte nat_ nde nto nse nhu nga nsd nfa mrf mki mpa mta mla msl mco mhe mso msi msh mce mca mwo mnu mte nba npl nen nnu nwr mwa mke mma mth mtr q_7 nik), (mtr, .inl (cI, 20, .inl q_8))]) hP hD rfl
          clear hP hD
          obtain ⟨hP, hD⟩ := h9R
          refine lv_aload_n hx hb dX8_resting_41 rfl (lv_at hl 1 rfl) ?_
          refine lv_iload_n hx hb dX8_resting_42 rfl (lv_at hl 2 rfl) ?_
          refine lv_iload_n hx hb dX8_resting_43 rfl (lv_at hl 3 rfl) ?_
          skip
          refine zw_V (As := [.int p_, .int x]) (rest := []) (wr := []) ⟨hx, hb, hml, hown, hts⟩ (c_F_M_freeing l D cI cJ cZ cP cS po m0 mrf mki mpa mta mla msl mco mhe mso msi msh mce mca mwo mnu mte mwa mke mma mth mtr (npu) (nte) (nat_) (nde) (nto) (nse) (nhu) (nga) (nsd) (nfa) (nba) (npl) (nen) (nnu) (nwr) (q_7) (nik) gki gpa q_8 (p_) (x) hy0 hy1 hy2 hy3 hy4 hy5 hy6 hy7 hy8 hy9 (by omega) (by omega) hy12 hy13 hy14 hy15 (by omega) (by omega) hp_gki hp_gpa H.size) (cwV 2 hts gX8_resting_X8_freeing rfl rfl rfl ⟨rfl, dh_X8_freeing⟩ ⟨Nat.le_of_ble_eq_true rfl, Nat.le_of_ble_eq_true rfl⟩) hK hN (hZ.kept hS) hP hD hS hA [2, 0, 1, 3] [] rfl rfl (by decide) (by decide) (by decide) (va_recv (q := (RX8, TX8, 38)) hK hP (ci := 8) (q0 := 2) rfl rfl) rfl hl.1 rfl (Nat.le_of_ble_eq_true rfl) dX8_resting_44 ⟨Nat.le_of_ble_eq_true rfl, Nat.le_of_ble_eq_true rfl⟩ (fun r_9 u_10 H locs hr_9 hP hD hS => ?_)
          obtain ⟨q_11, q_12⟩ := u_10
          try dsimp only at hr_9
          obtain ⟨hbq_11, hsr_9_0, hsr_9_1, hsr_9_2, hr_9⟩ := hr_9
          have h9R := zRe (ws' := [(zMO m0 npu nte nat_ nde nto nse nhu nga nsd nfa mrf mki mpa mta mla msl mco mhe mso msi msh mce mca mwo mnu mte nba npl nen nnu nwr mwa mke mma mth mtr q_11 nik), (mki, .inl (cI, 8, .inl gki)), (mpa, .inl (cI, 8, .inl gpa)), (mtr, .inl (cI, 20, .inl q_12))]) hP hD rfl
          clear hP hD
          obtain ⟨hP, hD⟩ := h9R
          have zl9 := zBf_le (gki p_.toNatClampNeg).toInt
          refine lv_istore (lv' := [(4, .int r_9), (3, .int 0), (0, .ref m0), (1, .int p_), (2, .int x)]) hx hb dX8_resting_47 hl (by decide) rfl (fun ls hl => ?_)
          refine lv_iload hx hb dX8_resting_49 (lv_at hl 0 rfl) ?_
          refine lv_aload_n hx hb dX8_resting_51 rfl (lv_at hl 2 rfl) ?_
          refine lv_iload_n hx hb dX8_resting_52 rfl (lv_at hl 3 rfl) ?_
          refine lv_iload_n hx hb dX8_resting_53 rfl (lv_at hl 4 rfl) ?_
          refine lv_aload_n hx hb dX8_resting_54 rfl (lv_at hl 2 rfl) ?_
          refine va_get (D := D) (ci := 8) (v := .ref mpa) (C := RX8) (T := TX8) (N := 38) hx hb hts hi_X8_resting_8 hown hK hP 0 rfl rfl 12 (by decide) (hts (.fieldLink RX8 32 "TheLiningsInItModel" "part" "[I") (List.mem_of_getElem? (i := 2) rfl)) (fun _ h9 => h9) rfl dX8_resting_55 ?_
          refine lv_iload_n hx hb dX8_resting_58 rfl (lv_at hl 3 rfl) ?_
          refine va_iald hx hb hK hP 2 0 rfl rfl (zf_in (by omega) (by omega)) dX8_resting_59 ?_
          refine lv_topi (fun x_13 ex_13 => ?_)
          have bx_13 : 0 ≤ x_13.toInt ∧ x_13.toInt ≤ 9 := by rw [ex_13]; exact hp_gpa _
          refine lv_isub hx hb dX8_resting_60 ?_
          refine lv_topi (fun x_14 ex_14 => ?_)
          skip
          refine zw_V (As := [.int p_, .int x_14]) (rest := [.int r_9]) (wr := []) ⟨hx, hb, hml, hown, hts⟩ (c_F_M_pulling l D cI cJ cZ cP cS po m0 mrf mki mpa mta mla msl mco mhe mso msi msh mce mca mwo mnu mte mwa mke mma mth mtr (npu) (nte) (nat_) (nde) (nto) (nse) (nhu) (nga) (nsd) (nfa) (nba) (npl) (nen) (nnu) (nwr) (q_11) (nik) gki gpa q_12 (p_) (x_14) hy0 hy1 hy2 hy3 hy4 hy5 hy6 hy7 hy8 hy9 hbq_11.1 hbq_11.2 hy12 hy13 hy14 hy15 hbq_11.1 (by omega) hp_gki hp_gpa H.size) (cwV 2 hts gX8_resting_X8_pulling rfl rfl rfl ⟨rfl, dh_X8_pulling⟩ ⟨Nat.le_of_ble_eq_true rfl, Nat.le_of_ble_eq_true rfl⟩) hK hN (hZ.kept hS) hP hD hS hA [0, 1, 2, 3] [] rfl rfl (by decide) (by decide) (by decide) (va_recv (q := (RX8, TX8, 38)) hK hP (ci := 8) (q0 := 0) rfl rfl) rfl hl.1 rfl (Nat.le_of_ble_eq_true rfl) dX8_resting_61 ⟨Nat.le_of_ble_eq_true rfl, Nat.le_of_ble_eq_true rfl⟩ (fun r_15 u_16 H locs hr_15 hP hD hS => ?_)
          obtain ⟨q_17, q_18⟩ := u_16
          try dsimp only at hr_15
          obtain ⟨hbq_17, hsr_15_0, hsr_15_1, hsr_15_2, hr_15⟩ := hr_15
          have h9R := zRe (ws' := [(zMO m0 npu nte nat_ nde nto nse nhu nga nsd nfa mrf mki mpa mta mla msl mco mhe mso msi msh mce mca mwo mnu mte nba npl nen nnu nwr mwa mke mma mth mtr q_17 nik), (mki, .inl (cI, 8, .inl gki)), (mpa, .inl (cI, 8, .inl gpa)), (mtr, .inl (cI, 20, .inl q_18))]) hP hD rfl
          clear hP hD
          obtain ⟨hP, hD⟩ := h9R
          refine lv_ixor hx hb dX8_resting_64 ?_
          refine lv_topi (fun x_19 ex_19 => ?_)
          refine lv_istore (lv' := [(4, .int x_19), (3, .int 0), (0, .ref m0), (1, .int p_), (2, .int x)]) hx hb dX8_resting_65 hl (by decide) rfl (fun ls hl => ?_)
          refine lv_iload_n hx hb dX8_resting_67 rfl (lv_at hl 1 rfl) ?_
          refine lv_iconst (v := 4) hx hb dX8_resting_68 (by decide) ?_
          refine lv_icmp_eq (tgt := 78) hx hb dX8_resting_69 (by decide) (fun c_20 => ?_) (fun c_20 => ?_)
          · exact absurd c_20 (by decide)
          · refine lv_iload_n hx hb dX8_resting_72 rfl (lv_at hl 1 rfl) ?_
            refine lv_bipush (v := 6) hx hb dX8_resting_73 (by decide) ?_
            refine lv_icmp_ne (tgt := 84) hx hb dX8_resting_75 (by decide) (fun c_21 => ?_) (fun c_21 => ?_)
            · refine lv_iload_n hx hb dX8_resting_84 rfl (lv_at hl 1 rfl) ?_
              refine lv_iconst (v := 5) hx hb dX8_resting_85 (by decide) ?_
              refine lv_icmp_ne (tgt := 96) hx hb dX8_resting_86 (by decide) (fun c_22 => ?_) (fun c_22 => ?_)
              · refine lv_iload hx hb dX8_resting_96 (lv_at hl 0 rfl) ?_
                exact W.iret (v := x_19) hx hb hr (fun t ht hW => ⟨⟨x_19, (q_17, q_18), rfl, ⟨(show 0 ≤ q_17.toInt ∧ q_17.toInt ≤ 2000 from hbq_17), (show (x_19 : Int32) = zQr (gki p_.toNatClampNeg).toInt x p_ (gpa p_.toNatClampNeg) from by (have hk : (gki p_.toNatClampNeg).toInt = 0 := (by rw [← ex_1]; first | done | decide); rw [hk]; unfold zQr; (repeat (first | rw [if_pos (by decide)] | rw [if_neg (by decide)])); (try rw [ex_19]); (try rw [ex_14]); (try rw [ex_13]); (try rw [hsr_9_0, hk]); (try rw [hsr_15_0, hk]); (try rw [ex_19]); (try rw [ex_14]); (try rw [ex_13]); (try rw [ex_13]); first | done | rfl)), (show q_18 = zTr gtr nra.toInt (zBr (gki p_.toNatClampNeg).toInt) from by (have hk : (gki p_.toNatClampNeg).toInt = 0 := (by rw [← ex_1]; first | done | decide); have zbp0 : ((zBp 0).length : Int) = 1 := rfl; have zbf1 : ((zBf 0).length : Int) = 2 := rfl; have zbr2 : ((zBr 0).length : Int) = 4 := rfl; have q0 := hsr_9_2; rw [hk] at q0; have q1 := hsr_15_2; rw [hk] at q1; rw [hsr_15_1, hk]; rw [hsr_9_1, hk]; rw [hsr_5_0]; rw [zTr_app (by first | omega | (simp; omega) | (show _ = _ + 1; omega))]; rw [zTr_app (by first | omega | (simp; omega) | (show _ = _ + 1; omega))]; (try rw [hk]); first | done | rfl)), (show q_17.toInt = nra.toInt + ((zBr (gki p_.toNatClampNeg).toInt).length : Nat) from by (have hk : (gki p_.toNatClampNeg).toInt = 0 := (by rw [← ex_1]; first | done | decide); have zp : ((zBp 0).length : Int) = 1 := rfl; have zf : ((zBf 0).length : Int) = 2 := rfl; have zr : ((zBr 0).length : Int) = 4 := rfl; have q0 := hsr_9_2; rw [hk] at q0; have q1 := hsr_15_2; rw [hk] at q1; rw [hk]; omega)), trivial⟩, zRet ht hP hD [0, 1, 2, 3] (by decide) rfl⟩, hS.F ht⟩) hS.2.2 dX8_resting_98
              · exact absurd c_22 (by decide)
            · exact absurd c_21 (by decide)
        · exact absurd c_4 (by decide)
      · exact absurd c_3 (by decide)
  · have kc1 : (1 : Int32).toInt = 1 := by decide
    refine lv_iload_n hx hb dX8_resting_7 rfl (lv_at hl 0 rfl) ?_
    refine lv_iconst (v := 4) hx hb dX8_resting_8 (by decide) ?_
    refine lv_icmp_eq (tgt := 18) hx hb dX8_resting_9 (by decide) (fun c_23 => ?_) (fun c_23 => ?_)
    · exact absurd c_23 (by decide)
    · refine lv_iload_n hx hb dX8_resting_12 rfl (lv_at hl 0 rfl) ?_
      refine lv_bipush (v := 6) hx hb dX8_resting_13 (by decide) ?_
      refine lv_icmp_ne (tgt := 24) hx hb dX8_resting_15 (by decide) (fun c_24 => ?_) (fun c_24 => ?_)
      · refine lv_iload_n hx hb dX8_resting_24 rfl (lv_at hl 0 rfl) ?_
        refine lv_iconst (v := 5) hx hb dX8_resting_25 (by decide) ?_
        refine lv_icmp_ne (tgt := 35) hx hb dX8_resting_26 (by decide) (fun c_25 => ?_) (fun c_25 => ?_)
        · refine lv_aload_n hx hb dX8_resting_35 rfl (lv_at hl 1 rfl) ?_
          refine lv_bipush (v := 12) hx hb dX8_resting_36 (by decide) ?_
          skip
          refine zw_Vv (As := [.int 12]) (rest := []) (wr := [(mki, .inl (cI, 8, .inl gki)), (mpa, .inl (cI, 8, .inl gpa))]) ⟨hx, hb, hml, hown, hts⟩ (c_F_M_body l D cI cJ cZ cP cS po m0 mrf mki mpa mta mla msl mco mhe mso msi msh mce mca mwo mnu mte mwa mke mma mth mtr (npu) (nte) (nat_) (nde) (nto) (nse) (nhu) (nga) (nsd) (nfa) (nba) (npl) (nen) (nnu) (nwr) (nra) (nik) gtr (12) hy0 hy1 hy2 hy3 hy4 hy5 hy6 hy7 hy8 hy9 hy10 hy11 hy12 hy13 hy10 hy11 H.size) (cwV 1 hts gX8_resting_X8_body rfl rfl rfl ⟨rfl, dh_X8_body⟩ ⟨Nat.le_of_ble_eq_true rfl, Nat.le_of_ble_eq_true rfl⟩) hK hN (hZ.kept hS) hP hD hS hA [0, 3] [1, 2] rfl rfl (by decide) (by decide) (by decide) (va_recv (q := (RX8, TX8, 38)) hK hP (ci := 8) (q0 := 0) rfl rfl) rfl hl.1 rfl (Nat.le_of_ble_eq_true rfl) dX8_resting_38 ⟨Nat.le_of_ble_eq_true rfl, Nat.le_of_ble_eq_true rfl⟩ (fun u_27 H locs hr_26 hP hD hS => ?_)
          obtain ⟨q_28, q_29⟩ := u_27
          try dsimp only at hr_26
          obtain ⟨hbq_28, hsr_26_0, hr_26⟩ := hr_26
          have h9R := zRe (ws' := [(mki, .inl (cI, 8, .inl gki)), (mpa, .inl (cI, 8, .inl gpa)), (zMO m0 npu nte nat_ nde nto nse nhu nga nsd nfa mrf mki mpa mta mla msl mco mhe mso msi msh mce mca mwo mnu mte nba npl nen nnu nwr mwa mke mma mth mtr q_28 nik), (mtr, .inl (cI, 20, .inl q_29))]) hP hD rfl
          clear hP hD
          obtain ⟨hP, hD⟩ := h9R
          refine lv_aload_n hx hb dX8_resting_41 rfl (lv_at hl 1 rfl) ?_
          refine lv_iload_n hx hb dX8_resting_42 rfl (lv_at hl 2 rfl) ?_
          refine lv_iload_n hx hb dX8_resting_43 rfl (lv_at hl 3 rfl) ?_
          skip
          refine zw_V (As := [.int p_, .int x]) (rest := []) (wr := []) ⟨hx, hb, hml, hown, hts⟩ (c_F_M_freeing l D cI cJ cZ cP cS po m0 mrf mki mpa mta mla msl mco mhe mso msi msh mce mca mwo mnu mte mwa mke mma mth mtr (npu) (nte) (nat_) (nde) (nto) (nse) (nhu) (nga) (nsd) (nfa) (nba) (npl) (nen) (nnu) (nwr) (q_28) (nik) gki gpa q_29 (p_) (x) hy0 hy1 hy2 hy3 hy4 hy5 hy6 hy7 hy8 hy9 (by omega) (by omega) hy12 hy13 hy14 hy15 (by omega) (by omega) hp_gki hp_gpa H.size) (cwV 2 hts gX8_resting_X8_freeing rfl rfl rfl ⟨rfl, dh_X8_freeing⟩ ⟨Nat.le_of_ble_eq_true rfl, Nat.le_of_ble_eq_true rfl⟩) hK hN (hZ.kept hS) hP hD hS hA [2, 0, 1, 3] [] rfl rfl (by decide) (by decide) (by decide) (va_recv (q := (RX8, TX8, 38)) hK hP (ci := 8) (q0 := 2) rfl rfl) rfl hl.1 rfl (Nat.le_of_ble_eq_true rfl) dX8_resting_44 ⟨Nat.le_of_ble_eq_true rfl, Nat.le_of_ble_eq_true rfl⟩ (fun r_30 u_31 H locs hr_30 hP hD hS => ?_)
          obtain ⟨q_32, q_33⟩ := u_31
          try dsimp only at hr_30
          obtain ⟨hbq_32, hsr_30_0, hsr_30_1, hsr_30_2, hr_30⟩ := hr_30
          have h9R := zRe (ws' := [(zMO m0 npu nte nat_ nde nto nse nhu nga nsd nfa mrf mki mpa mta mla msl mco mhe mso msi msh mce mca mwo mnu mte nba npl nen nnu nwr mwa mke mma mth mtr q_32 nik), (mki, .inl (cI, 8, .inl gki)), (mpa, .inl (cI, 8, .inl gpa)), (mtr, .inl (cI, 20, .inl q_33))]) hP hD rfl
          clear hP hD
          obtain ⟨hP, hD⟩ := h9R
          have zl9 := zBf_le (gki p_.toNatClampNeg).toInt
          refine lv_istore (lv' := [(4, .int r_30), (3, .int 1), (0, .ref m0), (1, .int p_), (2, .int x)]) hx hb dX8_resting_47 hl (by decide) rfl (fun ls hl => ?_)
          refine lv_iload hx hb dX8_resting_49 (lv_at hl 0 rfl) ?_
          refine lv_aload_n hx hb dX8_resting_51 rfl (lv_at hl 2 rfl) ?_
          refine lv_iload_n hx hb dX8_resting_52 rfl (lv_at hl 3 rfl) ?_
          refine lv_iload_n hx hb dX8_resting_53 rfl (lv_at hl 4 rfl) ?_
          refine lv_aload_n hx hb dX8_resting_54 rfl (lv_at hl 2 rfl) ?_
          refine va_get (D := D) (ci := 8) (v := .ref mpa) (C := RX8) (T := TX8) (N := 38) hx hb hts hi_X8_resting_8 hown hK hP 0 rfl rfl 12 (by decide) (hts (.fieldLink RX8 32 "TheLiningsInItModel" "part" "[I") (List.mem_of_getElem? (i := 2) rfl)) (fun _ h9 => h9) rfl dX8_resting_55 ?_
          refine lv_iload_n hx hb dX8_resting_58 rfl (lv_at hl 3 rfl) ?_
          refine va_iald hx hb hK hP 2 0 rfl rfl (zf_in (by omega) (by omega)) dX8_resting_59 ?_
          refine lv_topi (fun x_34 ex_34 => ?_)
          have bx_34 : 0 ≤ x_34.toInt ∧ x_34.toInt ≤ 9 := by rw [ex_34]; exact hp_gpa _
          refine lv_isub hx hb dX8_resting_60 ?_
          refine lv_topi (fun x_35 ex_35 => ?_)
          skip
          refine zw_V (As := [.int p_, .int x_35]) (rest := [.int r_30]) (wr := []) ⟨hx, hb, hml, hown, hts⟩ (c_F_M_pulling l D cI cJ cZ cP cS po m0 mrf mki mpa mta mla msl mco mhe mso msi msh mce mca mwo mnu mte mwa mke mma mth mtr (npu) (nte) (nat_) (nde) (nto) (nse) (nhu) (nga) (nsd) (nfa) (nba) (npl) (nen) (nnu) (nwr) (q_32) (nik) gki gpa q_33 (p_) (x_35) hy0 hy1 hy2 hy3 hy4 hy5 hy6 hy7 hy8 hy9 hbq_32.1 hbq_32.2 hy12 hy13 hy14 hy15 hbq_32.1 (by omega) hp_gki hp_gpa H.size) (cwV 2 hts gX8_resting_X8_pulling rfl rfl rfl ⟨rfl, dh_X8_pulling⟩ ⟨Nat.le_of_ble_eq_true rfl, Nat.le_of_ble_eq_true rfl⟩) hK hN (hZ.kept hS) hP hD hS hA [0, 1, 2, 3] [] rfl rfl (by decide) (by decide) (by decide) (va_recv (q := (RX8, TX8, 38)) hK hP (ci := 8) (q0 := 0) rfl rfl) rfl hl.1 rfl (Nat.le_of_ble_eq_true rfl) dX8_resting_61 ⟨Nat.le_of_ble_eq_true rfl, Nat.le_of_ble_eq_true rfl⟩ (fun r_36 u_37 H locs hr_36 hP hD hS => ?_)
          obtain ⟨q_38, q_39⟩ := u_37
          try dsimp only at hr_36
          obtain ⟨hbq_38, hsr_36_0, hsr_36_1, hsr_36_2, hr_36⟩ := hr_36
          have h9R := zRe (ws' := [(zMO m0 npu nte nat_ nde nto nse nhu nga nsd nfa mrf mki mpa mta mla msl mco mhe mso msi msh mce mca mwo mnu mte nba npl nen nnu nwr mwa mke mma mth mtr q_38 nik), (mki, .inl (cI, 8, .inl gki)), (mpa, .inl (cI, 8, .inl gpa)), (mtr, .inl (cI, 20, .inl q_39))]) hP hD rfl
          clear hP hD
          obtain ⟨hP, hD⟩ := h9R
          refine lv_ixor hx hb dX8_resting_64 ?_
          refine lv_topi (fun x_40 ex_40 => ?_)
          refine lv_istore (lv' := [(4, .int x_40), (3, .int 1), (0, .ref m0), (1, .int p_), (2, .int x)]) hx hb dX8_resting_65 hl (by decide) rfl (fun ls hl => ?_)
          refine lv_iload_n hx hb dX8_resting_67 rfl (lv_at hl 1 rfl) ?_
          refine lv_iconst (v := 4) hx hb dX8_resting_68 (by decide) ?_
          refine lv_icmp_eq (tgt := 78) hx hb dX8_resting_69 (by decide) (fun c_41 => ?_) (fun c_41 => ?_)
          · exact absurd c_41 (by decide)
          · refine lv_iload_n hx hb dX8_resting_72 rfl (lv_at hl 1 rfl) ?_
            refine lv_bipush (v := 6) hx hb dX8_resting_73 (by decide) ?_
            refine lv_icmp_ne (tgt := 84) hx hb dX8_resting_75 (by decide) (fun c_42 => ?_) (fun c_42 => ?_)
            · refine lv_iload_n hx hb dX8_resting_84 rfl (lv_at hl 1 rfl) ?_
              refine lv_iconst (v := 5) hx hb dX8_resting_85 (by decide) ?_
              refine lv_icmp_ne (tgt := 96) hx hb dX8_resting_86 (by decide) (fun c_43 => ?_) (fun c_43 => ?_)
              · refine lv_iload hx hb dX8_resting_96 (lv_at hl 0 rfl) ?_
                exact W.iret (v := x_40) hx hb hr (fun t ht hW => ⟨⟨x_40, (q_38, q_39), rfl, ⟨(show 0 ≤ q_38.toInt ∧ q_38.toInt ≤ 2000 from hbq_38), (show (x_40 : Int32) = zQr (gki p_.toNatClampNeg).toInt x p_ (gpa p_.toNatClampNeg) from by (have hk : (gki p_.toNatClampNeg).toInt = 1 := (by rw [← ex_1]; first | done | decide); rw [hk]; unfold zQr; (repeat (first | rw [if_pos (by decide)] | rw [if_neg (by decide)])); (try rw [ex_40]); (try rw [ex_35]); (try rw [ex_34]); (try rw [hsr_30_0, hk]); (try rw [hsr_36_0, hk]); (try rw [ex_40]); (try rw [ex_35]); (try rw [ex_34]); (try rw [ex_34]); first | done | rfl)), (show q_39 = zTr gtr nra.toInt (zBr (gki p_.toNatClampNeg).toInt) from by (have hk : (gki p_.toNatClampNeg).toInt = 1 := (by rw [← ex_1]; first | done | decide); have zbp0 : ((zBp 1).length : Int) = 2 := rfl; have zbf1 : ((zBf 1).length : Int) = 3 := rfl; have zbr2 : ((zBr 1).length : Int) = 6 := rfl; have q0 := hsr_30_2; rw [hk] at q0; have q1 := hsr_36_2; rw [hk] at q1; rw [hsr_36_1, hk]; rw [hsr_30_1, hk]; rw [hsr_26_0]; rw [zTr_app (by first | omega | (simp; omega) | (show _ = _ + 1; omega))]; rw [zTr_app (by first | omega | (simp; omega) | (show _ = _ + 1; omega))]; (try rw [hk]); first | done | rfl)), (show q_38.toInt = nra.toInt + ((zBr (gki p_.toNatClampNeg).toInt).length : Nat) from by (have hk : (gki p_.toNatClampNeg).toInt = 1 := (by rw [← ex_1]; first | done | decide); have zp : ((zBp 1).length : Int) = 2 := rfl; have zf : ((zBf 1).length : Int) = 3 := rfl; have zr : ((zBr 1).length : Int) = 6 := rfl; have q0 := hsr_30_2; rw [hk] at q0; have q1 := hsr_36_2; rw [hk] at q1; rw [hk]; omega)), trivial⟩, zRet ht hP hD [0, 1, 2, 3] (by decide) rfl⟩, hS.F ht⟩) hS.2.2 dX8_resting_98
              · exact absurd c_43 (by decide)
            · exact absurd c_42 (by decide)
        · exact absurd c_25 (by decide)
      · exact absurd c_24 (by decide)
  · have kc2 : (2 : Int32).toInt = 2 := by decide
    refine lv_iload_n hx hb dX8_resting_7 rfl (lv_at hl 0 rfl) ?_
    refine lv_iconst (v := 4) hx hb dX8_resting_8 (by decide) ?_
    refine lv_icmp_eq (tgt := 18) hx hb dX8_resting_9 (by decide) (fun c_44 => ?_) (fun c_44 => ?_)
    · exact absurd c_44 (by decide)
    · refine lv_iload_n hx hb dX8_resting_12 rfl (lv_at hl 0 rfl) ?_
      refine lv_bipush (v := 6) hx hb dX8_resting_13 (by decide) ?_
      refine lv_icmp_ne (tgt := 24) hx hb dX8_resting_15 (by decide) (fun c_45 => ?_) (fun c_45 => ?_)
      · refine lv_iload_n hx hb dX8_resting_24 rfl (lv_at hl 0 rfl) ?_
        refine lv_iconst (v := 5) hx hb dX8_resting_25 (by decide) ?_
        refine lv_icmp_ne (tgt := 35) hx hb dX8_resting_26 (by decide) (fun c_46 => ?_) (fun c_46 => ?_)
        · refine lv_aload_n hx hb dX8_resting_35 rfl (lv_at hl 1 rfl) ?_
          refine lv_bipush (v := 12) hx hb dX8_resting_36 (by decide) ?_
          skip
          refine zw_Vv (As := [.int 12]) (rest := []) (wr := [(mki, .inl (cI, 8, .inl gki)), (mpa, .inl (cI, 8, .inl gpa))]) ⟨hx, hb, hml, hown, hts⟩ (c_F_M_body l D cI cJ cZ cP cS po m0 mrf mki mpa mta mla msl mco mhe mso msi msh mce mca mwo mnu mte mwa mke mma mth mtr (npu) (nte) (nat_) (nde) (nto) (nse) (nhu) (nga) (nsd) (nfa) (nba) (npl) (nen) (nnu) (nwr) (nra) (nik) gtr (12) hy0 hy1 hy2 hy3 hy4 hy5 hy6 hy7 hy8 hy9 hy10 hy11 hy12 hy13 hy10 hy11 H.size) (cwV 1 hts gX8_resting_X8_body rfl rfl rfl ⟨rfl, dh_X8_body⟩ ⟨Nat.le_of_ble_eq_true rfl, Nat.le_of_ble_eq_true rfl⟩) hK hN (hZ.kept hS) hP hD hS hA [0, 3] [1, 2] rfl rfl (by decide) (by decide) (by decide) (va_recv (q := (RX8, TX8, 38)) hK hP (ci := 8) (q0 := 0) rfl rfl) rfl hl.1 rfl (Nat.le_of_ble_eq_true rfl) dX8_resting_38 ⟨Nat.le_of_ble_eq_true rfl, Nat.le_of_ble_eq_true rfl⟩ (fun u_48 H locs hr_47 hP hD hS => ?_)
          obtain ⟨q_49, q_50⟩ := u_48
          try dsimp only at hr_47
          obtain ⟨hbq_49, hsr_47_0, hr_47⟩ := hr_47
          have h9R := zRe (ws' := [(mki, .inl (cI, 8, .inl gki)), (mpa, .inl (cI, 8, .inl gpa)), (zMO m0 npu nte nat_ nde nto nse nhu nga nsd nfa mrf mki mpa mta mla msl mco mhe mso msi msh mce mca mwo mnu mte nba npl nen nnu nwr mwa mke mma mth mtr q_49 nik), (mtr, .inl (cI, 20, .inl q_50))]) hP hD rfl
          clear hP hD
          obtain ⟨hP, hD⟩ := h9R
          refine lv_aload_n hx hb dX8_resting_41 rfl (lv_at hl 1 rfl) ?_
          refine lv_iload_n hx hb dX8_resting_42 rfl (lv_at hl 2 rfl) ?_
          refine lv_iload_n hx hb dX8_resting_43 rfl (lv_at hl 3 rfl) ?_
          skip
          refine zw_V (As := [.int p_, .int x]) (rest := []) (wr := []) ⟨hx, hb, hml, hown, hts⟩ (c_F_M_freeing l D cI cJ cZ cP cS po m0 mrf mki mpa mta mla msl mco mhe mso msi msh mce mca mwo mnu mte mwa mke mma mth mtr (npu) (nte) (nat_) (nde) (nto) (nse) (nhu) (nga) (nsd) (nfa) (nba) (npl) (nen) (nnu) (nwr) (q_49) (nik) gki gpa q_50 (p_) (x) hy0 hy1 hy2 hy3 hy4 hy5 hy6 hy7 hy8 hy9 (by omega) (by omega) hy12 hy13 hy14 hy15 (by omega) (by omega) hp_gki hp_gpa H.size) (cwV 2 hts gX8_resting_X8_freeing rfl rfl rfl ⟨rfl, dh_X8_freeing⟩ ⟨Nat.le_of_ble_eq_true rfl, Nat.le_of_ble_eq_true rfl⟩) hK hN (hZ.kept hS) hP hD hS hA [2, 0, 1, 3] [] rfl rfl (by decide) (by decide) (by decide) (va_recv (q := (RX8, TX8, 38)) hK hP (ci := 8) (q0 := 2) rfl rfl) rfl hl.1 rfl (Nat.le_of_ble_eq_true rfl) dX8_resting_44 ⟨Nat.le_of_ble_eq_true rfl, Nat.le_of_ble_eq_true rfl⟩ (fun r_51 u_52 H locs hr_51 hP hD hS => ?_)
          obtain ⟨q_53, q_54⟩ := u_52
          try dsimp only at hr_51
          obtain ⟨hbq_53, hsr_51_0, hsr_51_1, hsr_51_2, hr_51⟩ := hr_51
          have h9R := zRe (ws' := [(zMO m0 npu nte nat_ nde nto nse nhu nga nsd nfa mrf mki mpa mta mla msl mco mhe mso msi msh mce mca mwo mnu mte nba npl nen nnu nwr mwa mke mma mth mtr q_53 nik), (mki, .inl (cI, 8, .inl gki)), (mpa, .inl (cI, 8, .inl gpa)), (mtr, .inl (cI, 20, .inl q_54))]) hP hD rfl
          clear hP hD
          obtain ⟨hP, hD⟩ := h9R
          have zl9 := zBf_le (gki p_.toNatClampNeg).toInt
          refine lv_istore (lv' := [(4, .int r_51), (3, .int 2), (0, .ref m0), (1, .int p_), (2, .int x)]) hx hb dX8_resting_47 hl (by decide) rfl (fun ls hl => ?_)
          refine lv_iload hx hb dX8_resting_49 (lv_at hl 0 rfl) ?_
          refine lv_aload_n hx hb dX8_resting_51 rfl (lv_at hl 2 rfl) ?_
          refine lv_iload_n hx hb dX8_resting_52 rfl (lv_at hl 3 rfl) ?_
          refine lv_iload_n hx hb dX8_resting_53 rfl (lv_at hl 4 rfl) ?_
          refine lv_aload_n hx hb dX8_resting_54 rfl (lv_at hl 2 rfl) ?_
          refine va_get (D := D) (ci := 8) (v := .ref mpa) (C := RX8) (T := TX8) (N := 38) hx hb hts hi_X8_resting_8 hown hK hP 0 rfl rfl 12 (by decide) (hts (.fieldLink RX8 32 "TheLiningsInItModel" "part" "[I") (List.mem_of_getElem? (i := 2) rfl)) (fun _ h9 => h9) rfl dX8_resting_55 ?_
          refine lv_iload_n hx hb dX8_resting_58 rfl (lv_at hl 3 rfl) ?_
          refine va_iald hx hb hK hP 2 0 rfl rfl (zf_in (by omega) (by omega)) dX8_resting_59 ?_
          refine lv_topi (fun x_55 ex_55 => ?_)
          have bx_55 : 0 ≤ x_55.toInt ∧ x_55.toInt ≤ 9 := by rw [ex_55]; exact hp_gpa _
          refine lv_isub hx hb dX8_resting_60 ?_
          refine lv_topi (fun x_56 ex_56 => ?_)
          skip
          refine zw_V (As := [.int p_, .int x_56]) (rest := [.int r_51]) (wr := []) ⟨hx, hb, hml, hown, hts⟩ (c_F_M_pulling l D cI cJ cZ cP cS po m0 mrf mki mpa mta mla msl mco mhe mso msi msh mce mca mwo mnu mte mwa mke mma mth mtr (npu) (nte) (nat_) (nde) (nto) (nse) (nhu) (nga) (nsd) (nfa) (nba) (npl) (nen) (nnu) (nwr) (q_53) (nik) gki gpa q_54 (p_) (x_56) hy0 hy1 hy2 hy3 hy4 hy5 hy6 hy7 hy8 hy9 hbq_53.1 hbq_53.2 hy12 hy13 hy14 hy15 hbq_53.1 (by omega) hp_gki hp_gpa H.size) (cwV 2 hts gX8_resting_X8_pulling rfl rfl rfl ⟨rfl, dh_X8_pulling⟩ ⟨Nat.le_of_ble_eq_true rfl, Nat.le_of_ble_eq_true rfl⟩) hK hN (hZ.kept hS) hP hD hS hA [0, 1, 2, 3] [] rfl rfl (by decide) (by decide) (by decide) (va_recv (q := (RX8, TX8, 38)) hK hP (ci := 8) (q0 := 0) rfl rfl) rfl hl.1 rfl (Nat.le_of_ble_eq_true rfl) dX8_resting_61 ⟨Nat.le_of_ble_eq_true rfl, Nat.le_of_ble_eq_true rfl⟩ (fun r_57 u_58 H locs hr_57 hP hD hS => ?_)
          obtain ⟨q_59, q_60⟩ := u_58
          try dsimp only at hr_57
          obtain ⟨hbq_59, hsr_57_0, hsr_57_1, hsr_57_2, hr_57⟩ := hr_57
          have h9R := zRe (ws' := [(zMO m0 npu nte nat_ nde nto nse nhu nga nsd nfa mrf mki mpa mta mla msl mco mhe mso msi msh mce mca mwo mnu mte nba npl nen nnu nwr mwa mke mma mth mtr q_59 nik), (mki, .inl (cI, 8, .inl gki)), (mpa, .inl (cI, 8, .inl gpa)), (mtr, .inl (cI, 20, .inl q_60))]) hP hD rfl
          clear hP hD
          obtain ⟨hP, hD⟩ := h9R
          refine lv_ixor hx hb dX8_resting_64 ?_
          refine lv_topi (fun x_61 ex_61 => ?_)
          refine lv_istore (lv' := [(4, .int x_61), (3, .int 2), (0, .ref m0), (1, .int p_), (2, .int x)]) hx hb dX8_resting_65 hl (by decide) rfl (fun ls hl => ?_)
          refine lv_iload_n hx hb dX8_resting_67 rfl (lv_at hl 1 rfl) ?_
          refine lv_iconst (v := 4) hx hb dX8_resting_68 (by decide) ?_
          refine lv_icmp_eq (tgt := 78) hx hb dX8_resting_69 (by decide) (fun c_62 => ?_) (fun c_62 => ?_)
          · exact absurd c_62 (by decide)
          · refine lv_iload_n hx hb dX8_resting_72 rfl (lv_at hl 1 rfl) ?_
            refine lv_bipush (v := 6) hx hb dX8_resting_73 (by decide) ?_
            refine lv_icmp_ne (tgt := 84) hx hb dX8_resting_75 (by decide) (fun c_63 => ?_) (fun c_63 => ?_)
            · refine lv_iload_n hx hb dX8_resting_84 rfl (lv_at hl 1 rfl) ?_
              refine lv_iconst (v := 5) hx hb dX8_resting_85 (by decide) ?_
              refine lv_icmp_ne (tgt := 96) hx hb dX8_resting_86 (by decide) (fun c_64 => ?_) (fun c_64 => ?_)
              · refine lv_iload hx hb dX8_resting_96 (lv_at hl 0 rfl) ?_
                exact W.iret (v := x_61) hx hb hr (fun t ht hW => ⟨⟨x_61, (q_59, q_60), rfl, ⟨(show 0 ≤ q_59.toInt ∧ q_59.toInt ≤ 2000 from hbq_59), (show (x_61 : Int32) = zQr (gki p_.toNatClampNeg).toInt x p_ (gpa p_.toNatClampNeg) from by (have hk : (gki p_.toNatClampNeg).toInt = 2 := (by rw [← ex_1]; first | done | decide); rw [hk]; unfold zQr; (repeat (first | rw [if_pos (by decide)] | rw [if_neg (by decide)])); (try rw [ex_61]); (try rw [ex_56]); (try rw [ex_55]); (try rw [hsr_51_0, hk]); (try rw [hsr_57_0, hk]); (try rw [ex_61]); (try rw [ex_56]); (try rw [ex_55]); (try rw [ex_55]); first | done | rfl)), (show q_60 = zTr gtr nra.toInt (zBr (gki p_.toNatClampNeg).toInt) from by (have hk : (gki p_.toNatClampNeg).toInt = 2 := (by rw [← ex_1]; first | done | decide); have zbp0 : ((zBp 2).length : Int) = 1 := rfl; have zbf1 : ((zBf 2).length : Int) = 3 := rfl; have zbr2 : ((zBr 2).length : Int) = 5 := rfl; have q0 := hsr_51_2; rw [hk] at q0; have q1 := hsr_57_2; rw [hk] at q1; rw [hsr_57_1, hk]; rw [hsr_51_1, hk]; rw [hsr_47_0]; rw [zTr_app (by first | omega | (simp; omega) | (show _ = _ + 1; omega))]; rw [zTr_app (by first | omega | (simp; omega) | (show _ = _ + 1; omega))]; (try rw [hk]); first | done | rfl)), (show q_59.toInt = nra.toInt + ((zBr (gki p_.toNatClampNeg).toInt).length : Nat) from by (have hk : (gki p_.toNatClampNeg).toInt = 2 := (by rw [← ex_1]; first | done | decide); have zp : ((zBp 2).length : Int) = 1 := rfl; have zf : ((zBf 2).length : Int) = 3 := rfl; have zr : ((zBr 2).length : Int) = 5 := rfl; have q0 := hsr_51_2; rw [hk] at q0; have q1 := hsr_57_2; rw [hk] at q1; rw [hk]; omega)), trivial⟩, zRet ht hP hD [0, 1, 2, 3] (by decide) rfl⟩, hS.F ht⟩) hS.2.2 dX8_resting_98
              · exact absurd c_64 (by decide)
            · exact absurd c_63 (by decide)
        · exact absurd c_46 (by decide)
      · exact absurd c_45 (by decide)
  · have kc3 : (3 : Int32).toInt = 3 := by decide
    refine lv_iload_n hx hb dX8_resting_7 rfl (lv_at hl 0 rfl) ?_
    refine lv_iconst (v := 4) hx hb dX8_resting_8 (by decide) ?_
    refine lv_icmp_eq (tgt := 18) hx hb dX8_resting_9 (by decide) (fun c_65 => ?_) (fun c_65 => ?_)
    · exact absurd c_65 (by decide)
    · refine lv_iload_n hx hb dX8_resting_12 rfl (lv_at hl 0 rfl) ?_
      refine lv_bipush (v := 6) hx hb dX8_resting_13 (by decide) ?_
      refine lv_icmp_ne (tgt := 24) hx hb dX8_resting_15 (by decide) (fun c_66 => ?_) (fun c_66 => ?_)
      · refine lv_iload_n hx hb dX8_resting_24 rfl (lv_at hl 0 rfl) ?_
        refine lv_iconst (v := 5) hx hb dX8_resting_25 (by decide) ?_
        refine lv_icmp_ne (tgt := 35) hx hb dX8_resting_26 (by decide) (fun c_67 => ?_) (fun c_67 => ?_)
        · refine lv_aload_n hx hb dX8_resting_35 rfl (lv_at hl 1 rfl) ?_
          refine lv_bipush (v := 12) hx hb dX8_resting_36 (by decide) ?_
          skip
          refine zw_Vv (As := [.int 12]) (rest := []) (wr := [(mki, .inl (cI, 8, .inl gki)), (mpa, .inl (cI, 8, .inl gpa))]) ⟨hx, hb, hml, hown, hts⟩ (c_F_M_body l D cI cJ cZ cP cS po m0 mrf mki mpa mta mla msl mco mhe mso msi msh mce mca mwo mnu mte mwa mke mma mth mtr (npu) (nte) (nat_) (nde) (nto) (nse) (nhu) (nga) (nsd) (nfa) (nba) (npl) (nen) (nnu) (nwr) (nra) (nik) gtr (12) hy0 hy1 hy2 hy3 hy4 hy5 hy6 hy7 hy8 hy9 hy10 hy11 hy12 hy13 hy10 hy11 H.size) (cwV 1 hts gX8_resting_X8_body rfl rfl rfl ⟨rfl, dh_X8_body⟩ ⟨Nat.le_of_ble_eq_true rfl, Nat.le_of_ble_eq_true rfl⟩) hK hN (hZ.kept hS) hP hD hS hA [0, 3] [1, 2] rfl rfl (by decide) (by decide) (by decide) (va_recv (q := (RX8, TX8, 38)) hK hP (ci := 8) (q0 := 0) rfl rfl) rfl hl.1 rfl (Nat.le_of_ble_eq_true rfl) dX8_resting_38 ⟨Nat.le_of_ble_eq_true rfl, Nat.le_of_ble_eq_true rfl⟩ (fun u_69 H locs hr_68 hP hD hS => ?_)
          obtain ⟨q_70, q_71⟩ := u_69
          try dsimp only at hr_68
          obtain ⟨hbq_70, hsr_68_0, hr_68⟩ := hr_68
          have h9R := zRe (ws' := [(mki, .inl (cI, 8, .inl gki)), (mpa, .inl (cI, 8, .inl gpa)), (zMO m0 npu nte nat_ nde nto nse nhu nga nsd nfa mrf mki mpa mta mla msl mco mhe mso msi msh mce mca mwo mnu mte nba npl nen nnu nwr mwa mke mma mth mtr q_70 nik), (mtr, .inl (cI, 20, .inl q_71))]) hP hD rfl
          clear hP hD
          obtain ⟨hP, hD⟩ := h9R
          refine lv_aload_n hx hb dX8_resting_41 rfl (lv_at hl 1 rfl) ?_
          refine lv_iload_n hx hb dX8_resting_42 rfl (lv_at hl 2 rfl) ?_
          refine lv_iload_n hx hb dX8_resting_43 rfl (lv_at hl 3 rfl) ?_
          skip
          refine zw_V (As := [.int p_, .int x]) (rest := []) (wr := []) ⟨hx, hb, hml, hown, hts⟩ (c_F_M_freeing l D cI cJ cZ cP cS po m0 mrf mki mpa mta mla msl mco mhe mso msi msh mce mca mwo mnu mte mwa mke mma mth mtr (npu) (nte) (nat_) (nde) (nto) (nse) (nhu) (nga) (nsd) (nfa) (nba) (npl) (nen) (nnu) (nwr) (q_70) (nik) gki gpa q_71 (p_) (x) hy0 hy1 hy2 hy3 hy4 hy5 hy6 hy7 hy8 hy9 (by omega) (by omega) hy12 hy13 hy14 hy15 (by omega) (by omega) hp_gki hp_gpa H.size) (cwV 2 hts gX8_resting_X8_freeing rfl rfl rfl ⟨rfl, dh_X8_freeing⟩ ⟨Nat.le_of_ble_eq_true rfl, Nat.le_of_ble_eq_true rfl⟩) hK hN (hZ.kept hS) hP hD hS hA [2, 0, 1, 3] [] rfl rfl (by decide) (by decide) (by decide) (va_recv (q := (RX8, TX8, 38)) hK hP (ci := 8) (q0 := 2) rfl rfl) rfl hl.1 rfl (Nat.le_of_ble_eq_true rfl) dX8_resting_44 ⟨Nat.le_of_ble_eq_true rfl, Nat.le_of_ble_eq_true rfl⟩ (fun r_72 u_73 H locs hr_72 hP hD hS => ?_)
          obtain ⟨q_74, q_75⟩ := u_73
          try dsimp only at hr_72
          obtain ⟨hbq_74, hsr_72_0, hsr_72_1, hsr_72_2, hr_72⟩ := hr_72
          have h9R := zRe (ws' := [(zMO m0 npu nte nat_ nde nto nse nhu nga nsd nfa mrf mki mpa mta mla msl mco mhe mso msi msh mce mca mwo mnu mte nba npl nen nnu nwr mwa mke mma mth mtr q_74 nik), (mki, .inl (cI, 8, .inl gki)), (mpa, .inl (cI, 8, .inl gpa)), (mtr, .inl (cI, 20, .inl q_75))]) hP hD rfl
          clear hP hD
          obtain ⟨hP, hD⟩ := h9R
          have zl9 := zBf_le (gki p_.toNatClampNeg).toInt
          refine lv_istore (lv' := [(4, .int r_72), (3, .int 3), (0, .ref m0), (1, .int p_), (2, .int x)]) hx hb dX8_resting_47 hl (by decide) rfl (fun ls hl => ?_)
          refine lv_iload hx hb dX8_resting_49 (lv_at hl 0 rfl) ?_
          refine lv_aload_n hx hb dX8_resting_51 rfl (lv_at hl 2 rfl) ?_
          refine lv_iload_n hx hb dX8_resting_52 rfl (lv_at hl 3 rfl) ?_
          refine lv_iload_n hx hb dX8_resting_53 rfl (lv_at hl 4 rfl) ?_
          refine lv_aload_n hx hb dX8_resting_54 rfl (lv_at hl 2 rfl) ?_
          refine va_get (D := D) (ci := 8) (v := .ref mpa) (C := RX8) (T := TX8) (N := 38) hx hb hts hi_X8_resting_8 hown hK hP 0 rfl rfl 12 (by decide) (hts (.fieldLink RX8 32 "TheLiningsInItModel" "part" "[I") (List.mem_of_getElem? (i := 2) rfl)) (fun _ h9 => h9) rfl dX8_resting_55 ?_
          refine lv_iload_n hx hb dX8_resting_58 rfl (lv_at hl 3 rfl) ?_
          refine va_iald hx hb hK hP 2 0 rfl rfl (zf_in (by omega) (by omega)) dX8_resting_59 ?_
          refine lv_topi (fun x_76 ex_76 => ?_)
          have bx_76 : 0 ≤ x_76.toInt ∧ x_76.toInt ≤ 9 := by rw [ex_76]; exact hp_gpa _
          refine lv_isub hx hb dX8_resting_60 ?_
          refine lv_topi (fun x_77 ex_77 => ?_)
          skip
          refine zw_V (As := [.int p_, .int x_77]) (rest := [.int r_72]) (wr := []) ⟨hx, hb, hml, hown, hts⟩ (c_F_M_pulling l D cI cJ cZ cP cS po m0 mrf mki mpa mta mla msl mco mhe mso msi msh mce mca mwo mnu mte mwa mke mma mth mtr (npu) (nte) (nat_) (nde) (nto) (nse) (nhu) (nga) (nsd) (nfa) (nba) (npl) (nen) (nnu) (nwr) (q_74) (nik) gki gpa q_75 (p_) (x_77) hy0 hy1 hy2 hy3 hy4 hy5 hy6 hy7 hy8 hy9 hbq_74.1 hbq_74.2 hy12 hy13 hy14 hy15 hbq_74.1 (by omega) hp_gki hp_gpa H.size) (cwV 2 hts gX8_resting_X8_pulling rfl rfl rfl ⟨rfl, dh_X8_pulling⟩ ⟨Nat.le_of_ble_eq_true rfl, Nat.le_of_ble_eq_true rfl⟩) hK hN (hZ.kept hS) hP hD hS hA [0, 1, 2, 3] [] rfl rfl (by decide) (by decide) (by decide) (va_recv (q := (RX8, TX8, 38)) hK hP (ci := 8) (q0 := 0) rfl rfl) rfl hl.1 rfl (Nat.le_of_ble_eq_true rfl) dX8_resting_61 ⟨Nat.le_of_ble_eq_true rfl, Nat.le_of_ble_eq_true rfl⟩ (fun r_78 u_79 H locs hr_78 hP hD hS => ?_)
          obtain ⟨q_80, q_81⟩ := u_79
          try dsimp only at hr_78
          obtain ⟨hbq_80, hsr_78_0, hsr_78_1, hsr_78_2, hr_78⟩ := hr_78
          have h9R := zRe (ws' := [(zMO m0 npu nte nat_ nde nto nse nhu nga nsd nfa mrf mki mpa mta mla msl mco mhe mso msi msh mce mca mwo mnu mte nba npl nen nnu nwr mwa mke mma mth mtr q_80 nik), (mki, .inl (cI, 8, .inl gki)), (mpa, .inl (cI, 8, .inl gpa)), (mtr, .inl (cI, 20, .inl q_81))]) hP hD rfl
          clear hP hD
          obtain ⟨hP, hD⟩ := h9R
          refine lv_ixor hx hb dX8_resting_64 ?_
          refine lv_topi (fun x_82 ex_82 => ?_)
          refine lv_istore (lv' := [(4, .int x_82), (3, .int 3), (0, .ref m0), (1, .int p_), (2, .int x)]) hx hb dX8_resting_65 hl (by decide) rfl (fun ls hl => ?_)
          refine lv_iload_n hx hb dX8_resting_67 rfl (lv_at hl 1 rfl) ?_
          refine lv_iconst (v := 4) hx hb dX8_resting_68 (by decide) ?_
          refine lv_icmp_eq (tgt := 78) hx hb dX8_resting_69 (by decide) (fun c_83 => ?_) (fun c_83 => ?_)
          · exact absurd c_83 (by decide)
          · refine lv_iload_n hx hb dX8_resting_72 rfl (lv_at hl 1 rfl) ?_
            refine lv_bipush (v := 6) hx hb dX8_resting_73 (by decide) ?_
            refine lv_icmp_ne (tgt := 84) hx hb dX8_resting_75 (by decide) (fun c_84 => ?_) (fun c_84 => ?_)
            · refine lv_iload_n hx hb dX8_resting_84 rfl (lv_at hl 1 rfl) ?_
              refine lv_iconst (v := 5) hx hb dX8_resting_85 (by decide) ?_
              refine lv_icmp_ne (tgt := 96) hx hb dX8_resting_86 (by decide) (fun c_85 => ?_) (fun c_85 => ?_)
              · refine lv_iload hx hb dX8_resting_96 (lv_at hl 0 rfl) ?_
                exact W.iret (v := x_82) hx hb hr (fun t ht hW => ⟨⟨x_82, (q_80, q_81), rfl, ⟨(show 0 ≤ q_80.toInt ∧ q_80.toInt ≤ 2000 from hbq_80), (show (x_82 : Int32) = zQr (gki p_.toNatClampNeg).toInt x p_ (gpa p_.toNatClampNeg) from by (have hk : (gki p_.toNatClampNeg).toInt = 3 := (by rw [← ex_1]; first | done | decide); rw [hk]; unfold zQr; (repeat (first | rw [if_pos (by decide)] | rw [if_neg (by decide)])); (try rw [ex_82]); (try rw [ex_77]); (try rw [ex_76]); (try rw [hsr_72_0, hk]); (try rw [hsr_78_0, hk]); (try rw [ex_82]); (try rw [ex_77]); (try rw [ex_76]); (try rw [ex_76]); first | done | rfl)), (show q_81 = zTr gtr nra.toInt (zBr (gki p_.toNatClampNeg).toInt) from by (have hk : (gki p_.toNatClampNeg).toInt = 3 := (by rw [← ex_1]; first | done | decide); have zbp0 : ((zBp 3).length : Int) = 2 := rfl; have zbf1 : ((zBf 3).length : Int) = 4 := rfl; have zbr2 : ((zBr 3).length : Int) = 7 := rfl; have q0 := hsr_72_2; rw [hk] at q0; have q1 := hsr_78_2; rw [hk] at q1; rw [hsr_78_1, hk]; rw [hsr_72_1, hk]; rw [hsr_68_0]; rw [zTr_app (by first | omega | (simp; omega) | (show _ = _ + 1; omega))]; rw [zTr_app (by first | omega | (simp; omega) | (show _ = _ + 1; omega))]; (try rw [hk]); first | done | rfl)), (show q_80.toInt = nra.toInt + ((zBr (gki p_.toNatClampNeg).toInt).length : Nat) from by (have hk : (gki p_.toNatClampNeg).toInt = 3 := (by rw [← ex_1]; first | done | decide); have zp : ((zBp 3).length : Int) = 2 := rfl; have zf : ((zBf 3).length : Int) = 4 := rfl; have zr : ((zBr 3).length : Int) = 7 := rfl; have q0 := hsr_72_2; rw [hk] at q0; have q1 := hsr_78_2; rw [hk] at q1; rw [hk]; omega)), trivial⟩, zRet ht hP hD [0, 1, 2, 3] (by decide) rfl⟩, hS.F ht⟩) hS.2.2 dX8_resting_98
              · exact absurd c_85 (by decide)
            · exact absurd c_84 (by decide)
        · exact absurd c_67 (by decide)
      · exact absurd c_66 (by decide)
  · have kc4 : (4 : Int32).toInt = 4 := by decide
    refine lv_iload_n hx hb dX8_resting_7 rfl (lv_at hl 0 rfl) ?_
    refine lv_iconst (v := 4) hx hb dX8_resting_8 (by decide) ?_
    refine lv_icmp_eq (tgt := 18) hx hb dX8_resting_9 (by decide) (fun c_86 => ?_) (fun c_86 => ?_)
    · refine lv_aload_n hx hb dX8_resting_18 rfl (lv_at hl 1 rfl) ?_
      refine lv_bipush (v := 50) hx hb dX8_resting_19 (by decide) ?_
      skip
      refine zw_Vv (As := [.int 50]) (rest := []) (wr := [(mki, .inl (cI, 8, .inl gki)), (mpa, .inl (cI, 8, .inl gpa))]) ⟨hx, hb, hml, hown, hts⟩ (c_F_M_body l D cI cJ cZ cP cS po m0 mrf mki mpa mta mla msl mco mhe mso msi msh mce mca mwo mnu mte mwa mke mma mth mtr (npu) (nte) (nat_) (nde) (nto) (nse) (nhu) (nga) (nsd) (nfa) (nba) (npl) (nen) (nnu) (nwr) (nra) (nik) gtr (50) hy0 hy1 hy2 hy3 hy4 hy5 hy6 hy7 hy8 hy9 hy10 hy11 hy12 hy13 hy10 hy11 H.size) (cwV 1 hts gX8_resting_X8_body rfl rfl rfl ⟨rfl, dh_X8_body⟩ ⟨Nat.le_of_ble_eq_true rfl, Nat.le_of_ble_eq_true rfl⟩) hK hN (hZ.kept hS) hP hD hS hA [0, 3] [1, 2] rfl rfl (by decide) (by decide) (by decide) (va_recv (q := (RX8, TX8, 38)) hK hP (ci := 8) (q0 := 0) rfl rfl) rfl hl.1 rfl (Nat.le_of_ble_eq_true rfl) dX8_resting_21 ⟨Nat.le_of_ble_eq_true rfl, Nat.le_of_ble_eq_true rfl⟩ (fun u_88 H locs hr_87 hP hD hS => ?_)
      obtain ⟨q_89, q_90⟩ := u_88
      try dsimp only at hr_87
      obtain ⟨hbq_89, hsr_87_0, hr_87⟩ := hr_87
      have h9R := zRe (ws' := [(mki, .inl (cI, 8, .inl gki)), (mpa, .inl (cI, 8, .inl gpa)), (zMO m0 npu nte nat_ nde nto nse nhu nga nsd nfa mrf mki mpa mta mla msl mco mhe mso msi msh mce mca mwo mnu mte nba npl nen nnu nwr mwa mke mma mth mtr q_89 nik), (mtr, .inl (cI, 20, .inl q_90))]) hP hD rfl
      clear hP hD
      obtain ⟨hP, hD⟩ := h9R
      refine lv_iload_n hx hb dX8_resting_24 rfl (lv_at hl 0 rfl) ?_
      refine lv_iconst (v := 5) hx hb dX8_resting_25 (by decide) ?_
      refine lv_icmp_ne (tgt := 35) hx hb dX8_resting_26 (by decide) (fun c_91 => ?_) (fun c_91 => ?_)
      · refine lv_aload_n hx hb dX8_resting_35 rfl (lv_at hl 1 rfl) ?_
        refine lv_bipush (v := 12) hx hb dX8_resting_36 (by decide) ?_
        skip
        refine zw_Vv (As := [.int 12]) (rest := []) (wr := [(mki, .inl (cI, 8, .inl gki)), (mpa, .inl (cI, 8, .inl gpa))]) ⟨hx, hb, hml, hown, hts⟩ (c_F_M_body l D cI cJ cZ cP cS po m0 mrf mki mpa mta mla msl mco mhe mso msi msh mce mca mwo mnu mte mwa mke mma mth mtr (npu) (nte) (nat_) (nde) (nto) (nse) (nhu) (nga) (nsd) (nfa) (nba) (npl) (nen) (nnu) (nwr) (q_89) (nik) q_90 (12) hy0 hy1 hy2 hy3 hy4 hy5 hy6 hy7 hy8 hy9 (by omega) (by omega) hy12 hy13 (by omega) (by omega) H.size) (cwV 1 hts gX8_resting_X8_body rfl rfl rfl ⟨rfl, dh_X8_body⟩ ⟨Nat.le_of_ble_eq_true rfl, Nat.le_of_ble_eq_true rfl⟩) hK hN (hZ.kept hS) hP hD hS hA [2, 3] [0, 1] rfl rfl (by decide) (by decide) (by decide) (va_recv (q := (RX8, TX8, 38)) hK hP (ci := 8) (q0 := 2) rfl rfl) rfl hl.1 rfl (Nat.le_of_ble_eq_true rfl) dX8_resting_38 ⟨Nat.le_of_ble_eq_true rfl, Nat.le_of_ble_eq_true rfl⟩ (fun u_93 H locs hr_92 hP hD hS => ?_)
        obtain ⟨q_94, q_95⟩ := u_93
        try dsimp only at hr_92
        obtain ⟨hbq_94, hsr_92_0, hr_92⟩ := hr_92
        have h9R := zRe (ws' := [(mki, .inl (cI, 8, .inl gki)), (mpa, .inl (cI, 8, .inl gpa)), (zMO m0 npu nte nat_ nde nto nse nhu nga nsd nfa mrf mki mpa mta mla msl mco mhe mso msi msh mce mca mwo mnu mte nba npl nen nnu nwr mwa mke mma mth mtr q_94 nik), (mtr, .inl (cI, 20, .inl q_95))]) hP hD rfl
        clear hP hD
        obtain ⟨hP, hD⟩ := h9R
        refine lv_aload_n hx hb dX8_resting_41 rfl (lv_at hl 1 rfl) ?_
        refine lv_iload_n hx hb dX8_resting_42 rfl (lv_at hl 2 rfl) ?_
        refine lv_iload_n hx hb dX8_resting_43 rfl (lv_at hl 3 rfl) ?_
        skip
        refine zw_V (As := [.int p_, .int x]) (rest := []) (wr := []) ⟨hx, hb, hml, hown, hts⟩ (c_F_M_freeing l D cI cJ cZ cP cS po m0 mrf mki mpa mta mla msl mco mhe mso msi msh mce mca mwo mnu mte mwa mke mma mth mtr (npu) (nte) (nat_) (nde) (nto) (nse) (nhu) (nga) (nsd) (nfa) (nba) (npl) (nen) (nnu) (nwr) (q_94) (nik) gki gpa q_95 (p_) (x) hy0 hy1 hy2 hy3 hy4 hy5 hy6 hy7 hy8 hy9 (by omega) (by omega) hy12 hy13 hy14 hy15 (by omega) (by omega) hp_gki hp_gpa H.size) (cwV 2 hts gX8_resting_X8_freeing rfl rfl rfl ⟨rfl, dh_X8_freeing⟩ ⟨Nat.le_of_ble_eq_true rfl, Nat.le_of_ble_eq_true rfl⟩) hK hN (hZ.kept hS) hP hD hS hA [2, 0, 1, 3] [] rfl rfl (by decide) (by decide) (by decide) (va_recv (q := (RX8, TX8, 38)) hK hP (ci := 8) (q0 := 2) rfl rfl) rfl hl.1 rfl (Nat.le_of_ble_eq_true rfl) dX8_resting_44 ⟨Nat.le_of_ble_eq_true rfl, Nat.le_of_ble_eq_true rfl⟩ (fun r_96 u_97 H locs hr_96 hP hD hS => ?_)
        obtain ⟨q_98, q_99⟩ := u_97
        try dsimp only at hr_96
        obtain ⟨hbq_98, hsr_96_0, hsr_96_1, hsr_96_2, hr_96⟩ := hr_96
        have h9R := zRe (ws' := [(zMO m0 npu nte nat_ nde nto nse nhu nga nsd nfa mrf mki mpa mta mla msl mco mhe mso msi msh mce mca mwo mnu mte nba npl nen nnu nwr mwa mke mma mth mtr q_98 nik), (mki, .inl (cI, 8, .inl gki)), (mpa, .inl (cI, 8, .inl gpa)), (mtr, .inl (cI, 20, .inl q_99))]) hP hD rfl
        clear hP hD
        obtain ⟨hP, hD⟩ := h9R
        have zl9 := zBf_le (gki p_.toNatClampNeg).toInt
        refine lv_istore (lv' := [(4, .int r_96), (3, .int 4), (0, .ref m0), (1, .int p_), (2, .int x)]) hx hb dX8_resting_47 hl (by decide) rfl (fun ls hl => ?_)
        refine lv_iload hx hb dX8_resting_49 (lv_at hl 0 rfl) ?_
        refine lv_aload_n hx hb dX8_resting_51 rfl (lv_at hl 2 rfl) ?_
        refine lv_iload_n hx hb dX8_resting_52 rfl (lv_at hl 3 rfl) ?_
        refine lv_iload_n hx hb dX8_resting_53 rfl (lv_at hl 4 rfl) ?_
        refine lv_aload_n hx hb dX8_resting_54 rfl (lv_at hl 2 rfl) ?_
        refine va_get (D := D) (ci := 8) (v := .ref mpa) (C := RX8) (T := TX8) (N := 38) hx hb hts hi_X8_resting_8 hown hK hP 0 rfl rfl 12 (by decide) (hts (.fieldLink RX8 32 "TheLiningsInItModel" "part" "[I") (List.mem_of_getElem? (i := 2) rfl)) (fun _ h9 => h9) rfl dX8_resting_55 ?_
        refine lv_iload_n hx hb dX8_resting_58 rfl (lv_at hl 3 rfl) ?_
        refine va_iald hx hb hK hP 2 0 rfl rfl (zf_in (by omega) (by omega)) dX8_resting_59 ?_
        refine lv_topi (fun x_100 ex_100 => ?_)
        have bx_100 : 0 ≤ x_100.toInt ∧ x_100.toInt ≤ 9 := by rw [ex_100]; exact hp_gpa _
        refine lv_isub hx hb dX8_resting_60 ?_
        refine lv_topi (fun x_101 ex_101 => ?_)
        skip
        refine zw_V (As := [.int p_, .int x_101]) (rest := [.int r_96]) (wr := []) ⟨hx, hb, hml, hown, hts⟩ (c_F_M_pulling l D cI cJ cZ cP cS po m0 mrf mki mpa mta mla msl mco mhe mso msi msh mce mca mwo mnu mte mwa mke mma mth mtr (npu) (nte) (nat_) (nde) (nto) (nse) (nhu) (nga) (nsd) (nfa) (nba) (npl) (nen) (nnu) (nwr) (q_98) (nik) gki gpa q_99 (p_) (x_101) hy0 hy1 hy2 hy3 hy4 hy5 hy6 hy7 hy8 hy9 hbq_98.1 hbq_98.2 hy12 hy13 hy14 hy15 hbq_98.1 (by omega) hp_gki hp_gpa H.size) (cwV 2 hts gX8_resting_X8_pulling rfl rfl rfl ⟨rfl, dh_X8_pulling⟩ ⟨Nat.le_of_ble_eq_true rfl, Nat.le_of_ble_eq_true rfl⟩) hK hN (hZ.kept hS) hP hD hS hA [0, 1, 2, 3] [] rfl rfl (by decide) (by decide) (by decide) (va_recv (q := (RX8, TX8, 38)) hK hP (ci := 8) (q0 := 0) rfl rfl) rfl hl.1 rfl (Nat.le_of_ble_eq_true rfl) dX8_resting_61 ⟨Nat.le_of_ble_eq_true rfl, Nat.le_of_ble_eq_true rfl⟩ (fun r_102 u_103 H locs hr_102 hP hD hS => ?_)
        obtain ⟨q_104, q_105⟩ := u_103
        try dsimp only at hr_102
        obtain ⟨hbq_104, hsr_102_0, hsr_102_1, hsr_102_2, hr_102⟩ := hr_102
        have h9R := zRe (ws' := [(zMO m0 npu nte nat_ nde nto nse nhu nga nsd nfa mrf mki mpa mta mla msl mco mhe mso msi msh mce mca mwo mnu mte nba npl nen nnu nwr mwa mke mma mth mtr q_104 nik), (mki, .inl (cI, 8, .inl gki)), (mpa, .inl (cI, 8, .inl gpa)), (mtr, .inl (cI, 20, .inl q_105))]) hP hD rfl
        clear hP hD
        obtain ⟨hP, hD⟩ := h9R
        refine lv_ixor hx hb dX8_resting_64 ?_
        refine lv_topi (fun x_106 ex_106 => ?_)
        refine lv_istore (lv' := [(4, .int x_106), (3, .int 4), (0, .ref m0), (1, .int p_), (2, .int x)]) hx hb dX8_resting_65 hl (by decide) rfl (fun ls hl => ?_)
        refine lv_iload_n hx hb dX8_resting_67 rfl (lv_at hl 1 rfl) ?_
        refine lv_iconst (v := 4) hx hb dX8_resting_68 (by decide) ?_
        refine lv_icmp_eq (tgt := 78) hx hb dX8_resting_69 (by decide) (fun c_107 => ?_) (fun c_107 => ?_)
        · refine lv_iload hx hb dX8_resting_78 (lv_at hl 0 rfl) ?_
          refine lv_ineg hx hb dX8_resting_80 ?_
          refine lv_topi (fun x_108 ex_108 => ?_)
          refine lv_goto (tgt := 98) hx hb dX8_resting_81 (by decide) ?_
          exact W.iret (v := x_108) hx hb hr (fun t ht hW => ⟨⟨x_108, (q_104, q_105), rfl, ⟨(show 0 ≤ q_104.toInt ∧ q_104.toInt ≤ 2000 from hbq_104), (show (x_108 : Int32) = zQr (gki p_.toNatClampNeg).toInt x p_ (gpa p_.toNatClampNeg) from by (have hk : (gki p_.toNatClampNeg).toInt = 4 := (by rw [← ex_1]; first | done | decide); rw [hk]; unfold zQr; (repeat (first | rw [if_pos (by decide)] | rw [if_neg (by decide)])); (try rw [ex_108]); (try rw [ex_106]); (try rw [ex_101]); (try rw [ex_100]); (try rw [hsr_96_0, hk]); (try rw [hsr_102_0, hk]); (try rw [ex_108]); (try rw [ex_106]); (try rw [ex_101]); (try rw [ex_100]); (try rw [ex_100]); first | done | rfl)), (show q_105 = zTr gtr nra.toInt (zBr (gki p_.toNatClampNeg).toInt) from by (have hk : (gki p_.toNatClampNeg).toInt = 4 := (by rw [← ex_1]; first | done | decide); have zbp0 : ((zBp 4).length : Int) = 2 := rfl; have zbf1 : ((zBf 4).length : Int) = 3 := rfl; have zbr2 : ((zBr 4).length : Int) = 7 := rfl; have q0 := hsr_96_2; rw [hk] at q0; have q1 := hsr_102_2; rw [hk] at q1; rw [hsr_102_1, hk]; rw [hsr_96_1, hk]; rw [hsr_92_0]; rw [hsr_87_0]; rw [zTr_app (by first | omega | (simp; omega) | (show _ = _ + 1; omega))]; rw [zTr_app (by first | omega | (simp; omega) | (show _ = _ + 1; omega))]; rw [zTr_app (by first | omega | (simp; omega) | (show _ = _ + 1; omega))]; (try rw [hk]); first | done | rfl)), (show q_104.toInt = nra.toInt + ((zBr (gki p_.toNatClampNeg).toInt).length : Nat) from by (have hk : (gki p_.toNatClampNeg).toInt = 4 := (by rw [← ex_1]; first | done | decide); have zp : ((zBp 4).length : Int) = 2 := rfl; have zf : ((zBf 4).length : Int) = 3 := rfl; have zr : ((zBr 4).length : Int) = 7 := rfl; have q0 := hsr_96_2; rw [hk] at q0; have q1 := hsr_102_2; rw [hk] at q1; rw [hk]; omega)), trivial⟩, zRet ht hP hD [0, 1, 2, 3] (by decide) rfl⟩, hS.F ht⟩) hS.2.2 dX8_resting_98
        · exact absurd c_107 (by decide)
      · exact absurd c_91 (by decide)
    · exact absurd c_86 (by decide)
  · have kc5 : (5 : Int32).toInt = 5 := by decide
    refine lv_iload_n hx hb dX8_resting_7 rfl (lv_at hl 0 rfl) ?_
    refine lv_iconst (v := 4) hx hb dX8_resting_8 (by decide) ?_
    refine lv_icmp_eq (tgt := 18) hx hb dX8_resting_9 (by decide) (fun c_109 => ?_) (fun c_109 => ?_)
    · exact absurd c_109 (by decide)
    · refine lv_iload_n hx hb dX8_resting_12 rfl (lv_at hl 0 rfl) ?_
      refine lv_bipush (v := 6) hx hb dX8_resting_13 (by decide) ?_
      refine lv_icmp_ne (tgt := 24) hx hb dX8_resting_15 (by decide) (fun c_110 => ?_) (fun c_110 => ?_)
      · refine lv_iload_n hx hb dX8_resting_24 rfl (lv_at hl 0 rfl) ?_
        refine lv_iconst (v := 5) hx hb dX8_resting_25 (by decide) ?_
        refine lv_icmp_ne (tgt := 35) hx hb dX8_resting_26 (by decide) (fun c_111 => ?_) (fun c_111 => ?_)
        · exact absurd c_111 (by decide)
        · refine lv_aload_n hx hb dX8_resting_29 rfl (lv_at hl 1 rfl) ?_
          refine lv_bipush (v := 60) hx hb dX8_resting_30 (by decide) ?_
          skip
          refine zw_Vv (As := [.int 60]) (rest := []) (wr := [(mki, .inl (cI, 8, .inl gki)), (mpa, .inl (cI, 8, .inl gpa))]) ⟨hx, hb, hml, hown, hts⟩ (c_F_M_body l D cI cJ cZ cP cS po m0 mrf mki mpa mta mla msl mco mhe mso msi msh mce mca mwo mnu mte mwa mke mma mth mtr (npu) (nte) (nat_) (nde) (nto) (nse) (nhu) (nga) (nsd) (nfa) (nba) (npl) (nen) (nnu) (nwr) (nra) (nik) gtr (60) hy0 hy1 hy2 hy3 hy4 hy5 hy6 hy7 hy8 hy9 hy10 hy11 hy12 hy13 hy10 hy11 H.size) (cwV 1 hts gX8_resting_X8_body rfl rfl rfl ⟨rfl, dh_X8_body⟩ ⟨Nat.le_of_ble_eq_true rfl, Nat.le_of_ble_eq_true rfl⟩) hK hN (hZ.kept hS) hP hD hS hA [0, 3] [1, 2] rfl rfl (by decide) (by decide) (by decide) (va_recv (q := (RX8, TX8, 38)) hK hP (ci := 8) (q0 := 0) rfl rfl) rfl hl.1 rfl (Nat.le_of_ble_eq_true rfl) dX8_resting_32 ⟨Nat.le_of_ble_eq_true rfl, Nat.le_of_ble_eq_true rfl⟩ (fun u_113 H locs hr_112 hP hD hS => ?_)
          obtain ⟨q_114, q_115⟩ := u_113
          try dsimp only at hr_112
          obtain ⟨hbq_114, hsr_112_0, hr_112⟩ := hr_112
          have h9R := zRe (ws' := [(mki, .inl (cI, 8, .inl gki)), (mpa, .inl (cI, 8, .inl gpa)), (zMO m0 npu nte nat_ nde nto nse nhu nga nsd nfa mrf mki mpa mta mla msl mco mhe mso msi msh mce mca mwo mnu mte nba npl nen nnu nwr mwa mke mma mth mtr q_114 nik), (mtr, .inl (cI, 20, .inl q_115))]) hP hD rfl
          clear hP hD
          obtain ⟨hP, hD⟩ := h9R
          refine lv_aload_n hx hb dX8_resting_35 rfl (lv_at hl 1 rfl) ?_
          refine lv_bipush (v := 12) hx hb dX8_resting_36 (by decide) ?_
          skip
          refine zw_Vv (As := [.int 12]) (rest := []) (wr := [(mki, .inl (cI, 8, .inl gki)), (mpa, .inl (cI, 8, .inl gpa))]) ⟨hx, hb, hml, hown, hts⟩ (c_F_M_body l D cI cJ cZ cP cS po m0 mrf mki mpa mta mla msl mco mhe mso msi msh mce mca mwo mnu mte mwa mke mma mth mtr (npu) (nte) (nat_) (nde) (nto) (nse) (nhu) (nga) (nsd) (nfa) (nba) (npl) (nen) (nnu) (nwr) (q_114) (nik) q_115 (12) hy0 hy1 hy2 hy3 hy4 hy5 hy6 hy7 hy8 hy9 (by omega) (by omega) hy12 hy13 (by omega) (by omega) H.size) (cwV 1 hts gX8_resting_X8_body rfl rfl rfl ⟨rfl, dh_X8_body⟩ ⟨Nat.le_of_ble_eq_true rfl, Nat.le_of_ble_eq_true rfl⟩) hK hN (hZ.kept hS) hP hD hS hA [2, 3] [0, 1] rfl rfl (by decide) (by decide) (by decide) (va_recv (q := (RX8, TX8, 38)) hK hP (ci := 8) (q0 := 2) rfl rfl) rfl hl.1 rfl (Nat.le_of_ble_eq_true rfl) dX8_resting_38 ⟨Nat.le_of_ble_eq_true rfl, Nat.le_of_ble_eq_true rfl⟩ (fun u_117 H locs hr_116 hP hD hS => ?_)
          obtain ⟨q_118, q_119⟩ := u_117
          try dsimp only at hr_116
          obtain ⟨hbq_118, hsr_116_0, hr_116⟩ := hr_116
          have h9R := zRe (ws' := [(mki, .inl (cI, 8, .inl gki)), (mpa, .inl (cI, 8, .inl gpa)), (zMO m0 npu nte nat_ nde nto nse nhu nga nsd nfa mrf mki mpa mta mla msl mco mhe mso msi msh mce mca mwo mnu mte nba npl nen nnu nwr mwa mke mma mth mtr q_118 nik), (mtr, .inl (cI, 20, .inl q_119))]) hP hD rfl
          clear hP hD
          obtain ⟨hP, hD⟩ := h9R
          refine lv_aload_n hx hb dX8_resting_41 rfl (lv_at hl 1 rfl) ?_
          refine lv_iload_n hx hb dX8_resting_42 rfl (lv_at hl 2 rfl) ?_
          refine lv_iload_n hx hb dX8_resting_43 rfl (lv_at hl 3 rfl) ?_
          skip
          refine zw_V (As := [.int p_, .int x]) (rest := []) (wr := []) ⟨hx, hb, hml, hown, hts⟩ (c_F_M_freeing l D cI cJ cZ cP cS po m0 mrf mki mpa mta mla msl mco mhe mso msi msh mce mca mwo mnu mte mwa mke mma mth mtr (npu) (nte) (nat_) (nde) (nto) (nse) (nhu) (nga) (nsd) (nfa) (nba) (npl) (nen) (nnu) (nwr) (q_118) (nik) gki gpa q_119 (p_) (x) hy0 hy1 hy2 hy3 hy4 hy5 hy6 hy7 hy8 hy9 (by omega) (by omega) hy12 hy13 hy14 hy15 (by omega) (by omega) hp_gki hp_gpa H.size) (cwV 2 hts gX8_resting_X8_freeing rfl rfl rfl ⟨rfl, dh_X8_freeing⟩ ⟨Nat.le_of_ble_eq_true rfl, Nat.le_of_ble_eq_true rfl⟩) hK hN (hZ.kept hS) hP hD hS hA [2, 0, 1, 3] [] rfl rfl (by decide) (by decide) (by decide) (va_recv (q := (RX8, TX8, 38)) hK hP (ci := 8) (q0 := 2) rfl rfl) rfl hl.1 rfl (Nat.le_of_ble_eq_true rfl) dX8_resting_44 ⟨Nat.le_of_ble_eq_true rfl, Nat.le_of_ble_eq_true rfl⟩ (fun r_120 u_121 H locs hr_120 hP hD hS => ?_)
          obtain ⟨q_122, q_123⟩ := u_121
          try dsimp only at hr_120
          obtain ⟨hbq_122, hsr_120_0, hsr_120_1, hsr_120_2, hr_120⟩ := hr_120
          have h9R := zRe (ws' := [(zMO m0 npu nte nat_ nde nto nse nhu nga nsd nfa mrf mki mpa mta mla msl mco mhe mso msi msh mce mca mwo mnu mte nba npl nen nnu nwr mwa mke mma mth mtr q_122 nik), (mki, .inl (cI, 8, .inl gki)), (mpa, .inl (cI, 8, .inl gpa)), (mtr, .inl (cI, 20, .inl q_123))]) hP hD rfl
          clear hP hD
          obtain ⟨hP, hD⟩ := h9R
          have zl9 := zBf_le (gki p_.toNatClampNeg).toInt
          refine lv_istore (lv' := [(4, .int r_120), (3, .int 5), (0, .ref m0), (1, .int p_), (2, .int x)]) hx hb dX8_resting_47 hl (by decide) rfl (fun ls hl => ?_)
          refine lv_iload hx hb dX8_resting_49 (lv_at hl 0 rfl) ?_
          refine lv_aload_n hx hb dX8_resting_51 rfl (lv_at hl 2 rfl) ?_
          refine lv_iload_n hx hb dX8_resting_52 rfl (lv_at hl 3 rfl) ?_
          refine lv_iload_n hx hb dX8_resting_53 rfl (lv_at hl 4 rfl) ?_
          refine lv_aload_n hx hb dX8_resting_54 rfl (lv_at hl 2 rfl) ?_
          refine va_get (D := D) (ci := 8) (v := .ref mpa) (C := RX8) (T := TX8) (N := 38) hx hb hts hi_X8_resting_8 hown hK hP 0 rfl rfl 12 (by decide) (hts (.fieldLink RX8 32 "TheLiningsInItModel" "part" "[I") (List.mem_of_getElem? (i := 2) rfl)) (fun _ h9 => h9) rfl dX8_resting_55 ?_
          refine lv_iload_n hx hb dX8_resting_58 rfl (lv_at hl 3 rfl) ?_
          refine va_iald hx hb hK hP 2 0 rfl rfl (zf_in (by omega) (by omega)) dX8_resting_59 ?_
          refine lv_topi (fun x_124 ex_124 => ?_)
          have bx_124 : 0 ≤ x_124.toInt ∧ x_124.toInt ≤ 9 := by rw [ex_124]; exact hp_gpa _
          refine lv_isub hx hb dX8_resting_60 ?_
          refine lv_topi (fun x_125 ex_125 => ?_)
          skip
          refine zw_V (As := [.int p_, .int x_125]) (rest := [.int r_120]) (wr := []) ⟨hx, hb, hml, hown, hts⟩ (c_F_M_pulling l D cI cJ cZ cP cS po m0 mrf mki mpa mta mla msl mco mhe mso msi msh mce mca mwo mnu mte mwa mke mma mth mtr (npu) (nte) (nat_) (nde) (nto) (nse) (nhu) (nga) (nsd) (nfa) (nba) (npl) (nen) (nnu) (nwr) (q_122) (nik) gki gpa q_123 (p_) (x_125) hy0 hy1 hy2 hy3 hy4 hy5 hy6 hy7 hy8 hy9 hbq_122.1 hbq_122.2 hy12 hy13 hy14 hy15 hbq_122.1 (by omega) hp_gki hp_gpa H.size) (cwV 2 hts gX8_resting_X8_pulling rfl rfl rfl ⟨rfl, dh_X8_pulling⟩ ⟨Nat.le_of_ble_eq_true rfl, Nat.le_of_ble_eq_true rfl⟩) hK hN (hZ.kept hS) hP hD hS hA [0, 1, 2, 3] [] rfl rfl (by decide) (by decide) (by decide) (va_recv (q := (RX8, TX8, 38)) hK hP (ci := 8) (q0 := 0) rfl rfl) rfl hl.1 rfl (Nat.le_of_ble_eq_true rfl) dX8_resting_61 ⟨Nat.le_of_ble_eq_true rfl, Nat.le_of_ble_eq_true rfl⟩ (fun r_126 u_127 H locs hr_126 hP hD hS => ?_)
          obtain ⟨q_128, q_129⟩ := u_127
          try dsimp only at hr_126
          obtain ⟨hbq_128, hsr_126_0, hsr_126_1, hsr_126_2, hr_126⟩ := hr_126
          have h9R := zRe (ws' := [(zMO m0 npu nte nat_ nde nto nse nhu nga nsd nfa mrf mki mpa mta mla msl mco mhe mso msi msh mce mca mwo mnu mte nba npl nen nnu nwr mwa mke mma mth mtr q_128 nik), (mki, .inl (cI, 8, .inl gki)), (mpa, .inl (cI, 8, .inl gpa)), (mtr, .inl (cI, 20, .inl q_129))]) hP hD rfl
          clear hP hD
          obtain ⟨hP, hD⟩ := h9R
          refine lv_ixor hx hb dX8_resting_64 ?_
          refine lv_topi (fun x_130 ex_130 => ?_)
          refine lv_istore (lv' := [(4, .int x_130), (3, .int 5), (0, .ref m0), (1, .int p_), (2, .int x)]) hx hb dX8_resting_65 hl (by decide) rfl (fun ls hl => ?_)
          refine lv_iload_n hx hb dX8_resting_67 rfl (lv_at hl 1 rfl) ?_
          refine lv_iconst (v := 4) hx hb dX8_resting_68 (by decide) ?_
          refine lv_icmp_eq (tgt := 78) hx hb dX8_resting_69 (by decide) (fun c_131 => ?_) (fun c_131 => ?_)
          · exact absurd c_131 (by decide)
          · refine lv_iload_n hx hb dX8_resting_72 rfl (lv_at hl 1 rfl) ?_
            refine lv_bipush (v := 6) hx hb dX8_resting_73 (by decide) ?_
            refine lv_icmp_ne (tgt := 84) hx hb dX8_resting_75 (by decide) (fun c_132 => ?_) (fun c_132 => ?_)
            · refine lv_iload_n hx hb dX8_resting_84 rfl (lv_at hl 1 rfl) ?_
              refine lv_iconst (v := 5) hx hb dX8_resting_85 (by decide) ?_
              refine lv_icmp_ne (tgt := 96) hx hb dX8_resting_86 (by decide) (fun c_133 => ?_) (fun c_133 => ?_)
              · exact absurd c_133 (by decide)
              · refine lv_iload hx hb dX8_resting_89 (lv_at hl 0 rfl) ?_
                refine lv_iconst (v := 5) hx hb dX8_resting_91 (by decide) ?_
                refine lv_ixor hx hb dX8_resting_92 ?_
                refine lv_topi (fun x_134 ex_134 => ?_)
                refine lv_goto (tgt := 98) hx hb dX8_resting_93 (by decide) ?_
                exact W.iret (v := x_134) hx hb hr (fun t ht hW => ⟨⟨x_134, (q_128, q_129), rfl, ⟨(show 0 ≤ q_128.toInt ∧ q_128.toInt ≤ 2000 from hbq_128), (show (x_134 : Int32) = zQr (gki p_.toNatClampNeg).toInt x p_ (gpa p_.toNatClampNeg) from by (have hk : (gki p_.toNatClampNeg).toInt = 5 := (by rw [← ex_1]; first | done | decide); rw [hk]; unfold zQr; (repeat (first | rw [if_pos (by decide)] | rw [if_neg (by decide)])); (try rw [ex_134]); (try rw [ex_130]); (try rw [ex_125]); (try rw [ex_124]); (try rw [hsr_120_0, hk]); (try rw [hsr_126_0, hk]); (try rw [ex_134]); (try rw [ex_130]); (try rw [ex_125]); (try rw [ex_124]); (try rw [ex_124]); first | done | rfl)), (show q_129 = zTr gtr nra.toInt (zBr (gki p_.toNatClampNeg).toInt) from by (have hk : (gki p_.toNatClampNeg).toInt = 5 := (by rw [← ex_1]; first | done | decide); have zbp0 : ((zBp 5).length : Int) = 1 := rfl; have zbf1 : ((zBf 5).length : Int) = 3 := rfl; have zbr2 : ((zBr 5).length : Int) = 6 := rfl; have q0 := hsr_120_2; rw [hk] at q0; have q1 := hsr_126_2; rw [hk] at q1; rw [hsr_126_1, hk]; rw [hsr_120_1, hk]; rw [hsr_116_0]; rw [hsr_112_0]; rw [zTr_app (by first | omega | (simp; omega) | (show _ = _ + 1; omega))]; rw [zTr_app (by first | omega | (simp; omega) | (show _ = _ + 1; omega))]; rw [zTr_app (by first | omega | (simp; omega) | (show _ = _ + 1; omega))]; (try rw [hk]); first | done | rfl)), (show q_128.toInt = nra.toInt + ((zBr (gki p_.toNatClampNeg).toInt).length : Nat) from by (have hk : (gki p_.toNatClampNeg).toInt = 5 := (by rw [← ex_1]; first | done | decide); have zp : ((zBp 5).length : Int) = 1 := rfl; have zf : ((zBf 5).length : Int) = 3 := rfl; have zr : ((zBr 5).length : Int) = 6 := rfl; have q0 := hsr_120_2; rw [hk] at q0; have q1 := hsr_126_2; rw [hk] at q1; rw [hk]; omega)), trivial⟩, zRet ht hP hD [0, 1, 2, 3] (by decide) rfl⟩, hS.F ht⟩) hS.2.2 dX8_resting_98
            · exact absurd c_132 (by decide)
      · exact absurd c_110 (by decide)
  · have kc6 : (6 : Int32).toInt = 6 := by decide
    refine lv_iload_n hx hb dX8_resting_7 rfl (lv_at hl 0 rfl) ?_
    refine lv_iconst (v := 4) hx hb dX8_resting_8 (by decide) ?_
    refine lv_icmp_eq (tgt := 18) hx hb dX8_resting_9 (by decide) (fun c_135 => ?_) (fun c_135 => ?_)
    · exact absurd c_135 (by decide)
    · refine lv_iload_n hx hb dX8_resting_12 rfl (lv_at hl 0 rfl) ?_
      refine lv_bipush (v := 6) hx hb dX8_resting_13 (by decide) ?_
      refine lv_icmp_ne (tgt := 24) hx hb dX8_resting_15 (by decide) (fun c_136 => ?_) (fun c_136 => ?_)
      · exact absurd c_136 (by decide)
      · refine lv_aload_n hx hb dX8_resting_18 rfl (lv_at hl 1 rfl) ?_
        refine lv_bipush (v := 50) hx hb dX8_resting_19 (by decide) ?_
        skip
        refine zw_Vv (As := [.int 50]) (rest := []) (wr := [(mki, .inl (cI, 8, .inl gki)), (mpa, .inl (cI, 8, .inl gpa))]) ⟨hx, hb, hml, hown, hts⟩ (c_F_M_body l D cI cJ cZ cP cS po m0 mrf mki mpa mta mla msl mco mhe mso msi msh mce mca mwo mnu mte mwa mke mma mth mtr (npu) (nte) (nat_) (nde) (nto) (nse) (nhu) (nga) (nsd) (nfa) (nba) (npl) (nen) (nnu) (nwr) (nra) (nik) gtr (50) hy0 hy1 hy2 hy3 hy4 hy5 hy6 hy7 hy8 hy9 hy10 hy11 hy12 hy13 hy10 hy11 H.size) (cwV 1 hts gX8_resting_X8_body rfl rfl rfl ⟨rfl, dh_X8_body⟩ ⟨Nat.le_of_ble_eq_true rfl, Nat.le_of_ble_eq_true rfl⟩) hK hN (hZ.kept hS) hP hD hS hA [0, 3] [1, 2] rfl rfl (by decide) (by decide) (by decide) (va_recv (q := (RX8, TX8, 38)) hK hP (ci := 8) (q0 := 0) rfl rfl) rfl hl.1 rfl (Nat.le_of_ble_eq_true rfl) dX8_resting_21 ⟨Nat.le_of_ble_eq_true rfl, Nat.le_of_ble_eq_true rfl⟩ (fun u_138 H locs hr_137 hP hD hS => ?_)
        obtain ⟨q_139, q_140⟩ := u_138
        try dsimp only at hr_137
        obtain ⟨hbq_139, hsr_137_0, hr_137⟩ := hr_137
        have h9R := zRe (ws' := [(mki, .inl (cI, 8, .inl gki)), (mpa, .inl (cI, 8, .inl gpa)), (zMO m0 npu nte nat_ nde nto nse nhu nga nsd nfa mrf mki mpa mta mla msl mco mhe mso msi msh mce mca mwo mnu mte nba npl nen nnu nwr mwa mke mma mth mtr q_139 nik), (mtr, .inl (cI, 20, .inl q_140))]) hP hD rfl
        clear hP hD
        obtain ⟨hP, hD⟩ := h9R
        refine lv_iload_n hx hb dX8_resting_24 rfl (lv_at hl 0 rfl) ?_
        refine lv_iconst (v := 5) hx hb dX8_resting_25 (by decide) ?_
        refine lv_icmp_ne (tgt := 35) hx hb dX8_resting_26 (by decide) (fun c_141 => ?_) (fun c_141 => ?_)
        · refine lv_aload_n hx hb dX8_resting_35 rfl (lv_at hl 1 rfl) ?_
          refine lv_bipush (v := 12) hx hb dX8_resting_36 (by decide) ?_
          skip
          refine zw_Vv (As := [.int 12]) (rest := []) (wr := [(mki, .inl (cI, 8, .inl gki)), (mpa, .inl (cI, 8, .inl gpa))]) ⟨hx, hb, hml, hown, hts⟩ (c_F_M_body l D cI cJ cZ cP cS po m0 mrf mki mpa mta mla msl mco mhe mso msi msh mce mca mwo mnu mte mwa mke mma mth mtr (npu) (nte) (nat_) (nde) (nto) (nse) (nhu) (nga) (nsd) (nfa) (nba) (npl) (nen) (nnu) (nwr) (q_139) (nik) q_140 (12) hy0 hy1 hy2 hy3 hy4 hy5 hy6 hy7 hy8 hy9 (by omega) (by omega) hy12 hy13 (by omega) (by omega) H.size) (cwV 1 hts gX8_resting_X8_body rfl rfl rfl ⟨rfl, dh_X8_body⟩ ⟨Nat.le_of_ble_eq_true rfl, Nat.le_of_ble_eq_true rfl⟩) hK hN (hZ.kept hS) hP hD hS hA [2, 3] [0, 1] rfl rfl (by decide) (by decide) (by decide) (va_recv (q := (RX8, TX8, 38)) hK hP (ci := 8) (q0 := 2) rfl rfl) rfl hl.1 rfl (Nat.le_of_ble_eq_true rfl) dX8_resting_38 ⟨Nat.le_of_ble_eq_true rfl, Nat.le_of_ble_eq_true rfl⟩ (fun u_143 H locs hr_142 hP hD hS => ?_)
          obtain ⟨q_144, q_145⟩ := u_143
          try dsimp only at hr_142
          obtain ⟨hbq_144, hsr_142_0, hr_142⟩ := hr_142
          have h9R := zRe (ws' := [(mki, .inl (cI, 8, .inl gki)), (mpa, .inl (cI, 8, .inl gpa)), (zMO m0 npu nte nat_ nde nto nse nhu nga nsd nfa mrf mki mpa mta mla msl mco mhe mso msi msh mce mca mwo mnu mte nba npl nen nnu nwr mwa mke mma mth mtr q_144 nik), (mtr, .inl (cI, 20, .inl q_145))]) hP hD rfl
          clear hP hD
          obtain ⟨hP, hD⟩ := h9R
          refine lv_aload_n hx hb dX8_resting_41 rfl (lv_at hl 1 rfl) ?_
          refine lv_iload_n hx hb dX8_resting_42 rfl (lv_at hl 2 rfl) ?_
          refine lv_iload_n hx hb dX8_resting_43 rfl (lv_at hl 3 rfl) ?_
          skip
          refine zw_V (As := [.int p_, .int x]) (rest := []) (wr := []) ⟨hx, hb, hml, hown, hts⟩ (c_F_M_freeing l D cI cJ cZ cP cS po m0 mrf mki mpa mta mla msl mco mhe mso msi msh mce mca mwo mnu mte mwa mke mma mth mtr (npu) (nte) (nat_) (nde) (nto) (nse) (nhu) (nga) (nsd) (nfa) (nba) (npl) (nen) (nnu) (nwr) (q_144) (nik) gki gpa q_145 (p_) (x) hy0 hy1 hy2 hy3 hy4 hy5 hy6 hy7 hy8 hy9 (by omega) (by omega) hy12 hy13 hy14 hy15 (by omega) (by omega) hp_gki hp_gpa H.size) (cwV 2 hts gX8_resting_X8_freeing rfl rfl rfl ⟨rfl, dh_X8_freeing⟩ ⟨Nat.le_of_ble_eq_true rfl, Nat.le_of_ble_eq_true rfl⟩) hK hN (hZ.kept hS) hP hD hS hA [2, 0, 1, 3] [] rfl rfl (by decide) (by decide) (by decide) (va_recv (q := (RX8, TX8, 38)) hK hP (ci := 8) (q0 := 2) rfl rfl) rfl hl.1 rfl (Nat.le_of_ble_eq_true rfl) dX8_resting_44 ⟨Nat.le_of_ble_eq_true rfl, Nat.le_of_ble_eq_true rfl⟩ (fun r_146 u_147 H locs hr_146 hP hD hS => ?_)
          obtain ⟨q_148, q_149⟩ := u_147
          try dsimp only at hr_146
          obtain ⟨hbq_148, hsr_146_0, hsr_146_1, hsr_146_2, hr_146⟩ := hr_146
          have h9R := zRe (ws' := [(zMO m0 npu nte nat_ nde nto nse nhu nga nsd nfa mrf mki mpa mta mla msl mco mhe mso msi msh mce mca mwo mnu mte nba npl nen nnu nwr mwa mke mma mth mtr q_148 nik), (mki, .inl (cI, 8, .inl gki)), (mpa, .inl (cI, 8, .inl gpa)), (mtr, .inl (cI, 20, .inl q_149))]) hP hD rfl
          clear hP hD
          obtain ⟨hP, hD⟩ := h9R
          have zl9 := zBf_le (gki p_.toNatClampNeg).toInt
          refine lv_istore (lv' := [(4, .int r_146), (3, .int 6), (0, .ref m0), (1, .int p_), (2, .int x)]) hx hb dX8_resting_47 hl (by decide) rfl (fun ls hl => ?_)
          refine lv_iload hx hb dX8_resting_49 (lv_at hl 0 rfl) ?_
          refine lv_aload_n hx hb dX8_resting_51 rfl (lv_at hl 2 rfl) ?_
          refine lv_iload_n hx hb dX8_resting_52 rfl (lv_at hl 3 rfl) ?_
          refine lv_iload_n hx hb dX8_resting_53 rfl (lv_at hl 4 rfl) ?_
          refine lv_aload_n hx hb dX8_resting_54 rfl (lv_at hl 2 rfl) ?_
          refine va_get (D := D) (ci := 8) (v := .ref mpa) (C := RX8) (T := TX8) (N := 38) hx hb hts hi_X8_resting_8 hown hK hP 0 rfl rfl 12 (by decide) (hts (.fieldLink RX8 32 "TheLiningsInItModel" "part" "[I") (List.mem_of_getElem? (i := 2) rfl)) (fun _ h9 => h9) rfl dX8_resting_55 ?_
          refine lv_iload_n hx hb dX8_resting_58 rfl (lv_at hl 3 rfl) ?_
          refine va_iald hx hb hK hP 2 0 rfl rfl (zf_in (by omega) (by omega)) dX8_resting_59 ?_
          refine lv_topi (fun x_150 ex_150 => ?_)
          have bx_150 : 0 ≤ x_150.toInt ∧ x_150.toInt ≤ 9 := by rw [ex_150]; exact hp_gpa _
          refine lv_isub hx hb dX8_resting_60 ?_
          refine lv_topi (fun x_151 ex_151 => ?_)
          skip
          refine zw_V (As := [.int p_, .int x_151]) (rest := [.int r_146]) (wr := []) ⟨hx, hb, hml, hown, hts⟩ (c_F_M_pulling l D cI cJ cZ cP cS po m0 mrf mki mpa mta mla msl mco mhe mso msi msh mce mca mwo mnu mte mwa mke mma mth mtr (npu) (nte) (nat_) (nde) (nto) (nse) (nhu) (nga) (nsd) (nfa) (nba) (npl) (nen) (nnu) (nwr) (q_148) (nik) gki gpa q_149 (p_) (x_151) hy0 hy1 hy2 hy3 hy4 hy5 hy6 hy7 hy8 hy9 hbq_148.1 hbq_148.2 hy12 hy13 hy14 hy15 hbq_148.1 (by omega) hp_gki hp_gpa H.size) (cwV 2 hts gX8_resting_X8_pulling rfl rfl rfl ⟨rfl, dh_X8_pulling⟩ ⟨Nat.le_of_ble_eq_true rfl, Nat.le_of_ble_eq_true rfl⟩) hK hN (hZ.kept hS) hP hD hS hA [0, 1, 2, 3] [] rfl rfl (by decide) (by decide) (by decide) (va_recv (q := (RX8, TX8, 38)) hK hP (ci := 8) (q0 := 0) rfl rfl) rfl hl.1 rfl (Nat.le_of_ble_eq_true rfl) dX8_resting_61 ⟨Nat.le_of_ble_eq_true rfl, Nat.le_of_ble_eq_true rfl⟩ (fun r_152 u_153 H locs hr_152 hP hD hS => ?_)
          obtain ⟨q_154, q_155⟩ := u_153
          try dsimp only at hr_152
          obtain ⟨hbq_154, hsr_152_0, hsr_152_1, hsr_152_2, hr_152⟩ := hr_152
          have h9R := zRe (ws' := [(zMO m0 npu nte nat_ nde nto nse nhu nga nsd nfa mrf mki mpa mta mla msl mco mhe mso msi msh mce mca mwo mnu mte nba npl nen nnu nwr mwa mke mma mth mtr q_154 nik), (mki, .inl (cI, 8, .inl gki)), (mpa, .inl (cI, 8, .inl gpa)), (mtr, .inl (cI, 20, .inl q_155))]) hP hD rfl
          clear hP hD
          obtain ⟨hP, hD⟩ := h9R
          refine lv_ixor hx hb dX8_resting_64 ?_
          refine lv_topi (fun x_156 ex_156 => ?_)
          refine lv_istore (lv' := [(4, .int x_156), (3, .int 6), (0, .ref m0), (1, .int p_), (2, .int x)]) hx hb dX8_resting_65 hl (by decide) rfl (fun ls hl => ?_)
          refine lv_iload_n hx hb dX8_resting_67 rfl (lv_at hl 1 rfl) ?_
          refine lv_iconst (v := 4) hx hb dX8_resting_68 (by decide) ?_
          refine lv_icmp_eq (tgt := 78) hx hb dX8_resting_69 (by decide) (fun c_157 => ?_) (fun c_157 => ?_)
          · exact absurd c_157 (by decide)
          · refine lv_iload_n hx hb dX8_resting_72 rfl (lv_at hl 1 rfl) ?_
            refine lv_bipush (v := 6) hx hb dX8_resting_73 (by decide) ?_
            refine lv_icmp_ne (tgt := 84) hx hb dX8_resting_75 (by decide) (fun c_158 => ?_) (fun c_158 => ?_)
            · exact absurd c_158 (by decide)
            · refine lv_iload hx hb dX8_resting_78 (lv_at hl 0 rfl) ?_
              refine lv_ineg hx hb dX8_resting_80 ?_
              refine lv_topi (fun x_159 ex_159 => ?_)
              refine lv_goto (tgt := 98) hx hb dX8_resting_81 (by decide) ?_
              exact W.iret (v := x_159) hx hb hr (fun t ht hW => ⟨⟨x_159, (q_154, q_155), rfl, ⟨(show 0 ≤ q_154.toInt ∧ q_154.toInt ≤ 2000 from hbq_154), (show (x_159 : Int32) = zQr (gki p_.toNatClampNeg).toInt x p_ (gpa p_.toNatClampNeg) from by (have hk : (gki p_.toNatClampNeg).toInt = 6 := (by rw [← ex_1]; first | done | decide); rw [hk]; unfold zQr; (repeat (first | rw [if_pos (by decide)] | rw [if_neg (by decide)])); (try rw [ex_159]); (try rw [ex_156]); (try rw [ex_151]); (try rw [ex_150]); (try rw [hsr_146_0, hk]); (try rw [hsr_152_0, hk]); (try rw [ex_159]); (try rw [ex_156]); (try rw [ex_151]); (try rw [ex_150]); (try rw [ex_150]); first | done | rfl)), (show q_155 = zTr gtr nra.toInt (zBr (gki p_.toNatClampNeg).toInt) from by (have hk : (gki p_.toNatClampNeg).toInt = 6 := (by rw [← ex_1]; first | done | decide); have zbp0 : ((zBp 6).length : Int) = 3 := rfl; have zbf1 : ((zBf 6).length : Int) = 5 := rfl; have zbr2 : ((zBr 6).length : Int) = 10 := rfl; have q0 := hsr_146_2; rw [hk] at q0; have q1 := hsr_152_2; rw [hk] at q1; rw [hsr_152_1, hk]; rw [hsr_146_1, hk]; rw [hsr_142_0]; rw [hsr_137_0]; rw [zTr_app (by first | omega | (simp; omega) | (show _ = _ + 1; omega))]; rw [zTr_app (by first | omega | (simp; omega) | (show _ = _ + 1; omega))]; rw [zTr_app (by first | omega | (simp; omega) | (show _ = _ + 1; omega))]; (try rw [hk]); first | done | rfl)), (show q_154.toInt = nra.toInt + ((zBr (gki p_.toNatClampNeg).toInt).length : Nat) from by (have hk : (gki p_.toNatClampNeg).toInt = 6 := (by rw [← ex_1]; first | done | decide); have zp : ((zBp 6).length : Int) = 3 := rfl; have zf : ((zBf 6).length : Int) = 5 := rfl; have zr : ((zBr 6).length : Int) = 10 := rfl; have q0 := hsr_146_2; rw [hk] at q0; have q1 := hsr_152_2; rw [hk] at q1; rw [hk]; omega)), trivial⟩, zRet ht hP hD [0, 1, 2, 3] (by decide) rfl⟩, hS.F ht⟩) hS.2.2 dX8_resting_98
        · exact absurd c_141 (by decide)
set_option maxHeartbeats 4000000 in
set_option maxRecDepth 100000 in
theorem c_F_M_act (l : Launch) (D : va_G) (cI cJ cZ cP cS : ClassId) (po : zPool) (m0 mrf mki mpa mta mla msl mco mhe mso msi msh mce mca mwo mnu mte mwa mke mma mth mtr : Nat) (npu nte nat_ nde nto nse nhu nga nsd nfa nba npl nen nnu nwr nra nik : Int32) (gki gpa gtr : Nat → Int32) (p_ mo x : Int32) (hy0 : 0 ≤ npu.toInt) (hy1 : npu.toInt ≤ 8) (hy2 : 4 ≤ nte.toInt) (hy3 : nte.toInt ≤ 40) (hy4 : 0 ≤ nat_.toInt) (hy5 : nat_.toInt ≤ 40) (hy6 : 0 ≤ nde.toInt) (hy7 : nde.toInt ≤ 24) (hy8 : 0 ≤ nhu.toInt) (hy9 : nhu.toInt ≤ 9) (hy10 : 0 ≤ nra.toInt) (hy11 : nra.toInt ≤ 2000) (hy12 : 0 ≤ nik.toInt) (hy13 : nik.toInt ≤ 1) (hp_gki : zRg gki (0) 6) (hp_gpa : zRg gpa (0) 9) (hpz : Nat) : Met l yX8_act wsX8_act ({ frames := 4, cells := 0, slots := 0, locals := 95 }) (va_Pc [.ref m0, .int p_, .int mo, .int x] (zW D (zKT cI cJ cZ cP cS) po [(zMO m0 npu nte nat_ nde nto nse nhu nga nsd nfa mrf mki mpa mta mla msl mco mhe mso msi msh mce mca mwo mnu mte nba npl nen nnu nwr mwa mke mma mth mtr nra nik), (mki, .inl (cI, 8, .inl gki)), (mpa, .inl (cI, 8, .inl gpa)), (mtr, .inl (cI, 20, .inl gtr))] hpz)) (va_Qi (fun (r : Int32) (u : (Int32) × (Nat → Int32)) => (0 ≤ u.1.toInt ∧ u.1.toInt ≤ 2000) ∧ (((p_.toInt < 0 ∨ npu.toInt ≤ p_.toInt ∨ mo.toInt < 0 ∨ 2 < mo.toInt) ∧ r = 0 ∧ u.1.toInt = 0) ∨ ((0 ≤ p_.toInt ∧ p_.toInt < npu.toInt) ∧ (0 ≤ mo.toInt ∧ mo.toInt ≤ 2) ∧ r = zQa (gki p_.toNatClampNeg).toInt mo.toInt x p_ (gpa p_.toNatClampNeg) ∧ u.1.toInt = ((zBa (gki p_.toNatClampNeg).toInt mo.toInt).length : Nat) ∧ u.2 = zTr gtr 0 (zBa (gki p_.toNatClampNeg).toInt mo.toInt))) ∧ (True)) (zB D [(zMO m0 npu nte nat_ nde nto nse nhu nga nsd nfa mrf mki mpa mta mla msl mco mhe mso msi msh mce mca mwo mnu mte nba npl nen nnu nwr mwa mke mma mth mtr nra nik), (mki, .inl (cI, 8, .inl gki)), (mpa, .inl (cI, 8, .inl gpa)), (mtr, .inl (cI, 20, .inl gtr))] hpz (fun (u : (Int32) × (Nat → Int32)) => [(zMO m0 npu nte nat_ nde nto nse nhu nga nsd nfa mrf mki mpa mta mla msl mco mhe mso msi msh mce mca mwo mnu mte nba npl nen nnu nwr mwa mke mma mth mtr u.1 nik), (mki, .inl (cI, 8, .inl gki)), (mpa, .inl (cI, 8, .inl gpa)), (mtr, .inl (cI, 20, .inl u.2))])) (va_A [(zMO m0 npu nte nat_ nde nto nse nhu nga nsd nfa mrf mki mpa mta mla msl mco mhe mso msi msh mce mca mwo mnu mte nba npl nen nnu nwr mwa mke mma mth mtr nra nik), (mki, .inl (cI, 8, .inl gki)), (mpa, .inl (cI, 8, .inl gpa)), (mtr, .inl (cI, 20, .inl gtr))] hpz)) 0 0 (va_A [(zMO m0 npu nte nat_ nde nto nse nhu nga nsd nfa mrf mki mpa mta mla msl mco mhe mso msi msh mce mca mwo mnu mte nba npl nen nnu nwr mwa mke mma mth mtr nra nik), (mki, .inl (cI, 8, .inl gki)), (mpa, .inl (cI, 8, .inl gpa)), (mtr, .inl (cI, 20, .inl gtr))] hpz) := by
  refine Met.ofW (cc := cX8_act) (maxL := 4) (ret := (some .int)) (by decide) rfl ?_
  intro p e s m args below meth c s₁ B hml hv
  obtain ⟨rfl, hsz, hP, hK, hD0, hN, hZ⟩ := hv
  have hx := B.exec
  have hb := B.bytes
  have hr := B.returns
  have hts := atoms_spec (ws := wsX8_act) B.pre
  have hown : s.vm.findClass RX8 = some m.cls := findClass_of_methodNamed B.named
  have hlocks := B.notSynchronized
  subst hsz
  have hD := hD0.self (sz := s.heap.size)
  have hA := zA_of hD
  have hl := lv_entry ([.ref m0, .int p_, .int mo, .int x]) (n := 4) (Nat.le_of_ble_eq_true rfl)
  rw [lg_entry_eq]
  generalize (lg_sl ([.ref m0, .int p_, .int mo, .int x]) ++ List.replicate (4 - (lg_sl ([.ref m0, .int p_, .int mo, .int x])).length) Slot.unset).toArray = ls at hl ⊢
  replace hl : lv_has ls 4 [(0, .ref m0), (1, .int p_), (2, .int mo), (3, .int x)] := hl
  refine zw_begin hP hD (fun H locs hP1 hS => ?_)
  clear hP
  have hP := hP1
  clear hP1
  refine lv_aload_n hx hb dX8_act_0 rfl (lv_at hl 0 rfl) ?_
  refine lv_iconst (v := 0) hx hb dX8_act_1 (by decide) ?_
  refine va_put (D := D) (ci := 8) (v := .int 0) (ty := .int) (C := RX8) (T := TX8) (N := 38) hx hb hts hi_X8_act_8 tyX8 tyX8_ok nmX8 hown hK hP hD hS 0 rfl rfl 36 (by decide) (hts (.fieldLink RX8 285 "TheLiningsInItModel" "ran" "I") (List.mem_of_getElem? (i := 1) rfl)) (fun _ h9 => h9) rfl (tyX8_ok 36 (Nat.le_of_ble_eq_true rfl)) rfl rfl (Nat.le_of_ble_eq_true rfl) dX8_act_2 (fun H locs hP hD hS => ?_)
  have h9R := zRe (ws' := [(zMO m0 npu nte nat_ nde nto nse nhu nga nsd nfa mrf mki mpa mta mla msl mco mhe mso msi msh mce mca mwo mnu mte nba npl nen nnu nwr mwa mke mma mth mtr 0 nik), (mki, .inl (cI, 8, .inl gki)), (mpa, .inl (cI, 8, .inl gpa)), (mtr, .inl (cI, 20, .inl gtr))]) hP hD rfl
  clear hP hD
  obtain ⟨hP, hD⟩ := h9R
  refine lv_aload_n hx hb dX8_act_5 rfl (lv_at hl 0 rfl) ?_
  refine lv_iload_n hx hb dX8_act_6 rfl (lv_at hl 1 rfl) ?_
  have kc0 : (0 : Int32).toInt = 0 := by decide
  refine zc_V (As := [.int p_]) (rest := []) ⟨hx, hb, hml, hown, hts⟩ (c_M_isPull l D cI cJ cZ cP cS po m0 mrf mki mpa mta mla msl mco mhe mso msi msh mce mca mwo mnu mte mwa mke mma mth mtr (npu) (nte) (nat_) (nde) (nto) (nse) (nhu) (nga) (nsd) (nfa) (nba) (npl) (nen) (nnu) (nwr) (0) (nik) (p_) hy0 hy1 hy2 hy3 hy4 hy5 hy6 hy7 hy8 hy9 (by omega) (by omega) hy12 hy13) (cwV 1 hts gX8_act_X8_isPull rfl rfl rfl ⟨rfl, dh_X8_isPull⟩ ⟨Nat.le_of_ble_eq_true rfl, Nat.le_of_ble_eq_true rfl⟩) hK hN (hZ.kept hS) hP (hP.sub [0] rfl) (va_recv (q := (RX8, TX8, 38)) hK hP (ci := 8) (q0 := 0) rfl rfl) rfl hl.1 rfl (Nat.le_of_ble_eq_true rfl) dX8_act_7 ⟨Nat.le_of_ble_eq_true rfl, Nat.le_of_ble_eq_true rfl⟩ (fun r_1 hr_1 => ?_)
  rcases hr_1 with ⟨rfl, g_2⟩ | ⟨rfl, g_3, g_4⟩ | ⟨rfl, g_5, g_6⟩
  · refine lv_if_eq (tgt := 22) hx hb dX8_act_10 (by decide) (fun c_7 => ?_) (fun c_7 => ?_)
    · refine lv_iconst (v := 0) hx hb dX8_act_22 (by decide) ?_
      exact W.iret (v := 0) hx hb hr (fun t ht hW => ⟨⟨0, (0, gtr), rfl, ⟨(show 0 ≤ (0 : Int32).toInt ∧ (0 : Int32).toInt ≤ 2000 from by decide), (show ((p_.toInt < 0 ∨ npu.toInt ≤ p_.toInt ∨ mo.toInt < 0 ∨ 2 < mo.toInt) ∧ (0 : Int32) = 0 ∧ (0 : Int32).toInt = 0) ∨ ((0 ≤ p_.toInt ∧ p_.toInt < npu.toInt) ∧ (0 ≤ mo.toInt ∧ mo.toInt ≤ 2) ∧ (0 : Int32) = zQa (gki p_.toNatClampNeg).toInt mo.toInt x p_ (gpa p_.toNatClampNeg) ∧ (0 : Int32).toInt = ((zBa (gki p_.toNatClampNeg).toInt mo.toInt).length : Nat) ∧ gtr = zTr gtr 0 (zBa (gki p_.toNatClampNeg).toInt mo.toInt)) from by (exact Or.inl ⟨by omega, rfl, by decide⟩)), trivial⟩, zRet ht hP hD [0, 1, 2, 3] (by decide) rfl⟩, hS.F ht⟩) hS.2.2 dX8_act_23
    · exact absurd c_7 (by decide)
  · refine lv_if_eq (tgt := 22) hx hb dX8_act_10 (by decide) (fun c_8 => ?_) (fun c_8 => ?_)
    · refine lv_iconst (v := 0) hx hb dX8_act_22 (by decide) ?_
      exact W.iret (v := 0) hx hb hr (fun t ht hW => ⟨⟨0, (0, gtr), rfl, ⟨(show 0 ≤ (0 : Int32).toInt ∧ (0 : Int32).toInt ≤ 2000 from by decide), (show ((p_.toInt < 0 ∨ npu.toInt ≤ p_.toInt ∨ mo.toInt < 0 ∨ 2 < mo.toInt) ∧ (0 : Int32) = 0 ∧ (0 : Int32).toInt = 0) ∨ ((0 ≤ p_.toInt ∧ p_.toInt < npu.toInt) ∧ (0 ≤ mo.toInt ∧ mo.toInt ≤ 2) ∧ (0 : Int32) = zQa (gki p_.toNatClampNeg).toInt mo.toInt x p_ (gpa p_.toNatClampNeg) ∧ (0 : Int32).toInt = ((zBa (gki p_.toNatClampNeg).toInt mo.toInt).length : Nat) ∧ gtr = zTr gtr 0 (zBa (gki p_.toNatClampNeg).toInt mo.toInt)) from by (exact Or.inl ⟨by omega, rfl, by decide⟩)), trivial⟩, zRet ht hP hD [0, 1, 2, 3] (by decide) rfl⟩, hS.F ht⟩) hS.2.2 dX8_act_23
    · exact absurd c_8 (by decide)
  · refine lv_if_eq (tgt := 22) hx hb dX8_act_10 (by decide) (fun c_9 => ?_) (fun c_9 => ?_)
    · exact absurd c_9 (by decide)
    · refine lv_iload_n hx hb dX8_act_13 rfl (lv_at hl 2 rfl) ?_
      refine lv_if_lt (tgt := 22) hx hb dX8_act_14 (by decide) (fun c_10 => ?_) (fun c_10 => ?_)
      · have fc_10 : mo.toInt < 0 := zf_lt c_10 rfl (by decide)
        refine lv_iconst (v := 0) hx hb dX8_act_22 (by decide) ?_
        exact W.iret (v := 0) hx hb hr (fun t ht hW => ⟨⟨0, (0, gtr), rfl, ⟨(show 0 ≤ (0 : Int32).toInt ∧ (0 : Int32).toInt ≤ 2000 from by decide), (show ((p_.toInt < 0 ∨ npu.toInt ≤ p_.toInt ∨ mo.toInt < 0 ∨ 2 < mo.toInt) ∧ (0 : Int32) = 0 ∧ (0 : Int32).toInt = 0) ∨ ((0 ≤ p_.toInt ∧ p_.toInt < npu.toInt) ∧ (0 ≤ mo.toInt ∧ mo.toInt ≤ 2) ∧ (0 : Int32) = zQa (gki p_.toNatClampNeg).toInt mo.toInt x p_ (gpa p_.toNatClampNeg) ∧ (0 : Int32).toInt = ((zBa (gki p_.toNatClampNeg).toInt mo.toInt).length : Nat) ∧ gtr = zTr gtr 0 (zBa (gki p_.toNatClampNeg).toInt mo.toInt)) from by (exact Or.inl ⟨by omega, rfl, by decide⟩)), trivial⟩, zRet ht hP hD [0, 1, 2, 3] (by decide) rfl⟩, hS.F ht⟩) hS.2.2 dX8_act_23
      · have fc_10 : 0 ≤ mo.toInt := zf_nlt c_10 rfl (by decide)
        refine lv_iload_n hx hb dX8_act_17 rfl (lv_at hl 2 rfl) ?_
        refine lv_iconst (v := 2) hx hb dX8_act_18 (by decide) ?_
        refine lv_icmp_le (tgt := 24) hx hb dX8_act_19 (by decide) (fun c_11 => ?_) (fun c_11 => ?_)
        · have fc_11 : mo.toInt ≤ 2 := zf_le c_11 rfl (by decide)
          refine lv_iload_n hx hb dX8_act_24 rfl (lv_at hl 2 rfl) ?_
          refine lv_if_ne (tgt := 37) hx hb dX8_act_25 (by decide) (fun c_12 => ?_) (fun c_12 => ?_)
          · have fc_12 : mo.toInt ≠ 0 := zf_ne c_12 rfl (by decide)
            refine lv_iload_n hx hb dX8_act_37 rfl (lv_at hl 2 rfl) ?_
            refine lv_iconst (v := 1) hx hb dX8_act_38 (by decide) ?_
            refine lv_icmp_ne (tgt := 51) hx hb dX8_act_39 (by decide) (fun c_13 => ?_) (fun c_13 => ?_)
            · have fc_13 : mo.toInt ≠ 1 := zf_ne c_13 rfl (by decide)
              refine lv_aload_n hx hb dX8_act_51 rfl (lv_at hl 0 rfl) ?_
              refine lv_iload_n hx hb dX8_act_52 rfl (lv_at hl 1 rfl) ?_
              refine lv_iload_n hx hb dX8_act_53 rfl (lv_at hl 3 rfl) ?_
              skip
              refine zw_V (As := [.int p_, .int x]) (rest := []) (wr := []) ⟨hx, hb, hml, hown, hts⟩ (c_F_M_resting l D cI cJ cZ cP cS po m0 mrf mki mpa mta mla msl mco mhe mso msi msh mce mca mwo mnu mte mwa mke mma mth mtr (npu) (nte) (nat_) (nde) (nto) (nse) (nhu) (nga) (nsd) (nfa) (nba) (npl) (nen) (nnu) (nwr) (0) (nik) gki gpa gtr (p_) (x) hy0 hy1 hy2 hy3 hy4 hy5 hy6 hy7 hy8 hy9 (by omega) (by omega) hy12 hy13 (by omega) (by omega) (by omega) (by omega) hp_gki hp_gpa H.size) (cwV 2 hts gX8_act_X8_resting rfl rfl rfl ⟨rfl, dh_X8_resting⟩ ⟨Nat.le_of_ble_eq_true rfl, Nat.le_of_ble_eq_true rfl⟩) hK hN (hZ.kept hS) hP hD hS hA [0, 1, 2, 3] [] rfl rfl (by decide) (by decide) (by decide) (va_recv (q := (RX8, TX8, 38)) hK hP (ci := 8) (q0 := 0) rfl rfl) rfl hl.1 rfl (Nat.le_of_ble_eq_true rfl) dX8_act_54 ⟨Nat.le_of_ble_eq_true rfl, Nat.le_of_ble_eq_true rfl⟩ (fun r_14 u_15 H locs hr_14 hP hD hS => ?_)
              obtain ⟨q_16, q_17⟩ := u_15
              try dsimp only at hr_14
              obtain ⟨hbq_16, hsr_14_0, hsr_14_1, hsr_14_2, hr_14⟩ := hr_14
              have h9R := zRe (ws' := [(zMO m0 npu nte nat_ nde nto nse nhu nga nsd nfa mrf mki mpa mta mla msl mco mhe mso msi msh mce mca mwo mnu mte nba npl nen nnu nwr mwa mke mma mth mtr q_16 nik), (mki, .inl (cI, 8, .inl gki)), (mpa, .inl (cI, 8, .inl gpa)), (mtr, .inl (cI, 20, .inl q_17))]) hP hD rfl
              clear hP hD
              obtain ⟨hP, hD⟩ := h9R
              exact W.iret (v := r_14) hx hb hr (fun t ht hW => ⟨⟨r_14, (q_16, q_17), rfl, ⟨(show 0 ≤ q_16.toInt ∧ q_16.toInt ≤ 2000 from hbq_16), (show ((p_.toInt < 0 ∨ npu.toInt ≤ p_.toInt ∨ mo.toInt < 0 ∨ 2 < mo.toInt) ∧ (r_14 : Int32) = 0 ∧ q_16.toInt = 0) ∨ ((0 ≤ p_.toInt ∧ p_.toInt < npu.toInt) ∧ (0 ≤ mo.toInt ∧ mo.toInt ≤ 2) ∧ (r_14 : Int32) = zQa (gki p_.toNatClampNeg).toInt mo.toInt x p_ (gpa p_.toNatClampNeg) ∧ q_16.toInt = ((zBa (gki p_.toNatClampNeg).toInt mo.toInt).length : Nat) ∧ q_17 = zTr gtr 0 (zBa (gki p_.toNatClampNeg).toInt mo.toInt)) from by (have hm : mo.toInt = 2 := (by omega); refine Or.inr ⟨by omega, by omega, ?_, ?_, ?_⟩; (rw [hm]; exact hsr_14_0); (rw [hm]; have z := hsr_14_2; rw [show (0 : Int32).toInt = 0 from by decide] at z; first | omega | (rw [Int.zero_add] at z; exact z)); (rw [hm]; have z := hsr_14_1; rw [show (0 : Int32).toInt = 0 from by decide] at z; exact z))), trivial⟩, zRet ht hP hD [0, 1, 2, 3] (by decide) rfl⟩, hS.F ht⟩) hS.2.2 dX8_act_57
            · have fc_13 : mo.toInt = 1 := zf_eq c_13 rfl (by decide)
              refine lv_aload_n hx hb dX8_act_42 rfl (lv_at hl 0 rfl) ?_
              refine lv_iload_n hx hb dX8_act_43 rfl (lv_at hl 1 rfl) ?_
              refine lv_iload_n hx hb dX8_act_44 rfl (lv_at hl 3 rfl) ?_
              skip
              refine zw_V (As := [.int p_, .int x]) (rest := []) (wr := []) ⟨hx, hb, hml, hown, hts⟩ (c_F_M_freeing l D cI cJ cZ cP cS po m0 mrf mki mpa mta mla msl mco mhe mso msi msh mce mca mwo mnu mte mwa mke mma mth mtr (npu) (nte) (nat_) (nde) (nto) (nse) (nhu) (nga) (nsd) (nfa) (nba) (npl) (nen) (nnu) (nwr) (0) (nik) gki gpa gtr (p_) (x) hy0 hy1 hy2 hy3 hy4 hy5 hy6 hy7 hy8 hy9 (by omega) (by omega) hy12 hy13 (by omega) (by omega) (by omega) (by omega) hp_gki hp_gpa H.size) (cwV 2 hts gX8_act_X8_freeing rfl rfl rfl ⟨rfl, dh_X8_freeing⟩ ⟨Nat.le_of_ble_eq_true rfl, Nat.le_of_ble_eq_true rfl⟩) hK hN (hZ.kept hS) hP hD hS hA [0, 1, 2, 3] [] rfl rfl (by decide) (by decide) (by decide) (va_recv (q := (RX8, TX8, 38)) hK hP (ci := 8) (q0 := 0) rfl rfl) rfl hl.1 rfl (Nat.le_of_ble_eq_true rfl) dX8_act_45 ⟨Nat.le_of_ble_eq_true rfl, Nat.le_of_ble_eq_true rfl⟩ (fun r_18 u_19 H locs hr_18 hP hD hS => ?_)
              obtain ⟨q_20, q_21⟩ := u_19
              try dsimp only at hr_18
              obtain ⟨hbq_20, hsr_18_0, hsr_18_1, hsr_18_2, hr_18⟩ := hr_18
              have h9R := zRe (ws' := [(zMO m0 npu nte nat_ nde nto nse nhu nga nsd nfa mrf mki mpa mta mla msl mco mhe mso msi msh mce mca mwo mnu mte nba npl nen nnu nwr mwa mke mma mth mtr q_20 nik), (mki, .inl (cI, 8, .inl gki)), (mpa, .inl (cI, 8, .inl gpa)), (mtr, .inl (cI, 20, .inl q_21))]) hP hD rfl
              clear hP hD
              obtain ⟨hP, hD⟩ := h9R
              refine lv_goto (tgt := 57) hx hb dX8_act_48 (by decide) ?_
              exact W.iret (v := r_18) hx hb hr (fun t ht hW => ⟨⟨r_18, (q_20, q_21), rfl, ⟨(show 0 ≤ q_20.toInt ∧ q_20.toInt ≤ 2000 from hbq_20), (show ((p_.toInt < 0 ∨ npu.toInt ≤ p_.toInt ∨ mo.toInt < 0 ∨ 2 < mo.toInt) ∧ (r_18 : Int32) = 0 ∧ q_20.toInt = 0) ∨ ((0 ≤ p_.toInt ∧ p_.toInt < npu.toInt) ∧ (0 ≤ mo.toInt ∧ mo.toInt ≤ 2) ∧ (r_18 : Int32) = zQa (gki p_.toNatClampNeg).toInt mo.toInt x p_ (gpa p_.toNatClampNeg) ∧ q_20.toInt = ((zBa (gki p_.toNatClampNeg).toInt mo.toInt).length : Nat) ∧ q_21 = zTr gtr 0 (zBa (gki p_.toNatClampNeg).toInt mo.toInt)) from by (have hm : mo.toInt = 1 := (by omega); refine Or.inr ⟨by omega, by omega, ?_, ?_, ?_⟩; (rw [hm]; exact hsr_18_0); (rw [hm]; have z := hsr_18_2; rw [show (0 : Int32).toInt = 0 from by decide] at z; first | omega | (rw [Int.zero_add] at z; exact z)); (rw [hm]; have z := hsr_18_1; rw [show (0 : Int32).toInt = 0 from by decide] at z; exact z))), trivial⟩, zRet ht hP hD [0, 1, 2, 3] (by decide) rfl⟩, hS.F ht⟩) hS.2.2 dX8_act_57
          · have fc_12 : mo.toInt = 0 := zf_eq c_12 rfl (by decide)
            refine lv_aload_n hx hb dX8_act_28 rfl (lv_at hl 0 rfl) ?_
            refine lv_iload_n hx hb dX8_act_29 rfl (lv_at hl 1 rfl) ?_
            refine lv_iload_n hx hb dX8_act_30 rfl (lv_at hl 3 rfl) ?_
            skip
            refine zw_V (As := [.int p_, .int x]) (rest := []) (wr := []) ⟨hx, hb, hml, hown, hts⟩ (c_F_M_pulling l D cI cJ cZ cP cS po m0 mrf mki mpa mta mla msl mco mhe mso msi msh mce mca mwo mnu mte mwa mke mma mth mtr (npu) (nte) (nat_) (nde) (nto) (nse) (nhu) (nga) (nsd) (nfa) (nba) (npl) (nen) (nnu) (nwr) (0) (nik) gki gpa gtr (p_) (x) hy0 hy1 hy2 hy3 hy4 hy5 hy6 hy7 hy8 hy9 (by omega) (by omega) hy12 hy13 (by omega) (by omega) (by omega) (by omega) hp_gki hp_gpa H.size) (cwV 2 hts gX8_act_X8_pulling rfl rfl rfl ⟨rfl, dh_X8_pulling⟩ ⟨Nat.le_of_ble_eq_true rfl, Nat.le_of_ble_eq_true rfl⟩) hK hN (hZ.kept hS) hP hD hS hA [0, 1, 2, 3] [] rfl rfl (by decide) (by decide) (by decide) (va_recv (q := (RX8, TX8, 38)) hK hP (ci := 8) (q0 := 0) rfl rfl) rfl hl.1 rfl (Nat.le_of_ble_eq_true rfl) dX8_act_31 ⟨Nat.le_of_ble_eq_true rfl, Nat.le_of_ble_eq_true rfl⟩ (fun r_22 u_23 H locs hr_22 hP hD hS => ?_)
            obtain ⟨q_24, q_25⟩ := u_23
            try dsimp only at hr_22
            obtain ⟨hbq_24, hsr_22_0, hsr_22_1, hsr_22_2, hr_22⟩ := hr_22
            have h9R := zRe (ws' := [(zMO m0 npu nte nat_ nde nto nse nhu nga nsd nfa mrf mki mpa mta mla msl mco mhe mso msi msh mce mca mwo mnu mte nba npl nen nnu nwr mwa mke mma mth mtr q_24 nik), (mki, .inl (cI, 8, .inl gki)), (mpa, .inl (cI, 8, .inl gpa)), (mtr, .inl (cI, 20, .inl q_25))]) hP hD rfl
            clear hP hD
            obtain ⟨hP, hD⟩ := h9R
            refine lv_goto (tgt := 57) hx hb dX8_act_34 (by decide) ?_
            exact W.iret (v := r_22) hx hb hr (fun t ht hW => ⟨⟨r_22, (q_24, q_25), rfl, ⟨(show 0 ≤ q_24.toInt ∧ q_24.toInt ≤ 2000 from hbq_24), (show ((p_.toInt < 0 ∨ npu.toInt ≤ p_.toInt ∨ mo.toInt < 0 ∨ 2 < mo.toInt) ∧ (r_22 : Int32) = 0 ∧ q_24.toInt = 0) ∨ ((0 ≤ p_.toInt ∧ p_.toInt < npu.toInt) ∧ (0 ≤ mo.toInt ∧ mo.toInt ≤ 2) ∧ (r_22 : Int32) = zQa (gki p_.toNatClampNeg).toInt mo.toInt x p_ (gpa p_.toNatClampNeg) ∧ q_24.toInt = ((zBa (gki p_.toNatClampNeg).toInt mo.toInt).length : Nat) ∧ q_25 = zTr gtr 0 (zBa (gki p_.toNatClampNeg).toInt mo.toInt)) from by (have hm : mo.toInt = 0 := (by omega); refine Or.inr ⟨by omega, by omega, ?_, ?_, ?_⟩; (rw [hm]; exact hsr_22_0); (rw [hm]; have z := hsr_22_2; rw [show (0 : Int32).toInt = 0 from by decide] at z; first | omega | (rw [Int.zero_add] at z; exact z)); (rw [hm]; have z := hsr_22_1; rw [show (0 : Int32).toInt = 0 from by decide] at z; exact z))), trivial⟩, zRet ht hP hD [0, 1, 2, 3] (by decide) rfl⟩, hS.F ht⟩) hS.2.2 dX8_act_57
        · have fc_11 : 2 < mo.toInt := zf_nle c_11 rfl (by decide)
          refine lv_iconst (v := 0) hx hb dX8_act_22 (by decide) ?_
          exact W.iret (v := 0) hx hb hr (fun t ht hW => ⟨⟨0, (0, gtr), rfl, ⟨(show 0 ≤ (0 : Int32).toInt ∧ (0 : Int32).toInt ≤ 2000 from by decide), (show ((p_.toInt < 0 ∨ npu.toInt ≤ p_.toInt ∨ mo.toInt < 0 ∨ 2 < mo.toInt) ∧ (0 : Int32) = 0 ∧ (0 : Int32).toInt = 0) ∨ ((0 ≤ p_.toInt ∧ p_.toInt < npu.toInt) ∧ (0 ≤ mo.toInt ∧ mo.toInt ≤ 2) ∧ (0 : Int32) = zQa (gki p_.toNatClampNeg).toInt mo.toInt x p_ (gpa p_.toNatClampNeg) ∧ (0 : Int32).toInt = ((zBa (gki p_.toNatClampNeg).toInt mo.toInt).length : Nat) ∧ gtr = zTr gtr 0 (zBa (gki p_.toNatClampNeg).toInt mo.toInt)) from by (exact Or.inl ⟨by omega, rfl, by decide⟩)), trivial⟩, zRet ht hP hD [0, 1, 2, 3] (by decide) rfl⟩, hS.F ht⟩) hS.2.2 dX8_act_23
set_option maxHeartbeats 4000000 in
set_option maxRecDepth 100000 in
theorem c_F_M_trace (l : Launch) (D : va_G) (cI cJ cZ cP cS : ClassId) (po : zPool) (m0 mrf mki mpa mta mla msl mco mhe mso msi msh mce mca mwo mnu mte mwa mke mma mth mtr : Nat) (npu nte nat_ nde nto nse nhu nga nsd nfa nba npl nen nnu nwr nra nik : Int32) (gtr : Nat → Int32) (i : Int32) (hy0 : 0 ≤ npu.toInt) (hy1 : npu.toInt ≤ 8) (hy2 : 4 ≤ nte.toInt) (hy3 : nte.toInt ≤ 40) (hy4 : 0 ≤ nat_.toInt) (hy5 : nat_.toInt ≤ 40) (hy6 : 0 ≤ nde.toInt) (hy7 : nde.toInt ≤ 24) (hy8 : 0 ≤ nhu.toInt) (hy9 : nhu.toInt ≤ 9) (hy10 : 0 ≤ nra.toInt) (hy11 : nra.toInt ≤ 2000) (hy12 : 0 ≤ nik.toInt) (hy13 : nik.toInt ≤ 1) : Met l yX8_trace wsX8_trace ({ frames := 0, cells := 0, slots := 0, locals := 0 }) (va_Pc [.ref m0, .int i] (zR D (zKT cI cJ cZ cP cS) po [(zMO m0 npu nte nat_ nde nto nse nhu nga nsd nfa mrf mki mpa mta mla msl mco mhe mso msi msh mce mca mwo mnu mte nba npl nen nnu nwr mwa mke mma mth mtr nra nik), (mtr, .inl (cI, 20, .inl gtr))])) (vp_Si (fun r => (((0 ≤ i.toInt ∧ i.toInt < 20 ∧ i.toInt < nra.toInt) ∧ r = gtr i.toNatClampNeg) ∨ (¬ (0 ≤ i.toInt ∧ i.toInt < 20 ∧ i.toInt < nra.toInt) ∧ r = -1)))) 0 0 (fun _ => False) := by
  refine Met.ofW (cc := cX8_trace) (maxL := 2) (ret := (some .int)) (by decide) rfl ?_
  intro p e s m args below meth c s₁ B hml hv
  obtain ⟨rfl, hP, hK, hN, hZ⟩ := hv
  have hx := B.exec
  have hb := B.bytes
  have hr := B.returns
  have hts := atoms_spec (ws := wsX8_trace) B.pre
  have hown : s.vm.findClass RX8 = some m.cls := findClass_of_methodNamed B.named
  have hlocks := B.notSynchronized
  have hl := lv_entry ([.ref m0, .int i]) (n := 2) (Nat.le_of_ble_eq_true rfl)
  rw [lg_entry_eq]
  generalize (lg_sl ([.ref m0, .int i]) ++ List.replicate (2 - (lg_sl ([.ref m0, .int i])).length) Slot.unset).toArray = ls at hl ⊢
  replace hl : lv_has ls 2 [(0, .ref m0), (1, .int i)] := hl
  refine lv_iload_n hx hb dX8_trace_0 rfl (lv_at hl 1 rfl) ?_
  refine lv_if_lt (tgt := 27) hx hb dX8_trace_1 (by decide) (fun c_1 => ?_) (fun c_1 => ?_)
  · have fc_1 : i.toInt < 0 := zf_lt c_1 rfl (by decide)
    refine lv_iconst (v := (-1)) hx hb dX8_trace_27 (by decide) ?_
    exact W.iret (v := (-1)) hx hb hr (fun t ht hW => ⟨(-1), rfl, (show ((0 ≤ i.toInt ∧ i.toInt < 20 ∧ i.toInt < nra.toInt) ∧ ((-1) : Int32) = gtr i.toNatClampNeg) ∨ (¬ (0 ≤ i.toInt ∧ i.toInt < 20 ∧ i.toInt < nra.toInt) ∧ ((-1) : Int32) = -1) from by (exact Or.inr ⟨by omega, rfl⟩)), ht⟩) (fun q hq => by cases hq) dX8_trace_28
  · have fc_1 : 0 ≤ i.toInt := zf_nlt c_1 rfl (by decide)
    refine lv_iload_n hx hb dX8_trace_4 rfl (lv_at hl 1 rfl) ?_
    refine lv_bipush (v := 20) hx hb dX8_trace_5 (by decide) ?_
    refine lv_icmp_ge (tgt := 27) hx hb dX8_trace_7 (by decide) (fun c_2 => ?_) (fun c_2 => ?_)
    · have fc_2 : 20 ≤ i.toInt := zf_le c_2 (by decide) rfl
      refine lv_iconst (v := (-1)) hx hb dX8_trace_27 (by decide) ?_
      exact W.iret (v := (-1)) hx hb hr (fun t ht hW => ⟨(-1), rfl, (show ((0 ≤ i.toInt ∧ i.toInt < 20 ∧ i.toInt < nra.toInt) ∧ ((-1) : Int32) = gtr i.toNatClampNeg) ∨ (¬ (0 ≤ i.toInt ∧ i.toInt < 20 ∧ i.toInt < nra.toInt) ∧ ((-1) : Int32) = -1) from by (exact Or.inr ⟨by omega, rfl⟩)), ht⟩) (fun q hq => by cases hq) dX8_trace_28
    · have fc_2 : i.toInt < 20 := zf_nle c_2 (by decide) rfl
      refine lv_iload_n hx hb dX8_trace_10 rfl (lv_at hl 1 rfl) ?_
      refine lv_aload_n hx hb dX8_trace_11 rfl (lv_at hl 0 rfl) ?_
      refine va_get (D := D) (ci := 8) (v := .int nra) (C := RX8) (T := TX8) (N := 38) hx hb hts hi_X8_trace_8 hown hK hP 0 rfl rfl 36 (by decide) (hts (.fieldLink RX8 285 "TheLiningsInItModel" "ran" "I") (List.mem_of_getElem? (i := 1) rfl)) (fun _ h9 => h9) rfl dX8_trace_12 ?_
      refine lv_icmp_ge (tgt := 27) hx hb dX8_trace_15 (by decide) (fun c_3 => ?_) (fun c_3 => ?_)
      · have fc_3 : nra.toInt ≤ i.toInt := zf_le c_3 rfl rfl
        refine lv_iconst (v := (-1)) hx hb dX8_trace_27 (by decide) ?_
        exact W.iret (v := (-1)) hx hb hr (fun t ht hW => ⟨(-1), rfl, (show ((0 ≤ i.toInt ∧ i.toInt < 20 ∧ i.toInt < nra.toInt) ∧ ((-1) : Int32) = gtr i.toNatClampNeg) ∨ (¬ (0 ≤ i.toInt ∧ i.toInt < 20 ∧ i.toInt < nra.toInt) ∧ ((-1) : Int32) = -1) from by (exact Or.inr ⟨by omega, rfl⟩)), ht⟩) (fun q hq => by cases hq) dX8_trace_28
      · have fc_3 : i.toInt < nra.toInt := zf_nle c_3 rfl rfl
        refine lv_aload_n hx hb dX8_trace_18 rfl (lv_at hl 0 rfl) ?_
        refine va_get (D := D) (ci := 8) (v := .ref mtr) (C := RX8) (T := TX8) (N := 38) hx hb hts hi_X8_trace_8 hown hK hP 0 rfl rfl 35 (by decide) (hts (.fieldLink RX8 87 "TheLiningsInItModel" "trace" "[I") (List.mem_of_getElem? (i := 2) rfl)) (fun _ h9 => h9) rfl dX8_trace_19 ?_
        refine lv_iload_n hx hb dX8_trace_22 rfl (lv_at hl 1 rfl) ?_
        refine va_iald hx hb hK hP 1 0 rfl rfl (zf_in (by omega) (by omega)) dX8_trace_23 ?_
        refine lv_topi (fun x_4 ex_4 => ?_)
        refine lv_goto (tgt := 28) hx hb dX8_trace_24 (by decide) ?_
        exact W.iret (v := x_4) hx hb hr (fun t ht hW => ⟨x_4, rfl, (show ((0 ≤ i.toInt ∧ i.toInt < 20 ∧ i.toInt < nra.toInt) ∧ (x_4 : Int32) = gtr i.toNatClampNeg) ∨ (¬ (0 ≤ i.toInt ∧ i.toInt < 20 ∧ i.toInt < nra.toInt) ∧ (x_4 : Int32) = -1) from by (exact Or.inl ⟨by omega, ex_4⟩)), ht⟩) (fun q hq => by cases hq) dX8_trace_28
end
section
/-! worlds in another order; the eight shelves, one of them taken out and put back; the pool among the law's cells -/
theorem zP_perm {D : va_G} {cl : List vw_C} {ws ws' : va_W} {H : Heap} (h : va_P D cl ws H) (p : ws.Perm ws') : va_P D cl ws' H := fun k q hk => by
  have h1 : q ∈ ws := p.symm.subset (List.mem_of_getElem? hk)
  obtain ⟨i, hi⟩ := List.getElem?_of_mem h1
  exact h i q hi
theorem zD_iff {A : Nat → Prop} {ws : va_W} : va_D A ws ↔ (ws.map Prod.fst).Nodup ∧ ∀ q ∈ ws, A q.1 := by
  constructor
  · intro h
    refine ⟨?_, fun q hq => ?_⟩
    · unfold List.Nodup
      rw [List.pairwise_iff_getElem]
      intro i j hi hj hij e
      have li : i < ws.length := by simpa using hi
      have lj : j < ws.length := by simpa using hj
      simp only [List.getElem_map] at e
      have z := h.1 i j ws[i] ws[j] (List.getElem?_eq_getElem li) (List.getElem?_eq_getElem lj) e
      omega
    · obtain ⟨i, hi⟩ := List.getElem?_of_mem hq
      exact h.2 i q hi
  · intro ⟨h1, h2⟩
    have h1' := List.pairwise_iff_getElem.mp h1
    refine ⟨fun i j p q hi hj e => ?_, fun k q hk => h2 q (List.mem_of_getElem? hk)⟩
    obtain ⟨li, ei⟩ := List.getElem?_eq_some_iff.mp hi
    obtain ⟨lj, ej⟩ := List.getElem?_eq_some_iff.mp hj
    rcases Nat.lt_trichotomy i j with h | h | h
    · have z := h1' i j (by simpa using li) (by simpa using lj) h
      simp only [List.getElem_map, ei, ej] at z
      exact absurd e z
    · exact h
    · have z := h1' j i (by simpa using lj) (by simpa using li) h
      simp only [List.getElem_map, ei, ej] at z
      exact absurd e.symm z
theorem zD_perm {A : Nat → Prop} {ws ws' : va_W} (h : va_D A ws) (p : ws.Perm ws') : va_D A ws' := by
  rw [zD_iff] at h ⊢
  exact ⟨(p.map Prod.fst).nodup h.1, fun q hq => h.2 q (p.symm.subset hq)⟩
def zShO (sh el : Nat → Nat) (he si : Nat → Int32) (j : Nat) : Nat × va_E := (sh j, .inr (4, [.ref (el j), .int (he j), .int (si j)]))
def zShE (cJ : ClassId) (el : Nat → Nat) (fe : Nat → Nat → Int64) (j : Nat) : Nat × va_E := (el j, .inl (cJ, 160, .inr (.inl (fe j))))
def zSh8 : List Nat := [0, 1, 2, 3, 4, 5, 6, 7]
def zShW (cJ : ClassId) (sh el : Nat → Nat) (he si : Nat → Int32) (fe : Nat → Nat → Int64) : va_W := zSh8.map (zShO sh el he si) ++ zSh8.map (zShE cJ el fe)
def zShR (cJ : ClassId) (sh el : Nat → Nat) (he si : Nat → Int32) (fe : Nat → Nat → Int64) (j : Nat) : va_W := (zSh8.filter (· != j)).map (zShO sh el he si) ++ (zSh8.filter (· != j)).map (zShE cJ el fe)
theorem zSh_perm {cJ : ClassId} {sh el : Nat → Nat} {he si : Nat → Int32} {fe : Nat → Nat → Int64} {j : Nat} (hj : j < 8) : (zShW cJ sh el he si fe).Perm (zShO sh el he si j :: zShE cJ el fe j :: zShR cJ sh el he si fe j) := by
  have p0 : zSh8.Perm (j :: zSh8.filter (· != j)) := by
    rcases zj8 hj with rfl | rfl | rfl | rfl | rfl | rfl | rfl | rfl <;> decide
  unfold zShW zShR
  refine ((p0.map _).append (p0.map _)).trans ?_
  simp only [List.map_cons, List.cons_append]
  exact List.Perm.cons _ List.perm_middle
theorem zShR_up {cJ : ClassId} {sh el : Nat → Nat} {he si : Nat → Int32} {fe : Nat → Nat → Int64} {j : Nat} {v w : Int32} {g : Nat → Int64} : zShR cJ sh el (va_up he j v) (va_up si j w) (va_up fe j g) j = zShR cJ sh el he si fe j := by
  have hne : ∀ i ∈ zSh8.filter (· != j), i ≠ j := fun i hi => by simpa using (List.mem_filter.mp hi).2
  unfold zShR
  congr 1
  · apply List.map_congr_left
    intro i hi
    simp only [zShO, va_up]
    rw [if_neg (hne i hi), if_neg (hne i hi)]
  · apply List.map_congr_left
    intro i hi
    simp only [zShE, va_up]
    rw [if_neg (hne i hi)]
theorem zSh_pout {cJ : ClassId} {sh el : Nat → Nat} {he si : Nat → Int32} {fe : Nat → Nat → Int64} {j : Nat} (hj : j < 8) (X T : va_W) : (X ++ (zShW cJ sh el he si fe ++ T)).Perm ((X ++ [(sh j, .inr (4, [.ref (el j), .int (he j), .int (si j)])), (el j, .inl (cJ, 160, .inr (.inl (fe j))))]) ++ (zShR cJ sh el he si fe j ++ T)) := by
  rw [List.append_assoc]
  refine List.Perm.append_left X ?_
  exact (zSh_perm hj).append_right T
theorem zSh_pin {cJ : ClassId} {sh el : Nat → Nat} {he si : Nat → Int32} {fe : Nat → Nat → Int64} {j : Nat} (hj : j < 8) (X T : va_W) (v w : Int32) (g : Nat → Int64) : ((X ++ ([(sh j, .inr (4, [.ref (el j), .int v, .int w])), (el j, .inl (cJ, 160, .inr (.inl g)))] : va_W)) ++ (zShR cJ sh el he si fe j ++ T)).Perm (X ++ (zShW cJ sh el (va_up he j v) (va_up si j w) (va_up fe j g) ++ T)) := by
  have h := (zSh_pout (cJ := cJ) (sh := sh) (el := el) (he := va_up he j v) (si := va_up si j w) (fe := va_up fe j g) hj X T).symm
  rw [zShR_up] at h
  simp only [va_up, if_pos] at h ⊢
  exact h
/-- new pulls go to the pool, behind the shelves -/
theorem zNP_perm (X Y S : va_W) (np tl : List (Nat × Int32 × Int32 × Int32)) : ((X ++ (Y ++ np.map zPo)) ++ (S ++ tl.map zPo)).Perm ((X ++ Y) ++ (S ++ (np ++ tl).map zPo)) := by
  rw [List.map_append]
  have h1 : ((X ++ (Y ++ np.map zPo)) ++ (S ++ tl.map zPo)) = (X ++ Y) ++ (np.map zPo ++ (S ++ tl.map zPo)) := by simp
  rw [h1]
  refine List.Perm.append_left _ ?_
  have h2 : S ++ (np.map zPo ++ tl.map zPo) = (S ++ np.map zPo) ++ tl.map zPo := by simp
  rw [h2, ← List.append_assoc]
  exact List.perm_append_comm.append_right _
theorem zJP.mono {po : zPool} {np : List (Nat × Int32 × Int32 × Int32)} {f : Nat → Option Nat} {n : Int32} {K A T : Nat → Int32} (h : zJP po f n K A T) : zJP (np ++ po.1, po.2) f n K A T := fun j hj => by
  obtain ⟨u, h1, h2⟩ := h j hj
  exact ⟨u, h1, List.mem_append_right _ h2⟩
theorem zWP.mono {po : zPool} {np : List (Nat × Int32 × Int32 × Int32)} {f : Nat → Option Nat} (h : zWP po f) : zWP (np ++ po.1, po.2) f := fun j => by
  rcases h j with h1 | ⟨u, k, a, t, h1, h2⟩
  · exact Or.inl h1
  · exact Or.inr ⟨u, k, a, t, h1, List.mem_append_right _ h2⟩
/-- what a callee needs of the pool and the statics, in the law's walk: the pool's cells stand behind the law's -/
theorem zE_law {D : va_G} {po : zPool} {s : State} {H : Heap} {locs : List Loc} {ws S wc : va_W} {isC : List Nat} {A : Nat → Prop} (hz1 : zSt A s s.heap) (hz2 : zStr po A s s.heap) (hP : va_P D vwCl (ws ++ (S ++ po.1.map zPo)) H) (hD : va_D A (ws ++ (S ++ po.1.map zPo))) (hS : va_S A s.heap H locs) (hA : ∀ q, s.heap.size ≤ q → A q) (hC : isC.map (fun i => ws[i]?) = wc.map some) (hpr : ∀ z ∈ po.1, zPr z.2.1 z.2.2.1 z.2.2.2) : zE D po (va_A wc H.size) s H := by
  have hF := zt_free (wc := wc) hD hS hA hC
  refine ⟨(hz1.kept hS).narrow hF, fun z hz => ?_, (hz2.kept hS.2.1).narrow hF⟩
  obtain ⟨k, hk⟩ := List.getElem?_of_mem hz
  have hk2 : (ws ++ (S ++ po.1.map zPo))[ws.length + (S.length + k)]? = some (zPo z) := by
    rw [List.getElem?_append_right (by omega), show ws.length + (S.length + k) - ws.length = S.length + k from by omega, List.getElem?_append_right (by omega), show S.length + k - S.length = k from by omega, List.getElem?_map, hk]
    rfl
  have hPz : va_P D vwCl [zPo z] H := fun i q hi => by
    match i, hi with
    | 0, hi =>
      obtain rfl : zPo z = q := by simpa using hi
      exact hP _ _ hk2
    | i + 1, hi => simp at hi
  refine ⟨hPz, fun ha => ?_, hpr z hz⟩
  rcases ha with ⟨i, e, hi⟩ | ha
  · obtain ⟨i2, h1, h2⟩ := va_in_of isC hC hi
    have hl : i2 < ws.length := (List.getElem?_eq_some_iff.mp h2).1
    have h3 : (ws ++ (S ++ po.1.map zPo))[i2]? = some (z.1, e) := by rw [List.getElem?_append_left hl]; exact h2
    have h4 := hD.1 _ _ _ _ h3 hk2 rfl
    omega
  · have h5 := (hP _ _ hk2).lt
    exact absurd h5 (Nat.not_lt.mpr ha)
def zShR2 (cJ : ClassId) (sh el : Nat → Nat) (he si : Nat → Int32) (fe : Nat → Nat → Int64) (j k : Nat) : va_W := ((zSh8.filter (· != j)).filter (· != k)).map (zShO sh el he si) ++ ((zSh8.filter (· != j)).filter (· != k)).map (zShE cJ el fe)
theorem zSh_perm2 {cJ : ClassId} {sh el : Nat → Nat} {he si : Nat → Int32} {fe : Nat → Nat → Int64} {j k : Nat} (hj : j < 8) (hk : k < 8) (hjk : k ≠ j) : (zShR cJ sh el he si fe j).Perm (zShO sh el he si k :: zShE cJ el fe k :: zShR2 cJ sh el he si fe j k) := by
  have p0 : (zSh8.filter (· != j)).Perm (k :: (zSh8.filter (· != j)).filter (· != k)) := by
    rcases zj8 hj with rfl | rfl | rfl | rfl | rfl | rfl | rfl | rfl <;> rcases zj8 hk with rfl | rfl | rfl | rfl | rfl | rfl | rfl | rfl <;> first | decide | exact absurd rfl hjk
  unfold zShR zShR2
  refine ((p0.map _).append (p0.map _)).trans ?_
  simp only [List.map_cons, List.cons_append]
  exact List.Perm.cons _ List.perm_middle
theorem zSh_pout2 {cJ : ClassId} {sh el : Nat → Nat} {he si : Nat → Int32} {fe : Nat → Nat → Int64} {j k : Nat} (hj : j < 8) (hk : k < 8) (hjk : k ≠ j) (X T : va_W) : (X ++ (zShW cJ sh el he si fe ++ T)).Perm ((X ++ [(sh j, .inr (4, [.ref (el j), .int (he j), .int (si j)])), (el j, .inl (cJ, 160, .inr (.inl (fe j)))), (sh k, .inr (4, [.ref (el k), .int (he k), .int (si k)])), (el k, .inl (cJ, 160, .inr (.inl (fe k))))]) ++ (zShR2 cJ sh el he si fe j k ++ T)) := by
  rw [List.append_assoc]
  refine List.Perm.append_left X ?_
  refine ((zSh_perm hj).append_right T).trans ?_
  simp only [List.cons_append, List.nil_append]
  refine List.Perm.cons _ (List.Perm.cons _ ?_)
  exact (zSh_perm2 hj hk hjk).append_right T
theorem zShR2_up {cJ : ClassId} {sh el : Nat → Nat} {he si : Nat → Int32} {fe : Nat → Nat → Int64} {j k : Nat} {g : Nat → Int64} : zShR2 cJ sh el he si (va_up fe k g) j k = zShR2 cJ sh el he si fe j k := by
  have hne : ∀ i ∈ (zSh8.filter (· != j)).filter (· != k), i ≠ k := fun i hi => by simpa using (List.mem_filter.mp hi).2
  unfold zShR2
  congr 1
  apply List.map_congr_left
  intro i hi
  simp only [zShE, va_up]
  rw [if_neg (hne i hi)]
theorem zSh_pin2 {cJ : ClassId} {sh el : Nat → Nat} {he si : Nat → Int32} {fe : Nat → Nat → Int64} {j k : Nat} (hj : j < 8) (hk : k < 8) (hjk : k ≠ j) (X T : va_W) (g : Nat → Int64) : ((X ++ ([(sh j, .inr (4, [.ref (el j), .int (he j), .int (si j)])), (el j, .inl (cJ, 160, .inr (.inl (fe j)))), (sh k, .inr (4, [.ref (el k), .int (he k), .int (si k)])), (el k, .inl (cJ, 160, .inr (.inl g)))] : va_W)) ++ (zShR2 cJ sh el he si fe j k ++ T)).Perm (X ++ (zShW cJ sh el he si (va_up fe k g) ++ T)) := by
  have h := (zSh_pout2 (cJ := cJ) (sh := sh) (el := el) (he := he) (si := si) (fe := va_up fe k g) hj hk hjk X T).symm
  rw [zShR2_up] at h
  have e1 : va_up fe k g j = fe j := by simp only [va_up]; rw [if_neg (fun e => hjk e.symm)]
  have e2 : va_up fe k g k = g := by simp [va_up]
  rw [e1, e2] at h
  exact h
def zH8 {α : Type} (a0 a1 a2 a3 a4 a5 a6 a7 : α) : Nat → α := fun j => if j = 0 then a0 else if j = 1 then a1 else if j = 2 then a2 else if j = 3 then a3 else if j = 4 then a4 else if j = 5 then a5 else if j = 6 then a6 else a7
theorem zRg8 {a0 a1 a2 a3 a4 a5 a6 a7 : Int32} {lo hi : Int} (h0 : lo ≤ a0.toInt ∧ a0.toInt ≤ hi) (h1 : lo ≤ a1.toInt ∧ a1.toInt ≤ hi) (h2 : lo ≤ a2.toInt ∧ a2.toInt ≤ hi) (h3 : lo ≤ a3.toInt ∧ a3.toInt ≤ hi) (h4 : lo ≤ a4.toInt ∧ a4.toInt ≤ hi) (h5 : lo ≤ a5.toInt ∧ a5.toInt ≤ hi) (h6 : lo ≤ a6.toInt ∧ a6.toInt ≤ hi) (h7 : lo ≤ a7.toInt ∧ a7.toInt ≤ hi) : zRg (zH8 a0 a1 a2 a3 a4 a5 a6 a7) lo hi := by
  intro j
  unfold zH8
  repeat' split
  all_goals assumption
theorem zRg_va {f : Nat → Int32} {lo hi : Int} {k : Nat} {v : Int32} (h : zRg f lo hi) (h1 : lo ≤ v.toInt ∧ v.toInt ≤ hi) : zRg (va_up f k v) lo hi := by
  intro j; simp only [va_up]; split
  · exact h1
  · exact h j
end
section
/-! the script's places -/
theorem zLadd {i x k : Int32} {n L : Nat} {kk : Int} (ex : x = i + k) (hk : k.toInt = kk) (h0 : 0 ≤ kk) (h5 : kk ≤ 5) (hi6 : i.toInt = 6 * (n : Int)) (hn6 : 6 * (n : Int) + 6 ≤ (L : Int)) (hL : L ≤ 3072) : x.toInt = i.toInt + kk := by
  rw [ex]; exact zf_add rfl hk (by omega) (by omega)
theorem zLin {i x : Int32} {n L : Nat} {kk : Int} (qx : x.toInt = i.toInt + kk) (h0 : 0 ≤ kk) (h5 : kk ≤ 5) (hi6 : i.toInt = 6 * (n : Int)) (hn6 : 6 * (n : Int) + 6 ≤ (L : Int)) : vp_in x L := zf_in (by omega) (by omega)
/-! the two worlds' shelves, side by side -/
def zRel (he si : Nat → Int32) (fe : Nat → Nat → Int64) (gh go gs gd : Nat → Int32) (gc : Nat → Int64) : Prop := ∀ j : Nat, j < 8 → ((gh j).toInt = 0 → (he j).toInt = -1) ∧ ((gh j).toInt = 1 → (he j).toInt = 100 + (go j).toInt ∧ (si j).toInt = (gs j).toInt ∧ ∀ k : Nat, k < 160 → fe j k = gc (160 * j + k)) ∧ ((gh j).toInt = 2 → (he j).toInt = (gd j).toInt)
theorem zUpS {α : Type} {f : Nat → α} {j : Nat} : va_up f j (f j) = f := by
  funext i
  simp only [va_up]
  split
  · rename_i h; rw [h]
  · rfl
theorem zUp1 {α : Type} {f : Nat → α} {j : Nat} {v : α} : va_up f j v j = v := by simp [va_up]
theorem zUp2 {α : Type} {f : Nat → α} {i j : Nat} {v : α} (h : i ≠ j) : va_up f j v i = f i := by simp [va_up, h]
theorem zUd1 {f : Nat → Int32} {j : Nat} {v : Int32} : upd f j v j = v := by simp [upd]
theorem zUd2 {f : Nat → Int32} {i j : Nat} {v : Int32} (h : i ≠ j) : upd f j v i = f i := by simp [upd, h]
theorem zRow_1 {s o n : Int} (h : zRow s o n = 1) : (0 ≤ s ∧ s ≤ 7) ∧ (0 ≤ o ∧ o ≤ 3) ∧ 0 ≤ n ∧ n ≤ 160 := by
  unfold zRow at h
  repeat' split at h
  all_goals omega
theorem zSetR_1 {s he si i : Int} (h : zSetR s he si i = 1) : (0 ≤ s ∧ s ≤ 7) ∧ 100 ≤ he ∧ 0 ≤ i ∧ i < si := by
  unfold zSetR at h
  repeat' split at h
  all_goals omega
theorem zCopR_1 {s q hs hq ss sq i j n : Int} (h : zCopR s q hs hq ss sq i j n = 1) (h1 : -1 ≤ hs) (h2 : -1 ≤ hq) : (0 ≤ s ∧ s ≤ 7) ∧ (0 ≤ q ∧ q ≤ 7) ∧ 100 ≤ hs ∧ hs = hq ∧ 0 ≤ n ∧ 0 ≤ i ∧ 0 ≤ j ∧ i ≤ ss - n ∧ j ≤ sq - n := by
  unfold zCopR at h
  repeat' split at h
  all_goals omega
theorem zRel_row {he si gh go gs gd gh2 go2 gs2 : Nat → Int32} {fe : Nat → Nat → Int64} {gc gc2 g : Nat → Int64} {j : Nat} {s o n r r2 v u : Int32} (h : zRel he si fe gh go gs gd gc) (hq : 0 ≤ s.toInt → s.toInt ≤ 7 → j = s.toNatClampNeg) (x0 : r.toInt = zRow s.toInt o.toInt n.toInt) (x1 : r.toInt = 1 → v.toInt = 100 + o.toInt ∧ u.toInt = n.toInt ∧ ∀ k : Nat, k < 160 → g k = 0) (x2 : r.toInt ≠ 1 → v = he j ∧ u = si j ∧ g = fe j) (y0 : r2.toInt = zRow s.toInt o.toInt n.toInt) (y1 : r2.toInt = 1 → gh2 = upd gh s.toNatClampNeg 1 ∧ go2 = upd go s.toNatClampNeg o ∧ gs2 = upd gs s.toNatClampNeg n ∧ ∀ m : Nat, gc2 m = (if 160 * s.toNatClampNeg ≤ m ∧ m < 160 * s.toNatClampNeg + 160 then 0 else gc m)) (y2 : r2.toInt ≠ 1 → gh2 = gh ∧ go2 = go ∧ gs2 = gs ∧ gc2 = gc) : zRel (va_up he j v) (va_up si j u) (va_up fe j g) gh2 go2 gs2 gd gc2 := by
  by_cases hr : r.toInt = 1
  · obtain ⟨a1, a2, a3⟩ := x1 hr
    obtain ⟨rfl, rfl, rfl, b4⟩ := y1 (by omega)
    have z := zRow_1 (x0.symm.trans hr)
    obtain rfl := hq z.1.1 z.1.2
    intro i hi
    by_cases e : i = s.toNatClampNeg
    · rw [e, zUp1, zUp1, zUp1, zUd1, zUd1, zUd1]
      refine ⟨fun q => absurd q (by decide), fun _ => ⟨a1, a2, fun k hk => ?_⟩, fun q => absurd q (by decide)⟩
      rw [a3 k hk, b4, if_pos (by omega)]
    · rw [zUp2 e, zUp2 e, zUp2 e, zUd2 e, zUd2 e, zUd2 e]
      obtain ⟨c1, c2, c3⟩ := h i hi
      refine ⟨c1, fun q => ⟨(c2 q).1, (c2 q).2.1, fun k hk => ?_⟩, c3⟩
      rw [(c2 q).2.2 k hk, b4, if_neg (by omega)]
  · obtain ⟨rfl, rfl, rfl⟩ := x2 hr
    obtain ⟨rfl, rfl, rfl, rfl⟩ := y2 (by omega)
    rw [zUpS, zUpS, zUpS]
    exact h
theorem zRel_hc {he si gh go gs gd : Nat → Int32} {fe : Nat → Nat → Int64} {gc : Nat → Int64} (h : zRel he si fe gh go gs gd gc) (hd : zHS gh gd) (hg : zRg gh 0 2) {j : Nat} (hj : j < 8) : ((gh j).toInt = 0 ∧ (he j).toInt = -1 ∧ zHc (gh j).toInt = -1) ∨ ((gh j).toInt = 1 ∧ (he j).toInt = 100 + (go j).toInt ∧ zHc (gh j).toInt = 100 ∧ (si j).toInt = (gs j).toInt) ∨ ((gh j).toInt = 2 ∧ (0 ≤ (he j).toInt ∧ (he j).toInt ≤ 7) ∧ zHc (gh j).toInt = 0 ∧ (he j).toInt = (gd j).toInt) := by
  obtain ⟨a, b, c⟩ := h j hj
  have d := hg j
  unfold zHc
  rcases (show (gh j).toInt = 0 ∨ (gh j).toInt = 1 ∨ (gh j).toInt = 2 by omega) with e | e | e
  · exact Or.inl ⟨e, a e, by rw [if_neg (by omega), if_pos e]⟩
  · exact Or.inr (Or.inl ⟨e, (b e).1, by rw [if_pos e], (b e).2.1⟩)
  · have f := hd j e
    have g := c e
    exact Or.inr (Or.inr ⟨e, by omega, by rw [if_neg (by omega), if_neg (by omega)], g⟩)
/-- set answers alike -/
theorem zRel_setR {he si gh go gs gd : Nat → Int32} {fe : Nat → Nat → Int64} {gc : Nat → Int64} {j : Nat} {s i : Int32} (h : zRel he si fe gh go gs gd gc) (hd : zHS gh gd) (hg : zRg gh 0 2) (ho : zRg go 0 3) (hq : 0 ≤ s.toInt → s.toInt ≤ 7 → j = s.toNatClampNeg) (hj : j < 8) : zSetR s.toInt (he j).toInt (si j).toInt i.toInt = zSetR s.toInt (zHc (gh s.toNatClampNeg).toInt) (gs s.toNatClampNeg).toInt i.toInt := by
  by_cases hs : 0 ≤ s.toInt ∧ s.toInt ≤ 7
  · obtain rfl := hq hs.1 hs.2
    have o := ho s.toNatClampNeg
    unfold zSetR
    rcases zRel_hc h hd hg hj with ⟨a, b, c⟩ | ⟨a, b, c, d⟩ | ⟨a, b, c, d⟩
    · rw [c, b]
      repeat' split
      all_goals omega
    · rw [c, b, d]
      repeat' split
      all_goals omega
    · rw [c]
      repeat' split
      all_goals omega
  · unfold zSetR
    repeat' split
    all_goals omega
theorem zRel_set {he si gh go gs gd : Nat → Int32} {fe : Nat → Nat → Int64} {gc gc2 g : Nat → Int64} {j : Nat} {s i r r2 : Int32} {v : Int64} (h : zRel he si fe gh go gs gd gc) (hd : zHS gh gd) (hg : zRg gh 0 2) (ho : zRg go 0 3) (hsi : zRg si 0 160) (hj : j < 8) (hq : 0 ≤ s.toInt → s.toInt ≤ 7 → j = s.toNatClampNeg) (x0 : r.toInt = zSetR s.toInt (he j).toInt (si j).toInt i.toInt) (x1 : r.toInt = 1 → g = vp_updL (fe j) i.toNatClampNeg (zNar ((he j).toInt - 100) v)) (x2 : r.toInt ≠ 1 → g = fe j) (y0 : r2.toInt = zSetR s.toInt (zHc (gh s.toNatClampNeg).toInt) (gs s.toNatClampNeg).toInt i.toInt) (y1 : r2.toInt = 1 → gc2 = vp_updL gc (160 * s.toInt + i.toInt).toNat (zNar (go s.toNatClampNeg).toInt v)) (y2 : r2.toInt ≠ 1 → gc2 = gc) : r.toInt = r2.toInt ∧ zRel he si (va_up fe j g) gh go gs gd gc2 := by
  have hrr : r.toInt = r2.toInt := by rw [x0, y0]; exact zRel_setR h hd hg ho hq hj
  refine ⟨hrr, ?_⟩
  by_cases hr : r.toInt = 1
  · obtain rfl := x1 hr
    obtain rfl := y1 (by omega)
    obtain ⟨z1, z2, z3, z4⟩ := zSetR_1 (x0.symm.trans hr)
    obtain rfl := hq z1.1 z1.2
    have e1 : s.toNatClampNeg = s.toInt.toNat := rfl
    have e2 : i.toNatClampNeg = i.toInt.toNat := rfl
    have k1 := hsi s.toNatClampNeg
    intro m hm
    by_cases e : m = s.toNatClampNeg
    · obtain ⟨c1, c2, c3⟩ := h m hm
      subst e
      rw [zUp1]
      refine ⟨c1, fun q => ⟨(c2 q).1, (c2 q).2.1, fun k hk => ?_⟩, c3⟩
      have c4 := (c2 q).1
      rw [show (he s.toNatClampNeg).toInt - 100 = (go s.toNatClampNeg).toInt from by omega]
      simp only [vp_updL]
      by_cases e9 : k = i.toNatClampNeg
      · rw [if_pos e9, if_pos (by omega)]
      · rw [if_neg e9, if_neg (by omega)]
        exact (c2 q).2.2 k hk
    · obtain ⟨c1, c2, c3⟩ := h m hm
      rw [zUp2 e]
      refine ⟨c1, fun q => ⟨(c2 q).1, (c2 q).2.1, fun k hk => ?_⟩, c3⟩
      simp only [vp_updL]
      rw [if_neg (by omega)]
      exact (c2 q).2.2 k hk
  · obtain rfl := x2 hr
    obtain rfl := y2 (by omega)
    rw [zUpS]
    exact h
theorem zRel_show {he si gh go gs gd gh2 gd2 : Nat → Int32} {fe : Nat → Nat → Int64} {gc : Nat → Int64} {j : Nat} {s p r r2 v : Int32} {cn nu : Int} (h : zRel he si fe gh go gs gd gc) (hj : j < 8) (hq : 0 ≤ s.toInt → s.toInt ≤ 7 → j = s.toNatClampNeg) (hc : cn = nu)
    (x : (((s.toInt < 0 ∨ 7 < s.toInt) ∨ (p.toInt ≠ -1 ∧ (p.toInt < 0 ∨ cn ≤ p.toInt))) ∧ r.toInt = -1 ∧ v.toInt = (he j).toInt) ∨ ((0 ≤ s.toInt ∧ s.toInt ≤ 7) ∧ p.toInt = -1 ∧ r.toInt = 0 ∧ v.toInt = -1) ∨ ((0 ≤ s.toInt ∧ s.toInt ≤ 7) ∧ (0 ≤ p.toInt ∧ p.toInt < cn) ∧ r.toInt = 1 ∧ v.toInt = p.toInt))
    (y : (((s.toInt < 0 ∨ 7 < s.toInt) ∨ (p.toInt ≠ -1 ∧ (p.toInt < 0 ∨ nu ≤ p.toInt))) ∧ r2.toInt = -1 ∧ gh2 = gh ∧ gd2 = gd) ∨ ((0 ≤ s.toInt ∧ s.toInt ≤ 7) ∧ p.toInt = -1 ∧ r2.toInt = 0 ∧ gh2 = upd gh s.toNatClampNeg 0 ∧ gd2 = upd gd s.toNatClampNeg p) ∨ ((0 ≤ s.toInt ∧ s.toInt ≤ 7) ∧ (0 ≤ p.toInt ∧ p.toInt < nu) ∧ r2.toInt = 1 ∧ gh2 = upd gh s.toNatClampNeg 2 ∧ gd2 = upd gd s.toNatClampNeg p)) : r.toInt = r2.toInt ∧ zRel (va_up he j v) si fe gh2 go gs gd2 gc := by
  subst hc
  rcases x with ⟨a1, a2, a3⟩ | ⟨a1, a2, a3, a4⟩ | ⟨a1, a2, a3, a4⟩
  · rcases y with ⟨b1, b2, rfl, rfl⟩ | ⟨b1, b2, -⟩ | ⟨b1, b2, -⟩
    · obtain rfl : v = he j := Int32.toInt_inj.mp a3
      rw [zUpS]
      exact ⟨by omega, h⟩
    · omega
    · omega
  · rcases y with ⟨b1, -⟩ | ⟨b1, b2, b3, rfl, rfl⟩ | ⟨b1, b2, -⟩
    · omega
    · obtain rfl := hq a1.1 a1.2
      refine ⟨by omega, fun i hi => ?_⟩
      by_cases e : i = s.toNatClampNeg
      · rw [e, zUp1, zUd1, zUd1]
        exact ⟨fun _ => a4, fun q => absurd q (by decide), fun q => absurd q (by decide)⟩
      · rw [zUp2 e, zUd2 e, zUd2 e]
        exact h i hi
    · omega
  · rcases y with ⟨b1, -⟩ | ⟨b1, b2, -⟩ | ⟨b1, b2, b3, rfl, rfl⟩
    · omega
    · omega
    · obtain rfl := hq a1.1 a1.2
      refine ⟨by omega, fun i hi => ?_⟩
      by_cases e : i = s.toNatClampNeg
      · rw [e, zUp1, zUd1, zUd1]
        exact ⟨fun q => absurd q (by decide), fun q => absurd q (by decide), fun _ => a4⟩
      · rw [zUp2 e, zUd2 e, zUd2 e]
        exact h i hi
/-- copy: answers alike, and the cells -/
theorem zRel_copR {he si gh go gs gd : Nat → Int32} {fe : Nat → Nat → Int64} {gc : Nat → Int64} {j l : Nat} {s q : Int32} {i k n : Int} (h : zRel he si fe gh go gs gd gc) (hd : zHS gh gd) (hg : zRg gh 0 2) (ho : zRg go 0 3) (hq : 0 ≤ s.toInt → s.toInt ≤ 7 → j = s.toNatClampNeg) (hj : j < 8) (hq2 : 0 ≤ q.toInt → q.toInt ≤ 7 → l = q.toNatClampNeg) (hl : l < 8) : zCopR s.toInt q.toInt (he j).toInt (he l).toInt (si j).toInt (si l).toInt i k n = zCopR s.toInt q.toInt (zH2 (gh s.toNatClampNeg).toInt (go s.toNatClampNeg).toInt) (zH2 (gh q.toNatClampNeg).toInt (go q.toNatClampNeg).toInt) (gs s.toNatClampNeg).toInt (gs q.toNatClampNeg).toInt i k n := by
  by_cases hs : (0 ≤ s.toInt ∧ s.toInt ≤ 7) ∧ 0 ≤ q.toInt ∧ q.toInt ≤ 7
  · obtain rfl := hq hs.1.1 hs.1.2
    obtain rfl := hq2 hs.2.1 hs.2.2
    have o1 := ho s.toNatClampNeg
    have o2 := ho q.toNatClampNeg
    have e1 : ∀ j : Nat, j < 8 → ((gh j).toInt = 1 ∧ zH2 (gh j).toInt (go j).toInt = (he j).toInt ∧ 100 ≤ (he j).toInt ∧ (si j).toInt = (gs j).toInt) ∨ ((he j).toInt = -1 ∧ zH2 (gh j).toInt (go j).toInt = -1) ∨ ((0 ≤ (he j).toInt ∧ (he j).toInt < 100) ∧ zH2 (gh j).toInt (go j).toInt = 0) := fun j hj => by
      have o := ho j
      unfold zH2
      rcases zRel_hc h hd hg hj with ⟨a, b, -⟩ | ⟨a, b, -, d⟩ | ⟨a, b, -, -⟩
      · exact Or.inr (Or.inl ⟨b, by rw [if_neg (by omega), if_pos a]⟩)
      · exact Or.inl ⟨a, by rw [if_pos a]; omega, by omega, d⟩
      · exact Or.inr (Or.inr ⟨by omega, by rw [if_neg (by omega), if_neg (by omega)]⟩)
    have f1 := e1 _ hj
    have f2 := e1 _ hl
    clear hq hq2 e1 h hd hg ho o1 o2
    unfold zCopR
    rcases f1 with ⟨-, a, a2, a3⟩ | ⟨a, a2⟩ | ⟨a, a2⟩ <;> rcases f2 with ⟨-, b, b2, b3⟩ | ⟨b, b2⟩ | ⟨b, b2⟩
    · rw [a, b, a3, b3]
    all_goals (repeat (first | rw [if_pos (by omega)] | rw [if_neg (by omega)]))
  · unfold zCopR
    by_cases c1 : s.toInt < 0
    · rw [if_pos c1, if_pos c1]
    by_cases c2 : 7 < s.toInt
    · rw [if_neg c1, if_pos c2, if_neg c1, if_pos c2]
    by_cases c3 : q.toInt < 0
    · rw [if_neg c1, if_neg c2, if_pos c3, if_neg c1, if_neg c2, if_pos c3]
    by_cases c4 : 7 < q.toInt
    · rw [if_neg c1, if_neg c2, if_neg c3, if_pos c4, if_neg c1, if_neg c2, if_neg c3, if_pos c4]
    exfalso; omega
theorem zRel_copy {he si gh go gs gd : Nat → Int32} {fe : Nat → Nat → Int64} {gc gc2 g : Nat → Int64} {j l : Nat} {s q i k n r r2 : Int32} (h : zRel he si fe gh go gs gd gc) (hd : zHS gh gd) (hg : zRg gh 0 2) (ho : zRg go 0 3) (hhe : zRg he (-1) 103) (hsi : zRg si 0 160) (hq : 0 ≤ s.toInt → s.toInt ≤ 7 → j = s.toNatClampNeg) (hj : j < 8) (hq2 : 0 ≤ q.toInt → q.toInt ≤ 7 → l = q.toNatClampNeg) (hl : l < 8)
    (x0 : r.toInt = zCopR s.toInt q.toInt (he j).toInt (he l).toInt (si j).toInt (si l).toInt i.toInt k.toInt n.toInt) (x1 : r.toInt = 1 → g = va_cpy (fe j) (fe l) i.toNatClampNeg k.toNatClampNeg n.toNatClampNeg) (x2 : r.toInt ≠ 1 → g = fe l)
    (y0 : r2.toInt = zCopR s.toInt q.toInt (zH2 (gh s.toNatClampNeg).toInt (go s.toNatClampNeg).toInt) (zH2 (gh q.toNatClampNeg).toInt (go q.toNatClampNeg).toInt) (gs s.toNatClampNeg).toInt (gs q.toNatClampNeg).toInt i.toInt k.toInt n.toInt) (y1 : r2.toInt = 1 → ∀ m : Nat, gc2 m = (if 160 * q.toInt + k.toInt ≤ (m : Int) ∧ (m : Int) < 160 * q.toInt + k.toInt + n.toInt then gc (160 * s.toInt + i.toInt + ((m : Int) - (160 * q.toInt + k.toInt))).toNat else gc m)) (y2 : r2.toInt ≠ 1 → gc2 = gc) : r.toInt = r2.toInt ∧ zRel he si (va_up fe l g) gh go gs gd gc2 := by
  have hrr : r.toInt = r2.toInt := by rw [x0, y0]; exact zRel_copR h hd hg ho hq hj hq2 hl
  refine ⟨hrr, ?_⟩
  by_cases hr : r.toInt = 1
  · obtain rfl := x1 hr
    have y1 := y1 (by omega)
    have t1 := hhe j
    have t2 := hhe l
    obtain ⟨z1, z2, z3, z4, z5, z6, z7, z8, z9⟩ := zCopR_1 (x0.symm.trans hr) t1.1 t2.1
    obtain rfl := hq z1.1 z1.2
    obtain rfl := hq2 z2.1 z2.2
    have e1 : s.toNatClampNeg = s.toInt.toNat := rfl
    have e2 : i.toNatClampNeg = i.toInt.toNat := rfl
    have e3 : q.toNatClampNeg = q.toInt.toNat := rfl
    have e4 : k.toNatClampNeg = k.toInt.toNat := rfl
    have e5 : n.toNatClampNeg = n.toInt.toNat := rfl
    have k1 := hsi s.toNatClampNeg
    have k2 := hsi q.toNatClampNeg
    have o1 := ho s.toNatClampNeg
    have hs1 : (gh s.toNatClampNeg).toInt = 1 := by
      rcases zRel_hc h hd hg hj with ⟨a, b, -⟩ | ⟨a, -⟩ | ⟨a, b, -⟩
      · omega
      · exact a
      · omega
    intro m hm
    obtain ⟨c1, c2, c3⟩ := h m hm
    by_cases e : m = q.toNatClampNeg
    · subst e
      rw [zUp1]
      refine ⟨c1, fun w => ⟨(c2 w).1, (c2 w).2.1, fun t ht => ?_⟩, c3⟩
      rw [y1]
      simp only [va_cpy]
      by_cases e9 : k.toNatClampNeg ≤ t ∧ t < k.toNatClampNeg + n.toNatClampNeg
      · rw [if_pos e9, if_pos (by omega), ((h s.toNatClampNeg hj).2.1 hs1).2.2 _ (by omega)]
        congr 1
        omega
      · rw [if_neg e9, if_neg (by omega)]
        exact (c2 w).2.2 t ht
    · rw [zUp2 e]
      refine ⟨c1, fun w => ⟨(c2 w).1, (c2 w).2.1, fun t ht => ?_⟩, c3⟩
      rw [y1, if_neg (by omega)]
      exact (c2 w).2.2 t ht
  · obtain rfl := x2 hr
    obtain rfl := y2 (by omega)
    rw [zUpS]
    exact h
theorem zRel_rest {he si gh go gs gd gh2 he2 : Nat → Int32} {fe : Nat → Nat → Int64} {gc : Nat → Int64} {p : Int} (h : zRel he si fe gh go gs gd gc) (hg : zRg gh 0 2) (ho : zRg go 0 3) (hd : zHS gh gd) (x : ∀ j : Nat, j < 8 → ((p ≤ (he j).toInt ∧ (he j).toInt < 100) ∧ (he2 j).toInt = -1) ∨ (¬ (p ≤ (he j).toInt ∧ (he j).toInt < 100) ∧ (he2 j).toInt = (he j).toInt)) (h0 : 0 ≤ p) (y : ∀ j : Nat, j < 8 → gh2 j = (if (gh j).toInt = 2 ∧ p ≤ (gd j).toInt then 0 else gh j)) : zRel he2 si fe gh2 go gs gd gc := by
  intro j hj
  obtain ⟨c1, c2, c3⟩ := h j hj
  have o := ho j
  have d := hg j
  rw [y j hj]
  by_cases e : (gh j).toInt = 2 ∧ p ≤ (gd j).toInt
  · rw [if_pos e]
    have f := c3 e.1
    have f2 := hd j e.1
    rcases x j hj with ⟨a, b⟩ | ⟨a, b⟩
    · exact ⟨fun _ => b, fun q => absurd q (by decide), fun q => absurd q (by decide)⟩
    · omega
  · rw [if_neg e]
    rcases x j hj with ⟨a, b⟩ | ⟨a, b⟩
    · refine ⟨fun _ => b, fun q => ?_, fun q => ?_⟩
      · have := (c2 q).1; omega
      · have := c3 q; omega
    · exact ⟨fun q => by rw [b]; exact c1 q, fun q => ⟨by rw [b]; exact (c2 q).1, (c2 q).2⟩, fun q => by rw [b]; exact c3 q⟩
theorem zRel_let {he si gh go gs gd : Nat → Int32} {fe : Nat → Nat → Int64} {gc : Nat → Int64} {j : Nat} {s : Int32} (h : zRel he si fe gh go gs gd gc) (hd : zHS gh gd) (hg : zRg gh 0 2) (ho : zRg go 0 3) (hsi : zRg si 0 160) (hj : j < 8) (hq : 0 ≤ s.toInt → s.toInt ≤ 7 → j = s.toNatClampNeg) : (0 ≤ s.toInt ∧ s.toInt ≤ 7) → (((he j).toInt = -1 ∧ zHc (gh s.toNatClampNeg).toInt = -1) ∨ ((0 ≤ (he j).toInt ∧ (he j).toInt < 100) ∧ 0 ≤ zHc (gh s.toNatClampNeg).toInt ∧ zHc (gh s.toNatClampNeg).toInt < 100) ∨ (100 ≤ (he j).toInt ∧ 100 ≤ zHc (gh s.toNatClampNeg).toInt ∧ (si j).toInt = (gs s.toNatClampNeg).toInt ∧ 0 ≤ (si j).toInt ∧ ∀ t : Int, 0 ≤ t → t < (si j).toInt → (fe j t.toNat).toInt32 = zMF gc (160 * s.toInt) t.toNat)) := by
  intro hs
  obtain rfl := hq hs.1 hs.2
  have e1 : s.toNatClampNeg = s.toInt.toNat := rfl
  have o := ho s.toNatClampNeg
  have k1 := hsi s.toNatClampNeg
  rcases zRel_hc h hd hg hj with ⟨a, b, c⟩ | ⟨a, b, c, d⟩ | ⟨a, b, c, d⟩
  · exact Or.inl ⟨b, c⟩
  · refine Or.inr (Or.inr ⟨by omega, by omega, d, by omega, fun t h1 h2 => ?_⟩)
    rw [((h _ hj).2.1 a).2.2 t.toNat (by omega)]
    unfold zMF zChX
    congr 2
    omega
  · exact Or.inr (Or.inl ⟨by omega, by omega, by omega⟩)
theorem zjq2 (sh : Nat → Nat) (a : Int32) : ∃ j : Nat, j < 8 ∧ (0 ≤ a.toInt → a.toInt ≤ 7 → zS sh a.toNatClampNeg = some (sh j)) ∧ (0 ≤ a.toInt → a.toInt ≤ 7 → j = a.toNatClampNeg) := by
  have e : a.toNatClampNeg = a.toInt.toNat := rfl
  by_cases h : 0 ≤ a.toInt ∧ a.toInt ≤ 7
  · have h1 : a.toNatClampNeg < 8 := by omega
    exact ⟨a.toNatClampNeg, h1, fun _ _ => by simp [zS, h1], fun _ _ => rfl⟩
  · exact ⟨0, by omega, fun h1 h2 => absurd ⟨h1, h2⟩ h, fun h1 h2 => absurd ⟨h1, h2⟩ h⟩
theorem zRel_ext {he si he2 si2 gh go gs gd : Nat → Int32} {fe : Nat → Nat → Int64} {gc : Nat → Int64} (h : zRel he si fe gh go gs gd gc) (h1 : ∀ j : Nat, j < 8 → he2 j = he j) (h2 : ∀ j : Nat, j < 8 → si2 j = si j) : zRel he2 si2 fe gh go gs gd gc := by
  intro j hj
  rw [h1 j hj, h2 j hj]
  exact h j hj
theorem zRel_hoR {he si gh go gs gd : Nat → Int32} {fe : Nat → Nat → Int64} {gc : Nat → Int64} {j : Nat} {s : Int32} (h : zRel he si fe gh go gs gd gc) (hd : zHS gh gd) (hg : zRg gh 0 2) (hj : j < 8) (hq : 0 ≤ s.toInt → s.toInt ≤ 7 → j = s.toNatClampNeg) : (0 ≤ s.toInt ∧ s.toInt ≤ 7) → zHe (gh s.toNatClampNeg).toInt (go s.toNatClampNeg).toInt (gd s.toNatClampNeg).toInt = (he j).toInt := by
  intro hs
  obtain rfl := hq hs.1 hs.2
  unfold zHe
  rcases zRel_hc h hd hg hj with ⟨a, b, -⟩ | ⟨a, b, -⟩ | ⟨a, -, -, b⟩
  · rw [if_pos a]; omega
  · rw [if_neg (by omega), if_pos a]; omega
  · rw [if_neg (by omega), if_neg (by omega)]; omega
theorem zRel_elR {he si gh go gs gd : Nat → Int32} {fe : Nat → Nat → Int64} {gc : Nat → Int64} {j : Nat} {s i : Int32} (h : zRel he si fe gh go gs gd gc) (hd : zHS gh gd) (hg : zRg gh 0 2) (ho : zRg go 0 3) (hsi : zRg si 0 160) (hj : j < 8) (hq : 0 ≤ s.toInt → s.toInt ≤ 7 → j = s.toNatClampNeg) : (if (0 ≤ s.toInt ∧ s.toInt ≤ 7) ∧ 100 ≤ (he j).toInt ∧ 0 ≤ i.toInt ∧ i.toInt < (si j).toInt then fe j i.toNatClampNeg else 0) = (if (0 ≤ s.toInt ∧ s.toInt ≤ 7) ∧ (gh s.toNatClampNeg).toInt = 1 ∧ 0 ≤ i.toInt ∧ i.toInt < (gs s.toNatClampNeg).toInt then gc (160 * s.toInt + i.toInt).toNat else 0) := by
  by_cases hs : 0 ≤ s.toInt ∧ s.toInt ≤ 7
  · obtain rfl := hq hs.1 hs.2
    have o := ho s.toNatClampNeg
    have k1 := hsi s.toNatClampNeg
    have e1 : s.toNatClampNeg = s.toInt.toNat := rfl
    have e2 : i.toNatClampNeg = i.toInt.toNat := rfl
    rcases zRel_hc h hd hg hj with ⟨a, b, -⟩ | ⟨a, b, -, d⟩ | ⟨a, b, -⟩
    · rw [if_neg (by omega), if_neg (by omega)]
    · by_cases hi : 0 ≤ i.toInt ∧ i.toInt < (si s.toNatClampNeg).toInt
      · rw [if_pos ⟨hs, by omega, hi⟩, if_pos ⟨hs, a, by omega⟩, ((h _ hj).2.1 a).2.2 _ (by omega)]
        congr 1
        omega
      · rw [if_neg (by omega), if_neg (by omega)]
    · rw [if_neg (by omega), if_neg (by omega)]
  · rw [if_neg (fun z => hs z.1), if_neg (fun z => hs z.1)]
theorem zAs {N R S P : va_W} : (N ++ R) ++ (S ++ P) = N ++ ((R ++ S) ++ P) := by simp
end
section
/-! the two worlds' teeth, pulls and numbers, side by side -/
theorem zRgo_pre {f : Nat → Int32} {e te pu : Int} {k : Nat} {z : Int × Int × Int} (h : zRgo f e te pu (k + 1) = some z) : ∃ p t u : Int, zRgo f e te pu k = some (p, t, u) ∧ (zItem f e p t u).1 = -1 := by
  rw [zRgo_s] at h
  cases e1 : zRgo f e te pu k with
  | none => rw [e1] at h; cases h
  | some q =>
    obtain ⟨p, t, u⟩ := q
    rw [e1] at h
    dsimp only at h
    by_cases c : (zItem f e p t u).1 = -1 ∧ (zItem f e p t u).2.1 < e ∧ (f (zItem f e p t u).2.1.toNat).toInt = 59
    · exact ⟨p, t, u, rfl, c.1⟩
    · rw [if_neg c] at h; cases h
theorem zRgo_all {f : Nat → Int32} {e te pu : Int} : ∀ (k : Nat) (z : Int × Int × Int), zRgo f e te pu k = some z → ∀ i : Nat, i < k → ∃ p t u : Int, zRgo f e te pu i = some (p, t, u) ∧ (zItem f e p t u).1 = -1 := by
  intro k
  induction k with
  | zero => intro z _ i hi; omega
  | succ k ih =>
    intro z h i hi
    obtain ⟨p, t, u, h1, h2⟩ := zRgo_pre h
    rcases Nat.lt_or_ge i k with h3 | h3
    · exact ih _ h1 i h3
    · obtain rfl : i = k := by omega
      exact ⟨p, t, u, h1, h2⟩
/-- told alike, the items are the same -/
theorem zJac_dd {f g : Nat → Int32} {si s he lf cn sz r lf2 cn2 sz2 si' he' : Int} (h : zJac f si s he lf cn sz r lf2 cn2 sz2) (h1 : (0 ≤ s ∧ s ≤ 7) → ((he = -1 ∧ he' = -1) ∨ ((0 ≤ he ∧ he < 100) ∧ 0 ≤ he' ∧ he' < 100) ∨ (100 ≤ he ∧ 100 ≤ he' ∧ si = si' ∧ 0 ≤ si ∧ ∀ j : Int, 0 ≤ j → j < si → f j.toNat = g j.toNat))) (ht : 4 ≤ sz ∧ sz ≤ 40) (hu : 0 ≤ cn ∧ cn ≤ 8) (hr : 1 ≤ r) : ∀ k : Nat, k < r.toNat → zSm (zDI f si sz cn k) (zDI g si' sz cn k) := by
  intro k hk
  unfold zJac at h
  rcases h with h | h | h | ⟨hs, hh, n, R, T, U, hE, h⟩
  · omega
  · omega
  · omega
  · rcases h1 hs with h2 | h2 | ⟨-, -, rfl, h0, h2⟩
    · omega
    · omega
    · rcases h with h | h
      · omega
      · obtain ⟨p, t, u, e1, e2⟩ := hE
        have ok : ∃ p t u : Int, zRgo f si sz cn k = some (p, t, u) ∧ (zItem f si p t u).1 = -1 := by
          rcases Nat.lt_or_ge k n with h3 | h3
          · exact zRgo_all n _ e1 k h3
          · obtain rfl : k = n := by omega
            refine ⟨p, t, u, e1, ?_⟩
            rcases e2 with ⟨a, b⟩ | ⟨a, -⟩ | ⟨a, -⟩
            · exact absurd (b ▸ h.1 : (zItem f si p t u).1 = -1) a
            · exact a
            · exact a
        obtain ⟨p2, t2, u2, a1, a2⟩ := ok
        rw [zDI_congr h2 h0 ht hu a1 a2]
        exact zSm.rfl
theorem zAll_at {fk fp ft fl fs fc : Nat → Int32} {i0 i1 i2 i3 i4 i5 i6 i7 i8 : Int32} : (∀ j : Nat, j < 8 → zAll fk fp ft fl fs fc i0 i1 i2 i3 i4 i5 i6 i7 i8 (0 + j) = fk j) ∧ (∀ j : Nat, j < 8 → zAll fk fp ft fl fs fc i0 i1 i2 i3 i4 i5 i6 i7 i8 (8 + j) = fp j) ∧ (∀ j : Nat, j < 8 → zAll fk fp ft fl fs fc i0 i1 i2 i3 i4 i5 i6 i7 i8 (16 + j) = ft j) ∧ (∀ j : Nat, j < 40 → zAll fk fp ft fl fs fc i0 i1 i2 i3 i4 i5 i6 i7 i8 (24 + j) = fl j) ∧ (∀ j : Nat, j < 40 → zAll fk fp ft fl fs fc i0 i1 i2 i3 i4 i5 i6 i7 i8 (64 + j) = fs j) ∧ (∀ j : Nat, j < 3 → zAll fk fp ft fl fs fc i0 i1 i2 i3 i4 i5 i6 i7 i8 (104 + j) = fc j) := by
  refine ⟨fun j hj => ?_, fun j hj => ?_, fun j hj => ?_, fun j hj => ?_, fun j hj => ?_, fun j hj => ?_⟩ <;> unfold zAll <;> ((repeat (first | rw [if_pos (by omega)] | rw [if_neg (by omega)])) <;> congr 1; omega)
/-- the pulls' numbers of both, and the hurry -/
def zTp (K A T gk ga gt : Nat → Int32) (hu nh : Int32) : Prop := (∀ j : Nat, j < 8 → K j = gk j ∧ A j = ga j ∧ T j = gt j) ∧ hu.toInt = nh.toInt
def zTq (K A T ge : Nat → Int32) (hu : Int32) : Prop := (∀ j : Nat, j < 8 → K j = ge (0 + j) ∧ A j = ge (8 + j) ∧ T j = ge (16 + j)) ∧ hu.toInt = (ge 113).toInt
theorem zTp_pull {K A T gk ga gt K2 A2 T2 gk2 ga2 gt2 : Nat → Int32} {hu nh cn np ki a t r q : Int32} (h : zTp K A T gk ga gt hu nh) (hc : cn.toInt = np.toInt) (hr : r.toInt = q.toInt) (x : (r.toInt < 0 ∧ K2 = K ∧ A2 = A ∧ T2 = T) ∨ (0 ≤ r.toInt ∧ K2 = upd K cn.toNatClampNeg ki ∧ A2 = upd A cn.toNatClampNeg a ∧ T2 = upd T cn.toNatClampNeg t)) (y : (q.toInt < 0 ∧ gk2 = gk ∧ ga2 = ga ∧ gt2 = gt) ∨ (0 ≤ q.toInt ∧ gk2 = upd gk np.toNatClampNeg ki ∧ ga2 = upd ga np.toNatClampNeg a ∧ gt2 = upd gt np.toNatClampNeg t)) : zTp K2 A2 T2 gk2 ga2 gt2 hu nh := by
  obtain rfl : cn = np := Int32.toInt_inj.mp hc
  obtain ⟨h1, h2⟩ := h
  refine ⟨?_, h2⟩
  rcases x with ⟨a1, rfl, rfl, rfl⟩ | ⟨a1, rfl, rfl, rfl⟩ <;> rcases y with ⟨b1, rfl, rfl, rfl⟩ | ⟨b1, rfl, rfl, rfl⟩
  · exact h1
  · omega
  · omega
  · intro j hj
    obtain ⟨z1, z2, z3⟩ := h1 j hj
    simp only [upd]
    split
    · exact ⟨rfl, rfl, rfl⟩
    · exact ⟨z1, z2, z3⟩
theorem zTp_ask {K A T gk ga gt : Nat → Int32} {hu nh hu2 nh2 : Int32} {P Q P2 Q2 : Prop} {w v : Int} {te te2 : Int} {r r2 q q2 : Int} (h : zTp K A T gk ga gt hu nh) (hte : te = te2) (x : (zAsk w v te ∧ r = r2 ∧ P ∧ (hu2.toInt = (if w = 2 then v else hu.toInt)) ∧ P2) ∨ (¬ zAsk w v te ∧ r = -6 ∧ hu2 = hu)) (y : (zAsk w v te2 ∧ q = q2 ∧ Q ∧ (nh2.toInt = (if w = 2 then v else nh.toInt)) ∧ Q2) ∨ (¬ zAsk w v te2 ∧ q = -6 ∧ nh2 = nh)) : zTp K A T gk ga gt hu2 nh2 := by
  obtain ⟨h1, h3⟩ := h
  subst hte
  refine ⟨h1, ?_⟩
  rcases x with ⟨a1, -, -, a2, -⟩ | ⟨a1, -, a2⟩ <;> rcases y with ⟨b1, -, -, b2, -⟩ | ⟨b1, -, b2⟩
  · rw [a2, b2, h3]
  · exact absurd a1 b1
  · exact absurd b1 a1
  · rw [a2, b2, h3]
theorem zTp_jac {K A T gk ga gt K2 A2 T2 gk2 ga2 gt2 : Nat → Int32} {hu nh hu2 nh2 r q : Int32} {d e : Nat → zIt4} {c : Int} (h : zTp K A T gk ga gt hu nh) (hr : r.toInt = q.toInt) (hd : 1 ≤ r.toInt → ∀ k : Nat, k < r.toInt.toNat → zSm (d k) (e k))
    (x0 : 1 ≤ r.toInt → ∀ j : Nat, j < 8 → K2 j = zRk d c K r.toInt.toNat j ∧ A2 j = zRa d c A r.toInt.toNat j ∧ T2 j = zRt d c T r.toInt.toNat j) (x2 : 1 ≤ r.toInt → hu2.toInt = zRn 6 d hu.toInt r.toInt.toNat) (x3 : r.toInt < 1 → K2 = K ∧ A2 = A ∧ T2 = T ∧ hu2 = hu)
    (y0 : 1 ≤ q.toInt → gk2 = zRk e c gk q.toInt.toNat ∧ ga2 = zRa e c ga q.toInt.toNat ∧ gt2 = zRt e c gt q.toInt.toNat) (y2 : 1 ≤ q.toInt → nh2.toInt = zRn 6 e nh.toInt q.toInt.toNat) (y3 : q.toInt < 1 → (∀ j : Nat, j < 8 → gk2 j = gk j ∧ ga2 j = ga j ∧ gt2 j = gt j) ∧ nh2 = nh) : zTp K2 A2 T2 gk2 ga2 gt2 hu2 nh2 := by
  obtain ⟨h1, h3⟩ := h
  rw [← hr] at y0 y2 y3
  by_cases c9 : 1 ≤ r.toInt
  · have hd := hd c9
    obtain ⟨rfl, rfl, rfl⟩ := y0 c9
    refine ⟨fun j hj => ?_, ?_⟩
    · obtain ⟨z1, z2, z3⟩ := x0 c9 j hj
      rw [z1, z2, z3]
      exact ⟨zRk_sm hd (fun j hj => (h1 j hj).1) j hj, zRa_sm hd (fun j hj => (h1 j hj).2.1) j hj, zRt_sm hd (fun j hj => (h1 j hj).2.2) j hj⟩
    · rw [x2 c9, y2 c9]; exact zRn_sm hd h3
  · obtain ⟨rfl, rfl, rfl, a4⟩ := x3 (by omega)
    obtain ⟨b1, b2⟩ := y3 (by omega)
    rw [a4, b2]
    exact ⟨fun j hj => by obtain ⟨z1, z2, z3⟩ := h1 j hj; obtain ⟨w1, w2, w3⟩ := b1 j hj; exact ⟨z1.trans w1.symm, z2.trans w2.symm, z3.trans w3.symm⟩, h3⟩
theorem zTp_image {K A T gk ga gt ge : Nat → Int32} {hu nh khu : Int32} (h : zTp K A T gk ga gt hu nh) (x : khu = hu) (y0 : ∀ j : Nat, j < 8 → ge (0 + j) = gk j) (y1 : ∀ j : Nat, j < 8 → ge (8 + j) = ga j) (y2 : ∀ j : Nat, j < 8 → ge (16 + j) = gt j) (y3 : ge 113 = nh) : zTq K A T ge khu := by
  obtain ⟨h1, h2⟩ := h
  exact ⟨fun j hj => by rw [y0 j hj, y1 j hj, y2 j hj]; exact h1 j hj, by rw [x, y3, h2]⟩
theorem zTp_rest {K A T gk ga gt K2 A2 T2 gk2 ga2 gt2 KK KA KT ge : Nat → Int32} {hu nh hu2 nh2 khu im nik : Int32} (h : zTp K A T gk ga gt hu nh) (hk : nik.toInt = 1 → zTq KK KA KT ge khu) (hi : im.toInt = nik.toInt) (hb : 0 ≤ nik.toInt ∧ nik.toInt ≤ 1) (g : (im.toInt = 0 ∧ K2 = K ∧ A2 = A ∧ T2 = T) ∨ (im.toInt ≠ 0 ∧ K2 = KK ∧ A2 = KA ∧ T2 = KT)) (x : (im.toInt = 0 ∧ hu2 = hu) ∨ (im.toInt ≠ 0 ∧ hu2 = khu)) (y : (nik.toInt = 0 ∧ gk2 = gk ∧ ga2 = ga ∧ gt2 = gt ∧ nh2 = nh) ∨ (nik.toInt ≠ 0 ∧ (∀ j : Nat, j < 8 → gk2 j = ge (0 + j)) ∧ (∀ j : Nat, j < 8 → ga2 j = ge (8 + j)) ∧ (∀ j : Nat, j < 8 → gt2 j = ge (16 + j)) ∧ nh2 = ge 113)) : zTp K2 A2 T2 gk2 ga2 gt2 hu2 nh2 := by
  rcases g with ⟨g0, rfl, rfl, rfl⟩ | ⟨g0, rfl, rfl, rfl⟩ <;> rcases y with ⟨b0, rfl, rfl, rfl, b4⟩ | ⟨b0, b1, b2, b3, b4⟩
  · rcases x with ⟨-, x⟩ | ⟨x1, -⟩
    · rw [x, b4]; exact h
    · omega
  · omega
  · omega
  · rcases x with ⟨x1, -⟩ | ⟨-, x⟩
    · omega
    · obtain ⟨k1, k2⟩ := hk (by omega)
      exact ⟨fun j hj => by rw [b1 j hj, b2 j hj, b3 j hj]; exact k1 j hj, by rw [x, b4, k2]⟩
end
section
/-! what the calls that hang on the pulls' kinds answer in both worlds -/
theorem zTp_frees {K A T gk ga gt : Nat → Int32} {hu nh cn np p d w r q : Int32} (h : zTp K A T gk ga gt hu nh) (hc : cn.toInt = np.toInt) (h8 : cn.toInt ≤ 8)
    (x : ((p.toInt < 0 ∨ cn.toInt ≤ p.toInt) ∧ r.toInt = -1) ∨ ((0 ≤ p.toInt ∧ p.toInt < cn.toInt) ∧ (((w.toInt < 0 ∨ 2 < w.toInt) ∧ r.toInt = -5) ∨ ((0 ≤ w.toInt ∧ w.toInt ≤ 2) ∧ (((d.toInt < 1 ∨ 24 < d.toInt) ∧ r.toInt = -6) ∨ ((1 ≤ d.toInt ∧ d.toInt ≤ 24) ∧ r.toInt = (if w.toInt = 0 then zWy (K p.toNatClampNeg).toInt (A p.toNatClampNeg).toInt hu.toInt d.toInt else if w.toInt = 1 then zShl (K p.toNatClampNeg).toInt (A p.toNatClampNeg).toInt d.toInt else zDpr (K p.toNatClampNeg).toInt (A p.toNatClampNeg).toInt hu.toInt d.toInt)))))))
    (y : ((p.toInt < 0 ∨ np.toInt ≤ p.toInt) ∧ q.toInt = -1) ∨ ((0 ≤ p.toInt ∧ p.toInt < np.toInt) ∧ (((w.toInt < 0 ∨ 2 < w.toInt) ∧ q.toInt = -5) ∨ ((0 ≤ w.toInt ∧ w.toInt ≤ 2) ∧ (((d.toInt < 1 ∨ 24 < d.toInt) ∧ q.toInt = -6) ∨ ((1 ≤ d.toInt ∧ d.toInt ≤ 24) ∧ q.toInt = (if w.toInt = 0 then zWy (gk p.toNatClampNeg).toInt (ga p.toNatClampNeg).toInt nh.toInt d.toInt else if w.toInt = 1 then zShl (gk p.toNatClampNeg).toInt (ga p.toNatClampNeg).toInt d.toInt else zDpr (gk p.toNatClampNeg).toInt (ga p.toNatClampNeg).toInt nh.toInt d.toInt))))))) : r.toInt = q.toInt := by
  obtain ⟨h1, h2⟩ := h
  by_cases c : 0 ≤ p.toInt ∧ p.toInt < cn.toInt
  · obtain ⟨z1, z2, -⟩ := h1 p.toNatClampNeg (by have : p.toNatClampNeg = p.toInt.toNat := rfl; omega)
    rw [z1, z2, h2] at x
    rcases x with x | ⟨-, x⟩
    · omega
    · rcases y with y | ⟨-, y⟩
      · omega
      · rcases x with x | ⟨x0, x⟩ <;> rcases y with y | ⟨y0, y⟩
        · omega
        · omega
        · omega
        · rcases x with x | ⟨x1, x⟩ <;> rcases y with y | ⟨y1, y⟩
          · omega
          · omega
          · omega
          · exact x.trans y.symm
  · rcases x with x | x
    · rcases y with y | y
      · omega
      · exact absurd y.1 (by omega)
    · exact absurd x.1 c
/-- a belief on the same shelf, in both worlds -/
theorem zRel_bq {he si gh go gs gd : Nat → Int32} {fe : Nat → Nat → Int64} {gc : Nat → Int64} {j : Nat} {s : Int32} (h : zRel he si fe gh go gs gd gc) (hd : zHS gh gd) (hg : zRg gh 0 2) (ho : zRg go 0 3) (hsi : zRg si 0 160) (hj : j < 8) (hq : 0 ≤ s.toInt → s.toInt ≤ 7 → j = s.toNatClampNeg) : (0 ≤ s.toInt ∧ s.toInt ≤ 7) → ∀ q1 q2 : Int, zBelR (he j).toInt (si j).toInt (fe j) q1 → zBelR (zHc (gh s.toNatClampNeg).toInt) (gs s.toNatClampNeg).toInt (zRw gc (160 * s.toInt)) q2 → q1 = q2 ∧ (q1 = 0 → ∀ i : Nat, i < 25 → fe j i = zRw gc (160 * s.toInt) i) := by
  intro hs q1 q2 x y
  obtain rfl := hq hs.1 hs.2
  have e1 : s.toNatClampNeg = s.toInt.toNat := rfl
  have o := ho s.toNatClampNeg
  rcases zRel_hc h hd hg hj with ⟨a, b, c⟩ | ⟨a, b, c, d⟩ | ⟨a, b, c, -⟩
  · have z1 : q1 = 3 := by unfold zBelR at x; omega
    have z2 : q2 = 3 := by unfold zBelR at y; omega
    exact ⟨by omega, fun z => by omega⟩
  · have hc : ∀ i : Nat, i < 25 → fe s.toNatClampNeg i = zRw gc (160 * s.toInt) i := fun i hi => by
      rw [((h _ hj).2.1 a).2.2 i (by omega)]
      unfold zRw
      congr 1
      omega
    refine ⟨?_, fun _ => hc⟩
    have x2 : zBelR (zHc (gh s.toNatClampNeg).toInt) (gs s.toNatClampNeg).toInt (zRw gc (160 * s.toInt)) q1 := by
      unfold zBelR at x ⊢
      rw [zBel_congr hc] at x
      rcases x with x | x | x | x | x
      · exfalso; omega
      · exfalso; omega
      · exact Or.inr (Or.inr (Or.inl ⟨by omega, by omega, x.2.2⟩))
      · exact Or.inr (Or.inr (Or.inr (Or.inl ⟨by omega, by omega, x.2.2.1, x.2.2.2⟩)))
      · exact Or.inr (Or.inr (Or.inr (Or.inr ⟨by omega, by omega, x.2.2.1, x.2.2.2⟩)))
    exact zBelR_one x2 y
  · have z1 : q1 = 2 := by unfold zBelR at x; omega
    have z2 : q2 = 2 := by unfold zBelR at y; omega
    exact ⟨by omega, fun z => by omega⟩
/-- an answer by a belief: first whether it may be -/
theorem zBq {s : Int32} {h1 s1 h2 s2 : Int} {c1 c2 : Nat → Int64} {G1 G2 : Prop} {f : Int → Int} {r r2 : Int} (hs : 0 ≤ s.toInt ∧ s.toInt ≤ 7) (hb : (0 ≤ s.toInt ∧ s.toInt ≤ 7) → ∀ q1 q2 : Int, zBelR h1 s1 c1 q1 → zBelR h2 s2 c2 q2 → q1 = q2 ∧ (q1 = 0 → ∀ i : Nat, i < 25 → c1 i = c2 i)) (x : ∃ q : Int, zBelR h1 s1 c1 q ∧ ((q ≠ 0 ∧ r = f q) ∨ (q = 0 ∧ G1))) (y : ∃ q : Int, zBelR h2 s2 c2 q ∧ ((q ≠ 0 ∧ r2 = f q) ∨ (q = 0 ∧ G2))) (hg : (∀ i : Nat, i < 25 → c1 i = c2 i) → G1 → G2 → r = r2) : r = r2 := by
  obtain ⟨q1, x1, x2⟩ := x
  obtain ⟨q2, y1, y2⟩ := y
  obtain ⟨e, hc⟩ := hb hs q1 q2 x1 y1
  subst e
  rcases x2 with ⟨x2, x3⟩ | ⟨x2, x3⟩ <;> rcases y2 with ⟨y2, y3⟩ | ⟨y2, y3⟩
  · rw [x3, y3]
  · exact absurd y2 x2
  · exact absurd x2 y2
  · exact hg (hc x2) x3 y3
theorem zTp_freed {K A T gk ga gt : Nat → Int32} {hu nh cn np s p r r2 : Int32} {h1 s1 h2 s2 : Int} {c1 c2 : Nat → Int64} (h : zTp K A T gk ga gt hu nh) (hc : cn.toInt = np.toInt) (h8 : cn.toInt ≤ 8) (hb : (0 ≤ s.toInt ∧ s.toInt ≤ 7) → ∀ q1 q2 : Int, zBelR h1 s1 c1 q1 → zBelR h2 s2 c2 q2 → q1 = q2 ∧ (q1 = 0 → ∀ i : Nat, i < 25 → c1 i = c2 i))
    (x : ((s.toInt < 0 ∨ 7 < s.toInt ∨ p.toInt < 0 ∨ cn.toInt ≤ p.toInt) ∧ r.toInt = -1) ∨ ((0 ≤ s.toInt ∧ s.toInt ≤ 7) ∧ (0 ≤ p.toInt ∧ p.toInt < cn.toInt) ∧ ∃ q : Int, zBelR h1 s1 c1 q ∧ ((q ≠ 0 ∧ r.toInt = -q) ∨ (q = 0 ∧ r.toInt = zFd c1 (K p.toNatClampNeg).toInt (A p.toNatClampNeg).toInt hu.toInt 24))))
    (y : ((s.toInt < 0 ∨ 7 < s.toInt ∨ p.toInt < 0 ∨ np.toInt ≤ p.toInt) ∧ r2.toInt = -1) ∨ ((0 ≤ s.toInt ∧ s.toInt ≤ 7) ∧ (0 ≤ p.toInt ∧ p.toInt < np.toInt) ∧ ∃ q : Int, zBelR h2 s2 c2 q ∧ ((q ≠ 0 ∧ r2.toInt = -q) ∨ (q = 0 ∧ r2.toInt = zFd c2 (gk p.toNatClampNeg).toInt (ga p.toNatClampNeg).toInt nh.toInt 24)))) : r.toInt = r2.toInt := by
  obtain ⟨k1, k2⟩ := h
  rcases x with ⟨x1, x2⟩ | ⟨x1, x2, x3⟩ <;> rcases y with ⟨y1, y2⟩ | ⟨y1, y2, y3⟩
  · omega
  · omega
  · omega
  · obtain ⟨z1, z2, -⟩ := k1 p.toNatClampNeg (by have : p.toNatClampNeg = p.toInt.toNat := rfl; omega)
    exact zBq (f := fun q => -q) x1 hb x3 y3 (fun e a b => by rw [a, b, z1, z2, k2]; exact zFd_congr e 24 (by omega))
theorem zTp_behind {K A T gk ga gt : Nat → Int32} {hu nh cn np s p d r r2 : Int32} {h1 s1 h2 s2 : Int} {c1 c2 : Nat → Int64} (h : zTp K A T gk ga gt hu nh) (hc : cn.toInt = np.toInt) (h8 : cn.toInt ≤ 8) (hb : (0 ≤ s.toInt ∧ s.toInt ≤ 7) → ∀ q1 q2 : Int, zBelR h1 s1 c1 q1 → zBelR h2 s2 c2 q2 → q1 = q2 ∧ (q1 = 0 → ∀ i : Nat, i < 25 → c1 i = c2 i))
    (x : ((s.toInt < 0 ∨ 7 < s.toInt ∨ p.toInt < 0 ∨ cn.toInt ≤ p.toInt) ∧ r.toInt = -1) ∨ ((0 ≤ s.toInt ∧ s.toInt ≤ 7) ∧ (0 ≤ p.toInt ∧ p.toInt < cn.toInt) ∧ ∃ q : Int, zBelR h1 s1 c1 q ∧ ((q ≠ 0 ∧ r.toInt = -q) ∨ (q = 0 ∧ (((d.toInt < 0 ∨ 24 < d.toInt) ∧ r.toInt = -6) ∨ ((0 ≤ d.toInt ∧ d.toInt ≤ 24) ∧ r.toInt = zBh c1 (K p.toNatClampNeg).toInt (A p.toNatClampNeg).toInt hu.toInt d.toInt 24))))))
    (y : ((s.toInt < 0 ∨ 7 < s.toInt ∨ p.toInt < 0 ∨ np.toInt ≤ p.toInt) ∧ r2.toInt = -1) ∨ ((0 ≤ s.toInt ∧ s.toInt ≤ 7) ∧ (0 ≤ p.toInt ∧ p.toInt < np.toInt) ∧ ∃ q : Int, zBelR h2 s2 c2 q ∧ ((q ≠ 0 ∧ r2.toInt = -q) ∨ (q = 0 ∧ (((d.toInt < 0 ∨ 24 < d.toInt) ∧ r2.toInt = -6) ∨ ((0 ≤ d.toInt ∧ d.toInt ≤ 24) ∧ r2.toInt = zBh c2 (gk p.toNatClampNeg).toInt (ga p.toNatClampNeg).toInt nh.toInt d.toInt 24)))))) : r.toInt = r2.toInt := by
  obtain ⟨k1, k2⟩ := h
  rcases x with ⟨x1, x2⟩ | ⟨x1, x2, x3⟩ <;> rcases y with ⟨y1, y2⟩ | ⟨y1, y2, y3⟩
  · omega
  · omega
  · omega
  · obtain ⟨z1, z2, -⟩ := k1 p.toNatClampNeg (by have : p.toNatClampNeg = p.toInt.toNat := rfl; omega)
    refine zBq (f := fun q => -q) x1 hb x3 y3 (fun e a b => ?_)
    rcases a with ⟨a1, a2⟩ | ⟨a1, a2⟩ <;> rcases b with ⟨b1, b2⟩ | ⟨b1, b2⟩
    · omega
    · omega
    · omega
    · rw [a2, b2, z1, z2, k2]; exact zBh_congr e 24 (by omega)
theorem zBst_congr {c e : Nat → Int64} {K A gk ga : Nat → Int32} {h h2 b : Int} {n : Nat} (g : ∀ j : Nat, j < n → zFd c (K j).toInt (A j).toInt h 24 = zFd e (gk j).toInt (ga j).toInt h2 24) (x : zBst c K A h n b) : zBst e gk ga h2 n b := by
  rcases x with x | ⟨p, x1, x2, x3, x4⟩
  · exact Or.inl x
  · refine Or.inr ⟨p, x1, x2, fun j hj => ?_, fun j hj => ?_⟩
    · rw [← g j hj, ← g p x1]; exact x3 j hj
    · rw [← g j (by omega), ← g p x1]; exact x4 j hj
theorem zTp_best {K A T gk ga gt : Nat → Int32} {hu nh cn np s r r2 : Int32} {h1 s1 h2 s2 : Int} {c1 c2 : Nat → Int64} (h : zTp K A T gk ga gt hu nh) (hc : cn.toInt = np.toInt) (h8 : cn.toInt ≤ 8) (hb : (0 ≤ s.toInt ∧ s.toInt ≤ 7) → ∀ q1 q2 : Int, zBelR h1 s1 c1 q1 → zBelR h2 s2 c2 q2 → q1 = q2 ∧ (q1 = 0 → ∀ i : Nat, i < 25 → c1 i = c2 i))
    (x : ((s.toInt < 0 ∨ 7 < s.toInt) ∧ r.toInt = -11) ∨ ((0 ≤ s.toInt ∧ s.toInt ≤ 7) ∧ ∃ q : Int, zBelR h1 s1 c1 q ∧ ((q ≠ 0 ∧ r.toInt = -q - 10) ∨ (q = 0 ∧ zBst c1 K A hu.toInt cn.toInt.toNat r.toInt))))
    (y : ((s.toInt < 0 ∨ 7 < s.toInt) ∧ r2.toInt = -11) ∨ ((0 ≤ s.toInt ∧ s.toInt ≤ 7) ∧ ∃ q : Int, zBelR h2 s2 c2 q ∧ ((q ≠ 0 ∧ r2.toInt = -q - 10) ∨ (q = 0 ∧ zBst c2 gk ga nh.toInt np.toInt.toNat r2.toInt)))) : r.toInt = r2.toInt := by
  obtain ⟨k1, k2⟩ := h
  rcases x with ⟨x1, x2⟩ | ⟨x1, x3⟩ <;> rcases y with ⟨y1, y2⟩ | ⟨y1, y3⟩
  · omega
  · omega
  · omega
  · refine zBq (f := fun q => -q - 10) x1 hb x3 y3 (fun e a b => ?_)
    rw [← hc] at b
    refine zBst_one (zBst_congr (fun j hj => ?_) a) b
    obtain ⟨z1, z2, -⟩ := k1 j (by omega)
    rw [z1, z2, k2]
    exact zFd_congr e 24 (by omega)
/-! a pull that a shelf shows is there -/
end
section
/-! the numbers of both worlds: depth, where, seconds, torn, seed, costs -/
/-! what the calls ahead and in truth answer in both worlds -/
end
section
/-- the runs of both worlds -/
def zMw (mr nr : Int32) (fb gt : Nat → Int32) : Prop := mr.toInt = nr.toInt ∧ ∀ j : Nat, j < 20 → (j : Int) < mr.toInt → fb j = gt j
theorem zMw_act {mr2 nr2 p m x r q cn np : Int32} {fb gt fb2 gt2 K A gk ga T gtk : Nat → Int32} {hu nh : Int32} (h : zTp K A T gk ga gtk hu nh) (hc : cn.toInt = np.toInt) (h8 : cn.toInt ≤ 8) (a : ((p.toInt < 0 ∨ cn.toInt ≤ p.toInt ∨ m.toInt < 0 ∨ 2 < m.toInt) ∧ r = 0 ∧ mr2.toInt = 0) ∨ ((0 ≤ p.toInt ∧ p.toInt < cn.toInt) ∧ (0 ≤ m.toInt ∧ m.toInt ≤ 2) ∧ r = zQa (K p.toNatClampNeg).toInt m.toInt x p (A p.toNatClampNeg) ∧ mr2.toInt = ((zBa (K p.toNatClampNeg).toInt m.toInt).length : Nat) ∧ fb2 = zTr fb 0 (zBa (K p.toNatClampNeg).toInt m.toInt))) (b : ((p.toInt < 0 ∨ np.toInt ≤ p.toInt ∨ m.toInt < 0 ∨ 2 < m.toInt) ∧ q = 0 ∧ nr2.toInt = 0) ∨ ((0 ≤ p.toInt ∧ p.toInt < np.toInt) ∧ (0 ≤ m.toInt ∧ m.toInt ≤ 2) ∧ q = zQa (gk p.toNatClampNeg).toInt m.toInt x p (ga p.toNatClampNeg) ∧ nr2.toInt = ((zBa (gk p.toNatClampNeg).toInt m.toInt).length : Nat) ∧ gt2 = zTr gt 0 (zBa (gk p.toNatClampNeg).toInt m.toInt))) : zMw mr2 nr2 fb2 gt2 ∧ r = q := by
  rcases a with ⟨a0, a1, a2⟩ | ⟨a0, a1, a2, a3, a4⟩ <;> rcases b with ⟨b0, b1, b2⟩ | ⟨b0, b1, b2, b3, b4⟩
  · exact ⟨⟨by omega, fun j _ hj => by omega⟩, by rw [a1, b1]⟩
  · omega
  · omega
  · obtain ⟨z1, z2, -⟩ := h.1 p.toNatClampNeg (by have : p.toNatClampNeg = p.toInt.toNat := rfl; omega)
    rw [z1, z2] at a2
    rw [z1] at a3 a4
    refine ⟨⟨by omega, fun j hj h2 => ?_⟩, by rw [a2, b2]⟩
    rw [a4, b4]
    unfold zTr
    rw [if_pos ⟨by omega, by omega, hj⟩, if_pos ⟨by omega, by omega, hj⟩]
theorem zMw_trace {mr nr i r q : Int32} {fb gt : Nat → Int32} (h : zMw mr nr fb gt) (x : ((0 ≤ i.toInt ∧ i.toInt < 20 ∧ i.toInt < mr.toInt) ∧ r = fb i.toNatClampNeg) ∨ (¬ (0 ≤ i.toInt ∧ i.toInt < 20 ∧ i.toInt < mr.toInt) ∧ r = -1)) (y : ((0 ≤ i.toInt ∧ i.toInt < 20 ∧ i.toInt < nr.toInt) ∧ q = gt i.toNatClampNeg) ∨ (¬ (0 ≤ i.toInt ∧ i.toInt < 20 ∧ i.toInt < nr.toInt) ∧ q = -1)) : r = q := by
  obtain ⟨h1, h2⟩ := h
  have e1 : i.toNatClampNeg = i.toInt.toNat := rfl
  rcases x with ⟨x0, x1⟩ | ⟨x0, x1⟩ <;> rcases y with ⟨y0, y1⟩ | ⟨y0, y1⟩
  · rw [x1, y1]; exact h2 _ (by omega) (by omega)
  · omega
  · omega
  · rw [x1, y1]
end
section
/-! the words of the tables, each once: that it is there, and a good one -/
theorem zt_0 {w : Cond} (h : w ∈ tables_1_1) : w ∈ lw_tbl := List.mem_append_right _ (show w ∈ tables_1 from List.mem_append_left _ h)
theorem zt_1 {w : Cond} (h : w ∈ tables_1_2) : w ∈ lw_tbl := List.mem_append_right _ (show w ∈ tables_1 from List.mem_append_right _ (List.mem_append_left _ h))
theorem zt_2 {w : Cond} (h : w ∈ tables_1_3) : w ∈ lw_tbl := List.mem_append_right _ (show w ∈ tables_1 from List.mem_append_right _ (List.mem_append_right _ (List.mem_append_left _ h)))
theorem zt_3 {w : Cond} (h : w ∈ tables_1_4) : w ∈ lw_tbl := List.mem_append_right _ (show w ∈ tables_1 from List.mem_append_right _ (List.mem_append_right _ (List.mem_append_right _ (List.mem_append_left _ h))))
theorem zt_4 {w : Cond} (h : w ∈ tables_1_5) : w ∈ lw_tbl := List.mem_append_right _ (show w ∈ tables_1 from List.mem_append_right _ (List.mem_append_right _ (List.mem_append_right _ (List.mem_append_right _ (List.mem_append_left _ h)))))
theorem zt_5 {w : Cond} (h : w ∈ tables_1_6) : w ∈ lw_tbl := List.mem_append_right _ (show w ∈ tables_1 from List.mem_append_right _ (List.mem_append_right _ (List.mem_append_right _ (List.mem_append_right _ (List.mem_append_right _ (h))))))
theorem zp_1 (i : Nat) {w : Cond} (e : (lw_privs_1.map (fun q => Cond.selects q.1.cls q.1 q.1))[i]? = some w) : w ∈ lw_tbl := by
  have h : w ∈ lw_privs_1.map (fun q => Cond.selects q.1.cls q.1 q.1) := List.mem_of_getElem? e
  refine List.mem_append_left _ ?_
  obtain ⟨q, hq, rfl⟩ := List.mem_map.mp h
  exact List.mem_map.mpr ⟨q, show q ∈ lw_privs from List.mem_append_left _ hq, rfl⟩
theorem zp_2 (i : Nat) {w : Cond} (e : (lw_privs_2.map (fun q => Cond.selects q.1.cls q.1 q.1))[i]? = some w) : w ∈ lw_tbl := by
  have h : w ∈ lw_privs_2.map (fun q => Cond.selects q.1.cls q.1 q.1) := List.mem_of_getElem? e
  refine List.mem_append_left _ ?_
  obtain ⟨q, hq, rfl⟩ := List.mem_map.mp h
  exact List.mem_map.mpr ⟨q, show q ∈ lw_privs from List.mem_append_right _ (List.mem_append_left _ hq), rfl⟩
theorem zp_3 (i : Nat) {w : Cond} (e : (lw_privs_3.map (fun q => Cond.selects q.1.cls q.1 q.1))[i]? = some w) : w ∈ lw_tbl := by
  have h : w ∈ lw_privs_3.map (fun q => Cond.selects q.1.cls q.1 q.1) := List.mem_of_getElem? e
  refine List.mem_append_left _ ?_
  obtain ⟨q, hq, rfl⟩ := List.mem_map.mp h
  exact List.mem_map.mpr ⟨q, show q ∈ lw_privs from List.mem_append_right _ (List.mem_append_right _ (List.mem_append_left _ hq)), rfl⟩
theorem zp_4 (i : Nat) {w : Cond} (e : (lw_privs_4.map (fun q => Cond.selects q.1.cls q.1 q.1))[i]? = some w) : w ∈ lw_tbl := by
  have h : w ∈ lw_privs_4.map (fun q => Cond.selects q.1.cls q.1 q.1) := List.mem_of_getElem? e
  refine List.mem_append_left _ ?_
  obtain ⟨q, hq, rfl⟩ := List.mem_map.mp h
  exact List.mem_map.mpr ⟨q, show q ∈ lw_privs from List.mem_append_right _ (List.mem_append_right _ (List.mem_append_right _ (List.mem_append_left _ hq))), rfl⟩
theorem zp_5 (i : Nat) {w : Cond} (e : (lw_privs_5.map (fun q => Cond.selects q.1.cls q.1 q.1))[i]? = some w) : w ∈ lw_tbl := by
  have h : w ∈ lw_privs_5.map (fun q => Cond.selects q.1.cls q.1 q.1) := List.mem_of_getElem? e
  refine List.mem_append_left _ ?_
  obtain ⟨q, hq, rfl⟩ := List.mem_map.mp h
  exact List.mem_map.mpr ⟨q, show q ∈ lw_privs from List.mem_append_right _ (List.mem_append_right _ (List.mem_append_right _ (List.mem_append_right _ (hq)))), rfl⟩
theorem zl_nil : GoodIn lw_tbl [] := fun _ h => absurd h List.not_mem_nil
theorem zl_cons {w : Cond} {ws : List Cond} (a : w ∈ lw_tbl ∧ ((w.onTables && w.keeps) = true ∨ ∃ ty, w = .arrayClass ty)) (b : GoodIn lw_tbl ws) : GoodIn lw_tbl (w :: ws) := fun q h => (List.mem_cons.mp h).elim (fun e => e ▸ a) (b q)
theorem zg_0 : (Cond.code yX7_row cX7_row 5 (some .int)) ∈ lw_tbl ∧ ((((Cond.code yX7_row cX7_row 5 (some .int) : Cond)).onTables && ((Cond.code yX7_row cX7_row 5 (some .int) : Cond)).keeps) = true ∨ ∃ ty, (Cond.code yX7_row cX7_row 5 (some .int)) = .arrayClass ty) := ⟨zt_1 (List.mem_of_getElem? (i := 4) rfl), good_of_word (by decide +kernel)⟩
theorem zg_1 : (Cond.static yJ7_fill_d0a16) ∈ lw_tbl ∧ ((((Cond.static yJ7_fill_d0a16 : Cond)).onTables && ((Cond.static yJ7_fill_d0a16 : Cond)).keeps) = true ∨ ∃ ty, (Cond.static yJ7_fill_d0a16) = .arrayClass ty) := ⟨zt_1 (List.mem_of_getElem? (i := 21) (by decide +kernel)), good_of_word (by decide +kernel)⟩
theorem zg_2 : (Cond.methodLink RX4 22 yJ7_fill_d0a16) ∈ lw_tbl ∧ ((((Cond.methodLink RX4 22 yJ7_fill_d0a16 : Cond)).onTables && ((Cond.methodLink RX4 22 yJ7_fill_d0a16 : Cond)).keeps) = true ∨ ∃ ty, (Cond.methodLink RX4 22 yJ7_fill_d0a16) = .arrayClass ty) := ⟨zt_1 (List.mem_of_getElem? (i := 20) (by decide +kernel)), good_of_word (by decide +kernel)⟩
theorem zg_3 : (Cond.fieldLink RX4 9 "TheLiningsInIt$Shelf" "elements" "[J") ∈ lw_tbl ∧ ((((Cond.fieldLink RX4 9 "TheLiningsInIt$Shelf" "elements" "[J" : Cond)).onTables && ((Cond.fieldLink RX4 9 "TheLiningsInIt$Shelf" "elements" "[J" : Cond)).keeps) = true ∨ ∃ ty, (Cond.fieldLink RX4 9 "TheLiningsInIt$Shelf" "elements" "[J") = .arrayClass ty) := ⟨zt_0 (List.mem_of_getElem? (i := 199) (by decide +kernel)), good_of_word (by decide +kernel)⟩
theorem zg_4 : (Cond.fieldLink RX4 19 "TheLiningsInIt$Shelf" "size" "I") ∈ lw_tbl ∧ ((((Cond.fieldLink RX4 19 "TheLiningsInIt$Shelf" "size" "I" : Cond)).onTables && ((Cond.fieldLink RX4 19 "TheLiningsInIt$Shelf" "size" "I" : Cond)).keeps) = true ∨ ∃ ty, (Cond.fieldLink RX4 19 "TheLiningsInIt$Shelf" "size" "I") = .arrayClass ty) := ⟨zt_0 (List.mem_of_getElem? (i := 203) (by decide +kernel)), good_of_word (by decide +kernel)⟩
theorem zg_5 : (Cond.fieldLink RX4 15 "TheLiningsInIt$Shelf" "held" "I") ∈ lw_tbl ∧ ((((Cond.fieldLink RX4 15 "TheLiningsInIt$Shelf" "held" "I" : Cond)).onTables && ((Cond.fieldLink RX4 15 "TheLiningsInIt$Shelf" "held" "I" : Cond)).keeps) = true ∨ ∃ ty, (Cond.fieldLink RX4 15 "TheLiningsInIt$Shelf" "held" "I") = .arrayClass ty) := ⟨zt_0 (List.mem_of_getElem? (i := 201) (by decide +kernel)), good_of_word (by decide +kernel)⟩
theorem zg_6 : (Cond.code yX4_holdRow cX4_holdRow 3 none) ∈ lw_tbl ∧ ((((Cond.code yX4_holdRow cX4_holdRow 3 none : Cond)).onTables && ((Cond.code yX4_holdRow cX4_holdRow 3 none : Cond)).keeps) = true ∨ ∃ ty, (Cond.code yX4_holdRow cX4_holdRow 3 none) = .arrayClass ty) := ⟨zt_1 (List.mem_of_getElem? (i := 19) rfl), good_of_word (by decide +kernel)⟩
theorem zg_7 : (Cond.initialized RX4) ∈ lw_tbl ∧ ((((Cond.initialized RX4 : Cond)).onTables && ((Cond.initialized RX4 : Cond)).keeps) = true ∨ ∃ ty, (Cond.initialized RX4) = .arrayClass ty) := ⟨zt_0 (List.mem_of_getElem? (i := 7) (by decide +kernel)), good_of_word (by decide +kernel)⟩
theorem zg_8 : (Cond.selects RX4 yX4_holdRow yX4_holdRow) ∈ lw_tbl ∧ ((((Cond.selects RX4 yX4_holdRow yX4_holdRow : Cond)).onTables && ((Cond.selects RX4 yX4_holdRow yX4_holdRow : Cond)).keeps) = true ∨ ∃ ty, (Cond.selects RX4 yX4_holdRow yX4_holdRow) = .arrayClass ty) := ⟨zt_1 (List.mem_of_getElem? (i := 18) (by decide +kernel)), good_of_word (by decide +kernel)⟩
theorem zg_9 : (Cond.instanceMethod yX4_holdRow) ∈ lw_tbl ∧ ((((Cond.instanceMethod yX4_holdRow : Cond)).onTables && ((Cond.instanceMethod yX4_holdRow : Cond)).keeps) = true ∨ ∃ ty, (Cond.instanceMethod yX4_holdRow) = .arrayClass ty) := ⟨zt_1 (List.mem_of_getElem? (i := 17) (by decide +kernel)), good_of_word (by decide +kernel)⟩
theorem zg_10 : (Cond.methodLink RX7 71 yX4_holdRow) ∈ lw_tbl ∧ ((((Cond.methodLink RX7 71 yX4_holdRow : Cond)).onTables && ((Cond.methodLink RX7 71 yX4_holdRow : Cond)).keeps) = true ∨ ∃ ty, (Cond.methodLink RX7 71 yX4_holdRow) = .arrayClass ty) := ⟨zt_1 (List.mem_of_getElem? (i := 16) (by decide +kernel)), good_of_word (by decide +kernel)⟩
theorem zg_11 : (Cond.fieldLink RX7 46 "TheLiningsInIt" "refusals" "[I") ∈ lw_tbl ∧ ((((Cond.fieldLink RX7 46 "TheLiningsInIt" "refusals" "[I" : Cond)).onTables && ((Cond.fieldLink RX7 46 "TheLiningsInIt" "refusals" "[I" : Cond)).keeps) = true ∨ ∃ ty, (Cond.fieldLink RX7 46 "TheLiningsInIt" "refusals" "[I") = .arrayClass ty) := ⟨zt_0 (List.mem_of_getElem? (i := 219) (by decide +kernel)), good_of_word (by decide +kernel)⟩
theorem zg_12 : (Cond.code yX7_refuse cX7_refuse 2 (some .int)) ∈ lw_tbl ∧ ((((Cond.code yX7_refuse cX7_refuse 2 (some .int) : Cond)).onTables && ((Cond.code yX7_refuse cX7_refuse 2 (some .int) : Cond)).keeps) = true ∨ ∃ ty, (Cond.code yX7_refuse cX7_refuse 2 (some .int)) = .arrayClass ty) := ⟨zt_1 (List.mem_of_getElem? (i := 15) rfl), good_of_word (by decide +kernel)⟩
theorem zg_13 : (Cond.selects RX7 yX7_refuse yX7_refuse) ∈ lw_tbl ∧ ((((Cond.selects RX7 yX7_refuse yX7_refuse : Cond)).onTables && ((Cond.selects RX7 yX7_refuse yX7_refuse : Cond)).keeps) = true ∨ ∃ ty, (Cond.selects RX7 yX7_refuse yX7_refuse) = .arrayClass ty) := ⟨zp_1 1 (by decide +kernel), good_of_word (by decide +kernel)⟩
theorem zg_14 : (Cond.instanceMethod yX7_refuse) ∈ lw_tbl ∧ ((((Cond.instanceMethod yX7_refuse : Cond)).onTables && ((Cond.instanceMethod yX7_refuse : Cond)).keeps) = true ∨ ∃ ty, (Cond.instanceMethod yX7_refuse) = .arrayClass ty) := ⟨zt_1 (List.mem_of_getElem? (i := 14) (by decide +kernel)), good_of_word (by decide +kernel)⟩
theorem zg_15 : (Cond.methodLink RX7 63 yX7_refuse) ∈ lw_tbl ∧ ((((Cond.methodLink RX7 63 yX7_refuse : Cond)).onTables && ((Cond.methodLink RX7 63 yX7_refuse : Cond)).keeps) = true ∨ ∃ ty, (Cond.methodLink RX7 63 yX7_refuse) = .arrayClass ty) := ⟨zt_1 (List.mem_of_getElem? (i := 12) (by decide +kernel)), good_of_word (by decide +kernel)⟩
theorem zg_16 : (Cond.code yX7_within cX7_within 3 (some .boolean)) ∈ lw_tbl ∧ ((((Cond.code yX7_within cX7_within 3 (some .boolean) : Cond)).onTables && ((Cond.code yX7_within cX7_within 3 (some .boolean) : Cond)).keeps) = true ∨ ∃ ty, (Cond.code yX7_within cX7_within 3 (some .boolean)) = .arrayClass ty) := ⟨zt_1 (List.mem_of_getElem? (i := 11) rfl), good_of_word (by decide +kernel)⟩
theorem zg_17 : (Cond.static yX7_within) ∈ lw_tbl ∧ ((((Cond.static yX7_within : Cond)).onTables && ((Cond.static yX7_within : Cond)).keeps) = true ∨ ∃ ty, (Cond.static yX7_within) = .arrayClass ty) := ⟨zt_1 (List.mem_of_getElem? (i := 10) (by decide +kernel)), good_of_word (by decide +kernel)⟩
theorem zg_18 : (Cond.methodLink RX7 67 yX7_within) ∈ lw_tbl ∧ ((((Cond.methodLink RX7 67 yX7_within : Cond)).onTables && ((Cond.methodLink RX7 67 yX7_within : Cond)).keeps) = true ∨ ∃ ty, (Cond.methodLink RX7 67 yX7_within) = .arrayClass ty) := ⟨zt_1 (List.mem_of_getElem? (i := 9) (by decide +kernel)), good_of_word (by decide +kernel)⟩
theorem zg_19 : (Cond.fieldLink RX7 11 "TheLiningsInIt" "shelves" "[LTheLiningsInIt$Shelf;") ∈ lw_tbl ∧ ((((Cond.fieldLink RX7 11 "TheLiningsInIt" "shelves" "[LTheLiningsInIt$Shelf;" : Cond)).onTables && ((Cond.fieldLink RX7 11 "TheLiningsInIt" "shelves" "[LTheLiningsInIt$Shelf;" : Cond)).keeps) = true ∨ ∃ ty, (Cond.fieldLink RX7 11 "TheLiningsInIt" "shelves" "[LTheLiningsInIt$Shelf;") = .arrayClass ty) := ⟨zt_0 (List.mem_of_getElem? (i := 213) (by decide +kernel)), good_of_word (by decide +kernel)⟩
theorem zg_20 : (Cond.code yX7_shelfAt cX7_shelfAt 2 (some (.object "TheLiningsInIt$Shelf"))) ∈ lw_tbl ∧ ((((Cond.code yX7_shelfAt cX7_shelfAt 2 (some (.object "TheLiningsInIt$Shelf")) : Cond)).onTables && ((Cond.code yX7_shelfAt cX7_shelfAt 2 (some (.object "TheLiningsInIt$Shelf")) : Cond)).keeps) = true ∨ ∃ ty, (Cond.code yX7_shelfAt cX7_shelfAt 2 (some (.object "TheLiningsInIt$Shelf"))) = .arrayClass ty) := ⟨zt_1 (List.mem_of_getElem? (i := 8) rfl), good_of_word (by decide +kernel)⟩
theorem zg_21 : (Cond.initialized RX7) ∈ lw_tbl ∧ ((((Cond.initialized RX7 : Cond)).onTables && ((Cond.initialized RX7 : Cond)).keeps) = true ∨ ∃ ty, (Cond.initialized RX7) = .arrayClass ty) := ⟨zt_0 (List.mem_of_getElem? (i := 1) (by decide +kernel)), good_of_word (by decide +kernel)⟩
theorem zg_22 : (Cond.selects RX7 yX7_shelfAt yX7_shelfAt) ∈ lw_tbl ∧ ((((Cond.selects RX7 yX7_shelfAt yX7_shelfAt : Cond)).onTables && ((Cond.selects RX7 yX7_shelfAt yX7_shelfAt : Cond)).keeps) = true ∨ ∃ ty, (Cond.selects RX7 yX7_shelfAt yX7_shelfAt) = .arrayClass ty) := ⟨zp_1 0 (by decide +kernel), good_of_word (by decide +kernel)⟩
theorem zg_23 : (Cond.instanceMethod yX7_shelfAt) ∈ lw_tbl ∧ ((((Cond.instanceMethod yX7_shelfAt : Cond)).onTables && ((Cond.instanceMethod yX7_shelfAt : Cond)).keeps) = true ∨ ∃ ty, (Cond.instanceMethod yX7_shelfAt) = .arrayClass ty) := ⟨zt_1 (List.mem_of_getElem? (i := 7) (by decide +kernel)), good_of_word (by decide +kernel)⟩
theorem zg_24 : (Cond.methodLink RX7 59 yX7_shelfAt) ∈ lw_tbl ∧ ((((Cond.methodLink RX7 59 yX7_shelfAt : Cond)).onTables && ((Cond.methodLink RX7 59 yX7_shelfAt : Cond)).keeps) = true ∨ ∃ ty, (Cond.methodLink RX7 59 yX7_shelfAt) = .arrayClass ty) := ⟨zt_1 (List.mem_of_getElem? (i := 5) (by decide +kernel)), good_of_word (by decide +kernel)⟩
theorem gl_wsX7_row_r1 : GoodIn lw_tbl wsX7_row_r1 := (zl_cons zg_24 (zl_cons zg_23 (zl_cons zg_22 (zl_cons zg_21 (zl_cons zg_20 (zl_cons zg_19 (zl_cons zg_18 (zl_cons zg_17 (zl_cons zg_16 (zl_cons zg_15 (zl_cons zg_14 (zl_cons zg_13 (zl_cons zg_12 (zl_cons zg_11 (zl_cons zg_10 (zl_cons zg_9 (zl_cons zg_8 (zl_cons zg_7 (zl_cons zg_6 (zl_cons zg_5 (zl_cons zg_4 (zl_cons zg_3 (zl_cons zg_2 (zl_cons zg_1 zl_nil))))))))))))))))))))))))
theorem zg_25 : (Cond.code yJ7_fill_d0a16 cJ7_fill_d0a16 5 none) ∈ lw_tbl ∧ ((((Cond.code yJ7_fill_d0a16 cJ7_fill_d0a16 5 none : Cond)).onTables && ((Cond.code yJ7_fill_d0a16 cJ7_fill_d0a16 5 none : Cond)).keeps) = true ∨ ∃ ty, (Cond.code yJ7_fill_d0a16 cJ7_fill_d0a16 5 none) = .arrayClass ty) := ⟨zt_1 (List.mem_of_getElem? (i := 22) rfl), good_of_word (by decide +kernel)⟩
theorem zg_26 : (Cond.initialized RJ7) ∈ lw_tbl ∧ ((((Cond.initialized RJ7 : Cond)).onTables && ((Cond.initialized RJ7 : Cond)).keeps) = true ∨ ∃ ty, (Cond.initialized RJ7) = .arrayClass ty) := ⟨zt_0 (List.mem_of_getElem? (i := 9) (by decide +kernel)), good_of_word (by decide +kernel)⟩
theorem gl_wsX7_row_r2 : GoodIn lw_tbl wsX7_row_r2 := (zl_cons zg_26 (zl_cons zg_25 zl_nil))
theorem zg_27 : (u_lay RX7 TX7 8) ∈ lw_tbl ∧ ((((u_lay RX7 TX7 8 : Cond)).onTables && ((u_lay RX7 TX7 8 : Cond)).keeps) = true ∨ ∃ ty, (u_lay RX7 TX7 8) = .arrayClass ty) := ⟨zt_0 (List.mem_of_getElem? (i := 238) (by decide +kernel)), good_of_word (by decide +kernel)⟩
theorem zg_28 : (u_lay RX7 TX7 7) ∈ lw_tbl ∧ ((((u_lay RX7 TX7 7 : Cond)).onTables && ((u_lay RX7 TX7 7 : Cond)).keeps) = true ∨ ∃ ty, (u_lay RX7 TX7 7) = .arrayClass ty) := ⟨zt_0 (List.mem_of_getElem? (i := 236) (by decide +kernel)), good_of_word (by decide +kernel)⟩
theorem zg_29 : (u_lay RX7 TX7 6) ∈ lw_tbl ∧ ((((u_lay RX7 TX7 6 : Cond)).onTables && ((u_lay RX7 TX7 6 : Cond)).keeps) = true ∨ ∃ ty, (u_lay RX7 TX7 6) = .arrayClass ty) := ⟨zt_0 (List.mem_of_getElem? (i := 234) (by decide +kernel)), good_of_word (by decide +kernel)⟩
theorem zg_30 : (u_lay RX7 TX7 5) ∈ lw_tbl ∧ ((((u_lay RX7 TX7 5 : Cond)).onTables && ((u_lay RX7 TX7 5 : Cond)).keeps) = true ∨ ∃ ty, (u_lay RX7 TX7 5) = .arrayClass ty) := ⟨zt_0 (List.mem_of_getElem? (i := 232) (by decide +kernel)), good_of_word (by decide +kernel)⟩
theorem zg_31 : (u_lay RX7 TX7 4) ∈ lw_tbl ∧ ((((u_lay RX7 TX7 4 : Cond)).onTables && ((u_lay RX7 TX7 4 : Cond)).keeps) = true ∨ ∃ ty, (u_lay RX7 TX7 4) = .arrayClass ty) := ⟨zt_0 (List.mem_of_getElem? (i := 230) (by decide +kernel)), good_of_word (by decide +kernel)⟩
theorem zg_32 : (u_lay RX7 TX7 3) ∈ lw_tbl ∧ ((((u_lay RX7 TX7 3 : Cond)).onTables && ((u_lay RX7 TX7 3 : Cond)).keeps) = true ∨ ∃ ty, (u_lay RX7 TX7 3) = .arrayClass ty) := ⟨zt_0 (List.mem_of_getElem? (i := 228) (by decide +kernel)), good_of_word (by decide +kernel)⟩
theorem zg_33 : (u_lay RX7 TX7 2) ∈ lw_tbl ∧ ((((u_lay RX7 TX7 2 : Cond)).onTables && ((u_lay RX7 TX7 2 : Cond)).keeps) = true ∨ ∃ ty, (u_lay RX7 TX7 2) = .arrayClass ty) := ⟨zt_0 (List.mem_of_getElem? (i := 226) (by decide +kernel)), good_of_word (by decide +kernel)⟩
theorem zg_34 : (u_lay RX7 TX7 1) ∈ lw_tbl ∧ ((((u_lay RX7 TX7 1 : Cond)).onTables && ((u_lay RX7 TX7 1 : Cond)).keeps) = true ∨ ∃ ty, (u_lay RX7 TX7 1) = .arrayClass ty) := ⟨zt_0 (List.mem_of_getElem? (i := 224) (by decide +kernel)), good_of_word (by decide +kernel)⟩
theorem zg_35 : (u_lay RX7 TX7 0) ∈ lw_tbl ∧ ((((u_lay RX7 TX7 0 : Cond)).onTables && ((u_lay RX7 TX7 0 : Cond)).keeps) = true ∨ ∃ ty, (u_lay RX7 TX7 0) = .arrayClass ty) := ⟨zt_0 (List.mem_of_getElem? (i := 222) (by decide +kernel)), good_of_word (by decide +kernel)⟩
theorem gl_wsX70 : GoodIn lw_tbl wsX70 := (zl_cons zg_35 (zl_cons zg_34 (zl_cons zg_33 (zl_cons zg_32 (zl_cons zg_31 (zl_cons zg_30 (zl_cons zg_29 (zl_cons zg_28 (zl_cons zg_27 zl_nil)))))))))
theorem zg_36 : (u_lay RX4 TX4 2) ∈ lw_tbl ∧ ((((u_lay RX4 TX4 2 : Cond)).onTables && ((u_lay RX4 TX4 2 : Cond)).keeps) = true ∨ ∃ ty, (u_lay RX4 TX4 2) = .arrayClass ty) := ⟨zt_0 (List.mem_of_getElem? (i := 209) (by decide +kernel)), good_of_word (by decide +kernel)⟩
theorem zg_37 : (u_lay RX4 TX4 1) ∈ lw_tbl ∧ ((((u_lay RX4 TX4 1 : Cond)).onTables && ((u_lay RX4 TX4 1 : Cond)).keeps) = true ∨ ∃ ty, (u_lay RX4 TX4 1) = .arrayClass ty) := ⟨zt_0 (List.mem_of_getElem? (i := 207) (by decide +kernel)), good_of_word (by decide +kernel)⟩
theorem zg_38 : (u_lay RX4 TX4 0) ∈ lw_tbl ∧ ((((u_lay RX4 TX4 0 : Cond)).onTables && ((u_lay RX4 TX4 0 : Cond)).keeps) = true ∨ ∃ ty, (u_lay RX4 TX4 0) = .arrayClass ty) := ⟨zt_0 (List.mem_of_getElem? (i := 205) (by decide +kernel)), good_of_word (by decide +kernel)⟩
theorem gl_wsX40 : GoodIn lw_tbl wsX40 := (zl_cons zg_38 (zl_cons zg_37 (zl_cons zg_36 zl_nil)))
theorem gl_wsX7_row : GoodIn lw_tbl wsX7_row := (zl_cons zg_0 (goodIn_app (goodIn_app (goodIn_app gl_wsX7_row_r1 gl_wsX7_row_r2) gl_wsX70) gl_wsX40))
theorem zg_39 : (Cond.selects RX7 yX7_row yX7_row) ∈ lw_tbl ∧ ((((Cond.selects RX7 yX7_row yX7_row : Cond)).onTables && ((Cond.selects RX7 yX7_row yX7_row : Cond)).keeps) = true ∨ ∃ ty, (Cond.selects RX7 yX7_row yX7_row) = .arrayClass ty) := ⟨zt_1 (List.mem_of_getElem? (i := 3) (by decide +kernel)), good_of_word (by decide +kernel)⟩
theorem zg_40 : (Cond.instanceMethod yX7_row) ∈ lw_tbl ∧ ((((Cond.instanceMethod yX7_row : Cond)).onTables && ((Cond.instanceMethod yX7_row : Cond)).keeps) = true ∨ ∃ ty, (Cond.instanceMethod yX7_row) = .arrayClass ty) := ⟨zt_1 (List.mem_of_getElem? (i := 2) (by decide +kernel)), good_of_word (by decide +kernel)⟩
theorem zg_41 : (Cond.methodLink RL 13 yX7_row) ∈ lw_tbl ∧ ((((Cond.methodLink RL 13 yX7_row : Cond)).onTables && ((Cond.methodLink RL 13 yX7_row : Cond)).keeps) = true ∨ ∃ ty, (Cond.methodLink RL 13 yX7_row) = .arrayClass ty) := ⟨zt_1 (List.mem_of_getElem? (i := 1) (by decide +kernel)), good_of_word (by decide +kernel)⟩
theorem gq_13 : GoodIn lw_tbl (wsV RL 13 RX7 yX7_row wsX7_row) := goodIn_app (zl_cons zg_41 (zl_cons zg_40 (zl_cons zg_39 (zl_cons zg_21 zl_nil)))) gl_wsX7_row
theorem zg_42 : (Cond.code yX8_row cX8_row 5 (some .int)) ∈ lw_tbl ∧ ((((Cond.code yX8_row cX8_row 5 (some .int) : Cond)).onTables && ((Cond.code yX8_row cX8_row 5 (some .int) : Cond)).keeps) = true ∨ ∃ ty, (Cond.code yX8_row cX8_row 5 (some .int)) = .arrayClass ty) := ⟨zt_4 (List.mem_of_getElem? (i := 49) rfl), good_of_word (by decide +kernel)⟩
theorem zg_43 : (Cond.fieldLink RX8 25 "TheLiningsInItModel" "refused" "[I") ∈ lw_tbl ∧ ((((Cond.fieldLink RX8 25 "TheLiningsInItModel" "refused" "[I" : Cond)).onTables && ((Cond.fieldLink RX8 25 "TheLiningsInItModel" "refused" "[I" : Cond)).keeps) = true ∨ ∃ ty, (Cond.fieldLink RX8 25 "TheLiningsInItModel" "refused" "[I") = .arrayClass ty) := ⟨zt_3 (List.mem_of_getElem? (i := 181) (by decide +kernel)), good_of_word (by decide +kernel)⟩
theorem zg_44 : (Cond.code yX8_no cX8_no 2 (some .int)) ∈ lw_tbl ∧ ((((Cond.code yX8_no cX8_no 2 (some .int) : Cond)).onTables && ((Cond.code yX8_no cX8_no 2 (some .int) : Cond)).keeps) = true ∨ ∃ ty, (Cond.code yX8_no cX8_no 2 (some .int)) = .arrayClass ty) := ⟨zt_4 (List.mem_of_getElem? (i := 57) rfl), good_of_word (by decide +kernel)⟩
theorem zg_45 : (Cond.selects RX8 yX8_no yX8_no) ∈ lw_tbl ∧ ((((Cond.selects RX8 yX8_no yX8_no : Cond)).onTables && ((Cond.selects RX8 yX8_no yX8_no : Cond)).keeps) = true ∨ ∃ ty, (Cond.selects RX8 yX8_no yX8_no) = .arrayClass ty) := ⟨zp_1 13 (by decide +kernel), good_of_word (by decide +kernel)⟩
theorem zg_46 : (Cond.instanceMethod yX8_no) ∈ lw_tbl ∧ ((((Cond.instanceMethod yX8_no : Cond)).onTables && ((Cond.instanceMethod yX8_no : Cond)).keeps) = true ∨ ∃ ty, (Cond.instanceMethod yX8_no) = .arrayClass ty) := ⟨zt_4 (List.mem_of_getElem? (i := 56) (by decide +kernel)), good_of_word (by decide +kernel)⟩
theorem zg_47 : (Cond.methodLink RX8 97 yX8_no) ∈ lw_tbl ∧ ((((Cond.methodLink RX8 97 yX8_no : Cond)).onTables && ((Cond.methodLink RX8 97 yX8_no : Cond)).keeps) = true ∨ ∃ ty, (Cond.methodLink RX8 97 yX8_no) = .arrayClass ty) := ⟨zt_4 (List.mem_of_getElem? (i := 54) (by decide +kernel)), good_of_word (by decide +kernel)⟩
theorem zg_48 : (Cond.code yX8_isShelf cX8_isShelf 2 (some .boolean)) ∈ lw_tbl ∧ ((((Cond.code yX8_isShelf cX8_isShelf 2 (some .boolean) : Cond)).onTables && ((Cond.code yX8_isShelf cX8_isShelf 2 (some .boolean) : Cond)).keeps) = true ∨ ∃ ty, (Cond.code yX8_isShelf cX8_isShelf 2 (some .boolean)) = .arrayClass ty) := ⟨zt_4 (List.mem_of_getElem? (i := 53) rfl), good_of_word (by decide +kernel)⟩
theorem zg_49 : (Cond.initialized RX8) ∈ lw_tbl ∧ ((((Cond.initialized RX8 : Cond)).onTables && ((Cond.initialized RX8 : Cond)).keeps) = true ∨ ∃ ty, (Cond.initialized RX8) = .arrayClass ty) := ⟨zt_0 (List.mem_of_getElem? (i := 8) (by decide +kernel)), good_of_word (by decide +kernel)⟩
theorem zg_50 : (Cond.selects RX8 yX8_isShelf yX8_isShelf) ∈ lw_tbl ∧ ((((Cond.selects RX8 yX8_isShelf yX8_isShelf : Cond)).onTables && ((Cond.selects RX8 yX8_isShelf yX8_isShelf : Cond)).keeps) = true ∨ ∃ ty, (Cond.selects RX8 yX8_isShelf yX8_isShelf) = .arrayClass ty) := ⟨zp_1 12 (by decide +kernel), good_of_word (by decide +kernel)⟩
theorem zg_51 : (Cond.instanceMethod yX8_isShelf) ∈ lw_tbl ∧ ((((Cond.instanceMethod yX8_isShelf : Cond)).onTables && ((Cond.instanceMethod yX8_isShelf : Cond)).keeps) = true ∨ ∃ ty, (Cond.instanceMethod yX8_isShelf) = .arrayClass ty) := ⟨zt_4 (List.mem_of_getElem? (i := 52) (by decide +kernel)), good_of_word (by decide +kernel)⟩
theorem zg_52 : (Cond.methodLink RX8 93 yX8_isShelf) ∈ lw_tbl ∧ ((((Cond.methodLink RX8 93 yX8_isShelf : Cond)).onTables && ((Cond.methodLink RX8 93 yX8_isShelf : Cond)).keeps) = true ∨ ∃ ty, (Cond.methodLink RX8 93 yX8_isShelf) = .arrayClass ty) := ⟨zt_4 (List.mem_of_getElem? (i := 50) (by decide +kernel)), good_of_word (by decide +kernel)⟩
theorem zg_53 : (Cond.fieldLink RX8 59 "TheLiningsInItModel" "cells" "[J") ∈ lw_tbl ∧ ((((Cond.fieldLink RX8 59 "TheLiningsInItModel" "cells" "[J" : Cond)).onTables && ((Cond.fieldLink RX8 59 "TheLiningsInItModel" "cells" "[J" : Cond)).keeps) = true ∨ ∃ ty, (Cond.fieldLink RX8 59 "TheLiningsInItModel" "cells" "[J") = .arrayClass ty) := ⟨zt_3 (List.mem_of_getElem? (i := 192) (by decide +kernel)), good_of_word (by decide +kernel)⟩
theorem zg_54 : (Cond.fieldLink RX8 53 "TheLiningsInItModel" "size" "[I") ∈ lw_tbl ∧ ((((Cond.fieldLink RX8 53 "TheLiningsInItModel" "size" "[I" : Cond)).onTables && ((Cond.fieldLink RX8 53 "TheLiningsInItModel" "size" "[I" : Cond)).keeps) = true ∨ ∃ ty, (Cond.fieldLink RX8 53 "TheLiningsInItModel" "size" "[I") = .arrayClass ty) := ⟨zt_3 (List.mem_of_getElem? (i := 190) (by decide +kernel)), good_of_word (by decide +kernel)⟩
theorem zg_55 : (Cond.fieldLink RX8 50 "TheLiningsInItModel" "sort" "[I") ∈ lw_tbl ∧ ((((Cond.fieldLink RX8 50 "TheLiningsInItModel" "sort" "[I" : Cond)).onTables && ((Cond.fieldLink RX8 50 "TheLiningsInItModel" "sort" "[I" : Cond)).keeps) = true ∨ ∃ ty, (Cond.fieldLink RX8 50 "TheLiningsInItModel" "sort" "[I") = .arrayClass ty) := ⟨zt_3 (List.mem_of_getElem? (i := 189) (by decide +kernel)), good_of_word (by decide +kernel)⟩
theorem zg_56 : (Cond.fieldLink RX8 47 "TheLiningsInItModel" "held" "[I") ∈ lw_tbl ∧ ((((Cond.fieldLink RX8 47 "TheLiningsInItModel" "held" "[I" : Cond)).onTables && ((Cond.fieldLink RX8 47 "TheLiningsInItModel" "held" "[I" : Cond)).keeps) = true ∨ ∃ ty, (Cond.fieldLink RX8 47 "TheLiningsInItModel" "held" "[I") = .arrayClass ty) := ⟨zt_3 (List.mem_of_getElem? (i := 188) (by decide +kernel)), good_of_word (by decide +kernel)⟩
theorem zg_57 : (u_lay RX8 TX8 37) ∈ lw_tbl ∧ ((((u_lay RX8 TX8 37 : Cond)).onTables && ((u_lay RX8 TX8 37 : Cond)).keeps) = true ∨ ∃ ty, (u_lay RX8 TX8 37) = .arrayClass ty) := ⟨zt_4 (List.mem_of_getElem? (i := 43) (by decide +kernel)), good_of_word (by decide +kernel)⟩
theorem zg_58 : (u_lay RX8 TX8 36) ∈ lw_tbl ∧ ((((u_lay RX8 TX8 36 : Cond)).onTables && ((u_lay RX8 TX8 36 : Cond)).keeps) = true ∨ ∃ ty, (u_lay RX8 TX8 36) = .arrayClass ty) := ⟨zt_4 (List.mem_of_getElem? (i := 41) (by decide +kernel)), good_of_word (by decide +kernel)⟩
theorem zg_59 : (u_lay RX8 TX8 35) ∈ lw_tbl ∧ ((((u_lay RX8 TX8 35 : Cond)).onTables && ((u_lay RX8 TX8 35 : Cond)).keeps) = true ∨ ∃ ty, (u_lay RX8 TX8 35) = .arrayClass ty) := ⟨zt_4 (List.mem_of_getElem? (i := 39) (by decide +kernel)), good_of_word (by decide +kernel)⟩
theorem zg_60 : (u_lay RX8 TX8 34) ∈ lw_tbl ∧ ((((u_lay RX8 TX8 34 : Cond)).onTables && ((u_lay RX8 TX8 34 : Cond)).keeps) = true ∨ ∃ ty, (u_lay RX8 TX8 34) = .arrayClass ty) := ⟨zt_4 (List.mem_of_getElem? (i := 37) (by decide +kernel)), good_of_word (by decide +kernel)⟩
theorem zg_61 : (u_lay RX8 TX8 33) ∈ lw_tbl ∧ ((((u_lay RX8 TX8 33 : Cond)).onTables && ((u_lay RX8 TX8 33 : Cond)).keeps) = true ∨ ∃ ty, (u_lay RX8 TX8 33) = .arrayClass ty) := ⟨zt_4 (List.mem_of_getElem? (i := 35) (by decide +kernel)), good_of_word (by decide +kernel)⟩
theorem zg_62 : (u_lay RX8 TX8 32) ∈ lw_tbl ∧ ((((u_lay RX8 TX8 32 : Cond)).onTables && ((u_lay RX8 TX8 32 : Cond)).keeps) = true ∨ ∃ ty, (u_lay RX8 TX8 32) = .arrayClass ty) := ⟨zt_4 (List.mem_of_getElem? (i := 33) (by decide +kernel)), good_of_word (by decide +kernel)⟩
theorem zg_63 : (u_lay RX8 TX8 31) ∈ lw_tbl ∧ ((((u_lay RX8 TX8 31 : Cond)).onTables && ((u_lay RX8 TX8 31 : Cond)).keeps) = true ∨ ∃ ty, (u_lay RX8 TX8 31) = .arrayClass ty) := ⟨zt_4 (List.mem_of_getElem? (i := 31) (by decide +kernel)), good_of_word (by decide +kernel)⟩
theorem zg_64 : (u_lay RX8 TX8 30) ∈ lw_tbl ∧ ((((u_lay RX8 TX8 30 : Cond)).onTables && ((u_lay RX8 TX8 30 : Cond)).keeps) = true ∨ ∃ ty, (u_lay RX8 TX8 30) = .arrayClass ty) := ⟨zt_4 (List.mem_of_getElem? (i := 29) (by decide +kernel)), good_of_word (by decide +kernel)⟩
theorem zg_65 : (u_lay RX8 TX8 29) ∈ lw_tbl ∧ ((((u_lay RX8 TX8 29 : Cond)).onTables && ((u_lay RX8 TX8 29 : Cond)).keeps) = true ∨ ∃ ty, (u_lay RX8 TX8 29) = .arrayClass ty) := ⟨zt_4 (List.mem_of_getElem? (i := 27) (by decide +kernel)), good_of_word (by decide +kernel)⟩
theorem zg_66 : (u_lay RX8 TX8 28) ∈ lw_tbl ∧ ((((u_lay RX8 TX8 28 : Cond)).onTables && ((u_lay RX8 TX8 28 : Cond)).keeps) = true ∨ ∃ ty, (u_lay RX8 TX8 28) = .arrayClass ty) := ⟨zt_4 (List.mem_of_getElem? (i := 25) (by decide +kernel)), good_of_word (by decide +kernel)⟩
theorem zg_67 : (u_lay RX8 TX8 27) ∈ lw_tbl ∧ ((((u_lay RX8 TX8 27 : Cond)).onTables && ((u_lay RX8 TX8 27 : Cond)).keeps) = true ∨ ∃ ty, (u_lay RX8 TX8 27) = .arrayClass ty) := ⟨zt_4 (List.mem_of_getElem? (i := 23) (by decide +kernel)), good_of_word (by decide +kernel)⟩
theorem zg_68 : (u_lay RX8 TX8 26) ∈ lw_tbl ∧ ((((u_lay RX8 TX8 26 : Cond)).onTables && ((u_lay RX8 TX8 26 : Cond)).keeps) = true ∨ ∃ ty, (u_lay RX8 TX8 26) = .arrayClass ty) := ⟨zt_4 (List.mem_of_getElem? (i := 21) (by decide +kernel)), good_of_word (by decide +kernel)⟩
theorem zg_69 : (u_lay RX8 TX8 25) ∈ lw_tbl ∧ ((((u_lay RX8 TX8 25 : Cond)).onTables && ((u_lay RX8 TX8 25 : Cond)).keeps) = true ∨ ∃ ty, (u_lay RX8 TX8 25) = .arrayClass ty) := ⟨zt_4 (List.mem_of_getElem? (i := 19) (by decide +kernel)), good_of_word (by decide +kernel)⟩
theorem zg_70 : (u_lay RX8 TX8 24) ∈ lw_tbl ∧ ((((u_lay RX8 TX8 24 : Cond)).onTables && ((u_lay RX8 TX8 24 : Cond)).keeps) = true ∨ ∃ ty, (u_lay RX8 TX8 24) = .arrayClass ty) := ⟨zt_4 (List.mem_of_getElem? (i := 17) (by decide +kernel)), good_of_word (by decide +kernel)⟩
theorem zg_71 : (u_lay RX8 TX8 23) ∈ lw_tbl ∧ ((((u_lay RX8 TX8 23 : Cond)).onTables && ((u_lay RX8 TX8 23 : Cond)).keeps) = true ∨ ∃ ty, (u_lay RX8 TX8 23) = .arrayClass ty) := ⟨zt_4 (List.mem_of_getElem? (i := 15) (by decide +kernel)), good_of_word (by decide +kernel)⟩
theorem zg_72 : (u_lay RX8 TX8 22) ∈ lw_tbl ∧ ((((u_lay RX8 TX8 22 : Cond)).onTables && ((u_lay RX8 TX8 22 : Cond)).keeps) = true ∨ ∃ ty, (u_lay RX8 TX8 22) = .arrayClass ty) := ⟨zt_4 (List.mem_of_getElem? (i := 13) (by decide +kernel)), good_of_word (by decide +kernel)⟩
theorem zg_73 : (u_lay RX8 TX8 21) ∈ lw_tbl ∧ ((((u_lay RX8 TX8 21 : Cond)).onTables && ((u_lay RX8 TX8 21 : Cond)).keeps) = true ∨ ∃ ty, (u_lay RX8 TX8 21) = .arrayClass ty) := ⟨zt_4 (List.mem_of_getElem? (i := 11) (by decide +kernel)), good_of_word (by decide +kernel)⟩
theorem zg_74 : (u_lay RX8 TX8 20) ∈ lw_tbl ∧ ((((u_lay RX8 TX8 20 : Cond)).onTables && ((u_lay RX8 TX8 20 : Cond)).keeps) = true ∨ ∃ ty, (u_lay RX8 TX8 20) = .arrayClass ty) := ⟨zt_4 (List.mem_of_getElem? (i := 9) (by decide +kernel)), good_of_word (by decide +kernel)⟩
theorem zg_75 : (u_lay RX8 TX8 19) ∈ lw_tbl ∧ ((((u_lay RX8 TX8 19 : Cond)).onTables && ((u_lay RX8 TX8 19 : Cond)).keeps) = true ∨ ∃ ty, (u_lay RX8 TX8 19) = .arrayClass ty) := ⟨zt_4 (List.mem_of_getElem? (i := 7) (by decide +kernel)), good_of_word (by decide +kernel)⟩
theorem zg_76 : (u_lay RX8 TX8 18) ∈ lw_tbl ∧ ((((u_lay RX8 TX8 18 : Cond)).onTables && ((u_lay RX8 TX8 18 : Cond)).keeps) = true ∨ ∃ ty, (u_lay RX8 TX8 18) = .arrayClass ty) := ⟨zt_4 (List.mem_of_getElem? (i := 5) (by decide +kernel)), good_of_word (by decide +kernel)⟩
theorem zg_77 : (u_lay RX8 TX8 17) ∈ lw_tbl ∧ ((((u_lay RX8 TX8 17 : Cond)).onTables && ((u_lay RX8 TX8 17 : Cond)).keeps) = true ∨ ∃ ty, (u_lay RX8 TX8 17) = .arrayClass ty) := ⟨zt_4 (List.mem_of_getElem? (i := 3) (by decide +kernel)), good_of_word (by decide +kernel)⟩
theorem zg_78 : (u_lay RX8 TX8 16) ∈ lw_tbl ∧ ((((u_lay RX8 TX8 16 : Cond)).onTables && ((u_lay RX8 TX8 16 : Cond)).keeps) = true ∨ ∃ ty, (u_lay RX8 TX8 16) = .arrayClass ty) := ⟨zt_4 (List.mem_of_getElem? (i := 1) (by decide +kernel)), good_of_word (by decide +kernel)⟩
theorem zg_79 : (u_lay RX8 TX8 15) ∈ lw_tbl ∧ ((((u_lay RX8 TX8 15 : Cond)).onTables && ((u_lay RX8 TX8 15 : Cond)).keeps) = true ∨ ∃ ty, (u_lay RX8 TX8 15) = .arrayClass ty) := ⟨zt_3 (List.mem_of_getElem? (i := 239) (by decide +kernel)), good_of_word (by decide +kernel)⟩
theorem zg_80 : (u_lay RX8 TX8 14) ∈ lw_tbl ∧ ((((u_lay RX8 TX8 14 : Cond)).onTables && ((u_lay RX8 TX8 14 : Cond)).keeps) = true ∨ ∃ ty, (u_lay RX8 TX8 14) = .arrayClass ty) := ⟨zt_3 (List.mem_of_getElem? (i := 237) (by decide +kernel)), good_of_word (by decide +kernel)⟩
theorem zg_81 : (u_lay RX8 TX8 13) ∈ lw_tbl ∧ ((((u_lay RX8 TX8 13 : Cond)).onTables && ((u_lay RX8 TX8 13 : Cond)).keeps) = true ∨ ∃ ty, (u_lay RX8 TX8 13) = .arrayClass ty) := ⟨zt_3 (List.mem_of_getElem? (i := 235) (by decide +kernel)), good_of_word (by decide +kernel)⟩
theorem zg_82 : (u_lay RX8 TX8 12) ∈ lw_tbl ∧ ((((u_lay RX8 TX8 12 : Cond)).onTables && ((u_lay RX8 TX8 12 : Cond)).keeps) = true ∨ ∃ ty, (u_lay RX8 TX8 12) = .arrayClass ty) := ⟨zt_3 (List.mem_of_getElem? (i := 233) (by decide +kernel)), good_of_word (by decide +kernel)⟩
theorem zg_83 : (u_lay RX8 TX8 11) ∈ lw_tbl ∧ ((((u_lay RX8 TX8 11 : Cond)).onTables && ((u_lay RX8 TX8 11 : Cond)).keeps) = true ∨ ∃ ty, (u_lay RX8 TX8 11) = .arrayClass ty) := ⟨zt_3 (List.mem_of_getElem? (i := 231) (by decide +kernel)), good_of_word (by decide +kernel)⟩
theorem zg_84 : (u_lay RX8 TX8 10) ∈ lw_tbl ∧ ((((u_lay RX8 TX8 10 : Cond)).onTables && ((u_lay RX8 TX8 10 : Cond)).keeps) = true ∨ ∃ ty, (u_lay RX8 TX8 10) = .arrayClass ty) := ⟨zt_3 (List.mem_of_getElem? (i := 229) (by decide +kernel)), good_of_word (by decide +kernel)⟩
theorem zg_85 : (u_lay RX8 TX8 9) ∈ lw_tbl ∧ ((((u_lay RX8 TX8 9 : Cond)).onTables && ((u_lay RX8 TX8 9 : Cond)).keeps) = true ∨ ∃ ty, (u_lay RX8 TX8 9) = .arrayClass ty) := ⟨zt_3 (List.mem_of_getElem? (i := 227) (by decide +kernel)), good_of_word (by decide +kernel)⟩
theorem zg_86 : (u_lay RX8 TX8 8) ∈ lw_tbl ∧ ((((u_lay RX8 TX8 8 : Cond)).onTables && ((u_lay RX8 TX8 8 : Cond)).keeps) = true ∨ ∃ ty, (u_lay RX8 TX8 8) = .arrayClass ty) := ⟨zt_3 (List.mem_of_getElem? (i := 225) (by decide +kernel)), good_of_word (by decide +kernel)⟩
theorem zg_87 : (u_lay RX8 TX8 7) ∈ lw_tbl ∧ ((((u_lay RX8 TX8 7 : Cond)).onTables && ((u_lay RX8 TX8 7 : Cond)).keeps) = true ∨ ∃ ty, (u_lay RX8 TX8 7) = .arrayClass ty) := ⟨zt_3 (List.mem_of_getElem? (i := 223) (by decide +kernel)), good_of_word (by decide +kernel)⟩
theorem zg_88 : (u_lay RX8 TX8 6) ∈ lw_tbl ∧ ((((u_lay RX8 TX8 6 : Cond)).onTables && ((u_lay RX8 TX8 6 : Cond)).keeps) = true ∨ ∃ ty, (u_lay RX8 TX8 6) = .arrayClass ty) := ⟨zt_3 (List.mem_of_getElem? (i := 221) (by decide +kernel)), good_of_word (by decide +kernel)⟩
theorem zg_89 : (u_lay RX8 TX8 5) ∈ lw_tbl ∧ ((((u_lay RX8 TX8 5 : Cond)).onTables && ((u_lay RX8 TX8 5 : Cond)).keeps) = true ∨ ∃ ty, (u_lay RX8 TX8 5) = .arrayClass ty) := ⟨zt_3 (List.mem_of_getElem? (i := 219) (by decide +kernel)), good_of_word (by decide +kernel)⟩
theorem zg_90 : (u_lay RX8 TX8 4) ∈ lw_tbl ∧ ((((u_lay RX8 TX8 4 : Cond)).onTables && ((u_lay RX8 TX8 4 : Cond)).keeps) = true ∨ ∃ ty, (u_lay RX8 TX8 4) = .arrayClass ty) := ⟨zt_3 (List.mem_of_getElem? (i := 217) (by decide +kernel)), good_of_word (by decide +kernel)⟩
theorem zg_91 : (u_lay RX8 TX8 3) ∈ lw_tbl ∧ ((((u_lay RX8 TX8 3 : Cond)).onTables && ((u_lay RX8 TX8 3 : Cond)).keeps) = true ∨ ∃ ty, (u_lay RX8 TX8 3) = .arrayClass ty) := ⟨zt_3 (List.mem_of_getElem? (i := 215) (by decide +kernel)), good_of_word (by decide +kernel)⟩
theorem zg_92 : (u_lay RX8 TX8 2) ∈ lw_tbl ∧ ((((u_lay RX8 TX8 2 : Cond)).onTables && ((u_lay RX8 TX8 2 : Cond)).keeps) = true ∨ ∃ ty, (u_lay RX8 TX8 2) = .arrayClass ty) := ⟨zt_3 (List.mem_of_getElem? (i := 213) (by decide +kernel)), good_of_word (by decide +kernel)⟩
theorem zg_93 : (u_lay RX8 TX8 1) ∈ lw_tbl ∧ ((((u_lay RX8 TX8 1 : Cond)).onTables && ((u_lay RX8 TX8 1 : Cond)).keeps) = true ∨ ∃ ty, (u_lay RX8 TX8 1) = .arrayClass ty) := ⟨zt_3 (List.mem_of_getElem? (i := 211) (by decide +kernel)), good_of_word (by decide +kernel)⟩
theorem zg_94 : (u_lay RX8 TX8 0) ∈ lw_tbl ∧ ((((u_lay RX8 TX8 0 : Cond)).onTables && ((u_lay RX8 TX8 0 : Cond)).keeps) = true ∨ ∃ ty, (u_lay RX8 TX8 0) = .arrayClass ty) := ⟨zt_3 (List.mem_of_getElem? (i := 209) (by decide +kernel)), good_of_word (by decide +kernel)⟩
theorem gl_wsX80 : GoodIn lw_tbl wsX80 := (zl_cons zg_94 (zl_cons zg_93 (zl_cons zg_92 (zl_cons zg_91 (zl_cons zg_90 (zl_cons zg_89 (zl_cons zg_88 (zl_cons zg_87 (zl_cons zg_86 (zl_cons zg_85 (zl_cons zg_84 (zl_cons zg_83 (zl_cons zg_82 (zl_cons zg_81 (zl_cons zg_80 (zl_cons zg_79 (zl_cons zg_78 (zl_cons zg_77 (zl_cons zg_76 (zl_cons zg_75 (zl_cons zg_74 (zl_cons zg_73 (zl_cons zg_72 (zl_cons zg_71 (zl_cons zg_70 (zl_cons zg_69 (zl_cons zg_68 (zl_cons zg_67 (zl_cons zg_66 (zl_cons zg_65 (zl_cons zg_64 (zl_cons zg_63 (zl_cons zg_62 (zl_cons zg_61 (zl_cons zg_60 (zl_cons zg_59 (zl_cons zg_58 (zl_cons zg_57 zl_nil))))))))))))))))))))))))))))))))))))))
theorem gl_wsX8_row : GoodIn lw_tbl wsX8_row := (zl_cons zg_42 (goodIn_app (zl_cons zg_56 (zl_cons zg_55 (zl_cons zg_54 (zl_cons zg_53 (zl_cons zg_52 (zl_cons zg_51 (zl_cons zg_50 (zl_cons zg_49 (zl_cons zg_48 (zl_cons zg_47 (zl_cons zg_46 (zl_cons zg_45 (zl_cons zg_44 (zl_cons zg_43 zl_nil)))))))))))))) gl_wsX80))
theorem zg_95 : (Cond.selects RX8 yX8_row yX8_row) ∈ lw_tbl ∧ ((((Cond.selects RX8 yX8_row yX8_row : Cond)).onTables && ((Cond.selects RX8 yX8_row yX8_row : Cond)).keeps) = true ∨ ∃ ty, (Cond.selects RX8 yX8_row yX8_row) = .arrayClass ty) := ⟨zt_4 (List.mem_of_getElem? (i := 48) (by decide +kernel)), good_of_word (by decide +kernel)⟩
theorem zg_96 : (Cond.instanceMethod yX8_row) ∈ lw_tbl ∧ ((((Cond.instanceMethod yX8_row : Cond)).onTables && ((Cond.instanceMethod yX8_row : Cond)).keeps) = true ∨ ∃ ty, (Cond.instanceMethod yX8_row) = .arrayClass ty) := ⟨zt_4 (List.mem_of_getElem? (i := 47) (by decide +kernel)), good_of_word (by decide +kernel)⟩
theorem zg_97 : (Cond.methodLink RL 17 yX8_row) ∈ lw_tbl ∧ ((((Cond.methodLink RL 17 yX8_row : Cond)).onTables && ((Cond.methodLink RL 17 yX8_row : Cond)).keeps) = true ∨ ∃ ty, (Cond.methodLink RL 17 yX8_row) = .arrayClass ty) := ⟨zt_4 (List.mem_of_getElem? (i := 46) (by decide +kernel)), good_of_word (by decide +kernel)⟩
theorem gq_17 : GoodIn lw_tbl (wsV RL 17 RX8 yX8_row wsX8_row) := goodIn_app (zl_cons zg_97 (zl_cons zg_96 (zl_cons zg_95 (zl_cons zg_49 zl_nil)))) gl_wsX8_row
theorem zg_98 : (Cond.constantLong RL 18 (4294967295)) ∈ lw_tbl ∧ ((((Cond.constantLong RL 18 (4294967295) : Cond)).onTables && ((Cond.constantLong RL 18 (4294967295) : Cond)).keeps) = true ∨ ∃ ty, (Cond.constantLong RL 18 (4294967295)) = .arrayClass ty) := ⟨zt_5 (List.mem_of_getElem? (i := 172) (by decide +kernel)), good_of_word (by decide +kernel)⟩
theorem zg_99 : (Cond.code yX7_set cX7_set 7 (some .int)) ∈ lw_tbl ∧ ((((Cond.code yX7_set cX7_set 7 (some .int) : Cond)).onTables && ((Cond.code yX7_set cX7_set 7 (some .int) : Cond)).keeps) = true ∨ ∃ ty, (Cond.code yX7_set cX7_set 7 (some .int)) = .arrayClass ty) := ⟨zt_1 (List.mem_of_getElem? (i := 26) rfl), good_of_word (by decide +kernel)⟩
theorem zg_100 : (Cond.code yX4_hasSpan cX4_hasSpan 3 (some .boolean)) ∈ lw_tbl ∧ ((((Cond.code yX4_hasSpan cX4_hasSpan 3 (some .boolean) : Cond)).onTables && ((Cond.code yX4_hasSpan cX4_hasSpan 3 (some .boolean) : Cond)).keeps) = true ∨ ∃ ty, (Cond.code yX4_hasSpan cX4_hasSpan 3 (some .boolean)) = .arrayClass ty) := ⟨zt_1 (List.mem_of_getElem? (i := 34) rfl), good_of_word (by decide +kernel)⟩
theorem zg_101 : (Cond.selects RX4 yX4_hasSpan yX4_hasSpan) ∈ lw_tbl ∧ ((((Cond.selects RX4 yX4_hasSpan yX4_hasSpan : Cond)).onTables && ((Cond.selects RX4 yX4_hasSpan yX4_hasSpan : Cond)).keeps) = true ∨ ∃ ty, (Cond.selects RX4 yX4_hasSpan yX4_hasSpan) = .arrayClass ty) := ⟨zt_1 (List.mem_of_getElem? (i := 33) (by decide +kernel)), good_of_word (by decide +kernel)⟩
theorem zg_102 : (Cond.instanceMethod yX4_hasSpan) ∈ lw_tbl ∧ ((((Cond.instanceMethod yX4_hasSpan : Cond)).onTables && ((Cond.instanceMethod yX4_hasSpan : Cond)).keeps) = true ∨ ∃ ty, (Cond.instanceMethod yX4_hasSpan) = .arrayClass ty) := ⟨zt_1 (List.mem_of_getElem? (i := 32) (by decide +kernel)), good_of_word (by decide +kernel)⟩
theorem zg_103 : (Cond.methodLink RX7 79 yX4_hasSpan) ∈ lw_tbl ∧ ((((Cond.methodLink RX7 79 yX4_hasSpan : Cond)).onTables && ((Cond.methodLink RX7 79 yX4_hasSpan : Cond)).keeps) = true ∨ ∃ ty, (Cond.methodLink RX7 79 yX4_hasSpan) = .arrayClass ty) := ⟨zt_1 (List.mem_of_getElem? (i := 31) (by decide +kernel)), good_of_word (by decide +kernel)⟩
theorem zg_104 : (Cond.code yX4_noRow cX4_noRow 1 (some .int)) ∈ lw_tbl ∧ ((((Cond.code yX4_noRow cX4_noRow 1 (some .int) : Cond)).onTables && ((Cond.code yX4_noRow cX4_noRow 1 (some .int) : Cond)).keeps) = true ∨ ∃ ty, (Cond.code yX4_noRow cX4_noRow 1 (some .int)) = .arrayClass ty) := ⟨zt_1 (List.mem_of_getElem? (i := 30) rfl), good_of_word (by decide +kernel)⟩
theorem zg_105 : (Cond.selects RX4 yX4_noRow yX4_noRow) ∈ lw_tbl ∧ ((((Cond.selects RX4 yX4_noRow yX4_noRow : Cond)).onTables && ((Cond.selects RX4 yX4_noRow yX4_noRow : Cond)).keeps) = true ∨ ∃ ty, (Cond.selects RX4 yX4_noRow yX4_noRow) = .arrayClass ty) := ⟨zt_1 (List.mem_of_getElem? (i := 29) (by decide +kernel)), good_of_word (by decide +kernel)⟩
theorem zg_106 : (Cond.instanceMethod yX4_noRow) ∈ lw_tbl ∧ ((((Cond.instanceMethod yX4_noRow : Cond)).onTables && ((Cond.instanceMethod yX4_noRow : Cond)).keeps) = true ∨ ∃ ty, (Cond.instanceMethod yX4_noRow) = .arrayClass ty) := ⟨zt_1 (List.mem_of_getElem? (i := 28) (by decide +kernel)), good_of_word (by decide +kernel)⟩
theorem zg_107 : (Cond.methodLink RX7 75 yX4_noRow) ∈ lw_tbl ∧ ((((Cond.methodLink RX7 75 yX4_noRow : Cond)).onTables && ((Cond.methodLink RX7 75 yX4_noRow : Cond)).keeps) = true ∨ ∃ ty, (Cond.methodLink RX7 75 yX4_noRow) = .arrayClass ty) := ⟨zt_1 (List.mem_of_getElem? (i := 27) (by decide +kernel)), good_of_word (by decide +kernel)⟩
theorem gl_wsX7_set_r1 : GoodIn lw_tbl wsX7_set_r1 := (zl_cons zg_24 (zl_cons zg_23 (zl_cons zg_22 (zl_cons zg_21 (zl_cons zg_20 (zl_cons zg_19 (zl_cons zg_18 (zl_cons zg_17 (zl_cons zg_16 (zl_cons zg_15 (zl_cons zg_14 (zl_cons zg_13 (zl_cons zg_12 (zl_cons zg_11 (zl_cons zg_107 (zl_cons zg_106 (zl_cons zg_105 (zl_cons zg_7 (zl_cons zg_104 (zl_cons zg_5 (zl_cons zg_103 (zl_cons zg_102 (zl_cons zg_101 (zl_cons zg_100 zl_nil))))))))))))))))))))))))
theorem zg_108 : (Cond.code yX4_put cX4_put 4 none) ∈ lw_tbl ∧ ((((Cond.code yX4_put cX4_put 4 none : Cond)).onTables && ((Cond.code yX4_put cX4_put 4 none : Cond)).keeps) = true ∨ ∃ ty, (Cond.code yX4_put cX4_put 4 none) = .arrayClass ty) := ⟨zt_1 (List.mem_of_getElem? (i := 38) rfl), good_of_word (by decide +kernel)⟩
theorem zg_109 : (Cond.selects RX4 yX4_put yX4_put) ∈ lw_tbl ∧ ((((Cond.selects RX4 yX4_put yX4_put : Cond)).onTables && ((Cond.selects RX4 yX4_put yX4_put : Cond)).keeps) = true ∨ ∃ ty, (Cond.selects RX4 yX4_put yX4_put) = .arrayClass ty) := ⟨zt_1 (List.mem_of_getElem? (i := 37) (by decide +kernel)), good_of_word (by decide +kernel)⟩
theorem zg_110 : (Cond.instanceMethod yX4_put) ∈ lw_tbl ∧ ((((Cond.instanceMethod yX4_put : Cond)).onTables && ((Cond.instanceMethod yX4_put : Cond)).keeps) = true ∨ ∃ ty, (Cond.instanceMethod yX4_put) = .arrayClass ty) := ⟨zt_1 (List.mem_of_getElem? (i := 36) (by decide +kernel)), good_of_word (by decide +kernel)⟩
theorem zg_111 : (Cond.methodLink RX7 83 yX4_put) ∈ lw_tbl ∧ ((((Cond.methodLink RX7 83 yX4_put : Cond)).onTables && ((Cond.methodLink RX7 83 yX4_put : Cond)).keeps) = true ∨ ∃ ty, (Cond.methodLink RX7 83 yX4_put) = .arrayClass ty) := ⟨zt_1 (List.mem_of_getElem? (i := 35) (by decide +kernel)), good_of_word (by decide +kernel)⟩
theorem gl_wsX7_set_r2 : GoodIn lw_tbl wsX7_set_r2 := (zl_cons zg_4 (zl_cons zg_111 (zl_cons zg_110 (zl_cons zg_109 (zl_cons zg_108 (zl_cons zg_3 zl_nil))))))
theorem gl_wsX7_set : GoodIn lw_tbl wsX7_set := (zl_cons zg_99 (goodIn_app (goodIn_app (goodIn_app gl_wsX7_set_r1 gl_wsX7_set_r2) gl_wsX70) gl_wsX40))
theorem zg_112 : (Cond.selects RX7 yX7_set yX7_set) ∈ lw_tbl ∧ ((((Cond.selects RX7 yX7_set yX7_set : Cond)).onTables && ((Cond.selects RX7 yX7_set yX7_set : Cond)).keeps) = true ∨ ∃ ty, (Cond.selects RX7 yX7_set yX7_set) = .arrayClass ty) := ⟨zt_1 (List.mem_of_getElem? (i := 25) (by decide +kernel)), good_of_word (by decide +kernel)⟩
theorem zg_113 : (Cond.instanceMethod yX7_set) ∈ lw_tbl ∧ ((((Cond.instanceMethod yX7_set : Cond)).onTables && ((Cond.instanceMethod yX7_set : Cond)).keeps) = true ∨ ∃ ty, (Cond.instanceMethod yX7_set) = .arrayClass ty) := ⟨zt_1 (List.mem_of_getElem? (i := 24) (by decide +kernel)), good_of_word (by decide +kernel)⟩
theorem zg_114 : (Cond.methodLink RL 20 yX7_set) ∈ lw_tbl ∧ ((((Cond.methodLink RL 20 yX7_set : Cond)).onTables && ((Cond.methodLink RL 20 yX7_set : Cond)).keeps) = true ∨ ∃ ty, (Cond.methodLink RL 20 yX7_set) = .arrayClass ty) := ⟨zt_1 (List.mem_of_getElem? (i := 23) (by decide +kernel)), good_of_word (by decide +kernel)⟩
theorem gq_20 : GoodIn lw_tbl (wsV RL 20 RX7 yX7_set wsX7_set) := goodIn_app (zl_cons zg_114 (zl_cons zg_113 (zl_cons zg_112 (zl_cons zg_21 zl_nil)))) gl_wsX7_set
theorem zg_115 : (Cond.code yX8_set cX8_set 5 (some .int)) ∈ lw_tbl ∧ ((((Cond.code yX8_set cX8_set 5 (some .int) : Cond)).onTables && ((Cond.code yX8_set cX8_set 5 (some .int) : Cond)).keeps) = true ∨ ∃ ty, (Cond.code yX8_set cX8_set 5 (some .int)) = .arrayClass ty) := ⟨zt_4 (List.mem_of_getElem? (i := 61) rfl), good_of_word (by decide +kernel)⟩
theorem gl_wsX8_set : GoodIn lw_tbl wsX8_set := (zl_cons zg_115 (goodIn_app (zl_cons zg_56 (zl_cons zg_54 (zl_cons zg_53 (zl_cons zg_55 (zl_cons zg_52 (zl_cons zg_51 (zl_cons zg_50 (zl_cons zg_49 (zl_cons zg_48 (zl_cons zg_47 (zl_cons zg_46 (zl_cons zg_45 (zl_cons zg_44 (zl_cons zg_43 zl_nil)))))))))))))) gl_wsX80))
theorem zg_116 : (Cond.selects RX8 yX8_set yX8_set) ∈ lw_tbl ∧ ((((Cond.selects RX8 yX8_set yX8_set : Cond)).onTables && ((Cond.selects RX8 yX8_set yX8_set : Cond)).keeps) = true ∨ ∃ ty, (Cond.selects RX8 yX8_set yX8_set) = .arrayClass ty) := ⟨zt_4 (List.mem_of_getElem? (i := 60) (by decide +kernel)), good_of_word (by decide +kernel)⟩
theorem zg_117 : (Cond.instanceMethod yX8_set) ∈ lw_tbl ∧ ((((Cond.instanceMethod yX8_set : Cond)).onTables && ((Cond.instanceMethod yX8_set : Cond)).keeps) = true ∨ ∃ ty, (Cond.instanceMethod yX8_set) = .arrayClass ty) := ⟨zt_4 (List.mem_of_getElem? (i := 59) (by decide +kernel)), good_of_word (by decide +kernel)⟩
theorem zg_118 : (Cond.methodLink RL 24 yX8_set) ∈ lw_tbl ∧ ((((Cond.methodLink RL 24 yX8_set : Cond)).onTables && ((Cond.methodLink RL 24 yX8_set : Cond)).keeps) = true ∨ ∃ ty, (Cond.methodLink RL 24 yX8_set) = .arrayClass ty) := ⟨zt_4 (List.mem_of_getElem? (i := 58) (by decide +kernel)), good_of_word (by decide +kernel)⟩
theorem gq_24 : GoodIn lw_tbl (wsV RL 24 RX8 yX8_set wsX8_set) := goodIn_app (zl_cons zg_118 (zl_cons zg_117 (zl_cons zg_116 (zl_cons zg_49 zl_nil)))) gl_wsX8_set
theorem zg_119 : (Cond.code yX7_copy cX7_copy 11 (some .int)) ∈ lw_tbl ∧ ((((Cond.code yX7_copy cX7_copy 11 (some .int) : Cond)).onTables && ((Cond.code yX7_copy cX7_copy 11 (some .int) : Cond)).keeps) = true ∨ ∃ ty, (Cond.code yX7_copy cX7_copy 11 (some .int)) = .arrayClass ty) := ⟨zt_1 (List.mem_of_getElem? (i := 42) rfl), good_of_word (by decide +kernel)⟩
theorem zg_120 : (Cond.initialized "java/lang/System") ∈ lw_tbl ∧ ((((Cond.initialized "java/lang/System" : Cond)).onTables && ((Cond.initialized "java/lang/System" : Cond)).keeps) = true ∨ ∃ ty, (Cond.initialized "java/lang/System") = .arrayClass ty) := ⟨zt_0 (List.mem_of_getElem? (i := 10) (by decide +kernel)), good_of_word (by decide +kernel)⟩
theorem zg_121 : (Cond.static arraycopyName) ∈ lw_tbl ∧ ((((Cond.static arraycopyName : Cond)).onTables && ((Cond.static arraycopyName : Cond)).keeps) = true ∨ ∃ ty, (Cond.static arraycopyName) = .arrayClass ty) := ⟨zt_1 (List.mem_of_getElem? (i := 44) (by decide +kernel)), good_of_word (by decide +kernel)⟩
theorem zg_122 : (Cond.native arraycopyName) ∈ lw_tbl ∧ ((((Cond.native arraycopyName : Cond)).onTables && ((Cond.native arraycopyName : Cond)).keeps) = true ∨ ∃ ty, (Cond.native arraycopyName) = .arrayClass ty) := ⟨zt_1 (List.mem_of_getElem? (i := 45) (by decide +kernel)), good_of_word (by decide +kernel)⟩
theorem zg_123 : (Cond.methodLink RX7 94 arraycopyName) ∈ lw_tbl ∧ ((((Cond.methodLink RX7 94 arraycopyName : Cond)).onTables && ((Cond.methodLink RX7 94 arraycopyName : Cond)).keeps) = true ∨ ∃ ty, (Cond.methodLink RX7 94 arraycopyName) = .arrayClass ty) := ⟨zt_1 (List.mem_of_getElem? (i := 43) (by decide +kernel)), good_of_word (by decide +kernel)⟩
theorem zg_124 : (Cond.fieldLink RX7 90 "TheLiningsInIt$Shelf" "elements" "[J") ∈ lw_tbl ∧ ((((Cond.fieldLink RX7 90 "TheLiningsInIt$Shelf" "elements" "[J" : Cond)).onTables && ((Cond.fieldLink RX7 90 "TheLiningsInIt$Shelf" "elements" "[J" : Cond)).keeps) = true ∨ ∃ ty, (Cond.fieldLink RX7 90 "TheLiningsInIt$Shelf" "elements" "[J") = .arrayClass ty) := ⟨zt_0 (List.mem_of_getElem? (i := 200) (by decide +kernel)), good_of_word (by decide +kernel)⟩
theorem zg_125 : (Cond.fieldLink RX7 87 "TheLiningsInIt$Shelf" "held" "I") ∈ lw_tbl ∧ ((((Cond.fieldLink RX7 87 "TheLiningsInIt$Shelf" "held" "I" : Cond)).onTables && ((Cond.fieldLink RX7 87 "TheLiningsInIt$Shelf" "held" "I" : Cond)).keeps) = true ∨ ∃ ty, (Cond.fieldLink RX7 87 "TheLiningsInIt$Shelf" "held" "I") = .arrayClass ty) := ⟨zt_0 (List.mem_of_getElem? (i := 202) (by decide +kernel)), good_of_word (by decide +kernel)⟩
theorem gl_wsX7_copy_r1 : GoodIn lw_tbl wsX7_copy_r1 := (zl_cons zg_125 (zl_cons zg_124 (zl_cons zg_123 (zl_cons zg_122 (zl_cons zg_121 (zl_cons zg_120 (zl_cons zg_24 (zl_cons zg_23 (zl_cons zg_22 (zl_cons zg_21 (zl_cons zg_20 (zl_cons zg_19 (zl_cons zg_18 (zl_cons zg_17 (zl_cons zg_16 (zl_cons zg_15 (zl_cons zg_14 (zl_cons zg_13 (zl_cons zg_12 (zl_cons zg_11 (zl_cons zg_107 (zl_cons zg_106 (zl_cons zg_105 (zl_cons zg_7 zl_nil))))))))))))))))))))))))
theorem gl_wsX7_copy_r2 : GoodIn lw_tbl wsX7_copy_r2 := (zl_cons zg_104 (zl_cons zg_5 (zl_cons zg_103 (zl_cons zg_102 (zl_cons zg_101 (zl_cons zg_100 (zl_cons zg_4 zl_nil)))))))
theorem gl_wsX7_copy : GoodIn lw_tbl wsX7_copy := (zl_cons zg_119 (goodIn_app (goodIn_app (goodIn_app gl_wsX7_copy_r1 gl_wsX7_copy_r2) gl_wsX40) gl_wsX70))
theorem zg_126 : (Cond.selects RX7 yX7_copy yX7_copy) ∈ lw_tbl ∧ ((((Cond.selects RX7 yX7_copy yX7_copy : Cond)).onTables && ((Cond.selects RX7 yX7_copy yX7_copy : Cond)).keeps) = true ∨ ∃ ty, (Cond.selects RX7 yX7_copy yX7_copy) = .arrayClass ty) := ⟨zt_1 (List.mem_of_getElem? (i := 41) (by decide +kernel)), good_of_word (by decide +kernel)⟩
theorem zg_127 : (Cond.instanceMethod yX7_copy) ∈ lw_tbl ∧ ((((Cond.instanceMethod yX7_copy : Cond)).onTables && ((Cond.instanceMethod yX7_copy : Cond)).keeps) = true ∨ ∃ ty, (Cond.instanceMethod yX7_copy) = .arrayClass ty) := ⟨zt_1 (List.mem_of_getElem? (i := 40) (by decide +kernel)), good_of_word (by decide +kernel)⟩
theorem zg_128 : (Cond.methodLink RL 25 yX7_copy) ∈ lw_tbl ∧ ((((Cond.methodLink RL 25 yX7_copy : Cond)).onTables && ((Cond.methodLink RL 25 yX7_copy : Cond)).keeps) = true ∨ ∃ ty, (Cond.methodLink RL 25 yX7_copy) = .arrayClass ty) := ⟨zt_1 (List.mem_of_getElem? (i := 39) (by decide +kernel)), good_of_word (by decide +kernel)⟩
theorem gq_25 : GoodIn lw_tbl (wsV RL 25 RX7 yX7_copy wsX7_copy) := goodIn_app (zl_cons zg_128 (zl_cons zg_127 (zl_cons zg_126 (zl_cons zg_21 zl_nil)))) gl_wsX7_copy
theorem zg_129 : (Cond.code yX8_copy cX8_copy 7 (some .int)) ∈ lw_tbl ∧ ((((Cond.code yX8_copy cX8_copy 7 (some .int) : Cond)).onTables && ((Cond.code yX8_copy cX8_copy 7 (some .int) : Cond)).keeps) = true ∨ ∃ ty, (Cond.code yX8_copy cX8_copy 7 (some .int)) = .arrayClass ty) := ⟨zt_4 (List.mem_of_getElem? (i := 65) rfl), good_of_word (by decide +kernel)⟩
theorem zg_130 : (Cond.fieldLink RX8 63 "TheLiningsInItModel" "carried" "[J") ∈ lw_tbl ∧ ((((Cond.fieldLink RX8 63 "TheLiningsInItModel" "carried" "[J" : Cond)).onTables && ((Cond.fieldLink RX8 63 "TheLiningsInItModel" "carried" "[J" : Cond)).keeps) = true ∨ ∃ ty, (Cond.fieldLink RX8 63 "TheLiningsInItModel" "carried" "[J") = .arrayClass ty) := ⟨zt_3 (List.mem_of_getElem? (i := 193) (by decide +kernel)), good_of_word (by decide +kernel)⟩
theorem gl_wsX8_copy : GoodIn lw_tbl wsX8_copy := (zl_cons zg_129 (goodIn_app (zl_cons zg_56 (zl_cons zg_55 (zl_cons zg_54 (zl_cons zg_130 (zl_cons zg_53 (zl_cons zg_52 (zl_cons zg_51 (zl_cons zg_50 (zl_cons zg_49 (zl_cons zg_48 (zl_cons zg_47 (zl_cons zg_46 (zl_cons zg_45 (zl_cons zg_44 (zl_cons zg_43 zl_nil))))))))))))))) gl_wsX80))
theorem zg_131 : (Cond.selects RX8 yX8_copy yX8_copy) ∈ lw_tbl ∧ ((((Cond.selects RX8 yX8_copy yX8_copy : Cond)).onTables && ((Cond.selects RX8 yX8_copy yX8_copy : Cond)).keeps) = true ∨ ∃ ty, (Cond.selects RX8 yX8_copy yX8_copy) = .arrayClass ty) := ⟨zt_4 (List.mem_of_getElem? (i := 64) (by decide +kernel)), good_of_word (by decide +kernel)⟩
theorem zg_132 : (Cond.instanceMethod yX8_copy) ∈ lw_tbl ∧ ((((Cond.instanceMethod yX8_copy : Cond)).onTables && ((Cond.instanceMethod yX8_copy : Cond)).keeps) = true ∨ ∃ ty, (Cond.instanceMethod yX8_copy) = .arrayClass ty) := ⟨zt_4 (List.mem_of_getElem? (i := 63) (by decide +kernel)), good_of_word (by decide +kernel)⟩
theorem zg_133 : (Cond.methodLink RL 29 yX8_copy) ∈ lw_tbl ∧ ((((Cond.methodLink RL 29 yX8_copy : Cond)).onTables && ((Cond.methodLink RL 29 yX8_copy : Cond)).keeps) = true ∨ ∃ ty, (Cond.methodLink RL 29 yX8_copy) = .arrayClass ty) := ⟨zt_4 (List.mem_of_getElem? (i := 62) (by decide +kernel)), good_of_word (by decide +kernel)⟩
theorem gq_29 : GoodIn lw_tbl (wsV RL 29 RX8 yX8_copy wsX8_copy) := goodIn_app (zl_cons zg_133 (zl_cons zg_132 (zl_cons zg_131 (zl_cons zg_49 zl_nil)))) gl_wsX8_copy
theorem zg_134 : (Cond.code yX7_element cX7_element 4 (some .long)) ∈ lw_tbl ∧ ((((Cond.code yX7_element cX7_element 4 (some .long) : Cond)).onTables && ((Cond.code yX7_element cX7_element 4 (some .long) : Cond)).keeps) = true ∨ ∃ ty, (Cond.code yX7_element cX7_element 4 (some .long)) = .arrayClass ty) := ⟨zt_1 (List.mem_of_getElem? (i := 49) rfl), good_of_word (by decide +kernel)⟩
theorem gl_wsX7_element : GoodIn lw_tbl wsX7_element := (zl_cons zg_134 (goodIn_app (goodIn_app (zl_cons zg_124 (zl_cons zg_24 (zl_cons zg_23 (zl_cons zg_22 (zl_cons zg_21 (zl_cons zg_20 (zl_cons zg_19 (zl_cons zg_18 (zl_cons zg_17 (zl_cons zg_16 (zl_cons zg_107 (zl_cons zg_106 (zl_cons zg_105 (zl_cons zg_7 (zl_cons zg_104 (zl_cons zg_5 (zl_cons zg_103 (zl_cons zg_102 (zl_cons zg_101 (zl_cons zg_100 (zl_cons zg_4 zl_nil))))))))))))))))))))) gl_wsX40) gl_wsX70))
theorem zg_135 : (Cond.selects RX7 yX7_element yX7_element) ∈ lw_tbl ∧ ((((Cond.selects RX7 yX7_element yX7_element : Cond)).onTables && ((Cond.selects RX7 yX7_element yX7_element : Cond)).keeps) = true ∨ ∃ ty, (Cond.selects RX7 yX7_element yX7_element) = .arrayClass ty) := ⟨zt_1 (List.mem_of_getElem? (i := 48) (by decide +kernel)), good_of_word (by decide +kernel)⟩
theorem zg_136 : (Cond.instanceMethod yX7_element) ∈ lw_tbl ∧ ((((Cond.instanceMethod yX7_element : Cond)).onTables && ((Cond.instanceMethod yX7_element : Cond)).keeps) = true ∨ ∃ ty, (Cond.instanceMethod yX7_element) = .arrayClass ty) := ⟨zt_1 (List.mem_of_getElem? (i := 47) (by decide +kernel)), good_of_word (by decide +kernel)⟩
theorem zg_137 : (Cond.methodLink RL 30 yX7_element) ∈ lw_tbl ∧ ((((Cond.methodLink RL 30 yX7_element : Cond)).onTables && ((Cond.methodLink RL 30 yX7_element : Cond)).keeps) = true ∨ ∃ ty, (Cond.methodLink RL 30 yX7_element) = .arrayClass ty) := ⟨zt_1 (List.mem_of_getElem? (i := 46) (by decide +kernel)), good_of_word (by decide +kernel)⟩
theorem gq_30 : GoodIn lw_tbl (wsV RL 30 RX7 yX7_element wsX7_element) := goodIn_app (zl_cons zg_137 (zl_cons zg_136 (zl_cons zg_135 (zl_cons zg_21 zl_nil)))) gl_wsX7_element
theorem zg_138 : (Cond.code yX8_element cX8_element 3 (some .long)) ∈ lw_tbl ∧ ((((Cond.code yX8_element cX8_element 3 (some .long) : Cond)).onTables && ((Cond.code yX8_element cX8_element 3 (some .long) : Cond)).keeps) = true ∨ ∃ ty, (Cond.code yX8_element cX8_element 3 (some .long)) = .arrayClass ty) := ⟨zt_4 (List.mem_of_getElem? (i := 69) rfl), good_of_word (by decide +kernel)⟩
theorem gl_wsX8_element : GoodIn lw_tbl wsX8_element := (zl_cons zg_138 (goodIn_app (zl_cons zg_56 (zl_cons zg_54 (zl_cons zg_53 (zl_cons zg_52 (zl_cons zg_51 (zl_cons zg_50 (zl_cons zg_49 (zl_cons zg_48 zl_nil)))))))) gl_wsX80))
theorem zg_139 : (Cond.selects RX8 yX8_element yX8_element) ∈ lw_tbl ∧ ((((Cond.selects RX8 yX8_element yX8_element : Cond)).onTables && ((Cond.selects RX8 yX8_element yX8_element : Cond)).keeps) = true ∨ ∃ ty, (Cond.selects RX8 yX8_element yX8_element) = .arrayClass ty) := ⟨zt_4 (List.mem_of_getElem? (i := 68) (by decide +kernel)), good_of_word (by decide +kernel)⟩
theorem zg_140 : (Cond.instanceMethod yX8_element) ∈ lw_tbl ∧ ((((Cond.instanceMethod yX8_element : Cond)).onTables && ((Cond.instanceMethod yX8_element : Cond)).keeps) = true ∨ ∃ ty, (Cond.instanceMethod yX8_element) = .arrayClass ty) := ⟨zt_4 (List.mem_of_getElem? (i := 67) (by decide +kernel)), good_of_word (by decide +kernel)⟩
theorem zg_141 : (Cond.methodLink RL 34 yX8_element) ∈ lw_tbl ∧ ((((Cond.methodLink RL 34 yX8_element : Cond)).onTables && ((Cond.methodLink RL 34 yX8_element : Cond)).keeps) = true ∨ ∃ ty, (Cond.methodLink RL 34 yX8_element) = .arrayClass ty) := ⟨zt_4 (List.mem_of_getElem? (i := 66) (by decide +kernel)), good_of_word (by decide +kernel)⟩
theorem gq_34 : GoodIn lw_tbl (wsV RL 34 RX8 yX8_element wsX8_element) := goodIn_app (zl_cons zg_141 (zl_cons zg_140 (zl_cons zg_139 (zl_cons zg_49 zl_nil)))) gl_wsX8_element
theorem zg_142 : (Cond.code yX7_show cX7_show 4 (some .int)) ∈ lw_tbl ∧ ((((Cond.code yX7_show cX7_show 4 (some .int) : Cond)).onTables && ((Cond.code yX7_show cX7_show 4 (some .int) : Cond)).keeps) = true ∨ ∃ ty, (Cond.code yX7_show cX7_show 4 (some .int)) = .arrayClass ty) := ⟨zt_1 (List.mem_of_getElem? (i := 53) rfl), good_of_word (by decide +kernel)⟩
theorem zg_143 : (Cond.fieldLink RX0 20 "TheLiningsInIt$Jacket" "pulls" "[LTheLiningsInIt$Pull;") ∈ lw_tbl ∧ ((((Cond.fieldLink RX0 20 "TheLiningsInIt$Jacket" "pulls" "[LTheLiningsInIt$Pull;" : Cond)).onTables && ((Cond.fieldLink RX0 20 "TheLiningsInIt$Jacket" "pulls" "[LTheLiningsInIt$Pull;" : Cond)).keeps) = true ∨ ∃ ty, (Cond.fieldLink RX0 20 "TheLiningsInIt$Jacket" "pulls" "[LTheLiningsInIt$Pull;") = .arrayClass ty) := ⟨zt_0 (List.mem_of_getElem? (i := 74) (by decide +kernel)), good_of_word (by decide +kernel)⟩
theorem zg_144 : (Cond.fieldLink RX0 28 "TheLiningsInIt$Jacket" "pullCount" "I") ∈ lw_tbl ∧ ((((Cond.fieldLink RX0 28 "TheLiningsInIt$Jacket" "pullCount" "I" : Cond)).onTables && ((Cond.fieldLink RX0 28 "TheLiningsInIt$Jacket" "pullCount" "I" : Cond)).keeps) = true ∨ ∃ ty, (Cond.fieldLink RX0 28 "TheLiningsInIt$Jacket" "pullCount" "I") = .arrayClass ty) := ⟨zt_0 (List.mem_of_getElem? (i := 78) (by decide +kernel)), good_of_word (by decide +kernel)⟩
theorem zg_145 : (Cond.code yX0_pullAt cX0_pullAt 2 (some (.object "TheLiningsInIt$Pull"))) ∈ lw_tbl ∧ ((((Cond.code yX0_pullAt cX0_pullAt 2 (some (.object "TheLiningsInIt$Pull")) : Cond)).onTables && ((Cond.code yX0_pullAt cX0_pullAt 2 (some (.object "TheLiningsInIt$Pull")) : Cond)).keeps) = true ∨ ∃ ty, (Cond.code yX0_pullAt cX0_pullAt 2 (some (.object "TheLiningsInIt$Pull"))) = .arrayClass ty) := ⟨zt_1 (List.mem_of_getElem? (i := 57) rfl), good_of_word (by decide +kernel)⟩
theorem zg_146 : (Cond.initialized RX0) ∈ lw_tbl ∧ ((((Cond.initialized RX0 : Cond)).onTables && ((Cond.initialized RX0 : Cond)).keeps) = true ∨ ∃ ty, (Cond.initialized RX0) = .arrayClass ty) := ⟨zt_0 (List.mem_of_getElem? (i := 2) (by decide +kernel)), good_of_word (by decide +kernel)⟩
theorem zg_147 : (Cond.selects RX0 yX0_pullAt yX0_pullAt) ∈ lw_tbl ∧ ((((Cond.selects RX0 yX0_pullAt yX0_pullAt : Cond)).onTables && ((Cond.selects RX0 yX0_pullAt yX0_pullAt : Cond)).keeps) = true ∨ ∃ ty, (Cond.selects RX0 yX0_pullAt yX0_pullAt) = .arrayClass ty) := ⟨zt_1 (List.mem_of_getElem? (i := 56) (by decide +kernel)), good_of_word (by decide +kernel)⟩
theorem zg_148 : (Cond.instanceMethod yX0_pullAt) ∈ lw_tbl ∧ ((((Cond.instanceMethod yX0_pullAt : Cond)).onTables && ((Cond.instanceMethod yX0_pullAt : Cond)).keeps) = true ∨ ∃ ty, (Cond.instanceMethod yX0_pullAt) = .arrayClass ty) := ⟨zt_1 (List.mem_of_getElem? (i := 55) (by decide +kernel)), good_of_word (by decide +kernel)⟩
theorem zg_149 : (Cond.methodLink RX7 100 yX0_pullAt) ∈ lw_tbl ∧ ((((Cond.methodLink RX7 100 yX0_pullAt : Cond)).onTables && ((Cond.methodLink RX7 100 yX0_pullAt : Cond)).keeps) = true ∨ ∃ ty, (Cond.methodLink RX7 100 yX0_pullAt) = .arrayClass ty) := ⟨zt_1 (List.mem_of_getElem? (i := 54) (by decide +kernel)), good_of_word (by decide +kernel)⟩
theorem zg_150 : (Cond.fieldLink RX7 18 "TheLiningsInIt" "now" "LTheLiningsInIt$Jacket;") ∈ lw_tbl ∧ ((((Cond.fieldLink RX7 18 "TheLiningsInIt" "now" "LTheLiningsInIt$Jacket;" : Cond)).onTables && ((Cond.fieldLink RX7 18 "TheLiningsInIt" "now" "LTheLiningsInIt$Jacket;" : Cond)).keeps) = true ∨ ∃ ty, (Cond.fieldLink RX7 18 "TheLiningsInIt" "now" "LTheLiningsInIt$Jacket;") = .arrayClass ty) := ⟨zt_0 (List.mem_of_getElem? (i := 214) (by decide +kernel)), good_of_word (by decide +kernel)⟩
theorem zg_151 : (u_lay RX0 TX0 8) ∈ lw_tbl ∧ ((((u_lay RX0 TX0 8 : Cond)).onTables && ((u_lay RX0 TX0 8 : Cond)).keeps) = true ∨ ∃ ty, (u_lay RX0 TX0 8) = .arrayClass ty) := ⟨zt_0 (List.mem_of_getElem? (i := 107) (by decide +kernel)), good_of_word (by decide +kernel)⟩
theorem zg_152 : (u_lay RX0 TX0 7) ∈ lw_tbl ∧ ((((u_lay RX0 TX0 7 : Cond)).onTables && ((u_lay RX0 TX0 7 : Cond)).keeps) = true ∨ ∃ ty, (u_lay RX0 TX0 7) = .arrayClass ty) := ⟨zt_0 (List.mem_of_getElem? (i := 105) (by decide +kernel)), good_of_word (by decide +kernel)⟩
theorem zg_153 : (u_lay RX0 TX0 6) ∈ lw_tbl ∧ ((((u_lay RX0 TX0 6 : Cond)).onTables && ((u_lay RX0 TX0 6 : Cond)).keeps) = true ∨ ∃ ty, (u_lay RX0 TX0 6) = .arrayClass ty) := ⟨zt_0 (List.mem_of_getElem? (i := 103) (by decide +kernel)), good_of_word (by decide +kernel)⟩
theorem zg_154 : (u_lay RX0 TX0 5) ∈ lw_tbl ∧ ((((u_lay RX0 TX0 5 : Cond)).onTables && ((u_lay RX0 TX0 5 : Cond)).keeps) = true ∨ ∃ ty, (u_lay RX0 TX0 5) = .arrayClass ty) := ⟨zt_0 (List.mem_of_getElem? (i := 101) (by decide +kernel)), good_of_word (by decide +kernel)⟩
theorem zg_155 : (u_lay RX0 TX0 4) ∈ lw_tbl ∧ ((((u_lay RX0 TX0 4 : Cond)).onTables && ((u_lay RX0 TX0 4 : Cond)).keeps) = true ∨ ∃ ty, (u_lay RX0 TX0 4) = .arrayClass ty) := ⟨zt_0 (List.mem_of_getElem? (i := 99) (by decide +kernel)), good_of_word (by decide +kernel)⟩
theorem zg_156 : (u_lay RX0 TX0 3) ∈ lw_tbl ∧ ((((u_lay RX0 TX0 3 : Cond)).onTables && ((u_lay RX0 TX0 3 : Cond)).keeps) = true ∨ ∃ ty, (u_lay RX0 TX0 3) = .arrayClass ty) := ⟨zt_0 (List.mem_of_getElem? (i := 97) (by decide +kernel)), good_of_word (by decide +kernel)⟩
theorem zg_157 : (u_lay RX0 TX0 2) ∈ lw_tbl ∧ ((((u_lay RX0 TX0 2 : Cond)).onTables && ((u_lay RX0 TX0 2 : Cond)).keeps) = true ∨ ∃ ty, (u_lay RX0 TX0 2) = .arrayClass ty) := ⟨zt_0 (List.mem_of_getElem? (i := 95) (by decide +kernel)), good_of_word (by decide +kernel)⟩
theorem zg_158 : (u_lay RX0 TX0 1) ∈ lw_tbl ∧ ((((u_lay RX0 TX0 1 : Cond)).onTables && ((u_lay RX0 TX0 1 : Cond)).keeps) = true ∨ ∃ ty, (u_lay RX0 TX0 1) = .arrayClass ty) := ⟨zt_0 (List.mem_of_getElem? (i := 93) (by decide +kernel)), good_of_word (by decide +kernel)⟩
theorem zg_159 : (u_lay RX0 TX0 0) ∈ lw_tbl ∧ ((((u_lay RX0 TX0 0 : Cond)).onTables && ((u_lay RX0 TX0 0 : Cond)).keeps) = true ∨ ∃ ty, (u_lay RX0 TX0 0) = .arrayClass ty) := ⟨zt_0 (List.mem_of_getElem? (i := 91) (by decide +kernel)), good_of_word (by decide +kernel)⟩
theorem gl_wsX00 : GoodIn lw_tbl wsX00 := (zl_cons zg_159 (zl_cons zg_158 (zl_cons zg_157 (zl_cons zg_156 (zl_cons zg_155 (zl_cons zg_154 (zl_cons zg_153 (zl_cons zg_152 (zl_cons zg_151 zl_nil)))))))))
theorem gl_wsX7_show : GoodIn lw_tbl wsX7_show := (zl_cons zg_142 (goodIn_app (goodIn_app (goodIn_app (zl_cons zg_150 (zl_cons zg_125 (zl_cons zg_24 (zl_cons zg_23 (zl_cons zg_22 (zl_cons zg_21 (zl_cons zg_20 (zl_cons zg_19 (zl_cons zg_18 (zl_cons zg_17 (zl_cons zg_16 (zl_cons zg_149 (zl_cons zg_148 (zl_cons zg_147 (zl_cons zg_146 (zl_cons zg_145 (zl_cons zg_144 (zl_cons zg_143 (zl_cons zg_15 (zl_cons zg_14 (zl_cons zg_13 (zl_cons zg_12 (zl_cons zg_11 zl_nil))))))))))))))))))))))) gl_wsX70) gl_wsX40) gl_wsX00))
theorem zg_160 : (Cond.selects RX7 yX7_show yX7_show) ∈ lw_tbl ∧ ((((Cond.selects RX7 yX7_show yX7_show : Cond)).onTables && ((Cond.selects RX7 yX7_show yX7_show : Cond)).keeps) = true ∨ ∃ ty, (Cond.selects RX7 yX7_show yX7_show) = .arrayClass ty) := ⟨zt_1 (List.mem_of_getElem? (i := 52) (by decide +kernel)), good_of_word (by decide +kernel)⟩
theorem zg_161 : (Cond.instanceMethod yX7_show) ∈ lw_tbl ∧ ((((Cond.instanceMethod yX7_show : Cond)).onTables && ((Cond.instanceMethod yX7_show : Cond)).keeps) = true ∨ ∃ ty, (Cond.instanceMethod yX7_show) = .arrayClass ty) := ⟨zt_1 (List.mem_of_getElem? (i := 51) (by decide +kernel)), good_of_word (by decide +kernel)⟩
theorem zg_162 : (Cond.methodLink RL 35 yX7_show) ∈ lw_tbl ∧ ((((Cond.methodLink RL 35 yX7_show : Cond)).onTables && ((Cond.methodLink RL 35 yX7_show : Cond)).keeps) = true ∨ ∃ ty, (Cond.methodLink RL 35 yX7_show) = .arrayClass ty) := ⟨zt_1 (List.mem_of_getElem? (i := 50) (by decide +kernel)), good_of_word (by decide +kernel)⟩
theorem gq_35 : GoodIn lw_tbl (wsV RL 35 RX7 yX7_show wsX7_show) := goodIn_app (zl_cons zg_162 (zl_cons zg_161 (zl_cons zg_160 (zl_cons zg_21 zl_nil)))) gl_wsX7_show
theorem zg_163 : (Cond.code yX8_show cX8_show 3 (some .int)) ∈ lw_tbl ∧ ((((Cond.code yX8_show cX8_show 3 (some .int) : Cond)).onTables && ((Cond.code yX8_show cX8_show 3 (some .int) : Cond)).keeps) = true ∨ ∃ ty, (Cond.code yX8_show cX8_show 3 (some .int)) = .arrayClass ty) := ⟨zt_4 (List.mem_of_getElem? (i := 73) rfl), good_of_word (by decide +kernel)⟩
theorem zg_164 : (Cond.fieldLink RX8 90 "TheLiningsInItModel" "pulls" "I") ∈ lw_tbl ∧ ((((Cond.fieldLink RX8 90 "TheLiningsInItModel" "pulls" "I" : Cond)).onTables && ((Cond.fieldLink RX8 90 "TheLiningsInItModel" "pulls" "I" : Cond)).keeps) = true ∨ ∃ ty, (Cond.fieldLink RX8 90 "TheLiningsInItModel" "pulls" "I") = .arrayClass ty) := ⟨zt_3 (List.mem_of_getElem? (i := 171) (by decide +kernel)), good_of_word (by decide +kernel)⟩
theorem zg_165 : (Cond.code yX8_isPull cX8_isPull 2 (some .boolean)) ∈ lw_tbl ∧ ((((Cond.code yX8_isPull cX8_isPull 2 (some .boolean) : Cond)).onTables && ((Cond.code yX8_isPull cX8_isPull 2 (some .boolean) : Cond)).keeps) = true ∨ ∃ ty, (Cond.code yX8_isPull cX8_isPull 2 (some .boolean)) = .arrayClass ty) := ⟨zt_4 (List.mem_of_getElem? (i := 77) rfl), good_of_word (by decide +kernel)⟩
theorem zg_166 : (Cond.selects RX8 yX8_isPull yX8_isPull) ∈ lw_tbl ∧ ((((Cond.selects RX8 yX8_isPull yX8_isPull : Cond)).onTables && ((Cond.selects RX8 yX8_isPull yX8_isPull : Cond)).keeps) = true ∨ ∃ ty, (Cond.selects RX8 yX8_isPull yX8_isPull) = .arrayClass ty) := ⟨zp_1 14 (by decide +kernel), good_of_word (by decide +kernel)⟩
theorem zg_167 : (Cond.instanceMethod yX8_isPull) ∈ lw_tbl ∧ ((((Cond.instanceMethod yX8_isPull : Cond)).onTables && ((Cond.instanceMethod yX8_isPull : Cond)).keeps) = true ∨ ∃ ty, (Cond.instanceMethod yX8_isPull) = .arrayClass ty) := ⟨zt_4 (List.mem_of_getElem? (i := 76) (by decide +kernel)), good_of_word (by decide +kernel)⟩
theorem zg_168 : (Cond.methodLink RX8 101 yX8_isPull) ∈ lw_tbl ∧ ((((Cond.methodLink RX8 101 yX8_isPull : Cond)).onTables && ((Cond.methodLink RX8 101 yX8_isPull : Cond)).keeps) = true ∨ ∃ ty, (Cond.methodLink RX8 101 yX8_isPull) = .arrayClass ty) := ⟨zt_4 (List.mem_of_getElem? (i := 74) (by decide +kernel)), good_of_word (by decide +kernel)⟩
theorem zg_169 : (Cond.fieldLink RX8 56 "TheLiningsInItModel" "shown" "[I") ∈ lw_tbl ∧ ((((Cond.fieldLink RX8 56 "TheLiningsInItModel" "shown" "[I" : Cond)).onTables && ((Cond.fieldLink RX8 56 "TheLiningsInItModel" "shown" "[I" : Cond)).keeps) = true ∨ ∃ ty, (Cond.fieldLink RX8 56 "TheLiningsInItModel" "shown" "[I") = .arrayClass ty) := ⟨zt_3 (List.mem_of_getElem? (i := 191) (by decide +kernel)), good_of_word (by decide +kernel)⟩
theorem gl_wsX8_show : GoodIn lw_tbl wsX8_show := (zl_cons zg_163 (goodIn_app (zl_cons zg_56 (zl_cons zg_169 (zl_cons zg_52 (zl_cons zg_51 (zl_cons zg_50 (zl_cons zg_49 (zl_cons zg_48 (zl_cons zg_168 (zl_cons zg_167 (zl_cons zg_166 (zl_cons zg_165 (zl_cons zg_164 (zl_cons zg_47 (zl_cons zg_46 (zl_cons zg_45 (zl_cons zg_44 (zl_cons zg_43 zl_nil))))))))))))))))) gl_wsX80))
theorem zg_170 : (Cond.selects RX8 yX8_show yX8_show) ∈ lw_tbl ∧ ((((Cond.selects RX8 yX8_show yX8_show : Cond)).onTables && ((Cond.selects RX8 yX8_show yX8_show : Cond)).keeps) = true ∨ ∃ ty, (Cond.selects RX8 yX8_show yX8_show) = .arrayClass ty) := ⟨zt_4 (List.mem_of_getElem? (i := 72) (by decide +kernel)), good_of_word (by decide +kernel)⟩
theorem zg_171 : (Cond.instanceMethod yX8_show) ∈ lw_tbl ∧ ((((Cond.instanceMethod yX8_show : Cond)).onTables && ((Cond.instanceMethod yX8_show : Cond)).keeps) = true ∨ ∃ ty, (Cond.instanceMethod yX8_show) = .arrayClass ty) := ⟨zt_4 (List.mem_of_getElem? (i := 71) (by decide +kernel)), good_of_word (by decide +kernel)⟩
theorem zg_172 : (Cond.methodLink RL 39 yX8_show) ∈ lw_tbl ∧ ((((Cond.methodLink RL 39 yX8_show : Cond)).onTables && ((Cond.methodLink RL 39 yX8_show : Cond)).keeps) = true ∨ ∃ ty, (Cond.methodLink RL 39 yX8_show) = .arrayClass ty) := ⟨zt_4 (List.mem_of_getElem? (i := 70) (by decide +kernel)), good_of_word (by decide +kernel)⟩
theorem gq_39 : GoodIn lw_tbl (wsV RL 39 RX8 yX8_show wsX8_show) := goodIn_app (zl_cons zg_172 (zl_cons zg_171 (zl_cons zg_170 (zl_cons zg_49 zl_nil)))) gl_wsX8_show
theorem zg_173 : (Cond.code yX7_holds cX7_holds 3 (some .int)) ∈ lw_tbl ∧ ((((Cond.code yX7_holds cX7_holds 3 (some .int) : Cond)).onTables && ((Cond.code yX7_holds cX7_holds 3 (some .int) : Cond)).keeps) = true ∨ ∃ ty, (Cond.code yX7_holds cX7_holds 3 (some .int)) = .arrayClass ty) := ⟨zt_1 (List.mem_of_getElem? (i := 62) rfl), good_of_word (by decide +kernel)⟩
theorem gl_wsX7_holds : GoodIn lw_tbl wsX7_holds := (zl_cons zg_173 (goodIn_app (goodIn_app (zl_cons zg_125 (zl_cons zg_24 (zl_cons zg_23 (zl_cons zg_22 (zl_cons zg_21 (zl_cons zg_20 (zl_cons zg_19 (zl_cons zg_18 (zl_cons zg_17 (zl_cons zg_16 zl_nil)))))))))) gl_wsX40) gl_wsX70))
theorem zg_174 : (Cond.selects RX7 yX7_holds yX7_holds) ∈ lw_tbl ∧ ((((Cond.selects RX7 yX7_holds yX7_holds : Cond)).onTables && ((Cond.selects RX7 yX7_holds yX7_holds : Cond)).keeps) = true ∨ ∃ ty, (Cond.selects RX7 yX7_holds yX7_holds) = .arrayClass ty) := ⟨zt_1 (List.mem_of_getElem? (i := 61) (by decide +kernel)), good_of_word (by decide +kernel)⟩
theorem zg_175 : (Cond.instanceMethod yX7_holds) ∈ lw_tbl ∧ ((((Cond.instanceMethod yX7_holds : Cond)).onTables && ((Cond.instanceMethod yX7_holds : Cond)).keeps) = true ∨ ∃ ty, (Cond.instanceMethod yX7_holds) = .arrayClass ty) := ⟨zt_1 (List.mem_of_getElem? (i := 60) (by decide +kernel)), good_of_word (by decide +kernel)⟩
theorem zg_176 : (Cond.methodLink RL 40 yX7_holds) ∈ lw_tbl ∧ ((((Cond.methodLink RL 40 yX7_holds : Cond)).onTables && ((Cond.methodLink RL 40 yX7_holds : Cond)).keeps) = true ∨ ∃ ty, (Cond.methodLink RL 40 yX7_holds) = .arrayClass ty) := ⟨zt_1 (List.mem_of_getElem? (i := 59) (by decide +kernel)), good_of_word (by decide +kernel)⟩
theorem gq_40 : GoodIn lw_tbl (wsV RL 40 RX7 yX7_holds wsX7_holds) := goodIn_app (zl_cons zg_176 (zl_cons zg_175 (zl_cons zg_174 (zl_cons zg_21 zl_nil)))) gl_wsX7_holds
theorem zg_177 : (Cond.code yX8_holds cX8_holds 2 (some .int)) ∈ lw_tbl ∧ ((((Cond.code yX8_holds cX8_holds 2 (some .int) : Cond)).onTables && ((Cond.code yX8_holds cX8_holds 2 (some .int) : Cond)).keeps) = true ∨ ∃ ty, (Cond.code yX8_holds cX8_holds 2 (some .int)) = .arrayClass ty) := ⟨zt_4 (List.mem_of_getElem? (i := 81) rfl), good_of_word (by decide +kernel)⟩
theorem gl_wsX8_holds : GoodIn lw_tbl wsX8_holds := (zl_cons zg_177 (goodIn_app (zl_cons zg_56 (zl_cons zg_55 (zl_cons zg_169 (zl_cons zg_52 (zl_cons zg_51 (zl_cons zg_50 (zl_cons zg_49 (zl_cons zg_48 zl_nil)))))))) gl_wsX80))
theorem zg_178 : (Cond.selects RX8 yX8_holds yX8_holds) ∈ lw_tbl ∧ ((((Cond.selects RX8 yX8_holds yX8_holds : Cond)).onTables && ((Cond.selects RX8 yX8_holds yX8_holds : Cond)).keeps) = true ∨ ∃ ty, (Cond.selects RX8 yX8_holds yX8_holds) = .arrayClass ty) := ⟨zt_4 (List.mem_of_getElem? (i := 80) (by decide +kernel)), good_of_word (by decide +kernel)⟩
theorem zg_179 : (Cond.instanceMethod yX8_holds) ∈ lw_tbl ∧ ((((Cond.instanceMethod yX8_holds : Cond)).onTables && ((Cond.instanceMethod yX8_holds : Cond)).keeps) = true ∨ ∃ ty, (Cond.instanceMethod yX8_holds) = .arrayClass ty) := ⟨zt_4 (List.mem_of_getElem? (i := 79) (by decide +kernel)), good_of_word (by decide +kernel)⟩
theorem zg_180 : (Cond.methodLink RL 44 yX8_holds) ∈ lw_tbl ∧ ((((Cond.methodLink RL 44 yX8_holds : Cond)).onTables && ((Cond.methodLink RL 44 yX8_holds : Cond)).keeps) = true ∨ ∃ ty, (Cond.methodLink RL 44 yX8_holds) = .arrayClass ty) := ⟨zt_4 (List.mem_of_getElem? (i := 78) (by decide +kernel)), good_of_word (by decide +kernel)⟩
theorem gq_44 : GoodIn lw_tbl (wsV RL 44 RX8 yX8_holds wsX8_holds) := goodIn_app (zl_cons zg_180 (zl_cons zg_179 (zl_cons zg_178 (zl_cons zg_49 zl_nil)))) gl_wsX8_holds
theorem zg_181 : (Cond.code yX7_says cX7_says 5 (some .int)) ∈ lw_tbl ∧ ((((Cond.code yX7_says cX7_says 5 (some .int) : Cond)).onTables && ((Cond.code yX7_says cX7_says 5 (some .int) : Cond)).keeps) = true ∨ ∃ ty, (Cond.code yX7_says cX7_says 5 (some .int)) = .arrayClass ty) := ⟨zt_1 (List.mem_of_getElem? (i := 66) rfl), good_of_word (by decide +kernel)⟩
theorem zg_182 : (Cond.fieldLink RX7 116 "TheLiningsInIt$Jacket" "hurry" "I") ∈ lw_tbl ∧ ((((Cond.fieldLink RX7 116 "TheLiningsInIt$Jacket" "hurry" "I" : Cond)).onTables && ((Cond.fieldLink RX7 116 "TheLiningsInIt$Jacket" "hurry" "I" : Cond)).keeps) = true ∨ ∃ ty, (Cond.fieldLink RX7 116 "TheLiningsInIt$Jacket" "hurry" "I") = .arrayClass ty) := ⟨zt_0 (List.mem_of_getElem? (i := 88) (by decide +kernel)), good_of_word (by decide +kernel)⟩
theorem zg_183 : (Cond.fieldLink RX7 110 "TheLiningsInIt$Pull" "takes" "I") ∈ lw_tbl ∧ ((((Cond.fieldLink RX7 110 "TheLiningsInIt$Pull" "takes" "I" : Cond)).onTables && ((Cond.fieldLink RX7 110 "TheLiningsInIt$Pull" "takes" "I" : Cond)).keeps) = true ∨ ∃ ty, (Cond.fieldLink RX7 110 "TheLiningsInIt$Pull" "takes" "I") = .arrayClass ty) := ⟨zt_1 (List.mem_of_getElem? (i := 115) (by decide +kernel)), good_of_word (by decide +kernel)⟩
theorem gl_wsX7_says_r1 : GoodIn lw_tbl wsX7_says_r1 := (zl_cons zg_125 (zl_cons zg_150 (zl_cons zg_183 (zl_cons zg_182 (zl_cons zg_24 (zl_cons zg_23 (zl_cons zg_22 (zl_cons zg_21 (zl_cons zg_20 (zl_cons zg_19 (zl_cons zg_18 (zl_cons zg_17 (zl_cons zg_16 (zl_cons zg_15 (zl_cons zg_14 (zl_cons zg_13 (zl_cons zg_12 (zl_cons zg_11 (zl_cons zg_149 (zl_cons zg_148 (zl_cons zg_147 (zl_cons zg_146 (zl_cons zg_145 (zl_cons zg_144 zl_nil))))))))))))))))))))))))
theorem zg_184 : (Cond.methodLink RX2 29 yX2_calmWaysAt) ∈ lw_tbl ∧ ((((Cond.methodLink RX2 29 yX2_calmWaysAt : Cond)).onTables && ((Cond.methodLink RX2 29 yX2_calmWaysAt : Cond)).keeps) = true ∨ ∃ ty, (Cond.methodLink RX2 29 yX2_calmWaysAt) = .arrayClass ty) := ⟨zt_1 (List.mem_of_getElem? (i := 82) (by decide +kernel)), good_of_word (by decide +kernel)⟩
theorem zg_185 : (Cond.code Lib.Math.max.name Lib.Math.max.code 2 (some .int)) ∈ lw_tbl ∧ ((((Cond.code Lib.Math.max.name Lib.Math.max.code 2 (some .int) : Cond)).onTables && ((Cond.code Lib.Math.max.name Lib.Math.max.code 2 (some .int) : Cond)).keeps) = true ∨ ∃ ty, (Cond.code Lib.Math.max.name Lib.Math.max.code 2 (some .int)) = .arrayClass ty) := ⟨zt_1 (List.mem_of_getElem? (i := 91) rfl), good_of_word (by decide +kernel)⟩
theorem zg_186 : (Cond.static Lib.Math.max.name) ∈ lw_tbl ∧ ((((Cond.static Lib.Math.max.name : Cond)).onTables && ((Cond.static Lib.Math.max.name : Cond)).keeps) = true ∨ ∃ ty, (Cond.static Lib.Math.max.name) = .arrayClass ty) := ⟨zt_1 (List.mem_of_getElem? (i := 90) (by decide +kernel)), good_of_word (by decide +kernel)⟩
theorem zg_187 : (Cond.methodLink RX2 39 Lib.Math.max.name) ∈ lw_tbl ∧ ((((Cond.methodLink RX2 39 Lib.Math.max.name : Cond)).onTables && ((Cond.methodLink RX2 39 Lib.Math.max.name : Cond)).keeps) = true ∨ ∃ ty, (Cond.methodLink RX2 39 Lib.Math.max.name) = .arrayClass ty) := ⟨zt_1 (List.mem_of_getElem? (i := 89) (by decide +kernel)), good_of_word (by decide +kernel)⟩
theorem zg_188 : (Cond.code Lib.Math.min.name Lib.Math.min.code 2 (some .int)) ∈ lw_tbl ∧ ((((Cond.code Lib.Math.min.name Lib.Math.min.code 2 (some .int) : Cond)).onTables && ((Cond.code Lib.Math.min.name Lib.Math.min.code 2 (some .int) : Cond)).keeps) = true ∨ ∃ ty, (Cond.code Lib.Math.min.name Lib.Math.min.code 2 (some .int)) = .arrayClass ty) := ⟨zt_1 (List.mem_of_getElem? (i := 88) rfl), good_of_word (by decide +kernel)⟩
theorem zg_189 : (Cond.initialized "java/lang/Math") ∈ lw_tbl ∧ ((((Cond.initialized "java/lang/Math" : Cond)).onTables && ((Cond.initialized "java/lang/Math" : Cond)).keeps) = true ∨ ∃ ty, (Cond.initialized "java/lang/Math") = .arrayClass ty) := ⟨zt_0 (List.mem_of_getElem? (i := 11) (by decide +kernel)), good_of_word (by decide +kernel)⟩
theorem zg_190 : (Cond.static Lib.Math.min.name) ∈ lw_tbl ∧ ((((Cond.static Lib.Math.min.name : Cond)).onTables && ((Cond.static Lib.Math.min.name : Cond)).keeps) = true ∨ ∃ ty, (Cond.static Lib.Math.min.name) = .arrayClass ty) := ⟨zt_1 (List.mem_of_getElem? (i := 87) (by decide +kernel)), good_of_word (by decide +kernel)⟩
theorem zg_191 : (Cond.methodLink RX2 33 Lib.Math.min.name) ∈ lw_tbl ∧ ((((Cond.methodLink RX2 33 Lib.Math.min.name : Cond)).onTables && ((Cond.methodLink RX2 33 Lib.Math.min.name : Cond)).keeps) = true ∨ ∃ ty, (Cond.methodLink RX2 33 Lib.Math.min.name) = .arrayClass ty) := ⟨zt_1 (List.mem_of_getElem? (i := 86) (by decide +kernel)), good_of_word (by decide +kernel)⟩
theorem zg_192 : (Cond.code yX2_waysAt cX2_waysAt 3 (some .int)) ∈ lw_tbl ∧ ((((Cond.code yX2_waysAt cX2_waysAt 3 (some .int) : Cond)).onTables && ((Cond.code yX2_waysAt cX2_waysAt 3 (some .int) : Cond)).keeps) = true ∨ ∃ ty, (Cond.code yX2_waysAt cX2_waysAt 3 (some .int)) = .arrayClass ty) := ⟨zt_1 (List.mem_of_getElem? (i := 81) rfl), good_of_word (by decide +kernel)⟩
theorem zg_193 : (Cond.selects RX2 yX2_waysAt yX2_waysAt) ∈ lw_tbl ∧ ((((Cond.selects RX2 yX2_waysAt yX2_waysAt : Cond)).onTables && ((Cond.selects RX2 yX2_waysAt yX2_waysAt : Cond)).keeps) = true ∨ ∃ ty, (Cond.selects RX2 yX2_waysAt yX2_waysAt) = .arrayClass ty) := ⟨zt_1 (List.mem_of_getElem? (i := 80) (by decide +kernel)), good_of_word (by decide +kernel)⟩
theorem zg_194 : (Cond.instanceMethod yX2_waysAt) ∈ lw_tbl ∧ ((((Cond.instanceMethod yX2_waysAt : Cond)).onTables && ((Cond.instanceMethod yX2_waysAt : Cond)).keeps) = true ∨ ∃ ty, (Cond.instanceMethod yX2_waysAt) = .arrayClass ty) := ⟨zt_1 (List.mem_of_getElem? (i := 79) (by decide +kernel)), good_of_word (by decide +kernel)⟩
theorem zg_195 : (Cond.methodLink RX7 119 yX2_waysAt) ∈ lw_tbl ∧ ((((Cond.methodLink RX7 119 yX2_waysAt : Cond)).onTables && ((Cond.methodLink RX7 119 yX2_waysAt : Cond)).keeps) = true ∨ ∃ ty, (Cond.methodLink RX7 119 yX2_waysAt) = .arrayClass ty) := ⟨zt_1 (List.mem_of_getElem? (i := 78) (by decide +kernel)), good_of_word (by decide +kernel)⟩
theorem zg_196 : (Cond.fieldLink RX2 15 "TheLiningsInIt$Pull" "a" "I") ∈ lw_tbl ∧ ((((Cond.fieldLink RX2 15 "TheLiningsInIt$Pull" "a" "I" : Cond)).onTables && ((Cond.fieldLink RX2 15 "TheLiningsInIt$Pull" "a" "I" : Cond)).keeps) = true ∨ ∃ ty, (Cond.fieldLink RX2 15 "TheLiningsInIt$Pull" "a" "I") = .arrayClass ty) := ⟨zt_1 (List.mem_of_getElem? (i := 110) (by decide +kernel)), good_of_word (by decide +kernel)⟩
theorem zg_197 : (Cond.code yX2_step cX2_step 1 (some .int)) ∈ lw_tbl ∧ ((((Cond.code yX2_step cX2_step 1 (some .int) : Cond)).onTables && ((Cond.code yX2_step cX2_step 1 (some .int) : Cond)).keeps) = true ∨ ∃ ty, (Cond.code yX2_step cX2_step 1 (some .int)) = .arrayClass ty) := ⟨zt_1 (List.mem_of_getElem? (i := 77) rfl), good_of_word (by decide +kernel)⟩
theorem zg_198 : (Cond.selects RX2 yX2_step yX2_step) ∈ lw_tbl ∧ ((((Cond.selects RX2 yX2_step yX2_step : Cond)).onTables && ((Cond.selects RX2 yX2_step yX2_step : Cond)).keeps) = true ∨ ∃ ty, (Cond.selects RX2 yX2_step yX2_step) = .arrayClass ty) := ⟨zt_1 (List.mem_of_getElem? (i := 76) (by decide +kernel)), good_of_word (by decide +kernel)⟩
theorem zg_199 : (Cond.instanceMethod yX2_step) ∈ lw_tbl ∧ ((((Cond.instanceMethod yX2_step : Cond)).onTables && ((Cond.instanceMethod yX2_step : Cond)).keeps) = true ∨ ∃ ty, (Cond.instanceMethod yX2_step) = .arrayClass ty) := ⟨zt_1 (List.mem_of_getElem? (i := 75) (by decide +kernel)), good_of_word (by decide +kernel)⟩
theorem zg_200 : (Cond.methodLink RX7 113 yX2_step) ∈ lw_tbl ∧ ((((Cond.methodLink RX7 113 yX2_step : Cond)).onTables && ((Cond.methodLink RX7 113 yX2_step : Cond)).keeps) = true ∨ ∃ ty, (Cond.methodLink RX7 113 yX2_step) = .arrayClass ty) := ⟨zt_1 (List.mem_of_getElem? (i := 74) (by decide +kernel)), good_of_word (by decide +kernel)⟩
theorem zg_201 : (Cond.fieldLink RX2 9 "TheLiningsInIt$Pull" "kind" "I") ∈ lw_tbl ∧ ((((Cond.fieldLink RX2 9 "TheLiningsInIt$Pull" "kind" "I" : Cond)).onTables && ((Cond.fieldLink RX2 9 "TheLiningsInIt$Pull" "kind" "I" : Cond)).keeps) = true ∨ ∃ ty, (Cond.fieldLink RX2 9 "TheLiningsInIt$Pull" "kind" "I") = .arrayClass ty) := ⟨zt_1 (List.mem_of_getElem? (i := 105) (by decide +kernel)), good_of_word (by decide +kernel)⟩
theorem zg_202 : (Cond.code yX2_isOf cX2_isOf 4 (some .boolean)) ∈ lw_tbl ∧ ((((Cond.code yX2_isOf cX2_isOf 4 (some .boolean) : Cond)).onTables && ((Cond.code yX2_isOf cX2_isOf 4 (some .boolean) : Cond)).keeps) = true ∨ ∃ ty, (Cond.code yX2_isOf cX2_isOf 4 (some .boolean)) = .arrayClass ty) := ⟨zt_1 (List.mem_of_getElem? (i := 70) rfl), good_of_word (by decide +kernel)⟩
theorem zg_203 : (Cond.initialized RX2) ∈ lw_tbl ∧ ((((Cond.initialized RX2 : Cond)).onTables && ((Cond.initialized RX2 : Cond)).keeps) = true ∨ ∃ ty, (Cond.initialized RX2) = .arrayClass ty) := ⟨zt_0 (List.mem_of_getElem? (i := 12) (by decide +kernel)), good_of_word (by decide +kernel)⟩
theorem zg_204 : (Cond.selects RX2 yX2_isOf yX2_isOf) ∈ lw_tbl ∧ ((((Cond.selects RX2 yX2_isOf yX2_isOf : Cond)).onTables && ((Cond.selects RX2 yX2_isOf yX2_isOf : Cond)).keeps) = true ∨ ∃ ty, (Cond.selects RX2 yX2_isOf yX2_isOf) = .arrayClass ty) := ⟨zt_1 (List.mem_of_getElem? (i := 69) (by decide +kernel)), good_of_word (by decide +kernel)⟩
theorem zg_205 : (Cond.instanceMethod yX2_isOf) ∈ lw_tbl ∧ ((((Cond.instanceMethod yX2_isOf : Cond)).onTables && ((Cond.instanceMethod yX2_isOf : Cond)).keeps) = true ∨ ∃ ty, (Cond.instanceMethod yX2_isOf) = .arrayClass ty) := ⟨zt_1 (List.mem_of_getElem? (i := 68) (by decide +kernel)), good_of_word (by decide +kernel)⟩
theorem zg_206 : (Cond.methodLink RX7 104 yX2_isOf) ∈ lw_tbl ∧ ((((Cond.methodLink RX7 104 yX2_isOf : Cond)).onTables && ((Cond.methodLink RX7 104 yX2_isOf : Cond)).keeps) = true ∨ ∃ ty, (Cond.methodLink RX7 104 yX2_isOf) = .arrayClass ty) := ⟨zt_1 (List.mem_of_getElem? (i := 67) (by decide +kernel)), good_of_word (by decide +kernel)⟩
theorem gl_wsX7_says_r2 : GoodIn lw_tbl wsX7_says_r2 := (zl_cons zg_143 (zl_cons zg_206 (zl_cons zg_205 (zl_cons zg_204 (zl_cons zg_203 (zl_cons zg_202 (zl_cons zg_201 (zl_cons zg_200 (zl_cons zg_199 (zl_cons zg_198 (zl_cons zg_197 (zl_cons zg_196 (zl_cons zg_195 (zl_cons zg_194 (zl_cons zg_193 (zl_cons zg_192 (zl_cons zg_191 (zl_cons zg_190 (zl_cons zg_189 (zl_cons zg_188 (zl_cons zg_187 (zl_cons zg_186 (zl_cons zg_185 (zl_cons zg_184 zl_nil))))))))))))))))))))))))
theorem zg_207 : (Cond.code yX2_calmWaysAt cX2_calmWaysAt 2 (some .int)) ∈ lw_tbl ∧ ((((Cond.code yX2_calmWaysAt cX2_calmWaysAt 2 (some .int) : Cond)).onTables && ((Cond.code yX2_calmWaysAt cX2_calmWaysAt 2 (some .int) : Cond)).keeps) = true ∨ ∃ ty, (Cond.code yX2_calmWaysAt cX2_calmWaysAt 2 (some .int)) = .arrayClass ty) := ⟨zt_1 (List.mem_of_getElem? (i := 85) rfl), good_of_word (by decide +kernel)⟩
theorem zg_208 : (Cond.selects RX2 yX2_calmWaysAt yX2_calmWaysAt) ∈ lw_tbl ∧ ((((Cond.selects RX2 yX2_calmWaysAt yX2_calmWaysAt : Cond)).onTables && ((Cond.selects RX2 yX2_calmWaysAt yX2_calmWaysAt : Cond)).keeps) = true ∨ ∃ ty, (Cond.selects RX2 yX2_calmWaysAt yX2_calmWaysAt) = .arrayClass ty) := ⟨zt_1 (List.mem_of_getElem? (i := 84) (by decide +kernel)), good_of_word (by decide +kernel)⟩
theorem zg_209 : (Cond.instanceMethod yX2_calmWaysAt) ∈ lw_tbl ∧ ((((Cond.instanceMethod yX2_calmWaysAt : Cond)).onTables && ((Cond.instanceMethod yX2_calmWaysAt : Cond)).keeps) = true ∨ ∃ ty, (Cond.instanceMethod yX2_calmWaysAt) = .arrayClass ty) := ⟨zt_1 (List.mem_of_getElem? (i := 83) (by decide +kernel)), good_of_word (by decide +kernel)⟩
theorem gl_wsX7_says_r3 : GoodIn lw_tbl wsX7_says_r3 := (zl_cons zg_209 (zl_cons zg_208 (zl_cons zg_207 zl_nil)))
theorem zg_210 : (u_lay RX2 TX2 2) ∈ lw_tbl ∧ ((((u_lay RX2 TX2 2 : Cond)).onTables && ((u_lay RX2 TX2 2 : Cond)).keeps) = true ∨ ∃ ty, (u_lay RX2 TX2 2) = .arrayClass ty) := ⟨zt_1 (List.mem_of_getElem? (i := 121) (by decide +kernel)), good_of_word (by decide +kernel)⟩
theorem zg_211 : (u_lay RX2 TX2 1) ∈ lw_tbl ∧ ((((u_lay RX2 TX2 1 : Cond)).onTables && ((u_lay RX2 TX2 1 : Cond)).keeps) = true ∨ ∃ ty, (u_lay RX2 TX2 1) = .arrayClass ty) := ⟨zt_1 (List.mem_of_getElem? (i := 119) (by decide +kernel)), good_of_word (by decide +kernel)⟩
theorem zg_212 : (u_lay RX2 TX2 0) ∈ lw_tbl ∧ ((((u_lay RX2 TX2 0 : Cond)).onTables && ((u_lay RX2 TX2 0 : Cond)).keeps) = true ∨ ∃ ty, (u_lay RX2 TX2 0) = .arrayClass ty) := ⟨zt_1 (List.mem_of_getElem? (i := 117) (by decide +kernel)), good_of_word (by decide +kernel)⟩
theorem gl_wsX20 : GoodIn lw_tbl wsX20 := (zl_cons zg_212 (zl_cons zg_211 (zl_cons zg_210 zl_nil)))
theorem gl_wsX7_says : GoodIn lw_tbl wsX7_says := (zl_cons zg_181 (goodIn_app (goodIn_app (goodIn_app (goodIn_app (goodIn_app gl_wsX7_says_r1 (goodIn_app gl_wsX7_says_r2 gl_wsX7_says_r3)) gl_wsX40) gl_wsX70) gl_wsX20) gl_wsX00))
theorem zg_213 : (Cond.selects RX7 yX7_says yX7_says) ∈ lw_tbl ∧ ((((Cond.selects RX7 yX7_says yX7_says : Cond)).onTables && ((Cond.selects RX7 yX7_says yX7_says : Cond)).keeps) = true ∨ ∃ ty, (Cond.selects RX7 yX7_says yX7_says) = .arrayClass ty) := ⟨zt_1 (List.mem_of_getElem? (i := 65) (by decide +kernel)), good_of_word (by decide +kernel)⟩
theorem zg_214 : (Cond.instanceMethod yX7_says) ∈ lw_tbl ∧ ((((Cond.instanceMethod yX7_says : Cond)).onTables && ((Cond.instanceMethod yX7_says : Cond)).keeps) = true ∨ ∃ ty, (Cond.instanceMethod yX7_says) = .arrayClass ty) := ⟨zt_1 (List.mem_of_getElem? (i := 64) (by decide +kernel)), good_of_word (by decide +kernel)⟩
theorem zg_215 : (Cond.methodLink RL 45 yX7_says) ∈ lw_tbl ∧ ((((Cond.methodLink RL 45 yX7_says : Cond)).onTables && ((Cond.methodLink RL 45 yX7_says : Cond)).keeps) = true ∨ ∃ ty, (Cond.methodLink RL 45 yX7_says) = .arrayClass ty) := ⟨zt_1 (List.mem_of_getElem? (i := 63) (by decide +kernel)), good_of_word (by decide +kernel)⟩
theorem gq_45 : GoodIn lw_tbl (wsV RL 45 RX7 yX7_says wsX7_says) := goodIn_app (zl_cons zg_215 (zl_cons zg_214 (zl_cons zg_213 (zl_cons zg_21 zl_nil)))) gl_wsX7_says
theorem zg_216 : (Cond.code yX8_says cX8_says 6 (some .int)) ∈ lw_tbl ∧ ((((Cond.code yX8_says cX8_says 6 (some .int) : Cond)).onTables && ((Cond.code yX8_says cX8_says 6 (some .int) : Cond)).keeps) = true ∨ ∃ ty, (Cond.code yX8_says cX8_says 6 (some .int)) = .arrayClass ty) := ⟨zt_4 (List.mem_of_getElem? (i := 85) rfl), good_of_word (by decide +kernel)⟩
theorem zg_217 : (Cond.fieldLink RX8 135 "TheLiningsInItModel" "hurry" "I") ∈ lw_tbl ∧ ((((Cond.fieldLink RX8 135 "TheLiningsInItModel" "hurry" "I" : Cond)).onTables && ((Cond.fieldLink RX8 135 "TheLiningsInItModel" "hurry" "I" : Cond)).keeps) = true ∨ ∃ ty, (Cond.fieldLink RX8 135 "TheLiningsInItModel" "hurry" "I") = .arrayClass ty) := ⟨zt_3 (List.mem_of_getElem? (i := 177) (by decide +kernel)), good_of_word (by decide +kernel)⟩
theorem zg_218 : (Cond.code yX8_ways cX8_ways 4 (some .int)) ∈ lw_tbl ∧ ((((Cond.code yX8_ways cX8_ways 4 (some .int) : Cond)).onTables && ((Cond.code yX8_ways cX8_ways 4 (some .int) : Cond)).keeps) = true ∨ ∃ ty, (Cond.code yX8_ways cX8_ways 4 (some .int)) = .arrayClass ty) := ⟨zt_4 (List.mem_of_getElem? (i := 93) rfl), good_of_word (by decide +kernel)⟩
theorem zg_219 : (Cond.selects RX8 yX8_ways yX8_ways) ∈ lw_tbl ∧ ((((Cond.selects RX8 yX8_ways yX8_ways : Cond)).onTables && ((Cond.selects RX8 yX8_ways yX8_ways : Cond)).keeps) = true ∨ ∃ ty, (Cond.selects RX8 yX8_ways yX8_ways) = .arrayClass ty) := ⟨zp_2 0 (by decide +kernel), good_of_word (by decide +kernel)⟩
theorem zg_220 : (Cond.instanceMethod yX8_ways) ∈ lw_tbl ∧ ((((Cond.instanceMethod yX8_ways : Cond)).onTables && ((Cond.instanceMethod yX8_ways : Cond)).keeps) = true ∨ ∃ ty, (Cond.instanceMethod yX8_ways) = .arrayClass ty) := ⟨zt_4 (List.mem_of_getElem? (i := 92) (by decide +kernel)), good_of_word (by decide +kernel)⟩
theorem zg_221 : (Cond.methodLink RX8 107 yX8_ways) ∈ lw_tbl ∧ ((((Cond.methodLink RX8 107 yX8_ways : Cond)).onTables && ((Cond.methodLink RX8 107 yX8_ways : Cond)).keeps) = true ∨ ∃ ty, (Cond.methodLink RX8 107 yX8_ways) = .arrayClass ty) := ⟨zt_4 (List.mem_of_getElem? (i := 90) (by decide +kernel)), good_of_word (by decide +kernel)⟩
theorem zg_222 : (Cond.fieldLink RX8 32 "TheLiningsInItModel" "part" "[I") ∈ lw_tbl ∧ ((((Cond.fieldLink RX8 32 "TheLiningsInItModel" "part" "[I" : Cond)).onTables && ((Cond.fieldLink RX8 32 "TheLiningsInItModel" "part" "[I" : Cond)).keeps) = true ∨ ∃ ty, (Cond.fieldLink RX8 32 "TheLiningsInItModel" "part" "[I") = .arrayClass ty) := ⟨zt_3 (List.mem_of_getElem? (i := 183) (by decide +kernel)), good_of_word (by decide +kernel)⟩
theorem zg_223 : (Cond.code yX8_step cX8_step 2 (some .int)) ∈ lw_tbl ∧ ((((Cond.code yX8_step cX8_step 2 (some .int) : Cond)).onTables && ((Cond.code yX8_step cX8_step 2 (some .int) : Cond)).keeps) = true ∨ ∃ ty, (Cond.code yX8_step cX8_step 2 (some .int)) = .arrayClass ty) := ⟨zt_4 (List.mem_of_getElem? (i := 89) rfl), good_of_word (by decide +kernel)⟩
theorem zg_224 : (Cond.selects RX8 yX8_step yX8_step) ∈ lw_tbl ∧ ((((Cond.selects RX8 yX8_step yX8_step : Cond)).onTables && ((Cond.selects RX8 yX8_step yX8_step : Cond)).keeps) = true ∨ ∃ ty, (Cond.selects RX8 yX8_step yX8_step) = .arrayClass ty) := ⟨zp_1 15 (by decide +kernel), good_of_word (by decide +kernel)⟩
theorem zg_225 : (Cond.instanceMethod yX8_step) ∈ lw_tbl ∧ ((((Cond.instanceMethod yX8_step : Cond)).onTables && ((Cond.instanceMethod yX8_step : Cond)).keeps) = true ∨ ∃ ty, (Cond.instanceMethod yX8_step) = .arrayClass ty) := ⟨zt_4 (List.mem_of_getElem? (i := 88) (by decide +kernel)), good_of_word (by decide +kernel)⟩
theorem zg_226 : (Cond.methodLink RX8 104 yX8_step) ∈ lw_tbl ∧ ((((Cond.methodLink RX8 104 yX8_step : Cond)).onTables && ((Cond.methodLink RX8 104 yX8_step : Cond)).keeps) = true ∨ ∃ ty, (Cond.methodLink RX8 104 yX8_step) = .arrayClass ty) := ⟨zt_4 (List.mem_of_getElem? (i := 86) (by decide +kernel)), good_of_word (by decide +kernel)⟩
theorem zg_227 : (Cond.fieldLink RX8 35 "TheLiningsInItModel" "takes" "[I") ∈ lw_tbl ∧ ((((Cond.fieldLink RX8 35 "TheLiningsInItModel" "takes" "[I" : Cond)).onTables && ((Cond.fieldLink RX8 35 "TheLiningsInItModel" "takes" "[I" : Cond)).keeps) = true ∨ ∃ ty, (Cond.fieldLink RX8 35 "TheLiningsInItModel" "takes" "[I") = .arrayClass ty) := ⟨zt_3 (List.mem_of_getElem? (i := 184) (by decide +kernel)), good_of_word (by decide +kernel)⟩
theorem zg_228 : (Cond.fieldLink RX8 29 "TheLiningsInItModel" "kind" "[I") ∈ lw_tbl ∧ ((((Cond.fieldLink RX8 29 "TheLiningsInItModel" "kind" "[I" : Cond)).onTables && ((Cond.fieldLink RX8 29 "TheLiningsInItModel" "kind" "[I" : Cond)).keeps) = true ∨ ∃ ty, (Cond.fieldLink RX8 29 "TheLiningsInItModel" "kind" "[I") = .arrayClass ty) := ⟨zt_3 (List.mem_of_getElem? (i := 182) (by decide +kernel)), good_of_word (by decide +kernel)⟩
theorem gl_wsX8_says : GoodIn lw_tbl wsX8_says := (zl_cons zg_216 (goodIn_app (zl_cons zg_56 (zl_cons zg_169 (zl_cons zg_228 (zl_cons zg_227 (zl_cons zg_52 (zl_cons zg_51 (zl_cons zg_50 (zl_cons zg_49 (zl_cons zg_48 (zl_cons zg_47 (zl_cons zg_46 (zl_cons zg_45 (zl_cons zg_44 (zl_cons zg_43 (zl_cons zg_226 (zl_cons zg_225 (zl_cons zg_224 (zl_cons zg_223 (zl_cons zg_222 (zl_cons zg_221 (zl_cons zg_220 (zl_cons zg_219 (zl_cons zg_218 (zl_cons zg_217 zl_nil)))))))))))))))))))))))) gl_wsX80))
theorem zg_229 : (Cond.selects RX8 yX8_says yX8_says) ∈ lw_tbl ∧ ((((Cond.selects RX8 yX8_says yX8_says : Cond)).onTables && ((Cond.selects RX8 yX8_says yX8_says : Cond)).keeps) = true ∨ ∃ ty, (Cond.selects RX8 yX8_says yX8_says) = .arrayClass ty) := ⟨zt_4 (List.mem_of_getElem? (i := 84) (by decide +kernel)), good_of_word (by decide +kernel)⟩
theorem zg_230 : (Cond.instanceMethod yX8_says) ∈ lw_tbl ∧ ((((Cond.instanceMethod yX8_says : Cond)).onTables && ((Cond.instanceMethod yX8_says : Cond)).keeps) = true ∨ ∃ ty, (Cond.instanceMethod yX8_says) = .arrayClass ty) := ⟨zt_4 (List.mem_of_getElem? (i := 83) (by decide +kernel)), good_of_word (by decide +kernel)⟩
theorem zg_231 : (Cond.methodLink RL 48 yX8_says) ∈ lw_tbl ∧ ((((Cond.methodLink RL 48 yX8_says : Cond)).onTables && ((Cond.methodLink RL 48 yX8_says : Cond)).keeps) = true ∨ ∃ ty, (Cond.methodLink RL 48 yX8_says) = .arrayClass ty) := ⟨zt_4 (List.mem_of_getElem? (i := 82) (by decide +kernel)), good_of_word (by decide +kernel)⟩
theorem gq_48 : GoodIn lw_tbl (wsV RL 48 RX8 yX8_says wsX8_says) := goodIn_app (zl_cons zg_231 (zl_cons zg_230 (zl_cons zg_229 (zl_cons zg_49 zl_nil)))) gl_wsX8_says
theorem zg_232 : (Cond.code yX7_pull cX7_pull 4 (some .int)) ∈ lw_tbl ∧ ((((Cond.code yX7_pull cX7_pull 4 (some .int) : Cond)).onTables && ((Cond.code yX7_pull cX7_pull 4 (some .int) : Cond)).keeps) = true ∨ ∃ ty, (Cond.code yX7_pull cX7_pull 4 (some .int)) = .arrayClass ty) := ⟨zt_1 (List.mem_of_getElem? (i := 95) rfl), good_of_word (by decide +kernel)⟩
theorem zg_233 : (Cond.code yX2_init cX2_init 4 none) ∈ lw_tbl ∧ ((((Cond.code yX2_init cX2_init 4 none : Cond)).onTables && ((Cond.code yX2_init cX2_init 4 none : Cond)).keeps) = true ∨ ∃ ty, (Cond.code yX2_init cX2_init 4 none) = .arrayClass ty) := ⟨zt_1 (List.mem_of_getElem? (i := 103) rfl), good_of_word (by decide +kernel)⟩
theorem zg_234 : (Cond.instanceMethod yX2_init) ∈ lw_tbl ∧ ((((Cond.instanceMethod yX2_init : Cond)).onTables && ((Cond.instanceMethod yX2_init : Cond)).keeps) = true ∨ ∃ ty, (Cond.instanceMethod yX2_init) = .arrayClass ty) := ⟨zt_1 (List.mem_of_getElem? (i := 102) (by decide +kernel)), good_of_word (by decide +kernel)⟩
theorem zg_235 : (Cond.methodLink RX0 70 yX2_init) ∈ lw_tbl ∧ ((((Cond.methodLink RX0 70 yX2_init : Cond)).onTables && ((Cond.methodLink RX0 70 yX2_init : Cond)).keeps) = true ∨ ∃ ty, (Cond.methodLink RX0 70 yX2_init) = .arrayClass ty) := ⟨zt_1 (List.mem_of_getElem? (i := 101) (by decide +kernel)), good_of_word (by decide +kernel)⟩
theorem zg_236 : (Cond.instantiable RX2 3) ∈ lw_tbl ∧ ((((Cond.instantiable RX2 3 : Cond)).onTables && ((Cond.instantiable RX2 3 : Cond)).keeps) = true ∨ ∃ ty, (Cond.instantiable RX2 3) = .arrayClass ty) := ⟨zt_1 (List.mem_of_getElem? (i := 100) (by decide +kernel)), good_of_word (by decide +kernel)⟩
theorem zg_237 : (Cond.classLink RX0 18 RX2) ∈ lw_tbl ∧ ((((Cond.classLink RX0 18 RX2 : Cond)).onTables && ((Cond.classLink RX0 18 RX2 : Cond)).keeps) = true ∨ ∃ ty, (Cond.classLink RX0 18 RX2) = .arrayClass ty) := ⟨zt_0 (List.mem_of_getElem? (i := 69) (by decide +kernel)), good_of_word (by decide +kernel)⟩
theorem zg_238 : (Cond.code yX0_addPull cX0_addPull 4 (some .int)) ∈ lw_tbl ∧ ((((Cond.code yX0_addPull cX0_addPull 4 (some .int) : Cond)).onTables && ((Cond.code yX0_addPull cX0_addPull 4 (some .int) : Cond)).keeps) = true ∨ ∃ ty, (Cond.code yX0_addPull cX0_addPull 4 (some .int)) = .arrayClass ty) := ⟨zt_1 (List.mem_of_getElem? (i := 99) rfl), good_of_word (by decide +kernel)⟩
theorem zg_239 : (Cond.selects RX0 yX0_addPull yX0_addPull) ∈ lw_tbl ∧ ((((Cond.selects RX0 yX0_addPull yX0_addPull : Cond)).onTables && ((Cond.selects RX0 yX0_addPull yX0_addPull : Cond)).keeps) = true ∨ ∃ ty, (Cond.selects RX0 yX0_addPull yX0_addPull) = .arrayClass ty) := ⟨zt_1 (List.mem_of_getElem? (i := 98) (by decide +kernel)), good_of_word (by decide +kernel)⟩
theorem zg_240 : (Cond.instanceMethod yX0_addPull) ∈ lw_tbl ∧ ((((Cond.instanceMethod yX0_addPull : Cond)).onTables && ((Cond.instanceMethod yX0_addPull : Cond)).keeps) = true ∨ ∃ ty, (Cond.instanceMethod yX0_addPull) = .arrayClass ty) := ⟨zt_1 (List.mem_of_getElem? (i := 97) (by decide +kernel)), good_of_word (by decide +kernel)⟩
theorem zg_241 : (Cond.methodLink RX7 126 yX0_addPull) ∈ lw_tbl ∧ ((((Cond.methodLink RX7 126 yX0_addPull : Cond)).onTables && ((Cond.methodLink RX7 126 yX0_addPull : Cond)).keeps) = true ∨ ∃ ty, (Cond.methodLink RX7 126 yX0_addPull) = .arrayClass ty) := ⟨zt_1 (List.mem_of_getElem? (i := 96) (by decide +kernel)), good_of_word (by decide +kernel)⟩
theorem zg_242 : (Cond.fieldLink RX7 123 "TheLiningsInIt$Jacket" "pullCount" "I") ∈ lw_tbl ∧ ((((Cond.fieldLink RX7 123 "TheLiningsInIt$Jacket" "pullCount" "I" : Cond)).onTables && ((Cond.fieldLink RX7 123 "TheLiningsInIt$Jacket" "pullCount" "I" : Cond)).keeps) = true ∨ ∃ ty, (Cond.fieldLink RX7 123 "TheLiningsInIt$Jacket" "pullCount" "I") = .arrayClass ty) := ⟨zt_0 (List.mem_of_getElem? (i := 80) (by decide +kernel)), good_of_word (by decide +kernel)⟩
theorem gl_wsX7_pull_r1 : GoodIn lw_tbl wsX7_pull_r1 := (zl_cons zg_150 (zl_cons zg_242 (zl_cons zg_18 (zl_cons zg_17 (zl_cons zg_21 (zl_cons zg_16 (zl_cons zg_15 (zl_cons zg_14 (zl_cons zg_13 (zl_cons zg_12 (zl_cons zg_11 (zl_cons zg_241 (zl_cons zg_240 (zl_cons zg_239 (zl_cons zg_146 (zl_cons zg_238 (zl_cons zg_144 (zl_cons zg_143 (zl_cons zg_237 (zl_cons zg_236 (zl_cons zg_203 (zl_cons zg_235 (zl_cons zg_234 (zl_cons zg_233 zl_nil))))))))))))))))))))))))
theorem zg_243 : (Cond.fieldLink RX2 18 "TheLiningsInIt$Pull" "takes" "I") ∈ lw_tbl ∧ ((((Cond.fieldLink RX2 18 "TheLiningsInIt$Pull" "takes" "I" : Cond)).onTables && ((Cond.fieldLink RX2 18 "TheLiningsInIt$Pull" "takes" "I" : Cond)).keeps) = true ∨ ∃ ty, (Cond.fieldLink RX2 18 "TheLiningsInIt$Pull" "takes" "I") = .arrayClass ty) := ⟨zt_1 (List.mem_of_getElem? (i := 113) (by decide +kernel)), good_of_word (by decide +kernel)⟩
theorem zg_244 : (Cond.code objectInit ⟨#[0xb1]⟩ 1 none) ∈ lw_tbl ∧ ((((Cond.code objectInit ⟨#[0xb1]⟩ 1 none : Cond)).onTables && ((Cond.code objectInit ⟨#[0xb1]⟩ 1 none : Cond)).keeps) = true ∨ ∃ ty, (Cond.code objectInit ⟨#[0xb1]⟩ 1 none) = .arrayClass ty) := ⟨zt_0 (List.mem_of_getElem? (i := 24) rfl), good_of_word (by decide +kernel)⟩
theorem zg_245 : (Cond.instanceMethod objectInit) ∈ lw_tbl ∧ ((((Cond.instanceMethod objectInit : Cond)).onTables && ((Cond.instanceMethod objectInit : Cond)).keeps) = true ∨ ∃ ty, (Cond.instanceMethod objectInit) = .arrayClass ty) := ⟨zt_0 (List.mem_of_getElem? (i := 23) (by decide +kernel)), good_of_word (by decide +kernel)⟩
theorem zg_246 : (Cond.methodLink RX2 3 objectInit) ∈ lw_tbl ∧ ((((Cond.methodLink RX2 3 objectInit : Cond)).onTables && ((Cond.methodLink RX2 3 objectInit : Cond)).keeps) = true ∨ ∃ ty, (Cond.methodLink RX2 3 objectInit) = .arrayClass ty) := ⟨zt_1 (List.mem_of_getElem? (i := 104) (by decide +kernel)), good_of_word (by decide +kernel)⟩
theorem gl_wsX7_pull_r2 : GoodIn lw_tbl wsX7_pull_r2 := (zl_cons zg_246 (zl_cons zg_245 (zl_cons zg_244 (zl_cons zg_201 (zl_cons zg_196 (zl_cons zg_243 zl_nil))))))
theorem gl_wsX7_pull : GoodIn lw_tbl wsX7_pull := (zl_cons zg_232 (goodIn_app (goodIn_app (goodIn_app (goodIn_app gl_wsX7_pull_r1 gl_wsX7_pull_r2) gl_wsX70) gl_wsX00) gl_wsX20))
theorem zg_247 : (Cond.selects RX7 yX7_pull yX7_pull) ∈ lw_tbl ∧ ((((Cond.selects RX7 yX7_pull yX7_pull : Cond)).onTables && ((Cond.selects RX7 yX7_pull yX7_pull : Cond)).keeps) = true ∨ ∃ ty, (Cond.selects RX7 yX7_pull yX7_pull) = .arrayClass ty) := ⟨zt_1 (List.mem_of_getElem? (i := 94) (by decide +kernel)), good_of_word (by decide +kernel)⟩
theorem zg_248 : (Cond.instanceMethod yX7_pull) ∈ lw_tbl ∧ ((((Cond.instanceMethod yX7_pull : Cond)).onTables && ((Cond.instanceMethod yX7_pull : Cond)).keeps) = true ∨ ∃ ty, (Cond.instanceMethod yX7_pull) = .arrayClass ty) := ⟨zt_1 (List.mem_of_getElem? (i := 93) (by decide +kernel)), good_of_word (by decide +kernel)⟩
theorem zg_249 : (Cond.methodLink RL 49 yX7_pull) ∈ lw_tbl ∧ ((((Cond.methodLink RL 49 yX7_pull : Cond)).onTables && ((Cond.methodLink RL 49 yX7_pull : Cond)).keeps) = true ∨ ∃ ty, (Cond.methodLink RL 49 yX7_pull) = .arrayClass ty) := ⟨zt_1 (List.mem_of_getElem? (i := 92) (by decide +kernel)), good_of_word (by decide +kernel)⟩
theorem gq_49 : GoodIn lw_tbl (wsV RL 49 RX7 yX7_pull wsX7_pull) := goodIn_app (zl_cons zg_249 (zl_cons zg_248 (zl_cons zg_247 (zl_cons zg_21 zl_nil)))) gl_wsX7_pull
theorem zg_250 : (Cond.code yX8_pull cX8_pull 4 (some .int)) ∈ lw_tbl ∧ ((((Cond.code yX8_pull cX8_pull 4 (some .int) : Cond)).onTables && ((Cond.code yX8_pull cX8_pull 4 (some .int) : Cond)).keeps) = true ∨ ∃ ty, (Cond.code yX8_pull cX8_pull 4 (some .int)) = .arrayClass ty) := ⟨zt_4 (List.mem_of_getElem? (i := 97) rfl), good_of_word (by decide +kernel)⟩
theorem zg_251 : (Cond.code yX8_addsPull cX8_addsPull 4 (some .int)) ∈ lw_tbl ∧ ((((Cond.code yX8_addsPull cX8_addsPull 4 (some .int) : Cond)).onTables && ((Cond.code yX8_addsPull cX8_addsPull 4 (some .int) : Cond)).keeps) = true ∨ ∃ ty, (Cond.code yX8_addsPull cX8_addsPull 4 (some .int)) = .arrayClass ty) := ⟨zt_4 (List.mem_of_getElem? (i := 101) rfl), good_of_word (by decide +kernel)⟩
theorem zg_252 : (Cond.selects RX8 yX8_addsPull yX8_addsPull) ∈ lw_tbl ∧ ((((Cond.selects RX8 yX8_addsPull yX8_addsPull : Cond)).onTables && ((Cond.selects RX8 yX8_addsPull yX8_addsPull : Cond)).keeps) = true ∨ ∃ ty, (Cond.selects RX8 yX8_addsPull yX8_addsPull) = .arrayClass ty) := ⟨zp_2 1 (by decide +kernel), good_of_word (by decide +kernel)⟩
theorem zg_253 : (Cond.instanceMethod yX8_addsPull) ∈ lw_tbl ∧ ((((Cond.instanceMethod yX8_addsPull : Cond)).onTables && ((Cond.instanceMethod yX8_addsPull : Cond)).keeps) = true ∨ ∃ ty, (Cond.instanceMethod yX8_addsPull) = .arrayClass ty) := ⟨zt_4 (List.mem_of_getElem? (i := 100) (by decide +kernel)), good_of_word (by decide +kernel)⟩
theorem zg_254 : (Cond.methodLink RX8 111 yX8_addsPull) ∈ lw_tbl ∧ ((((Cond.methodLink RX8 111 yX8_addsPull : Cond)).onTables && ((Cond.methodLink RX8 111 yX8_addsPull : Cond)).keeps) = true ∨ ∃ ty, (Cond.methodLink RX8 111 yX8_addsPull) = .arrayClass ty) := ⟨zt_4 (List.mem_of_getElem? (i := 98) (by decide +kernel)), good_of_word (by decide +kernel)⟩
theorem gl_wsX8_pull : GoodIn lw_tbl wsX8_pull := (zl_cons zg_250 (goodIn_app (zl_cons zg_164 (zl_cons zg_47 (zl_cons zg_46 (zl_cons zg_45 (zl_cons zg_49 (zl_cons zg_44 (zl_cons zg_43 (zl_cons zg_254 (zl_cons zg_253 (zl_cons zg_252 (zl_cons zg_251 (zl_cons zg_228 (zl_cons zg_222 (zl_cons zg_227 zl_nil)))))))))))))) gl_wsX80))
theorem zg_255 : (Cond.selects RX8 yX8_pull yX8_pull) ∈ lw_tbl ∧ ((((Cond.selects RX8 yX8_pull yX8_pull : Cond)).onTables && ((Cond.selects RX8 yX8_pull yX8_pull : Cond)).keeps) = true ∨ ∃ ty, (Cond.selects RX8 yX8_pull yX8_pull) = .arrayClass ty) := ⟨zt_4 (List.mem_of_getElem? (i := 96) (by decide +kernel)), good_of_word (by decide +kernel)⟩
theorem zg_256 : (Cond.instanceMethod yX8_pull) ∈ lw_tbl ∧ ((((Cond.instanceMethod yX8_pull : Cond)).onTables && ((Cond.instanceMethod yX8_pull : Cond)).keeps) = true ∨ ∃ ty, (Cond.instanceMethod yX8_pull) = .arrayClass ty) := ⟨zt_4 (List.mem_of_getElem? (i := 95) (by decide +kernel)), good_of_word (by decide +kernel)⟩
theorem zg_257 : (Cond.methodLink RL 52 yX8_pull) ∈ lw_tbl ∧ ((((Cond.methodLink RL 52 yX8_pull : Cond)).onTables && ((Cond.methodLink RL 52 yX8_pull : Cond)).keeps) = true ∨ ∃ ty, (Cond.methodLink RL 52 yX8_pull) = .arrayClass ty) := ⟨zt_4 (List.mem_of_getElem? (i := 94) (by decide +kernel)), good_of_word (by decide +kernel)⟩
theorem gq_52 : GoodIn lw_tbl (wsV RL 52 RX8 yX8_pull wsX8_pull) := goodIn_app (zl_cons zg_257 (zl_cons zg_256 (zl_cons zg_255 (zl_cons zg_49 zl_nil)))) gl_wsX8_pull
theorem zg_258 : (Cond.code yX7_pullOf cX7_pullOf 4 (some .int)) ∈ lw_tbl ∧ ((((Cond.code yX7_pullOf cX7_pullOf 4 (some .int) : Cond)).onTables && ((Cond.code yX7_pullOf cX7_pullOf 4 (some .int) : Cond)).keeps) = true ∨ ∃ ty, (Cond.code yX7_pullOf cX7_pullOf 4 (some .int)) = .arrayClass ty) := ⟨zt_1 (List.mem_of_getElem? (i := 127) rfl), good_of_word (by decide +kernel)⟩
theorem zg_259 : (Cond.fieldLink RX7 133 "TheLiningsInIt$Pull" "a" "I") ∈ lw_tbl ∧ ((((Cond.fieldLink RX7 133 "TheLiningsInIt$Pull" "a" "I" : Cond)).onTables && ((Cond.fieldLink RX7 133 "TheLiningsInIt$Pull" "a" "I" : Cond)).keeps) = true ∨ ∃ ty, (Cond.fieldLink RX7 133 "TheLiningsInIt$Pull" "a" "I") = .arrayClass ty) := ⟨zt_1 (List.mem_of_getElem? (i := 112) (by decide +kernel)), good_of_word (by decide +kernel)⟩
theorem zg_260 : (Cond.fieldLink RX7 130 "TheLiningsInIt$Pull" "kind" "I") ∈ lw_tbl ∧ ((((Cond.fieldLink RX7 130 "TheLiningsInIt$Pull" "kind" "I" : Cond)).onTables && ((Cond.fieldLink RX7 130 "TheLiningsInIt$Pull" "kind" "I" : Cond)).keeps) = true ∨ ∃ ty, (Cond.fieldLink RX7 130 "TheLiningsInIt$Pull" "kind" "I") = .arrayClass ty) := ⟨zt_1 (List.mem_of_getElem? (i := 108) (by decide +kernel)), good_of_word (by decide +kernel)⟩
theorem gl_wsX7_pullOf_r1 : GoodIn lw_tbl wsX7_pullOf_r1 := (zl_cons zg_150 (zl_cons zg_260 (zl_cons zg_259 (zl_cons zg_183 (zl_cons zg_149 (zl_cons zg_148 (zl_cons zg_147 (zl_cons zg_146 (zl_cons zg_145 (zl_cons zg_144 (zl_cons zg_143 (zl_cons zg_17 (zl_cons zg_21 (zl_cons zg_16 (zl_cons zg_15 (zl_cons zg_14 (zl_cons zg_13 (zl_cons zg_12 (zl_cons zg_11 (zl_cons zg_18 (zl_cons zg_200 (zl_cons zg_199 (zl_cons zg_198 (zl_cons zg_203 zl_nil))))))))))))))))))))))))
theorem zg_261 : (Cond.code yX2_mayBe cX2_mayBe 3 (some .boolean)) ∈ lw_tbl ∧ ((((Cond.code yX2_mayBe cX2_mayBe 3 (some .boolean) : Cond)).onTables && ((Cond.code yX2_mayBe cX2_mayBe 3 (some .boolean) : Cond)).keeps) = true ∨ ∃ ty, (Cond.code yX2_mayBe cX2_mayBe 3 (some .boolean)) = .arrayClass ty) := ⟨zt_1 (List.mem_of_getElem? (i := 135) rfl), good_of_word (by decide +kernel)⟩
theorem zg_262 : (Cond.selects RX2 yX2_mayBe yX2_mayBe) ∈ lw_tbl ∧ ((((Cond.selects RX2 yX2_mayBe yX2_mayBe : Cond)).onTables && ((Cond.selects RX2 yX2_mayBe yX2_mayBe : Cond)).keeps) = true ∨ ∃ ty, (Cond.selects RX2 yX2_mayBe yX2_mayBe) = .arrayClass ty) := ⟨zt_1 (List.mem_of_getElem? (i := 134) (by decide +kernel)), good_of_word (by decide +kernel)⟩
theorem zg_263 : (Cond.instanceMethod yX2_mayBe) ∈ lw_tbl ∧ ((((Cond.instanceMethod yX2_mayBe : Cond)).onTables && ((Cond.instanceMethod yX2_mayBe : Cond)).keeps) = true ∨ ∃ ty, (Cond.instanceMethod yX2_mayBe) = .arrayClass ty) := ⟨zt_1 (List.mem_of_getElem? (i := 133) (by decide +kernel)), good_of_word (by decide +kernel)⟩
theorem zg_264 : (Cond.methodLink RX0 73 yX2_mayBe) ∈ lw_tbl ∧ ((((Cond.methodLink RX0 73 yX2_mayBe : Cond)).onTables && ((Cond.methodLink RX0 73 yX2_mayBe : Cond)).keeps) = true ∨ ∃ ty, (Cond.methodLink RX0 73 yX2_mayBe) = .arrayClass ty) := ⟨zt_1 (List.mem_of_getElem? (i := 132) (by decide +kernel)), good_of_word (by decide +kernel)⟩
theorem zg_265 : (Cond.fieldLink RX0 38 "TheLiningsInIt$Jacket" "seconds" "I") ∈ lw_tbl ∧ ((((Cond.fieldLink RX0 38 "TheLiningsInIt$Jacket" "seconds" "I" : Cond)).onTables && ((Cond.fieldLink RX0 38 "TheLiningsInIt$Jacket" "seconds" "I" : Cond)).keeps) = true ∨ ∃ ty, (Cond.fieldLink RX0 38 "TheLiningsInIt$Jacket" "seconds" "I") = .arrayClass ty) := ⟨zt_0 (List.mem_of_getElem? (i := 85) (by decide +kernel)), good_of_word (by decide +kernel)⟩
theorem zg_266 : (Cond.fieldLink RX0 32 "TheLiningsInIt$Jacket" "depth" "I") ∈ lw_tbl ∧ ((((Cond.fieldLink RX0 32 "TheLiningsInIt$Jacket" "depth" "I" : Cond)).onTables && ((Cond.fieldLink RX0 32 "TheLiningsInIt$Jacket" "depth" "I" : Cond)).keeps) = true ∨ ∃ ty, (Cond.fieldLink RX0 32 "TheLiningsInIt$Jacket" "depth" "I") = .arrayClass ty) := ⟨zt_0 (List.mem_of_getElem? (i := 81) (by decide +kernel)), good_of_word (by decide +kernel)⟩
theorem zg_267 : (Cond.code yX0_mayBe cX0_mayBe 2 (some .boolean)) ∈ lw_tbl ∧ ((((Cond.code yX0_mayBe cX0_mayBe 2 (some .boolean) : Cond)).onTables && ((Cond.code yX0_mayBe cX0_mayBe 2 (some .boolean) : Cond)).keeps) = true ∨ ∃ ty, (Cond.code yX0_mayBe cX0_mayBe 2 (some .boolean)) = .arrayClass ty) := ⟨zt_1 (List.mem_of_getElem? (i := 131) rfl), good_of_word (by decide +kernel)⟩
theorem zg_268 : (Cond.selects RX0 yX0_mayBe yX0_mayBe) ∈ lw_tbl ∧ ((((Cond.selects RX0 yX0_mayBe yX0_mayBe : Cond)).onTables && ((Cond.selects RX0 yX0_mayBe yX0_mayBe : Cond)).keeps) = true ∨ ∃ ty, (Cond.selects RX0 yX0_mayBe yX0_mayBe) = .arrayClass ty) := ⟨zt_1 (List.mem_of_getElem? (i := 130) (by decide +kernel)), good_of_word (by decide +kernel)⟩
theorem zg_269 : (Cond.instanceMethod yX0_mayBe) ∈ lw_tbl ∧ ((((Cond.instanceMethod yX0_mayBe : Cond)).onTables && ((Cond.instanceMethod yX0_mayBe : Cond)).keeps) = true ∨ ∃ ty, (Cond.instanceMethod yX0_mayBe) = .arrayClass ty) := ⟨zt_1 (List.mem_of_getElem? (i := 129) (by decide +kernel)), good_of_word (by decide +kernel)⟩
theorem zg_270 : (Cond.methodLink RX7 136 yX0_mayBe) ∈ lw_tbl ∧ ((((Cond.methodLink RX7 136 yX0_mayBe : Cond)).onTables && ((Cond.methodLink RX7 136 yX0_mayBe : Cond)).keeps) = true ∨ ∃ ty, (Cond.methodLink RX7 136 yX0_mayBe) = .arrayClass ty) := ⟨zt_1 (List.mem_of_getElem? (i := 128) (by decide +kernel)), good_of_word (by decide +kernel)⟩
theorem gl_wsX7_pullOf_r2 : GoodIn lw_tbl wsX7_pullOf_r2 := (zl_cons zg_197 (zl_cons zg_201 (zl_cons zg_196 (zl_cons zg_270 (zl_cons zg_269 (zl_cons zg_268 (zl_cons zg_267 (zl_cons zg_266 (zl_cons zg_265 (zl_cons zg_264 (zl_cons zg_263 (zl_cons zg_262 (zl_cons zg_261 (zl_cons zg_243 zl_nil))))))))))))))
theorem gl_wsX7_pullOf : GoodIn lw_tbl wsX7_pullOf := (zl_cons zg_258 (goodIn_app (goodIn_app (goodIn_app (goodIn_app gl_wsX7_pullOf_r1 gl_wsX7_pullOf_r2) gl_wsX70) gl_wsX20) gl_wsX00))
theorem zg_271 : (Cond.selects RX7 yX7_pullOf yX7_pullOf) ∈ lw_tbl ∧ ((((Cond.selects RX7 yX7_pullOf yX7_pullOf : Cond)).onTables && ((Cond.selects RX7 yX7_pullOf yX7_pullOf : Cond)).keeps) = true ∨ ∃ ty, (Cond.selects RX7 yX7_pullOf yX7_pullOf) = .arrayClass ty) := ⟨zt_1 (List.mem_of_getElem? (i := 126) (by decide +kernel)), good_of_word (by decide +kernel)⟩
theorem zg_272 : (Cond.instanceMethod yX7_pullOf) ∈ lw_tbl ∧ ((((Cond.instanceMethod yX7_pullOf : Cond)).onTables && ((Cond.instanceMethod yX7_pullOf : Cond)).keeps) = true ∨ ∃ ty, (Cond.instanceMethod yX7_pullOf) = .arrayClass ty) := ⟨zt_1 (List.mem_of_getElem? (i := 125) (by decide +kernel)), good_of_word (by decide +kernel)⟩
theorem zg_273 : (Cond.methodLink RL 53 yX7_pullOf) ∈ lw_tbl ∧ ((((Cond.methodLink RL 53 yX7_pullOf : Cond)).onTables && ((Cond.methodLink RL 53 yX7_pullOf : Cond)).keeps) = true ∨ ∃ ty, (Cond.methodLink RL 53 yX7_pullOf) = .arrayClass ty) := ⟨zt_1 (List.mem_of_getElem? (i := 124) (by decide +kernel)), good_of_word (by decide +kernel)⟩
theorem gq_53 : GoodIn lw_tbl (wsV RL 53 RX7 yX7_pullOf wsX7_pullOf) := goodIn_app (zl_cons zg_273 (zl_cons zg_272 (zl_cons zg_271 (zl_cons zg_21 zl_nil)))) gl_wsX7_pullOf
theorem zg_274 : (Cond.code yX8_pullOf cX8_pullOf 3 (some .int)) ∈ lw_tbl ∧ ((((Cond.code yX8_pullOf cX8_pullOf 3 (some .int) : Cond)).onTables && ((Cond.code yX8_pullOf cX8_pullOf 3 (some .int) : Cond)).keeps) = true ∨ ∃ ty, (Cond.code yX8_pullOf cX8_pullOf 3 (some .int)) = .arrayClass ty) := ⟨zt_4 (List.mem_of_getElem? (i := 105) rfl), good_of_word (by decide +kernel)⟩
theorem zg_275 : (Cond.code yX8_mayBe cX8_mayBe 4 (some .boolean)) ∈ lw_tbl ∧ ((((Cond.code yX8_mayBe cX8_mayBe 4 (some .boolean) : Cond)).onTables && ((Cond.code yX8_mayBe cX8_mayBe 4 (some .boolean) : Cond)).keeps) = true ∨ ∃ ty, (Cond.code yX8_mayBe cX8_mayBe 4 (some .boolean)) = .arrayClass ty) := ⟨zt_4 (List.mem_of_getElem? (i := 109) rfl), good_of_word (by decide +kernel)⟩
theorem zg_276 : (Cond.selects RX8 yX8_mayBe yX8_mayBe) ∈ lw_tbl ∧ ((((Cond.selects RX8 yX8_mayBe yX8_mayBe : Cond)).onTables && ((Cond.selects RX8 yX8_mayBe yX8_mayBe : Cond)).keeps) = true ∨ ∃ ty, (Cond.selects RX8 yX8_mayBe yX8_mayBe) = .arrayClass ty) := ⟨zp_2 2 (by decide +kernel), good_of_word (by decide +kernel)⟩
theorem zg_277 : (Cond.instanceMethod yX8_mayBe) ∈ lw_tbl ∧ ((((Cond.instanceMethod yX8_mayBe : Cond)).onTables && ((Cond.instanceMethod yX8_mayBe : Cond)).keeps) = true ∨ ∃ ty, (Cond.instanceMethod yX8_mayBe) = .arrayClass ty) := ⟨zt_4 (List.mem_of_getElem? (i := 108) (by decide +kernel)), good_of_word (by decide +kernel)⟩
theorem zg_278 : (Cond.methodLink RX8 118 yX8_mayBe) ∈ lw_tbl ∧ ((((Cond.methodLink RX8 118 yX8_mayBe : Cond)).onTables && ((Cond.methodLink RX8 118 yX8_mayBe : Cond)).keeps) = true ∨ ∃ ty, (Cond.methodLink RX8 118 yX8_mayBe) = .arrayClass ty) := ⟨zt_4 (List.mem_of_getElem? (i := 106) (by decide +kernel)), good_of_word (by decide +kernel)⟩
theorem zg_279 : (Cond.fieldLink RX8 13 "TheLiningsInItModel" "seconds" "I") ∈ lw_tbl ∧ ((((Cond.fieldLink RX8 13 "TheLiningsInItModel" "seconds" "I" : Cond)).onTables && ((Cond.fieldLink RX8 13 "TheLiningsInItModel" "seconds" "I" : Cond)).keeps) = true ∨ ∃ ty, (Cond.fieldLink RX8 13 "TheLiningsInItModel" "seconds" "I") = .arrayClass ty) := ⟨zt_3 (List.mem_of_getElem? (i := 176) (by decide +kernel)), good_of_word (by decide +kernel)⟩
theorem zg_280 : (Cond.fieldLink RX8 115 "TheLiningsInItModel" "depth" "I") ∈ lw_tbl ∧ ((((Cond.fieldLink RX8 115 "TheLiningsInItModel" "depth" "I" : Cond)).onTables && ((Cond.fieldLink RX8 115 "TheLiningsInItModel" "depth" "I" : Cond)).keeps) = true ∨ ∃ ty, (Cond.fieldLink RX8 115 "TheLiningsInItModel" "depth" "I") = .arrayClass ty) := ⟨zt_3 (List.mem_of_getElem? (i := 174) (by decide +kernel)), good_of_word (by decide +kernel)⟩
theorem gl_wsX8_pullOf : GoodIn lw_tbl wsX8_pullOf := (zl_cons zg_274 (goodIn_app (zl_cons zg_228 (zl_cons zg_222 (zl_cons zg_227 (zl_cons zg_280 (zl_cons zg_279 (zl_cons zg_168 (zl_cons zg_167 (zl_cons zg_166 (zl_cons zg_49 (zl_cons zg_165 (zl_cons zg_164 (zl_cons zg_47 (zl_cons zg_46 (zl_cons zg_45 (zl_cons zg_44 (zl_cons zg_43 (zl_cons zg_226 (zl_cons zg_225 (zl_cons zg_224 (zl_cons zg_223 (zl_cons zg_278 (zl_cons zg_277 (zl_cons zg_276 (zl_cons zg_275 zl_nil)))))))))))))))))))))))) gl_wsX80))
theorem zg_281 : (Cond.selects RX8 yX8_pullOf yX8_pullOf) ∈ lw_tbl ∧ ((((Cond.selects RX8 yX8_pullOf yX8_pullOf : Cond)).onTables && ((Cond.selects RX8 yX8_pullOf yX8_pullOf : Cond)).keeps) = true ∨ ∃ ty, (Cond.selects RX8 yX8_pullOf yX8_pullOf) = .arrayClass ty) := ⟨zt_4 (List.mem_of_getElem? (i := 104) (by decide +kernel)), good_of_word (by decide +kernel)⟩
theorem zg_282 : (Cond.instanceMethod yX8_pullOf) ∈ lw_tbl ∧ ((((Cond.instanceMethod yX8_pullOf : Cond)).onTables && ((Cond.instanceMethod yX8_pullOf : Cond)).keeps) = true ∨ ∃ ty, (Cond.instanceMethod yX8_pullOf) = .arrayClass ty) := ⟨zt_4 (List.mem_of_getElem? (i := 103) (by decide +kernel)), good_of_word (by decide +kernel)⟩
theorem zg_283 : (Cond.methodLink RL 56 yX8_pullOf) ∈ lw_tbl ∧ ((((Cond.methodLink RL 56 yX8_pullOf : Cond)).onTables && ((Cond.methodLink RL 56 yX8_pullOf : Cond)).keeps) = true ∨ ∃ ty, (Cond.methodLink RL 56 yX8_pullOf) = .arrayClass ty) := ⟨zt_4 (List.mem_of_getElem? (i := 102) (by decide +kernel)), good_of_word (by decide +kernel)⟩
theorem gq_56 : GoodIn lw_tbl (wsV RL 56 RX8 yX8_pullOf wsX8_pullOf) := goodIn_app (zl_cons zg_283 (zl_cons zg_282 (zl_cons zg_281 (zl_cons zg_49 zl_nil)))) gl_wsX8_pullOf
theorem zg_284 : (Cond.code yX7_teeth cX7_teeth 3 (some .int)) ∈ lw_tbl ∧ ((((Cond.code yX7_teeth cX7_teeth 3 (some .int) : Cond)).onTables && ((Cond.code yX7_teeth cX7_teeth 3 (some .int) : Cond)).keeps) = true ∨ ∃ ty, (Cond.code yX7_teeth cX7_teeth 3 (some .int)) = .arrayClass ty) := ⟨zt_1 (List.mem_of_getElem? (i := 139) rfl), good_of_word (by decide +kernel)⟩
theorem zg_285 : (Cond.fieldLink RX6 15 "TheLiningsInIt$Zip" "slacks" "[I") ∈ lw_tbl ∧ ((((Cond.fieldLink RX6 15 "TheLiningsInIt$Zip" "slacks" "[I" : Cond)).onTables && ((Cond.fieldLink RX6 15 "TheLiningsInIt$Zip" "slacks" "[I" : Cond)).keeps) = true ∨ ∃ ty, (Cond.fieldLink RX6 15 "TheLiningsInIt$Zip" "slacks" "[I") = .arrayClass ty) := ⟨zt_0 (List.mem_of_getElem? (i := 42) (by decide +kernel)), good_of_word (by decide +kernel)⟩
theorem zg_286 : (Cond.fieldLink RX6 9 "TheLiningsInIt$Zip" "lacking" "[Z") ∈ lw_tbl ∧ ((((Cond.fieldLink RX6 9 "TheLiningsInIt$Zip" "lacking" "[Z" : Cond)).onTables && ((Cond.fieldLink RX6 9 "TheLiningsInIt$Zip" "lacking" "[Z" : Cond)).keeps) = true ∨ ∃ ty, (Cond.fieldLink RX6 9 "TheLiningsInIt$Zip" "lacking" "[Z") = .arrayClass ty) := ⟨zt_0 (List.mem_of_getElem? (i := 39) (by decide +kernel)), good_of_word (by decide +kernel)⟩
theorem zg_287 : (Cond.fieldLink RX6 23 "TheLiningsInIt$Zip" "at" "I") ∈ lw_tbl ∧ ((((Cond.fieldLink RX6 23 "TheLiningsInIt$Zip" "at" "I" : Cond)).onTables && ((Cond.fieldLink RX6 23 "TheLiningsInIt$Zip" "at" "I" : Cond)).keeps) = true ∨ ∃ ty, (Cond.fieldLink RX6 23 "TheLiningsInIt$Zip" "at" "I") = .arrayClass ty) := ⟨zt_0 (List.mem_of_getElem? (i := 49) (by decide +kernel)), good_of_word (by decide +kernel)⟩
theorem zg_288 : (Cond.fieldLink RX6 19 "TheLiningsInIt$Zip" "size" "I") ∈ lw_tbl ∧ ((((Cond.fieldLink RX6 19 "TheLiningsInIt$Zip" "size" "I" : Cond)).onTables && ((Cond.fieldLink RX6 19 "TheLiningsInIt$Zip" "size" "I" : Cond)).keeps) = true ∨ ∃ ty, (Cond.fieldLink RX6 19 "TheLiningsInIt$Zip" "size" "I") = .arrayClass ty) := ⟨zt_0 (List.mem_of_getElem? (i := 46) (by decide +kernel)), good_of_word (by decide +kernel)⟩
theorem zg_289 : (Cond.code yX6_renew cX6_renew 3 none) ∈ lw_tbl ∧ ((((Cond.code yX6_renew cX6_renew 3 none : Cond)).onTables && ((Cond.code yX6_renew cX6_renew 3 none : Cond)).keeps) = true ∨ ∃ ty, (Cond.code yX6_renew cX6_renew 3 none) = .arrayClass ty) := ⟨zt_1 (List.mem_of_getElem? (i := 143) rfl), good_of_word (by decide +kernel)⟩
theorem zg_290 : (Cond.initialized RX6) ∈ lw_tbl ∧ ((((Cond.initialized RX6 : Cond)).onTables && ((Cond.initialized RX6 : Cond)).keeps) = true ∨ ∃ ty, (Cond.initialized RX6) = .arrayClass ty) := ⟨zt_0 (List.mem_of_getElem? (i := 3) (by decide +kernel)), good_of_word (by decide +kernel)⟩
theorem zg_291 : (Cond.selects RX6 yX6_renew yX6_renew) ∈ lw_tbl ∧ ((((Cond.selects RX6 yX6_renew yX6_renew : Cond)).onTables && ((Cond.selects RX6 yX6_renew yX6_renew : Cond)).keeps) = true ∨ ∃ ty, (Cond.selects RX6 yX6_renew yX6_renew) = .arrayClass ty) := ⟨zt_1 (List.mem_of_getElem? (i := 142) (by decide +kernel)), good_of_word (by decide +kernel)⟩
theorem zg_292 : (Cond.instanceMethod yX6_renew) ∈ lw_tbl ∧ ((((Cond.instanceMethod yX6_renew : Cond)).onTables && ((Cond.instanceMethod yX6_renew : Cond)).keeps) = true ∨ ∃ ty, (Cond.instanceMethod yX6_renew) = .arrayClass ty) := ⟨zt_1 (List.mem_of_getElem? (i := 141) (by decide +kernel)), good_of_word (by decide +kernel)⟩
theorem zg_293 : (Cond.methodLink RX7 149 yX6_renew) ∈ lw_tbl ∧ ((((Cond.methodLink RX7 149 yX6_renew : Cond)).onTables && ((Cond.methodLink RX7 149 yX6_renew : Cond)).keeps) = true ∨ ∃ ty, (Cond.methodLink RX7 149 yX6_renew) = .arrayClass ty) := ⟨zt_1 (List.mem_of_getElem? (i := 140) (by decide +kernel)), good_of_word (by decide +kernel)⟩
theorem zg_294 : (Cond.fieldLink RX7 144 "TheLiningsInIt$Zip" "size" "I") ∈ lw_tbl ∧ ((((Cond.fieldLink RX7 144 "TheLiningsInIt$Zip" "size" "I" : Cond)).onTables && ((Cond.fieldLink RX7 144 "TheLiningsInIt$Zip" "size" "I" : Cond)).keeps) = true ∨ ∃ ty, (Cond.fieldLink RX7 144 "TheLiningsInIt$Zip" "size" "I") = .arrayClass ty) := ⟨zt_0 (List.mem_of_getElem? (i := 48) (by decide +kernel)), good_of_word (by decide +kernel)⟩
theorem zg_295 : (Cond.fieldLink RX7 140 "TheLiningsInIt$Jacket" "zip" "LTheLiningsInIt$Zip;") ∈ lw_tbl ∧ ((((Cond.fieldLink RX7 140 "TheLiningsInIt$Jacket" "zip" "LTheLiningsInIt$Zip;" : Cond)).onTables && ((Cond.fieldLink RX7 140 "TheLiningsInIt$Jacket" "zip" "LTheLiningsInIt$Zip;" : Cond)).keeps) = true ∨ ∃ ty, (Cond.fieldLink RX7 140 "TheLiningsInIt$Jacket" "zip" "LTheLiningsInIt$Zip;") = .arrayClass ty) := ⟨zt_0 (List.mem_of_getElem? (i := 72) (by decide +kernel)), good_of_word (by decide +kernel)⟩
theorem zg_296 : (u_lay RX6 TX6 4) ∈ lw_tbl ∧ ((((u_lay RX6 TX6 4 : Cond)).onTables && ((u_lay RX6 TX6 4 : Cond)).keeps) = true ∨ ∃ ty, (u_lay RX6 TX6 4) = .arrayClass ty) := ⟨zt_0 (List.mem_of_getElem? (i := 64) (by decide +kernel)), good_of_word (by decide +kernel)⟩
theorem zg_297 : (u_lay RX6 TX6 3) ∈ lw_tbl ∧ ((((u_lay RX6 TX6 3 : Cond)).onTables && ((u_lay RX6 TX6 3 : Cond)).keeps) = true ∨ ∃ ty, (u_lay RX6 TX6 3) = .arrayClass ty) := ⟨zt_0 (List.mem_of_getElem? (i := 62) (by decide +kernel)), good_of_word (by decide +kernel)⟩
theorem zg_298 : (u_lay RX6 TX6 2) ∈ lw_tbl ∧ ((((u_lay RX6 TX6 2 : Cond)).onTables && ((u_lay RX6 TX6 2 : Cond)).keeps) = true ∨ ∃ ty, (u_lay RX6 TX6 2) = .arrayClass ty) := ⟨zt_0 (List.mem_of_getElem? (i := 60) (by decide +kernel)), good_of_word (by decide +kernel)⟩
theorem zg_299 : (u_lay RX6 TX6 1) ∈ lw_tbl ∧ ((((u_lay RX6 TX6 1 : Cond)).onTables && ((u_lay RX6 TX6 1 : Cond)).keeps) = true ∨ ∃ ty, (u_lay RX6 TX6 1) = .arrayClass ty) := ⟨zt_0 (List.mem_of_getElem? (i := 58) (by decide +kernel)), good_of_word (by decide +kernel)⟩
theorem zg_300 : (u_lay RX6 TX6 0) ∈ lw_tbl ∧ ((((u_lay RX6 TX6 0 : Cond)).onTables && ((u_lay RX6 TX6 0 : Cond)).keeps) = true ∨ ∃ ty, (u_lay RX6 TX6 0) = .arrayClass ty) := ⟨zt_0 (List.mem_of_getElem? (i := 56) (by decide +kernel)), good_of_word (by decide +kernel)⟩
theorem gl_wsX60 : GoodIn lw_tbl wsX60 := (zl_cons zg_300 (zl_cons zg_299 (zl_cons zg_298 (zl_cons zg_297 (zl_cons zg_296 zl_nil)))))
theorem gl_wsX7_teeth : GoodIn lw_tbl wsX7_teeth := (zl_cons zg_284 (goodIn_app (goodIn_app (goodIn_app (zl_cons zg_150 (zl_cons zg_295 (zl_cons zg_294 (zl_cons zg_18 (zl_cons zg_17 (zl_cons zg_21 (zl_cons zg_16 (zl_cons zg_15 (zl_cons zg_14 (zl_cons zg_13 (zl_cons zg_12 (zl_cons zg_11 (zl_cons zg_293 (zl_cons zg_292 (zl_cons zg_291 (zl_cons zg_290 (zl_cons zg_289 (zl_cons zg_288 (zl_cons zg_287 (zl_cons zg_286 (zl_cons zg_285 zl_nil))))))))))))))))))))) gl_wsX70) gl_wsX00) gl_wsX60))
theorem zg_301 : (Cond.selects RX7 yX7_teeth yX7_teeth) ∈ lw_tbl ∧ ((((Cond.selects RX7 yX7_teeth yX7_teeth : Cond)).onTables && ((Cond.selects RX7 yX7_teeth yX7_teeth : Cond)).keeps) = true ∨ ∃ ty, (Cond.selects RX7 yX7_teeth yX7_teeth) = .arrayClass ty) := ⟨zt_1 (List.mem_of_getElem? (i := 138) (by decide +kernel)), good_of_word (by decide +kernel)⟩
theorem zg_302 : (Cond.instanceMethod yX7_teeth) ∈ lw_tbl ∧ ((((Cond.instanceMethod yX7_teeth : Cond)).onTables && ((Cond.instanceMethod yX7_teeth : Cond)).keeps) = true ∨ ∃ ty, (Cond.instanceMethod yX7_teeth) = .arrayClass ty) := ⟨zt_1 (List.mem_of_getElem? (i := 137) (by decide +kernel)), good_of_word (by decide +kernel)⟩
theorem zg_303 : (Cond.methodLink RL 57 yX7_teeth) ∈ lw_tbl ∧ ((((Cond.methodLink RL 57 yX7_teeth : Cond)).onTables && ((Cond.methodLink RL 57 yX7_teeth : Cond)).keeps) = true ∨ ∃ ty, (Cond.methodLink RL 57 yX7_teeth) = .arrayClass ty) := ⟨zt_1 (List.mem_of_getElem? (i := 136) (by decide +kernel)), good_of_word (by decide +kernel)⟩
theorem gq_57 : GoodIn lw_tbl (wsV RL 57 RX7 yX7_teeth wsX7_teeth) := goodIn_app (zl_cons zg_303 (zl_cons zg_302 (zl_cons zg_301 (zl_cons zg_21 zl_nil)))) gl_wsX7_teeth
theorem zg_304 : (Cond.code yX8_teeth cX8_teeth 3 (some .int)) ∈ lw_tbl ∧ ((((Cond.code yX8_teeth cX8_teeth 3 (some .int) : Cond)).onTables && ((Cond.code yX8_teeth cX8_teeth 3 (some .int) : Cond)).keeps) = true ∨ ∃ ty, (Cond.code yX8_teeth cX8_teeth 3 (some .int)) = .arrayClass ty) := ⟨zt_4 (List.mem_of_getElem? (i := 113) rfl), good_of_word (by decide +kernel)⟩
theorem zg_305 : (Cond.fieldLink RX8 41 "TheLiningsInItModel" "slack" "[I") ∈ lw_tbl ∧ ((((Cond.fieldLink RX8 41 "TheLiningsInItModel" "slack" "[I" : Cond)).onTables && ((Cond.fieldLink RX8 41 "TheLiningsInItModel" "slack" "[I" : Cond)).keeps) = true ∨ ∃ ty, (Cond.fieldLink RX8 41 "TheLiningsInItModel" "slack" "[I") = .arrayClass ty) := ⟨zt_3 (List.mem_of_getElem? (i := 186) (by decide +kernel)), good_of_word (by decide +kernel)⟩
theorem zg_306 : (Cond.fieldLink RX8 38 "TheLiningsInItModel" "lacks" "[I") ∈ lw_tbl ∧ ((((Cond.fieldLink RX8 38 "TheLiningsInItModel" "lacks" "[I" : Cond)).onTables && ((Cond.fieldLink RX8 38 "TheLiningsInItModel" "lacks" "[I" : Cond)).keeps) = true ∨ ∃ ty, (Cond.fieldLink RX8 38 "TheLiningsInItModel" "lacks" "[I") = .arrayClass ty) := ⟨zt_3 (List.mem_of_getElem? (i := 185) (by decide +kernel)), good_of_word (by decide +kernel)⟩
theorem zg_307 : (Cond.fieldLink RX8 122 "TheLiningsInItModel" "at" "I") ∈ lw_tbl ∧ ((((Cond.fieldLink RX8 122 "TheLiningsInItModel" "at" "I" : Cond)).onTables && ((Cond.fieldLink RX8 122 "TheLiningsInItModel" "at" "I" : Cond)).keeps) = true ∨ ∃ ty, (Cond.fieldLink RX8 122 "TheLiningsInItModel" "at" "I") = .arrayClass ty) := ⟨zt_3 (List.mem_of_getElem? (i := 173) (by decide +kernel)), good_of_word (by decide +kernel)⟩
theorem zg_308 : (Cond.code yX8_sews cX8_sews 3 none) ∈ lw_tbl ∧ ((((Cond.code yX8_sews cX8_sews 3 none : Cond)).onTables && ((Cond.code yX8_sews cX8_sews 3 none : Cond)).keeps) = true ∨ ∃ ty, (Cond.code yX8_sews cX8_sews 3 none) = .arrayClass ty) := ⟨zt_4 (List.mem_of_getElem? (i := 117) rfl), good_of_word (by decide +kernel)⟩
theorem zg_309 : (Cond.selects RX8 yX8_sews yX8_sews) ∈ lw_tbl ∧ ((((Cond.selects RX8 yX8_sews yX8_sews : Cond)).onTables && ((Cond.selects RX8 yX8_sews yX8_sews : Cond)).keeps) = true ∨ ∃ ty, (Cond.selects RX8 yX8_sews yX8_sews) = .arrayClass ty) := ⟨zp_2 3 (by decide +kernel), good_of_word (by decide +kernel)⟩
theorem zg_310 : (Cond.instanceMethod yX8_sews) ∈ lw_tbl ∧ ((((Cond.instanceMethod yX8_sews : Cond)).onTables && ((Cond.instanceMethod yX8_sews : Cond)).keeps) = true ∨ ∃ ty, (Cond.instanceMethod yX8_sews) = .arrayClass ty) := ⟨zt_4 (List.mem_of_getElem? (i := 116) (by decide +kernel)), good_of_word (by decide +kernel)⟩
theorem zg_311 : (Cond.methodLink RX8 125 yX8_sews) ∈ lw_tbl ∧ ((((Cond.methodLink RX8 125 yX8_sews : Cond)).onTables && ((Cond.methodLink RX8 125 yX8_sews : Cond)).keeps) = true ∨ ∃ ty, (Cond.methodLink RX8 125 yX8_sews) = .arrayClass ty) := ⟨zt_4 (List.mem_of_getElem? (i := 114) (by decide +kernel)), good_of_word (by decide +kernel)⟩
theorem zg_312 : (Cond.fieldLink RX8 7 "TheLiningsInItModel" "teeth" "I") ∈ lw_tbl ∧ ((((Cond.fieldLink RX8 7 "TheLiningsInItModel" "teeth" "I" : Cond)).onTables && ((Cond.fieldLink RX8 7 "TheLiningsInItModel" "teeth" "I" : Cond)).keeps) = true ∨ ∃ ty, (Cond.fieldLink RX8 7 "TheLiningsInItModel" "teeth" "I") = .arrayClass ty) := ⟨zt_3 (List.mem_of_getElem? (i := 172) (by decide +kernel)), good_of_word (by decide +kernel)⟩
theorem gl_wsX8_teeth : GoodIn lw_tbl wsX8_teeth := (zl_cons zg_304 (goodIn_app (zl_cons zg_312 (zl_cons zg_47 (zl_cons zg_46 (zl_cons zg_45 (zl_cons zg_49 (zl_cons zg_44 (zl_cons zg_43 (zl_cons zg_311 (zl_cons zg_310 (zl_cons zg_309 (zl_cons zg_308 (zl_cons zg_307 (zl_cons zg_306 (zl_cons zg_305 zl_nil)))))))))))))) gl_wsX80))
theorem zg_313 : (Cond.selects RX8 yX8_teeth yX8_teeth) ∈ lw_tbl ∧ ((((Cond.selects RX8 yX8_teeth yX8_teeth : Cond)).onTables && ((Cond.selects RX8 yX8_teeth yX8_teeth : Cond)).keeps) = true ∨ ∃ ty, (Cond.selects RX8 yX8_teeth yX8_teeth) = .arrayClass ty) := ⟨zt_4 (List.mem_of_getElem? (i := 112) (by decide +kernel)), good_of_word (by decide +kernel)⟩
theorem zg_314 : (Cond.instanceMethod yX8_teeth) ∈ lw_tbl ∧ ((((Cond.instanceMethod yX8_teeth : Cond)).onTables && ((Cond.instanceMethod yX8_teeth : Cond)).keeps) = true ∨ ∃ ty, (Cond.instanceMethod yX8_teeth) = .arrayClass ty) := ⟨zt_4 (List.mem_of_getElem? (i := 111) (by decide +kernel)), good_of_word (by decide +kernel)⟩
theorem zg_315 : (Cond.methodLink RL 60 yX8_teeth) ∈ lw_tbl ∧ ((((Cond.methodLink RL 60 yX8_teeth : Cond)).onTables && ((Cond.methodLink RL 60 yX8_teeth : Cond)).keeps) = true ∨ ∃ ty, (Cond.methodLink RL 60 yX8_teeth) = .arrayClass ty) := ⟨zt_4 (List.mem_of_getElem? (i := 110) (by decide +kernel)), good_of_word (by decide +kernel)⟩
theorem gq_60 : GoodIn lw_tbl (wsV RL 60 RX8 yX8_teeth wsX8_teeth) := goodIn_app (zl_cons zg_315 (zl_cons zg_314 (zl_cons zg_313 (zl_cons zg_49 zl_nil)))) gl_wsX8_teeth
theorem zg_316 : (Cond.code yX7_lack cX7_lack 4 (some .int)) ∈ lw_tbl ∧ ((((Cond.code yX7_lack cX7_lack 4 (some .int) : Cond)).onTables && ((Cond.code yX7_lack cX7_lack 4 (some .int) : Cond)).keeps) = true ∨ ∃ ty, (Cond.code yX7_lack cX7_lack 4 (some .int)) = .arrayClass ty) := ⟨zt_1 (List.mem_of_getElem? (i := 147) rfl), good_of_word (by decide +kernel)⟩
theorem zg_317 : (Cond.code yX6_has cX6_has 2 (some .boolean)) ∈ lw_tbl ∧ ((((Cond.code yX6_has cX6_has 2 (some .boolean) : Cond)).onTables && ((Cond.code yX6_has cX6_has 2 (some .boolean) : Cond)).keeps) = true ∨ ∃ ty, (Cond.code yX6_has cX6_has 2 (some .boolean)) = .arrayClass ty) := ⟨zt_1 (List.mem_of_getElem? (i := 151) rfl), good_of_word (by decide +kernel)⟩
theorem zg_318 : (Cond.selects RX6 yX6_has yX6_has) ∈ lw_tbl ∧ ((((Cond.selects RX6 yX6_has yX6_has : Cond)).onTables && ((Cond.selects RX6 yX6_has yX6_has : Cond)).keeps) = true ∨ ∃ ty, (Cond.selects RX6 yX6_has yX6_has) = .arrayClass ty) := ⟨zt_1 (List.mem_of_getElem? (i := 150) (by decide +kernel)), good_of_word (by decide +kernel)⟩
theorem zg_319 : (Cond.instanceMethod yX6_has) ∈ lw_tbl ∧ ((((Cond.instanceMethod yX6_has : Cond)).onTables && ((Cond.instanceMethod yX6_has : Cond)).keeps) = true ∨ ∃ ty, (Cond.instanceMethod yX6_has) = .arrayClass ty) := ⟨zt_1 (List.mem_of_getElem? (i := 149) (by decide +kernel)), good_of_word (by decide +kernel)⟩
theorem zg_320 : (Cond.methodLink RX7 153 yX6_has) ∈ lw_tbl ∧ ((((Cond.methodLink RX7 153 yX6_has : Cond)).onTables && ((Cond.methodLink RX7 153 yX6_has : Cond)).keeps) = true ∨ ∃ ty, (Cond.methodLink RX7 153 yX6_has) = .arrayClass ty) := ⟨zt_1 (List.mem_of_getElem? (i := 148) (by decide +kernel)), good_of_word (by decide +kernel)⟩
theorem zg_321 : (Cond.fieldLink RX7 156 "TheLiningsInIt$Zip" "lacking" "[Z") ∈ lw_tbl ∧ ((((Cond.fieldLink RX7 156 "TheLiningsInIt$Zip" "lacking" "[Z" : Cond)).onTables && ((Cond.fieldLink RX7 156 "TheLiningsInIt$Zip" "lacking" "[Z" : Cond)).keeps) = true ∨ ∃ ty, (Cond.fieldLink RX7 156 "TheLiningsInIt$Zip" "lacking" "[Z") = .arrayClass ty) := ⟨zt_0 (List.mem_of_getElem? (i := 40) (by decide +kernel)), good_of_word (by decide +kernel)⟩
theorem gl_wsX7_lack : GoodIn lw_tbl wsX7_lack := (zl_cons zg_316 (goodIn_app (goodIn_app (goodIn_app (zl_cons zg_150 (zl_cons zg_295 (zl_cons zg_321 (zl_cons zg_320 (zl_cons zg_319 (zl_cons zg_318 (zl_cons zg_290 (zl_cons zg_317 (zl_cons zg_288 (zl_cons zg_15 (zl_cons zg_14 (zl_cons zg_13 (zl_cons zg_21 (zl_cons zg_12 (zl_cons zg_11 (zl_cons zg_18 (zl_cons zg_17 (zl_cons zg_16 zl_nil)))))))))))))))))) gl_wsX70) gl_wsX00) gl_wsX60))
theorem zg_322 : (Cond.selects RX7 yX7_lack yX7_lack) ∈ lw_tbl ∧ ((((Cond.selects RX7 yX7_lack yX7_lack : Cond)).onTables && ((Cond.selects RX7 yX7_lack yX7_lack : Cond)).keeps) = true ∨ ∃ ty, (Cond.selects RX7 yX7_lack yX7_lack) = .arrayClass ty) := ⟨zt_1 (List.mem_of_getElem? (i := 146) (by decide +kernel)), good_of_word (by decide +kernel)⟩
theorem zg_323 : (Cond.instanceMethod yX7_lack) ∈ lw_tbl ∧ ((((Cond.instanceMethod yX7_lack : Cond)).onTables && ((Cond.instanceMethod yX7_lack : Cond)).keeps) = true ∨ ∃ ty, (Cond.instanceMethod yX7_lack) = .arrayClass ty) := ⟨zt_1 (List.mem_of_getElem? (i := 145) (by decide +kernel)), good_of_word (by decide +kernel)⟩
theorem zg_324 : (Cond.methodLink RL 61 yX7_lack) ∈ lw_tbl ∧ ((((Cond.methodLink RL 61 yX7_lack : Cond)).onTables && ((Cond.methodLink RL 61 yX7_lack : Cond)).keeps) = true ∨ ∃ ty, (Cond.methodLink RL 61 yX7_lack) = .arrayClass ty) := ⟨zt_1 (List.mem_of_getElem? (i := 144) (by decide +kernel)), good_of_word (by decide +kernel)⟩
theorem gq_61 : GoodIn lw_tbl (wsV RL 61 RX7 yX7_lack wsX7_lack) := goodIn_app (zl_cons zg_324 (zl_cons zg_323 (zl_cons zg_322 (zl_cons zg_21 zl_nil)))) gl_wsX7_lack
theorem zg_325 : (Cond.code yX8_lack cX8_lack 4 (some .int)) ∈ lw_tbl ∧ ((((Cond.code yX8_lack cX8_lack 4 (some .int) : Cond)).onTables && ((Cond.code yX8_lack cX8_lack 4 (some .int) : Cond)).keeps) = true ∨ ∃ ty, (Cond.code yX8_lack cX8_lack 4 (some .int)) = .arrayClass ty) := ⟨zt_4 (List.mem_of_getElem? (i := 121) rfl), good_of_word (by decide +kernel)⟩
theorem zg_326 : (Cond.code yX8_isTooth cX8_isTooth 2 (some .boolean)) ∈ lw_tbl ∧ ((((Cond.code yX8_isTooth cX8_isTooth 2 (some .boolean) : Cond)).onTables && ((Cond.code yX8_isTooth cX8_isTooth 2 (some .boolean) : Cond)).keeps) = true ∨ ∃ ty, (Cond.code yX8_isTooth cX8_isTooth 2 (some .boolean)) = .arrayClass ty) := ⟨zt_4 (List.mem_of_getElem? (i := 125) rfl), good_of_word (by decide +kernel)⟩
theorem zg_327 : (Cond.selects RX8 yX8_isTooth yX8_isTooth) ∈ lw_tbl ∧ ((((Cond.selects RX8 yX8_isTooth yX8_isTooth : Cond)).onTables && ((Cond.selects RX8 yX8_isTooth yX8_isTooth : Cond)).keeps) = true ∨ ∃ ty, (Cond.selects RX8 yX8_isTooth yX8_isTooth) = .arrayClass ty) := ⟨zp_2 4 (by decide +kernel), good_of_word (by decide +kernel)⟩
theorem zg_328 : (Cond.instanceMethod yX8_isTooth) ∈ lw_tbl ∧ ((((Cond.instanceMethod yX8_isTooth : Cond)).onTables && ((Cond.instanceMethod yX8_isTooth : Cond)).keeps) = true ∨ ∃ ty, (Cond.instanceMethod yX8_isTooth) = .arrayClass ty) := ⟨zt_4 (List.mem_of_getElem? (i := 124) (by decide +kernel)), good_of_word (by decide +kernel)⟩
theorem zg_329 : (Cond.methodLink RX8 129 yX8_isTooth) ∈ lw_tbl ∧ ((((Cond.methodLink RX8 129 yX8_isTooth : Cond)).onTables && ((Cond.methodLink RX8 129 yX8_isTooth : Cond)).keeps) = true ∨ ∃ ty, (Cond.methodLink RX8 129 yX8_isTooth) = .arrayClass ty) := ⟨zt_4 (List.mem_of_getElem? (i := 122) (by decide +kernel)), good_of_word (by decide +kernel)⟩
theorem gl_wsX8_lack : GoodIn lw_tbl wsX8_lack := (zl_cons zg_325 (goodIn_app (zl_cons zg_306 (zl_cons zg_329 (zl_cons zg_328 (zl_cons zg_327 (zl_cons zg_49 (zl_cons zg_326 (zl_cons zg_312 (zl_cons zg_47 (zl_cons zg_46 (zl_cons zg_45 (zl_cons zg_44 (zl_cons zg_43 zl_nil)))))))))))) gl_wsX80))
theorem zg_330 : (Cond.selects RX8 yX8_lack yX8_lack) ∈ lw_tbl ∧ ((((Cond.selects RX8 yX8_lack yX8_lack : Cond)).onTables && ((Cond.selects RX8 yX8_lack yX8_lack : Cond)).keeps) = true ∨ ∃ ty, (Cond.selects RX8 yX8_lack yX8_lack) = .arrayClass ty) := ⟨zt_4 (List.mem_of_getElem? (i := 120) (by decide +kernel)), good_of_word (by decide +kernel)⟩
theorem zg_331 : (Cond.instanceMethod yX8_lack) ∈ lw_tbl ∧ ((((Cond.instanceMethod yX8_lack : Cond)).onTables && ((Cond.instanceMethod yX8_lack : Cond)).keeps) = true ∨ ∃ ty, (Cond.instanceMethod yX8_lack) = .arrayClass ty) := ⟨zt_4 (List.mem_of_getElem? (i := 119) (by decide +kernel)), good_of_word (by decide +kernel)⟩
theorem zg_332 : (Cond.methodLink RL 65 yX8_lack) ∈ lw_tbl ∧ ((((Cond.methodLink RL 65 yX8_lack : Cond)).onTables && ((Cond.methodLink RL 65 yX8_lack : Cond)).keeps) = true ∨ ∃ ty, (Cond.methodLink RL 65 yX8_lack) = .arrayClass ty) := ⟨zt_4 (List.mem_of_getElem? (i := 118) (by decide +kernel)), good_of_word (by decide +kernel)⟩
theorem gq_65 : GoodIn lw_tbl (wsV RL 65 RX8 yX8_lack wsX8_lack) := goodIn_app (zl_cons zg_332 (zl_cons zg_331 (zl_cons zg_330 (zl_cons zg_49 zl_nil)))) gl_wsX8_lack
theorem zg_333 : (Cond.code yX7_slack cX7_slack 4 (some .int)) ∈ lw_tbl ∧ ((((Cond.code yX7_slack cX7_slack 4 (some .int) : Cond)).onTables && ((Cond.code yX7_slack cX7_slack 4 (some .int) : Cond)).keeps) = true ∨ ∃ ty, (Cond.code yX7_slack cX7_slack 4 (some .int)) = .arrayClass ty) := ⟨zt_1 (List.mem_of_getElem? (i := 155) rfl), good_of_word (by decide +kernel)⟩
theorem zg_334 : (Cond.fieldLink RX7 160 "TheLiningsInIt$Zip" "slacks" "[I") ∈ lw_tbl ∧ ((((Cond.fieldLink RX7 160 "TheLiningsInIt$Zip" "slacks" "[I" : Cond)).onTables && ((Cond.fieldLink RX7 160 "TheLiningsInIt$Zip" "slacks" "[I" : Cond)).keeps) = true ∨ ∃ ty, (Cond.fieldLink RX7 160 "TheLiningsInIt$Zip" "slacks" "[I") = .arrayClass ty) := ⟨zt_0 (List.mem_of_getElem? (i := 43) (by decide +kernel)), good_of_word (by decide +kernel)⟩
theorem gl_wsX7_slack : GoodIn lw_tbl wsX7_slack := (zl_cons zg_333 (goodIn_app (goodIn_app (goodIn_app (zl_cons zg_150 (zl_cons zg_295 (zl_cons zg_334 (zl_cons zg_320 (zl_cons zg_319 (zl_cons zg_318 (zl_cons zg_290 (zl_cons zg_317 (zl_cons zg_288 (zl_cons zg_15 (zl_cons zg_14 (zl_cons zg_13 (zl_cons zg_21 (zl_cons zg_12 (zl_cons zg_11 (zl_cons zg_18 (zl_cons zg_17 (zl_cons zg_16 zl_nil)))))))))))))))))) gl_wsX70) gl_wsX00) gl_wsX60))
theorem zg_335 : (Cond.selects RX7 yX7_slack yX7_slack) ∈ lw_tbl ∧ ((((Cond.selects RX7 yX7_slack yX7_slack : Cond)).onTables && ((Cond.selects RX7 yX7_slack yX7_slack : Cond)).keeps) = true ∨ ∃ ty, (Cond.selects RX7 yX7_slack yX7_slack) = .arrayClass ty) := ⟨zt_1 (List.mem_of_getElem? (i := 154) (by decide +kernel)), good_of_word (by decide +kernel)⟩
theorem zg_336 : (Cond.instanceMethod yX7_slack) ∈ lw_tbl ∧ ((((Cond.instanceMethod yX7_slack : Cond)).onTables && ((Cond.instanceMethod yX7_slack : Cond)).keeps) = true ∨ ∃ ty, (Cond.instanceMethod yX7_slack) = .arrayClass ty) := ⟨zt_1 (List.mem_of_getElem? (i := 153) (by decide +kernel)), good_of_word (by decide +kernel)⟩
theorem zg_337 : (Cond.methodLink RL 66 yX7_slack) ∈ lw_tbl ∧ ((((Cond.methodLink RL 66 yX7_slack : Cond)).onTables && ((Cond.methodLink RL 66 yX7_slack : Cond)).keeps) = true ∨ ∃ ty, (Cond.methodLink RL 66 yX7_slack) = .arrayClass ty) := ⟨zt_1 (List.mem_of_getElem? (i := 152) (by decide +kernel)), good_of_word (by decide +kernel)⟩
theorem gq_66 : GoodIn lw_tbl (wsV RL 66 RX7 yX7_slack wsX7_slack) := goodIn_app (zl_cons zg_337 (zl_cons zg_336 (zl_cons zg_335 (zl_cons zg_21 zl_nil)))) gl_wsX7_slack
theorem zg_338 : (Cond.code yX8_slack cX8_slack 4 (some .int)) ∈ lw_tbl ∧ ((((Cond.code yX8_slack cX8_slack 4 (some .int) : Cond)).onTables && ((Cond.code yX8_slack cX8_slack 4 (some .int) : Cond)).keeps) = true ∨ ∃ ty, (Cond.code yX8_slack cX8_slack 4 (some .int)) = .arrayClass ty) := ⟨zt_4 (List.mem_of_getElem? (i := 129) rfl), good_of_word (by decide +kernel)⟩
theorem gl_wsX8_slack : GoodIn lw_tbl wsX8_slack := (zl_cons zg_338 (goodIn_app (zl_cons zg_305 (zl_cons zg_329 (zl_cons zg_328 (zl_cons zg_327 (zl_cons zg_49 (zl_cons zg_326 (zl_cons zg_312 (zl_cons zg_47 (zl_cons zg_46 (zl_cons zg_45 (zl_cons zg_44 (zl_cons zg_43 zl_nil)))))))))))) gl_wsX80))
theorem zg_339 : (Cond.selects RX8 yX8_slack yX8_slack) ∈ lw_tbl ∧ ((((Cond.selects RX8 yX8_slack yX8_slack : Cond)).onTables && ((Cond.selects RX8 yX8_slack yX8_slack : Cond)).keeps) = true ∨ ∃ ty, (Cond.selects RX8 yX8_slack yX8_slack) = .arrayClass ty) := ⟨zt_4 (List.mem_of_getElem? (i := 128) (by decide +kernel)), good_of_word (by decide +kernel)⟩
theorem zg_340 : (Cond.instanceMethod yX8_slack) ∈ lw_tbl ∧ ((((Cond.instanceMethod yX8_slack : Cond)).onTables && ((Cond.instanceMethod yX8_slack : Cond)).keeps) = true ∨ ∃ ty, (Cond.instanceMethod yX8_slack) = .arrayClass ty) := ⟨zt_4 (List.mem_of_getElem? (i := 127) (by decide +kernel)), good_of_word (by decide +kernel)⟩
theorem zg_341 : (Cond.methodLink RL 69 yX8_slack) ∈ lw_tbl ∧ ((((Cond.methodLink RL 69 yX8_slack : Cond)).onTables && ((Cond.methodLink RL 69 yX8_slack : Cond)).keeps) = true ∨ ∃ ty, (Cond.methodLink RL 69 yX8_slack) = .arrayClass ty) := ⟨zt_4 (List.mem_of_getElem? (i := 126) (by decide +kernel)), good_of_word (by decide +kernel)⟩
theorem gq_69 : GoodIn lw_tbl (wsV RL 69 RX8 yX8_slack wsX8_slack) := goodIn_app (zl_cons zg_341 (zl_cons zg_340 (zl_cons zg_339 (zl_cons zg_49 zl_nil)))) gl_wsX8_slack
theorem zg_342 : (Cond.code yX7_ask cX7_ask 4 (some .int)) ∈ lw_tbl ∧ ((((Cond.code yX7_ask cX7_ask 4 (some .int) : Cond)).onTables && ((Cond.code yX7_ask cX7_ask 4 (some .int) : Cond)).keeps) = true ∨ ∃ ty, (Cond.code yX7_ask cX7_ask 4 (some .int)) = .arrayClass ty) := ⟨zt_1 (List.mem_of_getElem? (i := 159) rfl), good_of_word (by decide +kernel)⟩
theorem zg_343 : (Cond.code yX0_number cX0_number 2 (some .int)) ∈ lw_tbl ∧ ((((Cond.code yX0_number cX0_number 2 (some .int) : Cond)).onTables && ((Cond.code yX0_number cX0_number 2 (some .int) : Cond)).keeps) = true ∨ ∃ ty, (Cond.code yX0_number cX0_number 2 (some .int)) = .arrayClass ty) := ⟨zt_1 (List.mem_of_getElem? (i := 170) rfl), good_of_word (by decide +kernel)⟩
theorem zg_344 : (Cond.selects RX0 yX0_number yX0_number) ∈ lw_tbl ∧ ((((Cond.selects RX0 yX0_number yX0_number : Cond)).onTables && ((Cond.selects RX0 yX0_number yX0_number : Cond)).keeps) = true ∨ ∃ ty, (Cond.selects RX0 yX0_number yX0_number) = .arrayClass ty) := ⟨zt_1 (List.mem_of_getElem? (i := 169) (by decide +kernel)), good_of_word (by decide +kernel)⟩
theorem zg_345 : (Cond.instanceMethod yX0_number) ∈ lw_tbl ∧ ((((Cond.instanceMethod yX0_number : Cond)).onTables && ((Cond.instanceMethod yX0_number : Cond)).keeps) = true ∨ ∃ ty, (Cond.instanceMethod yX0_number) = .arrayClass ty) := ⟨zt_1 (List.mem_of_getElem? (i := 168) (by decide +kernel)), good_of_word (by decide +kernel)⟩
theorem zg_346 : (Cond.methodLink RX7 169 yX0_number) ∈ lw_tbl ∧ ((((Cond.methodLink RX7 169 yX0_number : Cond)).onTables && ((Cond.methodLink RX7 169 yX0_number : Cond)).keeps) = true ∨ ∃ ty, (Cond.methodLink RX7 169 yX0_number) = .arrayClass ty) := ⟨zt_1 (List.mem_of_getElem? (i := 167) (by decide +kernel)), good_of_word (by decide +kernel)⟩
theorem zg_347 : (Cond.fieldLink RX0 57 "TheLiningsInIt$Zip" "size" "I") ∈ lw_tbl ∧ ((((Cond.fieldLink RX0 57 "TheLiningsInIt$Zip" "size" "I" : Cond)).onTables && ((Cond.fieldLink RX0 57 "TheLiningsInIt$Zip" "size" "I" : Cond)).keeps) = true ∨ ∃ ty, (Cond.fieldLink RX0 57 "TheLiningsInIt$Zip" "size" "I") = .arrayClass ty) := ⟨zt_0 (List.mem_of_getElem? (i := 47) (by decide +kernel)), good_of_word (by decide +kernel)⟩
theorem zg_348 : (Cond.fieldLink RX0 12 "TheLiningsInIt$Jacket" "zip" "LTheLiningsInIt$Zip;") ∈ lw_tbl ∧ ((((Cond.fieldLink RX0 12 "TheLiningsInIt$Jacket" "zip" "LTheLiningsInIt$Zip;" : Cond)).onTables && ((Cond.fieldLink RX0 12 "TheLiningsInIt$Jacket" "zip" "LTheLiningsInIt$Zip;" : Cond)).keeps) = true ∨ ∃ ty, (Cond.fieldLink RX0 12 "TheLiningsInIt$Jacket" "zip" "LTheLiningsInIt$Zip;") = .arrayClass ty) := ⟨zt_0 (List.mem_of_getElem? (i := 71) (by decide +kernel)), good_of_word (by decide +kernel)⟩
theorem zg_349 : (Cond.code yX0_mostOf cX0_mostOf 2 (some .int)) ∈ lw_tbl ∧ ((((Cond.code yX0_mostOf cX0_mostOf 2 (some .int) : Cond)).onTables && ((Cond.code yX0_mostOf cX0_mostOf 2 (some .int) : Cond)).keeps) = true ∨ ∃ ty, (Cond.code yX0_mostOf cX0_mostOf 2 (some .int)) = .arrayClass ty) := ⟨zt_1 (List.mem_of_getElem? (i := 166) rfl), good_of_word (by decide +kernel)⟩
theorem zg_350 : (Cond.selects RX0 yX0_mostOf yX0_mostOf) ∈ lw_tbl ∧ ((((Cond.selects RX0 yX0_mostOf yX0_mostOf : Cond)).onTables && ((Cond.selects RX0 yX0_mostOf yX0_mostOf : Cond)).keeps) = true ∨ ∃ ty, (Cond.selects RX0 yX0_mostOf yX0_mostOf) = .arrayClass ty) := ⟨zt_1 (List.mem_of_getElem? (i := 165) (by decide +kernel)), good_of_word (by decide +kernel)⟩
theorem zg_351 : (Cond.instanceMethod yX0_mostOf) ∈ lw_tbl ∧ ((((Cond.instanceMethod yX0_mostOf : Cond)).onTables && ((Cond.instanceMethod yX0_mostOf : Cond)).keeps) = true ∨ ∃ ty, (Cond.instanceMethod yX0_mostOf) = .arrayClass ty) := ⟨zt_1 (List.mem_of_getElem? (i := 164) (by decide +kernel)), good_of_word (by decide +kernel)⟩
theorem zg_352 : (Cond.methodLink RX7 166 yX0_mostOf) ∈ lw_tbl ∧ ((((Cond.methodLink RX7 166 yX0_mostOf : Cond)).onTables && ((Cond.methodLink RX7 166 yX0_mostOf : Cond)).keeps) = true ∨ ∃ ty, (Cond.methodLink RX7 166 yX0_mostOf) = .arrayClass ty) := ⟨zt_1 (List.mem_of_getElem? (i := 163) (by decide +kernel)), good_of_word (by decide +kernel)⟩
theorem zg_353 : (Cond.code yX0_leastOf cX0_leastOf 1 (some .int)) ∈ lw_tbl ∧ ((((Cond.code yX0_leastOf cX0_leastOf 1 (some .int) : Cond)).onTables && ((Cond.code yX0_leastOf cX0_leastOf 1 (some .int) : Cond)).keeps) = true ∨ ∃ ty, (Cond.code yX0_leastOf cX0_leastOf 1 (some .int)) = .arrayClass ty) := ⟨zt_1 (List.mem_of_getElem? (i := 162) rfl), good_of_word (by decide +kernel)⟩
theorem zg_354 : (Cond.static yX0_leastOf) ∈ lw_tbl ∧ ((((Cond.static yX0_leastOf : Cond)).onTables && ((Cond.static yX0_leastOf : Cond)).keeps) = true ∨ ∃ ty, (Cond.static yX0_leastOf) = .arrayClass ty) := ⟨zt_1 (List.mem_of_getElem? (i := 161) (by decide +kernel)), good_of_word (by decide +kernel)⟩
theorem zg_355 : (Cond.methodLink RX7 163 yX0_leastOf) ∈ lw_tbl ∧ ((((Cond.methodLink RX7 163 yX0_leastOf : Cond)).onTables && ((Cond.methodLink RX7 163 yX0_leastOf : Cond)).keeps) = true ∨ ∃ ty, (Cond.methodLink RX7 163 yX0_leastOf) = .arrayClass ty) := ⟨zt_1 (List.mem_of_getElem? (i := 160) (by decide +kernel)), good_of_word (by decide +kernel)⟩
theorem gl_wsX7_ask_r1 : GoodIn lw_tbl wsX7_ask_r1 := (zl_cons zg_150 (zl_cons zg_18 (zl_cons zg_17 (zl_cons zg_21 (zl_cons zg_16 (zl_cons zg_355 (zl_cons zg_354 (zl_cons zg_146 (zl_cons zg_353 (zl_cons zg_352 (zl_cons zg_351 (zl_cons zg_350 (zl_cons zg_349 (zl_cons zg_348 (zl_cons zg_347 (zl_cons zg_15 (zl_cons zg_14 (zl_cons zg_13 (zl_cons zg_12 (zl_cons zg_11 (zl_cons zg_346 (zl_cons zg_345 (zl_cons zg_344 (zl_cons zg_343 zl_nil))))))))))))))))))))))))
theorem zg_356 : (Cond.code yX0_setNumber cX0_setNumber 3 none) ∈ lw_tbl ∧ ((((Cond.code yX0_setNumber cX0_setNumber 3 none : Cond)).onTables && ((Cond.code yX0_setNumber cX0_setNumber 3 none : Cond)).keeps) = true ∨ ∃ ty, (Cond.code yX0_setNumber cX0_setNumber 3 none) = .arrayClass ty) := ⟨zt_1 (List.mem_of_getElem? (i := 174) rfl), good_of_word (by decide +kernel)⟩
theorem zg_357 : (Cond.selects RX0 yX0_setNumber yX0_setNumber) ∈ lw_tbl ∧ ((((Cond.selects RX0 yX0_setNumber yX0_setNumber : Cond)).onTables && ((Cond.selects RX0 yX0_setNumber yX0_setNumber : Cond)).keeps) = true ∨ ∃ ty, (Cond.selects RX0 yX0_setNumber yX0_setNumber) = .arrayClass ty) := ⟨zt_1 (List.mem_of_getElem? (i := 173) (by decide +kernel)), good_of_word (by decide +kernel)⟩
theorem zg_358 : (Cond.instanceMethod yX0_setNumber) ∈ lw_tbl ∧ ((((Cond.instanceMethod yX0_setNumber : Cond)).onTables && ((Cond.instanceMethod yX0_setNumber : Cond)).keeps) = true ∨ ∃ ty, (Cond.instanceMethod yX0_setNumber) = .arrayClass ty) := ⟨zt_1 (List.mem_of_getElem? (i := 172) (by decide +kernel)), good_of_word (by decide +kernel)⟩
theorem zg_359 : (Cond.methodLink RX7 172 yX0_setNumber) ∈ lw_tbl ∧ ((((Cond.methodLink RX7 172 yX0_setNumber : Cond)).onTables && ((Cond.methodLink RX7 172 yX0_setNumber : Cond)).keeps) = true ∨ ∃ ty, (Cond.methodLink RX7 172 yX0_setNumber) = .arrayClass ty) := ⟨zt_1 (List.mem_of_getElem? (i := 171) (by decide +kernel)), good_of_word (by decide +kernel)⟩
theorem zg_360 : (Cond.fieldLink RX0 24 "TheLiningsInIt$Jacket" "costs" "[I") ∈ lw_tbl ∧ ((((Cond.fieldLink RX0 24 "TheLiningsInIt$Jacket" "costs" "[I" : Cond)).onTables && ((Cond.fieldLink RX0 24 "TheLiningsInIt$Jacket" "costs" "[I" : Cond)).keeps) = true ∨ ∃ ty, (Cond.fieldLink RX0 24 "TheLiningsInIt$Jacket" "costs" "[I") = .arrayClass ty) := ⟨zt_0 (List.mem_of_getElem? (i := 75) (by decide +kernel)), good_of_word (by decide +kernel)⟩
theorem zg_361 : (Cond.fieldLink RX0 63 "TheLiningsInIt$Zip" "at" "I") ∈ lw_tbl ∧ ((((Cond.fieldLink RX0 63 "TheLiningsInIt$Zip" "at" "I" : Cond)).onTables && ((Cond.fieldLink RX0 63 "TheLiningsInIt$Zip" "at" "I" : Cond)).keeps) = true ∨ ∃ ty, (Cond.fieldLink RX0 63 "TheLiningsInIt$Zip" "at" "I") = .arrayClass ty) := ⟨zt_0 (List.mem_of_getElem? (i := 50) (by decide +kernel)), good_of_word (by decide +kernel)⟩
theorem zg_362 : (Cond.fieldLink RX0 60 "TheLiningsInIt$Zip" "gap" "I") ∈ lw_tbl ∧ ((((Cond.fieldLink RX0 60 "TheLiningsInIt$Zip" "gap" "I" : Cond)).onTables && ((Cond.fieldLink RX0 60 "TheLiningsInIt$Zip" "gap" "I" : Cond)).keeps) = true ∨ ∃ ty, (Cond.fieldLink RX0 60 "TheLiningsInIt$Zip" "gap" "I") = .arrayClass ty) := ⟨zt_0 (List.mem_of_getElem? (i := 54) (by decide +kernel)), good_of_word (by decide +kernel)⟩
theorem zg_363 : (Cond.fieldLink RX0 41 "TheLiningsInIt$Jacket" "hurry" "I") ∈ lw_tbl ∧ ((((Cond.fieldLink RX0 41 "TheLiningsInIt$Jacket" "hurry" "I" : Cond)).onTables && ((Cond.fieldLink RX0 41 "TheLiningsInIt$Jacket" "hurry" "I" : Cond)).keeps) = true ∨ ∃ ty, (Cond.fieldLink RX0 41 "TheLiningsInIt$Jacket" "hurry" "I") = .arrayClass ty) := ⟨zt_0 (List.mem_of_getElem? (i := 87) (by decide +kernel)), good_of_word (by decide +kernel)⟩
theorem gl_wsX7_ask_r2 : GoodIn lw_tbl wsX7_ask_r2 := (zl_cons zg_266 (zl_cons zg_265 (zl_cons zg_363 (zl_cons zg_362 (zl_cons zg_361 (zl_cons zg_360 (zl_cons zg_359 (zl_cons zg_358 (zl_cons zg_357 (zl_cons zg_356 zl_nil))))))))))
theorem gl_wsX7_ask : GoodIn lw_tbl wsX7_ask := (zl_cons zg_342 (goodIn_app (goodIn_app (goodIn_app (goodIn_app gl_wsX7_ask_r1 gl_wsX7_ask_r2) gl_wsX70) gl_wsX00) gl_wsX60))
theorem zg_364 : (Cond.selects RX7 yX7_ask yX7_ask) ∈ lw_tbl ∧ ((((Cond.selects RX7 yX7_ask yX7_ask : Cond)).onTables && ((Cond.selects RX7 yX7_ask yX7_ask : Cond)).keeps) = true ∨ ∃ ty, (Cond.selects RX7 yX7_ask yX7_ask) = .arrayClass ty) := ⟨zt_1 (List.mem_of_getElem? (i := 158) (by decide +kernel)), good_of_word (by decide +kernel)⟩
theorem zg_365 : (Cond.instanceMethod yX7_ask) ∈ lw_tbl ∧ ((((Cond.instanceMethod yX7_ask : Cond)).onTables && ((Cond.instanceMethod yX7_ask : Cond)).keeps) = true ∨ ∃ ty, (Cond.instanceMethod yX7_ask) = .arrayClass ty) := ⟨zt_1 (List.mem_of_getElem? (i := 157) (by decide +kernel)), good_of_word (by decide +kernel)⟩
theorem zg_366 : (Cond.methodLink RL 70 yX7_ask) ∈ lw_tbl ∧ ((((Cond.methodLink RL 70 yX7_ask : Cond)).onTables && ((Cond.methodLink RL 70 yX7_ask : Cond)).keeps) = true ∨ ∃ ty, (Cond.methodLink RL 70 yX7_ask) = .arrayClass ty) := ⟨zt_1 (List.mem_of_getElem? (i := 156) (by decide +kernel)), good_of_word (by decide +kernel)⟩
theorem gq_70 : GoodIn lw_tbl (wsV RL 70 RX7 yX7_ask wsX7_ask) := goodIn_app (zl_cons zg_366 (zl_cons zg_365 (zl_cons zg_364 (zl_cons zg_21 zl_nil)))) gl_wsX7_ask
theorem zg_367 : (Cond.code yX8_ask cX8_ask 4 (some .int)) ∈ lw_tbl ∧ ((((Cond.code yX8_ask cX8_ask 4 (some .int) : Cond)).onTables && ((Cond.code yX8_ask cX8_ask 4 (some .int) : Cond)).keeps) = true ∨ ∃ ty, (Cond.code yX8_ask cX8_ask 4 (some .int)) = .arrayClass ty) := ⟨zt_4 (List.mem_of_getElem? (i := 133) rfl), good_of_word (by decide +kernel)⟩
theorem zg_368 : (Cond.fieldLink RX8 16 "TheLiningsInItModel" "gap" "I") ∈ lw_tbl ∧ ((((Cond.fieldLink RX8 16 "TheLiningsInItModel" "gap" "I" : Cond)).onTables && ((Cond.fieldLink RX8 16 "TheLiningsInItModel" "gap" "I" : Cond)).keeps) = true ∨ ∃ ty, (Cond.fieldLink RX8 16 "TheLiningsInItModel" "gap" "I") = .arrayClass ty) := ⟨zt_3 (List.mem_of_getElem? (i := 178) (by decide +kernel)), good_of_word (by decide +kernel)⟩
theorem zg_369 : (Cond.code yX8_told cX8_told 2 (some .int)) ∈ lw_tbl ∧ ((((Cond.code yX8_told cX8_told 2 (some .int) : Cond)).onTables && ((Cond.code yX8_told cX8_told 2 (some .int) : Cond)).keeps) = true ∨ ∃ ty, (Cond.code yX8_told cX8_told 2 (some .int)) = .arrayClass ty) := ⟨zt_4 (List.mem_of_getElem? (i := 145) rfl), good_of_word (by decide +kernel)⟩
theorem zg_370 : (Cond.selects RX8 yX8_told yX8_told) ∈ lw_tbl ∧ ((((Cond.selects RX8 yX8_told yX8_told : Cond)).onTables && ((Cond.selects RX8 yX8_told yX8_told : Cond)).keeps) = true ∨ ∃ ty, (Cond.selects RX8 yX8_told yX8_told) = .arrayClass ty) := ⟨zp_2 7 (by decide +kernel), good_of_word (by decide +kernel)⟩
theorem zg_371 : (Cond.instanceMethod yX8_told) ∈ lw_tbl ∧ ((((Cond.instanceMethod yX8_told : Cond)).onTables && ((Cond.instanceMethod yX8_told : Cond)).keeps) = true ∨ ∃ ty, (Cond.instanceMethod yX8_told) = .arrayClass ty) := ⟨zt_4 (List.mem_of_getElem? (i := 144) (by decide +kernel)), good_of_word (by decide +kernel)⟩
theorem zg_372 : (Cond.methodLink RX8 142 yX8_told) ∈ lw_tbl ∧ ((((Cond.methodLink RX8 142 yX8_told : Cond)).onTables && ((Cond.methodLink RX8 142 yX8_told : Cond)).keeps) = true ∨ ∃ ty, (Cond.methodLink RX8 142 yX8_told) = .arrayClass ty) := ⟨zt_4 (List.mem_of_getElem? (i := 142) (by decide +kernel)), good_of_word (by decide +kernel)⟩
theorem zg_373 : (Cond.code yX8_most cX8_most 2 (some .int)) ∈ lw_tbl ∧ ((((Cond.code yX8_most cX8_most 2 (some .int) : Cond)).onTables && ((Cond.code yX8_most cX8_most 2 (some .int) : Cond)).keeps) = true ∨ ∃ ty, (Cond.code yX8_most cX8_most 2 (some .int)) = .arrayClass ty) := ⟨zt_4 (List.mem_of_getElem? (i := 141) rfl), good_of_word (by decide +kernel)⟩
theorem zg_374 : (Cond.selects RX8 yX8_most yX8_most) ∈ lw_tbl ∧ ((((Cond.selects RX8 yX8_most yX8_most : Cond)).onTables && ((Cond.selects RX8 yX8_most yX8_most : Cond)).keeps) = true ∨ ∃ ty, (Cond.selects RX8 yX8_most yX8_most) = .arrayClass ty) := ⟨zp_2 6 (by decide +kernel), good_of_word (by decide +kernel)⟩
theorem zg_375 : (Cond.instanceMethod yX8_most) ∈ lw_tbl ∧ ((((Cond.instanceMethod yX8_most : Cond)).onTables && ((Cond.instanceMethod yX8_most : Cond)).keeps) = true ∨ ∃ ty, (Cond.instanceMethod yX8_most) = .arrayClass ty) := ⟨zt_4 (List.mem_of_getElem? (i := 140) (by decide +kernel)), good_of_word (by decide +kernel)⟩
theorem zg_376 : (Cond.methodLink RX8 132 yX8_most) ∈ lw_tbl ∧ ((((Cond.methodLink RX8 132 yX8_most : Cond)).onTables && ((Cond.methodLink RX8 132 yX8_most : Cond)).keeps) = true ∨ ∃ ty, (Cond.methodLink RX8 132 yX8_most) = .arrayClass ty) := ⟨zt_4 (List.mem_of_getElem? (i := 138) (by decide +kernel)), good_of_word (by decide +kernel)⟩
theorem zg_377 : (Cond.code yX8_isAsked cX8_isAsked 3 (some .boolean)) ∈ lw_tbl ∧ ((((Cond.code yX8_isAsked cX8_isAsked 3 (some .boolean) : Cond)).onTables && ((Cond.code yX8_isAsked cX8_isAsked 3 (some .boolean) : Cond)).keeps) = true ∨ ∃ ty, (Cond.code yX8_isAsked cX8_isAsked 3 (some .boolean)) = .arrayClass ty) := ⟨zt_4 (List.mem_of_getElem? (i := 137) rfl), good_of_word (by decide +kernel)⟩
theorem zg_378 : (Cond.selects RX8 yX8_isAsked yX8_isAsked) ∈ lw_tbl ∧ ((((Cond.selects RX8 yX8_isAsked yX8_isAsked : Cond)).onTables && ((Cond.selects RX8 yX8_isAsked yX8_isAsked : Cond)).keeps) = true ∨ ∃ ty, (Cond.selects RX8 yX8_isAsked yX8_isAsked) = .arrayClass ty) := ⟨zp_2 5 (by decide +kernel), good_of_word (by decide +kernel)⟩
theorem zg_379 : (Cond.instanceMethod yX8_isAsked) ∈ lw_tbl ∧ ((((Cond.instanceMethod yX8_isAsked : Cond)).onTables && ((Cond.instanceMethod yX8_isAsked : Cond)).keeps) = true ∨ ∃ ty, (Cond.instanceMethod yX8_isAsked) = .arrayClass ty) := ⟨zt_4 (List.mem_of_getElem? (i := 136) (by decide +kernel)), good_of_word (by decide +kernel)⟩
theorem zg_380 : (Cond.methodLink RX8 138 yX8_isAsked) ∈ lw_tbl ∧ ((((Cond.methodLink RX8 138 yX8_isAsked : Cond)).onTables && ((Cond.methodLink RX8 138 yX8_isAsked : Cond)).keeps) = true ∨ ∃ ty, (Cond.methodLink RX8 138 yX8_isAsked) = .arrayClass ty) := ⟨zt_4 (List.mem_of_getElem? (i := 134) (by decide +kernel)), good_of_word (by decide +kernel)⟩
theorem gl_wsX8_ask_r1 : GoodIn lw_tbl wsX8_ask_r1 := (zl_cons zg_380 (zl_cons zg_379 (zl_cons zg_378 (zl_cons zg_49 (zl_cons zg_377 (zl_cons zg_376 (zl_cons zg_375 (zl_cons zg_374 (zl_cons zg_373 (zl_cons zg_312 (zl_cons zg_47 (zl_cons zg_46 (zl_cons zg_45 (zl_cons zg_44 (zl_cons zg_43 (zl_cons zg_372 (zl_cons zg_371 (zl_cons zg_370 (zl_cons zg_369 (zl_cons zg_280 (zl_cons zg_279 (zl_cons zg_217 (zl_cons zg_368 (zl_cons zg_307 zl_nil))))))))))))))))))))))))
theorem zg_381 : (Cond.code yX8_tells cX8_tells 3 none) ∈ lw_tbl ∧ ((((Cond.code yX8_tells cX8_tells 3 none : Cond)).onTables && ((Cond.code yX8_tells cX8_tells 3 none : Cond)).keeps) = true ∨ ∃ ty, (Cond.code yX8_tells cX8_tells 3 none) = .arrayClass ty) := ⟨zt_4 (List.mem_of_getElem? (i := 149) rfl), good_of_word (by decide +kernel)⟩
theorem zg_382 : (Cond.selects RX8 yX8_tells yX8_tells) ∈ lw_tbl ∧ ((((Cond.selects RX8 yX8_tells yX8_tells : Cond)).onTables && ((Cond.selects RX8 yX8_tells yX8_tells : Cond)).keeps) = true ∨ ∃ ty, (Cond.selects RX8 yX8_tells yX8_tells) = .arrayClass ty) := ⟨zp_2 8 (by decide +kernel), good_of_word (by decide +kernel)⟩
theorem zg_383 : (Cond.instanceMethod yX8_tells) ∈ lw_tbl ∧ ((((Cond.instanceMethod yX8_tells : Cond)).onTables && ((Cond.instanceMethod yX8_tells : Cond)).keeps) = true ∨ ∃ ty, (Cond.instanceMethod yX8_tells) = .arrayClass ty) := ⟨zt_4 (List.mem_of_getElem? (i := 148) (by decide +kernel)), good_of_word (by decide +kernel)⟩
theorem zg_384 : (Cond.methodLink RX8 145 yX8_tells) ∈ lw_tbl ∧ ((((Cond.methodLink RX8 145 yX8_tells : Cond)).onTables && ((Cond.methodLink RX8 145 yX8_tells : Cond)).keeps) = true ∨ ∃ ty, (Cond.methodLink RX8 145 yX8_tells) = .arrayClass ty) := ⟨zt_4 (List.mem_of_getElem? (i := 146) (by decide +kernel)), good_of_word (by decide +kernel)⟩
theorem zg_385 : (Cond.fieldLink RX8 44 "TheLiningsInItModel" "cost" "[I") ∈ lw_tbl ∧ ((((Cond.fieldLink RX8 44 "TheLiningsInItModel" "cost" "[I" : Cond)).onTables && ((Cond.fieldLink RX8 44 "TheLiningsInItModel" "cost" "[I" : Cond)).keeps) = true ∨ ∃ ty, (Cond.fieldLink RX8 44 "TheLiningsInItModel" "cost" "[I") = .arrayClass ty) := ⟨zt_3 (List.mem_of_getElem? (i := 187) (by decide +kernel)), good_of_word (by decide +kernel)⟩
theorem gl_wsX8_ask_r2 : GoodIn lw_tbl wsX8_ask_r2 := (zl_cons zg_385 (zl_cons zg_384 (zl_cons zg_383 (zl_cons zg_382 (zl_cons zg_381 zl_nil)))))
theorem gl_wsX8_ask : GoodIn lw_tbl wsX8_ask := (zl_cons zg_367 (goodIn_app (goodIn_app gl_wsX8_ask_r1 gl_wsX8_ask_r2) gl_wsX80))
theorem zg_386 : (Cond.selects RX8 yX8_ask yX8_ask) ∈ lw_tbl ∧ ((((Cond.selects RX8 yX8_ask yX8_ask : Cond)).onTables && ((Cond.selects RX8 yX8_ask yX8_ask : Cond)).keeps) = true ∨ ∃ ty, (Cond.selects RX8 yX8_ask yX8_ask) = .arrayClass ty) := ⟨zt_4 (List.mem_of_getElem? (i := 132) (by decide +kernel)), good_of_word (by decide +kernel)⟩
theorem zg_387 : (Cond.instanceMethod yX8_ask) ∈ lw_tbl ∧ ((((Cond.instanceMethod yX8_ask : Cond)).onTables && ((Cond.instanceMethod yX8_ask : Cond)).keeps) = true ∨ ∃ ty, (Cond.instanceMethod yX8_ask) = .arrayClass ty) := ⟨zt_4 (List.mem_of_getElem? (i := 131) (by decide +kernel)), good_of_word (by decide +kernel)⟩
theorem zg_388 : (Cond.methodLink RL 73 yX8_ask) ∈ lw_tbl ∧ ((((Cond.methodLink RL 73 yX8_ask : Cond)).onTables && ((Cond.methodLink RL 73 yX8_ask : Cond)).keeps) = true ∨ ∃ ty, (Cond.methodLink RL 73 yX8_ask) = .arrayClass ty) := ⟨zt_4 (List.mem_of_getElem? (i := 130) (by decide +kernel)), good_of_word (by decide +kernel)⟩
theorem gq_73 : GoodIn lw_tbl (wsV RL 73 RX8 yX8_ask wsX8_ask) := goodIn_app (zl_cons zg_388 (zl_cons zg_387 (zl_cons zg_386 (zl_cons zg_49 zl_nil)))) gl_wsX8_ask
theorem zg_389 : (Cond.code yX7_jacket cX7_jacket 4 (some .int)) ∈ lw_tbl ∧ ((((Cond.code yX7_jacket cX7_jacket 4 (some .int) : Cond)).onTables && ((Cond.code yX7_jacket cX7_jacket 4 (some .int) : Cond)).keeps) = true ∨ ∃ ty, (Cond.code yX7_jacket cX7_jacket 4 (some .int)) = .arrayClass ty) := ⟨zt_1 (List.mem_of_getElem? (i := 178) rfl), good_of_word (by decide +kernel)⟩
theorem zg_390 : (Cond.fieldLink RX7 183 "TheLiningsInIt$Reader" "count" "I") ∈ lw_tbl ∧ ((((Cond.fieldLink RX7 183 "TheLiningsInIt$Reader" "count" "I" : Cond)).onTables && ((Cond.fieldLink RX7 183 "TheLiningsInIt$Reader" "count" "I" : Cond)).keeps) = true ∨ ∃ ty, (Cond.fieldLink RX7 183 "TheLiningsInIt$Reader" "count" "I") = .arrayClass ty) := ⟨zt_0 (List.mem_of_getElem? (i := 149) (by decide +kernel)), good_of_word (by decide +kernel)⟩
theorem zg_391 : (Cond.fieldLink RX7 54 "TheLiningsInIt" "latestFault" "I") ∈ lw_tbl ∧ ((((Cond.fieldLink RX7 54 "TheLiningsInIt" "latestFault" "I" : Cond)).onTables && ((Cond.fieldLink RX7 54 "TheLiningsInIt" "latestFault" "I" : Cond)).keeps) = true ∨ ∃ ty, (Cond.fieldLink RX7 54 "TheLiningsInIt" "latestFault" "I") = .arrayClass ty) := ⟨zt_0 (List.mem_of_getElem? (i := 221) (by decide +kernel)), good_of_word (by decide +kernel)⟩
theorem zg_392 : (Cond.fieldLink RX7 35 "TheLiningsInIt" "reader" "LTheLiningsInIt$Reader;") ∈ lw_tbl ∧ ((((Cond.fieldLink RX7 35 "TheLiningsInIt" "reader" "LTheLiningsInIt$Reader;" : Cond)).onTables && ((Cond.fieldLink RX7 35 "TheLiningsInIt" "reader" "LTheLiningsInIt$Reader;" : Cond)).keeps) = true ∨ ∃ ty, (Cond.fieldLink RX7 35 "TheLiningsInIt" "reader" "LTheLiningsInIt$Reader;") = .arrayClass ty) := ⟨zt_0 (List.mem_of_getElem? (i := 217) (by decide +kernel)), good_of_word (by decide +kernel)⟩
theorem gl_wsX7_jacket_r1 : GoodIn lw_tbl wsX7_jacket_r1 := (zl_cons zg_392 (zl_cons zg_150 (zl_cons zg_295 (zl_cons zg_294 (zl_cons zg_242 (zl_cons zg_391 (zl_cons zg_390 (zl_cons zg_24 (zl_cons zg_23 (zl_cons zg_22 (zl_cons zg_21 (zl_cons zg_20 (zl_cons zg_19 (zl_cons zg_18 (zl_cons zg_17 (zl_cons zg_16 (zl_cons zg_15 (zl_cons zg_14 (zl_cons zg_13 (zl_cons zg_12 (zl_cons zg_11 (zl_cons zg_107 (zl_cons zg_106 (zl_cons zg_105 zl_nil))))))))))))))))))))))))
theorem zg_393 : (Cond.fieldLink RX3 15 "TheLiningsInIt$Reader" "letters" "[I") ∈ lw_tbl ∧ ((((Cond.fieldLink RX3 15 "TheLiningsInIt$Reader" "letters" "[I" : Cond)).onTables && ((Cond.fieldLink RX3 15 "TheLiningsInIt$Reader" "letters" "[I" : Cond)).keeps) = true ∨ ∃ ty, (Cond.fieldLink RX3 15 "TheLiningsInIt$Reader" "letters" "[I") = .arrayClass ty) := ⟨zt_0 (List.mem_of_getElem? (i := 146) (by decide +kernel)), good_of_word (by decide +kernel)⟩
theorem zg_394 : (Cond.methodLink RX3 52 Lib.Math.min.name) ∈ lw_tbl ∧ ((((Cond.methodLink RX3 52 Lib.Math.min.name : Cond)).onTables && ((Cond.methodLink RX3 52 Lib.Math.min.name : Cond)).keeps) = true ∨ ∃ ty, (Cond.methodLink RX3 52 Lib.Math.min.name) = .arrayClass ty) := ⟨zt_1 (List.mem_of_getElem? (i := 187) (by decide +kernel)), good_of_word (by decide +kernel)⟩
theorem zg_395 : (Cond.fieldLink RX3 49 "TheLiningsInIt$Shelf" "size" "I") ∈ lw_tbl ∧ ((((Cond.fieldLink RX3 49 "TheLiningsInIt$Shelf" "size" "I" : Cond)).onTables && ((Cond.fieldLink RX3 49 "TheLiningsInIt$Shelf" "size" "I" : Cond)).keeps) = true ∨ ∃ ty, (Cond.fieldLink RX3 49 "TheLiningsInIt$Shelf" "size" "I") = .arrayClass ty) := ⟨zt_0 (List.mem_of_getElem? (i := 204) (by decide +kernel)), good_of_word (by decide +kernel)⟩
theorem zg_396 : (Cond.code yX3_takeLetters cX3_takeLetters 3 none) ∈ lw_tbl ∧ ((((Cond.code yX3_takeLetters cX3_takeLetters 3 none : Cond)).onTables && ((Cond.code yX3_takeLetters cX3_takeLetters 3 none : Cond)).keeps) = true ∨ ∃ ty, (Cond.code yX3_takeLetters cX3_takeLetters 3 none) = .arrayClass ty) := ⟨zt_1 (List.mem_of_getElem? (i := 186) rfl), good_of_word (by decide +kernel)⟩
theorem zg_397 : (Cond.selects RX3 yX3_takeLetters yX3_takeLetters) ∈ lw_tbl ∧ ((((Cond.selects RX3 yX3_takeLetters yX3_takeLetters : Cond)).onTables && ((Cond.selects RX3 yX3_takeLetters yX3_takeLetters : Cond)).keeps) = true ∨ ∃ ty, (Cond.selects RX3 yX3_takeLetters yX3_takeLetters) = .arrayClass ty) := ⟨zt_1 (List.mem_of_getElem? (i := 185) (by decide +kernel)), good_of_word (by decide +kernel)⟩
theorem zg_398 : (Cond.instanceMethod yX3_takeLetters) ∈ lw_tbl ∧ ((((Cond.instanceMethod yX3_takeLetters : Cond)).onTables && ((Cond.instanceMethod yX3_takeLetters : Cond)).keeps) = true ∨ ∃ ty, (Cond.instanceMethod yX3_takeLetters) = .arrayClass ty) := ⟨zt_1 (List.mem_of_getElem? (i := 184) (by decide +kernel)), good_of_word (by decide +kernel)⟩
theorem zg_399 : (Cond.methodLink RX3 37 yX3_takeLetters) ∈ lw_tbl ∧ ((((Cond.methodLink RX3 37 yX3_takeLetters : Cond)).onTables && ((Cond.methodLink RX3 37 yX3_takeLetters : Cond)).keeps) = true ∨ ∃ ty, (Cond.methodLink RX3 37 yX3_takeLetters) = .arrayClass ty) := ⟨zt_1 (List.mem_of_getElem? (i := 183) (by decide +kernel)), good_of_word (by decide +kernel)⟩
theorem zg_400 : (Cond.fieldLink RX3 18 "TheLiningsInIt$Reader" "size" "I") ∈ lw_tbl ∧ ((((Cond.fieldLink RX3 18 "TheLiningsInIt$Reader" "size" "I" : Cond)).onTables && ((Cond.fieldLink RX3 18 "TheLiningsInIt$Reader" "size" "I" : Cond)).keeps) = true ∨ ∃ ty, (Cond.fieldLink RX3 18 "TheLiningsInIt$Reader" "size" "I") = .arrayClass ty) := ⟨zt_0 (List.mem_of_getElem? (i := 147) (by decide +kernel)), good_of_word (by decide +kernel)⟩
theorem zg_401 : (Cond.fieldLink RX3 22 "TheLiningsInIt$Reader" "count" "I") ∈ lw_tbl ∧ ((((Cond.fieldLink RX3 22 "TheLiningsInIt$Reader" "count" "I" : Cond)).onTables && ((Cond.fieldLink RX3 22 "TheLiningsInIt$Reader" "count" "I" : Cond)).keeps) = true ∨ ∃ ty, (Cond.fieldLink RX3 22 "TheLiningsInIt$Reader" "count" "I") = .arrayClass ty) := ⟨zt_0 (List.mem_of_getElem? (i := 148) (by decide +kernel)), good_of_word (by decide +kernel)⟩
theorem zg_402 : (Cond.fieldLink RX3 28 "TheLiningsInIt$Reader" "fault" "I") ∈ lw_tbl ∧ ((((Cond.fieldLink RX3 28 "TheLiningsInIt$Reader" "fault" "I" : Cond)).onTables && ((Cond.fieldLink RX3 28 "TheLiningsInIt$Reader" "fault" "I" : Cond)).keeps) = true ∨ ∃ ty, (Cond.fieldLink RX3 28 "TheLiningsInIt$Reader" "fault" "I") = .arrayClass ty) := ⟨zt_0 (List.mem_of_getElem? (i := 151) (by decide +kernel)), good_of_word (by decide +kernel)⟩
theorem zg_403 : (Cond.fieldLink RX3 25 "TheLiningsInIt$Reader" "place" "I") ∈ lw_tbl ∧ ((((Cond.fieldLink RX3 25 "TheLiningsInIt$Reader" "place" "I" : Cond)).onTables && ((Cond.fieldLink RX3 25 "TheLiningsInIt$Reader" "place" "I" : Cond)).keeps) = true ∨ ∃ ty, (Cond.fieldLink RX3 25 "TheLiningsInIt$Reader" "place" "I") = .arrayClass ty) := ⟨zt_0 (List.mem_of_getElem? (i := 150) (by decide +kernel)), good_of_word (by decide +kernel)⟩
theorem zg_404 : (Cond.fieldLink RX3 34 "TheLiningsInIt$Reader" "pulls" "I") ∈ lw_tbl ∧ ((((Cond.fieldLink RX3 34 "TheLiningsInIt$Reader" "pulls" "I" : Cond)).onTables && ((Cond.fieldLink RX3 34 "TheLiningsInIt$Reader" "pulls" "I" : Cond)).keeps) = true ∨ ∃ ty, (Cond.fieldLink RX3 34 "TheLiningsInIt$Reader" "pulls" "I") = .arrayClass ty) := ⟨zt_0 (List.mem_of_getElem? (i := 153) (by decide +kernel)), good_of_word (by decide +kernel)⟩
theorem zg_405 : (Cond.fieldLink RX3 31 "TheLiningsInIt$Reader" "teeth" "I") ∈ lw_tbl ∧ ((((Cond.fieldLink RX3 31 "TheLiningsInIt$Reader" "teeth" "I" : Cond)).onTables && ((Cond.fieldLink RX3 31 "TheLiningsInIt$Reader" "teeth" "I" : Cond)).keeps) = true ∨ ∃ ty, (Cond.fieldLink RX3 31 "TheLiningsInIt$Reader" "teeth" "I") = .arrayClass ty) := ⟨zt_0 (List.mem_of_getElem? (i := 152) (by decide +kernel)), good_of_word (by decide +kernel)⟩
theorem zg_406 : (Cond.code yX3_read cX3_read 5 (some .int)) ∈ lw_tbl ∧ ((((Cond.code yX3_read cX3_read 5 (some .int) : Cond)).onTables && ((Cond.code yX3_read cX3_read 5 (some .int) : Cond)).keeps) = true ∨ ∃ ty, (Cond.code yX3_read cX3_read 5 (some .int)) = .arrayClass ty) := ⟨zt_1 (List.mem_of_getElem? (i := 182) rfl), good_of_word (by decide +kernel)⟩
theorem zg_407 : (Cond.initialized RX3) ∈ lw_tbl ∧ ((((Cond.initialized RX3 : Cond)).onTables && ((Cond.initialized RX3 : Cond)).keeps) = true ∨ ∃ ty, (Cond.initialized RX3) = .arrayClass ty) := ⟨zt_0 (List.mem_of_getElem? (i := 5) (by decide +kernel)), good_of_word (by decide +kernel)⟩
theorem zg_408 : (Cond.selects RX3 yX3_read yX3_read) ∈ lw_tbl ∧ ((((Cond.selects RX3 yX3_read yX3_read : Cond)).onTables && ((Cond.selects RX3 yX3_read yX3_read : Cond)).keeps) = true ∨ ∃ ty, (Cond.selects RX3 yX3_read yX3_read) = .arrayClass ty) := ⟨zt_1 (List.mem_of_getElem? (i := 181) (by decide +kernel)), good_of_word (by decide +kernel)⟩
theorem zg_409 : (Cond.instanceMethod yX3_read) ∈ lw_tbl ∧ ((((Cond.instanceMethod yX3_read : Cond)).onTables && ((Cond.instanceMethod yX3_read : Cond)).keeps) = true ∨ ∃ ty, (Cond.instanceMethod yX3_read) = .arrayClass ty) := ⟨zt_1 (List.mem_of_getElem? (i := 180) (by decide +kernel)), good_of_word (by decide +kernel)⟩
theorem zg_410 : (Cond.methodLink RX7 175 yX3_read) ∈ lw_tbl ∧ ((((Cond.methodLink RX7 175 yX3_read : Cond)).onTables && ((Cond.methodLink RX7 175 yX3_read : Cond)).keeps) = true ∨ ∃ ty, (Cond.methodLink RX7 175 yX3_read) = .arrayClass ty) := ⟨zt_1 (List.mem_of_getElem? (i := 179) (by decide +kernel)), good_of_word (by decide +kernel)⟩
theorem gl_wsX7_jacket_r2 : GoodIn lw_tbl wsX7_jacket_r2 := (zl_cons zg_7 (zl_cons zg_104 (zl_cons zg_5 (zl_cons zg_410 (zl_cons zg_409 (zl_cons zg_408 (zl_cons zg_407 (zl_cons zg_406 (zl_cons zg_405 (zl_cons zg_404 (zl_cons zg_403 (zl_cons zg_402 (zl_cons zg_401 (zl_cons zg_400 (zl_cons zg_399 (zl_cons zg_398 (zl_cons zg_397 (zl_cons zg_396 (zl_cons zg_395 (zl_cons zg_394 (zl_cons zg_190 (zl_cons zg_189 (zl_cons zg_188 (zl_cons zg_393 zl_nil))))))))))))))))))))))))
theorem zg_411 : (Cond.static yX3_wordAt) ∈ lw_tbl ∧ ((((Cond.static yX3_wordAt : Cond)).onTables && ((Cond.static yX3_wordAt : Cond)).keeps) = true ∨ ∃ ty, (Cond.static yX3_wordAt) = .arrayClass ty) := ⟨zt_1 (List.mem_of_getElem? (i := 202) (by decide +kernel)), good_of_word (by decide +kernel)⟩
theorem zg_412 : (Cond.methodLink RX3 82 yX3_wordAt) ∈ lw_tbl ∧ ((((Cond.methodLink RX3 82 yX3_wordAt : Cond)).onTables && ((Cond.methodLink RX3 82 yX3_wordAt : Cond)).keeps) = true ∨ ∃ ty, (Cond.methodLink RX3 82 yX3_wordAt) = .arrayClass ty) := ⟨zt_1 (List.mem_of_getElem? (i := 201) (by decide +kernel)), good_of_word (by decide +kernel)⟩
theorem zg_413 : (Cond.methodLink RX3 98 Lib.Math.max.name) ∈ lw_tbl ∧ ((((Cond.methodLink RX3 98 Lib.Math.max.name : Cond)).onTables && ((Cond.methodLink RX3 98 Lib.Math.max.name : Cond)).keeps) = true ∨ ∃ ty, (Cond.methodLink RX3 98 Lib.Math.max.name) = .arrayClass ty) := ⟨zt_2 (List.mem_of_getElem? (i := 34) (by decide +kernel)), good_of_word (by decide +kernel)⟩
theorem zg_414 : (Cond.code yX3_readWord cX3_readWord 5 (some .int)) ∈ lw_tbl ∧ ((((Cond.code yX3_readWord cX3_readWord 5 (some .int) : Cond)).onTables && ((Cond.code yX3_readWord cX3_readWord 5 (some .int) : Cond)).keeps) = true ∨ ∃ ty, (Cond.code yX3_readWord cX3_readWord 5 (some .int)) = .arrayClass ty) := ⟨zt_1 (List.mem_of_getElem? (i := 200) rfl), good_of_word (by decide +kernel)⟩
theorem zg_415 : (Cond.selects RX3 yX3_readWord yX3_readWord) ∈ lw_tbl ∧ ((((Cond.selects RX3 yX3_readWord yX3_readWord : Cond)).onTables && ((Cond.selects RX3 yX3_readWord yX3_readWord : Cond)).keeps) = true ∨ ∃ ty, (Cond.selects RX3 yX3_readWord yX3_readWord) = .arrayClass ty) := ⟨zt_1 (List.mem_of_getElem? (i := 199) (by decide +kernel)), good_of_word (by decide +kernel)⟩
theorem zg_416 : (Cond.instanceMethod yX3_readWord) ∈ lw_tbl ∧ ((((Cond.instanceMethod yX3_readWord : Cond)).onTables && ((Cond.instanceMethod yX3_readWord : Cond)).keeps) = true ∨ ∃ ty, (Cond.instanceMethod yX3_readWord) = .arrayClass ty) := ⟨zt_1 (List.mem_of_getElem? (i := 198) (by decide +kernel)), good_of_word (by decide +kernel)⟩
theorem zg_417 : (Cond.methodLink RX3 62 yX3_readWord) ∈ lw_tbl ∧ ((((Cond.methodLink RX3 62 yX3_readWord : Cond)).onTables && ((Cond.methodLink RX3 62 yX3_readWord : Cond)).keeps) = true ∨ ∃ ty, (Cond.methodLink RX3 62 yX3_readWord) = .arrayClass ty) := ⟨zt_1 (List.mem_of_getElem? (i := 197) (by decide +kernel)), good_of_word (by decide +kernel)⟩
theorem zg_418 : (Cond.fieldLink RX3 11 "TheLiningsInIt$Reader" "items" "[I") ∈ lw_tbl ∧ ((((Cond.fieldLink RX3 11 "TheLiningsInIt$Reader" "items" "[I" : Cond)).onTables && ((Cond.fieldLink RX3 11 "TheLiningsInIt$Reader" "items" "[I" : Cond)).keeps) = true ∨ ∃ ty, (Cond.fieldLink RX3 11 "TheLiningsInIt$Reader" "items" "[I") = .arrayClass ty) := ⟨zt_0 (List.mem_of_getElem? (i := 145) (by decide +kernel)), good_of_word (by decide +kernel)⟩
theorem zg_419 : (Cond.code yX3_readItem cX3_readItem 4 none) ∈ lw_tbl ∧ ((((Cond.code yX3_readItem cX3_readItem 4 none : Cond)).onTables && ((Cond.code yX3_readItem cX3_readItem 4 none : Cond)).keeps) = true ∨ ∃ ty, (Cond.code yX3_readItem cX3_readItem 4 none) = .arrayClass ty) := ⟨zt_1 (List.mem_of_getElem? (i := 196) rfl), good_of_word (by decide +kernel)⟩
theorem zg_420 : (Cond.selects RX3 yX3_readItem yX3_readItem) ∈ lw_tbl ∧ ((((Cond.selects RX3 yX3_readItem yX3_readItem : Cond)).onTables && ((Cond.selects RX3 yX3_readItem yX3_readItem : Cond)).keeps) = true ∨ ∃ ty, (Cond.selects RX3 yX3_readItem yX3_readItem) = .arrayClass ty) := ⟨zt_1 (List.mem_of_getElem? (i := 195) (by decide +kernel)), good_of_word (by decide +kernel)⟩
theorem zg_421 : (Cond.instanceMethod yX3_readItem) ∈ lw_tbl ∧ ((((Cond.instanceMethod yX3_readItem : Cond)).onTables && ((Cond.instanceMethod yX3_readItem : Cond)).keeps) = true ∨ ∃ ty, (Cond.instanceMethod yX3_readItem) = .arrayClass ty) := ⟨zt_1 (List.mem_of_getElem? (i := 194) (by decide +kernel)), good_of_word (by decide +kernel)⟩
theorem zg_422 : (Cond.methodLink RX3 41 yX3_readItem) ∈ lw_tbl ∧ ((((Cond.methodLink RX3 41 yX3_readItem : Cond)).onTables && ((Cond.methodLink RX3 41 yX3_readItem : Cond)).keeps) = true ∨ ∃ ty, (Cond.methodLink RX3 41 yX3_readItem) = .arrayClass ty) := ⟨zt_1 (List.mem_of_getElem? (i := 193) (by decide +kernel)), good_of_word (by decide +kernel)⟩
theorem zg_423 : (Cond.methodLink RX4 36 yX4_hasSpan) ∈ lw_tbl ∧ ((((Cond.methodLink RX4 36 yX4_hasSpan : Cond)).onTables && ((Cond.methodLink RX4 36 yX4_hasSpan : Cond)).keeps) = true ∨ ∃ ty, (Cond.methodLink RX4 36 yX4_hasSpan) = .arrayClass ty) := ⟨zt_1 (List.mem_of_getElem? (i := 192) (by decide +kernel)), good_of_word (by decide +kernel)⟩
theorem zg_424 : (Cond.code yX4_tells cX4_tells 2 (some .int)) ∈ lw_tbl ∧ ((((Cond.code yX4_tells cX4_tells 2 (some .int) : Cond)).onTables && ((Cond.code yX4_tells cX4_tells 2 (some .int) : Cond)).keeps) = true ∨ ∃ ty, (Cond.code yX4_tells cX4_tells 2 (some .int)) = .arrayClass ty) := ⟨zt_1 (List.mem_of_getElem? (i := 191) rfl), good_of_word (by decide +kernel)⟩
theorem zg_425 : (Cond.selects RX4 yX4_tells yX4_tells) ∈ lw_tbl ∧ ((((Cond.selects RX4 yX4_tells yX4_tells : Cond)).onTables && ((Cond.selects RX4 yX4_tells yX4_tells : Cond)).keeps) = true ∨ ∃ ty, (Cond.selects RX4 yX4_tells yX4_tells) = .arrayClass ty) := ⟨zt_1 (List.mem_of_getElem? (i := 190) (by decide +kernel)), good_of_word (by decide +kernel)⟩
theorem zg_426 : (Cond.instanceMethod yX4_tells) ∈ lw_tbl ∧ ((((Cond.instanceMethod yX4_tells : Cond)).onTables && ((Cond.instanceMethod yX4_tells : Cond)).keeps) = true ∨ ∃ ty, (Cond.instanceMethod yX4_tells) = .arrayClass ty) := ⟨zt_1 (List.mem_of_getElem? (i := 189) (by decide +kernel)), good_of_word (by decide +kernel)⟩
theorem zg_427 : (Cond.methodLink RX3 58 yX4_tells) ∈ lw_tbl ∧ ((((Cond.methodLink RX3 58 yX4_tells : Cond)).onTables && ((Cond.methodLink RX3 58 yX4_tells : Cond)).keeps) = true ∨ ∃ ty, (Cond.methodLink RX3 58 yX4_tells) = .arrayClass ty) := ⟨zt_1 (List.mem_of_getElem? (i := 188) (by decide +kernel)), good_of_word (by decide +kernel)⟩
theorem gl_wsX7_jacket_r3 : GoodIn lw_tbl wsX7_jacket_r3 := (zl_cons zg_427 (zl_cons zg_426 (zl_cons zg_425 (zl_cons zg_424 (zl_cons zg_3 (zl_cons zg_423 (zl_cons zg_102 (zl_cons zg_101 (zl_cons zg_100 (zl_cons zg_4 (zl_cons zg_422 (zl_cons zg_421 (zl_cons zg_420 (zl_cons zg_419 (zl_cons zg_418 (zl_cons zg_417 (zl_cons zg_416 (zl_cons zg_415 (zl_cons zg_414 (zl_cons zg_413 (zl_cons zg_186 (zl_cons zg_185 (zl_cons zg_412 (zl_cons zg_411 zl_nil))))))))))))))))))))))))
theorem zg_428 : (Cond.selects RJ0 yJ0_isLatin1_aae02 yJ0_isLatin1_aae02) ∈ lw_tbl ∧ ((((Cond.selects RJ0 yJ0_isLatin1_aae02 yJ0_isLatin1_aae02 : Cond)).onTables && ((Cond.selects RJ0 yJ0_isLatin1_aae02 yJ0_isLatin1_aae02 : Cond)).keeps) = true ∨ ∃ ty, (Cond.selects RJ0 yJ0_isLatin1_aae02 yJ0_isLatin1_aae02) = .arrayClass ty) := ⟨zt_1 (List.mem_of_getElem? (i := 234) (by decide +kernel)), good_of_word (by decide +kernel)⟩
theorem zg_429 : (Cond.instanceMethod yJ0_isLatin1_aae02) ∈ lw_tbl ∧ ((((Cond.instanceMethod yJ0_isLatin1_aae02 : Cond)).onTables && ((Cond.instanceMethod yJ0_isLatin1_aae02 : Cond)).keeps) = true ∨ ∃ ty, (Cond.instanceMethod yJ0_isLatin1_aae02) = .arrayClass ty) := ⟨zt_1 (List.mem_of_getElem? (i := 233) (by decide +kernel)), good_of_word (by decide +kernel)⟩
theorem zg_430 : (Cond.methodLink RJ0 492 yJ0_isLatin1_aae02) ∈ lw_tbl ∧ ((((Cond.methodLink RJ0 492 yJ0_isLatin1_aae02 : Cond)).onTables && ((Cond.methodLink RJ0 492 yJ0_isLatin1_aae02 : Cond)).keeps) = true ∨ ∃ ty, (Cond.methodLink RJ0 492 yJ0_isLatin1_aae02) = .arrayClass ty) := ⟨zt_1 (List.mem_of_getElem? (i := 232) (by decide +kernel)), good_of_word (by decide +kernel)⟩
theorem zg_431 : (Cond.code yJ0_charAt_5068e cJ0_charAt_5068e 2 (some .char)) ∈ lw_tbl ∧ ((((Cond.code yJ0_charAt_5068e cJ0_charAt_5068e 2 (some .char) : Cond)).onTables && ((Cond.code yJ0_charAt_5068e cJ0_charAt_5068e 2 (some .char) : Cond)).keeps) = true ∨ ∃ ty, (Cond.code yJ0_charAt_5068e cJ0_charAt_5068e 2 (some .char)) = .arrayClass ty) := ⟨zt_1 (List.mem_of_getElem? (i := 231) rfl), good_of_word (by decide +kernel)⟩
theorem zg_432 : (Cond.selects RJ0 yJ0_charAt_5068e yJ0_charAt_5068e) ∈ lw_tbl ∧ ((((Cond.selects RJ0 yJ0_charAt_5068e yJ0_charAt_5068e : Cond)).onTables && ((Cond.selects RJ0 yJ0_charAt_5068e yJ0_charAt_5068e : Cond)).keeps) = true ∨ ∃ ty, (Cond.selects RJ0 yJ0_charAt_5068e yJ0_charAt_5068e) = .arrayClass ty) := ⟨zt_1 (List.mem_of_getElem? (i := 230) (by decide +kernel)), good_of_word (by decide +kernel)⟩
theorem zg_433 : (Cond.instanceMethod yJ0_charAt_5068e) ∈ lw_tbl ∧ ((((Cond.instanceMethod yJ0_charAt_5068e : Cond)).onTables && ((Cond.instanceMethod yJ0_charAt_5068e : Cond)).keeps) = true ∨ ∃ ty, (Cond.instanceMethod yJ0_charAt_5068e) = .arrayClass ty) := ⟨zt_1 (List.mem_of_getElem? (i := 229) (by decide +kernel)), good_of_word (by decide +kernel)⟩
theorem zg_434 : (Cond.methodLink RX3 101 yJ0_charAt_5068e) ∈ lw_tbl ∧ ((((Cond.methodLink RX3 101 yJ0_charAt_5068e : Cond)).onTables && ((Cond.methodLink RX3 101 yJ0_charAt_5068e : Cond)).keeps) = true ∨ ∃ ty, (Cond.methodLink RX3 101 yJ0_charAt_5068e) = .arrayClass ty) := ⟨zt_1 (List.mem_of_getElem? (i := 228) (by decide +kernel)), good_of_word (by decide +kernel)⟩
theorem zg_435 : (Cond.fieldLink RJ0 15 "java/lang/String" "coder" "B") ∈ lw_tbl ∧ ((((Cond.fieldLink RJ0 15 "java/lang/String" "coder" "B" : Cond)).onTables && ((Cond.fieldLink RJ0 15 "java/lang/String" "coder" "B" : Cond)).keeps) = true ∨ ∃ ty, (Cond.fieldLink RJ0 15 "java/lang/String" "coder" "B") = .arrayClass ty) := ⟨zt_5 (List.mem_of_getElem? (i := 174) (by decide +kernel)), good_of_word (by decide +kernel)⟩
theorem zg_436 : (Cond.fieldLink RJ0 38 "java/lang/String" "COMPACT_STRINGS" "Z") ∈ lw_tbl ∧ ((((Cond.fieldLink RJ0 38 "java/lang/String" "COMPACT_STRINGS" "Z" : Cond)).onTables && ((Cond.fieldLink RJ0 38 "java/lang/String" "COMPACT_STRINGS" "Z" : Cond)).keeps) = true ∨ ∃ ty, (Cond.fieldLink RJ0 38 "java/lang/String" "COMPACT_STRINGS" "Z") = .arrayClass ty) := ⟨zt_1 (List.mem_of_getElem? (i := 226) (by decide +kernel)), good_of_word (by decide +kernel)⟩
theorem zg_437 : (Cond.code yJ0_coder_7d493 cJ0_coder_7d493 1 (some .byte)) ∈ lw_tbl ∧ ((((Cond.code yJ0_coder_7d493 cJ0_coder_7d493 1 (some .byte) : Cond)).onTables && ((Cond.code yJ0_coder_7d493 cJ0_coder_7d493 1 (some .byte) : Cond)).keeps) = true ∨ ∃ ty, (Cond.code yJ0_coder_7d493 cJ0_coder_7d493 1 (some .byte)) = .arrayClass ty) := ⟨zt_1 (List.mem_of_getElem? (i := 225) rfl), good_of_word (by decide +kernel)⟩
theorem zg_438 : (Cond.selects RJ0 yJ0_coder_7d493 yJ0_coder_7d493) ∈ lw_tbl ∧ ((((Cond.selects RJ0 yJ0_coder_7d493 yJ0_coder_7d493 : Cond)).onTables && ((Cond.selects RJ0 yJ0_coder_7d493 yJ0_coder_7d493 : Cond)).keeps) = true ∨ ∃ ty, (Cond.selects RJ0 yJ0_coder_7d493 yJ0_coder_7d493) = .arrayClass ty) := ⟨zt_1 (List.mem_of_getElem? (i := 224) (by decide +kernel)), good_of_word (by decide +kernel)⟩
theorem zg_439 : (Cond.instanceMethod yJ0_coder_7d493) ∈ lw_tbl ∧ ((((Cond.instanceMethod yJ0_coder_7d493 : Cond)).onTables && ((Cond.instanceMethod yJ0_coder_7d493 : Cond)).keeps) = true ∨ ∃ ty, (Cond.instanceMethod yJ0_coder_7d493) = .arrayClass ty) := ⟨zt_1 (List.mem_of_getElem? (i := 223) (by decide +kernel)), good_of_word (by decide +kernel)⟩
theorem zg_440 : (Cond.methodLink RJ0 335 yJ0_coder_7d493) ∈ lw_tbl ∧ ((((Cond.methodLink RJ0 335 yJ0_coder_7d493 : Cond)).onTables && ((Cond.methodLink RJ0 335 yJ0_coder_7d493 : Cond)).keeps) = true ∨ ∃ ty, (Cond.methodLink RJ0 335 yJ0_coder_7d493) = .arrayClass ty) := ⟨zt_1 (List.mem_of_getElem? (i := 222) (by decide +kernel)), good_of_word (by decide +kernel)⟩
theorem zg_441 : (Cond.fieldLink RJ0 9 "java/lang/String" "value" "[B") ∈ lw_tbl ∧ ((((Cond.fieldLink RJ0 9 "java/lang/String" "value" "[B" : Cond)).onTables && ((Cond.fieldLink RJ0 9 "java/lang/String" "value" "[B" : Cond)).keeps) = true ∨ ∃ ty, (Cond.fieldLink RJ0 9 "java/lang/String" "value" "[B") = .arrayClass ty) := ⟨zt_5 (List.mem_of_getElem? (i := 173) (by decide +kernel)), good_of_word (by decide +kernel)⟩
theorem zg_442 : (Cond.code yJ0_length_8abf5 cJ0_length_8abf5 1 (some .int)) ∈ lw_tbl ∧ ((((Cond.code yJ0_length_8abf5 cJ0_length_8abf5 1 (some .int) : Cond)).onTables && ((Cond.code yJ0_length_8abf5 cJ0_length_8abf5 1 (some .int) : Cond)).keeps) = true ∨ ∃ ty, (Cond.code yJ0_length_8abf5 cJ0_length_8abf5 1 (some .int)) = .arrayClass ty) := ⟨zt_1 (List.mem_of_getElem? (i := 221) rfl), good_of_word (by decide +kernel)⟩
theorem zg_443 : (Cond.initialized RJ0) ∈ lw_tbl ∧ ((((Cond.initialized RJ0 : Cond)).onTables && ((Cond.initialized RJ0 : Cond)).keeps) = true ∨ ∃ ty, (Cond.initialized RJ0) = .arrayClass ty) := ⟨zt_0 (List.mem_of_getElem? (i := 13) (by decide +kernel)), good_of_word (by decide +kernel)⟩
theorem zg_444 : (Cond.selects RJ0 yJ0_length_8abf5 yJ0_length_8abf5) ∈ lw_tbl ∧ ((((Cond.selects RJ0 yJ0_length_8abf5 yJ0_length_8abf5 : Cond)).onTables && ((Cond.selects RJ0 yJ0_length_8abf5 yJ0_length_8abf5 : Cond)).keeps) = true ∨ ∃ ty, (Cond.selects RJ0 yJ0_length_8abf5 yJ0_length_8abf5) = .arrayClass ty) := ⟨zt_1 (List.mem_of_getElem? (i := 220) (by decide +kernel)), good_of_word (by decide +kernel)⟩
theorem zg_445 : (Cond.instanceMethod yJ0_length_8abf5) ∈ lw_tbl ∧ ((((Cond.instanceMethod yJ0_length_8abf5 : Cond)).onTables && ((Cond.instanceMethod yJ0_length_8abf5 : Cond)).keeps) = true ∨ ∃ ty, (Cond.instanceMethod yJ0_length_8abf5) = .arrayClass ty) := ⟨zt_1 (List.mem_of_getElem? (i := 219) (by decide +kernel)), good_of_word (by decide +kernel)⟩
theorem zg_446 : (Cond.methodLink RX3 90 yJ0_length_8abf5) ∈ lw_tbl ∧ ((((Cond.methodLink RX3 90 yJ0_length_8abf5 : Cond)).onTables && ((Cond.methodLink RX3 90 yJ0_length_8abf5 : Cond)).keeps) = true ∨ ∃ ty, (Cond.methodLink RX3 90 yJ0_length_8abf5) = .arrayClass ty) := ⟨zt_1 (List.mem_of_getElem? (i := 218) (by decide +kernel)), good_of_word (by decide +kernel)⟩
theorem zg_447 : (Cond.code yX3_lettersStanding cX3_lettersStanding 3 (some .int)) ∈ lw_tbl ∧ ((((Cond.code yX3_lettersStanding cX3_lettersStanding 3 (some .int) : Cond)).onTables && ((Cond.code yX3_lettersStanding cX3_lettersStanding 3 (some .int) : Cond)).keeps) = true ∨ ∃ ty, (Cond.code yX3_lettersStanding cX3_lettersStanding 3 (some .int)) = .arrayClass ty) := ⟨zt_1 (List.mem_of_getElem? (i := 217) rfl), good_of_word (by decide +kernel)⟩
theorem zg_448 : (Cond.selects RX3 yX3_lettersStanding yX3_lettersStanding) ∈ lw_tbl ∧ ((((Cond.selects RX3 yX3_lettersStanding yX3_lettersStanding : Cond)).onTables && ((Cond.selects RX3 yX3_lettersStanding yX3_lettersStanding : Cond)).keeps) = true ∨ ∃ ty, (Cond.selects RX3 yX3_lettersStanding yX3_lettersStanding) = .arrayClass ty) := ⟨zt_1 (List.mem_of_getElem? (i := 216) (by decide +kernel)), good_of_word (by decide +kernel)⟩
end
