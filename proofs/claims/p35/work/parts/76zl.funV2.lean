set_option maxHeartbeats 4000000 in
set_option maxRecDepth 100000 in
theorem c_F_M_begin (l : Launch) (D : va_G) (cI cJ cZ cP cS : ClassId) (po : zPool) (mv mb : Nat) (mr mk mm mq : Int32) (fb : Nat → Int32) (nb mo x : Int32) (u0 : Nat) (ki a_ ta : Int32) (hu_u0 : zPu po u0 ki a_ ta) (hr_u0 : zPr ki a_ ta) (hy2 : 0 ≤ mr.toInt) (hy3 : mr.toInt ≤ 1000) (hy4 : 0 ≤ mo.toInt) (hy5 : mo.toInt ≤ 2) (hpz : Nat) : Met l yX1_begin wsX1_begin ({ frames := 9, cells := 0, slots := 0, locals := 228 }) (va_Pc [.ref mv, .ref u0, .int nb, .int mo, .int x] (zW D (zKT cI cJ cZ cP cS) po [(mv, .inr (1, [.ref mb, .int mr, .int mk, .int mm, .int mq])), (mb, .inl (cI, 20, .inl fb))] hpz)) (va_Qi (fun (r : Int32) (u : (Int32) × (Int32) × (Int32) × (Int32) × (Nat → Int32)) => (0 ≤ u.1.toInt ∧ u.1.toInt ≤ 2000) ∧ (r = zQa ki.toInt mo.toInt x nb a_) ∧ (u.2.2.2.2 = zTr fb mr.toInt (zBa ki.toInt mo.toInt)) ∧ (u.1.toInt = mr.toInt + ((zBa ki.toInt mo.toInt).length : Nat)) ∧ (True)) (zB D [(mv, .inr (1, [.ref mb, .int mr, .int mk, .int mm, .int mq])), (mb, .inl (cI, 20, .inl fb))] hpz (fun (u : (Int32) × (Int32) × (Int32) × (Int32) × (Nat → Int32)) => [(mv, .inr (1, [.ref mb, .int u.1, .int u.2.1, .int u.2.2.1, .int u.2.2.2.1])), (mb, .inl (cI, 20, .inl u.2.2.2.2))])) (va_A [(mv, .inr (1, [.ref mb, .int mr, .int mk, .int mm, .int mq])), (mb, .inl (cI, 20, .inl fb))] hpz)) 0 0 (va_A [(mv, .inr (1, [.ref mb, .int mr, .int mk, .int mm, .int mq])), (mb, .inl (cI, 20, .inl fb))] hpz) := by
  refine Met.ofW (cc := cX1_begin) (maxL := 5) (ret := (some .int)) (by decide) rfl ?_
  intro p e s m args below meth c s₁ B hml hv
  obtain ⟨rfl, hsz, hP, hK, hD0, hN, hZ⟩ := hv
  have hx := B.exec
  have hb := B.bytes
  have hr := B.returns
  have hts := atoms_spec (ws := wsX1_begin) B.pre
  have hown : s.vm.findClass RX1 = some m.cls := findClass_of_methodNamed B.named
  have hlocks := B.notSynchronized
  subst hsz
  have hD := hD0.self (sz := s.heap.size)
  have hA := zA_of hD
  have hl := lv_entry ([.ref mv, .ref u0, .int nb, .int mo, .int x]) (n := 5) (Nat.le_of_ble_eq_true rfl)
  rw [lg_entry_eq]
  generalize (lg_sl ([.ref mv, .ref u0, .int nb, .int mo, .int x]) ++ List.replicate (5 - (lg_sl ([.ref mv, .ref u0, .int nb, .int mo, .int x])).length) Slot.unset).toArray = ls at hl ⊢
  replace hl : lv_has ls 5 [(0, .ref mv), (1, .ref u0), (2, .int nb), (3, .int mo), (4, .int x)] := hl
  refine zw_begin hP hD (fun H locs hP1 hS => ?_)
  clear hP
  have hP := hP1
  clear hP1
  obtain ⟨⟨p1_u0, p2_u0⟩, ⟨p3_u0, p4_u0⟩, p5_u0, p6_u0⟩ := id hr_u0
  have hsp : ki = 0 ∨ ki = 1 ∨ ki = 2 ∨ ki = 3 ∨ ki = 4 ∨ ki = 5 ∨ ki = 6 := by
    rcases (show ki.toInt = 0 ∨ ki.toInt = 1 ∨ ki.toInt = 2 ∨ ki.toInt = 3 ∨ ki.toInt = 4 ∨ ki.toInt = 5 ∨ ki.toInt = 6 by omega) with h9 | h9 | h9 | h9 | h9 | h9 | h9
    · refine Or.inl ?_; exact zf_val h9 (by decide)
    · refine Or.inr (Or.inl ?_); exact zf_val h9 (by decide)
    · refine Or.inr (Or.inr (Or.inl ?_)); exact zf_val h9 (by decide)
    · refine Or.inr (Or.inr (Or.inr (Or.inl ?_))); exact zf_val h9 (by decide)
    · refine Or.inr (Or.inr (Or.inr (Or.inr (Or.inl ?_)))); exact zf_val h9 (by decide)
    · refine Or.inr (Or.inr (Or.inr (Or.inr (Or.inr (Or.inl ?_))))); exact zf_val h9 (by decide)
    · refine Or.inr (Or.inr (Or.inr (Or.inr (Or.inr (Or.inr (?_)))))); exact zf_val h9 (by decide)
  rcases hsp with rfl | rfl | rfl | rfl | rfl | rfl | rfl
  · refine lv_aload_n hx hb dX1_begin_0 rfl (lv_at hl 0 rfl) ?_
    have hsp : mo = 0 ∨ mo = 1 ∨ mo = 2 := by
      rcases (show mo.toInt = 0 ∨ mo.toInt = 1 ∨ mo.toInt = 2 by omega) with h9 | h9 | h9
      · refine Or.inl ?_; exact zf_val h9 (by decide)
      · refine Or.inr (Or.inl ?_); exact zf_val h9 (by decide)
      · refine Or.inr (Or.inr (?_)); exact zf_val h9 (by decide)
    rcases hsp with rfl | rfl | rfl
    · refine lv_aload_n hx hb dX1_begin_1 rfl (lv_at hl 1 rfl) ?_
      refine va_get (D := D) (ci := 2) (v := .int 0) (C := RX2) (T := TX2) (N := 3) hx hb hts hi_X1_begin_2 hown hK (zPu_P (hZ.kept hS) hu_u0) 0 rfl rfl 0 (by decide) (hts (.fieldLink RX1 28 "TheLiningsInIt$Pull" "kind" "I") (List.mem_of_getElem? (i := 1) rfl)) (fun _ h9 => h9) rfl dX1_begin_2 ?_
      refine va_put (D := D) (ci := 1) (v := .int 0) (ty := .int) (C := RX1) (T := TX1) (N := 5) hx hb hts hi_X1_begin_1 tyX1 tyX1_ok nmX1 hown hK hP hD hS 0 rfl rfl 2 (by decide) (hts (.fieldLink RX1 19 "TheLiningsInIt$Moves" "kind" "I") (List.mem_of_getElem? (i := 2) rfl)) (fun _ h9 => h9) rfl (tyX1_ok 2 (Nat.le_of_ble_eq_true rfl)) rfl rfl (Nat.le_of_ble_eq_true rfl) dX1_begin_5 (fun H locs hP hD hS => ?_)
      have h9R := zRe (ws' := [(mv, .inr (1, [.ref mb, .int mr, .int 0, .int mm, .int mq])), (mb, .inl (cI, 20, .inl fb))]) hP hD rfl
      clear hP hD
      obtain ⟨hP, hD⟩ := h9R
      refine lv_aload_n hx hb dX1_begin_8 rfl (lv_at hl 0 rfl) ?_
      refine lv_iload_n hx hb dX1_begin_9 rfl (lv_at hl 2 rfl) ?_
      refine va_put (D := D) (ci := 1) (v := .int nb) (ty := .int) (C := RX1) (T := TX1) (N := 5) hx hb hts hi_X1_begin_1 tyX1 tyX1_ok nmX1 hown hK hP hD hS 0 rfl rfl 3 (by decide) (hts (.fieldLink RX1 22 "TheLiningsInIt$Moves" "m" "I") (List.mem_of_getElem? (i := 3) rfl)) (fun _ h9 => h9) rfl (tyX1_ok 3 (Nat.le_of_ble_eq_true rfl)) rfl rfl (Nat.le_of_ble_eq_true rfl) dX1_begin_10 (fun H locs hP hD hS => ?_)
      have h9R := zRe (ws' := [(mv, .inr (1, [.ref mb, .int mr, .int 0, .int nb, .int mq])), (mb, .inl (cI, 20, .inl fb))]) hP hD rfl
      clear hP hD
      obtain ⟨hP, hD⟩ := h9R
      refine lv_aload_n hx hb dX1_begin_13 rfl (lv_at hl 0 rfl) ?_
      refine lv_aload_n hx hb dX1_begin_14 rfl (lv_at hl 1 rfl) ?_
      refine va_get (D := D) (ci := 2) (v := .int a_) (C := RX2) (T := TX2) (N := 3) hx hb hts hi_X1_begin_2 hown hK (zPu_P (hZ.kept hS) hu_u0) 0 rfl rfl 1 (by decide) (hts (.fieldLink RX1 31 "TheLiningsInIt$Pull" "a" "I") (List.mem_of_getElem? (i := 4) rfl)) (fun _ h9 => h9) rfl dX1_begin_15 ?_
      refine va_put (D := D) (ci := 1) (v := .int a_) (ty := .int) (C := RX1) (T := TX1) (N := 5) hx hb hts hi_X1_begin_1 tyX1 tyX1_ok nmX1 hown hK hP hD hS 0 rfl rfl 4 (by decide) (hts (.fieldLink RX1 25 "TheLiningsInIt$Moves" "k" "I") (List.mem_of_getElem? (i := 5) rfl)) (fun _ h9 => h9) rfl (tyX1_ok 4 (Nat.le_of_ble_eq_true rfl)) rfl rfl (Nat.le_of_ble_eq_true rfl) dX1_begin_18 (fun H locs hP hD hS => ?_)
      have h9R := zRe (ws' := [(mv, .inr (1, [.ref mb, .int mr, .int 0, .int nb, .int a_])), (mb, .inl (cI, 20, .inl fb))]) hP hD rfl
      clear hP hD
      obtain ⟨hP, hD⟩ := h9R
      refine lv_aload_n hx hb dX1_begin_21 rfl (lv_at hl 0 rfl) ?_
      refine lv_aload_n hx hb dX1_begin_22 rfl (lv_at hl 0 rfl) ?_
      refine va_get (D := D) (ci := 1) (v := .int 0) (C := RX1) (T := TX1) (N := 5) hx hb hts hi_X1_begin_1 hown hK hP 0 rfl rfl 2 (by decide) (hts (.fieldLink RX1 19 "TheLiningsInIt$Moves" "kind" "I") (List.mem_of_getElem? (i := 2) rfl)) (fun _ h9 => h9) rfl dX1_begin_23 ?_
      refine lv_iload_n hx hb dX1_begin_26 rfl (lv_at hl 3 rfl) ?_
      refine lv_iload hx hb dX1_begin_27 (lv_at hl 4 rfl) ?_
      refine lv_iconst (v := 0) hx hb dX1_begin_29 (by decide) ?_
      skip
      refine zw_V (As := [.int 0, .int 0, .int x, .int 0]) (rest := []) (wr := []) ⟨hx, hb, hml, hown, hts⟩ (c_F_M_run_0_0_0_0 l D cI cJ cZ cP cS po mv mb (mr) (nb) (a_) fb (x) hy2 hy3 H.size) (cwV 4 hts gX1_begin_X1_run rfl rfl rfl ⟨rfl, dh_X1_run⟩ ⟨Nat.le_of_ble_eq_true rfl, Nat.le_of_ble_eq_true rfl⟩) hK hN (hZ.kept hS) hP hD hS hA [0, 1] [] rfl rfl (by decide) (by decide) (by decide) (va_recv (q := (RX1, TX1, 5)) hK hP (ci := 1) (q0 := 0) rfl rfl) rfl hl.1 rfl (Nat.le_of_ble_eq_true rfl) dX1_begin_30 ⟨Nat.le_of_ble_eq_true rfl, Nat.le_of_ble_eq_true rfl⟩ (fun r_1 u_2 H locs hr_1 hP hD hS => ?_)
      obtain ⟨q_3, q_4⟩ := u_2
      try dsimp only at hr_1
      obtain ⟨hbq_3, hsr_1_0, hsr_1_1, hr_1⟩ := hr_1
      have h9R := zRe (ws' := [(mv, .inr (1, [.ref mb, .int q_3, .int 0, .int nb, .int a_])), (mb, .inl (cI, 20, .inl q_4))]) hP hD rfl
      clear hP hD
      obtain ⟨hP, hD⟩ := h9R
      exact W.iret (v := r_1) hx hb hr (fun t ht hW => ⟨⟨r_1, (q_3, 0, nb, a_, q_4), rfl, ⟨(show 0 ≤ q_3.toInt ∧ q_3.toInt ≤ 2000 from ⟨by omega, by omega⟩), (show (r_1 : Int32) = zQa (0 : Int32).toInt (0 : Int32).toInt x nb a_ from by (rw [hsr_1_0, show (0 : Int32).toInt = 0 from by decide]; first | done | rfl)), (show q_4 = zTr fb mr.toInt (zBa (0 : Int32).toInt (0 : Int32).toInt) from by (rw [hsr_1_1, show (0 : Int32).toInt = 0 from by decide]; first | done | rfl)), (show q_3.toInt = mr.toInt + ((zBa (0 : Int32).toInt (0 : Int32).toInt).length : Nat) from by (have q : ((zBa (0 : Int32).toInt (0 : Int32).toInt).length : Int) = 1 := (by rw [show (0 : Int32).toInt = 0 from by decide]; first | done | rfl); omega)), trivial⟩, zRet ht hP hD [0, 1] (by decide) rfl⟩, hS.F ht⟩) hS.2.2 dX1_begin_33
    · refine lv_aload_n hx hb dX1_begin_1 rfl (lv_at hl 1 rfl) ?_
      refine va_get (D := D) (ci := 2) (v := .int 0) (C := RX2) (T := TX2) (N := 3) hx hb hts hi_X1_begin_2 hown hK (zPu_P (hZ.kept hS) hu_u0) 0 rfl rfl 0 (by decide) (hts (.fieldLink RX1 28 "TheLiningsInIt$Pull" "kind" "I") (List.mem_of_getElem? (i := 1) rfl)) (fun _ h9 => h9) rfl dX1_begin_2 ?_
      refine va_put (D := D) (ci := 1) (v := .int 0) (ty := .int) (C := RX1) (T := TX1) (N := 5) hx hb hts hi_X1_begin_1 tyX1 tyX1_ok nmX1 hown hK hP hD hS 0 rfl rfl 2 (by decide) (hts (.fieldLink RX1 19 "TheLiningsInIt$Moves" "kind" "I") (List.mem_of_getElem? (i := 2) rfl)) (fun _ h9 => h9) rfl (tyX1_ok 2 (Nat.le_of_ble_eq_true rfl)) rfl rfl (Nat.le_of_ble_eq_true rfl) dX1_begin_5 (fun H locs hP hD hS => ?_)
      have h9R := zRe (ws' := [(mv, .inr (1, [.ref mb, .int mr, .int 0, .int mm, .int mq])), (mb, .inl (cI, 20, .inl fb))]) hP hD rfl
      clear hP hD
      obtain ⟨hP, hD⟩ := h9R
      refine lv_aload_n hx hb dX1_begin_8 rfl (lv_at hl 0 rfl) ?_
      refine lv_iload_n hx hb dX1_begin_9 rfl (lv_at hl 2 rfl) ?_
      refine va_put (D := D) (ci := 1) (v := .int nb) (ty := .int) (C := RX1) (T := TX1) (N := 5) hx hb hts hi_X1_begin_1 tyX1 tyX1_ok nmX1 hown hK hP hD hS 0 rfl rfl 3 (by decide) (hts (.fieldLink RX1 22 "TheLiningsInIt$Moves" "m" "I") (List.mem_of_getElem? (i := 3) rfl)) (fun _ h9 => h9) rfl (tyX1_ok 3 (Nat.le_of_ble_eq_true rfl)) rfl rfl (Nat.le_of_ble_eq_true rfl) dX1_begin_10 (fun H locs hP hD hS => ?_)
      have h9R := zRe (ws' := [(mv, .inr (1, [.ref mb, .int mr, .int 0, .int nb, .int mq])), (mb, .inl (cI, 20, .inl fb))]) hP hD rfl
      clear hP hD
      obtain ⟨hP, hD⟩ := h9R
      refine lv_aload_n hx hb dX1_begin_13 rfl (lv_at hl 0 rfl) ?_
      refine lv_aload_n hx hb dX1_begin_14 rfl (lv_at hl 1 rfl) ?_
      refine va_get (D := D) (ci := 2) (v := .int a_) (C := RX2) (T := TX2) (N := 3) hx hb hts hi_X1_begin_2 hown hK (zPu_P (hZ.kept hS) hu_u0) 0 rfl rfl 1 (by decide) (hts (.fieldLink RX1 31 "TheLiningsInIt$Pull" "a" "I") (List.mem_of_getElem? (i := 4) rfl)) (fun _ h9 => h9) rfl dX1_begin_15 ?_
      refine va_put (D := D) (ci := 1) (v := .int a_) (ty := .int) (C := RX1) (T := TX1) (N := 5) hx hb hts hi_X1_begin_1 tyX1 tyX1_ok nmX1 hown hK hP hD hS 0 rfl rfl 4 (by decide) (hts (.fieldLink RX1 25 "TheLiningsInIt$Moves" "k" "I") (List.mem_of_getElem? (i := 5) rfl)) (fun _ h9 => h9) rfl (tyX1_ok 4 (Nat.le_of_ble_eq_true rfl)) rfl rfl (Nat.le_of_ble_eq_true rfl) dX1_begin_18 (fun H locs hP hD hS => ?_)
      have h9R := zRe (ws' := [(mv, .inr (1, [.ref mb, .int mr, .int 0, .int nb, .int a_])), (mb, .inl (cI, 20, .inl fb))]) hP hD rfl
      clear hP hD
      obtain ⟨hP, hD⟩ := h9R
      refine lv_aload_n hx hb dX1_begin_21 rfl (lv_at hl 0 rfl) ?_
      refine lv_aload_n hx hb dX1_begin_22 rfl (lv_at hl 0 rfl) ?_
      refine va_get (D := D) (ci := 1) (v := .int 0) (C := RX1) (T := TX1) (N := 5) hx hb hts hi_X1_begin_1 hown hK hP 0 rfl rfl 2 (by decide) (hts (.fieldLink RX1 19 "TheLiningsInIt$Moves" "kind" "I") (List.mem_of_getElem? (i := 2) rfl)) (fun _ h9 => h9) rfl dX1_begin_23 ?_
      refine lv_iload_n hx hb dX1_begin_26 rfl (lv_at hl 3 rfl) ?_
      refine lv_iload hx hb dX1_begin_27 (lv_at hl 4 rfl) ?_
      refine lv_iconst (v := 0) hx hb dX1_begin_29 (by decide) ?_
      skip
      refine zw_V (As := [.int 0, .int 1, .int x, .int 0]) (rest := []) (wr := []) ⟨hx, hb, hml, hown, hts⟩ (c_F_M_run_0_0_1_0 l D cI cJ cZ cP cS po mv mb (mr) (nb) (a_) fb (x) hy2 hy3 H.size) (cwV 4 hts gX1_begin_X1_run rfl rfl rfl ⟨rfl, dh_X1_run⟩ ⟨Nat.le_of_ble_eq_true rfl, Nat.le_of_ble_eq_true rfl⟩) hK hN (hZ.kept hS) hP hD hS hA [0, 1] [] rfl rfl (by decide) (by decide) (by decide) (va_recv (q := (RX1, TX1, 5)) hK hP (ci := 1) (q0 := 0) rfl rfl) rfl hl.1 rfl (Nat.le_of_ble_eq_true rfl) dX1_begin_30 ⟨Nat.le_of_ble_eq_true rfl, Nat.le_of_ble_eq_true rfl⟩ (fun r_5 u_6 H locs hr_5 hP hD hS => ?_)
      obtain ⟨q_7, q_8⟩ := u_6
      try dsimp only at hr_5
      obtain ⟨hbq_7, hsr_5_0, hsr_5_1, hr_5⟩ := hr_5
      have h9R := zRe (ws' := [(mv, .inr (1, [.ref mb, .int q_7, .int 0, .int nb, .int a_])), (mb, .inl (cI, 20, .inl q_8))]) hP hD rfl
      clear hP hD
      obtain ⟨hP, hD⟩ := h9R
      exact W.iret (v := r_5) hx hb hr (fun t ht hW => ⟨⟨r_5, (q_7, 0, nb, a_, q_8), rfl, ⟨(show 0 ≤ q_7.toInt ∧ q_7.toInt ≤ 2000 from ⟨by omega, by omega⟩), (show (r_5 : Int32) = zQa (0 : Int32).toInt (1 : Int32).toInt x nb a_ from by (rw [hsr_5_0, show (0 : Int32).toInt = 0 from by decide, show (1 : Int32).toInt = 1 from by decide]; first | done | rfl)), (show q_8 = zTr fb mr.toInt (zBa (0 : Int32).toInt (1 : Int32).toInt) from by (rw [hsr_5_1, show (0 : Int32).toInt = 0 from by decide, show (1 : Int32).toInt = 1 from by decide]; first | done | rfl)), (show q_7.toInt = mr.toInt + ((zBa (0 : Int32).toInt (1 : Int32).toInt).length : Nat) from by (have q : ((zBa (0 : Int32).toInt (1 : Int32).toInt).length : Int) = 2 := (by rw [show (0 : Int32).toInt = 0 from by decide, show (1 : Int32).toInt = 1 from by decide]; first | done | rfl); omega)), trivial⟩, zRet ht hP hD [0, 1] (by decide) rfl⟩, hS.F ht⟩) hS.2.2 dX1_begin_33
    · refine lv_aload_n hx hb dX1_begin_1 rfl (lv_at hl 1 rfl) ?_
      refine va_get (D := D) (ci := 2) (v := .int 0) (C := RX2) (T := TX2) (N := 3) hx hb hts hi_X1_begin_2 hown hK (zPu_P (hZ.kept hS) hu_u0) 0 rfl rfl 0 (by decide) (hts (.fieldLink RX1 28 "TheLiningsInIt$Pull" "kind" "I") (List.mem_of_getElem? (i := 1) rfl)) (fun _ h9 => h9) rfl dX1_begin_2 ?_
      refine va_put (D := D) (ci := 1) (v := .int 0) (ty := .int) (C := RX1) (T := TX1) (N := 5) hx hb hts hi_X1_begin_1 tyX1 tyX1_ok nmX1 hown hK hP hD hS 0 rfl rfl 2 (by decide) (hts (.fieldLink RX1 19 "TheLiningsInIt$Moves" "kind" "I") (List.mem_of_getElem? (i := 2) rfl)) (fun _ h9 => h9) rfl (tyX1_ok 2 (Nat.le_of_ble_eq_true rfl)) rfl rfl (Nat.le_of_ble_eq_true rfl) dX1_begin_5 (fun H locs hP hD hS => ?_)
      have h9R := zRe (ws' := [(mv, .inr (1, [.ref mb, .int mr, .int 0, .int mm, .int mq])), (mb, .inl (cI, 20, .inl fb))]) hP hD rfl
      clear hP hD
      obtain ⟨hP, hD⟩ := h9R
      refine lv_aload_n hx hb dX1_begin_8 rfl (lv_at hl 0 rfl) ?_
      refine lv_iload_n hx hb dX1_begin_9 rfl (lv_at hl 2 rfl) ?_
      refine va_put (D := D) (ci := 1) (v := .int nb) (ty := .int) (C := RX1) (T := TX1) (N := 5) hx hb hts hi_X1_begin_1 tyX1 tyX1_ok nmX1 hown hK hP hD hS 0 rfl rfl 3 (by decide) (hts (.fieldLink RX1 22 "TheLiningsInIt$Moves" "m" "I") (List.mem_of_getElem? (i := 3) rfl)) (fun _ h9 => h9) rfl (tyX1_ok 3 (Nat.le_of_ble_eq_true rfl)) rfl rfl (Nat.le_of_ble_eq_true rfl) dX1_begin_10 (fun H locs hP hD hS => ?_)
      have h9R := zRe (ws' := [(mv, .inr (1, [.ref mb, .int mr, .int 0, .int nb, .int mq])), (mb, .inl (cI, 20, .inl fb))]) hP hD rfl
      clear hP hD
      obtain ⟨hP, hD⟩ := h9R
      refine lv_aload_n hx hb dX1_begin_13 rfl (lv_at hl 0 rfl) ?_
      refine lv_aload_n hx hb dX1_begin_14 rfl (lv_at hl 1 rfl) ?_
      refine va_get (D := D) (ci := 2) (v := .int a_) (C := RX2) (T := TX2) (N := 3) hx hb hts hi_X1_begin_2 hown hK (zPu_P (hZ.kept hS) hu_u0) 0 rfl rfl 1 (by decide) (hts (.fieldLink RX1 31 "TheLiningsInIt$Pull" "a" "I") (List.mem_of_getElem? (i := 4) rfl)) (fun _ h9 => h9) rfl dX1_begin_15 ?_
      refine va_put (D := D) (ci := 1) (v := .int a_) (ty := .int) (C := RX1) (T := TX1) (N := 5) hx hb hts hi_X1_begin_1 tyX1 tyX1_ok nmX1 hown hK hP hD hS 0 rfl rfl 4 (by decide) (hts (.fieldLink RX1 25 "TheLiningsInIt$Moves" "k" "I") (List.mem_of_getElem? (i := 5) rfl)) (fun _ h9 => h9) rfl (tyX1_ok 4 (Nat.le_of_ble_eq_true rfl)) rfl rfl (Nat.le_of_ble_eq_true rfl) dX1_begin_18 (fun H locs hP hD hS => ?_)
      have h9R := zRe (ws' := [(mv, .inr (1, [.ref mb, .int mr, .int 0, .int nb, .int a_])), (mb, .inl (cI, 20, .inl fb))]) hP hD rfl
      clear hP hD
      obtain ⟨hP, hD⟩ := h9R
      refine lv_aload_n hx hb dX1_begin_21 rfl (lv_at hl 0 rfl) ?_
      refine lv_aload_n hx hb dX1_begin_22 rfl (lv_at hl 0 rfl) ?_
      refine va_get (D := D) (ci := 1) (v := .int 0) (C := RX1) (T := TX1) (N := 5) hx hb hts hi_X1_begin_1 hown hK hP 0 rfl rfl 2 (by decide) (hts (.fieldLink RX1 19 "TheLiningsInIt$Moves" "kind" "I") (List.mem_of_getElem? (i := 2) rfl)) (fun _ h9 => h9) rfl dX1_begin_23 ?_
      refine lv_iload_n hx hb dX1_begin_26 rfl (lv_at hl 3 rfl) ?_
      refine lv_iload hx hb dX1_begin_27 (lv_at hl 4 rfl) ?_
      refine lv_iconst (v := 0) hx hb dX1_begin_29 (by decide) ?_
      skip
      refine zw_V (As := [.int 0, .int 2, .int x, .int 0]) (rest := []) (wr := []) ⟨hx, hb, hml, hown, hts⟩ (c_F_M_run_0_0_2_0 l D cI cJ cZ cP cS po mv mb (mr) (nb) (a_) fb (x) hy2 hy3 H.size) (cwV 4 hts gX1_begin_X1_run rfl rfl rfl ⟨rfl, dh_X1_run⟩ ⟨Nat.le_of_ble_eq_true rfl, Nat.le_of_ble_eq_true rfl⟩) hK hN (hZ.kept hS) hP hD hS hA [0, 1] [] rfl rfl (by decide) (by decide) (by decide) (va_recv (q := (RX1, TX1, 5)) hK hP (ci := 1) (q0 := 0) rfl rfl) rfl hl.1 rfl (Nat.le_of_ble_eq_true rfl) dX1_begin_30 ⟨Nat.le_of_ble_eq_true rfl, Nat.le_of_ble_eq_true rfl⟩ (fun r_9 u_10 H locs hr_9 hP hD hS => ?_)
      obtain ⟨q_11, q_12⟩ := u_10
      try dsimp only at hr_9
      obtain ⟨hbq_11, hsr_9_0, hsr_9_1, hr_9⟩ := hr_9
      have h9R := zRe (ws' := [(mv, .inr (1, [.ref mb, .int q_11, .int 0, .int nb, .int a_])), (mb, .inl (cI, 20, .inl q_12))]) hP hD rfl
      clear hP hD
      obtain ⟨hP, hD⟩ := h9R
      exact W.iret (v := r_9) hx hb hr (fun t ht hW => ⟨⟨r_9, (q_11, 0, nb, a_, q_12), rfl, ⟨(show 0 ≤ q_11.toInt ∧ q_11.toInt ≤ 2000 from ⟨by omega, by omega⟩), (show (r_9 : Int32) = zQa (0 : Int32).toInt (2 : Int32).toInt x nb a_ from by (rw [hsr_9_0, show (0 : Int32).toInt = 0 from by decide, show (2 : Int32).toInt = 2 from by decide]; first | done | rfl)), (show q_12 = zTr fb mr.toInt (zBa (0 : Int32).toInt (2 : Int32).toInt) from by (rw [hsr_9_1, show (0 : Int32).toInt = 0 from by decide, show (2 : Int32).toInt = 2 from by decide]; first | done | rfl)), (show q_11.toInt = mr.toInt + ((zBa (0 : Int32).toInt (2 : Int32).toInt).length : Nat) from by (have q : ((zBa (0 : Int32).toInt (2 : Int32).toInt).length : Int) = 4 := (by rw [show (0 : Int32).toInt = 0 from by decide, show (2 : Int32).toInt = 2 from by decide]; first | done | rfl); omega)), trivial⟩, zRet ht hP hD [0, 1] (by decide) rfl⟩, hS.F ht⟩) hS.2.2 dX1_begin_33
  · refine lv_aload_n hx hb dX1_begin_0 rfl (lv_at hl 0 rfl) ?_
    have hsp : mo = 0 ∨ mo = 1 ∨ mo = 2 := by
      rcases (show mo.toInt = 0 ∨ mo.toInt = 1 ∨ mo.toInt = 2 by omega) with h9 | h9 | h9
      · refine Or.inl ?_; exact zf_val h9 (by decide)
      · refine Or.inr (Or.inl ?_); exact zf_val h9 (by decide)
      · refine Or.inr (Or.inr (?_)); exact zf_val h9 (by decide)
    rcases hsp with rfl | rfl | rfl
    · refine lv_aload_n hx hb dX1_begin_1 rfl (lv_at hl 1 rfl) ?_
      refine va_get (D := D) (ci := 2) (v := .int 1) (C := RX2) (T := TX2) (N := 3) hx hb hts hi_X1_begin_2 hown hK (zPu_P (hZ.kept hS) hu_u0) 0 rfl rfl 0 (by decide) (hts (.fieldLink RX1 28 "TheLiningsInIt$Pull" "kind" "I") (List.mem_of_getElem? (i := 1) rfl)) (fun _ h9 => h9) rfl dX1_begin_2 ?_
      refine va_put (D := D) (ci := 1) (v := .int 1) (ty := .int) (C := RX1) (T := TX1) (N := 5) hx hb hts hi_X1_begin_1 tyX1 tyX1_ok nmX1 hown hK hP hD hS 0 rfl rfl 2 (by decide) (hts (.fieldLink RX1 19 "TheLiningsInIt$Moves" "kind" "I") (List.mem_of_getElem? (i := 2) rfl)) (fun _ h9 => h9) rfl (tyX1_ok 2 (Nat.le_of_ble_eq_true rfl)) rfl rfl (Nat.le_of_ble_eq_true rfl) dX1_begin_5 (fun H locs hP hD hS => ?_)
      have h9R := zRe (ws' := [(mv, .inr (1, [.ref mb, .int mr, .int 1, .int mm, .int mq])), (mb, .inl (cI, 20, .inl fb))]) hP hD rfl
      clear hP hD
      obtain ⟨hP, hD⟩ := h9R
      refine lv_aload_n hx hb dX1_begin_8 rfl (lv_at hl 0 rfl) ?_
      refine lv_iload_n hx hb dX1_begin_9 rfl (lv_at hl 2 rfl) ?_
      refine va_put (D := D) (ci := 1) (v := .int nb) (ty := .int) (C := RX1) (T := TX1) (N := 5) hx hb hts hi_X1_begin_1 tyX1 tyX1_ok nmX1 hown hK hP hD hS 0 rfl rfl 3 (by decide) (hts (.fieldLink RX1 22 "TheLiningsInIt$Moves" "m" "I") (List.mem_of_getElem? (i := 3) rfl)) (fun _ h9 => h9) rfl (tyX1_ok 3 (Nat.le_of_ble_eq_true rfl)) rfl rfl (Nat.le_of_ble_eq_true rfl) dX1_begin_10 (fun H locs hP hD hS => ?_)
      have h9R := zRe (ws' := [(mv, .inr (1, [.ref mb, .int mr, .int 1, .int nb, .int mq])), (mb, .inl (cI, 20, .inl fb))]) hP hD rfl
      clear hP hD
      obtain ⟨hP, hD⟩ := h9R
      refine lv_aload_n hx hb dX1_begin_13 rfl (lv_at hl 0 rfl) ?_
      refine lv_aload_n hx hb dX1_begin_14 rfl (lv_at hl 1 rfl) ?_
      refine va_get (D := D) (ci := 2) (v := .int a_) (C := RX2) (T := TX2) (N := 3) hx hb hts hi_X1_begin_2 hown hK (zPu_P (hZ.kept hS) hu_u0) 0 rfl rfl 1 (by decide) (hts (.fieldLink RX1 31 "TheLiningsInIt$Pull" "a" "I") (List.mem_of_getElem? (i := 4) rfl)) (fun _ h9 => h9) rfl dX1_begin_15 ?_
      refine va_put (D := D) (ci := 1) (v := .int a_) (ty := .int) (C := RX1) (T := TX1) (N := 5) hx hb hts hi_X1_begin_1 tyX1 tyX1_ok nmX1 hown hK hP hD hS 0 rfl rfl 4 (by decide) (hts (.fieldLink RX1 25 "TheLiningsInIt$Moves" "k" "I") (List.mem_of_getElem? (i := 5) rfl)) (fun _ h9 => h9) rfl (tyX1_ok 4 (Nat.le_of_ble_eq_true rfl)) rfl rfl (Nat.le_of_ble_eq_true rfl) dX1_begin_18 (fun H locs hP hD hS => ?_)
      have h9R := zRe (ws' := [(mv, .inr (1, [.ref mb, .int mr, .int 1, .int nb, .int a_])), (mb, .inl (cI, 20, .inl fb))]) hP hD rfl
      clear hP hD
      obtain ⟨hP, hD⟩ := h9R
      refine lv_aload_n hx hb dX1_begin_21 rfl (lv_at hl 0 rfl) ?_
      refine lv_aload_n hx hb dX1_begin_22 rfl (lv_at hl 0 rfl) ?_
      refine va_get (D := D) (ci := 1) (v := .int 1) (C := RX1) (T := TX1) (N := 5) hx hb hts hi_X1_begin_1 hown hK hP 0 rfl rfl 2 (by decide) (hts (.fieldLink RX1 19 "TheLiningsInIt$Moves" "kind" "I") (List.mem_of_getElem? (i := 2) rfl)) (fun _ h9 => h9) rfl dX1_begin_23 ?_
      refine lv_iload_n hx hb dX1_begin_26 rfl (lv_at hl 3 rfl) ?_
      refine lv_iload hx hb dX1_begin_27 (lv_at hl 4 rfl) ?_
      refine lv_iconst (v := 0) hx hb dX1_begin_29 (by decide) ?_
      skip
      refine zw_V (As := [.int 1, .int 0, .int x, .int 0]) (rest := []) (wr := []) ⟨hx, hb, hml, hown, hts⟩ (c_F_M_run_1_1_0_0 l D cI cJ cZ cP cS po mv mb (mr) (nb) (a_) fb (x) hy2 hy3 H.size) (cwV 4 hts gX1_begin_X1_run rfl rfl rfl ⟨rfl, dh_X1_run⟩ ⟨Nat.le_of_ble_eq_true rfl, Nat.le_of_ble_eq_true rfl⟩) hK hN (hZ.kept hS) hP hD hS hA [0, 1] [] rfl rfl (by decide) (by decide) (by decide) (va_recv (q := (RX1, TX1, 5)) hK hP (ci := 1) (q0 := 0) rfl rfl) rfl hl.1 rfl (Nat.le_of_ble_eq_true rfl) dX1_begin_30 ⟨Nat.le_of_ble_eq_true rfl, Nat.le_of_ble_eq_true rfl⟩ (fun r_13 u_14 H locs hr_13 hP hD hS => ?_)
      obtain ⟨q_15, q_16⟩ := u_14
      try dsimp only at hr_13
      obtain ⟨hbq_15, hsr_13_0, hsr_13_1, hr_13⟩ := hr_13
      have h9R := zRe (ws' := [(mv, .inr (1, [.ref mb, .int q_15, .int 1, .int nb, .int a_])), (mb, .inl (cI, 20, .inl q_16))]) hP hD rfl
      clear hP hD
      obtain ⟨hP, hD⟩ := h9R
      exact W.iret (v := r_13) hx hb hr (fun t ht hW => ⟨⟨r_13, (q_15, 1, nb, a_, q_16), rfl, ⟨(show 0 ≤ q_15.toInt ∧ q_15.toInt ≤ 2000 from ⟨by omega, by omega⟩), (show (r_13 : Int32) = zQa (1 : Int32).toInt (0 : Int32).toInt x nb a_ from by (rw [hsr_13_0, show (0 : Int32).toInt = 0 from by decide, show (1 : Int32).toInt = 1 from by decide]; first | done | rfl)), (show q_16 = zTr fb mr.toInt (zBa (1 : Int32).toInt (0 : Int32).toInt) from by (rw [hsr_13_1, show (0 : Int32).toInt = 0 from by decide, show (1 : Int32).toInt = 1 from by decide]; first | done | rfl)), (show q_15.toInt = mr.toInt + ((zBa (1 : Int32).toInt (0 : Int32).toInt).length : Nat) from by (have q : ((zBa (1 : Int32).toInt (0 : Int32).toInt).length : Int) = 2 := (by rw [show (0 : Int32).toInt = 0 from by decide, show (1 : Int32).toInt = 1 from by decide]; first | done | rfl); omega)), trivial⟩, zRet ht hP hD [0, 1] (by decide) rfl⟩, hS.F ht⟩) hS.2.2 dX1_begin_33
    · refine lv_aload_n hx hb dX1_begin_1 rfl (lv_at hl 1 rfl) ?_
      refine va_get (D := D) (ci := 2) (v := .int 1) (C := RX2) (T := TX2) (N := 3) hx hb hts hi_X1_begin_2 hown hK (zPu_P (hZ.kept hS) hu_u0) 0 rfl rfl 0 (by decide) (hts (.fieldLink RX1 28 "TheLiningsInIt$Pull" "kind" "I") (List.mem_of_getElem? (i := 1) rfl)) (fun _ h9 => h9) rfl dX1_begin_2 ?_
      refine va_put (D := D) (ci := 1) (v := .int 1) (ty := .int) (C := RX1) (T := TX1) (N := 5) hx hb hts hi_X1_begin_1 tyX1 tyX1_ok nmX1 hown hK hP hD hS 0 rfl rfl 2 (by decide) (hts (.fieldLink RX1 19 "TheLiningsInIt$Moves" "kind" "I") (List.mem_of_getElem? (i := 2) rfl)) (fun _ h9 => h9) rfl (tyX1_ok 2 (Nat.le_of_ble_eq_true rfl)) rfl rfl (Nat.le_of_ble_eq_true rfl) dX1_begin_5 (fun H locs hP hD hS => ?_)
      have h9R := zRe (ws' := [(mv, .inr (1, [.ref mb, .int mr, .int 1, .int mm, .int mq])), (mb, .inl (cI, 20, .inl fb))]) hP hD rfl
      clear hP hD
      obtain ⟨hP, hD⟩ := h9R
      refine lv_aload_n hx hb dX1_begin_8 rfl (lv_at hl 0 rfl) ?_
      refine lv_iload_n hx hb dX1_begin_9 rfl (lv_at hl 2 rfl) ?_
      refine va_put (D := D) (ci := 1) (v := .int nb) (ty := .int) (C := RX1) (T := TX1) (N := 5) hx hb hts hi_X1_begin_1 tyX1 tyX1_ok nmX1 hown hK hP hD hS 0 rfl rfl 3 (by decide) (hts (.fieldLink RX1 22 "TheLiningsInIt$Moves" "m" "I") (List.mem_of_getElem? (i := 3) rfl)) (fun _ h9 => h9) rfl (tyX1_ok 3 (Nat.le_of_ble_eq_true rfl)) rfl rfl (Nat.le_of_ble_eq_true rfl) dX1_begin_10 (fun H locs hP hD hS => ?_)
      have h9R := zRe (ws' := [(mv, .inr (1, [.ref mb, .int mr, .int 1, .int nb, .int mq])), (mb, .inl (cI, 20, .inl fb))]) hP hD rfl
      clear hP hD
      obtain ⟨hP, hD⟩ := h9R
      refine lv_aload_n hx hb dX1_begin_13 rfl (lv_at hl 0 rfl) ?_
      refine lv_aload_n hx hb dX1_begin_14 rfl (lv_at hl 1 rfl) ?_
      refine va_get (D := D) (ci := 2) (v := .int a_) (C := RX2) (T := TX2) (N := 3) hx hb hts hi_X1_begin_2 hown hK (zPu_P (hZ.kept hS) hu_u0) 0 rfl rfl 1 (by decide) (hts (.fieldLink RX1 31 "TheLiningsInIt$Pull" "a" "I") (List.mem_of_getElem? (i := 4) rfl)) (fun _ h9 => h9) rfl dX1_begin_15 ?_
      refine va_put (D := D) (ci := 1) (v := .int a_) (ty := .int) (C := RX1) (T := TX1) (N := 5) hx hb hts hi_X1_begin_1 tyX1 tyX1_ok nmX1 hown hK hP hD hS 0 rfl rfl 4 (by decide) (hts (.fieldLink RX1 25 "TheLiningsInIt$Moves" "k" "I") (List.mem_of_getElem? (i := 5) rfl)) (fun _ h9 => h9) rfl (tyX1_ok 4 (Nat.le_of_ble_eq_true rfl)) rfl rfl (Nat.le_of_ble_eq_true rfl) dX1_begin_18 (fun H locs hP hD hS => ?_)
      have h9R := zRe (ws' := [(mv, .inr (1, [.ref mb, .int mr, .int 1, .int nb, .int a_])), (mb, .inl (cI, 20, .inl fb))]) hP hD rfl
      clear hP hD
      obtain ⟨hP, hD⟩ := h9R
      refine lv_aload_n hx hb dX1_begin_21 rfl (lv_at hl 0 rfl) ?_
      refine lv_aload_n hx hb dX1_begin_22 rfl (lv_at hl 0 rfl) ?_
      refine va_get (D := D) (ci := 1) (v := .int 1) (C := RX1) (T := TX1) (N := 5) hx hb hts hi_X1_begin_1 hown hK hP 0 rfl rfl 2 (by decide) (hts (.fieldLink RX1 19 "TheLiningsInIt$Moves" "kind" "I") (List.mem_of_getElem? (i := 2) rfl)) (fun _ h9 => h9) rfl dX1_begin_23 ?_
      refine lv_iload_n hx hb dX1_begin_26 rfl (lv_at hl 3 rfl) ?_
      refine lv_iload hx hb dX1_begin_27 (lv_at hl 4 rfl) ?_
      refine lv_iconst (v := 0) hx hb dX1_begin_29 (by decide) ?_
      skip
      refine zw_V (As := [.int 1, .int 1, .int x, .int 0]) (rest := []) (wr := []) ⟨hx, hb, hml, hown, hts⟩ (c_F_M_run_1_1_1_0 l D cI cJ cZ cP cS po mv mb (mr) (nb) (a_) fb (x) hy2 hy3 H.size) (cwV 4 hts gX1_begin_X1_run rfl rfl rfl ⟨rfl, dh_X1_run⟩ ⟨Nat.le_of_ble_eq_true rfl, Nat.le_of_ble_eq_true rfl⟩) hK hN (hZ.kept hS) hP hD hS hA [0, 1] [] rfl rfl (by decide) (by decide) (by decide) (va_recv (q := (RX1, TX1, 5)) hK hP (ci := 1) (q0 := 0) rfl rfl) rfl hl.1 rfl (Nat.le_of_ble_eq_true rfl) dX1_begin_30 ⟨Nat.le_of_ble_eq_true rfl, Nat.le_of_ble_eq_true rfl⟩ (fun r_17 u_18 H locs hr_17 hP hD hS => ?_)
      obtain ⟨q_19, q_20⟩ := u_18
      try dsimp only at hr_17
      obtain ⟨hbq_19, hsr_17_0, hsr_17_1, hr_17⟩ := hr_17
      have h9R := zRe (ws' := [(mv, .inr (1, [.ref mb, .int q_19, .int 1, .int nb, .int a_])), (mb, .inl (cI, 20, .inl q_20))]) hP hD rfl
      clear hP hD
      obtain ⟨hP, hD⟩ := h9R
      exact W.iret (v := r_17) hx hb hr (fun t ht hW => ⟨⟨r_17, (q_19, 1, nb, a_, q_20), rfl, ⟨(show 0 ≤ q_19.toInt ∧ q_19.toInt ≤ 2000 from ⟨by omega, by omega⟩), (show (r_17 : Int32) = zQa (1 : Int32).toInt (1 : Int32).toInt x nb a_ from by (rw [hsr_17_0, show (1 : Int32).toInt = 1 from by decide]; first | done | rfl)), (show q_20 = zTr fb mr.toInt (zBa (1 : Int32).toInt (1 : Int32).toInt) from by (rw [hsr_17_1, show (1 : Int32).toInt = 1 from by decide]; first | done | rfl)), (show q_19.toInt = mr.toInt + ((zBa (1 : Int32).toInt (1 : Int32).toInt).length : Nat) from by (have q : ((zBa (1 : Int32).toInt (1 : Int32).toInt).length : Int) = 3 := (by rw [show (1 : Int32).toInt = 1 from by decide]; first | done | rfl); omega)), trivial⟩, zRet ht hP hD [0, 1] (by decide) rfl⟩, hS.F ht⟩) hS.2.2 dX1_begin_33
    · refine lv_aload_n hx hb dX1_begin_1 rfl (lv_at hl 1 rfl) ?_
      refine va_get (D := D) (ci := 2) (v := .int 1) (C := RX2) (T := TX2) (N := 3) hx hb hts hi_X1_begin_2 hown hK (zPu_P (hZ.kept hS) hu_u0) 0 rfl rfl 0 (by decide) (hts (.fieldLink RX1 28 "TheLiningsInIt$Pull" "kind" "I") (List.mem_of_getElem? (i := 1) rfl)) (fun _ h9 => h9) rfl dX1_begin_2 ?_
      refine va_put (D := D) (ci := 1) (v := .int 1) (ty := .int) (C := RX1) (T := TX1) (N := 5) hx hb hts hi_X1_begin_1 tyX1 tyX1_ok nmX1 hown hK hP hD hS 0 rfl rfl 2 (by decide) (hts (.fieldLink RX1 19 "TheLiningsInIt$Moves" "kind" "I") (List.mem_of_getElem? (i := 2) rfl)) (fun _ h9 => h9) rfl (tyX1_ok 2 (Nat.le_of_ble_eq_true rfl)) rfl rfl (Nat.le_of_ble_eq_true rfl) dX1_begin_5 (fun H locs hP hD hS => ?_)
      have h9R := zRe (ws' := [(mv, .inr (1, [.ref mb, .int mr, .int 1, .int mm, .int mq])), (mb, .inl (cI, 20, .inl fb))]) hP hD rfl
      clear hP hD
      obtain ⟨hP, hD⟩ := h9R
      refine lv_aload_n hx hb dX1_begin_8 rfl (lv_at hl 0 rfl) ?_
      refine lv_iload_n hx hb dX1_begin_9 rfl (lv_at hl 2 rfl) ?_
      refine va_put (D := D) (ci := 1) (v := .int nb) (ty := .int) (C := RX1) (T := TX1) (N := 5) hx hb hts hi_X1_begin_1 tyX1 tyX1_ok nmX1 hown hK hP hD hS 0 rfl rfl 3 (by decide) (hts (.fieldLink RX1 22 "TheLiningsInIt$Moves" "m" "I") (List.mem_of_getElem? (i := 3) rfl)) (fun _ h9 => h9) rfl (tyX1_ok 3 (Nat.le_of_ble_eq_true rfl)) rfl rfl (Nat.le_of_ble_eq_true rfl) dX1_begin_10 (fun H locs hP hD hS => ?_)
      have h9R := zRe (ws' := [(mv, .inr (1, [.ref mb, .int mr, .int 1, .int nb, .int mq])), (mb, .inl (cI, 20, .inl fb))]) hP hD rfl
      clear hP hD
      obtain ⟨hP, hD⟩ := h9R
      refine lv_aload_n hx hb dX1_begin_13 rfl (lv_at hl 0 rfl) ?_
      refine lv_aload_n hx hb dX1_begin_14 rfl (lv_at hl 1 rfl) ?_
      refine va_get (D := D) (ci := 2) (v := .int a_) (C := RX2) (T := TX2) (N := 3) hx hb hts hi_X1_begin_2 hown hK (zPu_P (hZ.kept hS) hu_u0) 0 rfl rfl 1 (by decide) (hts (.fieldLink RX1 31 "TheLiningsInIt$Pull" "a" "I") (List.mem_of_getElem? (i := 4) rfl)) (fun _ h9 => h9) rfl dX1_begin_15 ?_
      refine va_put (D := D) (ci := 1) (v := .int a_) (ty := .int) (C := RX1) (T := TX1) (N := 5) hx hb hts hi_X1_begin_1 tyX1 tyX1_ok nmX1 hown hK hP hD hS 0 rfl rfl 4 (by decide) (hts (.fieldLink RX1 25 "TheLiningsInIt$Moves" "k" "I") (List.mem_of_getElem? (i := 5) rfl)) (fun _ h9 => h9) rfl (tyX1_ok 4 (Nat.le_of_ble_eq_true rfl)) rfl rfl (Nat.le_of_ble_eq_true rfl) dX1_begin_18 (fun H locs hP hD hS => ?_)
      have h9R := zRe (ws' := [(mv, .inr (1, [.ref mb, .int mr, .int 1, .int nb, .int a_])), (mb, .inl (cI, 20, .inl fb))]) hP hD rfl
      clear hP hD
      obtain ⟨hP, hD⟩ := h9R
      refine lv_aload_n hx hb dX1_begin_21 rfl (lv_at hl 0 rfl) ?_
      refine lv_aload_n hx hb dX1_begin_22 rfl (lv_at hl 0 rfl) ?_
      refine va_get (D := D) (ci := 1) (v := .int 1) (C := RX1) (T := TX1) (N := 5) hx hb hts hi_X1_begin_1 hown hK hP 0 rfl rfl 2 (by decide) (hts (.fieldLink RX1 19 "TheLiningsInIt$Moves" "kind" "I") (List.mem_of_getElem? (i := 2) rfl)) (fun _ h9 => h9) rfl dX1_begin_23 ?_
      refine lv_iload_n hx hb dX1_begin_26 rfl (lv_at hl 3 rfl) ?_
      refine lv_iload hx hb dX1_begin_27 (lv_at hl 4 rfl) ?_
      refine lv_iconst (v := 0) hx hb dX1_begin_29 (by decide) ?_
      skip
      refine zw_V (As := [.int 1, .int 2, .int x, .int 0]) (rest := []) (wr := []) ⟨hx, hb, hml, hown, hts⟩ (c_F_M_run_1_1_2_0 l D cI cJ cZ cP cS po mv mb (mr) (nb) (a_) fb (x) hy2 hy3 H.size) (cwV 4 hts gX1_begin_X1_run rfl rfl rfl ⟨rfl, dh_X1_run⟩ ⟨Nat.le_of_ble_eq_true rfl, Nat.le_of_ble_eq_true rfl⟩) hK hN (hZ.kept hS) hP hD hS hA [0, 1] [] rfl rfl (by decide) (by decide) (by decide) (va_recv (q := (RX1, TX1, 5)) hK hP (ci := 1) (q0 := 0) rfl rfl) rfl hl.1 rfl (Nat.le_of_ble_eq_true rfl) dX1_begin_30 ⟨Nat.le_of_ble_eq_true rfl, Nat.le_of_ble_eq_true rfl⟩ (fun r_21 u_22 H locs hr_21 hP hD hS => ?_)
      obtain ⟨q_23, q_24⟩ := u_22
      try dsimp only at hr_21
      obtain ⟨hbq_23, hsr_21_0, hsr_21_1, hr_21⟩ := hr_21
      have h9R := zRe (ws' := [(mv, .inr (1, [.ref mb, .int q_23, .int 1, .int nb, .int a_])), (mb, .inl (cI, 20, .inl q_24))]) hP hD rfl
      clear hP hD
      obtain ⟨hP, hD⟩ := h9R
      exact W.iret (v := r_21) hx hb hr (fun t ht hW => ⟨⟨r_21, (q_23, 1, nb, a_, q_24), rfl, ⟨(show 0 ≤ q_23.toInt ∧ q_23.toInt ≤ 2000 from ⟨by omega, by omega⟩), (show (r_21 : Int32) = zQa (1 : Int32).toInt (2 : Int32).toInt x nb a_ from by (rw [hsr_21_0, show (1 : Int32).toInt = 1 from by decide, show (2 : Int32).toInt = 2 from by decide]; first | done | rfl)), (show q_24 = zTr fb mr.toInt (zBa (1 : Int32).toInt (2 : Int32).toInt) from by (rw [hsr_21_1, show (1 : Int32).toInt = 1 from by decide, show (2 : Int32).toInt = 2 from by decide]; first | done | rfl)), (show q_23.toInt = mr.toInt + ((zBa (1 : Int32).toInt (2 : Int32).toInt).length : Nat) from by (have q : ((zBa (1 : Int32).toInt (2 : Int32).toInt).length : Int) = 6 := (by rw [show (1 : Int32).toInt = 1 from by decide, show (2 : Int32).toInt = 2 from by decide]; first | done | rfl); omega)), trivial⟩, zRet ht hP hD [0, 1] (by decide) rfl⟩, hS.F ht⟩) hS.2.2 dX1_begin_33
  · refine lv_aload_n hx hb dX1_begin_0 rfl (lv_at hl 0 rfl) ?_
    have hsp : mo = 0 ∨ mo = 1 ∨ mo = 2 := by
      rcases (show mo.toInt = 0 ∨ mo.toInt = 1 ∨ mo.toInt = 2 by omega) with h9 | h9 | h9
      · refine Or.inl ?_; exact zf_val h9 (by decide)
      · refine Or.inr (Or.inl ?_); exact zf_val h9 (by decide)
      · refine Or.inr (Or.inr (?_)); exact zf_val h9 (by decide)
    rcases hsp with rfl | rfl | rfl
    · refine lv_aload_n hx hb dX1_begin_1 rfl (lv_at hl 1 rfl) ?_
      refine va_get (D := D) (ci := 2) (v := .int 2) (C := RX2) (T := TX2) (N := 3) hx hb hts hi_X1_begin_2 hown hK (zPu_P (hZ.kept hS) hu_u0) 0 rfl rfl 0 (by decide) (hts (.fieldLink RX1 28 "TheLiningsInIt$Pull" "kind" "I") (List.mem_of_getElem? (i := 1) rfl)) (fun _ h9 => h9) rfl dX1_begin_2 ?_
      refine va_put (D := D) (ci := 1) (v := .int 2) (ty := .int) (C := RX1) (T := TX1) (N := 5) hx hb hts hi_X1_begin_1 tyX1 tyX1_ok nmX1 hown hK hP hD hS 0 rfl rfl 2 (by decide) (hts (.fieldLink RX1 19 "TheLiningsInIt$Moves" "kind" "I") (List.mem_of_getElem? (i := 2) rfl)) (fun _ h9 => h9) rfl (tyX1_ok 2 (Nat.le_of_ble_eq_true rfl)) rfl rfl (Nat.le_of_ble_eq_true rfl) dX1_begin_5 (fun H locs hP hD hS => ?_)
      have h9R := zRe (ws' := [(mv, .inr (1, [.ref mb, .int mr, .int 2, .int mm, .int mq])), (mb, .inl (cI, 20, .inl fb))]) hP hD rfl
      clear hP hD
      obtain ⟨hP, hD⟩ := h9R
      refine lv_aload_n hx hb dX1_begin_8 rfl (lv_at hl 0 rfl) ?_
      refine lv_iload_n hx hb dX1_begin_9 rfl (lv_at hl 2 rfl) ?_
      refine va_put (D := D) (ci := 1) (v := .int nb) (ty := .int) (C := RX1) (T := TX1) (N := 5) hx hb hts hi_X1_begin_1 tyX1 tyX1_ok nmX1 hown hK hP hD hS 0 rfl rfl 3 (by decide) (hts (.fieldLink RX1 22 "TheLiningsInIt$Moves" "m" "I") (List.mem_of_getElem? (i := 3) rfl)) (fun _ h9 => h9) rfl (tyX1_ok 3 (Nat.le_of_ble_eq_true rfl)) rfl rfl (Nat.le_of_ble_eq_true rfl) dX1_begin_10 (fun H locs hP hD hS => ?_)
      have h9R := zRe (ws' := [(mv, .inr (1, [.ref mb, .int mr, .int 2, .int nb, .int mq])), (mb, .inl (cI, 20, .inl fb))]) hP hD rfl
      clear hP hD
      obtain ⟨hP, hD⟩ := h9R
      refine lv_aload_n hx hb dX1_begin_13 rfl (lv_at hl 0 rfl) ?_
      refine lv_aload_n hx hb dX1_begin_14 rfl (lv_at hl 1 rfl) ?_
      refine va_get (D := D) (ci := 2) (v := .int a_) (C := RX2) (T := TX2) (N := 3) hx hb hts hi_X1_begin_2 hown hK (zPu_P (hZ.kept hS) hu_u0) 0 rfl rfl 1 (by decide) (hts (.fieldLink RX1 31 "TheLiningsInIt$Pull" "a" "I") (List.mem_of_getElem? (i := 4) rfl)) (fun _ h9 => h9) rfl dX1_begin_15 ?_
      refine va_put (D := D) (ci := 1) (v := .int a_) (ty := .int) (C := RX1) (T := TX1) (N := 5) hx hb hts hi_X1_begin_1 tyX1 tyX1_ok nmX1 hown hK hP hD hS 0 rfl rfl 4 (by decide) (hts (.fieldLink RX1 25 "TheLiningsInIt$Moves" "k" "I") (List.mem_of_getElem? (i := 5) rfl)) (fun _ h9 => h9) rfl (tyX1_ok 4 (Nat.le_of_ble_eq_true rfl)) rfl rfl (Nat.le_of_ble_eq_true rfl) dX1_begin_18 (fun H locs hP hD hS => ?_)
      have h9R := zRe (ws' := [(mv, .inr (1, [.ref mb, .int mr, .int 2, .int nb, .int a_])), (mb, .inl (cI, 20, .inl fb))]) hP hD rfl
      clear hP hD
      obtain ⟨hP, hD⟩ := h9R
      refine lv_aload_n hx hb dX1_begin_21 rfl (lv_at hl 0 rfl) ?_
      refine lv_aload_n hx hb dX1_begin_22 rfl (lv_at hl 0 rfl) ?_
      refine va_get (D := D) (ci := 1) (v := .int 2) (C := RX1) (T := TX1) (N := 5) hx hb hts hi_X1_begin_1 hown hK hP 0 rfl rfl 2 (by decide) (hts (.fieldLink RX1 19 "TheLiningsInIt$Moves" "kind" "I") (List.mem_of_getElem? (i := 2) rfl)) (fun _ h9 => h9) rfl dX1_begin_23 ?_
      refine lv_iload_n hx hb dX1_begin_26 rfl (lv_at hl 3 rfl) ?_
      refine lv_iload hx hb dX1_begin_27 (lv_at hl 4 rfl) ?_
      refine lv_iconst (v := 0) hx hb dX1_begin_29 (by decide) ?_
      skip
      refine zw_V (As := [.int 2, .int 0, .int x, .int 0]) (rest := []) (wr := []) ⟨hx, hb, hml, hown, hts⟩ (c_F_M_run_2_2_0_0 l D cI cJ cZ cP cS po mv mb (mr) (nb) (a_) fb (x) hy2 hy3 H.size) (cwV 4 hts gX1_begin_X1_run rfl rfl rfl ⟨rfl, dh_X1_run⟩ ⟨Nat.le_of_ble_eq_true rfl, Nat.le_of_ble_eq_true rfl⟩) hK hN (hZ.kept hS) hP hD hS hA [0, 1] [] rfl rfl (by decide) (by decide) (by decide) (va_recv (q := (RX1, TX1, 5)) hK hP (ci := 1) (q0 := 0) rfl rfl) rfl hl.1 rfl (Nat.le_of_ble_eq_true rfl) dX1_begin_30 ⟨Nat.le_of_ble_eq_true rfl, Nat.le_of_ble_eq_true rfl⟩ (fun r_25 u_26 H locs hr_25 hP hD hS => ?_)
      obtain ⟨q_27, q_28⟩ := u_26
      try dsimp only at hr_25
      obtain ⟨hbq_27, hsr_25_0, hsr_25_1, hr_25⟩ := hr_25
      have h9R := zRe (ws' := [(mv, .inr (1, [.ref mb, .int q_27, .int 2, .int nb, .int a_])), (mb, .inl (cI, 20, .inl q_28))]) hP hD rfl
      clear hP hD
      obtain ⟨hP, hD⟩ := h9R
      exact W.iret (v := r_25) hx hb hr (fun t ht hW => ⟨⟨r_25, (q_27, 2, nb, a_, q_28), rfl, ⟨(show 0 ≤ q_27.toInt ∧ q_27.toInt ≤ 2000 from ⟨by omega, by omega⟩), (show (r_25 : Int32) = zQa (2 : Int32).toInt (0 : Int32).toInt x nb a_ from by (rw [hsr_25_0, show (0 : Int32).toInt = 0 from by decide, show (2 : Int32).toInt = 2 from by decide]; first | done | rfl)), (show q_28 = zTr fb mr.toInt (zBa (2 : Int32).toInt (0 : Int32).toInt) from by (rw [hsr_25_1, show (0 : Int32).toInt = 0 from by decide, show (2 : Int32).toInt = 2 from by decide]; first | done | rfl)), (show q_27.toInt = mr.toInt + ((zBa (2 : Int32).toInt (0 : Int32).toInt).length : Nat) from by (have q : ((zBa (2 : Int32).toInt (0 : Int32).toInt).length : Int) = 1 := (by rw [show (0 : Int32).toInt = 0 from by decide, show (2 : Int32).toInt = 2 from by decide]; first | done | rfl); omega)), trivial⟩, zRet ht hP hD [0, 1] (by decide) rfl⟩, hS.F ht⟩) hS.2.2 dX1_begin_33
    · refine lv_aload_n hx hb dX1_begin_1 rfl (lv_at hl 1 rfl) ?_
      refine va_get (D := D) (ci := 2) (v := .int 2) (C := RX2) (T := TX2) (N := 3) hx hb hts hi_X1_begin_2 hown hK (zPu_P (hZ.kept hS) hu_u0) 0 rfl rfl 0 (by decide) (hts (.fieldLink RX1 28 "TheLiningsInIt$Pull" "kind" "I") (List.mem_of_getElem? (i := 1) rfl)) (fun _ h9 => h9) rfl dX1_begin_2 ?_
      refine va_put (D := D) (ci := 1) (v := .int 2) (ty := .int) (C := RX1) (T := TX1) (N := 5) hx hb hts hi_X1_begin_1 tyX1 tyX1_ok nmX1 hown hK hP hD hS 0 rfl rfl 2 (by decide) (hts (.fieldLink RX1 19 "TheLiningsInIt$Moves" "kind" "I") (List.mem_of_getElem? (i := 2) rfl)) (fun _ h9 => h9) rfl (tyX1_ok 2 (Nat.le_of_ble_eq_true rfl)) rfl rfl (Nat.le_of_ble_eq_true rfl) dX1_begin_5 (fun H locs hP hD hS => ?_)
      have h9R := zRe (ws' := [(mv, .inr (1, [.ref mb, .int mr, .int 2, .int mm, .int mq])), (mb, .inl (cI, 20, .inl fb))]) hP hD rfl
      clear hP hD
      obtain ⟨hP, hD⟩ := h9R
      refine lv_aload_n hx hb dX1_begin_8 rfl (lv_at hl 0 rfl) ?_
      refine lv_iload_n hx hb dX1_begin_9 rfl (lv_at hl 2 rfl) ?_
      refine va_put (D := D) (ci := 1) (v := .int nb) (ty := .int) (C := RX1) (T := TX1) (N := 5) hx hb hts hi_X1_begin_1 tyX1 tyX1_ok nmX1 hown hK hP hD hS 0 rfl rfl 3 (by decide) (hts (.fieldLink RX1 22 "TheLiningsInIt$Moves" "m" "I") (List.mem_of_getElem? (i := 3) rfl)) (fun _ h9 => h9) rfl (tyX1_ok 3 (Nat.le_of_ble_eq_true rfl)) rfl rfl (Nat.le_of_ble_eq_true rfl) dX1_begin_10 (fun H locs hP hD hS => ?_)
      have h9R := zRe (ws' := [(mv, .inr (1, [.ref mb, .int mr, .int 2, .int nb, .int mq])), (mb, .inl (cI, 20, .inl fb))]) hP hD rfl
      clear hP hD
      obtain ⟨hP, hD⟩ := h9R
      refine lv_aload_n hx hb dX1_begin_13 rfl (lv_at hl 0 rfl) ?_
      refine lv_aload_n hx hb dX1_begin_14 rfl (lv_at hl 1 rfl) ?_
      refine va_get (D := D) (ci := 2) (v := .int a_) (C := RX2) (T := TX2) (N := 3) hx hb hts hi_X1_begin_2 hown hK (zPu_P (hZ.kept hS) hu_u0) 0 rfl rfl 1 (by decide) (hts (.fieldLink RX1 31 "TheLiningsInIt$Pull" "a" "I") (List.mem_of_getElem? (i := 4) rfl)) (fun _ h9 => h9) rfl dX1_begin_15 ?_
      refine va_put (D := D) (ci := 1) (v := .int a_) (ty := .int) (C := RX1) (T := TX1) (N := 5) hx hb hts hi_X1_begin_1 tyX1 tyX1_ok nmX1 hown hK hP hD hS 0 rfl rfl 4 (by decide) (hts (.fieldLink RX1 25 "TheLiningsInIt$Moves" "k" "I") (List.mem_of_getElem? (i := 5) rfl)) (fun _ h9 => h9) rfl (tyX1_ok 4 (Nat.le_of_ble_eq_true rfl)) rfl rfl (Nat.le_of_ble_eq_true rfl) dX1_begin_18 (fun H locs hP hD hS => ?_)
      have h9R := zRe (ws' := [(mv, .inr (1, [.ref mb, .int mr, .int 2, .int nb, .int a_])), (mb, .inl (cI, 20, .inl fb))]) hP hD rfl
      clear hP hD
      obtain ⟨hP, hD⟩ := h9R
      refine lv_aload_n hx hb dX1_begin_21 rfl (lv_at hl 0 rfl) ?_
      refine lv_aload_n hx hb dX1_begin_22 rfl (lv_at hl 0 rfl) ?_
      refine va_get (D := D) (ci := 1) (v := .int 2) (C := RX1) (T := TX1) (N := 5) hx hb hts hi_X1_begin_1 hown hK hP 0 rfl rfl 2 (by decide) (hts (.fieldLink RX1 19 "TheLiningsInIt$Moves" "kind" "I") (List.mem_of_getElem? (i := 2) rfl)) (fun _ h9 => h9) rfl dX1_begin_23 ?_
      refine lv_iload_n hx hb dX1_begin_26 rfl (lv_at hl 3 rfl) ?_
      refine lv_iload hx hb dX1_begin_27 (lv_at hl 4 rfl) ?_
      refine lv_iconst (v := 0) hx hb dX1_begin_29 (by decide) ?_
      skip
      refine zw_V (As := [.int 2, .int 1, .int x, .int 0]) (rest := []) (wr := []) ⟨hx, hb, hml, hown, hts⟩ (c_F_M_run_2_2_1_0 l D cI cJ cZ cP cS po mv mb (mr) (nb) (a_) fb (x) hy2 hy3 H.size) (cwV 4 hts gX1_begin_X1_run rfl rfl rfl ⟨rfl, dh_X1_run⟩ ⟨Nat.le_of_ble_eq_true rfl, Nat.le_of_ble_eq_true rfl⟩) hK hN (hZ.kept hS) hP hD hS hA [0, 1] [] rfl rfl (by decide) (by decide) (by decide) (va_recv (q := (RX1, TX1, 5)) hK hP (ci := 1) (q0 := 0) rfl rfl) rfl hl.1 rfl (Nat.le_of_ble_eq_true rfl) dX1_begin_30 ⟨Nat.le_of_ble_eq_true rfl, Nat.le_of_ble_eq_true rfl⟩ (fun r_29 u_30 H locs hr_29 hP hD hS => ?_)
      obtain ⟨q_31, q_32⟩ := u_30
      try dsimp only at hr_29
      obtain ⟨hbq_31, hsr_29_0, hsr_29_1, hr_29⟩ := hr_29
      have h9R := zRe (ws' := [(mv, .inr (1, [.ref mb, .int q_31, .int 2, .int nb, .int a_])), (mb, .inl (cI, 20, .inl q_32))]) hP hD rfl
      clear hP hD
      obtain ⟨hP, hD⟩ := h9R
      exact W.iret (v := r_29) hx hb hr (fun t ht hW => ⟨⟨r_29, (q_31, 2, nb, a_, q_32), rfl, ⟨(show 0 ≤ q_31.toInt ∧ q_31.toInt ≤ 2000 from ⟨by omega, by omega⟩), (show (r_29 : Int32) = zQa (2 : Int32).toInt (1 : Int32).toInt x nb a_ from by (rw [hsr_29_0, show (1 : Int32).toInt = 1 from by decide, show (2 : Int32).toInt = 2 from by decide]; first | done | rfl)), (show q_32 = zTr fb mr.toInt (zBa (2 : Int32).toInt (1 : Int32).toInt) from by (rw [hsr_29_1, show (1 : Int32).toInt = 1 from by decide, show (2 : Int32).toInt = 2 from by decide]; first | done | rfl)), (show q_31.toInt = mr.toInt + ((zBa (2 : Int32).toInt (1 : Int32).toInt).length : Nat) from by (have q : ((zBa (2 : Int32).toInt (1 : Int32).toInt).length : Int) = 3 := (by rw [show (1 : Int32).toInt = 1 from by decide, show (2 : Int32).toInt = 2 from by decide]; first | done | rfl); omega)), trivial⟩, zRet ht hP hD [0, 1] (by decide) rfl⟩, hS.F ht⟩) hS.2.2 dX1_begin_33
    · refine lv_aload_n hx hb dX1_begin_1 rfl (lv_at hl 1 rfl) ?_
      refine va_get (D := D) (ci := 2) (v := .int 2) (C := RX2) (T := TX2) (N := 3) hx hb hts hi_X1_begin_2 hown hK (zPu_P (hZ.kept hS) hu_u0) 0 rfl rfl 0 (by decide) (hts (.fieldLink RX1 28 "TheLiningsInIt$Pull" "kind" "I") (List.mem_of_getElem? (i := 1) rfl)) (fun _ h9 => h9) rfl dX1_begin_2 ?_
      refine va_put (D := D) (ci := 1) (v := .int 2) (ty := .int) (C := RX1) (T := TX1) (N := 5) hx hb hts hi_X1_begin_1 tyX1 tyX1_ok nmX1 hown hK hP hD hS 0 rfl rfl 2 (by decide) (hts (.fieldLink RX1 19 "TheLiningsInIt$Moves" "kind" "I") (List.mem_of_getElem? (i := 2) rfl)) (fun _ h9 => h9) rfl (tyX1_ok 2 (Nat.le_of_ble_eq_true rfl)) rfl rfl (Nat.le_of_ble_eq_true rfl) dX1_begin_5 (fun H locs hP hD hS => ?_)
      have h9R := zRe (ws' := [(mv, .inr (1, [.ref mb, .int mr, .int 2, .int mm, .int mq])), (mb, .inl (cI, 20, .inl fb))]) hP hD rfl
      clear hP hD
      obtain ⟨hP, hD⟩ := h9R
      refine lv_aload_n hx hb dX1_begin_8 rfl (lv_at hl 0 rfl) ?_
      refine lv_iload_n hx hb dX1_begin_9 rfl (lv_at hl 2 rfl) ?_
      refine va_put (D := D) (ci := 1) (v := .int nb) (ty := .int) (C := RX1) (T := TX1) (N := 5) hx hb hts hi_X1_begin_1 tyX1 tyX1_ok nmX1 hown hK hP hD hS 0 rfl rfl 3 (by decide) (hts (.fieldLink RX1 22 "TheLiningsInIt$Moves" "m" "I") (List.mem_of_getElem? (i := 3) rfl)) (fun _ h9 => h9) rfl (tyX1_ok 3 (Nat.le_of_ble_eq_true rfl)) rfl rfl (Nat.le_of_ble_eq_true rfl) dX1_begin_10 (fun H locs hP hD hS => ?_)
      have h9R := zRe (ws' := [(mv, .inr (1, [.ref mb, .int mr, .int 2, .int nb, .int mq])), (mb, .inl (cI, 20, .inl fb))]) hP hD rfl
      clear hP hD
      obtain ⟨hP, hD⟩ := h9R
      refine lv_aload_n hx hb dX1_begin_13 rfl (lv_at hl 0 rfl) ?_
      refine lv_aload_n hx hb dX1_begin_14 rfl (lv_at hl 1 rfl) ?_
      refine va_get (D := D) (ci := 2) (v := .int a_) (C := RX2) (T := TX2) (N := 3) hx hb hts hi_X1_begin_2 hown hK (zPu_P (hZ.kept hS) hu_u0) 0 rfl rfl 1 (by decide) (hts (.fieldLink RX1 31 "TheLiningsInIt$Pull" "a" "I") (List.mem_of_getElem? (i := 4) rfl)) (fun _ h9 => h9) rfl dX1_begin_15 ?_
      refine va_put (D := D) (ci := 1) (v := .int a_) (ty := .int) (C := RX1) (T := TX1) (N := 5) hx hb hts hi_X1_begin_1 tyX1 tyX1_ok nmX1 hown hK hP hD hS 0 rfl rfl 4 (by decide) (hts (.fieldLink RX1 25 "TheLiningsInIt$Moves" "k" "I") (List.mem_of_getElem? (i := 5) rfl)) (fun _ h9 => h9) rfl (tyX1_ok 4 (Nat.le_of_ble_eq_true rfl)) rfl rfl (Nat.le_of_ble_eq_true rfl) dX1_begin_18 (fun H locs hP hD hS => ?_)
      have h9R := zRe (ws' := [(mv, .inr (1, [.ref mb, .int mr, .int 2, .int nb, .int a_])), (mb, .inl (cI, 20, .inl fb))]) hP hD rfl
      clear hP hD
      obtain ⟨hP, hD⟩ := h9R
      refine lv_aload_n hx hb dX1_begin_21 rfl (lv_at hl 0 rfl) ?_
      refine lv_aload_n hx hb dX1_begin_22 rfl (lv_at hl 0 rfl) ?_
      refine va_get (D := D) (ci := 1) (v := .int 2) (C := RX1) (T := TX1) (N := 5) hx hb hts hi_X1_begin_1 hown hK hP 0 rfl rfl 2 (by decide) (hts (.fieldLink RX1 19 "TheLiningsInIt$Moves" "kind" "I") (List.mem_of_getElem? (i := 2) rfl)) (fun _ h9 => h9) rfl dX1_begin_23 ?_
      refine lv_iload_n hx hb dX1_begin_26 rfl (lv_at hl 3 rfl) ?_
      refine lv_iload hx hb dX1_begin_27 (lv_at hl 4 rfl) ?_
      refine lv_iconst (v := 0) hx hb dX1_begin_29 (by decide) ?_
      skip
      refine zw_V (As := [.int 2, .int 2, .int x, .int 0]) (rest := []) (wr := []) ⟨hx, hb, hml, hown, hts⟩ (c_F_M_run_2_2_2_0 l D cI cJ cZ cP cS po mv mb (mr) (nb) (a_) fb (x) hy2 hy3 H.size) (cwV 4 hts gX1_begin_X1_run rfl rfl rfl ⟨rfl, dh_X1_run⟩ ⟨Nat.le_of_ble_eq_true rfl, Nat.le_of_ble_eq_true rfl⟩) hK hN (hZ.kept hS) hP hD hS hA [0, 1] [] rfl rfl (by decide) (by decide) (by decide) (va_recv (q := (RX1, TX1, 5)) hK hP (ci := 1) (q0 := 0) rfl rfl) rfl hl.1 rfl (Nat.le_of_ble_eq_true rfl) dX1_begin_30 ⟨Nat.le_of_ble_eq_true rfl, Nat.le_of_ble_eq_true rfl⟩ (fun r_33 u_34 H locs hr_33 hP hD hS => ?_)
      obtain ⟨q_35, q_36⟩ := u_34
      try dsimp only at hr_33
      obtain ⟨hbq_35, hsr_33_0, hsr_33_1, hr_33⟩ := hr_33
      have h9R := zRe (ws' := [(mv, .inr (1, [.ref mb, .int q_35, .int 2, .int nb, .int a_])), (mb, .inl (cI, 20, .inl q_36))]) hP hD rfl
      clear hP hD
      obtain ⟨hP, hD⟩ := h9R
      exact W.iret (v := r_33) hx hb hr (fun t ht hW => ⟨⟨r_33, (q_35, 2, nb, a_, q_36), rfl, ⟨(show 0 ≤ q_35.toInt ∧ q_35.toInt ≤ 2000 from ⟨by omega, by omega⟩), (show (r_33 : Int32) = zQa (2 : Int32).toInt (2 : Int32).toInt x nb a_ from by (rw [hsr_33_0, show (2 : Int32).toInt = 2 from by decide]; first | done | rfl)), (show q_36 = zTr fb mr.toInt (zBa (2 : Int32).toInt (2 : Int32).toInt) from by (rw [hsr_33_1, show (2 : Int32).toInt = 2 from by decide]; first | done | rfl)), (show q_35.toInt = mr.toInt + ((zBa (2 : Int32).toInt (2 : Int32).toInt).length : Nat) from by (have q : ((zBa (2 : Int32).toInt (2 : Int32).toInt).length : Int) = 5 := (by rw [show (2 : Int32).toInt = 2 from by decide]; first | done | rfl); omega)), trivial⟩, zRet ht hP hD [0, 1] (by decide) rfl⟩, hS.F ht⟩) hS.2.2 dX1_begin_33
  · refine lv_aload_n hx hb dX1_begin_0 rfl (lv_at hl 0 rfl) ?_
    have hsp : mo = 0 ∨ mo = 1 ∨ mo = 2 := by
      rcases (show mo.toInt = 0 ∨ mo.toInt = 1 ∨ mo.toInt = 2 by omega) with h9 | h9 | h9
      · refine Or.inl ?_; exact zf_val h9 (by decide)
      · refine Or.inr (Or.inl ?_); exact zf_val h9 (by decide)
      · refine Or.inr (Or.inr (?_)); exact zf_val h9 (by decide)
    rcases hsp with rfl | rfl | rfl
    · refine lv_aload_n hx hb dX1_begin_1 rfl (lv_at hl 1 rfl) ?_
      refine va_get (D := D) (ci := 2) (v := .int 3) (C := RX2) (T := TX2) (N := 3) hx hb hts hi_X1_begin_2 hown hK (zPu_P (hZ.kept hS) hu_u0) 0 rfl rfl 0 (by decide) (hts (.fieldLink RX1 28 "TheLiningsInIt$Pull" "kind" "I") (List.mem_of_getElem? (i := 1) rfl)) (fun _ h9 => h9) rfl dX1_begin_2 ?_
      refine va_put (D := D) (ci := 1) (v := .int 3) (ty := .int) (C := RX1) (T := TX1) (N := 5) hx hb hts hi_X1_begin_1 tyX1 tyX1_ok nmX1 hown hK hP hD hS 0 rfl rfl 2 (by decide) (hts (.fieldLink RX1 19 "TheLiningsInIt$Moves" "kind" "I") (List.mem_of_getElem? (i := 2) rfl)) (fun _ h9 => h9) rfl (tyX1_ok 2 (Nat.le_of_ble_eq_true rfl)) rfl rfl (Nat.le_of_ble_eq_true rfl) dX1_begin_5 (fun H locs hP hD hS => ?_)
      have h9R := zRe (ws' := [(mv, .inr (1, [.ref mb, .int mr, .int 3, .int mm, .int mq])), (mb, .inl (cI, 20, .inl fb))]) hP hD rfl
      clear hP hD
      obtain ⟨hP, hD⟩ := h9R
      refine lv_aload_n hx hb dX1_begin_8 rfl (lv_at hl 0 rfl) ?_
      refine lv_iload_n hx hb dX1_begin_9 rfl (lv_at hl 2 rfl) ?_
      refine va_put (D := D) (ci := 1) (v := .int nb) (ty := .int) (C := RX1) (T := TX1) (N := 5) hx hb hts hi_X1_begin_1 tyX1 tyX1_ok nmX1 hown hK hP hD hS 0 rfl rfl 3 (by decide) (hts (.fieldLink RX1 22 "TheLiningsInIt$Moves" "m" "I") (List.mem_of_getElem? (i := 3) rfl)) (fun _ h9 => h9) rfl (tyX1_ok 3 (Nat.le_of_ble_eq_true rfl)) rfl rfl (Nat.le_of_ble_eq_true rfl) dX1_begin_10 (fun H locs hP hD hS => ?_)
      have h9R := zRe (ws' := [(mv, .inr (1, [.ref mb, .int mr, .int 3, .int nb, .int mq])), (mb, .inl (cI, 20, .inl fb))]) hP hD rfl
      clear hP hD
      obtain ⟨hP, hD⟩ := h9R
      refine lv_aload_n hx hb dX1_begin_13 rfl (lv_at hl 0 rfl) ?_
      refine lv_aload_n hx hb dX1_begin_14 rfl (lv_at hl 1 rfl) ?_
      refine va_get (D := D) (ci := 2) (v := .int a_) (C := RX2) (T := TX2) (N := 3) hx hb hts hi_X1_begin_2 hown hK (zPu_P (hZ.kept hS) hu_u0) 0 rfl rfl 1 (by decide) (hts (.fieldLink RX1 31 "TheLiningsInIt$Pull" "a" "I") (List.mem_of_getElem? (i := 4) rfl)) (fun _ h9 => h9) rfl dX1_begin_15 ?_
      refine va_put (D := D) (ci := 1) (v := .int a_) (ty := .int) (C := RX1) (T := TX1) (N := 5) hx hb hts hi_X1_begin_1 tyX1 tyX1_ok nmX1 hown hK hP hD hS 0 rfl rfl 4 (by decide) (hts (.fieldLink RX1 25 "TheLiningsInIt$Moves" "k" "I") (List.mem_of_getElem? (i := 5) rfl)) (fun _ h9 => h9) rfl (tyX1_ok 4 (Nat.le_of_ble_eq_true rfl)) rfl rfl (Nat.le_of_ble_eq_true rfl) dX1_begin_18 (fun H locs hP hD hS => ?_)
      have h9R := zRe (ws' := [(mv, .inr (1, [.ref mb, .int mr, .int 3, .int nb, .int a_])), (mb, .inl (cI, 20, .inl fb))]) hP hD rfl
      clear hP hD
      obtain ⟨hP, hD⟩ := h9R
      refine lv_aload_n hx hb dX1_begin_21 rfl (lv_at hl 0 rfl) ?_
      refine lv_aload_n hx hb dX1_begin_22 rfl (lv_at hl 0 rfl) ?_
      refine va_get (D := D) (ci := 1) (v := .int 3) (C := RX1) (T := TX1) (N := 5) hx hb hts hi_X1_begin_1 hown hK hP 0 rfl rfl 2 (by decide) (hts (.fieldLink RX1 19 "TheLiningsInIt$Moves" "kind" "I") (List.mem_of_getElem? (i := 2) rfl)) (fun _ h9 => h9) rfl dX1_begin_23 ?_
      refine lv_iload_n hx hb dX1_begin_26 rfl (lv_at hl 3 rfl) ?_
      refine lv_iload hx hb dX1_begin_27 (lv_at hl 4 rfl) ?_
      refine lv_iconst (v := 0) hx hb dX1_begin_29 (by decide) ?_
      skip
      refine zw_V (As := [.int 3, .int 0, .int x, .int 0]) (rest := []) (wr := []) ⟨hx, hb, hml, hown, hts⟩ (c_F_M_run_3_3_0_0 l D cI cJ cZ cP cS po mv mb (mr) (nb) (a_) fb (x) hy2 hy3 H.size) (cwV 4 hts gX1_begin_X1_run rfl rfl rfl ⟨rfl, dh_X1_run⟩ ⟨Nat.le_of_ble_eq_true rfl, Nat.le_of_ble_eq_true rfl⟩) hK hN (hZ.kept hS) hP hD hS hA [0, 1] [] rfl rfl (by decide) (by decide) (by decide) (va_recv (q := (RX1, TX1, 5)) hK hP (ci := 1) (q0 := 0) rfl rfl) rfl hl.1 rfl (Nat.le_of_ble_eq_true rfl) dX1_begin_30 ⟨Nat.le_of_ble_eq_true rfl, Nat.le_of_ble_eq_true rfl⟩ (fun r_37 u_38 H locs hr_37 hP hD hS => ?_)
      obtain ⟨q_39, q_40⟩ := u_38
      try dsimp only at hr_37
      obtain ⟨hbq_39, hsr_37_0, hsr_37_1, hr_37⟩ := hr_37
      have h9R := zRe (ws' := [(mv, .inr (1, [.ref mb, .int q_39, .int 3, .int nb, .int a_])), (mb, .inl (cI, 20, .inl q_40))]) hP hD rfl
      clear hP hD
      obtain ⟨hP, hD⟩ := h9R
      exact W.iret (v := r_37) hx hb hr (fun t ht hW => ⟨⟨r_37, (q_39, 3, nb, a_, q_40), rfl, ⟨(show 0 ≤ q_39.toInt ∧ q_39.toInt ≤ 2000 from ⟨by omega, by omega⟩), (show (r_37 : Int32) = zQa (3 : Int32).toInt (0 : Int32).toInt x nb a_ from by (rw [hsr_37_0, show (0 : Int32).toInt = 0 from by decide, show (3 : Int32).toInt = 3 from by decide]; first | done | rfl)), (show q_40 = zTr fb mr.toInt (zBa (3 : Int32).toInt (0 : Int32).toInt) from by (rw [hsr_37_1, show (0 : Int32).toInt = 0 from by decide, show (3 : Int32).toInt = 3 from by decide]; first | done | rfl)), (show q_39.toInt = mr.toInt + ((zBa (3 : Int32).toInt (0 : Int32).toInt).length : Nat) from by (have q : ((zBa (3 : Int32).toInt (0 : Int32).toInt).length : Int) = 2 := (by rw [show (0 : Int32).toInt = 0 from by decide, show (3 : Int32).toInt = 3 from by decide]; first | done | rfl); omega)), trivial⟩, zRet ht hP hD [0, 1] (by decide) rfl⟩, hS.F ht⟩) hS.2.2 dX1_begin_33
    · refine lv_aload_n hx hb dX1_begin_1 rfl (lv_at hl 1 rfl) ?_
      refine va_get (D := D) (ci := 2) (v := .int 3) (C := RX2) (T := TX2) (N := 3) hx hb hts hi_X1_begin_2 hown hK (zPu_P (hZ.kept hS) hu_u0) 0 rfl rfl 0 (by decide) (hts (.fieldLink RX1 28 "TheLiningsInIt$Pull" "kind" "I") (List.mem_of_getElem? (i := 1) rfl)) (fun _ h9 => h9) rfl dX1_begin_2 ?_
      refine va_put (D := D) (ci := 1) (v := .int 3) (ty := .int) (C := RX1) (T := TX1) (N := 5) hx hb hts hi_X1_begin_1 tyX1 tyX1_ok nmX1 hown hK hP hD hS 0 rfl rfl 2 (by decide) (hts (.fieldLink RX1 19 "TheLiningsInIt$Moves" "kind" "I") (List.mem_of_getElem? (i := 2) rfl)) (fun _ h9 => h9) rfl (tyX1_ok 2 (Nat.le_of_ble_eq_true rfl)) rfl rfl (Nat.le_of_ble_eq_true rfl) dX1_begin_5 (fun H locs hP hD hS => ?_)
      have h9R := zRe (ws' := [(mv, .inr (1, [.ref mb, .int mr, .int 3, .int mm, .int mq])), (mb, .inl (cI, 20, .inl fb))]) hP hD rfl
      clear hP hD
      obtain ⟨hP, hD⟩ := h9R
      refine lv_aload_n hx hb dX1_begin_8 rfl (lv_at hl 0 rfl) ?_
      refine lv_iload_n hx hb dX1_begin_9 rfl (lv_at hl 2 rfl) ?_
      refine va_put (D := D) (ci := 1) (v := .int nb) (ty := .int) (C := RX1) (T := TX1) (N := 5) hx hb hts hi_X1_begin_1 tyX1 tyX1_ok nmX1 hown hK hP hD hS 0 rfl rfl 3 (by decide) (hts (.fieldLink RX1 22 "TheLiningsInIt$Moves" "m" "I") (List.mem_of_getElem? (i := 3) rfl)) (fun _ h9 => h9) rfl (tyX1_ok 3 (Nat.le_of_ble_eq_true rfl)) rfl rfl (Nat.le_of_ble_eq_true rfl) dX1_begin_10 (fun H locs hP hD hS => ?_)
      have h9R := zRe (ws' := [(mv, .inr (1, [.ref mb, .int mr, .int 3, .int nb, .int mq])), (mb, .inl (cI, 20, .inl fb))]) hP hD rfl
      clear hP hD
      obtain ⟨hP, hD⟩ := h9R
      refine lv_aload_n hx hb dX1_begin_13 rfl (lv_at hl 0 rfl) ?_
      refine lv_aload_n hx hb dX1_begin_14 rfl (lv_at hl 1 rfl) ?_
      refine va_get (D := D) (ci := 2) (v := .int a_) (C := RX2) (T := TX2) (N := 3) hx hb hts hi_X1_begin_2 hown hK (zPu_P (hZ.kept hS) hu_u0) 0 rfl rfl 1 (by decide) (hts (.fieldLink RX1 31 "TheLiningsInIt$Pull" "a" "I") (List.mem_of_getElem? (i := 4) rfl)) (fun _ h9 => h9) rfl dX1_begin_15 ?_
      refine va_put (D := D) (ci := 1) (v := .int a_) (ty := .int) (C := RX1) (T := TX1) (N := 5) hx hb hts hi_X1_begin_1 tyX1 tyX1_ok nmX1 hown hK hP hD hS 0 rfl rfl 4 (by decide) (hts (.fieldLink RX1 25 "TheLiningsInIt$Moves" "k" "I") (List.mem_of_getElem? (i := 5) rfl)) (fun _ h9 => h9) rfl (tyX1_ok 4 (Nat.le_of_ble_eq_true rfl)) rfl rfl (Nat.le_of_ble_eq_true rfl) dX1_begin_18 (fun H locs hP hD hS => ?_)
      have h9R := zRe (ws' := [(mv, .inr (1, [.ref mb, .int mr, .int 3, .int nb, .int a_])), (mb, .inl (cI, 20, .inl fb))]) hP hD rfl
      clear hP hD
      obtain ⟨hP, hD⟩ := h9R
      refine lv_aload_n hx hb dX1_begin_21 rfl (lv_at hl 0 rfl) ?_
      refine lv_aload_n hx hb dX1_begin_22 rfl (lv_at hl 0 rfl) ?_
      refine va_get (D := D) (ci := 1) (v := .int 3) (C := RX1) (T := TX1) (N := 5) hx hb hts hi_X1_begin_1 hown hK hP 0 rfl rfl 2 (by decide) (hts (.fieldLink RX1 19 "TheLiningsInIt$Moves" "kind" "I") (List.mem_of_getElem? (i := 2) rfl)) (fun _ h9 => h9) rfl dX1_begin_23 ?_
      refine lv_iload_n hx hb dX1_begin_26 rfl (lv_at hl 3 rfl) ?_
      refine lv_iload hx hb dX1_begin_27 (lv_at hl 4 rfl) ?_
      refine lv_iconst (v := 0) hx hb dX1_begin_29 (by decide) ?_
      skip
      refine zw_V (As := [.int 3, .int 1, .int x, .int 0]) (rest := []) (wr := []) ⟨hx, hb, hml, hown, hts⟩ (c_F_M_run_3_3_1_0 l D cI cJ cZ cP cS po mv mb (mr) (nb) (a_) fb (x) hy2 hy3 H.size) (cwV 4 hts gX1_begin_X1_run rfl rfl rfl ⟨rfl, dh_X1_run⟩ ⟨Nat.le_of_ble_eq_true rfl, Nat.le_of_ble_eq_true rfl⟩) hK hN (hZ.kept hS) hP hD hS hA [0, 1] [] rfl rfl (by decide) (by decide) (by decide) (va_recv (q := (RX1, TX1, 5)) hK hP (ci := 1) (q0 := 0) rfl rfl) rfl hl.1 rfl (Nat.le_of_ble_eq_true rfl) dX1_begin_30 ⟨Nat.le_of_ble_eq_true rfl, Nat.le_of_ble_eq_true rfl⟩ (fun r_41 u_42 H locs hr_41 hP hD hS => ?_)
      obtain ⟨q_43, q_44⟩ := u_42
      try dsimp only at hr_41
      obtain ⟨hbq_43, hsr_41_0, hsr_41_1, hr_41⟩ := hr_41
      have h9R := zRe (ws' := [(mv, .inr (1, [.ref mb, .int q_43, .int 3, .int nb, .int a_])), (mb, .inl (cI, 20, .inl q_44))]) hP hD rfl
      clear hP hD
      obtain ⟨hP, hD⟩ := h9R
      exact W.iret (v := r_41) hx hb hr (fun t ht hW => ⟨⟨r_41, (q_43, 3, nb, a_, q_44), rfl, ⟨(show 0 ≤ q_43.toInt ∧ q_43.toInt ≤ 2000 from ⟨by omega, by omega⟩), (show (r_41 : Int32) = zQa (3 : Int32).toInt (1 : Int32).toInt x nb a_ from by (rw [hsr_41_0, show (1 : Int32).toInt = 1 from by decide, show (3 : Int32).toInt = 3 from by decide]; first | done | rfl)), (show q_44 = zTr fb mr.toInt (zBa (3 : Int32).toInt (1 : Int32).toInt) from by (rw [hsr_41_1, show (1 : Int32).toInt = 1 from by decide, show (3 : Int32).toInt = 3 from by decide]; first | done | rfl)), (show q_43.toInt = mr.toInt + ((zBa (3 : Int32).toInt (1 : Int32).toInt).length : Nat) from by (have q : ((zBa (3 : Int32).toInt (1 : Int32).toInt).length : Int) = 4 := (by rw [show (1 : Int32).toInt = 1 from by decide, show (3 : Int32).toInt = 3 from by decide]; first | done | rfl); omega)), trivial⟩, zRet ht hP hD [0, 1] (by decide) rfl⟩, hS.F ht⟩) hS.2.2 dX1_begin_33
    · refine lv_aload_n hx hb dX1_begin_1 rfl (lv_at hl 1 rfl) ?_
      refine va_get (D := D) (ci := 2) (v := .int 3) (C := RX2) (T := TX2) (N := 3) hx hb hts hi_X1_begin_2 hown hK (zPu_P (hZ.kept hS) hu_u0) 0 rfl rfl 0 (by decide) (hts (.fieldLink RX1 28 "TheLiningsInIt$Pull" "kind" "I") (List.mem_of_getElem? (i := 1) rfl)) (fun _ h9 => h9) rfl dX1_begin_2 ?_
      refine va_put (D := D) (ci := 1) (v := .int 3) (ty := .int) (C := RX1) (T := TX1) (N := 5) hx hb hts hi_X1_begin_1 tyX1 tyX1_ok nmX1 hown hK hP hD hS 0 rfl rfl 2 (by decide) (hts (.fieldLink RX1 19 "TheLiningsInIt$Moves" "kind" "I") (List.mem_of_getElem? (i := 2) rfl)) (fun _ h9 => h9) rfl (tyX1_ok 2 (Nat.le_of_ble_eq_true rfl)) rfl rfl (Nat.le_of_ble_eq_true rfl) dX1_begin_5 (fun H locs hP hD hS => ?_)
      have h9R := zRe (ws' := [(mv, .inr (1, [.ref mb, .int mr, .int 3, .int mm, .int mq])), (mb, .inl (cI, 20, .inl fb))]) hP hD rfl
      clear hP hD
      obtain ⟨hP, hD⟩ := h9R
      refine lv_aload_n hx hb dX1_begin_8 rfl (lv_at hl 0 rfl) ?_
      refine lv_iload_n hx hb dX1_begin_9 rfl (lv_at hl 2 rfl) ?_
      refine va_put (D := D) (ci := 1) (v := .int nb) (ty := .int) (C := RX1) (T := TX1) (N := 5) hx hb hts hi_X1_begin_1 tyX1 tyX1_ok nmX1 hown hK hP hD hS 0 rfl rfl 3 (by decide) (hts (.fieldLink RX1 22 "TheLiningsInIt$Moves" "m" "I") (List.mem_of_getElem? (i := 3) rfl)) (fun _ h9 => h9) rfl (tyX1_ok 3 (Nat.le_of_ble_eq_true rfl)) rfl rfl (Nat.le_of_ble_eq_true rfl) dX1_begin_10 (fun H locs hP hD hS => ?_)
      have h9R := zRe (ws' := [(mv, .inr (1, [.ref mb, .int mr, .int 3, .int nb, .int mq])), (mb, .inl (cI, 20, .inl fb))]) hP hD rfl
      clear hP hD
      obtain ⟨hP, hD⟩ := h9R
      refine lv_aload_n hx hb dX1_begin_13 rfl (lv_at hl 0 rfl) ?_
      refine lv_aload_n hx hb dX1_begin_14 rfl (lv_at hl 1 rfl) ?_
      refine va_get (D := D) (ci := 2) (v := .int a_) (C := RX2) (T := TX2) (N := 3) hx hb hts hi_X1_begin_2 hown hK (zPu_P (hZ.kept hS) hu_u0) 0 rfl rfl 1 (by decide) (hts (.fieldLink RX1 31 "TheLiningsInIt$Pull" "a" "I") (List.mem_of_getElem? (i := 4) rfl)) (fun _ h9 => h9) rfl dX1_begin_15 ?_
      refine va_put (D := D) (ci := 1) (v := .int a_) (ty := .int) (C := RX1) (T := TX1) (N := 5) hx hb hts hi_X1_begin_1 tyX1 tyX1_ok nmX1 hown hK hP hD hS 0 rfl rfl 4 (by decide) (hts (.fieldLink RX1 25 "TheLiningsInIt$Moves" "k" "I") (List.mem_of_getElem? (i := 5) rfl)) (fun _ h9 => h9) rfl (tyX1_ok 4 (Nat.le_of_ble_eq_true rfl)) rfl rfl (Nat.le_of_ble_eq_true rfl) dX1_begin_18 (fun H locs hP hD hS => ?_)
      have h9R := zRe (ws' := [(mv, .inr (1, [.ref mb, .int mr, .int 3, .int nb, .int a_])), (mb, .inl (cI, 20, .inl fb))]) hP hD rfl
      clear hP hD
      obtain ⟨hP, hD⟩ := h9R
      refine lv_aload_n hx hb dX1_begin_21 rfl (lv_at hl 0 rfl) ?_
      refine lv_aload_n hx hb dX1_begin_22 rfl (lv_at hl 0 rfl) ?_
      refine va_get (D := D) (ci := 1) (v := .int 3) (C := RX1) (T := TX1) (N := 5) hx hb hts hi_X1_begin_1 hown hK hP 0 rfl rfl 2 (by decide) (hts (.fieldLink RX1 19 "TheLiningsInIt$Moves" "kind" "I") (List.mem_of_getElem? (i := 2) rfl)) (fun _ h9 => h9) rfl dX1_begin_23 ?_
      refine lv_iload_n hx hb dX1_begin_26 rfl (lv_at hl 3 rfl) ?_
      refine lv_iload hx hb dX1_begin_27 (lv_at hl 4 rfl) ?_
      refine lv_iconst (v := 0) hx hb dX1_begin_29 (by decide) ?_
      skip
      refine zw_V (As := [.int 3, .int 2, .int x, .int 0]) (rest := []) (wr := []) ⟨hx, hb, hml, hown, hts⟩ (c_F_M_run_3_3_2_0 l D cI cJ cZ cP cS po mv mb (mr) (nb) (a_) fb (x) hy2 hy3 H.size) (cwV 4 hts gX1_begin_X1_run rfl rfl rfl ⟨rfl, dh_X1_run⟩ ⟨Nat.le_of_ble_eq_true rfl, Nat.le_of_ble_eq_true rfl⟩) hK hN (hZ.kept hS) hP hD hS hA [0, 1] [] rfl rfl (by decide) (by decide) (by decide) (va_recv (q := (RX1, TX1, 5)) hK hP (ci := 1) (q0 := 0) rfl rfl) rfl hl.1 rfl (Nat.le_of_ble_eq_true rfl) dX1_begin_30 ⟨Nat.le_of_ble_eq_true rfl, Nat.le_of_ble_eq_true rfl⟩ (fun r_45 u_46 H locs hr_45 hP hD hS => ?_)
      obtain ⟨q_47, q_48⟩ := u_46
      try dsimp only at hr_45
      obtain ⟨hbq_47, hsr_45_0, hsr_45_1, hr_45⟩ := hr_45
      have h9R := zRe (ws' := [(mv, .inr (1, [.ref mb, .int q_47, .int 3, .int nb, .int a_])), (mb, .inl (cI, 20, .inl q_48))]) hP hD rfl
      clear hP hD
      obtain ⟨hP, hD⟩ := h9R
      exact W.iret (v := r_45) hx hb hr (fun t ht hW => ⟨⟨r_45, (q_47, 3, nb, a_, q_48), rfl, ⟨(show 0 ≤ q_47.toInt ∧ q_47.toInt ≤ 2000 from ⟨by omega, by omega⟩), (show (r_45 : Int32) = zQa (3 : Int32).toInt (2 : Int32).toInt x nb a_ from by (rw [hsr_45_0, show (2 : Int32).toInt = 2 from by decide, show (3 : Int32).toInt = 3 from by decide]; first | done | rfl)), (show q_48 = zTr fb mr.toInt (zBa (3 : Int32).toInt (2 : Int32).toInt) from by (rw [hsr_45_1, show (2 : Int32).toInt = 2 from by decide, show (3 : Int32).toInt = 3 from by decide]; first | done | rfl)), (show q_47.toInt = mr.toInt + ((zBa (3 : Int32).toInt (2 : Int32).toInt).length : Nat) from by (have q : ((zBa (3 : Int32).toInt (2 : Int32).toInt).length : Int) = 7 := (by rw [show (2 : Int32).toInt = 2 from by decide, show (3 : Int32).toInt = 3 from by decide]; first | done | rfl); omega)), trivial⟩, zRet ht hP hD [0, 1] (by decide) rfl⟩, hS.F ht⟩) hS.2.2 dX1_begin_33
  · refine lv_aload_n hx hb dX1_begin_0 rfl (lv_at hl 0 rfl) ?_
    have hsp : mo = 0 ∨ mo = 1 ∨ mo = 2 := by
      rcases (show mo.toInt = 0 ∨ mo.toInt = 1 ∨ mo.toInt = 2 by omega) with h9 | h9 | h9
      · refine Or.inl ?_; exact zf_val h9 (by decide)
      · refine Or.inr (Or.inl ?_); exact zf_val h9 (by decide)
      · refine Or.inr (Or.inr (?_)); exact zf_val h9 (by decide)
    rcases hsp with rfl | rfl | rfl
    · refine lv_aload_n hx hb dX1_begin_1 rfl (lv_at hl 1 rfl) ?_
      refine va_get (D := D) (ci := 2) (v := .int 4) (C := RX2) (T := TX2) (N := 3) hx hb hts hi_X1_begin_2 hown hK (zPu_P (hZ.kept hS) hu_u0) 0 rfl rfl 0 (by decide) (hts (.fieldLink RX1 28 "TheLiningsInIt$Pull" "kind" "I") (List.mem_of_getElem? (i := 1) rfl)) (fun _ h9 => h9) rfl dX1_begin_2 ?_
      refine va_put (D := D) (ci := 1) (v := .int 4) (ty := .int) (C := RX1) (T := TX1) (N := 5) hx hb hts hi_X1_begin_1 tyX1 tyX1_ok nmX1 hown hK hP hD hS 0 rfl rfl 2 (by decide) (hts (.fieldLink RX1 19 "TheLiningsInIt$Moves" "kind" "I") (List.mem_of_getElem? (i := 2) rfl)) (fun _ h9 => h9) rfl (tyX1_ok 2 (Nat.le_of_ble_eq_true rfl)) rfl rfl (Nat.le_of_ble_eq_true rfl) dX1_begin_5 (fun H locs hP hD hS => ?_)
      have h9R := zRe (ws' := [(mv, .inr (1, [.ref mb, .int mr, .int 4, .int mm, .int mq])), (mb, .inl (cI, 20, .inl fb))]) hP hD rfl
      clear hP hD
      obtain ⟨hP, hD⟩ := h9R
      refine lv_aload_n hx hb dX1_begin_8 rfl (lv_at hl 0 rfl) ?_
      refine lv_iload_n hx hb dX1_begin_9 rfl (lv_at hl 2 rfl) ?_
      refine va_put (D := D) (ci := 1) (v := .int nb) (ty := .int) (C := RX1) (T := TX1) (N := 5) hx hb hts hi_X1_begin_1 tyX1 tyX1_ok nmX1 hown hK hP hD hS 0 rfl rfl 3 (by decide) (hts (.fieldLink RX1 22 "TheLiningsInIt$Moves" "m" "I") (List.mem_of_getElem? (i := 3) rfl)) (fun _ h9 => h9) rfl (tyX1_ok 3 (Nat.le_of_ble_eq_true rfl)) rfl rfl (Nat.le_of_ble_eq_true rfl) dX1_begin_10 (fun H locs hP hD hS => ?_)
      have h9R := zRe (ws' := [(mv, .inr (1, [.ref mb, .int mr, .int 4, .int nb, .int mq])), (mb, .inl (cI, 20, .inl fb))]) hP hD rfl
      clear hP hD
      obtain ⟨hP, hD⟩ := h9R
      refine lv_aload_n hx hb dX1_begin_13 rfl (lv_at hl 0 rfl) ?_
      refine lv_aload_n hx hb dX1_begin_14 rfl (lv_at hl 1 rfl) ?_
      refine va_get (D := D) (ci := 2) (v := .int a_) (C := RX2) (T := TX2) (N := 3) hx hb hts hi_X1_begin_2 hown hK (zPu_P (hZ.kept hS) hu_u0) 0 rfl rfl 1 (by decide) (hts (.fieldLink RX1 31 "TheLiningsInIt$Pull" "a" "I") (List.mem_of_getElem? (i := 4) rfl)) (fun _ h9 => h9) rfl dX1_begin_15 ?_
      refine va_put (D := D) (ci := 1) (v := .int a_) (ty := .int) (C := RX1) (T := TX1) (N := 5) hx hb hts hi_X1_begin_1 tyX1 tyX1_ok nmX1 hown hK hP hD hS 0 rfl rfl 4 (by decide) (hts (.fieldLink RX1 25 "TheLiningsInIt$Moves" "k" "I") (List.mem_of_getElem? (i := 5) rfl)) (fun _ h9 => h9) rfl (tyX1_ok 4 (Nat.le_of_ble_eq_true rfl)) rfl rfl (Nat.le_of_ble_eq_true rfl) dX1_begin_18 (fun H locs hP hD hS => ?_)
      have h9R := zRe (ws' := [(mv, .inr (1, [.ref mb, .int mr, .int 4, .int nb, .int a_])), (mb, .inl (cI, 20, .inl fb))]) hP hD rfl
      clear hP hD
      obtain ⟨hP, hD⟩ := h9R
      refine lv_aload_n hx hb dX1_begin_21 rfl (lv_at hl 0 rfl) ?_
      refine lv_aload_n hx hb dX1_begin_22 rfl (lv_at hl 0 rfl) ?_
      refine va_get (D := D) (ci := 1) (v := .int 4) (C := RX1) (T := TX1) (N := 5) hx hb hts hi_X1_begin_1 hown hK hP 0 rfl rfl 2 (by decide) (hts (.fieldLink RX1 19 "TheLiningsInIt$Moves" "kind" "I") (List.mem_of_getElem? (i := 2) rfl)) (fun _ h9 => h9) rfl dX1_begin_23 ?_
      refine lv_iload_n hx hb dX1_begin_26 rfl (lv_at hl 3 rfl) ?_
      refine lv_iload hx hb dX1_begin_27 (lv_at hl 4 rfl) ?_
      refine lv_iconst (v := 0) hx hb dX1_begin_29 (by decide) ?_
      skip
      refine zw_V (As := [.int 4, .int 0, .int x, .int 0]) (rest := []) (wr := []) ⟨hx, hb, hml, hown, hts⟩ (c_F_M_run_4_4_0_0 l D cI cJ cZ cP cS po mv mb (mr) (nb) (a_) fb (x) hy2 hy3 H.size) (cwV 4 hts gX1_begin_X1_run rfl rfl rfl ⟨rfl, dh_X1_run⟩ ⟨Nat.le_of_ble_eq_true rfl, Nat.le_of_ble_eq_true rfl⟩) hK hN (hZ.kept hS) hP hD hS hA [0, 1] [] rfl rfl (by decide) (by decide) (by decide) (va_recv (q := (RX1, TX1, 5)) hK hP (ci := 1) (q0 := 0) rfl rfl) rfl hl.1 rfl (Nat.le_of_ble_eq_true rfl) dX1_begin_30 ⟨Nat.le_of_ble_eq_true rfl, Nat.le_of_ble_eq_true rfl⟩ (fun r_49 u_50 H locs hr_49 hP hD hS => ?_)
      obtain ⟨q_51, q_52⟩ := u_50
      try dsimp only at hr_49
      obtain ⟨hbq_51, hsr_49_0, hsr_49_1, hr_49⟩ := hr_49
      have h9R := zRe (ws' := [(mv, .inr (1, [.ref mb, .int q_51, .int 4, .int nb, .int a_])), (mb, .inl (cI, 20, .inl q_52))]) hP hD rfl
      clear hP hD
      obtain ⟨hP, hD⟩ := h9R
      exact W.iret (v := r_49) hx hb hr (fun t ht hW => ⟨⟨r_49, (q_51, 4, nb, a_, q_52), rfl, ⟨(show 0 ≤ q_51.toInt ∧ q_51.toInt ≤ 2000 from ⟨by omega, by omega⟩), (show (r_49 : Int32) = zQa (4 : Int32).toInt (0 : Int32).toInt x nb a_ from by (rw [hsr_49_0, show (0 : Int32).toInt = 0 from by decide, show (4 : Int32).toInt = 4 from by decide]; first | done | rfl)), (show q_52 = zTr fb mr.toInt (zBa (4 : Int32).toInt (0 : Int32).toInt) from by (rw [hsr_49_1, show (0 : Int32).toInt = 0 from by decide, show (4 : Int32).toInt = 4 from by decide]; first | done | rfl)), (show q_51.toInt = mr.toInt + ((zBa (4 : Int32).toInt (0 : Int32).toInt).length : Nat) from by (have q : ((zBa (4 : Int32).toInt (0 : Int32).toInt).length : Int) = 2 := (by rw [show (0 : Int32).toInt = 0 from by decide, show (4 : Int32).toInt = 4 from by decide]; first | done | rfl); omega)), trivial⟩, zRet ht hP hD [0, 1] (by decide) rfl⟩, hS.F ht⟩) hS.2.2 dX1_begin_33
    · refine lv_aload_n hx hb dX1_begin_1 rfl (lv_at hl 1 rfl) ?_
      refine va_get (D := D) (ci := 2) (v := .int 4) (C := RX2) (T := TX2) (N := 3) hx hb hts hi_X1_begin_2 hown hK (zPu_P (hZ.kept hS) hu_u0) 0 rfl rfl 0 (by decide) (hts (.fieldLink RX1 28 "TheLiningsInIt$Pull" "kind" "I") (List.mem_of_getElem? (i := 1) rfl)) (fun _ h9 => h9) rfl dX1_begin_2 ?_
      refine va_put (D := D) (ci := 1) (v := .int 4) (ty := .int) (C := RX1) (T := TX1) (N := 5) hx hb hts hi_X1_begin_1 tyX1 tyX1_ok nmX1 hown hK hP hD hS 0 rfl rfl 2 (by decide) (hts (.fieldLink RX1 19 "TheLiningsInIt$Moves" "kind" "I") (List.mem_of_getElem? (i := 2) rfl)) (fun _ h9 => h9) rfl (tyX1_ok 2 (Nat.le_of_ble_eq_true rfl)) rfl rfl (Nat.le_of_ble_eq_true rfl) dX1_begin_5 (fun H locs hP hD hS => ?_)
      have h9R := zRe (ws' := [(mv, .inr (1, [.ref mb, .int mr, .int 4, .int mm, .int mq])), (mb, .inl (cI, 20, .inl fb))]) hP hD rfl
      clear hP hD
      obtain ⟨hP, hD⟩ := h9R
      refine lv_aload_n hx hb dX1_begin_8 rfl (lv_at hl 0 rfl) ?_
      refine lv_iload_n hx hb dX1_begin_9 rfl (lv_at hl 2 rfl) ?_
      refine va_put (D := D) (ci := 1) (v := .int nb) (ty := .int) (C := RX1) (T := TX1) (N := 5) hx hb hts hi_X1_begin_1 tyX1 tyX1_ok nmX1 hown hK hP hD hS 0 rfl rfl 3 (by decide) (hts (.fieldLink RX1 22 "TheLiningsInIt$Moves" "m" "I") (List.mem_of_getElem? (i := 3) rfl)) (fun _ h9 => h9) rfl (tyX1_ok 3 (Nat.le_of_ble_eq_true rfl)) rfl rfl (Nat.le_of_ble_eq_true rfl) dX1_begin_10 (fun H locs hP hD hS => ?_)
      have h9R := zRe (ws' := [(mv, .inr (1, [.ref mb, .int mr, .int 4, .int nb, .int mq])), (mb, .inl (cI, 20, .inl fb))]) hP hD rfl
      clear hP hD
      obtain ⟨hP, hD⟩ := h9R
      refine lv_aload_n hx hb dX1_begin_13 rfl (lv_at hl 0 rfl) ?_
      refine lv_aload_n hx hb dX1_begin_14 rfl (lv_at hl 1 rfl) ?_
      refine va_get (D := D) (ci := 2) (v := .int a_) (C := RX2) (T := TX2) (N := 3) hx hb hts hi_X1_begin_2 hown hK (zPu_P (hZ.kept hS) hu_u0) 0 rfl rfl 1 (by decide) (hts (.fieldLink RX1 31 "TheLiningsInIt$Pull" "a" "I") (List.mem_of_getElem? (i := 4) rfl)) (fun _ h9 => h9) rfl dX1_begin_15 ?_
      refine va_put (D := D) (ci := 1) (v := .int a_) (ty := .int) (C := RX1) (T := TX1) (N := 5) hx hb hts hi_X1_begin_1 tyX1 tyX1_ok nmX1 hown hK hP hD hS 0 rfl rfl 4 (by decide) (hts (.fieldLink RX1 25 "TheLiningsInIt$Moves" "k" "I") (List.mem_of_getElem? (i := 5) rfl)) (fun _ h9 => h9) rfl (tyX1_ok 4 (Nat.le_of_ble_eq_true rfl)) rfl rfl (Nat.le_of_ble_eq_true rfl) dX1_begin_18 (fun H locs hP hD hS => ?_)
      have h9R := zRe (ws' := [(mv, .inr (1, [.ref mb, .int mr, .int 4, .int nb, .int a_])), (mb, .inl (cI, 20, .inl fb))]) hP hD rfl
      clear hP hD
      obtain ⟨hP, hD⟩ := h9R
      refine lv_aload_n hx hb dX1_begin_21 rfl (lv_at hl 0 rfl) ?_
      refine lv_aload_n hx hb dX1_begin_22 rfl (lv_at hl 0 rfl) ?_
      refine va_get (D := D) (ci := 1) (v := .int 4) (C := RX1) (T := TX1) (N := 5) hx hb hts hi_X1_begin_1 hown hK hP 0 rfl rfl 2 (by decide) (hts (.fieldLink RX1 19 "TheLiningsInIt$Moves" "kind" "I") (List.mem_of_getElem? (i := 2) rfl)) (fun _ h9 => h9) rfl dX1_begin_23 ?_
      refine lv_iload_n hx hb dX1_begin_26 rfl (lv_at hl 3 rfl) ?_
      refine lv_iload hx hb dX1_begin_27 (lv_at hl 4 rfl) ?_
      refine lv_iconst (v := 0) hx hb dX1_begin_29 (by decide) ?_
      skip
      refine zw_V (As := [.int 4, .int 1, .int x, .int 0]) (rest := []) (wr := []) ⟨hx, hb, hml, hown, hts⟩ (c_F_M_run_4_4_1_0 l D cI cJ cZ cP cS po mv mb (mr) (nb) (a_) fb (x) hy2 hy3 H.size) (cwV 4 hts gX1_begin_X1_run rfl rfl rfl ⟨rfl, dh_X1_run⟩ ⟨Nat.le_of_ble_eq_true rfl, Nat.le_of_ble_eq_true rfl⟩) hK hN (hZ.kept hS) hP hD hS hA [0, 1] [] rfl rfl (by decide) (by decide) (by decide) (va_recv (q := (RX1, TX1, 5)) hK hP (ci := 1) (q0 := 0) rfl rfl) rfl hl.1 rfl (Nat.le_of_ble_eq_true rfl) dX1_begin_30 ⟨Nat.le_of_ble_eq_true rfl, Nat.le_of_ble_eq_true rfl⟩ (fun r_53 u_54 H locs hr_53 hP hD hS => ?_)
      obtain ⟨q_55, q_56⟩ := u_54
      try dsimp only at hr_53
      obtain ⟨hbq_55, hsr_53_0, hsr_53_1, hr_53⟩ := hr_53
      have h9R := zRe (ws' := [(mv, .inr (1, [.ref mb, .int q_55, .int 4, .int nb, .int a_])), (mb, .inl (cI, 20, .inl q_56))]) hP hD rfl
      clear hP hD
      obtain ⟨hP, hD⟩ := h9R
      exact W.iret (v := r_53) hx hb hr (fun t ht hW => ⟨⟨r_53, (q_55, 4, nb, a_, q_56), rfl, ⟨(show 0 ≤ q_55.toInt ∧ q_55.toInt ≤ 2000 from ⟨by omega, by omega⟩), (show (r_53 : Int32) = zQa (4 : Int32).toInt (1 : Int32).toInt x nb a_ from by (rw [hsr_53_0, show (1 : Int32).toInt = 1 from by decide, show (4 : Int32).toInt = 4 from by decide]; first | done | rfl)), (show q_56 = zTr fb mr.toInt (zBa (4 : Int32).toInt (1 : Int32).toInt) from by (rw [hsr_53_1, show (1 : Int32).toInt = 1 from by decide, show (4 : Int32).toInt = 4 from by decide]; first | done | rfl)), (show q_55.toInt = mr.toInt + ((zBa (4 : Int32).toInt (1 : Int32).toInt).length : Nat) from by (have q : ((zBa (4 : Int32).toInt (1 : Int32).toInt).length : Int) = 3 := (by rw [show (1 : Int32).toInt = 1 from by decide, show (4 : Int32).toInt = 4 from by decide]; first | done | rfl); omega)), trivial⟩, zRet ht hP hD [0, 1] (by decide) rfl⟩, hS.F ht⟩) hS.2.2 dX1_begin_33
    · refine lv_aload_n hx hb dX1_begin_1 rfl (lv_at hl 1 rfl) ?_
      refine va_get (D := D) (ci := 2) (v := .int 4) (C := RX2) (T := TX2) (N := 3) hx hb hts hi_X1_begin_2 hown hK (zPu_P (hZ.kept hS) hu_u0) 0 rfl rfl 0 (by decide) (hts (.fieldLink RX1 28 "TheLiningsInIt$Pull" "kind" "I") (List.mem_of_getElem? (i := 1) rfl)) (fun _ h9 => h9) rfl dX1_begin_2 ?_
      refine va_put (D := D) (ci := 1) (v := .int 4) (ty := .int) (C := RX1) (T := TX1) (N := 5) hx hb hts hi_X1_begin_1 tyX1 tyX1_ok nmX1 hown hK hP hD hS 0 rfl rfl 2 (by decide) (hts (.fieldLink RX1 19 "TheLiningsInIt$Moves" "kind" "I") (List.mem_of_getElem? (i := 2) rfl)) (fun _ h9 => h9) rfl (tyX1_ok 2 (Nat.le_of_ble_eq_true rfl)) rfl rfl (Nat.le_of_ble_eq_true rfl) dX1_begin_5 (fun H locs hP hD hS => ?_)
      have h9R := zRe (ws' := [(mv, .inr (1, [.ref mb, .int mr, .int 4, .int mm, .int mq])), (mb, .inl (cI, 20, .inl fb))]) hP hD rfl
      clear hP hD
      obtain ⟨hP, hD⟩ := h9R
      refine lv_aload_n hx hb dX1_begin_8 rfl (lv_at hl 0 rfl) ?_
      refine lv_iload_n hx hb dX1_begin_9 rfl (lv_at hl 2 rfl) ?_
      refine va_put (D := D) (ci := 1) (v := .int nb) (ty := .int) (C := RX1) (T := TX1) (N := 5) hx hb hts hi_X1_begin_1 tyX1 tyX1_ok nmX1 hown hK hP hD hS 0 rfl rfl 3 (by decide) (hts (.fieldLink RX1 22 "TheLiningsInIt$Moves" "m" "I") (List.mem_of_getElem? (i := 3) rfl)) (fun _ h9 => h9) rfl (tyX1_ok 3 (Nat.le_of_ble_eq_true rfl)) rfl rfl (Nat.le_of_ble_eq_true rfl) dX1_begin_10 (fun H locs hP hD hS => ?_)
      have h9R := zRe (ws' := [(mv, .inr (1, [.ref mb, .int mr, .int 4, .int nb, .int mq])), (mb, .inl (cI, 20, .inl fb))]) hP hD rfl
      clear hP hD
      obtain ⟨hP, hD⟩ := h9R
      refine lv_aload_n hx hb dX1_begin_13 rfl (lv_at hl 0 rfl) ?_
      refine lv_aload_n hx hb dX1_begin_14 rfl (lv_at hl 1 rfl) ?_
      refine va_get (D := D) (ci := 2) (v := .int a_) (C := RX2) (T := TX2) (N := 3) hx hb hts hi_X1_begin_2 hown hK (zPu_P (hZ.kept hS) hu_u0) 0 rfl rfl 1 (by decide) (hts (.fieldLink RX1 31 "TheLiningsInIt$Pull" "a" "I") (List.mem_of_getElem? (i := 4) rfl)) (fun _ h9 => h9) rfl dX1_begin_15 ?_
      refine va_put (D := D) (ci := 1) (v := .int a_) (ty := .int) (C := RX1) (T := TX1) (N := 5) hx hb hts hi_X1_begin_1 tyX1 tyX1_ok nmX1 hown hK hP hD hS 0 rfl rfl 4 (by decide) (hts (.fieldLink RX1 25 "TheLiningsInIt$Moves" "k" "I") (List.mem_of_getElem? (i := 5) rfl)) (fun _ h9 => h9) rfl (tyX1_ok 4 (Nat.le_of_ble_eq_true rfl)) rfl rfl (Nat.le_of_ble_eq_true rfl) dX1_begin_18 (fun H locs hP hD hS => ?_)
      have h9R := zRe (ws' := [(mv, .inr (1, [.ref mb, .int mr, .int 4, .int nb, .int a_])), (mb, .inl (cI, 20, .inl fb))]) hP hD rfl
      clear hP hD
      obtain ⟨hP, hD⟩ := h9R
      refine lv_aload_n hx hb dX1_begin_21 rfl (lv_at hl 0 rfl) ?_
      refine lv_aload_n hx hb dX1_begin_22 rfl (lv_at hl 0 rfl) ?_
      refine va_get (D := D) (ci := 1) (v := .int 4) (C := RX1) (T := TX1) (N := 5) hx hb hts hi_X1_begin_1 hown hK hP 0 rfl rfl 2 (by decide) (hts (.fieldLink RX1 19 "TheLiningsInIt$Moves" "kind" "I") (List.mem_of_getElem? (i := 2) rfl)) (fun _ h9 => h9) rfl dX1_begin_23 ?_
      refine lv_iload_n hx hb dX1_begin_26 rfl (lv_at hl 3 rfl) ?_
      refine lv_iload hx hb dX1_begin_27 (lv_at hl 4 rfl) ?_
      refine lv_iconst (v := 0) hx hb dX1_begin_29 (by decide) ?_
      skip
      refine zw_V (As := [.int 4, .int 2, .int x, .int 0]) (rest := []) (wr := []) ⟨hx, hb, hml, hown, hts⟩ (c_F_M_run_4_4_2_0 l D cI cJ cZ cP cS po mv mb (mr) (nb) (a_) fb (x) hy2 hy3 H.size) (cwV 4 hts gX1_begin_X1_run rfl rfl rfl ⟨rfl, dh_X1_run⟩ ⟨Nat.le_of_ble_eq_true rfl, Nat.le_of_ble_eq_true rfl⟩) hK hN (hZ.kept hS) hP hD hS hA [0, 1] [] rfl rfl (by decide) (by decide) (by decide) (va_recv (q := (RX1, TX1, 5)) hK hP (ci := 1) (q0 := 0) rfl rfl) rfl hl.1 rfl (Nat.le_of_ble_eq_true rfl) dX1_begin_30 ⟨Nat.le_of_ble_eq_true rfl, Nat.le_of_ble_eq_true rfl⟩ (fun r_57 u_58 H locs hr_57 hP hD hS => ?_)
      obtain ⟨q_59, q_60⟩ := u_58
      try dsimp only at hr_57
      obtain ⟨hbq_59, hsr_57_0, hsr_57_1, hr_57⟩ := hr_57
      have h9R := zRe (ws' := [(mv, .inr (1, [.ref mb, .int q_59, .int 4, .int nb, .int a_])), (mb, .inl (cI, 20, .inl q_60))]) hP hD rfl
      clear hP hD
      obtain ⟨hP, hD⟩ := h9R
      exact W.iret (v := r_57) hx hb hr (fun t ht hW => ⟨⟨r_57, (q_59, 4, nb, a_, q_60), rfl, ⟨(show 0 ≤ q_59.toInt ∧ q_59.toInt ≤ 2000 from ⟨by omega, by omega⟩), (show (r_57 : Int32) = zQa (4 : Int32).toInt (2 : Int32).toInt x nb a_ from by (rw [hsr_57_0, show (2 : Int32).toInt = 2 from by decide, show (4 : Int32).toInt = 4 from by decide]; first | done | rfl)), (show q_60 = zTr fb mr.toInt (zBa (4 : Int32).toInt (2 : Int32).toInt) from by (rw [hsr_57_1, show (2 : Int32).toInt = 2 from by decide, show (4 : Int32).toInt = 4 from by decide]; first | done | rfl)), (show q_59.toInt = mr.toInt + ((zBa (4 : Int32).toInt (2 : Int32).toInt).length : Nat) from by (have q : ((zBa (4 : Int32).toInt (2 : Int32).toInt).length : Int) = 7 := (by rw [show (2 : Int32).toInt = 2 from by decide, show (4 : Int32).toInt = 4 from by decide]; first | done | rfl); omega)), trivial⟩, zRet ht hP hD [0, 1] (by decide) rfl⟩, hS.F ht⟩) hS.2.2 dX1_begin_33
  · refine lv_aload_n hx hb dX1_begin_0 rfl (lv_at hl 0 rfl) ?_
    have hsp : mo = 0 ∨ mo = 1 ∨ mo = 2 := by
      rcases (show mo.toInt = 0 ∨ mo.toInt = 1 ∨ mo.toInt = 2 by omega) with h9 | h9 | h9
      · refine Or.inl ?_; exact zf_val h9 (by decide)
      · refine Or.inr (Or.inl ?_); exact zf_val h9 (by decide)
      · refine Or.inr (Or.inr (?_)); exact zf_val h9 (by decide)
    rcases hsp with rfl | rfl | rfl
    · refine lv_aload_n hx hb dX1_begin_1 rfl (lv_at hl 1 rfl) ?_
      refine va_get (D := D) (ci := 2) (v := .int 5) (C := RX2) (T := TX2) (N := 3) hx hb hts hi_X1_begin_2 hown hK (zPu_P (hZ.kept hS) hu_u0) 0 rfl rfl 0 (by decide) (hts (.fieldLink RX1 28 "TheLiningsInIt$Pull" "kind" "I") (List.mem_of_getElem? (i := 1) rfl)) (fun _ h9 => h9) rfl dX1_begin_2 ?_
      refine va_put (D := D) (ci := 1) (v := .int 5) (ty := .int) (C := RX1) (T := TX1) (N := 5) hx hb hts hi_X1_begin_1 tyX1 tyX1_ok nmX1 hown hK hP hD hS 0 rfl rfl 2 (by decide) (hts (.fieldLink RX1 19 "TheLiningsInIt$Moves" "kind" "I") (List.mem_of_getElem? (i := 2) rfl)) (fun _ h9 => h9) rfl (tyX1_ok 2 (Nat.le_of_ble_eq_true rfl)) rfl rfl (Nat.le_of_ble_eq_true rfl) dX1_begin_5 (fun H locs hP hD hS => ?_)
      have h9R := zRe (ws' := [(mv, .inr (1, [.ref mb, .int mr, .int 5, .int mm, .int mq])), (mb, .inl (cI, 20, .inl fb))]) hP hD rfl
      clear hP hD
      obtain ⟨hP, hD⟩ := h9R
      refine lv_aload_n hx hb dX1_begin_8 rfl (lv_at hl 0 rfl) ?_
      refine lv_iload_n hx hb dX1_begin_9 rfl (lv_at hl 2 rfl) ?_
      refine va_put (D := D) (ci := 1) (v := .int nb) (ty := .int) (C := RX1) (T := TX1) (N := 5) hx hb hts hi_X1_begin_1 tyX1 tyX1_ok nmX1 hown hK hP hD hS 0 rfl rfl 3 (by decide) (hts (.fieldLink RX1 22 "TheLiningsInIt$Moves" "m" "I") (List.mem_of_getElem? (i := 3) rfl)) (fun _ h9 => h9) rfl (tyX1_ok 3 (Nat.le_of_ble_eq_true rfl)) rfl rfl (Nat.le_of_ble_eq_true rfl) dX1_begin_10 (fun H locs hP hD hS => ?_)
      have h9R := zRe (ws' := [(mv, .inr (1, [.ref mb, .int mr, .int 5, .int nb, .int mq])), (mb, .inl (cI, 20, .inl fb))]) hP hD rfl
      clear hP hD
      obtain ⟨hP, hD⟩ := h9R
      refine lv_aload_n hx hb dX1_begin_13 rfl (lv_at hl 0 rfl) ?_
      refine lv_aload_n hx hb dX1_begin_14 rfl (lv_at hl 1 rfl) ?_
      refine va_get (D := D) (ci := 2) (v := .int a_) (C := RX2) (T := TX2) (N := 3) hx hb hts hi_X1_begin_2 hown hK (zPu_P (hZ.kept hS) hu_u0) 0 rfl rfl 1 (by decide) (hts (.fieldLink RX1 31 "TheLiningsInIt$Pull" "a" "I") (List.mem_of_getElem? (i := 4) rfl)) (fun _ h9 => h9) rfl dX1_begin_15 ?_
      refine va_put (D := D) (ci := 1) (v := .int a_) (ty := .int) (C := RX1) (T := TX1) (N := 5) hx hb hts hi_X1_begin_1 tyX1 tyX1_ok nmX1 hown hK hP hD hS 0 rfl rfl 4 (by decide) (hts (.fieldLink RX1 25 "TheLiningsInIt$Moves" "k" "I") (List.mem_of_getElem? (i := 5) rfl)) (fun _ h9 => h9) rfl (tyX1_ok 4 (Nat.le_of_ble_eq_true rfl)) rfl rfl (Nat.le_of_ble_eq_true rfl) dX1_begin_18 (fun H locs hP hD hS => ?_)
      have h9R := zRe (ws' := [(mv, .inr (1, [.ref mb, .int mr, .int 5, .int nb, .int a_])), (mb, .inl (cI, 20, .inl fb))]) hP hD rfl
      clear hP hD
      obtain ⟨hP, hD⟩ := h9R
      refine lv_aload_n hx hb dX1_begin_21 rfl (lv_at hl 0 rfl) ?_
      refine lv_aload_n hx hb dX1_begin_22 rfl (lv_at hl 0 rfl) ?_
      refine va_get (D := D) (ci := 1) (v := .int 5) (C := RX1) (T := TX1) (N := 5) hx hb hts hi_X1_begin_1 hown hK hP 0 rfl rfl 2 (by decide) (hts (.fieldLink RX1 19 "TheLiningsInIt$Moves" "kind" "I") (List.mem_of_getElem? (i := 2) rfl)) (fun _ h9 => h9) rfl dX1_begin_23 ?_
      refine lv_iload_n hx hb dX1_begin_26 rfl (lv_at hl 3 rfl) ?_
      refine lv_iload hx hb dX1_begin_27 (lv_at hl 4 rfl) ?_
      refine lv_iconst (v := 0) hx hb dX1_begin_29 (by decide) ?_
      skip
      refine zw_V (As := [.int 5, .int 0, .int x, .int 0]) (rest := []) (wr := []) ⟨hx, hb, hml, hown, hts⟩ (c_F_M_run_5_5_0_0 l D cI cJ cZ cP cS po mv mb (mr) (nb) (a_) fb (x) hy2 hy3 H.size) (cwV 4 hts gX1_begin_X1_run rfl rfl rfl ⟨rfl, dh_X1_run⟩ ⟨Nat.le_of_ble_eq_true rfl, Nat.le_of_ble_eq_true rfl⟩) hK hN (hZ.kept hS) hP hD hS hA [0, 1] [] rfl rfl (by decide) (by decide) (by decide) (va_recv (q := (RX1, TX1, 5)) hK hP (ci := 1) (q0 := 0) rfl rfl) rfl hl.1 rfl (Nat.le_of_ble_eq_true rfl) dX1_begin_30 ⟨Nat.le_of_ble_eq_true rfl, Nat.le_of_ble_eq_true rfl⟩ (fun r_61 u_62 H locs hr_61 hP hD hS => ?_)
      obtain ⟨q_63, q_64⟩ := u_62
      try dsimp only at hr_61
      obtain ⟨hbq_63, hsr_61_0, hsr_61_1, hr_61⟩ := hr_61
      have h9R := zRe (ws' := [(mv, .inr (1, [.ref mb, .int q_63, .int 5, .int nb, .int a_])), (mb, .inl (cI, 20, .inl q_64))]) hP hD rfl
      clear hP hD
      obtain ⟨hP, hD⟩ := h9R
      exact W.iret (v := r_61) hx hb hr (fun t ht hW => ⟨⟨r_61, (q_63, 5, nb, a_, q_64), rfl, ⟨(show 0 ≤ q_63.toInt ∧ q_63.toInt ≤ 2000 from ⟨by omega, by omega⟩), (show (r_61 : Int32) = zQa (5 : Int32).toInt (0 : Int32).toInt x nb a_ from by (rw [hsr_61_0, show (0 : Int32).toInt = 0 from by decide, show (5 : Int32).toInt = 5 from by decide]; first | done | rfl)), (show q_64 = zTr fb mr.toInt (zBa (5 : Int32).toInt (0 : Int32).toInt) from by (rw [hsr_61_1, show (0 : Int32).toInt = 0 from by decide, show (5 : Int32).toInt = 5 from by decide]; first | done | rfl)), (show q_63.toInt = mr.toInt + ((zBa (5 : Int32).toInt (0 : Int32).toInt).length : Nat) from by (have q : ((zBa (5 : Int32).toInt (0 : Int32).toInt).length : Int) = 1 := (by rw [show (0 : Int32).toInt = 0 from by decide, show (5 : Int32).toInt = 5 from by decide]; first | done | rfl); omega)), trivial⟩, zRet ht hP hD [0, 1] (by decide) rfl⟩, hS.F ht⟩) hS.2.2 dX1_begin_33
    · refine lv_aload_n hx hb dX1_begin_1 rfl (lv_at hl 1 rfl) ?_
      refine va_get (D := D) (ci := 2) (v := .int 5) (C := RX2) (T := TX2) (N := 3) hx hb hts hi_X1_begin_2 hown hK (zPu_P (hZ.kept hS) hu_u0) 0 rfl rfl 0 (by decide) (hts (.fieldLink RX1 28 "TheLiningsInIt$Pull" "kind" "I") (List.mem_of_getElem? (i := 1) rfl)) (fun _ h9 => h9) rfl dX1_begin_2 ?_
      refine va_put (D := D) (ci := 1) (v := .int 5) (ty := .int) (C := RX1) (T := TX1) (N := 5) hx hb hts hi_X1_begin_1 tyX1 tyX1_ok nmX1 hown hK hP hD hS 0 rfl rfl 2 (by decide) (hts (.fieldLink RX1 19 "TheLiningsInIt$Moves" "kind" "I") (List.mem_of_getElem? (i := 2) rfl)) (fun _ h9 => h9) rfl (tyX1_ok 2 (Nat.le_of_ble_eq_true rfl)) rfl rfl (Nat.le_of_ble_eq_true rfl) dX1_begin_5 (fun H locs hP hD hS => ?_)
      have h9R := zRe (ws' := [(mv, .inr (1, [.ref mb, .int mr, .int 5, .int mm, .int mq])), (mb, .inl (cI, 20, .inl fb))]) hP hD rfl
      clear hP hD
      obtain ⟨hP, hD⟩ := h9R
      refine lv_aload_n hx hb dX1_begin_8 rfl (lv_at hl 0 rfl) ?_
      refine lv_iload_n hx hb dX1_begin_9 rfl (lv_at hl 2 rfl) ?_
      refine va_put (D := D) (ci := 1) (v := .int nb) (ty := .int) (C := RX1) (T := TX1) (N := 5) hx hb hts hi_X1_begin_1 tyX1 tyX1_ok nmX1 hown hK hP hD hS 0 rfl rfl 3 (by decide) (hts (.fieldLink RX1 22 "TheLiningsInIt$Moves" "m" "I") (List.mem_of_getElem? (i := 3) rfl)) (fun _ h9 => h9) rfl (tyX1_ok 3 (Nat.le_of_ble_eq_true rfl)) rfl rfl (Nat.le_of_ble_eq_true rfl) dX1_begin_10 (fun H locs hP hD hS => ?_)
      have h9R := zRe (ws' := [(mv, .inr (1, [.ref mb, .int mr, .int 5, .int nb, .int mq])), (mb, .inl (cI, 20, .inl fb))]) hP hD rfl
      clear hP hD
      obtain ⟨hP, hD⟩ := h9R
      refine lv_aload_n hx hb dX1_begin_13 rfl (lv_at hl 0 rfl) ?_
      refine lv_aload_n hx hb dX1_begin_14 rfl (lv_at hl 1 rfl) ?_
      refine va_get (D := D) (ci := 2) (v := .int a_) (C := RX2) (T := TX2) (N := 3) hx hb hts hi_X1_begin_2 hown hK (zPu_P (hZ.kept hS) hu_u0) 0 rfl rfl 1 (by decide) (hts (.fieldLink RX1 31 "TheLiningsInIt$Pull" "a" "I") (List.mem_of_getElem? (i := 4) rfl)) (fun _ h9 => h9) rfl dX1_begin_15 ?_
      refine va_put (D := D) (ci := 1) (v := .int a_) (ty := .int) (C := RX1) (T := TX1) (N := 5) hx hb hts hi_X1_begin_1 tyX1 tyX1_ok nmX1 hown hK hP hD hS 0 rfl rfl 4 (by decide) (hts (.fieldLink RX1 25 "TheLiningsInIt$Moves" "k" "I") (List.mem_of_getElem? (i := 5) rfl)) (fun _ h9 => h9) rfl (tyX1_ok 4 (Nat.le_of_ble_eq_true rfl)) rfl rfl (Nat.le_of_ble_eq_true rfl) dX1_begin_18 (fun H locs hP hD hS => ?_)
      have h9R := zRe (ws' := [(mv, .inr (1, [.ref mb, .int mr, .int 5, .int nb, .int a_])), (mb, .inl (cI, 20, .inl fb))]) hP hD rfl
      clear hP hD
      obtain ⟨hP, hD⟩ := h9R
      refine lv_aload_n hx hb dX1_begin_21 rfl (lv_at hl 0 rfl) ?_
      refine lv_aload_n hx hb dX1_begin_22 rfl (lv_at hl 0 rfl) ?_
      refine va_get (D := D) (ci := 1) (v := .int 5) (C := RX1) (T := TX1) (N := 5) hx hb hts hi_X1_begin_1 hown hK hP 0 rfl rfl 2 (by decide) (hts (.fieldLink RX1 19 "TheLiningsInIt$Moves" "kind" "I") (List.mem_of_getElem? (i := 2) rfl)) (fun _ h9 => h9) rfl dX1_begin_23 ?_
      refine lv_iload_n hx hb dX1_begin_26 rfl (lv_at hl 3 rfl) ?_
      refine lv_iload hx hb dX1_begin_27 (lv_at hl 4 rfl) ?_
      refine lv_iconst (v := 0) hx hb dX1_begin_29 (by decide) ?_
      skip
      refine zw_V (As := [.int 5, .int 1, .int x, .int 0]) (rest := []) (wr := []) ⟨hx, hb, hml, hown, hts⟩ (c_F_M_run_5_5_1_0 l D cI cJ cZ cP cS po mv mb (mr) (nb) (a_) fb (x) hy2 hy3 H.size) (cwV 4 hts gX1_begin_X1_run rfl rfl rfl ⟨rfl, dh_X1_run⟩ ⟨Nat.le_of_ble_eq_true rfl, Nat.le_of_ble_eq_true rfl⟩) hK hN (hZ.kept hS) hP hD hS hA [0, 1] [] rfl rfl (by decide) (by decide) (by decide) (va_recv (q := (RX1, TX1, 5)) hK hP (ci := 1) (q0 := 0) rfl rfl) rfl hl.1 rfl (Nat.le_of_ble_eq_true rfl) dX1_begin_30 ⟨Nat.le_of_ble_eq_true rfl, Nat.le_of_ble_eq_true rfl⟩ (fun r_65 u_66 H locs hr_65 hP hD hS => ?_)
      obtain ⟨q_67, q_68⟩ := u_66
      try dsimp only at hr_65
      obtain ⟨hbq_67, hsr_65_0, hsr_65_1, hr_65⟩ := hr_65
      have h9R := zRe (ws' := [(mv, .inr (1, [.ref mb, .int q_67, .int 5, .int nb, .int a_])), (mb, .inl (cI, 20, .inl q_68))]) hP hD rfl
      clear hP hD
      obtain ⟨hP, hD⟩ := h9R
      exact W.iret (v := r_65) hx hb hr (fun t ht hW => ⟨⟨r_65, (q_67, 5, nb, a_, q_68), rfl, ⟨(show 0 ≤ q_67.toInt ∧ q_67.toInt ≤ 2000 from ⟨by omega, by omega⟩), (show (r_65 : Int32) = zQa (5 : Int32).toInt (1 : Int32).toInt x nb a_ from by (rw [hsr_65_0, show (1 : Int32).toInt = 1 from by decide, show (5 : Int32).toInt = 5 from by decide]; first | done | rfl)), (show q_68 = zTr fb mr.toInt (zBa (5 : Int32).toInt (1 : Int32).toInt) from by (rw [hsr_65_1, show (1 : Int32).toInt = 1 from by decide, show (5 : Int32).toInt = 5 from by decide]; first | done | rfl)), (show q_67.toInt = mr.toInt + ((zBa (5 : Int32).toInt (1 : Int32).toInt).length : Nat) from by (have q : ((zBa (5 : Int32).toInt (1 : Int32).toInt).length : Int) = 3 := (by rw [show (1 : Int32).toInt = 1 from by decide, show (5 : Int32).toInt = 5 from by decide]; first | done | rfl); omega)), trivial⟩, zRet ht hP hD [0, 1] (by decide) rfl⟩, hS.F ht⟩) hS.2.2 dX1_begin_33
    · refine lv_aload_n hx hb dX1_begin_1 rfl (lv_at hl 1 rfl) ?_
      refine va_get (D := D) (ci := 2) (v := .int 5) (C := RX2) (T := TX2) (N := 3) hx hb hts hi_X1_begin_2 hown hK (zPu_P (hZ.kept hS) hu_u0) 0 rfl rfl 0 (by decide) (hts (.fieldLink RX1 28 "TheLiningsInIt$Pull" "kind" "I") (List.mem_of_getElem? (i := 1) rfl)) (fun _ h9 => h9) rfl dX1_begin_2 ?_
      refine va_put (D := D) (ci := 1) (v := .int 5) (ty := .int) (C := RX1) (T := TX1) (N := 5) hx hb hts hi_X1_begin_1 tyX1 tyX1_ok nmX1 hown hK hP hD hS 0 rfl rfl 2 (by decide) (hts (.fieldLink RX1 19 "TheLiningsInIt$Moves" "kind" "I") (List.mem_of_getElem? (i := 2) rfl)) (fun _ h9 => h9) rfl (tyX1_ok 2 (Nat.le_of_ble_eq_true rfl)) rfl rfl (Nat.le_of_ble_eq_true rfl) dX1_begin_5 (fun H locs hP hD hS => ?_)
      have h9R := zRe (ws' := [(mv, .inr (1, [.ref mb, .int mr, .int 5, .int mm, .int mq])), (mb, .inl (cI, 20, .inl fb))]) hP hD rfl
      clear hP hD
      obtain ⟨hP, hD⟩ := h9R
      refine lv_aload_n hx hb dX1_begin_8 rfl (lv_at hl 0 rfl) ?_
      refine lv_iload_n hx hb dX1_begin_9 rfl (lv_at hl 2 rfl) ?_
      refine va_put (D := D) (ci := 1) (v := .int nb) (ty := .int) (C := RX1) (T := TX1) (N := 5) hx hb hts hi_X1_begin_1 tyX1 tyX1_ok nmX1 hown hK hP hD hS 0 rfl rfl 3 (by decide) (hts (.fieldLink RX1 22 "TheLiningsInIt$Moves" "m" "I") (List.mem_of_getElem? (i := 3) rfl)) (fun _ h9 => h9) rfl (tyX1_ok 3 (Nat.le_of_ble_eq_true rfl)) rfl rfl (Nat.le_of_ble_eq_true rfl) dX1_begin_10 (fun H locs hP hD hS => ?_)
      have h9R := zRe (ws' := [(mv, .inr (1, [.ref mb, .int mr, .int 5, .int nb, .int mq])), (mb, .inl (cI, 20, .inl fb))]) hP hD rfl
      clear hP hD
      obtain ⟨hP, hD⟩ := h9R
      refine lv_aload_n hx hb dX1_begin_13 rfl (lv_at hl 0 rfl) ?_
      refine lv_aload_n hx hb dX1_begin_14 rfl (lv_at hl 1 rfl) ?_
      refine va_get (D := D) (ci := 2) (v := .int a_) (C := RX2) (T := TX2) (N := 3) hx hb hts hi_X1_begin_2 hown hK (zPu_P (hZ.kept hS) hu_u0) 0 rfl rfl 1 (by decide) (hts (.fieldLink RX1 31 "TheLiningsInIt$Pull" "a" "I") (List.mem_of_getElem? (i := 4) rfl)) (fun _ h9 => h9) rfl dX1_begin_15 ?_
      refine va_put (D := D) (ci := 1) (v := .int a_) (ty := .int) (C := RX1) (T := TX1) (N := 5) hx hb hts hi_X1_begin_1 tyX1 tyX1_ok nmX1 hown hK hP hD hS 0 rfl rfl 4 (by decide) (hts (.fieldLink RX1 25 "TheLiningsInIt$Moves" "k" "I") (List.mem_of_getElem? (i := 5) rfl)) (fun _ h9 => h9) rfl (tyX1_ok 4 (Nat.le_of_ble_eq_true rfl)) rfl rfl (Nat.le_of_ble_eq_true rfl) dX1_begin_18 (fun H locs hP hD hS => ?_)
      have h9R := zRe (ws' := [(mv, .inr (1, [.ref mb, .int mr, .int 5, .int nb, .int a_])), (mb, .inl (cI, 20, .inl fb))]) hP hD rfl
      clear hP hD
      obtain ⟨hP, hD⟩ := h9R
      refine lv_aload_n hx hb dX1_begin_21 rfl (lv_at hl 0 rfl) ?_
      refine lv_aload_n hx hb dX1_begin_22 rfl (lv_at hl 0 rfl) ?_
      refine va_get (D := D) (ci := 1) (v := .int 5) (C := RX1) (T := TX1) (N := 5) hx hb hts hi_X1_begin_1 hown hK hP 0 rfl rfl 2 (by decide) (hts (.fieldLink RX1 19 "TheLiningsInIt$Moves" "kind" "I") (List.mem_of_getElem? (i := 2) rfl)) (fun _ h9 => h9) rfl dX1_begin_23 ?_
      refine lv_iload_n hx hb dX1_begin_26 rfl (lv_at hl 3 rfl) ?_
      refine lv_iload hx hb dX1_begin_27 (lv_at hl 4 rfl) ?_
      refine lv_iconst (v := 0) hx hb dX1_begin_29 (by decide) ?_
      skip
      refine zw_V (As := [.int 5, .int 2, .int x, .int 0]) (rest := []) (wr := []) ⟨hx, hb, hml, hown, hts⟩ (c_F_M_run_5_5_2_0 l D cI cJ cZ cP cS po mv mb (mr) (nb) (a_) fb (x) hy2 hy3 H.size) (cwV 4 hts gX1_begin_X1_run rfl rfl rfl ⟨rfl, dh_X1_run⟩ ⟨Nat.le_of_ble_eq_true rfl, Nat.le_of_ble_eq_true rfl⟩) hK hN (hZ.kept hS) hP hD hS hA [0, 1] [] rfl rfl (by decide) (by decide) (by decide) (va_recv (q := (RX1, TX1, 5)) hK hP (ci := 1) (q0 := 0) rfl rfl) rfl hl.1 rfl (Nat.le_of_ble_eq_true rfl) dX1_begin_30 ⟨Nat.le_of_ble_eq_true rfl, Nat.le_of_ble_eq_true rfl⟩ (fun r_69 u_70 H locs hr_69 hP hD hS => ?_)
      obtain ⟨q_71, q_72⟩ := u_70
      try dsimp only at hr_69
      obtain ⟨hbq_71, hsr_69_0, hsr_69_1, hr_69⟩ := hr_69
      have h9R := zRe (ws' := [(mv, .inr (1, [.ref mb, .int q_71, .int 5, .int nb, .int a_])), (mb, .inl (cI, 20, .inl q_72))]) hP hD rfl
      clear hP hD
      obtain ⟨hP, hD⟩ := h9R
      exact W.iret (v := r_69) hx hb hr (fun t ht hW => ⟨⟨r_69, (q_71, 5, nb, a_, q_72), rfl, ⟨(show 0 ≤ q_71.toInt ∧ q_71.toInt ≤ 2000 from ⟨by omega, by omega⟩), (show (r_69 : Int32) = zQa (5 : Int32).toInt (2 : Int32).toInt x nb a_ from by (rw [hsr_69_0, show (2 : Int32).toInt = 2 from by decide, show (5 : Int32).toInt = 5 from by decide]; first | done | rfl)), (show q_72 = zTr fb mr.toInt (zBa (5 : Int32).toInt (2 : Int32).toInt) from by (rw [hsr_69_1, show (2 : Int32).toInt = 2 from by decide, show (5 : Int32).toInt = 5 from by decide]; first | done | rfl)), (show q_71.toInt = mr.toInt + ((zBa (5 : Int32).toInt (2 : Int32).toInt).length : Nat) from by (have q : ((zBa (5 : Int32).toInt (2 : Int32).toInt).length : Int) = 6 := (by rw [show (2 : Int32).toInt = 2 from by decide, show (5 : Int32).toInt = 5 from by decide]; first | done | rfl); omega)), trivial⟩, zRet ht hP hD [0, 1] (by decide) rfl⟩, hS.F ht⟩) hS.2.2 dX1_begin_33
  · refine lv_aload_n hx hb dX1_begin_0 rfl (lv_at hl 0 rfl) ?_
    have hsp : mo = 0 ∨ mo = 1 ∨ mo = 2 := by
      rcases (show mo.toInt = 0 ∨ mo.toInt = 1 ∨ mo.toInt = 2 by omega) with h9 | h9 | h9
      · refine Or.inl ?_; exact zf_val h9 (by decide)
      · refine Or.inr (Or.inl ?_); exact zf_val h9 (by decide)
      · refine Or.inr (Or.inr (?_)); exact zf_val h9 (by decide)
    rcases hsp with rfl | rfl | rfl
    · refine lv_aload_n hx hb dX1_begin_1 rfl (lv_at hl 1 rfl) ?_
      refine va_get (D := D) (ci := 2) (v := .int 6) (C := RX2) (T := TX2) (N := 3) hx hb hts hi_X1_begin_2 hown hK (zPu_P (hZ.kept hS) hu_u0) 0 rfl rfl 0 (by decide) (hts (.fieldLink RX1 28 "TheLiningsInIt$Pull" "kind" "I") (List.mem_of_getElem? (i := 1) rfl)) (fun _ h9 => h9) rfl dX1_begin_2 ?_
      refine va_put (D := D) (ci := 1) (v := .int 6) (ty := .int) (C := RX1) (T := TX1) (N := 5) hx hb hts hi_X1_begin_1 tyX1 tyX1_ok nmX1 hown hK hP hD hS 0 rfl rfl 2 (by decide) (hts (.fieldLink RX1 19 "TheLiningsInIt$Moves" "kind" "I") (List.mem_of_getElem? (i := 2) rfl)) (fun _ h9 => h9) rfl (tyX1_ok 2 (Nat.le_of_ble_eq_true rfl)) rfl rfl (Nat.le_of_ble_eq_true rfl) dX1_begin_5 (fun H locs hP hD hS => ?_)
      have h9R := zRe (ws' := [(mv, .inr (1, [.ref mb, .int mr, .int 6, .int mm, .int mq])), (mb, .inl (cI, 20, .inl fb))]) hP hD rfl
      clear hP hD
      obtain ⟨hP, hD⟩ := h9R
      refine lv_aload_n hx hb dX1_begin_8 rfl (lv_at hl 0 rfl) ?_
      refine lv_iload_n hx hb dX1_begin_9 rfl (lv_at hl 2 rfl) ?_
      refine va_put (D := D) (ci := 1) (v := .int nb) (ty := .int) (C := RX1) (T := TX1) (N := 5) hx hb hts hi_X1_begin_1 tyX1 tyX1_ok nmX1 hown hK hP hD hS 0 rfl rfl 3 (by decide) (hts (.fieldLink RX1 22 "TheLiningsInIt$Moves" "m" "I") (List.mem_of_getElem? (i := 3) rfl)) (fun _ h9 => h9) rfl (tyX1_ok 3 (Nat.le_of_ble_eq_true rfl)) rfl rfl (Nat.le_of_ble_eq_true rfl) dX1_begin_10 (fun H locs hP hD hS => ?_)
      have h9R := zRe (ws' := [(mv, .inr (1, [.ref mb, .int mr, .int 6, .int nb, .int mq])), (mb, .inl (cI, 20, .inl fb))]) hP hD rfl
      clear hP hD
      obtain ⟨hP, hD⟩ := h9R
      refine lv_aload_n hx hb dX1_begin_13 rfl (lv_at hl 0 rfl) ?_
      refine lv_aload_n hx hb dX1_begin_14 rfl (lv_at hl 1 rfl) ?_
      refine va_get (D := D) (ci := 2) (v := .int a_) (C := RX2) (T := TX2) (N := 3) hx hb hts hi_X1_begin_2 hown hK (zPu_P (hZ.kept hS) hu_u0) 0 rfl rfl 1 (by decide) (hts (.fieldLink RX1 31 "TheLiningsInIt$Pull" "a" "I") (List.mem_of_getElem? (i := 4) rfl)) (fun _ h9 => h9) rfl dX1_begin_15 ?_
      refine va_put (D := D) (ci := 1) (v := .int a_) (ty := .int) (C := RX1) (T := TX1) (N := 5) hx hb hts hi_X1_begin_1 tyX1 tyX1_ok nmX1 hown hK hP hD hS 0 rfl rfl 4 (by decide) (hts (.fieldLink RX1 25 "TheLiningsInIt$Moves" "k" "I") (List.mem_of_getElem? (i := 5) rfl)) (fun _ h9 => h9) rfl (tyX1_ok 4 (Nat.le_of_ble_eq_true rfl)) rfl rfl (Nat.le_of_ble_eq_true rfl) dX1_begin_18 (fun H locs hP hD hS => ?_)
      have h9R := zRe (ws' := [(mv, .inr (1, [.ref mb, .int mr, .int 6, .int nb, .int a_])), (mb, .inl (cI, 20, .inl fb))]) hP hD rfl
      clear hP hD
      obtain ⟨hP, hD⟩ := h9R
      refine lv_aload_n hx hb dX1_begin_21 rfl (lv_at hl 0 rfl) ?_
      refine lv_aload_n hx hb dX1_begin_22 rfl (lv_at hl 0 rfl) ?_
      refine va_get (D := D) (ci := 1) (v := .int 6) (C := RX1) (T := TX1) (N := 5) hx hb hts hi_X1_begin_1 hown hK hP 0 rfl rfl 2 (by decide) (hts (.fieldLink RX1 19 "TheLiningsInIt$Moves" "kind" "I") (List.mem_of_getElem? (i := 2) rfl)) (fun _ h9 => h9) rfl dX1_begin_23 ?_
      refine lv_iload_n hx hb dX1_begin_26 rfl (lv_at hl 3 rfl) ?_
      refine lv_iload hx hb dX1_begin_27 (lv_at hl 4 rfl) ?_
      refine lv_iconst (v := 0) hx hb dX1_begin_29 (by decide) ?_
      skip
      refine zw_V (As := [.int 6, .int 0, .int x, .int 0]) (rest := []) (wr := []) ⟨hx, hb, hml, hown, hts⟩ (c_F_M_run_6_6_0_0 l D cI cJ cZ cP cS po mv mb (mr) (nb) (a_) fb (x) hy2 hy3 H.size) (cwV 4 hts gX1_begin_X1_run rfl rfl rfl ⟨rfl, dh_X1_run⟩ ⟨Nat.le_of_ble_eq_true rfl, Nat.le_of_ble_eq_true rfl⟩) hK hN (hZ.kept hS) hP hD hS hA [0, 1] [] rfl rfl (by decide) (by decide) (by decide) (va_recv (q := (RX1, TX1, 5)) hK hP (ci := 1) (q0 := 0) rfl rfl) rfl hl.1 rfl (Nat.le_of_ble_eq_true rfl) dX1_begin_30 ⟨Nat.le_of_ble_eq_true rfl, Nat.le_of_ble_eq_true rfl⟩ (fun r_73 u_74 H locs hr_73 hP hD hS => ?_)
      obtain ⟨q_75, q_76⟩ := u_74
      try dsimp only at hr_73
      obtain ⟨hbq_75, hsr_73_0, hsr_73_1, hr_73⟩ := hr_73
      have h9R := zRe (ws' := [(mv, .inr (1, [.ref mb, .int q_75, .int 6, .int nb, .int a_])), (mb, .inl (cI, 20, .inl q_76))]) hP hD rfl
      clear hP hD
      obtain ⟨hP, hD⟩ := h9R
      exact W.iret (v := r_73) hx hb hr (fun t ht hW => ⟨⟨r_73, (q_75, 6, nb, a_, q_76), rfl, ⟨(show 0 ≤ q_75.toInt ∧ q_75.toInt ≤ 2000 from ⟨by omega, by omega⟩), (show (r_73 : Int32) = zQa (6 : Int32).toInt (0 : Int32).toInt x nb a_ from by (rw [hsr_73_0, show (0 : Int32).toInt = 0 from by decide, show (6 : Int32).toInt = 6 from by decide]; first | done | rfl)), (show q_76 = zTr fb mr.toInt (zBa (6 : Int32).toInt (0 : Int32).toInt) from by (rw [hsr_73_1, show (0 : Int32).toInt = 0 from by decide, show (6 : Int32).toInt = 6 from by decide]; first | done | rfl)), (show q_75.toInt = mr.toInt + ((zBa (6 : Int32).toInt (0 : Int32).toInt).length : Nat) from by (have q : ((zBa (6 : Int32).toInt (0 : Int32).toInt).length : Int) = 3 := (by rw [show (0 : Int32).toInt = 0 from by decide, show (6 : Int32).toInt = 6 from by decide]; first | done | rfl); omega)), trivial⟩, zRet ht hP hD [0, 1] (by decide) rfl⟩, hS.F ht⟩) hS.2.2 dX1_begin_33
    · refine lv_aload_n hx hb dX1_begin_1 rfl (lv_at hl 1 rfl) ?_
      refine va_get (D := D) (ci := 2) (v := .int 6) (C := RX2) (T := TX2) (N := 3) hx hb hts hi_X1_begin_2 hown hK (zPu_P (hZ.kept hS) hu_u0) 0 rfl rfl 0 (by decide) (hts (.fieldLink RX1 28 "TheLiningsInIt$Pull" "kind" "I") (List.mem_of_getElem? (i := 1) rfl)) (fun _ h9 => h9) rfl dX1_begin_2 ?_
      refine va_put (D := D) (ci := 1) (v := .int 6) (ty := .int) (C := RX1) (T := TX1) (N := 5) hx hb hts hi_X1_begin_1 tyX1 tyX1_ok nmX1 hown hK hP hD hS 0 rfl rfl 2 (by decide) (hts (.fieldLink RX1 19 "TheLiningsInIt$Moves" "kind" "I") (List.mem_of_getElem? (i := 2) rfl)) (fun _ h9 => h9) rfl (tyX1_ok 2 (Nat.le_of_ble_eq_true rfl)) rfl rfl (Nat.le_of_ble_eq_true rfl) dX1_begin_5 (fun H locs hP hD hS => ?_)
      have h9R := zRe (ws' := [(mv, .inr (1, [.ref mb, .int mr, .int 6, .int mm, .int mq])), (mb, .inl (cI, 20, .inl fb))]) hP hD rfl
      clear hP hD
      obtain ⟨hP, hD⟩ := h9R
      refine lv_aload_n hx hb dX1_begin_8 rfl (lv_at hl 0 rfl) ?_
      refine lv_iload_n hx hb dX1_begin_9 rfl (lv_at hl 2 rfl) ?_
      refine va_put (D := D) (ci := 1) (v := .int nb) (ty := .int) (C := RX1) (T := TX1) (N := 5) hx hb hts hi_X1_begin_1 tyX1 tyX1_ok nmX1 hown hK hP hD hS 0 rfl rfl 3 (by decide) (hts (.fieldLink RX1 22 "TheLiningsInIt$Moves" "m" "I") (List.mem_of_getElem? (i := 3) rfl)) (fun _ h9 => h9) rfl (tyX1_ok 3 (Nat.le_of_ble_eq_true rfl)) rfl rfl (Nat.le_of_ble_eq_true rfl) dX1_begin_10 (fun H locs hP hD hS => ?_)
      have h9R := zRe (ws' := [(mv, .inr (1, [.ref mb, .int mr, .int 6, .int nb, .int mq])), (mb, .inl (cI, 20, .inl fb))]) hP hD rfl
      clear hP hD
      obtain ⟨hP, hD⟩ := h9R
      refine lv_aload_n hx hb dX1_begin_13 rfl (lv_at hl 0 rfl) ?_
      refine lv_aload_n hx hb dX1_begin_14 rfl (lv_at hl 1 rfl) ?_
      refine va_get (D := D) (ci := 2) (v := .int a_) (C := RX2) (T := TX2) (N := 3) hx hb hts hi_X1_begin_2 hown hK (zPu_P (hZ.kept hS) hu_u0) 0 rfl rfl 1 (by decide) (hts (.fieldLink RX1 31 "TheLiningsInIt$Pull" "a" "I") (List.mem_of_getElem? (i := 4) rfl)) (fun _ h9 => h9) rfl dX1_begin_15 ?_
      refine va_put (D := D) (ci := 1) (v := .int a_) (ty := .int) (C := RX1) (T := TX1) (N := 5) hx hb hts hi_X1_begin_1 tyX1 tyX1_ok nmX1 hown hK hP hD hS 0 rfl rfl 4 (by decide) (hts (.fieldLink RX1 25 "TheLiningsInIt$Moves" "k" "I") (List.mem_of_getElem? (i := 5) rfl)) (fun _ h9 => h9) rfl (tyX1_ok 4 (Nat.le_of_ble_eq_true rfl)) rfl rfl (Nat.le_of_ble_eq_true rfl) dX1_begin_18 (fun H locs hP hD hS => ?_)
      have h9R := zRe (ws' := [(mv, .inr (1, [.ref mb, .int mr, .int 6, .int nb, .int a_])), (mb, .inl (cI, 20, .inl fb))]) hP hD rfl
      clear hP hD
      obtain ⟨hP, hD⟩ := h9R
      refine lv_aload_n hx hb dX1_begin_21 rfl (lv_at hl 0 rfl) ?_
      refine lv_aload_n hx hb dX1_begin_22 rfl (lv_at hl 0 rfl) ?_
      refine va_get (D := D) (ci := 1) (v := .int 6) (C := RX1) (T := TX1) (N := 5) hx hb hts hi_X1_begin_1 hown hK hP 0 rfl rfl 2 (by decide) (hts (.fieldLink RX1 19 "TheLiningsInIt$Moves" "kind" "I") (List.mem_of_getElem? (i := 2) rfl)) (fun _ h9 => h9) rfl dX1_begin_23 ?_
      refine lv_iload_n hx hb dX1_begin_26 rfl (lv_at hl 3 rfl) ?_
      refine lv_iload hx hb dX1_begin_27 (lv_at hl 4 rfl) ?_
      refine lv_iconst (v := 0) hx hb dX1_begin_29 (by decide) ?_
      skip
      refine zw_V (As := [.int 6, .int 1, .int x, .int 0]) (rest := []) (wr := []) ⟨hx, hb, hml, hown, hts⟩ (c_F_M_run_6_6_1_0 l D cI cJ cZ cP cS po mv mb (mr) (nb) (a_) fb (x) hy2 hy3 H.size) (cwV 4 hts gX1_begin_X1_run rfl rfl rfl ⟨rfl, dh_X1_run⟩ ⟨Nat.le_of_ble_eq_true rfl, Nat.le_of_ble_eq_true rfl⟩) hK hN (hZ.kept hS) hP hD hS hA [0, 1] [] rfl rfl (by decide) (by decide) (by decide) (va_recv (q := (RX1, TX1, 5)) hK hP (ci := 1) (q0 := 0) rfl rfl) rfl hl.1 rfl (Nat.le_of_ble_eq_true rfl) dX1_begin_30 ⟨Nat.le_of_ble_eq_true rfl, Nat.le_of_ble_eq_true rfl⟩ (fun r_77 u_78 H locs hr_77 hP hD hS => ?_)
      obtain ⟨q_79, q_80⟩ := u_78
      try dsimp only at hr_77
      obtain ⟨hbq_79, hsr_77_0, hsr_77_1, hr_77⟩ := hr_77
      have h9R := zRe (ws' := [(mv, .inr (1, [.ref mb, .int q_79, .int 6, .int nb, .int a_])), (mb, .inl (cI, 20, .inl q_80))]) hP hD rfl
      clear hP hD
      obtain ⟨hP, hD⟩ := h9R
      exact W.iret (v := r_77) hx hb hr (fun t ht hW => ⟨⟨r_77, (q_79, 6, nb, a_, q_80), rfl, ⟨(show 0 ≤ q_79.toInt ∧ q_79.toInt ≤ 2000 from ⟨by omega, by omega⟩), (show (r_77 : Int32) = zQa (6 : Int32).toInt (1 : Int32).toInt x nb a_ from by (rw [hsr_77_0, show (1 : Int32).toInt = 1 from by decide, show (6 : Int32).toInt = 6 from by decide]; first | done | rfl)), (show q_80 = zTr fb mr.toInt (zBa (6 : Int32).toInt (1 : Int32).toInt) from by (rw [hsr_77_1, show (1 : Int32).toInt = 1 from by decide, show (6 : Int32).toInt = 6 from by decide]; first | done | rfl)), (show q_79.toInt = mr.toInt + ((zBa (6 : Int32).toInt (1 : Int32).toInt).length : Nat) from by (have q : ((zBa (6 : Int32).toInt (1 : Int32).toInt).length : Int) = 5 := (by rw [show (1 : Int32).toInt = 1 from by decide, show (6 : Int32).toInt = 6 from by decide]; first | done | rfl); omega)), trivial⟩, zRet ht hP hD [0, 1] (by decide) rfl⟩, hS.F ht⟩) hS.2.2 dX1_begin_33
    · refine lv_aload_n hx hb dX1_begin_1 rfl (lv_at hl 1 rfl) ?_
      refine va_get (D := D) (ci := 2) (v := .int 6) (C := RX2) (T := TX2) (N := 3) hx hb hts hi_X1_begin_2 hown hK (zPu_P (hZ.kept hS) hu_u0) 0 rfl rfl 0 (by decide) (hts (.fieldLink RX1 28 "TheLiningsInIt$Pull" "kind" "I") (List.mem_of_getElem? (i := 1) rfl)) (fun _ h9 => h9) rfl dX1_begin_2 ?_
      refine va_put (D := D) (ci := 1) (v := .int 6) (ty := .int) (C := RX1) (T := TX1) (N := 5) hx hb hts hi_X1_begin_1 tyX1 tyX1_ok nmX1 hown hK hP hD hS 0 rfl rfl 2 (by decide) (hts (.fieldLink RX1 19 "TheLiningsInIt$Moves" "kind" "I") (List.mem_of_getElem? (i := 2) rfl)) (fun _ h9 => h9) rfl (tyX1_ok 2 (Nat.le_of_ble_eq_true rfl)) rfl rfl (Nat.le_of_ble_eq_true rfl) dX1_begin_5 (fun H locs hP hD hS => ?_)
      have h9R := zRe (ws' := [(mv, .inr (1, [.ref mb, .int mr, .int 6, .int mm, .int mq])), (mb, .inl (cI, 20, .inl fb))]) hP hD rfl
      clear hP hD
      obtain ⟨hP, hD⟩ := h9R
      refine lv_aload_n hx hb dX1_begin_8 rfl (lv_at hl 0 rfl) ?_
      refine lv_iload_n hx hb dX1_begin_9 rfl (lv_at hl 2 rfl) ?_
      refine va_put (D := D) (ci := 1) (v := .int nb) (ty := .int) (C := RX1) (T := TX1) (N := 5) hx hb hts hi_X1_begin_1 tyX1 tyX1_ok nmX1 hown hK hP hD hS 0 rfl rfl 3 (by decide) (hts (.fieldLink RX1 22 "TheLiningsInIt$Moves" "m" "I") (List.mem_of_getElem? (i := 3) rfl)) (fun _ h9 => h9) rfl (tyX1_ok 3 (Nat.le_of_ble_eq_true rfl)) rfl rfl (Nat.le_of_ble_eq_true rfl) dX1_begin_10 (fun H locs hP hD hS => ?_)
      have h9R := zRe (ws' := [(mv, .inr (1, [.ref mb, .int mr, .int 6, .int nb, .int mq])), (mb, .inl (cI, 20, .inl fb))]) hP hD rfl
      clear hP hD
      obtain ⟨hP, hD⟩ := h9R
      refine lv_aload_n hx hb dX1_begin_13 rfl (lv_at hl 0 rfl) ?_
      refine lv_aload_n hx hb dX1_begin_14 rfl (lv_at hl 1 rfl) ?_
      refine va_get (D := D) (ci := 2) (v := .int a_) (C := RX2) (T := TX2) (N := 3) hx hb hts hi_X1_begin_2 hown hK (zPu_P (hZ.kept hS) hu_u0) 0 rfl rfl 1 (by decide) (hts (.fieldLink RX1 31 "TheLiningsInIt$Pull" "a" "I") (List.mem_of_getElem? (i := 4) rfl)) (fun _ h9 => h9) rfl dX1_begin_15 ?_
      refine va_put (D := D) (ci := 1) (v := .int a_) (ty := .int) (C := RX1) (T := TX1) (N := 5) hx hb hts hi_X1_begin_1 tyX1 tyX1_ok nmX1 hown hK hP hD hS 0 rfl rfl 4 (by decide) (hts (.fieldLink RX1 25 "TheLiningsInIt$Moves" "k" "I") (List.mem_of_getElem? (i := 5) rfl)) (fun _ h9 => h9) rfl (tyX1_ok 4 (Nat.le_of_ble_eq_true rfl)) rfl rfl (Nat.le_of_ble_eq_true rfl) dX1_begin_18 (fun H locs hP hD hS => ?_)
      have h9R := zRe (ws' := [(mv, .inr (1, [.ref mb, .int mr, .int 6, .int nb, .int a_])), (mb, .inl (cI, 20, .inl fb))]) hP hD rfl
      clear hP hD
      obtain ⟨hP, hD⟩ := h9R
      refine lv_aload_n hx hb dX1_begin_21 rfl (lv_at hl 0 rfl) ?_
      refine lv_aload_n hx hb dX1_begin_22 rfl (lv_at hl 0 rfl) ?_
      refine va_get (D := D) (ci := 1) (v := .int 6) (C := RX1) (T := TX1) (N := 5) hx hb hts hi_X1_begin_1 hown hK hP 0 rfl rfl 2 (by decide) (hts (.fieldLink RX1 19 "TheLiningsInIt$Moves" "kind" "I") (List.mem_of_getElem? (i := 2) rfl)) (fun _ h9 => h9) rfl dX1_begin_23 ?_
      refine lv_iload_n hx hb dX1_begin_26 rfl (lv_at hl 3 rfl) ?_
      refine lv_iload hx hb dX1_begin_27 (lv_at hl 4 rfl) ?_
      refine lv_iconst (v := 0) hx hb dX1_begin_29 (by decide) ?_
      skip
      refine zw_V (As := [.int 6, .int 2, .int x, .int 0]) (rest := []) (wr := []) ⟨hx, hb, hml, hown, hts⟩ (c_F_M_run_6_6_2_0 l D cI cJ cZ cP cS po mv mb (mr) (nb) (a_) fb (x) hy2 hy3 H.size) (cwV 4 hts gX1_begin_X1_run rfl rfl rfl ⟨rfl, dh_X1_run⟩ ⟨Nat.le_of_ble_eq_true rfl, Nat.le_of_ble_eq_true rfl⟩) hK hN (hZ.kept hS) hP hD hS hA [0, 1] [] rfl rfl (by decide) (by decide) (by decide) (va_recv (q := (RX1, TX1, 5)) hK hP (ci := 1) (q0 := 0) rfl rfl) rfl hl.1 rfl (Nat.le_of_ble_eq_true rfl) dX1_begin_30 ⟨Nat.le_of_ble_eq_true rfl, Nat.le_of_ble_eq_true rfl⟩ (fun r_81 u_82 H locs hr_81 hP hD hS => ?_)
      obtain ⟨q_83, q_84⟩ := u_82
      try dsimp only at hr_81
      obtain ⟨hbq_83, hsr_81_0, hsr_81_1, hr_81⟩ := hr_81
      have h9R := zRe (ws' := [(mv, .inr (1, [.ref mb, .int q_83, .int 6, .int nb, .int a_])), (mb, .inl (cI, 20, .inl q_84))]) hP hD rfl
      clear hP hD
      obtain ⟨hP, hD⟩ := h9R
      exact W.iret (v := r_81) hx hb hr (fun t ht hW => ⟨⟨r_81, (q_83, 6, nb, a_, q_84), rfl, ⟨(show 0 ≤ q_83.toInt ∧ q_83.toInt ≤ 2000 from ⟨by omega, by omega⟩), (show (r_81 : Int32) = zQa (6 : Int32).toInt (2 : Int32).toInt x nb a_ from by (rw [hsr_81_0, show (2 : Int32).toInt = 2 from by decide, show (6 : Int32).toInt = 6 from by decide]; first | done | rfl)), (show q_84 = zTr fb mr.toInt (zBa (6 : Int32).toInt (2 : Int32).toInt) from by (rw [hsr_81_1, show (2 : Int32).toInt = 2 from by decide, show (6 : Int32).toInt = 6 from by decide]; first | done | rfl)), (show q_83.toInt = mr.toInt + ((zBa (6 : Int32).toInt (2 : Int32).toInt).length : Nat) from by (have q : ((zBa (6 : Int32).toInt (2 : Int32).toInt).length : Int) = 10 := (by rw [show (2 : Int32).toInt = 2 from by decide, show (6 : Int32).toInt = 6 from by decide]; first | done | rfl); omega)), trivial⟩, zRet ht hP hD [0, 1] (by decide) rfl⟩, hS.F ht⟩) hS.2.2 dX1_begin_33
set_option maxHeartbeats 4000000 in
set_option maxRecDepth 100000 in
theorem c_F_X_act (l : Launch) (D : va_G) (cI cJ cZ cP cS : ClassId) (po : zPool) (x0 xs j0 k0 w0 rd mv xr : Nat) (im lf : Int32) (fr : Nat → Int32) (j0 jp jc z0 zl zs : Nat) (cn de tr se hu sd : Int32) (fp : Nat → Option Nat) (kf af tf : Nat → Int32) (mb : Nat) (mr mk mm mq : Int32) (fb : Nat → Int32) (p_ mo x : Int32) (hy0 : 0 ≤ im.toInt) (hy1 : im.toInt ≤ 1) (hy2 : (-1) ≤ lf.toInt) (hy3 : lf.toInt ≤ 160) (hy4 : 0 ≤ cn.toInt) (hy5 : cn.toInt ≤ 8) (hy6 : 0 ≤ de.toInt) (hy7 : de.toInt ≤ 24) (hy8 : 0 ≤ hu.toInt) (hy9 : hu.toInt ≤ 9) (hjp : zJP po fp cn kf af tf) (hy11 : 0 ≤ mr.toInt) (hy12 : mr.toInt ≤ 2000) (hpz : Nat) : Met l yX7_act wsX7_act ({ frames := 10, cells := 0, slots := 0, locals := 252 }) (va_Pc [.ref x0, .int p_, .int mo, .int x] (zW D (zKT cI cJ cZ cP cS) po [(x0, .inr (7, [.ref xs, .ref j0, .ref k0, .ref w0, .ref rd, .ref mv, .ref xr, .int im, .int lf])), (j0, .inr (0, [.ref z0, .ref jp, .ref jc, .int cn, .int de, .int tr, .int se, .int hu, .int sd])), (jp, .inl (cP, 8, .inr (.inr (.inr (.inr fp))))), (mv, .inr (1, [.ref mb, .int mr, .int mk, .int mm, .int mq])), (mb, .inl (cI, 20, .inl fb))] hpz)) (va_Qi (fun (r : Int32) (u : (Int32) × (Int32) × (Int32) × (Int32) × (Nat → Int32)) => (0 ≤ u.1.toInt ∧ u.1.toInt ≤ 2000) ∧ (((p_.toInt < 0 ∨ cn.toInt ≤ p_.toInt ∨ mo.toInt < 0 ∨ 2 < mo.toInt) ∧ r = 0 ∧ u.1.toInt = 0) ∨ ((0 ≤ p_.toInt ∧ p_.toInt < cn.toInt) ∧ (0 ≤ mo.toInt ∧ mo.toInt ≤ 2) ∧ r = zQa (kf p_.toNatClampNeg).toInt mo.toInt x p_ (af p_.toNatClampNeg) ∧ u.1.toInt = ((zBa (kf p_.toNatClampNeg).toInt mo.toInt).length : Nat) ∧ u.2.2.2.2 = zTr fb 0 (zBa (kf p_.toNatClampNeg).toInt mo.toInt))) ∧ (True)) (zB D [(x0, .inr (7, [.ref xs, .ref j0, .ref k0, .ref w0, .ref rd, .ref mv, .ref xr, .int im, .int lf])), (j0, .inr (0, [.ref z0, .ref jp, .ref jc, .int cn, .int de, .int tr, .int se, .int hu, .int sd])), (jp, .inl (cP, 8, .inr (.inr (.inr (.inr fp))))), (mv, .inr (1, [.ref mb, .int mr, .int mk, .int mm, .int mq])), (mb, .inl (cI, 20, .inl fb))] hpz (fun (u : (Int32) × (Int32) × (Int32) × (Int32) × (Nat → Int32)) => [(x0, .inr (7, [.ref xs, .ref j0, .ref k0, .ref w0, .ref rd, .ref mv, .ref xr, .int im, .int lf])), (j0, .inr (0, [.ref z0, .ref jp, .ref jc, .int cn, .int de, .int tr, .int se, .int hu, .int sd])), (jp, .inl (cP, 8, .inr (.inr (.inr (.inr fp))))), (mv, .inr (1, [.ref mb, .int u.1, .int u.2.1, .int u.2.2.1, .int u.2.2.2.1])), (mb, .inl (cI, 20, .inl u.2.2.2.2))])) (va_A [(x0, .inr (7, [.ref xs, .ref j0, .ref k0, .ref w0, .ref rd, .ref mv, .ref xr, .int im, .int lf])), (j0, .inr (0, [.ref z0, .ref jp, .ref jc, .int cn, .int de, .int tr, .int se, .int hu, .int sd])), (jp, .inl (cP, 8, .inr (.inr (.inr (.inr fp))))), (mv, .inr (1, [.ref mb, .int mr, .int mk, .int mm, .int mq])), (mb, .inl (cI, 20, .inl fb))] hpz)) 0 0 (va_A [(x0, .inr (7, [.ref xs, .ref j0, .ref k0, .ref w0, .ref rd, .ref mv, .ref xr, .int im, .int lf])), (j0, .inr (0, [.ref z0, .ref jp, .ref jc, .int cn, .int de, .int tr, .int se, .int hu, .int sd])), (jp, .inl (cP, 8, .inr (.inr (.inr (.inr fp))))), (mv, .inr (1, [.ref mb, .int mr, .int mk, .int mm, .int mq])), (mb, .inl (cI, 20, .inl fb))] hpz) := by
  refine Met.ofW (cc := cX7_act) (maxL := 5) (ret := (some .int)) (by decide) rfl ?_
  intro p e s m args below meth c s₁ B hml hv
  obtain ⟨rfl, hsz, hP, hK, hD0, hN, hZ⟩ := hv
  have hx := B.exec
  have hb := B.bytes
  have hr := B.returns
  have hts := atoms_spec (ws := wsX7_act) B.pre
  have hown : s.vm.findClass RX7 = some m.cls := findClass_of_methodNamed B.named
  have hlocks := B.notSynchronized
  subst hsz
  have hD := hD0.self (sz := s.heap.size)
  have hA := zA_of hD
  have hl := lv_entry ([.ref x0, .int p_, .int mo, .int x]) (n := 5) (Nat.le_of_ble_eq_true rfl)
  rw [lg_entry_eq]
  generalize (lg_sl ([.ref x0, .int p_, .int mo, .int x]) ++ List.replicate (5 - (lg_sl ([.ref x0, .int p_, .int mo, .int x])).length) Slot.unset).toArray = ls at hl ⊢
  replace hl : lv_has ls 5 [(0, .ref x0), (1, .int p_), (2, .int mo), (3, .int x)] := hl
  refine zw_begin hP hD (fun H locs hP1 hS => ?_)
  clear hP
  have hP := hP1
  clear hP1
  refine lv_aload_n hx hb dX7_act_0 rfl (lv_at hl 0 rfl) ?_
  refine va_get (D := D) (ci := 7) (v := .ref mv) (C := RX7) (T := TX7) (N := 9) hx hb hts hi_X7_act_7 hown hK hP 0 rfl rfl 5 (by decide) (hts (.fieldLink RX7 42 "TheLiningsInIt" "moves" "LTheLiningsInIt$Moves;") (List.mem_of_getElem? (i := 1) rfl)) (fun _ h9 => h9) rfl dX7_act_1 ?_
  refine lv_iconst (v := 0) hx hb dX7_act_4 (by decide) ?_
  refine va_put (D := D) (ci := 1) (v := .int 0) (ty := .int) (C := RX1) (T := TX1) (N := 5) hx hb hts hi_X7_act_1 tyX1 tyX1_ok nmX1 hown hK hP hD hS 3 rfl rfl 1 (by decide) (hts (.fieldLink RX7 288 "TheLiningsInIt$Moves" "ran" "I") (List.mem_of_getElem? (i := 2) rfl)) (fun _ h9 => h9) rfl (tyX1_ok 1 (Nat.le_of_ble_eq_true rfl)) rfl rfl (Nat.le_of_ble_eq_true rfl) dX7_act_5 (fun H locs hP hD hS => ?_)
  have h9R := zRe (ws' := [(x0, .inr (7, [.ref xs, .ref j0, .ref k0, .ref w0, .ref rd, .ref mv, .ref xr, .int im, .int lf])), (j0, .inr (0, [.ref z0, .ref jp, .ref jc, .int cn, .int de, .int tr, .int se, .int hu, .int sd])), (jp, .inl (cP, 8, .inr (.inr (.inr (.inr fp))))), (mv, .inr (1, [.ref mb, .int 0, .int mk, .int mm, .int mq])), (mb, .inl (cI, 20, .inl fb))]) hP hD rfl
  clear hP hD
  obtain ⟨hP, hD⟩ := h9R
  refine lv_aload_n hx hb dX7_act_8 rfl (lv_at hl 0 rfl) ?_
  refine va_get (D := D) (ci := 7) (v := .ref j0) (C := RX7) (T := TX7) (N := 9) hx hb hts hi_X7_act_7 hown hK hP 0 rfl rfl 1 (by decide) (hts (.fieldLink RX7 18 "TheLiningsInIt" "now" "LTheLiningsInIt$Jacket;") (List.mem_of_getElem? (i := 3) rfl)) (fun _ h9 => h9) rfl dX7_act_9 ?_
  refine lv_iload_n hx hb dX7_act_12 rfl (lv_at hl 1 rfl) ?_
  refine zc_Vq (As := [.int p_]) (rest := []) ⟨hx, hb, hml, hown, hts⟩ (c_F_J_pullAt l D cI cJ cZ cP cS po j0 jp jc z0 0 0 (cn) (de) (tr) (se) (hu) (sd) fp kf af tf (p_) hy4 hy5 hy6 hy7 hy8 hy9 hjp) (cwV 1 hts gX7_act_X0_pullAt rfl rfl rfl ⟨rfl, dh_X0_pullAt⟩ ⟨Nat.le_of_ble_eq_true rfl, Nat.le_of_ble_eq_true rfl⟩) hK hN (hZ.kept hS) hP (hP.sub [1, 2] rfl) (va_recv (q := (RX0, TX0, 9)) hK hP (ci := 0) (q0 := 1) rfl rfl) rfl hl.1 rfl (Nat.le_of_ble_eq_true rfl) dX7_act_13 ⟨Nat.le_of_ble_eq_true rfl, Nat.le_of_ble_eq_true rfl⟩ (fun r_1 hr_1 => ?_)
  rcases hr_1 with ⟨rfl, g_2⟩ | ⟨rfl, g_3, g_4⟩ | ⟨⟨u_6, kiu_6, au_6, tu_6, rfl, huu_6, hkku_6⟩, g_5⟩
  · refine lv_astoreN (lv' := [(4, .null), (0, .ref x0), (1, .int p_), (2, .int mo), (3, .int x)]) hx hb dX7_act_16 hl (by decide) rfl (fun ls hl => ?_)
    refine lv_aloadN hx hb dX7_act_18 (lv_at hl 0 rfl) ?_
    refine lv_ifnullN (tgt := 32) hx hb dX7_act_20 (by decide) ?_
    refine lv_iconst (v := 0) hx hb dX7_act_32 (by decide) ?_
    exact W.iret (v := 0) hx hb hr (fun t ht hW => ⟨⟨0, (0, mk, mm, mq, fb), rfl, ⟨(show 0 ≤ (0 : Int32).toInt ∧ (0 : Int32).toInt ≤ 2000 from by decide), (show ((p_.toInt < 0 ∨ cn.toInt ≤ p_.toInt ∨ mo.toInt < 0 ∨ 2 < mo.toInt) ∧ (0 : Int32) = 0 ∧ (0 : Int32).toInt = 0) ∨ ((0 ≤ p_.toInt ∧ p_.toInt < cn.toInt) ∧ (0 ≤ mo.toInt ∧ mo.toInt ≤ 2) ∧ (0 : Int32) = zQa (kf p_.toNatClampNeg).toInt mo.toInt x p_ (af p_.toNatClampNeg) ∧ (0 : Int32).toInt = ((zBa (kf p_.toNatClampNeg).toInt mo.toInt).length : Nat) ∧ fb = zTr fb 0 (zBa (kf p_.toNatClampNeg).toInt mo.toInt)) from by (exact Or.inl ⟨by omega, rfl, by decide⟩)), trivial⟩, zRet ht hP hD [0, 1, 2, 3, 4] (by decide) rfl⟩, hS.F ht⟩) hS.2.2 dX7_act_33
  · refine lv_astoreN (lv' := [(4, .null), (0, .ref x0), (1, .int p_), (2, .int mo), (3, .int x)]) hx hb dX7_act_16 hl (by decide) rfl (fun ls hl => ?_)
    refine lv_aloadN hx hb dX7_act_18 (lv_at hl 0 rfl) ?_
    refine lv_ifnullN (tgt := 32) hx hb dX7_act_20 (by decide) ?_
    refine lv_iconst (v := 0) hx hb dX7_act_32 (by decide) ?_
    exact W.iret (v := 0) hx hb hr (fun t ht hW => ⟨⟨0, (0, mk, mm, mq, fb), rfl, ⟨(show 0 ≤ (0 : Int32).toInt ∧ (0 : Int32).toInt ≤ 2000 from by decide), (show ((p_.toInt < 0 ∨ cn.toInt ≤ p_.toInt ∨ mo.toInt < 0 ∨ 2 < mo.toInt) ∧ (0 : Int32) = 0 ∧ (0 : Int32).toInt = 0) ∨ ((0 ≤ p_.toInt ∧ p_.toInt < cn.toInt) ∧ (0 ≤ mo.toInt ∧ mo.toInt ≤ 2) ∧ (0 : Int32) = zQa (kf p_.toNatClampNeg).toInt mo.toInt x p_ (af p_.toNatClampNeg) ∧ (0 : Int32).toInt = ((zBa (kf p_.toNatClampNeg).toInt mo.toInt).length : Nat) ∧ fb = zTr fb 0 (zBa (kf p_.toNatClampNeg).toInt mo.toInt)) from by (exact Or.inl ⟨by omega, rfl, by decide⟩)), trivial⟩, zRet ht hP hD [0, 1, 2, 3, 4] (by decide) rfl⟩, hS.F ht⟩) hS.2.2 dX7_act_33
  · refine W.eq (g2 := F0 m 16 ls (.ref u_6 :: [])) rfl ?_
    obtain ⟨hku_6, hau_6, htu_6⟩ := zPu_pr (hZ.kept hS) huu_6
    refine lv_astore (lv' := [(4, .ref u_6), (0, .ref x0), (1, .int p_), (2, .int mo), (3, .int x)]) hx hb dX7_act_16 hl (by decide) rfl (fun ls hl => ?_)
    refine lv_aload hx hb dX7_act_18 (lv_at hl 0 rfl) ?_
    refine lv_ifnull hx hb dX7_act_20 ?_
    refine lv_iload_n hx hb dX7_act_23 rfl (lv_at hl 3 rfl) ?_
    refine lv_iconst (v := 0) hx hb dX7_act_24 (by decide) ?_
    refine lv_iconst (v := 2) hx hb dX7_act_25 (by decide) ?_
    have kc0 : (0 : Int32).toInt = 0 := by decide
    have kc2 : (2 : Int32).toInt = 2 := by decide
    refine zc_S (As := [.int mo, .int 0, .int 2]) (rest := []) ⟨hx, hb, hml, hown, hts⟩ (c_within l D cI cJ cZ cP cS po (mo) (0) (2) ) (va_cwS 3 hts gX7_act_X7_within rfl rfl rfl dh_X7_within ⟨Nat.le_of_ble_eq_true rfl, Nat.le_of_ble_eq_true rfl⟩) hK hN (hZ.kept hS) rfl hl.1 rfl (Nat.le_of_ble_eq_true rfl) dX7_act_26 ⟨Nat.le_of_ble_eq_true rfl, Nat.le_of_ble_eq_true rfl⟩ (fun r_7 hr_7 => ?_)
    rcases hr_7 with ⟨rfl, g_8⟩ | ⟨rfl, g_9, g_10⟩ | ⟨rfl, g_11, g_12⟩
    · refine lv_if_ne (tgt := 34) hx hb dX7_act_29 (by decide) (fun c_13 => ?_) (fun c_13 => ?_)
      · exact absurd c_13 (by decide)
      · refine lv_iconst (v := 0) hx hb dX7_act_32 (by decide) ?_
        exact W.iret (v := 0) hx hb hr (fun t ht hW => ⟨⟨0, (0, mk, mm, mq, fb), rfl, ⟨(show 0 ≤ (0 : Int32).toInt ∧ (0 : Int32).toInt ≤ 2000 from by decide), (show ((p_.toInt < 0 ∨ cn.toInt ≤ p_.toInt ∨ mo.toInt < 0 ∨ 2 < mo.toInt) ∧ (0 : Int32) = 0 ∧ (0 : Int32).toInt = 0) ∨ ((0 ≤ p_.toInt ∧ p_.toInt < cn.toInt) ∧ (0 ≤ mo.toInt ∧ mo.toInt ≤ 2) ∧ (0 : Int32) = zQa (kf p_.toNatClampNeg).toInt mo.toInt x p_ (af p_.toNatClampNeg) ∧ (0 : Int32).toInt = ((zBa (kf p_.toNatClampNeg).toInt mo.toInt).length : Nat) ∧ fb = zTr fb 0 (zBa (kf p_.toNatClampNeg).toInt mo.toInt)) from by (obtain ⟨-, y4, y5⟩ := hkku_6; exact Or.inl ⟨by omega, rfl, by decide⟩)), trivial⟩, zRet ht hP hD [0, 1, 2, 3, 4] (by decide) rfl⟩, hS.F ht⟩) hS.2.2 dX7_act_33
    · refine lv_if_ne (tgt := 34) hx hb dX7_act_29 (by decide) (fun c_14 => ?_) (fun c_14 => ?_)
      · exact absurd c_14 (by decide)
      · refine lv_iconst (v := 0) hx hb dX7_act_32 (by decide) ?_
        exact W.iret (v := 0) hx hb hr (fun t ht hW => ⟨⟨0, (0, mk, mm, mq, fb), rfl, ⟨(show 0 ≤ (0 : Int32).toInt ∧ (0 : Int32).toInt ≤ 2000 from by decide), (show ((p_.toInt < 0 ∨ cn.toInt ≤ p_.toInt ∨ mo.toInt < 0 ∨ 2 < mo.toInt) ∧ (0 : Int32) = 0 ∧ (0 : Int32).toInt = 0) ∨ ((0 ≤ p_.toInt ∧ p_.toInt < cn.toInt) ∧ (0 ≤ mo.toInt ∧ mo.toInt ≤ 2) ∧ (0 : Int32) = zQa (kf p_.toNatClampNeg).toInt mo.toInt x p_ (af p_.toNatClampNeg) ∧ (0 : Int32).toInt = ((zBa (kf p_.toNatClampNeg).toInt mo.toInt).length : Nat) ∧ fb = zTr fb 0 (zBa (kf p_.toNatClampNeg).toInt mo.toInt)) from by (obtain ⟨-, y4, y5⟩ := hkku_6; exact Or.inl ⟨by omega, rfl, by decide⟩)), trivial⟩, zRet ht hP hD [0, 1, 2, 3, 4] (by decide) rfl⟩, hS.F ht⟩) hS.2.2 dX7_act_33
    · refine lv_if_ne (tgt := 34) hx hb dX7_act_29 (by decide) (fun c_15 => ?_) (fun c_15 => ?_)
      · refine lv_aload_n hx hb dX7_act_34 rfl (lv_at hl 1 rfl) ?_
        refine va_get (D := D) (ci := 7) (v := .ref mv) (C := RX7) (T := TX7) (N := 9) hx hb hts hi_X7_act_7 hown hK hP 0 rfl rfl 5 (by decide) (hts (.fieldLink RX7 42 "TheLiningsInIt" "moves" "LTheLiningsInIt$Moves;") (List.mem_of_getElem? (i := 1) rfl)) (fun _ h9 => h9) rfl dX7_act_35 ?_
        refine lv_aload hx hb dX7_act_38 (lv_at hl 0 rfl) ?_
        refine lv_iload_n hx hb dX7_act_40 rfl (lv_at hl 2 rfl) ?_
        refine lv_iload_n hx hb dX7_act_41 rfl (lv_at hl 3 rfl) ?_
        refine lv_iload_n hx hb dX7_act_42 rfl (lv_at hl 4 rfl) ?_
        skip
        refine zw_V (As := [.ref u_6, .int p_, .int mo, .int x]) (rest := []) (wr := [(x0, .inr (7, [.ref xs, .ref j0, .ref k0, .ref w0, .ref rd, .ref mv, .ref xr, .int im, .int lf])), (j0, .inr (0, [.ref z0, .ref jp, .ref jc, .int cn, .int de, .int tr, .int se, .int hu, .int sd])), (jp, .inl (cP, 8, .inr (.inr (.inr (.inr fp)))))]) ⟨hx, hb, hml, hown, hts⟩ (c_F_M_begin l D cI cJ cZ cP cS po mv mb (0) (mk) (mm) (mq) fb (p_) (mo) (x) u_6 (kiu_6) (au_6) (tu_6) huu_6 ⟨by omega, by omega, by omega, by omega⟩ (by omega) (by omega) (by omega) (by omega) H.size) (cwV 4 hts gX7_act_X1_begin rfl rfl rfl ⟨rfl, dh_X1_begin⟩ ⟨Nat.le_of_ble_eq_true rfl, Nat.le_of_ble_eq_true rfl⟩) hK hN (hZ.kept hS) hP hD hS hA [3, 4] [0, 1, 2] rfl rfl (by decide) (by decide) (by decide) (va_recv (q := (RX1, TX1, 5)) hK hP (ci := 1) (q0 := 3) rfl rfl) rfl hl.1 rfl (Nat.le_of_ble_eq_true rfl) dX7_act_43 ⟨Nat.le_of_ble_eq_true rfl, Nat.le_of_ble_eq_true rfl⟩ (fun r_16 u_17 H locs hr_16 hP hD hS => ?_)
        obtain ⟨q_18, q_19, q_20, q_21, q_22⟩ := u_17
        try dsimp only at hr_16
        obtain ⟨hbq_18, hsr_16_0, hsr_16_1, hsr_16_2, hr_16⟩ := hr_16
        have h9R := zRe (ws' := [(x0, .inr (7, [.ref xs, .ref j0, .ref k0, .ref w0, .ref rd, .ref mv, .ref xr, .int im, .int lf])), (j0, .inr (0, [.ref z0, .ref jp, .ref jc, .int cn, .int de, .int tr, .int se, .int hu, .int sd])), (jp, .inl (cP, 8, .inr (.inr (.inr (.inr fp))))), (mv, .inr (1, [.ref mb, .int q_18, .int q_19, .int q_20, .int q_21])), (mb, .inl (cI, 20, .inl q_22))]) hP hD rfl
        clear hP hD
        obtain ⟨hP, hD⟩ := h9R
        exact W.iret (v := r_16) hx hb hr (fun t ht hW => ⟨⟨r_16, (q_18, q_19, q_20, q_21, q_22), rfl, ⟨(show 0 ≤ q_18.toInt ∧ q_18.toInt ≤ 2000 from hbq_18), (show ((p_.toInt < 0 ∨ cn.toInt ≤ p_.toInt ∨ mo.toInt < 0 ∨ 2 < mo.toInt) ∧ (r_16 : Int32) = 0 ∧ q_18.toInt = 0) ∨ ((0 ≤ p_.toInt ∧ p_.toInt < cn.toInt) ∧ (0 ≤ mo.toInt ∧ mo.toInt ≤ 2) ∧ (r_16 : Int32) = zQa (kf p_.toNatClampNeg).toInt mo.toInt x p_ (af p_.toNatClampNeg) ∧ q_18.toInt = ((zBa (kf p_.toNatClampNeg).toInt mo.toInt).length : Nat) ∧ q_22 = zTr fb 0 (zBa (kf p_.toNatClampNeg).toInt mo.toInt)) from by (obtain ⟨⟨y1, y2, y3⟩, y4, y5⟩ := hkku_6; refine Or.inr ⟨by omega, by omega, ?_, ?_, ?_⟩; (rw [← y1, ← y2]; exact hsr_16_0); (rw [← y1]; have z := hsr_16_2; rw [show (0 : Int32).toInt = 0 from by decide] at z; omega); (rw [← y1]; have z := hsr_16_1; rw [show (0 : Int32).toInt = 0 from by decide] at z; exact z))), trivial⟩, zRet ht hP hD [0, 1, 2, 3, 4] (by decide) rfl⟩, hS.F ht⟩) hS.2.2 dX7_act_46
      · exact absurd c_15 (by decide)
set_option maxHeartbeats 4000000 in
set_option maxRecDepth 100000 in
theorem c_F_M_bodyAt (l : Launch) (D : va_G) (cI cJ cZ cP cS : ClassId) (po : zPool) (mv mb : Nat) (mr mk mm mq : Int32) (fb : Nat → Int32) (i : Int32) (hy0 : 0 ≤ mr.toInt) (hy1 : mr.toInt ≤ 100000) : Met l yX1_bodyAt wsX1_bodyAt ({ frames := 1, cells := 0, slots := 0, locals := 22 }) (va_Pc [.ref mv, .int i] (zR D (zKT cI cJ cZ cP cS) po [(mv, .inr (1, [.ref mb, .int mr, .int mk, .int mm, .int mq])), (mb, .inl (cI, 20, .inl fb))])) (vp_Si (fun r => (((0 ≤ i.toInt ∧ i.toInt < 20 ∧ i.toInt < mr.toInt) ∧ r = fb i.toNatClampNeg) ∨ (¬ (0 ≤ i.toInt ∧ i.toInt < 20 ∧ i.toInt < mr.toInt) ∧ r = -1)))) 0 0 (fun _ => False) := by
  refine Met.ofW (cc := cX1_bodyAt) (maxL := 2) (ret := (some .int)) (by decide) rfl ?_
  intro p e s m args below meth c s₁ B hml hv
  obtain ⟨rfl, hP, hK, hN, hZ⟩ := hv
  have hx := B.exec
  have hb := B.bytes
  have hr := B.returns
  have hts := atoms_spec (ws := wsX1_bodyAt) B.pre
  have hown : s.vm.findClass RX1 = some m.cls := findClass_of_methodNamed B.named
  have hlocks := B.notSynchronized
  have hl := lv_entry ([.ref mv, .int i]) (n := 2) (Nat.le_of_ble_eq_true rfl)
  rw [lg_entry_eq]
  generalize (lg_sl ([.ref mv, .int i]) ++ List.replicate (2 - (lg_sl ([.ref mv, .int i])).length) Slot.unset).toArray = ls at hl ⊢
  replace hl : lv_has ls 2 [(0, .ref mv), (1, .int i)] := hl
  refine lv_iload_n hx hb dX1_bodyAt_0 rfl (lv_at hl 1 rfl) ?_
  refine lv_iconst (v := 0) hx hb dX1_bodyAt_1 (by decide) ?_
  refine lv_aload_n hx hb dX1_bodyAt_2 rfl (lv_at hl 0 rfl) ?_
  refine va_get (D := D) (ci := 1) (v := .int mr) (C := RX1) (T := TX1) (N := 5) hx hb hts hi_X1_bodyAt_1 hown hK hP 0 rfl rfl 1 (by decide) (hts (.fieldLink RX1 15 "TheLiningsInIt$Moves" "ran" "I") (List.mem_of_getElem? (i := 1) rfl)) (fun _ h9 => h9) rfl dX1_bodyAt_3 ?_
  refine lv_bipush (v := 20) hx hb dX1_bodyAt_6 (by decide) ?_
  refine va_mmin hx hb (hml.trans hl.1.symm) hown (hts (.methodLink RX1 38 Lib.Math.min.name) (List.mem_of_getElem? (i := 2) rfl)) (hts _ (List.mem_of_getElem? (i := 3) rfl)) (hts _ (List.mem_of_getElem? (i := 4) rfl)) (hts _ (List.mem_of_getElem? (i := 5) rfl)) (Nat.le_of_ble_eq_true rfl) (Nat.le_of_ble_eq_true rfl) (Nat.le_of_ble_eq_true rfl) (Nat.le_of_ble_eq_true rfl) dX1_bodyAt_8 ?_
  refine lv_topi (fun x_1 ex_1 => ?_)
  have qx_1 := zf_min ex_1 (x1 := mr.toInt) (y1 := 20) rfl (by decide)
  refine lv_iconst (v := 1) hx hb dX1_bodyAt_11 (by decide) ?_
  refine lv_isub hx hb dX1_bodyAt_12 ?_
  refine lv_topi (fun x_2 ex_2 => ?_)
  have qx_2 : x_2.toInt = x_1.toInt - 1 := by rw [ex_2]; exact zf_sub rfl (by decide) (by omega) (by omega)
  have kc0 : (0 : Int32).toInt = 0 := by decide
  refine zc_SN (As := [.int i, .int 0, .int x_2]) (rest := []) ⟨hx, hb, hml, hown, hts⟩ (c_within l D cI cJ cZ cP cS po (i) (0) (x_2) ) ⟨(va_cnB 3 hts gX1_bodyAt_X7_within_n44 rfl rfl rfl (hN.1 (RX1, 44, yX7_within) (List.mem_of_getElem? (i := 13) rfl)) (hts _ (List.mem_of_getElem? (i := 8) rfl)) dh_X7_within ⟨Nat.le_of_ble_eq_true rfl, Nat.le_of_ble_eq_true rfl⟩), (hts _ (List.mem_of_getElem? (i := 7) rfl)), trivial⟩ hK hN hZ rfl hl.1 rfl (Nat.le_of_ble_eq_true rfl) dX1_bodyAt_13 ⟨Nat.le_of_ble_eq_true rfl, Nat.le_of_ble_eq_true rfl⟩ (fun r_3 hr_3 => ?_)
  rcases hr_3 with ⟨rfl, g_4⟩ | ⟨rfl, g_5, g_6⟩ | ⟨rfl, g_7, g_8⟩
  · refine lv_if_eq (tgt := 28) hx hb dX1_bodyAt_16 (by decide) (fun c_9 => ?_) (fun c_9 => ?_)
    · refine lv_iconst (v := (-1)) hx hb dX1_bodyAt_28 (by decide) ?_
      exact W.iret (v := (-1)) hx hb hr (fun t ht hW => ⟨(-1), rfl, (show ((0 ≤ i.toInt ∧ i.toInt < 20 ∧ i.toInt < mr.toInt) ∧ ((-1) : Int32) = fb i.toNatClampNeg) ∨ (¬ (0 ≤ i.toInt ∧ i.toInt < 20 ∧ i.toInt < mr.toInt) ∧ ((-1) : Int32) = -1) from by (exact Or.inr ⟨by omega, rfl⟩)), ht⟩) (fun q hq => by cases hq) dX1_bodyAt_29
    · exact absurd c_9 (by decide)
  · refine lv_if_eq (tgt := 28) hx hb dX1_bodyAt_16 (by decide) (fun c_10 => ?_) (fun c_10 => ?_)
    · refine lv_iconst (v := (-1)) hx hb dX1_bodyAt_28 (by decide) ?_
      exact W.iret (v := (-1)) hx hb hr (fun t ht hW => ⟨(-1), rfl, (show ((0 ≤ i.toInt ∧ i.toInt < 20 ∧ i.toInt < mr.toInt) ∧ ((-1) : Int32) = fb i.toNatClampNeg) ∨ (¬ (0 ≤ i.toInt ∧ i.toInt < 20 ∧ i.toInt < mr.toInt) ∧ ((-1) : Int32) = -1) from by (exact Or.inr ⟨by omega, rfl⟩)), ht⟩) (fun q hq => by cases hq) dX1_bodyAt_29
    · exact absurd c_10 (by decide)
  · refine lv_if_eq (tgt := 28) hx hb dX1_bodyAt_16 (by decide) (fun c_11 => ?_) (fun c_11 => ?_)
    · exact absurd c_11 (by decide)
    · refine lv_aload_n hx hb dX1_bodyAt_19 rfl (lv_at hl 0 rfl) ?_
      refine va_get (D := D) (ci := 1) (v := .ref mb) (C := RX1) (T := TX1) (N := 5) hx hb hts hi_X1_bodyAt_1 hown hK hP 0 rfl rfl 0 (by decide) (hts (.fieldLink RX1 11 "TheLiningsInIt$Moves" "bodies" "[I") (List.mem_of_getElem? (i := 6) rfl)) (fun _ h9 => h9) rfl dX1_bodyAt_20 ?_
      refine lv_iload_n hx hb dX1_bodyAt_23 rfl (lv_at hl 1 rfl) ?_
      refine va_iald hx hb hK hP 1 0 rfl rfl (zf_in (by omega) (by omega)) dX1_bodyAt_24 ?_
      refine lv_topi (fun x_12 ex_12 => ?_)
      refine lv_goto (tgt := 29) hx hb dX1_bodyAt_25 (by decide) ?_
      exact W.iret (v := x_12) hx hb hr (fun t ht hW => ⟨x_12, rfl, (show ((0 ≤ i.toInt ∧ i.toInt < 20 ∧ i.toInt < mr.toInt) ∧ (x_12 : Int32) = fb i.toNatClampNeg) ∨ (¬ (0 ≤ i.toInt ∧ i.toInt < 20 ∧ i.toInt < mr.toInt) ∧ (x_12 : Int32) = -1) from by (exact Or.inl ⟨by omega, ex_12⟩)), ht⟩) (fun q hq => by cases hq) dX1_bodyAt_29
set_option maxHeartbeats 4000000 in
set_option maxRecDepth 100000 in
theorem c_F_X_trace (l : Launch) (D : va_G) (cI cJ cZ cP cS : ClassId) (po : zPool) (x0 xs j0 k0 w0 rd mv xr : Nat) (im lf : Int32) (fr : Nat → Int32) (mb : Nat) (mr mk mm mq : Int32) (fb : Nat → Int32) (i : Int32) (hy0 : 0 ≤ im.toInt) (hy1 : im.toInt ≤ 1) (hy2 : (-1) ≤ lf.toInt) (hy3 : lf.toInt ≤ 160) (hy4 : 0 ≤ mr.toInt) (hy5 : mr.toInt ≤ 2000) : Met l yX7_trace wsX7_trace ({ frames := 2, cells := 0, slots := 0, locals := 43 }) (va_Pc [.ref x0, .int i] (zR D (zKT cI cJ cZ cP cS) po [(x0, .inr (7, [.ref xs, .ref j0, .ref k0, .ref w0, .ref rd, .ref mv, .ref xr, .int im, .int lf])), (mv, .inr (1, [.ref mb, .int mr, .int mk, .int mm, .int mq])), (mb, .inl (cI, 20, .inl fb))])) (vp_Si (fun r => (((0 ≤ i.toInt ∧ i.toInt < 20 ∧ i.toInt < mr.toInt) ∧ r = fb i.toNatClampNeg) ∨ (¬ (0 ≤ i.toInt ∧ i.toInt < 20 ∧ i.toInt < mr.toInt) ∧ r = -1)))) 0 0 (fun _ => False) := by
  refine Met.ofW (cc := cX7_trace) (maxL := 2) (ret := (some .int)) (by decide) rfl ?_
  intro p e s m args below meth c s₁ B hml hv
  obtain ⟨rfl, hP, hK, hN, hZ⟩ := hv
  have hx := B.exec
  have hb := B.bytes
  have hr := B.returns
  have hts := atoms_spec (ws := wsX7_trace) B.pre
  have hown : s.vm.findClass RX7 = some m.cls := findClass_of_methodNamed B.named
  have hlocks := B.notSynchronized
  have hl := lv_entry ([.ref x0, .int i]) (n := 2) (Nat.le_of_ble_eq_true rfl)
  rw [lg_entry_eq]
  generalize (lg_sl ([.ref x0, .int i]) ++ List.replicate (2 - (lg_sl ([.ref x0, .int i])).length) Slot.unset).toArray = ls at hl ⊢
  replace hl : lv_has ls 2 [(0, .ref x0), (1, .int i)] := hl
  refine lv_aload_n hx hb dX7_trace_0 rfl (lv_at hl 0 rfl) ?_
  refine va_get (D := D) (ci := 7) (v := .ref mv) (C := RX7) (T := TX7) (N := 9) hx hb hts hi_X7_trace_7 hown hK hP 0 rfl rfl 5 (by decide) (hts (.fieldLink RX7 42 "TheLiningsInIt" "moves" "LTheLiningsInIt$Moves;") (List.mem_of_getElem? (i := 1) rfl)) (fun _ h9 => h9) rfl dX7_trace_1 ?_
  refine lv_iload_n hx hb dX7_trace_4 rfl (lv_at hl 1 rfl) ?_
  refine zc_V (As := [.int i]) (rest := []) ⟨hx, hb, hml, hown, hts⟩ (c_F_M_bodyAt l D cI cJ cZ cP cS po mv mb (mr) (mk) (mm) (mq) fb (i) hy4 (by omega)) (cwV 1 hts gX7_trace_X1_bodyAt rfl rfl rfl ⟨rfl, dh_X1_bodyAt⟩ ⟨Nat.le_of_ble_eq_true rfl, Nat.le_of_ble_eq_true rfl⟩) hK hN hZ hP (hP.sub [1, 2] rfl) (va_recv (q := (RX1, TX1, 5)) hK hP (ci := 1) (q0 := 1) rfl rfl) rfl hl.1 rfl (Nat.le_of_ble_eq_true rfl) dX7_trace_5 ⟨Nat.le_of_ble_eq_true rfl, Nat.le_of_ble_eq_true rfl⟩ (fun r_1 hr_1 => ?_)
  have hsr_1_0 := hr_1
  exact W.iret (v := r_1) hx hb hr (fun t ht hW => ⟨r_1, rfl, (show ((0 ≤ i.toInt ∧ i.toInt < 20 ∧ i.toInt < mr.toInt) ∧ (r_1 : Int32) = fb i.toNatClampNeg) ∨ (¬ (0 ≤ i.toInt ∧ i.toInt < 20 ∧ i.toInt < mr.toInt) ∧ (r_1 : Int32) = -1) from by exact hsr_1_0), ht⟩) (fun q hq => by cases hq) dX7_trace_8

