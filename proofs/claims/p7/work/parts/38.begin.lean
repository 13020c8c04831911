theorem hi_X1_begin_2 : ∀ w ∈ u_ws RX2 TX2 3, w ∈ wsX1_begin := fun w h => (goodIn_r (u_ws RX2 TX2 3) [26, 27, 28] rfl (by decide +kernel) w h).1
theorem hi_X1_begin_1 : ∀ w ∈ u_ws RX1 TX1 5, w ∈ wsX1_begin := fun w h => (goodIn_r (u_ws RX1 TX1 5) [29, 30, 31, 32, 33] rfl (by decide +kernel) w h).1
set_option maxHeartbeats 4000000 in
set_option maxRecDepth 100000 in
theorem c_M_begin (l : Launch) (D : va_G) (cI cJ cZ cP cS : ClassId) (po : zPool) (mv mb : Nat) (mr mk mm mq : Int32) (fb : Nat → Int32) (nb mo x : Int32) (u0 : Nat) (ki a_ ta : Int32) (hu_u0 : zPu po u0 ki a_ ta) (hr_u0 : zPr ki a_ ta) (hy2 : 0 ≤ mr.toInt) (hy3 : mr.toInt ≤ 1000) (hy4 : 0 ≤ mo.toInt) (hy5 : mo.toInt ≤ 2) (hpz : Nat) : Met l yX1_begin wsX1_begin ({ frames := 9, cells := 0, slots := 0, locals := 228 }) (va_Pc [.ref mv, .ref u0, .int nb, .int mo, .int x] (zW D (zKT cI cJ cZ cP cS) po [(mv, .inr (1, [.ref mb, .int mr, .int mk, .int mm, .int mq])), (mb, .inl (cI, 20, .inl fb))] hpz)) (va_Qi (fun (r : Int32) (u : (Int32) × (Int32) × (Int32) × (Int32) × (Nat → Int32)) => (0 ≤ u.1.toInt ∧ u.1.toInt ≤ 2000) ∧ (True)) (zB D [(mv, .inr (1, [.ref mb, .int mr, .int mk, .int mm, .int mq])), (mb, .inl (cI, 20, .inl fb))] hpz (fun (u : (Int32) × (Int32) × (Int32) × (Int32) × (Nat → Int32)) => [(mv, .inr (1, [.ref mb, .int u.1, .int u.2.1, .int u.2.2.1, .int u.2.2.2.1])), (mb, .inl (cI, 20, .inl u.2.2.2.2))])) (va_A [(mv, .inr (1, [.ref mb, .int mr, .int mk, .int mm, .int mq])), (mb, .inl (cI, 20, .inl fb))] hpz)) 0 0 (va_A [(mv, .inr (1, [.ref mb, .int mr, .int mk, .int mm, .int mq])), (mb, .inl (cI, 20, .inl fb))] hpz) := by
  refine Met.ofW (cc := cX1_begin) (maxL := 5) (ret := (some .int)) (by decide) rfl ?_
  intro p e s m args below meth c s₁ B hml hv
  obtain ⟨rfl, hsz, hP, hK, hD0, hN, hZ⟩ := hv
  have hx := B.exec
  have hb := B.bytes
  have hr := B.returns
  have hts := atoms_spec (ws := wsX1_begin) B.pre
  have hown : s.vm.findClass RX1 = some m.cls := findClass_of_methodNamed B.named
  have hlocks := B.notSynchronized
  subst hsz
  have hD := hD0.self (sz := s.heap.size)
  have hA := zA_of hD
  have hl := lv_entry ([.ref mv, .ref u0, .int nb, .int mo, .int x]) (n := 5) (Nat.le_of_ble_eq_true rfl)
  rw [lg_entry_eq]
  generalize (lg_sl ([.ref mv, .ref u0, .int nb, .int mo, .int x]) ++ List.replicate (5 - (lg_sl ([.ref mv, .ref u0, .int nb, .int mo, .int x])).length) Slot.unset).toArray = ls at hl ⊢
  replace hl : lv_has ls 5 [(0, .ref mv), (1, .ref u0), (2, .int nb), (3, .int mo), (4, .int x)] := hl
  refine zw_begin hP hD (fun H locs hP1 hS => ?_)
  clear hP
  have hP := hP1
  clear hP1
  obtain ⟨⟨p1_u0, p2_u0⟩, ⟨p3_u0, p4_u0⟩, p5_u0, p6_u0⟩ := id hr_u0
  have hsp : ki = 0 ∨ ki = 1 ∨ ki = 2 ∨ ki = 3 ∨ ki = 4 ∨ ki = 5 ∨ ki = 6 := by
    rcases (show ki.toInt = 0 ∨ ki.toInt = 1 ∨ ki.toInt = 2 ∨ ki.toInt = 3 ∨ ki.toInt = 4 ∨ ki.toInt = 5 ∨ ki.toInt = 6 by omega) with h9 | h9 | h9 | h9 | h9 | h9 | h9
    · refine Or.inl ?_; exact zf_val h9 (by decide)
    · refine Or.inr (Or.inl ?_); exact zf_val h9 (by decide)
    · refine Or.inr (Or.inr (Or.inl ?_)); exact zf_val h9 (by decide)
    · refine Or.inr (Or.inr (Or.inr (Or.inl ?_))); exact zf_val h9 (by decide)
    · refine Or.inr (Or.inr (Or.inr (Or.inr (Or.inl ?_)))); exact zf_val h9 (by decide)
    · refine Or.inr (Or.inr (Or.inr (Or.inr (Or.inr (Or.inl ?_))))); exact zf_val h9 (by decide)
    · refine Or.inr (Or.inr (Or.inr (Or.inr (Or.inr (Or.inr (?_)))))); exact zf_val h9 (by decide)
  rcases hsp with rfl | rfl | rfl | rfl | rfl | rfl | rfl
  · refine lv_aload_n hx hb dX1_begin_0 rfl (lv_at hl 0 rfl) ?_
    have hsp : mo = 0 ∨ mo = 1 ∨ mo = 2 := by
      rcases (show mo.toInt = 0 ∨ mo.toInt = 1 ∨ mo.toInt = 2 by omega) with h9 | h9 | h9
      · refine Or.inl ?_; exact zf_val h9 (by decide)
      · refine Or.inr (Or.inl ?_); exact zf_val h9 (by decide)
      · refine Or.inr (Or.inr (?_)); exact zf_val h9 (by decide)
    rcases hsp with rfl | rfl | rfl
    · refine lv_aload_n hx hb dX1_begin_1 rfl (lv_at hl 1 rfl) ?_
      refine va_get (D := D) (ci := 2) (v := .int 0) (C := RX2) (T := TX2) (N := 3) hx hb hts hi_X1_begin_2 hown hK (zPu_P (hZ.kept hS) hu_u0) 0 rfl rfl 0 (by decide) (hts (.fieldLink RX1 28 "TheLiningsInIt$Pull" "kind" "I") (List.mem_of_getElem? (i := 1) rfl)) (fun _ h9 => h9) rfl dX1_begin_2 ?_
      refine va_put (D := D) (ci := 1) (v := .int 0) (ty := .int) (C := RX1) (T := TX1) (N := 5) hx hb hts hi_X1_begin_1 tyX1 tyX1_ok nmX1 hown hK hP hD hS 0 rfl rfl 2 (by decide) (hts (.fieldLink RX1 19 "TheLiningsInIt$Moves" "kind" "I") (List.mem_of_getElem? (i := 2) rfl)) (fun _ h9 => h9) rfl (by decide +kernel) rfl rfl (Nat.le_of_ble_eq_true rfl) dX1_begin_5 (fun H locs hP hD hS => ?_)
      have h9R := zRe (ws' := [(mv, .inr (1, [.ref mb, .int mr, .int 0, .int mm, .int mq])), (mb, .inl (cI, 20, .inl fb))]) hP hD rfl
      clear hP hD
      obtain ⟨hP, hD⟩ := h9R
      refine lv_aload_n hx hb dX1_begin_8 rfl (lv_at hl 0 rfl) ?_
      refine lv_iload_n hx hb dX1_begin_9 rfl (lv_at hl 2 rfl) ?_
      refine va_put (D := D) (ci := 1) (v := .int nb) (ty := .int) (C := RX1) (T := TX1) (N := 5) hx hb hts hi_X1_begin_1 tyX1 tyX1_ok nmX1 hown hK hP hD hS 0 rfl rfl 3 (by decide) (hts (.fieldLink RX1 22 "TheLiningsInIt$Moves" "m" "I") (List.mem_of_getElem? (i := 3) rfl)) (fun _ h9 => h9) rfl (by decide +kernel) rfl rfl (Nat.le_of_ble_eq_true rfl) dX1_begin_10 (fun H locs hP hD hS => ?_)
      have h9R := zRe (ws' := [(mv, .inr (1, [.ref mb, .int mr, .int 0, .int nb, .int mq])), (mb, .inl (cI, 20, .inl fb))]) hP hD rfl
      clear hP hD
      obtain ⟨hP, hD⟩ := h9R
      refine lv_aload_n hx hb dX1_begin_13 rfl (lv_at hl 0 rfl) ?_
      refine lv_aload_n hx hb dX1_begin_14 rfl (lv_at hl 1 rfl) ?_
      refine va_get (D := D) (ci := 2) (v := .int a_) (C := RX2) (T := TX2) (N := 3) hx hb hts hi_X1_begin_2 hown hK (zPu_P (hZ.kept hS) hu_u0) 0 rfl rfl 1 (by decide) (hts (.fieldLink RX1 31 "TheLiningsInIt$Pull" "a" "I") (List.mem_of_getElem? (i := 4) rfl)) (fun _ h9 => h9) rfl dX1_begin_15 ?_
      refine va_put (D := D) (ci := 1) (v := .int a_) (ty := .int) (C := RX1) (T := TX1) (N := 5) hx hb hts hi_X1_begin_1 tyX1 tyX1_ok nmX1 hown hK hP hD hS 0 rfl rfl 4 (by decide) (hts (.fieldLink RX1 25 "TheLiningsInIt$Moves" "k" "I") (List.mem_of_getElem? (i := 5) rfl)) (fun _ h9 => h9) rfl (by decide +kernel) rfl rfl (Nat.le_of_ble_eq_true rfl) dX1_begin_18 (fun H locs hP hD hS => ?_)
      have h9R := zRe (ws' := [(mv, .inr (1, [.ref mb, .int mr, .int 0, .int nb, .int a_])), (mb, .inl (cI, 20, .inl fb))]) hP hD rfl
      clear hP hD
      obtain ⟨hP, hD⟩ := h9R
      refine lv_aload_n hx hb dX1_begin_21 rfl (lv_at hl 0 rfl) ?_
      refine lv_aload_n hx hb dX1_begin_22 rfl (lv_at hl 0 rfl) ?_
      refine va_get (D := D) (ci := 1) (v := .int 0) (C := RX1) (T := TX1) (N := 5) hx hb hts hi_X1_begin_1 hown hK hP 0 rfl rfl 2 (by decide) (hts (.fieldLink RX1 19 "TheLiningsInIt$Moves" "kind" "I") (List.mem_of_getElem? (i := 2) rfl)) (fun _ h9 => h9) rfl dX1_begin_23 ?_
      refine lv_iload_n hx hb dX1_begin_26 rfl (lv_at hl 3 rfl) ?_
      refine lv_iload hx hb dX1_begin_27 (lv_at hl 4 rfl) ?_
      refine lv_iconst (v := 0) hx hb dX1_begin_29 (by decide) ?_
      skip
      refine zw_V (As := [.int 0, .int 0, .int x, .int 0]) (rest := []) (wr := []) ⟨hx, hb, hml, hown, hts⟩ (c_M_run_0_0_0_0 l D cI cJ cZ cP cS po mv mb (mr) (nb) (a_) fb (x) hy2 hy3 H.size) (cwV 4 hts gX1_begin_X1_run rfl rfl rfl (by decide +kernel) ⟨Nat.le_of_ble_eq_true rfl, Nat.le_of_ble_eq_true rfl⟩) hK hN (hZ.kept hS) hP hD hS hA [0, 1] [] rfl rfl (by decide) (by decide) (by decide) (va_recv hK hP (ci := 1) (q0 := 0) rfl rfl) rfl hl.1 rfl (Nat.le_of_ble_eq_true rfl) dX1_begin_30 ⟨Nat.le_of_ble_eq_true rfl, Nat.le_of_ble_eq_true rfl⟩ (fun r_1 u_2 H locs hr_1 hP hD hS => ?_)
      obtain ⟨q_3, q_4⟩ := u_2
      try dsimp only at hr_1
      obtain ⟨hbq_3, hr_1⟩ := hr_1
      have h9R := zRe (ws' := [(mv, .inr (1, [.ref mb, .int q_3, .int 0, .int nb, .int a_])), (mb, .inl (cI, 20, .inl q_4))]) hP hD rfl
      clear hP hD
      obtain ⟨hP, hD⟩ := h9R
      exact W.iret (v := r_1) hx hb hr (fun t ht hW => ⟨⟨r_1, (q_3, 0, nb, a_, q_4), rfl, ⟨(show 0 ≤ q_3.toInt ∧ q_3.toInt ≤ 2000 from ⟨by omega, by omega⟩), trivial⟩, zRet ht hP hD [0, 1] (by decide) rfl⟩, hS.F ht⟩) hS.2.2 dX1_begin_33
    · refine lv_aload_n hx hb dX1_begin_1 rfl (lv_at hl 1 rfl) ?_
      refine va_get (D := D) (ci := 2) (v := .int 0) (C := RX2) (T := TX2) (N := 3) hx hb hts hi_X1_begin_2 hown hK (zPu_P (hZ.kept hS) hu_u0) 0 rfl rfl 0 (by decide) (hts (.fieldLink RX1 28 "TheLiningsInIt$Pull" "kind" "I") (List.mem_of_getElem? (i := 1) rfl)) (fun _ h9 => h9) rfl dX1_begin_2 ?_
      refine va_put (D := D) (ci := 1) (v := .int 0) (ty := .int) (C := RX1) (T := TX1) (N := 5) hx hb hts hi_X1_begin_1 tyX1 tyX1_ok nmX1 hown hK hP hD hS 0 rfl rfl 2 (by decide) (hts (.fieldLink RX1 19 "TheLiningsInIt$Moves" "kind" "I") (List.mem_of_getElem? (i := 2) rfl)) (fun _ h9 => h9) rfl (by decide +kernel) rfl rfl (Nat.le_of_ble_eq_true rfl) dX1_begin_5 (fun H locs hP hD hS => ?_)
      have h9R := zRe (ws' := [(mv, .inr (1, [.ref mb, .int mr, .int 0, .int mm, .int mq])), (mb, .inl (cI, 20, .inl fb))]) hP hD rfl
      clear hP hD
      obtain ⟨hP, hD⟩ := h9R
      refine lv_aload_n hx hb dX1_begin_8 rfl (lv_at hl 0 rfl) ?_
      refine lv_iload_n hx hb dX1_begin_9 rfl (lv_at hl 2 rfl) ?_
      refine va_put (D := D) (ci := 1) (v := .int nb) (ty := .int) (C := RX1) (T := TX1) (N := 5) hx hb hts hi_X1_begin_1 tyX1 tyX1_ok nmX1 hown hK hP hD hS 0 rfl rfl 3 (by decide) (hts (.fieldLink RX1 22 "TheLiningsInIt$Moves" "m" "I") (List.mem_of_getElem? (i := 3) rfl)) (fun _ h9 => h9) rfl (by decide +kernel) rfl rfl (Nat.le_of_ble_eq_true rfl) dX1_begin_10 (fun H locs hP hD hS => ?_)
      have h9R := zRe (ws' := [(mv, .inr (1, [.ref mb, .int mr, .int 0, .int nb, .int mq])), (mb, .inl (cI, 20, .inl fb))]) hP hD rfl
      clear hP hD
      obtain ⟨hP, hD⟩ := h9R
      refine lv_aload_n hx hb dX1_begin_13 rfl (lv_at hl 0 rfl) ?_
      refine lv_aload_n hx hb dX1_begin_14 rfl (lv_at hl 1 rfl) ?_
      refine va_get (D := D) (ci := 2) (v := .int a_) (C := RX2) (T := TX2) (N := 3) hx hb hts hi_X1_begin_2 hown hK (zPu_P (hZ.kept hS) hu_u0) 0 rfl rfl 1 (by decide) (hts (.fieldLink RX1 31 "TheLiningsInIt$Pull" "a" "I") (List.mem_of_getElem? (i := 4) rfl)) (fun _ h9 => h9) rfl dX1_begin_15 ?_
      refine va_put (D := D) (ci := 1) (v := .int a_) (ty := .int) (C := RX1) (T := TX1) (N := 5) hx hb hts hi_X1_begin_1 tyX1 tyX1_ok nmX1 hown hK hP hD hS 0 rfl rfl 4 (by decide) (hts (.fieldLink RX1 25 "TheLiningsInIt$Moves" "k" "I") (List.mem_of_getElem? (i := 5) rfl)) (fun _ h9 => h9) rfl (by decide +kernel) rfl rfl (Nat.le_of_ble_eq_true rfl) dX1_begin_18 (fun H locs hP hD hS => ?_)
      have h9R := zRe (ws' := [(mv, .inr (1, [.ref mb, .int mr, .int 0, .int nb, .int a_])), (mb, .inl (cI, 20, .inl fb))]) hP hD rfl
      clear hP hD
      obtain ⟨hP, hD⟩ := h9R
      refine lv_aload_n hx hb dX1_begin_21 rfl (lv_at hl 0 rfl) ?_
      refine lv_aload_n hx hb dX1_begin_22 rfl (lv_at hl 0 rfl) ?_
      refine va_get (D := D) (ci := 1) (v := .int 0) (C := RX1) (T := TX1) (N := 5) hx hb hts hi_X1_begin_1 hown hK hP 0 rfl rfl 2 (by decide) (hts (.fieldLink RX1 19 "TheLiningsInIt$Moves" "kind" "I") (List.mem_of_getElem? (i := 2) rfl)) (fun _ h9 => h9) rfl dX1_begin_23 ?_
      refine lv_iload_n hx hb dX1_begin_26 rfl (lv_at hl 3 rfl) ?_
      refine lv_iload hx hb dX1_begin_27 (lv_at hl 4 rfl) ?_
      refine lv_iconst (v := 0) hx hb dX1_begin_29 (by decide) ?_
      skip
      refine zw_V (As := [.int 0, .int 1, .int x, .int 0]) (rest := []) (wr := []) ⟨hx, hb, hml, hown, hts⟩ (c_M_run_0_0_1_0 l D cI cJ cZ cP cS po mv mb (mr) (nb) (a_) fb (x) hy2 hy3 H.size) (cwV 4 hts gX1_begin_X1_run rfl rfl rfl (by decide +kernel) ⟨Nat.le_of_ble_eq_true rfl, Nat.le_of_ble_eq_true rfl⟩) hK hN (hZ.kept hS) hP hD hS hA [0, 1] [] rfl rfl (by decide) (by decide) (by decide) (va_recv hK hP (ci := 1) (q0 := 0) rfl rfl) rfl hl.1 rfl (Nat.le_of_ble_eq_true rfl) dX1_begin_30 ⟨Nat.le_of_ble_eq_true rfl, Nat.le_of_ble_eq_true rfl⟩ (fun r_5 u_6 H locs hr_5 hP hD hS => ?_)
      obtain ⟨q_7, q_8⟩ := u_6
      try dsimp only at hr_5
      obtain ⟨hbq_7, hr_5⟩ := hr_5
      have h9R := zRe (ws' := [(mv, .inr (1, [.ref mb, .int q_7, .int 0, .int nb, .int a_])), (mb, .inl (cI, 20, .inl q_8))]) hP hD rfl
      clear hP hD
      obtain ⟨hP, hD⟩ := h9R
      exact W.iret (v := r_5) hx hb hr (fun t ht hW => ⟨⟨r_5, (q_7, 0, nb, a_, q_8), rfl, ⟨(show 0 ≤ q_7.toInt ∧ q_7.toInt ≤ 2000 from ⟨by omega, by omega⟩), trivial⟩, zRet ht hP hD [0, 1] (by decide) rfl⟩, hS.F ht⟩) hS.2.2 dX1_begin_33
    · refine lv_aload_n hx hb dX1_begin_1 rfl (lv_at hl 1 rfl) ?_
      refine va_get (D := D) (ci := 2) (v := .int 0) (C := RX2) (T := TX2) (N := 3) hx hb hts hi_X1_begin_2 hown hK (zPu_P (hZ.kept hS) hu_u0) 0 rfl rfl 0 (by decide) (hts (.fieldLink RX1 28 "TheLiningsInIt$Pull" "kind" "I") (List.mem_of_getElem? (i := 1) rfl)) (fun _ h9 => h9) rfl dX1_begin_2 ?_
      refine va_put (D := D) (ci := 1) (v := .int 0) (ty := .int) (C := RX1) (T := TX1) (N := 5) hx hb hts hi_X1_begin_1 tyX1 tyX1_ok nmX1 hown hK hP hD hS 0 rfl rfl 2 (by decide) (hts (.fieldLink RX1 19 "TheLiningsInIt$Moves" "kind" "I") (List.mem_of_getElem? (i := 2) rfl)) (fun _ h9 => h9) rfl (by decide +kernel) rfl rfl (Nat.le_of_ble_eq_true rfl) dX1_begin_5 (fun H locs hP hD hS => ?_)
      have h9R := zRe (ws' := [(mv, .inr (1, [.ref mb, .int mr, .int 0, .int mm, .int mq])), (mb, .inl (cI, 20, .inl fb))]) hP hD rfl
      clear hP hD
      obtain ⟨hP, hD⟩ := h9R
      refine lv_aload_n hx hb dX1_begin_8 rfl (lv_at hl 0 rfl) ?_
      refine lv_iload_n hx hb dX1_begin_9 rfl (lv_at hl 2 rfl) ?_
      refine va_put (D := D) (ci := 1) (v := .int nb) (ty := .int) (C := RX1) (T := TX1) (N := 5) hx hb hts hi_X1_begin_1 tyX1 tyX1_ok nmX1 hown hK hP hD hS 0 rfl rfl 3 (by decide) (hts (.fieldLink RX1 22 "TheLiningsInIt$Moves" "m" "I") (List.mem_of_getElem? (i := 3) rfl)) (fun _ h9 => h9) rfl (by decide +kernel) rfl rfl (Nat.le_of_ble_eq_true rfl) dX1_begin_10 (fun H locs hP hD hS => ?_)
      have h9R := zRe (ws' := [(mv, .inr (1, [.ref mb, .int mr, .int 0, .int nb, .int mq])), (mb, .inl (cI, 20, .inl fb))]) hP hD rfl
      clear hP hD
      obtain ⟨hP, hD⟩ := h9R
      refine lv_aload_n hx hb dX1_begin_13 rfl (lv_at hl 0 rfl) ?_
      refine lv_aload_n hx hb dX1_begin_14 rfl (lv_at hl 1 rfl) ?_
      refine va_get (D := D) (ci := 2) (v := .int a_) (C := RX2) (T := TX2) (N := 3) hx hb hts hi_X1_begin_2 hown hK (zPu_P (hZ.kept hS) hu_u0) 0 rfl rfl 1 (by decide) (hts (.fieldLink RX1 31 "TheLiningsInIt$Pull" "a" "I") (List.mem_of_getElem? (i := 4) rfl)) (fun _ h9 => h9) rfl dX1_begin_15 ?_
      refine va_put (D := D) (ci := 1) (v := .int a_) (ty := .int) (C := RX1) (T := TX1) (N := 5) hx hb hts hi_X1_begin_1 tyX1 tyX1_ok nmX1 hown hK hP hD hS 0 rfl rfl 4 (by decide) (hts (.fieldLink RX1 25 "TheLiningsInIt$Moves" "k" "I") (List.mem_of_getElem? (i := 5) rfl)) (fun _ h9 => h9) rfl (by decide +kernel) rfl rfl (Nat.le_of_ble_eq_true rfl) dX1_begin_18 (fun H locs hP hD hS => ?_)
      have h9R := zRe (ws' := [(mv, .inr (1, [.ref mb, .int mr, .int 0, .int nb, .int a_])), (mb, .inl (cI, 20, .inl fb))]) hP hD rfl
      clear hP hD
      obtain ⟨hP, hD⟩ := h9R
      refine lv_aload_n hx hb dX1_begin_21 rfl (lv_at hl 0 rfl) ?_
      refine lv_aload_n hx hb dX1_begin_22 rfl (lv_at hl 0 rfl) ?_
      refine va_get (D := D) (ci := 1) (v := .int 0) (C := RX1) (T := TX1) (N := 5) hx hb hts hi_X1_begin_1 hown hK hP 0 rfl rfl 2 (by decide) (hts (.fieldLink RX1 19 "TheLiningsInIt$Moves" "kind" "I") (List.mem_of_getElem? (i := 2) rfl)) (fun _ h9 => h9) rfl dX1_begin_23 ?_
      refine lv_iload_n hx hb dX1_begin_26 rfl (lv_at hl 3 rfl) ?_
      refine lv_iload hx hb dX1_begin_27 (lv_at hl 4 rfl) ?_
      refine lv_iconst (v := 0) hx hb dX1_begin_29 (by decide) ?_
      skip
      refine zw_V (As := [.int 0, .int 2, .int x, .int 0]) (rest := []) (wr := []) ⟨hx, hb, hml, hown, hts⟩ (c_M_run_0_0_2_0 l D cI cJ cZ cP cS po mv mb (mr) (nb) (a_) fb (x) hy2 hy3 H.size) (cwV 4 hts gX1_begin_X1_run rfl rfl rfl (by decide +kernel) ⟨Nat.le_of_ble_eq_true rfl, Nat.le_of_ble_eq_true rfl⟩) hK hN (hZ.kept hS) hP hD hS hA [0, 1] [] rfl rfl (by decide) (by decide) (by decide) (va_recv hK hP (ci := 1) (q0 := 0) rfl rfl) rfl hl.1 rfl (Nat.le_of_ble_eq_true rfl) dX1_begin_30 ⟨Nat.le_of_ble_eq_true rfl, Nat.le_of_ble_eq_true rfl⟩ (fun r_9 u_10 H locs hr_9 hP hD hS => ?_)
      obtain ⟨q_11, q_12⟩ := u_10
      try dsimp only at hr_9
      obtain ⟨hbq_11, hr_9⟩ := hr_9
      have h9R := zRe (ws' := [(mv, .inr (1, [.ref mb, .int q_11, .int 0, .int nb, .int a_])), (mb, .inl (cI, 20, .inl q_12))]) hP hD rfl
      clear hP hD
      obtain ⟨hP, hD⟩ := h9R
      exact W.iret (v := r_9) hx hb hr (fun t ht hW => ⟨⟨r_9, (q_11, 0, nb, a_, q_12), rfl, ⟨(show 0 ≤ q_11.toInt ∧ q_11.toInt ≤ 2000 from ⟨by omega, by omega⟩), trivial⟩, zRet ht hP hD [0, 1] (by decide) rfl⟩, hS.F ht⟩) hS.2.2 dX1_begin_33
  · refine lv_aload_n hx hb dX1_begin_0 rfl (lv_at hl 0 rfl) ?_
    have hsp : mo = 0 ∨ mo = 1 ∨ mo = 2 := by
      rcases (show mo.toInt = 0 ∨ mo.toInt = 1 ∨ mo.toInt = 2 by omega) with h9 | h9 | h9
      · refine Or.inl ?_; exact zf_val h9 (by decide)
      · refine Or.inr (Or.inl ?_); exact zf_val h9 (by decide)
      · refine Or.inr (Or.inr (?_)); exact zf_val h9 (by decide)
    rcases hsp with rfl | rfl | rfl
    · refine lv_aload_n hx hb dX1_begin_1 rfl (lv_at hl 1 rfl) ?_
      refine va_get (D := D) (ci := 2) (v := .int 1) (C := RX2) (T := TX2) (N := 3) hx hb hts hi_X1_begin_2 hown hK (zPu_P (hZ.kept hS) hu_u0) 0 rfl rfl 0 (by decide) (hts (.fieldLink RX1 28 "TheLiningsInIt$Pull" "kind" "I") (List.mem_of_getElem? (i := 1) rfl)) (fun _ h9 => h9) rfl dX1_begin_2 ?_
      refine va_put (D := D) (ci := 1) (v := .int 1) (ty := .int) (C := RX1) (T := TX1) (N := 5) hx hb hts hi_X1_begin_1 tyX1 tyX1_ok nmX1 hown hK hP hD hS 0 rfl rfl 2 (by decide) (hts (.fieldLink RX1 19 "TheLiningsInIt$Moves" "kind" "I") (List.mem_of_getElem? (i := 2) rfl)) (fun _ h9 => h9) rfl (by decide +kernel) rfl rfl (Nat.le_of_ble_eq_true rfl) dX1_begin_5 (fun H locs hP hD hS => ?_)
      have h9R := zRe (ws' := [(mv, .inr (1, [.ref mb, .int mr, .int 1, .int mm, .int mq])), (mb, .inl (cI, 20, .inl fb))]) hP hD rfl
      clear hP hD
      obtain ⟨hP, hD⟩ := h9R
      refine lv_aload_n hx hb dX1_begin_8 rfl (lv_at hl 0 rfl) ?_
      refine lv_iload_n hx hb dX1_begin_9 rfl (lv_at hl 2 rfl) ?_
      refine va_put (D := D) (ci := 1) (v := .int nb) (ty := .int) (C := RX1) (T := TX1) (N := 5) hx hb hts hi_X1_begin_1 tyX1 tyX1_ok nmX1 hown hK hP hD hS 0 rfl rfl 3 (by decide) (hts (.fieldLink RX1 22 "TheLiningsInIt$Moves" "m" "I") (List.mem_of_getElem? (i := 3) rfl)) (fun _ h9 => h9) rfl (by decide +kernel) rfl rfl (Nat.le_of_ble_eq_true rfl) dX1_begin_10 (fun H locs hP hD hS => ?_)
      have h9R := zRe (ws' := [(mv, .inr (1, [.ref mb, .int mr, .int 1, .int nb, .int mq])), (mb, .inl (cI, 20, .inl fb))]) hP hD rfl
      clear hP hD
      obtain ⟨hP, hD⟩ := h9R
      refine lv_aload_n hx hb dX1_begin_13 rfl (lv_at hl 0 rfl) ?_
      refine lv_aload_n hx hb dX1_begin_14 rfl (lv_at hl 1 rfl) ?_
      refine va_get (D := D) (ci := 2) (v := .int a_) (C := RX2) (T := TX2) (N := 3) hx hb hts hi_X1_begin_2 hown hK (zPu_P (hZ.kept hS) hu_u0) 0 rfl rfl 1 (by decide) (hts (.fieldLink RX1 31 "TheLiningsInIt$Pull" "a" "I") (List.mem_of_getElem? (i := 4) rfl)) (fun _ h9 => h9) rfl dX1_begin_15 ?_
      refine va_put (D := D) (ci := 1) (v := .int a_) (ty := .int) (C := RX1) (T := TX1) (N := 5) hx hb hts hi_X1_begin_1 tyX1 tyX1_ok nmX1 hown hK hP hD hS 0 rfl rfl 4 (by decide) (hts (.fieldLink RX1 25 "TheLiningsInIt$Moves" "k" "I") (List.mem_of_getElem? (i := 5) rfl)) (fun _ h9 => h9) rfl (by decide +kernel) rfl rfl (Nat.le_of_ble_eq_true rfl) dX1_begin_18 (fun H locs hP hD hS => ?_)
      have h9R := zRe (ws' := [(mv, .inr (1, [.ref mb, .int mr, .int 1, .int nb, .int a_])), (mb, .inl (cI, 20, .inl fb))]) hP hD rfl
      clear hP hD
      obtain ⟨hP, hD⟩ := h9R
      refine lv_aload_n hx hb dX1_begin_21 rfl (lv_at hl 0 rfl) ?_
      refine lv_aload_n hx hb dX1_begin_22 rfl (lv_at hl 0 rfl) ?_
      refine va_get (D := D) (ci := 1) (v := .int 1) (C := RX1) (T := TX1) (N := 5) hx hb hts hi_X1_begin_1 hown hK hP 0 rfl rfl 2 (by decide) (hts (.fieldLink RX1 19 "TheLiningsInIt$Moves" "kind" "I") (List.mem_of_getElem? (i := 2) rfl)) (fun _ h9 => h9) rfl dX1_begin_23 ?_
      refine lv_iload_n hx hb dX1_begin_26 rfl (lv_at hl 3 rfl) ?_
      refine lv_iload hx hb dX1_begin_27 (lv_at hl 4 rfl) ?_
      refine lv_iconst (v := 0) hx hb dX1_begin_29 (by decide) ?_
      skip
      refine zw_V (As := [.int 1, .int 0, .int x, .int 0]) (rest := []) (wr := []) ⟨hx, hb, hml, hown, hts⟩ (c_M_run_1_1_0_0 l D cI cJ cZ cP cS po mv mb (mr) (nb) (a_) fb (x) hy2 hy3 H.size) (cwV 4 hts gX1_begin_X1_run rfl rfl rfl (by decide +kernel) ⟨Nat.le_of_ble_eq_true rfl, Nat.le_of_ble_eq_true rfl⟩) hK hN (hZ.kept hS) hP hD hS hA [0, 1] [] rfl rfl (by decide) (by decide) (by decide) (va_recv hK hP (ci := 1) (q0 := 0) rfl rfl) rfl hl.1 rfl (Nat.le_of_ble_eq_true rfl) dX1_begin_30 ⟨Nat.le_of_ble_eq_true rfl, Nat.le_of_ble_eq_true rfl⟩ (fun r_13 u_14 H locs hr_13 hP hD hS => ?_)
      obtain ⟨q_15, q_16⟩ := u_14
      try dsimp only at hr_13
      obtain ⟨hbq_15, hr_13⟩ := hr_13
      have h9R := zRe (ws' := [(mv, .inr (1, [.ref mb, .int q_15, .int 1, .int nb, .int a_])), (mb, .inl (cI, 20, .inl q_16))]) hP hD rfl
      clear hP hD
      obtain ⟨hP, hD⟩ := h9R
      exact W.iret (v := r_13) hx hb hr (fun t ht hW => ⟨⟨r_13, (q_15, 1, nb, a_, q_16), rfl, ⟨(show 0 ≤ q_15.toInt ∧ q_15.toInt ≤ 2000 from ⟨by omega, by omega⟩), trivial⟩, zRet ht hP hD [0, 1] (by decide) rfl⟩, hS.F ht⟩) hS.2.2 dX1_begin_33
    · refine lv_aload_n hx hb dX1_begin_1 rfl (lv_at hl 1 rfl) ?_
      refine va_get (D := D) (ci := 2) (v := .int 1) (C := RX2) (T := TX2) (N := 3) hx hb hts hi_X1_begin_2 hown hK (zPu_P (hZ.kept hS) hu_u0) 0 rfl rfl 0 (by decide) (hts (.fieldLink RX1 28 "TheLiningsInIt$Pull" "kind" "I") (List.mem_of_getElem? (i := 1) rfl)) (fun _ h9 => h9) rfl dX1_begin_2 ?_
      refine va_put (D := D) (ci := 1) (v := .int 1) (ty := .int) (C := RX1) (T := TX1) (N := 5) hx hb hts hi_X1_begin_1 tyX1 tyX1_ok nmX1 hown hK hP hD hS 0 rfl rfl 2 (by decide) (hts (.fieldLink RX1 19 "TheLiningsInIt$Moves" "kind" "I") (List.mem_of_getElem? (i := 2) rfl)) (fun _ h9 => h9) rfl (by decide +kernel) rfl rfl (Nat.le_of_ble_eq_true rfl) dX1_begin_5 (fun H locs hP hD hS => ?_)
      have h9R := zRe (ws' := [(mv, .inr (1, [.ref mb, .int mr, .int 1, .int mm, .int mq])), (mb, .inl (cI, 20, .inl fb))]) hP hD rfl
      clear hP hD
      obtain ⟨hP, hD⟩ := h9R
      refine lv_aload_n hx hb dX1_begin_8 rfl (lv_at hl 0 rfl) ?_
      refine lv_iload_n hx hb dX1_begin_9 rfl (lv_at hl 2 rfl) ?_
      refine va_put (D := D) (ci := 1) (v := .int nb) (ty := .int) (C := RX1) (T := TX1) (N := 5) hx hb hts hi_X1_begin_1 tyX1 tyX1_ok nmX1 hown hK hP hD hS 0 rfl rfl 3 (by decide) (hts (.fieldLink RX1 22 "TheLiningsInIt$Moves" "m" "I") (List.mem_of_getElem? (i := 3) rfl)) (fun _ h9 => h9) rfl (by decide +kernel) rfl rfl (Nat.le_of_ble_eq_true rfl) dX1_begin_10 (fun H locs hP hD hS => ?_)
      have h9R := zRe (ws' := [(mv, .inr (1, [.ref mb, .int mr, .int 1, .int nb, .int mq])), (mb, .inl (cI, 20, .inl fb))]) hP hD rfl
      clear hP hD
      obtain ⟨hP, hD⟩ := h9R
      refine lv_aload_n hx hb dX1_begin_13 rfl (lv_at hl 0 rfl) ?_
      refine lv_aload_n hx hb dX1_begin_14 rfl (lv_at hl 1 rfl) ?_
      refine va_get (D := D) (ci := 2) (v := .int a_) (C := RX2) (T := TX2) (N := 3) hx hb hts hi_X1_begin_2 hown hK (zPu_P (hZ.kept hS) hu_u0) 0 rfl rfl 1 (by decide) (hts (.fieldLink RX1 31 "TheLiningsInIt$Pull" "a" "I") (List.mem_of_getElem? (i := 4) rfl)) (fun _ h9 => h9) rfl dX1_begin_15 ?_
      refine va_put (D := D) (ci := 1) (v := .int a_) (ty := .int) (C := RX1) (T := TX1) (N := 5) hx hb hts hi_X1_begin_1 tyX1 tyX1_ok nmX1 hown hK hP hD hS 0 rfl rfl 4 (by decide) (hts (.fieldLink RX1 25 "TheLiningsInIt$Moves" "k" "I") (List.mem_of_getElem? (i := 5) rfl)) (fun _ h9 => h9) rfl (by decide +kernel) rfl rfl (Nat.le_of_ble_eq_true rfl) dX1_begin_18 (fun H locs hP hD hS => ?_)
      have h9R := zRe (ws' := [(mv, .inr (1, [.ref mb, .int mr, .int 1, .int nb, .int a_])), (mb, .inl (cI, 20, .inl fb))]) hP hD rfl
      clear hP hD
      obtain ⟨hP, hD⟩ := h9R
      refine lv_aload_n hx hb dX1_begin_21 rfl (lv_at hl 0 rfl) ?_
      refine lv_aload_n hx hb dX1_begin_22 rfl (lv_at hl 0 rfl) ?_
      refine va_get (D := D) (ci := 1) (v := .int 1) (C := RX1) (T := TX1) (N := 5) hx hb hts hi_X1_begin_1 hown hK hP 0 rfl rfl 2 (by decide) (hts (.fieldLink RX1 19 "TheLiningsInIt$Moves" "kind" "I") (List.mem_of_getElem? (i := 2) rfl)) (fun _ h9 => h9) rfl dX1_begin_23 ?_
      refine lv_iload_n hx hb dX1_begin_26 rfl (lv_at hl 3 rfl) ?_
      refine lv_iload hx hb dX1_begin_27 (lv_at hl 4 rfl) ?_
      refine lv_iconst (v := 0) hx hb dX1_begin_29 (by decide) ?_
      skip
      refine zw_V (As := [.int 1, .int 1, .int x, .int 0]) (rest := []) (wr := []) ⟨hx, hb, hml, hown, hts⟩ (c_M_run_1_1_1_0 l D cI cJ cZ cP cS po mv mb (mr) (nb) (a_) fb (x) hy2 hy3 H.size) (cwV 4 hts gX1_begin_X1_run rfl rfl rfl (by decide +kernel) ⟨Nat.le_of_ble_eq_true rfl, Nat.le_of_ble_eq_true rfl⟩) hK hN (hZ.kept hS) hP hD hS hA [0, 1] [] rfl rfl (by decide) (by decide) (by decide) (va_recv hK hP (ci := 1) (q0 := 0) rfl rfl) rfl hl.1 rfl (Nat.le_of_ble_eq_true rfl) dX1_begin_30 ⟨Nat.le_of_ble_eq_true rfl, Nat.le_of_ble_eq_true rfl⟩ (fun r_17 u_18 H locs hr_17 hP hD hS => ?_)
      obtain ⟨q_19, q_20⟩ := u_18
      try dsimp only at hr_17
      obtain ⟨hbq_19, hr_17⟩ := hr_17
      have h9R := zRe (ws' := [(mv, .inr (1, [.ref mb, .int q_19, .int 1, .int nb, .int a_])), (mb, .inl (cI, 20, .inl q_20))]) hP hD rfl
      clear hP hD
      obtain ⟨hP, hD⟩ := h9R
      exact W.iret (v := r_17) hx hb hr (fun t ht hW => ⟨⟨r_17, (q_19, 1, nb, a_, q_20), rfl, ⟨(show 0 ≤ q_19.toInt ∧ q_19.toInt ≤ 2000 from ⟨by omega, by omega⟩), trivial⟩, zRet ht hP hD [0, 1] (by decide) rfl⟩, hS.F ht⟩) hS.2.2 dX1_begin_33
    · refine lv_aload_n hx hb dX1_begin_1 rfl (lv_at hl 1 rfl) ?_
      refine va_get (D := D) (ci := 2) (v := .int 1) (C := RX2) (T := TX2) (N := 3) hx hb hts hi_X1_begin_2 hown hK (zPu_P (hZ.kept hS) hu_u0) 0 rfl rfl 0 (by decide) (hts (.fieldLink RX1 28 "TheLiningsInIt$Pull" "kind" "I") (List.mem_of_getElem? (i := 1) rfl)) (fun _ h9 => h9) rfl dX1_begin_2 ?_
      refine va_put (D := D) (ci := 1) (v := .int 1) (ty := .int) (C := RX1) (T := TX1) (N := 5) hx hb hts hi_X1_begin_1 tyX1 tyX1_ok nmX1 hown hK hP hD hS 0 rfl rfl 2 (by decide) (hts (.fieldLink RX1 19 "TheLiningsInIt$Moves" "kind" "I") (List.mem_of_getElem? (i := 2) rfl)) (fun _ h9 => h9) rfl (by decide +kernel) rfl rfl (Nat.le_of_ble_eq_true rfl) dX1_begin_5 (fun H locs hP hD hS => ?_)
      have h9R := zRe (ws' := [(mv, .inr (1, [.ref mb, .int mr, .int 1, .int mm, .int mq])), (mb, .inl (cI, 20, .inl fb))]) hP hD rfl
      clear hP hD
      obtain ⟨hP, hD⟩ := h9R
      refine lv_aload_n hx hb dX1_begin_8 rfl (lv_at hl 0 rfl) ?_
      refine lv_iload_n hx hb dX1_begin_9 rfl (lv_at hl 2 rfl) ?_
      refine va_put (D := D) (ci := 1) (v := .int nb) (ty := .int) (C := RX1) (T := TX1) (N := 5) hx hb hts hi_X1_begin_1 tyX1 tyX1_ok nmX1 hown hK hP hD hS 0 rfl rfl 3 (by decide) (hts (.fieldLink RX1 22 "TheLiningsInIt$Moves" "m" "I") (List.mem_of_getElem? (i := 3) rfl)) (fun _ h9 => h9) rfl (by decide +kernel) rfl rfl (Nat.le_of_ble_eq_true rfl) dX1_begin_10 (fun H locs hP hD hS => ?_)
      have h9R := zRe (ws' := [(mv, .inr (1, [.ref mb, .int mr, .int 1, .int nb, .int mq])), (mb, .inl (cI, 20, .inl fb))]) hP hD rfl
      clear hP hD
      obtain ⟨hP, hD⟩ := h9R
      refine lv_aload_n hx hb dX1_begin_13 rfl (lv_at hl 0 rfl) ?_
      refine lv_aload_n hx hb dX1_begin_14 rfl (lv_at hl 1 rfl) ?_
      refine va_get (D := D) (ci := 2) (v := .int a_) (C := RX2) (T := TX2) (N := 3) hx hb hts hi_X1_begin_2 hown hK (zPu_P (hZ.kept hS) hu_u0) 0 rfl rfl 1 (by decide) (hts (.fieldLink RX1 31 "TheLiningsInIt$Pull" "a" "I") (List.mem_of_getElem? (i := 4) rfl)) (fun _ h9 => h9) rfl dX1_begin_15 ?_
      refine va_put (D := D) (ci := 1) (v := .int a_) (ty := .int) (C := RX1) (T := TX1) (N := 5) hx hb hts hi_X1_begin_1 tyX1 tyX1_ok nmX1 hown hK hP hD hS 0 rfl rfl 4 (by decide) (hts (.fieldLink RX1 25 "TheLiningsInIt$Moves" "k" "I") (List.mem_of_getElem? (i := 5) rfl)) (fun _ h9 => h9) rfl (by decide +kernel) rfl rfl (Nat.le_of_ble_eq_true rfl) dX1_begin_18 (fun H locs hP hD hS => ?_)
      have h9R := zRe (ws' := [(mv, .inr (1, [.ref mb, .int mr, .int 1, .int nb, .int a_])), (mb, .inl (cI, 20, .inl fb))]) hP hD rfl
      clear hP hD
      obtain ⟨hP, hD⟩ := h9R
      refine lv_aload_n hx hb dX1_begin_21 rfl (lv_at hl 0 rfl) ?_
      refine lv_aload_n hx hb dX1_begin_22 rfl (lv_at hl 0 rfl) ?_
      refine va_get (D := D) (ci := 1) (v := .int 1) (C := RX1) (T := TX1) (N := 5) hx hb hts hi_X1_begin_1 hown hK hP 0 rfl rfl 2 (by decide) (hts (.fieldLink RX1 19 "TheLiningsInIt$Moves" "kind" "I") (List.mem_of_getElem? (i := 2) rfl)) (fun _ h9 => h9) rfl dX1_begin_23 ?_
      refine lv_iload_n hx hb dX1_begin_26 rfl (lv_at hl 3 rfl) ?_
      refine lv_iload hx hb dX1_begin_27 (lv_at hl 4 rfl) ?_
      refine lv_iconst (v := 0) hx hb dX1_begin_29 (by decide) ?_
      skip
      refine zw_V (As := [.int 1, .int 2, .int x, .int 0]) (rest := []) (wr := []) ⟨hx, hb, hml, hown, hts⟩ (c_M_run_1_1_2_0 l D cI cJ cZ cP cS po mv mb (mr) (nb) (a_) fb (x) hy2 hy3 H.size) (cwV 4 hts gX1_begin_X1_run rfl rfl rfl (by decide +kernel) ⟨Nat.le_of_ble_eq_true rfl, Nat.le_of_ble_eq_true rfl⟩) hK hN (hZ.kept hS) hP hD hS hA [0, 1] [] rfl rfl (by decide) (by decide) (by decide) (va_recv hK hP (ci := 1) (q0 := 0) rfl rfl) rfl hl.1 rfl (Nat.le_of_ble_eq_true rfl) dX1_begin_30 ⟨Nat.le_of_ble_eq_true rfl, Nat.le_of_ble_eq_true rfl⟩ (fun r_21 u_22 H locs hr_21 hP hD hS => ?_)
      obtain ⟨q_23, q_24⟩ := u_22
      try dsimp only at hr_21
      obtain ⟨hbq_23, hr_21⟩ := hr_21
      have h9R := zRe (ws' := [(mv, .inr (1, [.ref mb, .int q_23, .int 1, .int nb, .int a_])), (mb, .inl (cI, 20, .inl q_24))]) hP hD rfl
      clear hP hD
      obtain ⟨hP, hD⟩ := h9R
      exact W.iret (v := r_21) hx hb hr (fun t ht hW => ⟨⟨r_21, (q_23, 1, nb, a_, q_24), rfl, ⟨(show 0 ≤ q_23.toInt ∧ q_23.toInt ≤ 2000 from ⟨by omega, by omega⟩), trivial⟩, zRet ht hP hD [0, 1] (by decide) rfl⟩, hS.F ht⟩) hS.2.2 dX1_begin_33
  · refine lv_aload_n hx hb dX1_begin_0 rfl (lv_at hl 0 rfl) ?_
    have hsp : mo = 0 ∨ mo = 1 ∨ mo = 2 := by
      rcases (show mo.toInt = 0 ∨ mo.toInt = 1 ∨ mo.toInt = 2 by omega) with h9 | h9 | h9
      · refine Or.inl ?_; exact zf_val h9 (by decide)
      · refine Or.inr (Or.inl ?_); exact zf_val h9 (by decide)
      · refine Or.inr (Or.inr (?_)); exact zf_val h9 (by decide)
    rcases hsp with rfl | rfl | rfl
    · refine lv_aload_n hx hb dX1_begin_1 rfl (lv_at hl 1 rfl) ?_
      refine va_get (D := D) (ci := 2) (v := .int 2) (C := RX2) (T := TX2) (N := 3) hx hb hts hi_X1_begin_2 hown hK (zPu_P (hZ.kept hS) hu_u0) 0 rfl rfl 0 (by decide) (hts (.fieldLink RX1 28 "TheLiningsInIt$Pull" "kind" "I") (List.mem_of_getElem? (i := 1) rfl)) (fun _ h9 => h9) rfl dX1_begin_2 ?_
      refine va_put (D := D) (ci := 1) (v := .int 2) (ty := .int) (C := RX1) (T := TX1) (N := 5) hx hb hts hi_X1_begin_1 tyX1 tyX1_ok nmX1 hown hK hP hD hS 0 rfl rfl 2 (by decide) (hts (.fieldLink RX1 19 "TheLiningsInIt$Moves" "kind" "I") (List.mem_of_getElem? (i := 2) rfl)) (fun _ h9 => h9) rfl (by decide +kernel) rfl rfl (Nat.le_of_ble_eq_true rfl) dX1_begin_5 (fun H locs hP hD hS => ?_)
      have h9R := zRe (ws' := [(mv, .inr (1, [.ref mb, .int mr, .int 2, .int mm, .int mq])), (mb, .inl (cI, 20, .inl fb))]) hP hD rfl
      clear hP hD
      obtain ⟨hP, hD⟩ := h9R
      refine lv_aload_n hx hb dX1_begin_8 rfl (lv_at hl 0 rfl) ?_
      refine lv_iload_n hx hb dX1_begin_9 rfl (lv_at hl 2 rfl) ?_
      refine va_put (D := D) (ci := 1) (v := .int nb) (ty := .int) (C := RX1) (T := TX1) (N := 5) hx hb hts hi_X1_begin_1 tyX1 tyX1_ok nmX1 hown hK hP hD hS 0 rfl rfl 3 (by decide) (hts (.fieldLink RX1 22 "TheLiningsInIt$Moves" "m" "I") (List.mem_of_getElem? (i := 3) rfl)) (fun _ h9 => h9) rfl (by decide +kernel) rfl rfl (Nat.le_of_ble_eq_true rfl) dX1_begin_10 (fun H locs hP hD hS => ?_)
      have h9R := zRe (ws' := [(mv, .inr (1, [.ref mb, .int mr, .int 2, .int nb, .int mq])), (mb, .inl (cI, 20, .inl fb))]) hP hD rfl
      clear hP hD
      obtain ⟨hP, hD⟩ := h9R
      refine lv_aload_n hx hb dX1_begin_13 rfl (lv_at hl 0 rfl) ?_
      refine lv_aload_n hx hb dX1_begin_14 rfl (lv_at hl 1 rfl) ?_
      refine va_get (D := D) (ci := 2) (v := .int a_) (C := RX2) (T := TX2) (N := 3) hx hb hts hi_X1_begin_2 hown hK (zPu_P (hZ.kept hS) hu_u0) 0 rfl rfl 1 (by decide) (hts (.fieldLink RX1 31 "TheLiningsInIt$Pull" "a" "I") (List.mem_of_getElem? (i := 4) rfl)) (fun _ h9 => h9) rfl dX1_begin_15 ?_
      refine va_put (D := D) (ci := 1) (v := .int a_) (ty := .int) (C := RX1) (T := TX1) (N := 5) hx hb hts hi_X1_begin_1 tyX1 tyX1_ok nmX1 hown hK hP hD hS 0 rfl rfl 4 (by decide) (hts (.fieldLink RX1 25 "TheLiningsInIt$Moves" "k" "I") (List.mem_of_getElem? (i := 5) rfl)) (fun _ h9 => h9) rfl (by decide +kernel) rfl rfl (Nat.le_of_ble_eq_true rfl) dX1_begin_18 (fun H locs hP hD hS => ?_)
      have h9R := zRe (ws' := [(mv, .inr (1, [.ref mb, .int mr, .int 2, .int nb, .int a_])), (mb, .inl (cI, 20, .inl fb))]) hP hD rfl
      clear hP hD
      obtain ⟨hP, hD⟩ := h9R
      refine lv_aload_n hx hb dX1_begin_21 rfl (lv_at hl 0 rfl) ?_
      refine lv_aload_n hx hb dX1_begin_22 rfl (lv_at hl 0 rfl) ?_
      refine va_get (D := D) (ci := 1) (v := .int 2) (C := RX1) (T := TX1) (N := 5) hx hb hts hi_X1_begin_1 hown hK hP 0 rfl rfl 2 (by decide) (hts (.fieldLink RX1 19 "TheLiningsInIt$Moves" "kind" "I") (List.mem_of_getElem? (i := 2) rfl)) (fun _ h9 => h9) rfl dX1_begin_23 ?_
      refine lv_iload_n hx hb dX1_begin_26 rfl (lv_at hl 3 rfl) ?_
      refine lv_iload hx hb dX1_begin_27 (lv_at hl 4 rfl) ?_
      refine lv_iconst (v := 0) hx hb dX1_begin_29 (by decide) ?_
      skip
      refine zw_V (As := [.int 2, .int 0, .int x, .int 0]) (rest := []) (wr := []) ⟨hx, hb, hml, hown, hts⟩ (c_M_run_2_2_0_0 l D cI cJ cZ cP cS po mv mb (mr) (nb) (a_) fb (x) hy2 hy3 H.size) (cwV 4 hts gX1_begin_X1_run rfl rfl rfl (by decide +kernel) ⟨Nat.le_of_ble_eq_true rfl, Nat.le_of_ble_eq_true rfl⟩) hK hN (hZ.kept hS) hP hD hS hA [0, 1] [] rfl rfl (by decide) (by decide) (by decide) (va_recv hK hP (ci := 1) (q0 := 0) rfl rfl) rfl hl.1 rfl (Nat.le_of_ble_eq_true rfl) dX1_begin_30 ⟨Nat.le_of_ble_eq_true rfl, Nat.le_of_ble_eq_true rfl⟩ (fun r_25 u_26 H locs hr_25 hP hD hS => ?_)
      obtain ⟨q_27, q_28⟩ := u_26
      try dsimp only at hr_25
      obtain ⟨hbq_27, hr_25⟩ := hr_25
      have h9R := zRe (ws' := [(mv, .inr (1, [.ref mb, .int q_27, .int 2, .int nb, .int a_])), (mb, .inl (cI, 20, .inl q_28))]) hP hD rfl
      clear hP hD
      obtain ⟨hP, hD⟩ := h9R
      exact W.iret (v := r_25) hx hb hr (fun t ht hW => ⟨⟨r_25, (q_27, 2, nb, a_, q_28), rfl, ⟨(show 0 ≤ q_27.toInt ∧ q_27.toInt ≤ 2000 from ⟨by omega, by omega⟩), trivial⟩, zRet ht hP hD [0, 1] (by decide) rfl⟩, hS.F ht⟩) hS.2.2 dX1_begin_33
    · refine lv_aload_n hx hb dX1_begin_1 rfl (lv_at hl 1 rfl) ?_
      refine va_get (D := D) (ci := 2) (v := .int 2) (C := RX2) (T := TX2) (N := 3) hx hb hts hi_X1_begin_2 hown hK (zPu_P (hZ.kept hS) hu_u0) 0 rfl rfl 0 (by decide) (hts (.fieldLink RX1 28 "TheLiningsInIt$Pull" "kind" "I") (List.mem_of_getElem? (i := 1) rfl)) (fun _ h9 => h9) rfl dX1_begin_2 ?_
      refine va_put (D := D) (ci := 1) (v := .int 2) (ty := .int) (C := RX1) (T := TX1) (N := 5) hx hb hts hi_X1_begin_1 tyX1 tyX1_ok nmX1 hown hK hP hD hS 0 rfl rfl 2 (by decide) (hts (.fieldLink RX1 19 "TheLiningsInIt$Moves" "kind" "I") (List.mem_of_getElem? (i := 2) rfl)) (fun _ h9 => h9) rfl (by decide +kernel) rfl rfl (Nat.le_of_ble_eq_true rfl) dX1_begin_5 (fun H locs hP hD hS => ?_)
      have h9R := zRe (ws' := [(mv, .inr (1, [.ref mb, .int mr, .int 2, .int mm, .int mq])), (mb, .inl (cI, 20, .inl fb))]) hP hD rfl
      clear hP hD
      obtain ⟨hP, hD⟩ := h9R
      refine lv_aload_n hx hb dX1_begin_8 rfl (lv_at hl 0 rfl) ?_
      refine lv_iload_n hx hb dX1_begin_9 rfl (lv_at hl 2 rfl) ?_
      refine va_put (D := D) (ci := 1) (v := .int nb) (ty := .int) (C := RX1) (T := TX1) (N := 5) hx hb hts hi_X1_begin_1 tyX1 tyX1_ok nmX1 hown hK hP hD hS 0 rfl rfl 3 (by decide) (hts (.fieldLink RX1 22 "TheLiningsInIt$Moves" "m" "I") (List.mem_of_getElem? (i := 3) rfl)) (fun _ h9 => h9) rfl (by decide +kernel) rfl rfl (Nat.le_of_ble_eq_true rfl) dX1_begin_10 (fun H locs hP hD hS => ?_)
      have h9R := zRe (ws' := [(mv, .inr (1, [.ref mb, .int mr, .int 2, .int nb, .int mq])), (mb, .inl (cI, 20, .inl fb))]) hP hD rfl
      clear hP hD
      obtain ⟨hP, hD⟩ := h9R
      refine lv_aload_n hx hb dX1_begin_13 rfl (lv_at hl 0 rfl) ?_
      refine lv_aload_n hx hb dX1_begin_14 rfl (lv_at hl 1 rfl) ?_
      refine va_get (D := D) (ci := 2) (v := .int a_) (C := RX2) (T := TX2) (N := 3) hx hb hts hi_X1_begin_2 hown hK (zPu_P (hZ.kept hS) hu_u0) 0 rfl rfl 1 (by decide) (hts (.fieldLink RX1 31 "TheLiningsInIt$Pull" "a" "I") (List.mem_of_getElem? (i := 4) rfl)) (fun _ h9 => h9) rfl dX1_begin_15 ?_
      refine va_put (D := D) (ci := 1) (v := .int a_) (ty := .int) (C := RX1) (T := TX1) (N := 5) hx hb hts hi_X1_begin_1 tyX1 tyX1_ok nmX1 hown hK hP hD hS 0 rfl rfl 4 (by decide) (hts (.fieldLink RX1 25 "TheLiningsInIt$Moves" "k" "I") (List.mem_of_getElem? (i := 5) rfl)) (fun _ h9 => h9) rfl (by decide +kernel) rfl rfl (Nat.le_of_ble_eq_true rfl) dX1_begin_18 (fun H locs hP hD hS => ?_)
      have h9R := zRe (ws' := [(mv, .inr (1, [.ref mb, .int mr, .int 2, .int nb, .int a_])), (mb, .inl (cI, 20, .inl fb))]) hP hD rfl
      clear hP hD
      obtain ⟨hP, hD⟩ := h9R
      refine lv_aload_n hx hb dX1_begin_21 rfl (lv_at hl 0 rfl) ?_
      refine lv_aload_n hx hb dX1_begin_22 rfl (lv_at hl 0 rfl) ?_
      refine va_get (D := D) (ci := 1) (v := .int 2) (C := RX1) (T := TX1) (N := 5) hx hb hts hi_X1_begin_1 hown hK hP 0 rfl rfl 2 (by decide) (hts (.fieldLink RX1 19 "TheLiningsInIt$Moves" "kind" "I") (List.mem_of_getElem? (i := 2) rfl)) (fun _ h9 => h9) rfl dX1_begin_23 ?_
      refine lv_iload_n hx hb dX1_begin_26 rfl (lv_at hl 3 rfl) ?_
      refine lv_iload hx hb dX1_begin_27 (lv_at hl 4 rfl) ?_
      refine lv_iconst (v := 0) hx hb dX1_begin_29 (by decide) ?_
      skip
      refine zw_V (As := [.int 2, .int 1, .int x, .int 0]) (rest := []) (wr := []) ⟨hx, hb, hml, hown, hts⟩ (c_M_run_2_2_1_0 l D cI cJ cZ cP cS po mv mb (mr) (nb) (a_) fb (x) hy2 hy3 H.size) (cwV 4 hts gX1_begin_X1_run rfl rfl rfl (by decide +kernel) ⟨Nat.le_of_ble_eq_true rfl, Nat.le_of_ble_eq_true rfl⟩) hK hN (hZ.kept hS) hP hD hS hA [0, 1] [] rfl rfl (by decide) (by decide) (by decide) (va_recv hK hP (ci := 1) (q0 := 0) rfl rfl) rfl hl.1 rfl (Nat.le_of_ble_eq_true rfl) dX1_begin_30 ⟨Nat.le_of_ble_eq_true rfl, Nat.le_of_ble_eq_true rfl⟩ (fun r_29 u_30 H locs hr_29 hP hD hS => ?_)
      obtain ⟨q_31, q_32⟩ := u_30
      try dsimp only at hr_29
      obtain ⟨hbq_31, hr_29⟩ := hr_29
      have h9R := zRe (ws' := [(mv, .inr (1, [.ref mb, .int q_31, .int 2, .int nb, .int a_])), (mb, .inl (cI, 20, .inl q_32))]) hP hD rfl
      clear hP hD
      obtain ⟨hP, hD⟩ := h9R
      exact W.iret (v := r_29) hx hb hr (fun t ht hW => ⟨⟨r_29, (q_31, 2, nb, a_, q_32), rfl, ⟨(show 0 ≤ q_31.toInt ∧ q_31.toInt ≤ 2000 from ⟨by omega, by omega⟩), trivial⟩, zRet ht hP hD [0, 1] (by decide) rfl⟩, hS.F ht⟩) hS.2.2 dX1_begin_33
    · refine lv_aload_n hx hb dX1_begin_1 rfl (lv_at hl 1 rfl) ?_
      refine va_get (D := D) (ci := 2) (v := .int 2) (C := RX2) (T := TX2) (N := 3) hx hb hts hi_X1_begin_2 hown hK (zPu_P (hZ.kept hS) hu_u0) 0 rfl rfl 0 (by decide) (hts (.fieldLink RX1 28 "TheLiningsInIt$Pull" "kind" "I") (List.mem_of_getElem? (i := 1) rfl)) (fun _ h9 => h9) rfl dX1_begin_2 ?_
      refine va_put (D := D) (ci := 1) (v := .int 2) (ty := .int) (C := RX1) (T := TX1) (N := 5) hx hb hts hi_X1_begin_1 tyX1 tyX1_ok nmX1 hown hK hP hD hS 0 rfl rfl 2 (by decide) (hts (.fieldLink RX1 19 "TheLiningsInIt$Moves" "kind" "I") (List.mem_of_getElem? (i := 2) rfl)) (fun _ h9 => h9) rfl (by decide +kernel) rfl rfl (Nat.le_of_ble_eq_true rfl) dX1_begin_5 (fun H locs hP hD hS => ?_)
      have h9R := zRe (ws' := [(mv, .inr (1, [.ref mb, .int mr, .int 2, .int mm, .int mq])), (mb, .inl (cI, 20, .inl fb))]) hP hD rfl
      clear hP hD
      obtain ⟨hP, hD⟩ := h9R
      refine lv_aload_n hx hb dX1_begin_8 rfl (lv_at hl 0 rfl) ?_
      refine lv_iload_n hx hb dX1_begin_9 rfl (lv_at hl 2 rfl) ?_
      refine va_put (D := D) (ci := 1) (v := .int nb) (ty := .int) (C := RX1) (T := TX1) (N := 5) hx hb hts hi_X1_begin_1 tyX1 tyX1_ok nmX1 hown hK hP hD hS 0 rfl rfl 3 (by decide) (hts (.fieldLink RX1 22 "TheLiningsInIt$Moves" "m" "I") (List.mem_of_getElem? (i := 3) rfl)) (fun _ h9 => h9) rfl (by decide +kernel) rfl rfl (Nat.le_of_ble_eq_true rfl) dX1_begin_10 (fun H locs hP hD hS => ?_)
      have h9R := zRe (ws' := [(mv, .inr (1, [.ref mb, .int mr, .int 2, .int nb, .int mq])), (mb, .inl (cI, 20, .inl fb))]) hP hD rfl
      clear hP hD
      obtain ⟨hP, hD⟩ := h9R
      refine lv_aload_n hx hb dX1_begin_13 rfl (lv_at hl 0 rfl) ?_
      refine lv_aload_n hx hb dX1_begin_14 rfl (lv_at hl 1 rfl) ?_
      refine va_get (D := D) (ci := 2) (v := .int a_) (C := RX2) (T := TX2) (N := 3) hx hb hts hi_X1_begin_2 hown hK (zPu_P (hZ.kept hS) hu_u0) 0 rfl rfl 1 (by decide) (hts (.fieldLink RX1 31 "TheLiningsInIt$Pull" "a" "I") (List.mem_of_getElem? (i := 4) rfl)) (fun _ h9 => h9) rfl dX1_begin_15 ?_
      refine va_put (D := D) (ci := 1) (v := .int a_) (ty := .int) (C := RX1) (T := TX1) (N := 5) hx hb hts hi_X1_begin_1 tyX1 tyX1_ok nmX1 hown hK hP hD hS 0 rfl rfl 4 (by decide) (hts (.fieldLink RX1 25 "TheLiningsInIt$Moves" "k" "I") (List.mem_of_getElem? (i := 5) rfl)) (fun _ h9 => h9) rfl (by decide +kernel) rfl rfl (Nat.le_of_ble_eq_true rfl) dX1_begin_18 (fun H locs hP hD hS => ?_)
      have h9R := zRe (ws' := [(mv, .inr (1, [.ref mb, .int mr, .int 2, .int nb, .int a_])), (mb, .inl (cI, 20, .inl fb))]) hP hD rfl
      clear hP hD
      obtain ⟨hP, hD⟩ := h9R
      refine lv_aload_n hx hb dX1_begin_21 rfl (lv_at hl 0 rfl) ?_
      refine lv_aload_n hx hb dX1_begin_22 rfl (lv_at hl 0 rfl) ?_
      refine va_get (D := D) (ci := 1) (v := .int 2) (C := RX1) (T := TX1) (N := 5) hx hb hts hi_X1_begin_1 hown hK hP 0 rfl rfl 2 (by decide) (hts (.fieldLink RX1 19 "TheLiningsInIt$Moves" "kind" "I") (List.mem_of_getElem? (i := 2) rfl)) (fun _ h9 => h9) rfl dX1_begin_23 ?_
      refine lv_iload_n hx hb dX1_begin_26 rfl (lv_at hl 3 rfl) ?_
      refine lv_iload hx hb dX1_begin_27 (lv_at hl 4 rfl) ?_
      refine lv_iconst (v := 0) hx hb dX1_begin_29 (by decide) ?_
      skip
      refine zw_V (As := [.int 2, .int 2, .int x, .int 0]) (rest := []) (wr := []) ⟨hx, hb, hml, hown, hts⟩ (c_M_run_2_2_2_0 l D cI cJ cZ cP cS po mv mb (mr) (nb) (a_) fb (x) hy2 hy3 H.size) (cwV 4 hts gX1_begin_X1_run rfl rfl rfl (by decide +kernel) ⟨Nat.le_of_ble_eq_true rfl, Nat.le_of_ble_eq_true rfl⟩) hK hN (hZ.kept hS) hP hD hS hA [0, 1] [] rfl rfl (by decide) (by decide) (by decide) (va_recv hK hP (ci := 1) (q0 := 0) rfl rfl) rfl hl.1 rfl (Nat.le_of_ble_eq_true rfl) dX1_begin_30 ⟨Nat.le_of_ble_eq_true rfl, Nat.le_of_ble_eq_true rfl⟩ (fun r_33 u_34 H locs hr_33 hP hD hS => ?_)
      obtain ⟨q_35, q_36⟩ := u_34
      try dsimp only at hr_33
      obtain ⟨hbq_35, hr_33⟩ := hr_33
      have h9R := zRe (ws' := [(mv, .inr (1, [.ref mb, .int q_35, .int 2, .int nb, .int a_])), (mb, .inl (cI, 20, .inl q_36))]) hP hD rfl
      clear hP hD
      obtain ⟨hP, hD⟩ := h9R
      exact W.iret (v := r_33) hx hb hr (fun t ht hW => ⟨⟨r_33, (q_35, 2, nb, a_, q_36), rfl, ⟨(show 0 ≤ q_35.toInt ∧ q_35.toInt ≤ 2000 from ⟨by omega, by omega⟩), trivial⟩, zRet ht hP hD [0, 1] (by decide) rfl⟩, hS.F ht⟩) hS.2.2 dX1_begin_33
  · refine lv_aload_n hx hb dX1_begin_0 rfl (lv_at hl 0 rfl) ?_
    have hsp : mo = 0 ∨ mo = 1 ∨ mo = 2 := by
      rcases (show mo.toInt = 0 ∨ mo.toInt = 1 ∨ mo.toInt = 2 by omega) with h9 | h9 | h9
      · refine Or.inl ?_; exact zf_val h9 (by decide)
      · refine Or.inr (Or.inl ?_); exact zf_val h9 (by decide)
      · refine Or.inr (Or.inr (?_)); exact zf_val h9 (by decide)
    rcases hsp with rfl | rfl | rfl
    · refine lv_aload_n hx hb dX1_begin_1 rfl (lv_at hl 1 rfl) ?_
      refine va_get (D := D) (ci := 2) (v := .int 3) (C := RX2) (T := TX2) (N := 3) hx hb hts hi_X1_begin_2 hown hK (zPu_P (hZ.kept hS) hu_u0) 0 rfl rfl 0 (by decide) (hts (.fieldLink RX1 28 "TheLiningsInIt$Pull" "kind" "I") (List.mem_of_getElem? (i := 1) rfl)) (fun _ h9 => h9) rfl dX1_begin_2 ?_
      refine va_put (D := D) (ci := 1) (v := .int 3) (ty := .int) (C := RX1) (T := TX1) (N := 5) hx hb hts hi_X1_begin_1 tyX1 tyX1_ok nmX1 hown hK hP hD hS 0 rfl rfl 2 (by decide) (hts (.fieldLink RX1 19 "TheLiningsInIt$Moves" "kind" "I") (List.mem_of_getElem? (i := 2) rfl)) (fun _ h9 => h9) rfl (by decide +kernel) rfl rfl (Nat.le_of_ble_eq_true rfl) dX1_begin_5 (fun H locs hP hD hS => ?_)
      have h9R := zRe (ws' := [(mv, .inr (1, [.ref mb, .int mr, .int 3, .int mm, .int mq])), (mb, .inl (cI, 20, .inl fb))]) hP hD rfl
      clear hP hD
      obtain ⟨hP, hD⟩ := h9R
      refine lv_aload_n hx hb dX1_begin_8 rfl (lv_at hl 0 rfl) ?_
      refine lv_iload_n hx hb dX1_begin_9 rfl (lv_at hl 2 rfl) ?_
      refine va_put (D := D) (ci := 1) (v := .int nb) (ty := .int) (C := RX1) (T := TX1) (N := 5) hx hb hts hi_X1_begin_1 tyX1 tyX1_ok nmX1 hown hK hP hD hS 0 rfl rfl 3 (by decide) (hts (.fieldLink RX1 22 "TheLiningsInIt$Moves" "m" "I") (List.mem_of_getElem? (i := 3) rfl)) (fun _ h9 => h9) rfl (by decide +kernel) rfl rfl (Nat.le_of_ble_eq_true rfl) dX1_begin_10 (fun H locs hP hD hS => ?_)
      have h9R := zRe (ws' := [(mv, .inr (1, [.ref mb, .int mr, .int 3, .int nb, .int mq])), (mb, .inl (cI, 20, .inl fb))]) hP hD rfl
      clear hP hD
      obtain ⟨hP, hD⟩ := h9R
      refine lv_aload_n hx hb dX1_begin_13 rfl (lv_at hl 0 rfl) ?_
      refine lv_aload_n hx hb dX1_begin_14 rfl (lv_at hl 1 rfl) ?_
      refine va_get (D := D) (ci := 2) (v := .int a_) (C := RX2) (T := TX2) (N := 3) hx hb hts hi_X1_begin_2 hown hK (zPu_P (hZ.kept hS) hu_u0) 0 rfl rfl 1 (by decide) (hts (.fieldLink RX1 31 "TheLiningsInIt$Pull" "a" "I") (List.mem_of_getElem? (i := 4) rfl)) (fun _ h9 => h9) rfl dX1_begin_15 ?_
      refine va_put (D := D) (ci := 1) (v := .int a_) (ty := .int) (C := RX1) (T := TX1) (N := 5) hx hb hts hi_X1_begin_1 tyX1 tyX1_ok nmX1 hown hK hP hD hS 0 rfl rfl 4 (by decide) (hts (.fieldLink RX1 25 "TheLiningsInIt$Moves" "k" "I") (List.mem_of_getElem? (i := 5) rfl)) (fun _ h9 => h9) rfl (by decide +kernel) rfl rfl (Nat.le_of_ble_eq_true rfl) dX1_begin_18 (fun H locs hP hD hS => ?_)
      have h9R := zRe (ws' := [(mv, .inr (1, [.ref mb, .int mr, .int 3, .int nb, .int a_])), (mb, .inl (cI, 20, .inl fb))]) hP hD rfl
      clear hP hD
      obtain ⟨hP, hD⟩ := h9R
      refine lv_aload_n hx hb dX1_begin_21 rfl (lv_at hl 0 rfl) ?_
      refine lv_aload_n hx hb dX1_begin_22 rfl (lv_at hl 0 rfl) ?_
      refine va_get (D := D) (ci := 1) (v := .int 3) (C := RX1) (T := TX1) (N := 5) hx hb hts hi_X1_begin_1 hown hK hP 0 rfl rfl 2 (by decide) (hts (.fieldLink RX1 19 "TheLiningsInIt$Moves" "kind" "I") (List.mem_of_getElem? (i := 2) rfl)) (fun _ h9 => h9) rfl dX1_begin_23 ?_
      refine lv_iload_n hx hb dX1_begin_26 rfl (lv_at hl 3 rfl) ?_
      refine lv_iload hx hb dX1_begin_27 (lv_at hl 4 rfl) ?_
      refine lv_iconst (v := 0) hx hb dX1_begin_29 (by decide) ?_
      skip
      refine zw_V (As := [.int 3, .int 0, .int x, .int 0]) (rest := []) (wr := []) ⟨hx, hb, hml, hown, hts⟩ (c_M_run_3_3_0_0 l D cI cJ cZ cP cS po mv mb (mr) (nb) (a_) fb (x) hy2 hy3 H.size) (cwV 4 hts gX1_begin_X1_run rfl rfl rfl (by decide +kernel) ⟨Nat.le_of_ble_eq_true rfl, Nat.le_of_ble_eq_true rfl⟩) hK hN (hZ.kept hS) hP hD hS hA [0, 1] [] rfl rfl (by decide) (by decide) (by decide) (va_recv hK hP (ci := 1) (q0 := 0) rfl rfl) rfl hl.1 rfl (Nat.le_of_ble_eq_true rfl) dX1_begin_30 ⟨Nat.le_of_ble_eq_true rfl, Nat.le_of_ble_eq_true rfl⟩ (fun r_37 u_38 H locs hr_37 hP hD hS => ?_)
      obtain ⟨q_39, q_40⟩ := u_38
      try dsimp only at hr_37
      obtain ⟨hbq_39, hr_37⟩ := hr_37
      have h9R := zRe (ws' := [(mv, .inr (1, [.ref mb, .int q_39, .int 3, .int nb, .int a_])), (mb, .inl (cI, 20, .inl q_40))]) hP hD rfl
      clear hP hD
      obtain ⟨hP, hD⟩ := h9R
      exact W.iret (v := r_37) hx hb hr (fun t ht hW => ⟨⟨r_37, (q_39, 3, nb, a_, q_40), rfl, ⟨(show 0 ≤ q_39.toInt ∧ q_39.toInt ≤ 2000 from ⟨by omega, by omega⟩), trivial⟩, zRet ht hP hD [0, 1] (by decide) rfl⟩, hS.F ht⟩) hS.2.2 dX1_begin_33
    · refine lv_aload_n hx hb dX1_begin_1 rfl (lv_at hl 1 rfl) ?_
      refine va_get (D := D) (ci := 2) (v := .int 3) (C := RX2) (T := TX2) (N := 3) hx hb hts hi_X1_begin_2 hown hK (zPu_P (hZ.kept hS) hu_u0) 0 rfl rfl 0 (by decide) (hts (.fieldLink RX1 28 "TheLiningsInIt$Pull" "kind" "I") (List.mem_of_getElem? (i := 1) rfl)) (fun _ h9 => h9) rfl dX1_begin_2 ?_
      refine va_put (D := D) (ci := 1) (v := .int 3) (ty := .int) (C := RX1) (T := TX1) (N := 5) hx hb hts hi_X1_begin_1 tyX1 tyX1_ok nmX1 hown hK hP hD hS 0 rfl rfl 2 (by decide) (hts (.fieldLink RX1 19 "TheLiningsInIt$Moves" "kind" "I") (List.mem_of_getElem? (i := 2) rfl)) (fun _ h9 => h9) rfl (by decide +kernel) rfl rfl (Nat.le_of_ble_eq_true rfl) dX1_begin_5 (fun H locs hP hD hS => ?_)
      have h9R := zRe (ws' := [(mv, .inr (1, [.ref mb, .int mr, .int 3, .int mm, .int mq])), (mb, .inl (cI, 20, .inl fb))]) hP hD rfl
      clear hP hD
      obtain ⟨hP, hD⟩ := h9R
      refine lv_aload_n hx hb dX1_begin_8 rfl (lv_at hl 0 rfl) ?_
      refine lv_iload_n hx hb dX1_begin_9 rfl (lv_at hl 2 rfl) ?_
      refine va_put (D := D) (ci := 1) (v := .int nb) (ty := .int) (C := RX1) (T := TX1) (N := 5) hx hb hts hi_X1_begin_1 tyX1 tyX1_ok nmX1 hown hK hP hD hS 0 rfl rfl 3 (by decide) (hts (.fieldLink RX1 22 "TheLiningsInIt$Moves" "m" "I") (List.mem_of_getElem? (i := 3) rfl)) (fun _ h9 => h9) rfl (by decide +kernel) rfl rfl (Nat.le_of_ble_eq_true rfl) dX1_begin_10 (fun H locs hP hD hS => ?_)
      have h9R := zRe (ws' := [(mv, .inr (1, [.ref mb, .int mr, .int 3, .int nb, .int mq])), (mb, .inl (cI, 20, .inl fb))]) hP hD rfl
      clear hP hD
      obtain ⟨hP, hD⟩ := h9R
      refine lv_aload_n hx hb dX1_begin_13 rfl (lv_at hl 0 rfl) ?_
      refine lv_aload_n hx hb dX1_begin_14 rfl (lv_at hl 1 rfl) ?_
      refine va_get (D := D) (ci := 2) (v := .int a_) (C := RX2) (T := TX2) (N := 3) hx hb hts hi_X1_begin_2 hown hK (zPu_P (hZ.kept hS) hu_u0) 0 rfl rfl 1 (by decide) (hts (.fieldLink RX1 31 "TheLiningsInIt$Pull" "a" "I") (List.mem_of_getElem? (i := 4) rfl)) (fun _ h9 => h9) rfl dX1_begin_15 ?_
      refine va_put (D := D) (ci := 1) (v := .int a_) (ty := .int) (C := RX1) (T := TX1) (N := 5) hx hb hts hi_X1_begin_1 tyX1 tyX1_ok nmX1 hown hK hP hD hS 0 rfl rfl 4 (by decide) (hts (.fieldLink RX1 25 "TheLiningsInIt$Moves" "k" "I") (List.mem_of_getElem? (i := 5) rfl)) (fun _ h9 => h9) rfl (by decide +kernel) rfl rfl (Nat.le_of_ble_eq_true rfl) dX1_begin_18 (fun H locs hP hD hS => ?_)
      have h9R := zRe (ws' := [(mv, .inr (1, [.ref mb, .int mr, .int 3, .int nb, .int a_])), (mb, .inl (cI, 20, .inl fb))]) hP hD rfl
      clear hP hD
      obtain ⟨hP, hD⟩ := h9R
      refine lv_aload_n hx hb dX1_begin_21 rfl (lv_at hl 0 rfl) ?_
      refine lv_aload_n hx hb dX1_begin_22 rfl (lv_at hl 0 rfl) ?_
      refine va_get (D := D) (ci := 1) (v := .int 3) (C := RX1) (T := TX1) (N := 5) hx hb hts hi_X1_begin_1 hown hK hP 0 rfl rfl 2 (by decide) (hts (.fieldLink RX1 19 "TheLiningsInIt$Moves" "kind" "I") (List.mem_of_getElem? (i := 2) rfl)) (fun _ h9 => h9) rfl dX1_begin_23 ?_
      refine lv_iload_n hx hb dX1_begin_26 rfl (lv_at hl 3 rfl) ?_
      refine lv_iload hx hb dX1_begin_27 (lv_at hl 4 rfl) ?_
      refine lv_iconst (v := 0) hx hb dX1_begin_29 (by decide) ?_
      skip
      refine zw_V (As := [.int 3, .int 1, .int x, .int 0]) (rest := []) (wr := []) ⟨hx, hb, hml, hown, hts⟩ (c_M_run_3_3_1_0 l D cI cJ cZ cP cS po mv mb (mr) (nb) (a_) fb (x) hy2 hy3 H.size) (cwV 4 hts gX1_begin_X1_run rfl rfl rfl (by decide +kernel) ⟨Nat.le_of_ble_eq_true rfl, Nat.le_of_ble_eq_true rfl⟩) hK hN (hZ.kept hS) hP hD hS hA [0, 1] [] rfl rfl (by decide) (by decide) (by decide) (va_recv hK hP (ci := 1) (q0 := 0) rfl rfl) rfl hl.1 rfl (Nat.le_of_ble_eq_true rfl) dX1_begin_30 ⟨Nat.le_of_ble_eq_true rfl, Nat.le_of_ble_eq_true rfl⟩ (fun r_41 u_42 H locs hr_41 hP hD hS => ?_)
      obtain ⟨q_43, q_44⟩ := u_42
      try dsimp only at hr_41
      obtain ⟨hbq_43, hr_41⟩ := hr_41
      have h9R := zRe (ws' := [(mv, .inr (1, [.ref mb, .int q_43, .int 3, .int nb, .int a_])), (mb, .inl (cI, 20, .inl q_44))]) hP hD rfl
      clear hP hD
      obtain ⟨hP, hD⟩ := h9R
      exact W.iret (v := r_41) hx hb hr (fun t ht hW => ⟨⟨r_41, (q_43, 3, nb, a_, q_44), rfl, ⟨(show 0 ≤ q_43.toInt ∧ q_43.toInt ≤ 2000 from ⟨by omega, by omega⟩), trivial⟩, zRet ht hP hD [0, 1] (by decide) rfl⟩, hS.F ht⟩) hS.2.2 dX1_begin_33
    · refine lv_aload_n hx hb dX1_begin_1 rfl (lv_at hl 1 rfl) ?_
      refine va_get (D := D) (ci := 2) (v := .int 3) (C := RX2) (T := TX2) (N := 3) hx hb hts hi_X1_begin_2 hown hK (zPu_P (hZ.kept hS) hu_u0) 0 rfl rfl 0 (by decide) (hts (.fieldLink RX1 28 "TheLiningsInIt$Pull" "kind" "I") (List.mem_of_getElem? (i := 1) rfl)) (fun _ h9 => h9) rfl dX1_begin_2 ?_
      refine va_put (D := D) (ci := 1) (v := .int 3) (ty := .int) (C := RX1) (T := TX1) (N := 5) hx hb hts hi_X1_begin_1 tyX1 tyX1_ok nmX1 hown hK hP hD hS 0 rfl rfl 2 (by decide) (hts (.fieldLink RX1 19 "TheLiningsInIt$Moves" "kind" "I") (List.mem_of_getElem? (i := 2) rfl)) (fun _ h9 => h9) rfl (by decide +kernel) rfl rfl (Nat.le_of_ble_eq_true rfl) dX1_begin_5 (fun H locs hP hD hS => ?_)
      have h9R := zRe (ws' := [(mv, .inr (1, [.ref mb, .int mr, .int 3, .int mm, .int mq])), (mb, .inl (cI, 20, .inl fb))]) hP hD rfl
      clear hP hD
      obtain ⟨hP, hD⟩ := h9R
      refine lv_aload_n hx hb dX1_begin_8 rfl (lv_at hl 0 rfl) ?_
      refine lv_iload_n hx hb dX1_begin_9 rfl (lv_at hl 2 rfl) ?_
      refine va_put (D := D) (ci := 1) (v := .int nb) (ty := .int) (C := RX1) (T := TX1) (N := 5) hx hb hts hi_X1_begin_1 tyX1 tyX1_ok nmX1 hown hK hP hD hS 0 rfl rfl 3 (by decide) (hts (.fieldLink RX1 22 "TheLiningsInIt$Moves" "m" "I") (List.mem_of_getElem? (i := 3) rfl)) (fun _ h9 => h9) rfl (by decide +kernel) rfl rfl (Nat.le_of_ble_eq_true rfl) dX1_begin_10 (fun H locs hP hD hS => ?_)
      have h9R := zRe (ws' := [(mv, .inr (1, [.ref mb, .int mr, .int 3, .int nb, .int mq])), (mb, .inl (cI, 20, .inl fb))]) hP hD rfl
      clear hP hD
      obtain ⟨hP, hD⟩ := h9R
      refine lv_aload_n hx hb dX1_begin_13 rfl (lv_at hl 0 rfl) ?_
      refine lv_aload_n hx hb dX1_begin_14 rfl (lv_at hl 1 rfl) ?_
      refine va_get (D := D) (ci := 2) (v := .int a_) (C := RX2) (T := TX2) (N := 3) hx hb hts hi_X1_begin_2 hown hK (zPu_P (hZ.kept hS) hu_u0) 0 rfl rfl 1 (by decide) (hts (.fieldLink RX1 31 "TheLiningsInIt$Pull" "a" "I") (List.mem_of_getElem? (i := 4) rfl)) (fun _ h9 => h9) rfl dX1_begin_15 ?_
      refine va_put (D := D) (ci := 1) (v := .int a_) (ty := .int) (C := RX1) (T := TX1) (N := 5) hx hb hts hi_X1_begin_1 tyX1 tyX1_ok nmX1 hown hK hP hD hS 0 rfl rfl 4 (by decide) (hts (.fieldLink RX1 25 "TheLiningsInIt$Moves" "k" "I") (List.mem_of_getElem? (i := 5) rfl)) (fun _ h9 => h9) rfl (by decide +kernel) rfl rfl (Nat.le_of_ble_eq_true rfl) dX1_begin_18 (fun H locs hP hD hS => ?_)
      have h9R := zRe (ws' := [(mv, .inr (1, [.ref mb, .int mr, .int 3, .int nb, .int a_])), (mb, .inl (cI, 20, .inl fb))]) hP hD rfl
      clear hP hD
      obtain ⟨hP, hD⟩ := h9R
      refine lv_aload_n hx hb dX1_begin_21 rfl (lv_at hl 0 rfl) ?_
      refine lv_aload_n hx hb dX1_begin_22 rfl (lv_at hl 0 rfl) ?_
      refine va_get (D := D) (ci := 1) (v := .int 3) (C := RX1) (T := TX1) (N := 5) hx hb hts hi_X1_begin_1 hown hK hP 0 rfl rfl 2 (by decide) (hts (.fieldLink RX1 19 "TheLiningsInIt$Moves" "kind" "I") (List.mem_of_getElem? (i := 2) rfl)) (fun _ h9 => h9) rfl dX1_begin_23 ?_
      refine lv_iload_n hx hb dX1_begin_26 rfl (lv_at hl 3 rfl) ?_
      refine lv_iload hx hb dX1_begin_27 (lv_at hl 4 rfl) ?_
      refine lv_iconst (v := 0) hx hb dX1_begin_29 (by decide) ?_
      skip
      refine zw_V (As := [.int 3, .int 2, .int x, .int 0]) (rest := []) (wr := []) ⟨hx, hb, hml, hown, hts⟩ (c_M_run_3_3_2_0 l D cI cJ cZ cP cS po mv mb (mr) (nb) (a_) fb (x) hy2 hy3 H.size) (cwV 4 hts gX1_begin_X1_run rfl rfl rfl (by decide +kernel) ⟨Nat.le_of_ble_eq_true rfl, Nat.le_of_ble_eq_true rfl⟩) hK hN (hZ.kept hS) hP hD hS hA [0, 1] [] rfl rfl (by decide) (by decide) (by decide) (va_recv hK hP (ci := 1) (q0 := 0) rfl rfl) rfl hl.1 rfl (Nat.le_of_ble_eq_true rfl) dX1_begin_30 ⟨Nat.le_of_ble_eq_true rfl, Nat.le_of_ble_eq_true rfl⟩ (fun r_45 u_46 H locs hr_45 hP hD hS => ?_)
      obtain ⟨q_47, q_48⟩ := u_46
      try dsimp only at hr_45
      obtain ⟨hbq_47, hr_45⟩ := hr_45
      have h9R := zRe (ws' := [(mv, .inr (1, [.ref mb, .int q_47, .int 3, .int nb, .int a_])), (mb, .inl (cI, 20, .inl q_48))]) hP hD rfl
      clear hP hD
      obtain ⟨hP, hD⟩ := h9R
      exact W.iret (v := r_45) hx hb hr (fun t ht hW => ⟨⟨r_45, (q_47, 3, nb, a_, q_48), rfl, ⟨(show 0 ≤ q_47.toInt ∧ q_47.toInt ≤ 2000 from ⟨by omega, by omega⟩), trivial⟩, zRet ht hP hD [0, 1] (by decide) rfl⟩, hS.F ht⟩) hS.2.2 dX1_begin_33
  · refine lv_aload_n hx hb dX1_begin_0 rfl (lv_at hl 0 rfl) ?_
    have hsp : mo = 0 ∨ mo = 1 ∨ mo = 2 := by
      rcases (show mo.toInt = 0 ∨ mo.toInt = 1 ∨ mo.toInt = 2 by omega) with h9 | h9 | h9
      · refine Or.inl ?_; exact zf_val h9 (by decide)
      · refine Or.inr (Or.inl ?_); exact zf_val h9 (by decide)
      · refine Or.inr (Or.inr (?_)); exact zf_val h9 (by decide)
    rcases hsp with rfl | rfl | rfl
    · refine lv_aload_n hx hb dX1_begin_1 rfl (lv_at hl 1 rfl) ?_
      refine va_get (D := D) (ci := 2) (v := .int 4) (C := RX2) (T := TX2) (N := 3) hx hb hts hi_X1_begin_2 hown hK (zPu_P (hZ.kept hS) hu_u0) 0 rfl rfl 0 (by decide) (hts (.fieldLink RX1 28 "TheLiningsInIt$Pull" "kind" "I") (List.mem_of_getElem? (i := 1) rfl)) (fun _ h9 => h9) rfl dX1_begin_2 ?_
      refine va_put (D := D) (ci := 1) (v := .int 4) (ty := .int) (C := RX1) (T := TX1) (N := 5) hx hb hts hi_X1_begin_1 tyX1 tyX1_ok nmX1 hown hK hP hD hS 0 rfl rfl 2 (by decide) (hts (.fieldLink RX1 19 "TheLiningsInIt$Moves" "kind" "I") (List.mem_of_getElem? (i := 2) rfl)) (fun _ h9 => h9) rfl (by decide +kernel) rfl rfl (Nat.le_of_ble_eq_true rfl) dX1_begin_5 (fun H locs hP hD hS => ?_)
      have h9R := zRe (ws' := [(mv, .inr (1, [.ref mb, .int mr, .int 4, .int mm, .int mq])), (mb, .inl (cI, 20, .inl fb))]) hP hD rfl
      clear hP hD
      obtain ⟨hP, hD⟩ := h9R
      refine lv_aload_n hx hb dX1_begin_8 rfl (lv_at hl 0 rfl) ?_
      refine lv_iload_n hx hb dX1_begin_9 rfl (lv_at hl 2 rfl) ?_
      refine va_put (D := D) (ci := 1) (v := .int nb) (ty := .int) (C := RX1) (T := TX1) (N := 5) hx hb hts hi_X1_begin_1 tyX1 tyX1_ok nmX1 hown hK hP hD hS 0 rfl rfl 3 (by decide) (hts (.fieldLink RX1 22 "TheLiningsInIt$Moves" "m" "I") (List.mem_of_getElem? (i := 3) rfl)) (fun _ h9 => h9) rfl (by decide +kernel) rfl rfl (Nat.le_of_ble_eq_true rfl) dX1_begin_10 (fun H locs hP hD hS => ?_)
      have h9R := zRe (ws' := [(mv, .inr (1, [.ref mb, .int mr, .int 4, .int nb, .int mq])), (mb, .inl (cI, 20, .inl fb))]) hP hD rfl
      clear hP hD
      obtain ⟨hP, hD⟩ := h9R
      refine lv_aload_n hx hb dX1_begin_13 rfl (lv_at hl 0 rfl) ?_
      refine lv_aload_n hx hb dX1_begin_14 rfl (lv_at hl 1 rfl) ?_
      refine va_get (D := D) (ci := 2) (v := .int a_) (C := RX2) (T := TX2) (N := 3) hx hb hts hi_X1_begin_2 hown hK (zPu_P (hZ.kept hS) hu_u0) 0 rfl rfl 1 (by decide) (hts (.fieldLink RX1 31 "TheLiningsInIt$Pull" "a" "I") (List.mem_of_getElem? (i := 4) rfl)) (fun _ h9 => h9) rfl dX1_begin_15 ?_
      refine va_put (D := D) (ci := 1) (v := .int a_) (ty := .int) (C := RX1) (T := TX1) (N := 5) hx hb hts hi_X1_begin_1 tyX1 tyX1_ok nmX1 hown hK hP hD hS 0 rfl rfl 4 (by decide) (hts (.fieldLink RX1 25 "TheLiningsInIt$Moves" "k" "I") (List.mem_of_getElem? (i := 5) rfl)) (fun _ h9 => h9) rfl (by decide +kernel) rfl rfl (Nat.le_of_ble_eq_true rfl) dX1_begin_18 (fun H locs hP hD hS => ?_)
      have h9R := zRe (ws' := [(mv, .inr (1, [.ref mb, .int mr, .int 4, .int nb, .int a_])), (mb, .inl (cI, 20, .inl fb))]) hP hD rfl
      clear hP hD
      obtain ⟨hP, hD⟩ := h9R
      refine lv_aload_n hx hb dX1_begin_21 rfl (lv_at hl 0 rfl) ?_
      refine lv_aload_n hx hb dX1_begin_22 rfl (lv_at hl 0 rfl) ?_
      refine va_get (D := D) (ci := 1) (v := .int 4) (C := RX1) (T := TX1) (N := 5) hx hb hts hi_X1_begin_1 hown hK hP 0 rfl rfl 2 (by decide) (hts (.fieldLink RX1 19 "TheLiningsInIt$Moves" "kind" "I") (List.mem_of_getElem? (i := 2) rfl)) (fun _ h9 => h9) rfl dX1_begin_23 ?_
      refine lv_iload_n hx hb dX1_begin_26 rfl (lv_at hl 3 rfl) ?_
      refine lv_iload hx hb dX1_begin_27 (lv_at hl 4 rfl) ?_
      refine lv_iconst (v := 0) hx hb dX1_begin_29 (by decide) ?_
      skip
      refine zw_V (As := [.int 4, .int 0, .int x, .int 0]) (rest := []) (wr := []) ⟨hx, hb, hml, hown, hts⟩ (c_M_run_4_4_0_0 l D cI cJ cZ cP cS po mv mb (mr) (nb) (a_) fb (x) hy2 hy3 H.size) (cwV 4 hts gX1_begin_X1_run rfl rfl rfl (by decide +kernel) ⟨Nat.le_of_ble_eq_true rfl, Nat.le_of_ble_eq_true rfl⟩) hK hN (hZ.kept hS) hP hD hS hA [0, 1] [] rfl rfl (by decide) (by decide) (by decide) (va_recv hK hP (ci := 1) (q0 := 0) rfl rfl) rfl hl.1 rfl (Nat.le_of_ble_eq_true rfl) dX1_begin_30 ⟨Nat.le_of_ble_eq_true rfl, Nat.le_of_ble_eq_true rfl⟩ (fun r_49 u_50 H locs hr_49 hP hD hS => ?_)
      obtain ⟨q_51, q_52⟩ := u_50
      try dsimp only at hr_49
      obtain ⟨hbq_51, hr_49⟩ := hr_49
      have h9R := zRe (ws' := [(mv, .inr (1, [.ref mb, .int q_51, .int 4, .int nb, .int a_])), (mb, .inl (cI, 20, .inl q_52))]) hP hD rfl
      clear hP hD
      obtain ⟨hP, hD⟩ := h9R
      exact W.iret (v := r_49) hx hb hr (fun t ht hW => ⟨⟨r_49, (q_51, 4, nb, a_, q_52), rfl, ⟨(show 0 ≤ q_51.toInt ∧ q_51.toInt ≤ 2000 from ⟨by omega, by omega⟩), trivial⟩, zRet ht hP hD [0, 1] (by decide) rfl⟩, hS.F ht⟩) hS.2.2 dX1_begin_33
    · refine lv_aload_n hx hb dX1_begin_1 rfl (lv_at hl 1 rfl) ?_
      refine va_get (D := D) (ci := 2) (v := .int 4) (C := RX2) (T := TX2) (N := 3) hx hb hts hi_X1_begin_2 hown hK (zPu_P (hZ.kept hS) hu_u0) 0 rfl rfl 0 (by decide) (hts (.fieldLink RX1 28 "TheLiningsInIt$Pull" "kind" "I") (List.mem_of_getElem? (i := 1) rfl)) (fun _ h9 => h9) rfl dX1_begin_2 ?_
      refine va_put (D := D) (ci := 1) (v := .int 4) (ty := .int) (C := RX1) (T := TX1) (N := 5) hx hb hts hi_X1_begin_1 tyX1 tyX1_ok nmX1 hown hK hP hD hS 0 rfl rfl 2 (by decide) (hts (.fieldLink RX1 19 "TheLiningsInIt$Moves" "kind" "I") (List.mem_of_getElem? (i := 2) rfl)) (fun _ h9 => h9) rfl (by decide +kernel) rfl rfl (Nat.le_of_ble_eq_true rfl) dX1_begin_5 (fun H locs hP hD hS => ?_)
      have h9R := zRe (ws' := [(mv, .inr (1, [.ref mb, .int mr, .int 4, .int mm, .int mq])), (mb, .inl (cI, 20, .inl fb))]) hP hD rfl
      clear hP hD
      obtain ⟨hP, hD⟩ := h9R
      refine lv_aload_n hx hb dX1_begin_8 rfl (lv_at hl 0 rfl) ?_
      refine lv_iload_n hx hb dX1_begin_9 rfl (lv_at hl 2 rfl) ?_
      refine va_put (D := D) (ci := 1) (v := .int nb) (ty := .int) (C := RX1) (T := TX1) (N := 5) hx hb hts hi_X1_begin_1 tyX1 tyX1_ok nmX1 hown hK hP hD hS 0 rfl rfl 3 (by decide) (hts (.fieldLink RX1 22 "TheLiningsInIt$Moves" "m" "I") (List.mem_of_getElem? (i := 3) rfl)) (fun _ h9 => h9) rfl (by decide +kernel) rfl rfl (Nat.le_of_ble_eq_true rfl) dX1_begin_10 (fun H locs hP hD hS => ?_)
      have h9R := zRe (ws' := [(mv, .inr (1, [.ref mb, .int mr, .int 4, .int nb, .int mq])), (mb, .inl (cI, 20, .inl fb))]) hP hD rfl
      clear hP hD
      obtain ⟨hP, hD⟩ := h9R
      refine lv_aload_n hx hb dX1_begin_13 rfl (lv_at hl 0 rfl) ?_
      refine lv_aload_n hx hb dX1_begin_14 rfl (lv_at hl 1 rfl) ?_
      refine va_get (D := D) (ci := 2) (v := .int a_) (C := RX2) (T := TX2) (N := 3) hx hb hts hi_X1_begin_2 hown hK (zPu_P (hZ.kept hS) hu_u0) 0 rfl rfl 1 (by decide) (hts (.fieldLink RX1 31 "TheLiningsInIt$Pull" "a" "I") (List.mem_of_getElem? (i := 4) rfl)) (fun _ h9 => h9) rfl dX1_begin_15 ?_
      refine va_put (D := D) (ci := 1) (v := .int a_) (ty := .int) (C := RX1) (T := TX1) (N := 5) hx hb hts hi_X1_begin_1 tyX1 tyX1_ok nmX1 hown hK hP hD hS 0 rfl rfl 4 (by decide) (hts (.fieldLink RX1 25 "TheLiningsInIt$Moves" "k" "I") (List.mem_of_getElem? (i := 5) rfl)) (fun _ h9 => h9) rfl (by decide +kernel) rfl rfl (Nat.le_of_ble_eq_true rfl) dX1_begin_18 (fun H locs hP hD hS => ?_)
      have h9R := zRe (ws' := [(mv, .inr (1, [.ref mb, .int mr, .int 4, .int nb, .int a_])), (mb, .inl (cI, 20, .inl fb))]) hP hD rfl
      clear hP hD
      obtain ⟨hP, hD⟩ := h9R
      refine lv_aload_n hx hb dX1_begin_21 rfl (lv_at hl 0 rfl) ?_
      refine lv_aload_n hx hb dX1_begin_22 rfl (lv_at hl 0 rfl) ?_
      refine va_get (D := D) (ci := 1) (v := .int 4) (C := RX1) (T := TX1) (N := 5) hx hb hts hi_X1_begin_1 hown hK hP 0 rfl rfl 2 (by decide) (hts (.fieldLink RX1 19 "TheLiningsInIt$Moves" "kind" "I") (List.mem_of_getElem? (i := 2) rfl)) (fun _ h9 => h9) rfl dX1_begin_23 ?_
      refine lv_iload_n hx hb dX1_begin_26 rfl (lv_at hl 3 rfl) ?_
      refine lv_iload hx hb dX1_begin_27 (lv_at hl 4 rfl) ?_
      refine lv_iconst (v := 0) hx hb dX1_begin_29 (by decide) ?_
      skip
      refine zw_V (As := [.int 4, .int 1, .int x, .int 0]) (rest := []) (wr := []) ⟨hx, hb, hml, hown, hts⟩ (c_M_run_4_4_1_0 l D cI cJ cZ cP cS po mv mb (mr) (nb) (a_) fb (x) hy2 hy3 H.size) (cwV 4 hts gX1_begin_X1_run rfl rfl rfl (by decide +kernel) ⟨Nat.le_of_ble_eq_true rfl, Nat.le_of_ble_eq_true rfl⟩) hK hN (hZ.kept hS) hP hD hS hA [0, 1] [] rfl rfl (by decide) (by decide) (by decide) (va_recv hK hP (ci := 1) (q0 := 0) rfl rfl) rfl hl.1 rfl (Nat.le_of_ble_eq_true rfl) dX1_begin_30 ⟨Nat.le_of_ble_eq_true rfl, Nat.le_of_ble_eq_true rfl⟩ (fun r_53 u_54 H locs hr_53 hP hD hS => ?_)
      obtain ⟨q_55, q_56⟩ := u_54
      try dsimp only at hr_53
      obtain ⟨hbq_55, hr_53⟩ := hr_53
      have h9R := zRe (ws' := [(mv, .inr (1, [.ref mb, .int q_55, .int 4, .int nb, .int a_])), (mb, .inl (cI, 20, .inl q_56))]) hP hD rfl
      clear hP hD
      obtain ⟨hP, hD⟩ := h9R
      exact W.iret (v := r_53) hx hb hr (fun t ht hW => ⟨⟨r_53, (q_55, 4, nb, a_, q_56), rfl, ⟨(show 0 ≤ q_55.toInt ∧ q_55.toInt ≤ 2000 from ⟨by omega, by omega⟩), trivial⟩, zRet ht hP hD [0, 1] (by decide) rfl⟩, hS.F ht⟩) hS.2.2 dX1_begin_33
    · refine lv_aload_n hx hb dX1_begin_1 rfl (lv_at hl 1 rfl) ?_
      refine va_get (D := D) (ci := 2) (v := .int 4) (C := RX2) (T := TX2) (N := 3) hx hb hts hi_X1_begin_2 hown hK (zPu_P (hZ.kept hS) hu_u0) 0 rfl rfl 0 (by decide) (hts (.fieldLink RX1 28 "TheLiningsInIt$Pull" "kind" "I") (List.mem_of_getElem? (i := 1) rfl)) (fun _ h9 => h9) rfl dX1_begin_2 ?_
      refine va_put (D := D) (ci := 1) (v := .int 4) (ty := .int) (C := RX1) (T := TX1) (N := 5) hx hb hts hi_X1_begin_1 tyX1 tyX1_ok nmX1 hown hK hP hD hS 0 rfl rfl 2 (by decide) (hts (.fieldLink RX1 19 "TheLiningsInIt$Moves" "kind" "I") (List.mem_of_getElem? (i := 2) rfl)) (fun _ h9 => h9) rfl (by decide +kernel) rfl rfl (Nat.le_of_ble_eq_true rfl) dX1_begin_5 (fun H locs hP hD hS => ?_)
      have h9R := zRe (ws' := [(mv, .inr (1, [.ref mb, .int mr, .int 4, .int mm, .int mq])), (mb, .inl (cI, 20, .inl fb))]) hP hD rfl
      clear hP hD
      obtain ⟨hP, hD⟩ := h9R
      refine lv_aload_n hx hb dX1_begin_8 rfl (lv_at hl 0 rfl) ?_
      refine lv_iload_n hx hb dX1_begin_9 rfl (lv_at hl 2 rfl) ?_
      refine va_put (D := D) (ci := 1) (v := .int nb) (ty := .int) (C := RX1) (T := TX1) (N := 5) hx hb hts hi_X1_begin_1 tyX1 tyX1_ok nmX1 hown hK hP hD hS 0 rfl rfl 3 (by decide) (hts (.fieldLink RX1 22 "TheLiningsInIt$Moves" "m" "I") (List.mem_of_getElem? (i := 3) rfl)) (fun _ h9 => h9) rfl (by decide +kernel) rfl rfl (Nat.le_of_ble_eq_true rfl) dX1_begin_10 (fun H locs hP hD hS => ?_)
      have h9R := zRe (ws' := [(mv, .inr (1, [.ref mb, .int mr, .int 4, .int nb, .int mq])), (mb, .inl (cI, 20, .inl fb))]) hP hD rfl
      clear hP hD
      obtain ⟨hP, hD⟩ := h9R
      refine lv_aload_n hx hb dX1_begin_13 rfl (lv_at hl 0 rfl) ?_
      refine lv_aload_n hx hb dX1_begin_14 rfl (lv_at hl 1 rfl) ?_
      refine va_get (D := D) (ci := 2) (v := .int a_) (C := RX2) (T := TX2) (N := 3) hx hb hts hi_X1_begin_2 hown hK (zPu_P (hZ.kept hS) hu_u0) 0 rfl rfl 1 (by decide) (hts (.fieldLink RX1 31 "TheLiningsInIt$Pull" "a" "I") (List.mem_of_getElem? (i := 4) rfl)) (fun _ h9 => h9) rfl dX1_begin_15 ?_
      refine va_put (D := D) (ci := 1) (v := .int a_) (ty := .int) (C := RX1) (T := TX1) (N := 5) hx hb hts hi_X1_begin_1 tyX1 tyX1_ok nmX1 hown hK hP hD hS 0 rfl rfl 4 (by decide) (hts (.fieldLink RX1 25 "TheLiningsInIt$Moves" "k" "I") (List.mem_of_getElem? (i := 5) rfl)) (fun _ h9 => h9) rfl (by decide +kernel) rfl rfl (Nat.le_of_ble_eq_true rfl) dX1_begin_18 (fun H locs hP hD hS => ?_)
      have h9R := zRe (ws' := [(mv, .inr (1, [.ref mb, .int mr, .int 4, .int nb, .int a_])), (mb, .inl (cI, 20, .inl fb))]) hP hD rfl
      clear hP hD
      obtain ⟨hP, hD⟩ := h9R
      refine lv_aload_n hx hb dX1_begin_21 rfl (lv_at hl 0 rfl) ?_
      refine lv_aload_n hx hb dX1_begin_22 rfl (lv_at hl 0 rfl) ?_
      refine va_get (D := D) (ci := 1) (v := .int 4) (C := RX1) (T := TX1) (N := 5) hx hb hts hi_X1_begin_1 hown hK hP 0 rfl rfl 2 (by decide) (hts (.fieldLink RX1 19 "TheLiningsInIt$Moves" "kind" "I") (List.mem_of_getElem? (i := 2) rfl)) (fun _ h9 => h9) rfl dX1_begin_23 ?_
      refine lv_iload_n hx hb dX1_begin_26 rfl (lv_at hl 3 rfl) ?_
      refine lv_iload hx hb dX1_begin_27 (lv_at hl 4 rfl) ?_
      refine lv_iconst (v := 0) hx hb dX1_begin_29 (by decide) ?_
      skip
      refine zw_V (As := [.int 4, .int 2, .int x, .int 0]) (rest := []) (wr := []) ⟨hx, hb, hml, hown, hts⟩ (c_M_run_4_4_2_0 l D cI cJ cZ cP cS po mv mb (mr) (nb) (a_) fb (x) hy2 hy3 H.size) (cwV 4 hts gX1_begin_X1_run rfl rfl rfl (by decide +kernel) ⟨Nat.le_of_ble_eq_true rfl, Nat.le_of_ble_eq_true rfl⟩) hK hN (hZ.kept hS) hP hD hS hA [0, 1] [] rfl rfl (by decide) (by decide) (by decide) (va_recv hK hP (ci := 1) (q0 := 0) rfl rfl) rfl hl.1 rfl (Nat.le_of_ble_eq_true rfl) dX1_begin_30 ⟨Nat.le_of_ble_eq_true rfl, Nat.le_of_ble_eq_true rfl⟩ (fun r_57 u_58 H locs hr_57 hP hD hS => ?_)
      obtain ⟨q_59, q_60⟩ := u_58
      try dsimp only at hr_57
      obtain ⟨hbq_59, hr_57⟩ := hr_57
      have h9R := zRe (ws' := [(mv, .inr (1, [.ref mb, .int q_59, .int 4, .int nb, .int a_])), (mb, .inl (cI, 20, .inl q_60))]) hP hD rfl
      clear hP hD
      obtain ⟨hP, hD⟩ := h9R
      exact W.iret (v := r_57) hx hb hr (fun t ht hW => ⟨⟨r_57, (q_59, 4, nb, a_, q_60), rfl, ⟨(show 0 ≤ q_59.toInt ∧ q_59.toInt ≤ 2000 from ⟨by omega, by omega⟩), trivial⟩, zRet ht hP hD [0, 1] (by decide) rfl⟩, hS.F ht⟩) hS.2.2 dX1_begin_33
  · refine lv_aload_n hx hb dX1_begin_0 rfl (lv_at hl 0 rfl) ?_
    have hsp : mo = 0 ∨ mo = 1 ∨ mo = 2 := by
      rcases (show mo.toInt = 0 ∨ mo.toInt = 1 ∨ mo.toInt = 2 by omega) with h9 | h9 | h9
      · refine Or.inl ?_; exact zf_val h9 (by decide)
      · refine Or.inr (Or.inl ?_); exact zf_val h9 (by decide)
      · refine Or.inr (Or.inr (?_)); exact zf_val h9 (by decide)
    rcases hsp with rfl | rfl | rfl
    · refine lv_aload_n hx hb dX1_begin_1 rfl (lv_at hl 1 rfl) ?_
      refine va_get (D := D) (ci := 2) (v := .int 5) (C := RX2) (T := TX2) (N := 3) hx hb hts hi_X1_begin_2 hown hK (zPu_P (hZ.kept hS) hu_u0) 0 rfl rfl 0 (by decide) (hts (.fieldLink RX1 28 "TheLiningsInIt$Pull" "kind" "I") (List.mem_of_getElem? (i := 1) rfl)) (fun _ h9 => h9) rfl dX1_begin_2 ?_
      refine va_put (D := D) (ci := 1) (v := .int 5) (ty := .int) (C := RX1) (T := TX1) (N := 5) hx hb hts hi_X1_begin_1 tyX1 tyX1_ok nmX1 hown hK hP hD hS 0 rfl rfl 2 (by decide) (hts (.fieldLink RX1 19 "TheLiningsInIt$Moves" "kind" "I") (List.mem_of_getElem? (i := 2) rfl)) (fun _ h9 => h9) rfl (by decide +kernel) rfl rfl (Nat.le_of_ble_eq_true rfl) dX1_begin_5 (fun H locs hP hD hS => ?_)
      have h9R := zRe (ws' := [(mv, .inr (1, [.ref mb, .int mr, .int 5, .int mm, .int mq])), (mb, .inl (cI, 20, .inl fb))]) hP hD rfl
      clear hP hD
      obtain ⟨hP, hD⟩ := h9R
      refine lv_aload_n hx hb dX1_begin_8 rfl (lv_at hl 0 rfl) ?_
      refine lv_iload_n hx hb dX1_begin_9 rfl (lv_at hl 2 rfl) ?_
      refine va_put (D := D) (ci := 1) (v := .int nb) (ty := .int) (C := RX1) (T := TX1) (N := 5) hx hb hts hi_X1_begin_1 tyX1 tyX1_ok nmX1 hown hK hP hD hS 0 rfl rfl 3 (by decide) (hts (.fieldLink RX1 22 "TheLiningsInIt$Moves" "m" "I") (List.mem_of_getElem? (i := 3) rfl)) (fun _ h9 => h9) rfl (by decide +kernel) rfl rfl (Nat.le_of_ble_eq_true rfl) dX1_begin_10 (fun H locs hP hD hS => ?_)
      have h9R := zRe (ws' := [(mv, .inr (1, [.ref mb, .int mr, .int 5, .int nb, .int mq])), (mb, .inl (cI, 20, .inl fb))]) hP hD rfl
      clear hP hD
      obtain ⟨hP, hD⟩ := h9R
      refine lv_aload_n hx hb dX1_begin_13 rfl (lv_at hl 0 rfl) ?_
      refine lv_aload_n hx hb dX1_begin_14 rfl (lv_at hl 1 rfl) ?_
      refine va_get (D := D) (ci := 2) (v := .int a_) (C := RX2) (T := TX2) (N := 3) hx hb hts hi_X1_begin_2 hown hK (zPu_P (hZ.kept hS) hu_u0) 0 rfl rfl 1 (by decide) (hts (.fieldLink RX1 31 "TheLiningsInIt$Pull" "a" "I") (List.mem_of_getElem? (i := 4) rfl)) (fun _ h9 => h9) rfl dX1_begin_15 ?_
      refine va_put (D := D) (ci := 1) (v := .int a_) (ty := .int) (C := RX1) (T := TX1) (N := 5) hx hb hts hi_X1_begin_1 tyX1 tyX1_ok nmX1 hown hK hP hD hS 0 rfl rfl 4 (by decide) (hts (.fieldLink RX1 25 "TheLiningsInIt$Moves" "k" "I") (List.mem_of_getElem? (i := 5) rfl)) (fun _ h9 => h9) rfl (by decide +kernel) rfl rfl (Nat.le_of_ble_eq_true rfl) dX1_begin_18 (fun H locs hP hD hS => ?_)
      have h9R := zRe (ws' := [(mv, .inr (1, [.ref mb, .int mr, .int 5, .int nb, .int a_])), (mb, .inl (cI, 20, .inl fb))]) hP hD rfl
      clear hP hD
      obtain ⟨hP, hD⟩ := h9R
      refine lv_aload_n hx hb dX1_begin_21 rfl (lv_at hl 0 rfl) ?_
      refine lv_aload_n hx hb dX1_begin_22 rfl (lv_at hl 0 rfl) ?_
      refine va_get (D := D) (ci := 1) (v := .int 5) (C := RX1) (T := TX1) (N := 5) hx hb hts hi_X1_begin_1 hown hK hP 0 rfl rfl 2 (by decide) (hts (.fieldLink RX1 19 "TheLiningsInIt$Moves" "kind" "I") (List.mem_of_getElem? (i := 2) rfl)) (fun _ h9 => h9) rfl dX1_begin_23 ?_
      refine lv_iload_n hx hb dX1_begin_26 rfl (lv_at hl 3 rfl) ?_
      refine lv_iload hx hb dX1_begin_27 (lv_at hl 4 rfl) ?_
      refine lv_iconst (v := 0) hx hb dX1_begin_29 (by decide) ?_
      skip
      refine zw_V (As := [.int 5, .int 0, .int x, .int 0]) (rest := []) (wr := []) ⟨hx, hb, hml, hown, hts⟩ (c_M_run_5_5_0_0 l D cI cJ cZ cP cS po mv mb (mr) (nb) (a_) fb (x) hy2 hy3 H.size) (cwV 4 hts gX1_begin_X1_run rfl rfl rfl (by decide +kernel) ⟨Nat.le_of_ble_eq_true rfl, Nat.le_of_ble_eq_true rfl⟩) hK hN (hZ.kept hS) hP hD hS hA [0, 1] [] rfl rfl (by decide) (by decide) (by decide) (va_recv hK hP (ci := 1) (q0 := 0) rfl rfl) rfl hl.1 rfl (Nat.le_of_ble_eq_true rfl) dX1_begin_30 ⟨Nat.le_of_ble_eq_true rfl, Nat.le_of_ble_eq_true rfl⟩ (fun r_61 u_62 H locs hr_61 hP hD hS => ?_)
      obtain ⟨q_63, q_64⟩ := u_62
      try dsimp only at hr_61
      obtain ⟨hbq_63, hr_61⟩ := hr_61
      have h9R := zRe (ws' := [(mv, .inr (1, [.ref mb, .int q_63, .int 5, .int nb, .int a_])), (mb, .inl (cI, 20, .inl q_64))]) hP hD rfl
      clear hP hD
      obtain ⟨hP, hD⟩ := h9R
      exact W.iret (v := r_61) hx hb hr (fun t ht hW => ⟨⟨r_61, (q_63, 5, nb, a_, q_64), rfl, ⟨(show 0 ≤ q_63.toInt ∧ q_63.toInt ≤ 2000 from ⟨by omega, by omega⟩), trivial⟩, zRet ht hP hD [0, 1] (by decide) rfl⟩, hS.F ht⟩) hS.2.2 dX1_begin_33
    · refine lv_aload_n hx hb dX1_begin_1 rfl (lv_at hl 1 rfl) ?_
      refine va_get (D := D) (ci := 2) (v := .int 5) (C := RX2) (T := TX2) (N := 3) hx hb hts hi_X1_begin_2 hown hK (zPu_P (hZ.kept hS) hu_u0) 0 rfl rfl 0 (by decide) (hts (.fieldLink RX1 28 "TheLiningsInIt$Pull" "kind" "I") (List.mem_of_getElem? (i := 1) rfl)) (fun _ h9 => h9) rfl dX1_begin_2 ?_
      refine va_put (D := D) (ci := 1) (v := .int 5) (ty := .int) (C := RX1) (T := TX1) (N := 5) hx hb hts hi_X1_begin_1 tyX1 tyX1_ok nmX1 hown hK hP hD hS 0 rfl rfl 2 (by decide) (hts (.fieldLink RX1 19 "TheLiningsInIt$Moves" "kind" "I") (List.mem_of_getElem? (i := 2) rfl)) (fun _ h9 => h9) rfl (by decide +kernel) rfl rfl (Nat.le_of_ble_eq_true rfl) dX1_begin_5 (fun H locs hP hD hS => ?_)
      have h9R := zRe (ws' := [(mv, .inr (1, [.ref mb, .int mr, .int 5, .int mm, .int mq])), (mb, .inl (cI, 20, .inl fb))]) hP hD rfl
      clear hP hD
      obtain ⟨hP, hD⟩ := h9R
      refine lv_aload_n hx hb dX1_begin_8 rfl (lv_at hl 0 rfl) ?_
      refine lv_iload_n hx hb dX1_begin_9 rfl (lv_at hl 2 rfl) ?_
      refine va_put (D := D) (ci := 1) (v := .int nb) (ty := .int) (C := RX1) (T := TX1) (N := 5) hx hb hts hi_X1_begin_1 tyX1 tyX1_ok nmX1 hown hK hP hD hS 0 rfl rfl 3 (by decide) (hts (.fieldLink RX1 22 "TheLiningsInIt$Moves" "m" "I") (List.mem_of_getElem? (i := 3) rfl)) (fun _ h9 => h9) rfl (by decide +kernel) rfl rfl (Nat.le_of_ble_eq_true rfl) dX1_begin_10 (fun H locs hP hD hS => ?_)
      have h9R := zRe (ws' := [(mv, .inr (1, [.ref mb, .int mr, .int 5, .int nb, .int mq])), (mb, .inl (cI, 20, .inl fb))]) hP hD rfl
      clear hP hD
      obtain ⟨hP, hD⟩ := h9R
      refine lv_aload_n hx hb dX1_begin_13 rfl (lv_at hl 0 rfl) ?_
      refine lv_aload_n hx hb dX1_begin_14 rfl (lv_at hl 1 rfl) ?_
      refine va_get (D := D) (ci := 2) (v := .int a_) (C := RX2) (T := TX2) (N := 3) hx hb hts hi_X1_begin_2 hown hK (zPu_P (hZ.kept hS) hu_u0) 0 rfl rfl 1 (by decide) (hts (.fieldLink RX1 31 "TheLiningsInIt$Pull" "a" "I") (List.mem_of_getElem? (i := 4) rfl)) (fun _ h9 => h9) rfl dX1_begin_15 ?_
      refine va_put (D := D) (ci := 1) (v := .int a_) (ty := .int) (C := RX1) (T := TX1) (N := 5) hx hb hts hi_X1_begin_1 tyX1 tyX1_ok nmX1 hown hK hP hD hS 0 rfl rfl 4 (by decide) (hts (.fieldLink RX1 25 "TheLiningsInIt$Moves" "k" "I") (List.mem_of_getElem? (i := 5) rfl)) (fun _ h9 => h9) rfl (by decide +kernel) rfl rfl (Nat.le_of_ble_eq_true rfl) dX1_begin_18 (fun H locs hP hD hS => ?_)
      have h9R := zRe (ws' := [(mv, .inr (1, [.ref mb, .int mr, .int 5, .int nb, .int a_])), (mb, .inl (cI, 20, .inl fb))]) hP hD rfl
      clear hP hD
      obtain ⟨hP, hD⟩ := h9R
      refine lv_aload_n hx hb dX1_begin_21 rfl (lv_at hl 0 rfl) ?_
      refine lv_aload_n hx hb dX1_begin_22 rfl (lv_at hl 0 rfl) ?_
      refine va_get (D := D) (ci := 1) (v := .int 5) (C := RX1) (T := TX1) (N := 5) hx hb hts hi_X1_begin_1 hown hK hP 0 rfl rfl 2 (by decide) (hts (.fieldLink RX1 19 "TheLiningsInIt$Moves" "kind" "I") (List.mem_of_getElem? (i := 2) rfl)) (fun _ h9 => h9) rfl dX1_begin_23 ?_
      refine lv_iload_n hx hb dX1_begin_26 rfl (lv_at hl 3 rfl) ?_
      refine lv_iload hx hb dX1_begin_27 (lv_at hl 4 rfl) ?_
      refine lv_iconst (v := 0) hx hb dX1_begin_29 (by decide) ?_
      skip
      refine zw_V (As := [.int 5, .int 1, .int x, .int 0]) (rest := []) (wr := []) ⟨hx, hb, hml, hown, hts⟩ (c_M_run_5_5_1_0 l D cI cJ cZ cP cS po mv mb (mr) (nb) (a_) fb (x) hy2 hy3 H.size) (cwV 4 hts gX1_begin_X1_run rfl rfl rfl (by decide +kernel) ⟨Nat.le_of_ble_eq_true rfl, Nat.le_of_ble_eq_true rfl⟩) hK hN (hZ.kept hS) hP hD hS hA [0, 1] [] rfl rfl (by decide) (by decide) (by decide) (va_recv hK hP (ci := 1) (q0 := 0) rfl rfl) rfl hl.1 rfl (Nat.le_of_ble_eq_true rfl) dX1_begin_30 ⟨Nat.le_of_ble_eq_true rfl, Nat.le_of_ble_eq_true rfl⟩ (fun r_65 u_66 H locs hr_65 hP hD hS => ?_)
      obtain ⟨q_67, q_68⟩ := u_66
      try dsimp only at hr_65
      obtain ⟨hbq_67, hr_65⟩ := hr_65
      have h9R := zRe (ws' := [(mv, .inr (1, [.ref mb, .int q_67, .int 5, .int nb, .int a_])), (mb, .inl (cI, 20, .inl q_68))]) hP hD rfl
      clear hP hD
      obtain ⟨hP, hD⟩ := h9R
      exact W.iret (v := r_65) hx hb hr (fun t ht hW => ⟨⟨r_65, (q_67, 5, nb, a_, q_68), rfl, ⟨(show 0 ≤ q_67.toInt ∧ q_67.toInt ≤ 2000 from ⟨by omega, by omega⟩), trivial⟩, zRet ht hP hD [0, 1] (by decide) rfl⟩, hS.F ht⟩) hS.2.2 dX1_begin_33
    · refine lv_aload_n hx hb dX1_begin_1 rfl (lv_at hl 1 rfl) ?_
      refine va_get (D := D) (ci := 2) (v := .int 5) (C := RX2) (T := TX2) (N := 3) hx hb hts hi_X1_begin_2 hown hK (zPu_P (hZ.kept hS) hu_u0) 0 rfl rfl 0 (by decide) (hts (.fieldLink RX1 28 "TheLiningsInIt$Pull" "kind" "I") (List.mem_of_getElem? (i := 1) rfl)) (fun _ h9 => h9) rfl dX1_begin_2 ?_
      refine va_put (D := D) (ci := 1) (v := .int 5) (ty := .int) (C := RX1) (T := TX1) (N := 5) hx hb hts hi_X1_begin_1 tyX1 tyX1_ok nmX1 hown hK hP hD hS 0 rfl rfl 2 (by decide) (hts (.fieldLink RX1 19 "TheLiningsInIt$Moves" "kind" "I") (List.mem_of_getElem? (i := 2) rfl)) (fun _ h9 => h9) rfl (by decide +kernel) rfl rfl (Nat.le_of_ble_eq_true rfl) dX1_begin_5 (fun H locs hP hD hS => ?_)
      have h9R := zRe (ws' := [(mv, .inr (1, [.ref mb, .int mr, .int 5, .int mm, .int mq])), (mb, .inl (cI, 20, .inl fb))]) hP hD rfl
      clear hP hD
      obtain ⟨hP, hD⟩ := h9R
      refine lv_aload_n hx hb dX1_begin_8 rfl (lv_at hl 0 rfl) ?_
      refine lv_iload_n hx hb dX1_begin_9 rfl (lv_at hl 2 rfl) ?_
      refine va_put (D := D) (ci := 1) (v := .int nb) (ty := .int) (C := RX1) (T := TX1) (N := 5) hx hb hts hi_X1_begin_1 tyX1 tyX1_ok nmX1 hown hK hP hD hS 0 rfl rfl 3 (by decide) (hts (.fieldLink RX1 22 "TheLiningsInIt$Moves" "m" "I") (List.mem_of_getElem? (i := 3) rfl)) (fun _ h9 => h9) rfl (by decide +kernel) rfl rfl (Nat.le_of_ble_eq_true rfl) dX1_begin_10 (fun H locs hP hD hS => ?_)
      have h9R := zRe (ws' := [(mv, .inr (1, [.ref mb, .int mr, .int 5, .int nb, .int mq])), (mb, .inl (cI, 20, .inl fb))]) hP hD rfl
      clear hP hD
      obtain ⟨hP, hD⟩ := h9R
      refine lv_aload_n hx hb dX1_begin_13 rfl (lv_at hl 0 rfl) ?_
      refine lv_aload_n hx hb dX1_begin_14 rfl (lv_at hl 1 rfl) ?_
      refine va_get (D := D) (ci := 2) (v := .int a_) (C := RX2) (T := TX2) (N := 3) hx hb hts hi_X1_begin_2 hown hK (zPu_P (hZ.kept hS) hu_u0) 0 rfl rfl 1 (by decide) (hts (.fieldLink RX1 31 "TheLiningsInIt$Pull" "a" "I") (List.mem_of_getElem? (i := 4) rfl)) (fun _ h9 => h9) rfl dX1_begin_15 ?_
      refine va_put (D := D) (ci := 1) (v := .int a_) (ty := .int) (C := RX1) (T := TX1) (N := 5) hx hb hts hi_X1_begin_1 tyX1 tyX1_ok nmX1 hown hK hP hD hS 0 rfl rfl 4 (by decide) (hts (.fieldLink RX1 25 "TheLiningsInIt$Moves" "k" "I") (List.mem_of_getElem? (i := 5) rfl)) (fun _ h9 => h9) rfl (by decide +kernel) rfl rfl (Nat.le_of_ble_eq_true rfl) dX1_begin_18 (fun H locs hP hD hS => ?_)
      have h9R := zRe (ws' := [(mv, .inr (1, [.ref mb, .int mr, .int 5, .int nb, .int a_])), (mb, .inl (cI, 20, .inl fb))]) hP hD rfl
      clear hP hD
      obtain ⟨hP, hD⟩ := h9R
      refine lv_aload_n hx hb dX1_begin_21 rfl (lv_at hl 0 rfl) ?_
      refine lv_aload_n hx hb dX1_begin_22 rfl (lv_at hl 0 rfl) ?_
      refine va_get (D := D) (ci := 1) (v := .int 5) (C := RX1) (T := TX1) (N := 5) hx hb hts hi_X1_begin_1 hown hK hP 0 rfl rfl 2 (by decide) (hts (.fieldLink RX1 19 "TheLiningsInIt$Moves" "kind" "I") (List.mem_of_getElem? (i := 2) rfl)) (fun _ h9 => h9) rfl dX1_begin_23 ?_
      refine lv_iload_n hx hb dX1_begin_26 rfl (lv_at hl 3 rfl) ?_
      refine lv_iload hx hb dX1_begin_27 (lv_at hl 4 rfl) ?_
      refine lv_iconst (v := 0) hx hb dX1_begin_29 (by decide) ?_
      skip
      refine zw_V (As := [.int 5, .int 2, .int x, .int 0]) (rest := []) (wr := []) ⟨hx, hb, hml, hown, hts⟩ (c_M_run_5_5_2_0 l D cI cJ cZ cP cS po mv mb (mr) (nb) (a_) fb (x) hy2 hy3 H.size) (cwV 4 hts gX1_begin_X1_run rfl rfl rfl (by decide +kernel) ⟨Nat.le_of_ble_eq_true rfl, Nat.le_of_ble_eq_true rfl⟩) hK hN (hZ.kept hS) hP hD hS hA [0, 1] [] rfl rfl (by decide) (by decide) (by decide) (va_recv hK hP (ci := 1) (q0 := 0) rfl rfl) rfl hl.1 rfl (Nat.le_of_ble_eq_true rfl) dX1_begin_30 ⟨Nat.le_of_ble_eq_true rfl, Nat.le_of_ble_eq_true rfl⟩ (fun r_69 u_70 H locs hr_69 hP hD hS => ?_)
      obtain ⟨q_71, q_72⟩ := u_70
      try dsimp only at hr_69
      obtain ⟨hbq_71, hr_69⟩ := hr_69
      have h9R := zRe (ws' := [(mv, .inr (1, [.ref mb, .int q_71, .int 5, .int nb, .int a_])), (mb, .inl (cI, 20, .inl q_72))]) hP hD rfl
      clear hP hD
      obtain ⟨hP, hD⟩ := h9R
      exact W.iret (v := r_69) hx hb hr (fun t ht hW => ⟨⟨r_69, (q_71, 5, nb, a_, q_72), rfl, ⟨(show 0 ≤ q_71.toInt ∧ q_71.toInt ≤ 2000 from ⟨by omega, by omega⟩), trivial⟩, zRet ht hP hD [0, 1] (by decide) rfl⟩, hS.F ht⟩) hS.2.2 dX1_begin_33
  · refine lv_aload_n hx hb dX1_begin_0 rfl (lv_at hl 0 rfl) ?_
    have hsp : mo = 0 ∨ mo = 1 ∨ mo = 2 := by
      rcases (show mo.toInt = 0 ∨ mo.toInt = 1 ∨ mo.toInt = 2 by omega) with h9 | h9 | h9
      · refine Or.inl ?_; exact zf_val h9 (by decide)
      · refine Or.inr (Or.inl ?_); exact zf_val h9 (by decide)
      · refine Or.inr (Or.inr (?_)); exact zf_val h9 (by decide)
    rcases hsp with rfl | rfl | rfl
    · refine lv_aload_n hx hb dX1_begin_1 rfl (lv_at hl 1 rfl) ?_
      refine va_get (D := D) (ci := 2) (v := .int 6) (C := RX2) (T := TX2) (N := 3) hx hb hts hi_X1_begin_2 hown hK (zPu_P (hZ.kept hS) hu_u0) 0 rfl rfl 0 (by decide) (hts (.fieldLink RX1 28 "TheLiningsInIt$Pull" "kind" "I") (List.mem_of_getElem? (i := 1) rfl)) (fun _ h9 => h9) rfl dX1_begin_2 ?_
      refine va_put (D := D) (ci := 1) (v := .int 6) (ty := .int) (C := RX1) (T := TX1) (N := 5) hx hb hts hi_X1_begin_1 tyX1 tyX1_ok nmX1 hown hK hP hD hS 0 rfl rfl 2 (by decide) (hts (.fieldLink RX1 19 "TheLiningsInIt$Moves" "kind" "I") (List.mem_of_getElem? (i := 2) rfl)) (fun _ h9 => h9) rfl (by decide +kernel) rfl rfl (Nat.le_of_ble_eq_true rfl) dX1_begin_5 (fun H locs hP hD hS => ?_)
      have h9R := zRe (ws' := [(mv, .inr (1, [.ref mb, .int mr, .int 6, .int mm, .int mq])), (mb, .inl (cI, 20, .inl fb))]) hP hD rfl
      clear hP hD
      obtain ⟨hP, hD⟩ := h9R
      refine lv_aload_n hx hb dX1_begin_8 rfl (lv_at hl 0 rfl) ?_
      refine lv_iload_n hx hb dX1_begin_9 rfl (lv_at hl 2 rfl) ?_
      refine va_put (D := D) (ci := 1) (v := .int nb) (ty := .int) (C := RX1) (T := TX1) (N := 5) hx hb hts hi_X1_begin_1 tyX1 tyX1_ok nmX1 hown hK hP hD hS 0 rfl rfl 3 (by decide) (hts (.fieldLink RX1 22 "TheLiningsInIt$Moves" "m" "I") (List.mem_of_getElem? (i := 3) rfl)) (fun _ h9 => h9) rfl (by decide +kernel) rfl rfl (Nat.le_of_ble_eq_true rfl) dX1_begin_10 (fun H locs hP hD hS => ?_)
      have h9R := zRe (ws' := [(mv, .inr (1, [.ref mb, .int mr, .int 6, .int nb, .int mq])), (mb, .inl (cI, 20, .inl fb))]) hP hD rfl
      clear hP hD
      obtain ⟨hP, hD⟩ := h9R
      refine lv_aload_n hx hb dX1_begin_13 rfl (lv_at hl 0 rfl) ?_
      refine lv_aload_n hx hb dX1_begin_14 rfl (lv_at hl 1 rfl) ?_
      refine va_get (D := D) (ci := 2) (v := .int a_) (C := RX2) (T := TX2) (N := 3) hx hb hts hi_X1_begin_2 hown hK (zPu_P (hZ.kept hS) hu_u0) 0 rfl rfl 1 (by decide) (hts (.fieldLink RX1 31 "TheLiningsInIt$Pull" "a" "I") (List.mem_of_getElem? (i := 4) rfl)) (fun _ h9 => h9) rfl dX1_begin_15 ?_
      refine va_put (D := D) (ci := 1) (v := .int a_) (ty := .int) (C := RX1) (T := TX1) (N := 5) hx hb hts hi_X1_begin_1 tyX1 tyX1_ok nmX1 hown hK hP hD hS 0 rfl rfl 4 (by decide) (hts (.fieldLink RX1 25 "TheLiningsInIt$Moves" "k" "I") (List.mem_of_getElem? (i := 5) rfl)) (fun _ h9 => h9) rfl (by decide +kernel) rfl rfl (Nat.le_of_ble_eq_true rfl) dX1_begin_18 (fun H locs hP hD hS => ?_)
      have h9R := zRe (ws' := [(mv, .inr (1, [.ref mb, .int mr, .int 6, .int nb, .int a_])), (mb, .inl (cI, 20, .inl fb))]) hP hD rfl
      clear hP hD
      obtain ⟨hP, hD⟩ := h9R
      refine lv_aload_n hx hb dX1_begin_21 rfl (lv_at hl 0 rfl) ?_
      refine lv_aload_n hx hb dX1_begin_22 rfl (lv_at hl 0 rfl) ?_
      refine va_get (D := D) (ci := 1) (v := .int 6) (C := RX1) (T := TX1) (N := 5) hx hb hts hi_X1_begin_1 hown hK hP 0 rfl rfl 2 (by decide) (hts (.fieldLink RX1 19 "TheLiningsInIt$Moves" "kind" "I") (List.mem_of_getElem? (i := 2) rfl)) (fun _ h9 => h9) rfl dX1_begin_23 ?_
      refine lv_iload_n hx hb dX1_begin_26 rfl (lv_at hl 3 rfl) ?_
      refine lv_iload hx hb dX1_begin_27 (lv_at hl 4 rfl) ?_
      refine lv_iconst (v := 0) hx hb dX1_begin_29 (by decide) ?_
      skip
      refine zw_V (As := [.int 6, .int 0, .int x, .int 0]) (rest := []) (wr := []) ⟨hx, hb, hml, hown, hts⟩ (c_M_run_6_6_0_0 l D cI cJ cZ cP cS po mv mb (mr) (nb) (a_) fb (x) hy2 hy3 H.size) (cwV 4 hts gX1_begin_X1_run rfl rfl rfl (by decide +kernel) ⟨Nat.le_of_ble_eq_true rfl, Nat.le_of_ble_eq_true rfl⟩) hK hN (hZ.kept hS) hP hD hS hA [0, 1] [] rfl rfl (by decide) (by decide) (by decide) (va_recv hK hP (ci := 1) (q0 := 0) rfl rfl) rfl hl.1 rfl (Nat.le_of_ble_eq_true rfl) dX1_begin_30 ⟨Nat.le_of_ble_eq_true rfl, Nat.le_of_ble_eq_true rfl⟩ (fun r_73 u_74 H locs hr_73 hP hD hS => ?_)
      obtain ⟨q_75, q_76⟩ := u_74
      try dsimp only at hr_73
      obtain ⟨hbq_75, hr_73⟩ := hr_73
      have h9R := zRe (ws' := [(mv, .inr (1, [.ref mb, .int q_75, .int 6, .int nb, .int a_])), (mb, .inl (cI, 20, .inl q_76))]) hP hD rfl
      clear hP hD
      obtain ⟨hP, hD⟩ := h9R
      exact W.iret (v := r_73) hx hb hr (fun t ht hW => ⟨⟨r_73, (q_75, 6, nb, a_, q_76), rfl, ⟨(show 0 ≤ q_75.toInt ∧ q_75.toInt ≤ 2000 from ⟨by omega, by omega⟩), trivial⟩, zRet ht hP hD [0, 1] (by decide) rfl⟩, hS.F ht⟩) hS.2.2 dX1_begin_33
    · refine lv_aload_n hx hb dX1_begin_1 rfl (lv_at hl 1 rfl) ?_
      refine va_get (D := D) (ci := 2) (v := .int 6) (C := RX2) (T := TX2) (N := 3) hx hb hts hi_X1_begin_2 hown hK (zPu_P (hZ.kept hS) hu_u0) 0 rfl rfl 0 (by decide) (hts (.fieldLink RX1 28 "TheLiningsInIt$Pull" "kind" "I") (List.mem_of_getElem? (i := 1) rfl)) (fun _ h9 => h9) rfl dX1_begin_2 ?_
      refine va_put (D := D) (ci := 1) (v := .int 6) (ty := .int) (C := RX1) (T := TX1) (N := 5) hx hb hts hi_X1_begin_1 tyX1 tyX1_ok nmX1 hown hK hP hD hS 0 rfl rfl 2 (by decide) (hts (.fieldLink RX1 19 "TheLiningsInIt$Moves" "kind" "I") (List.mem_of_getElem? (i := 2) rfl)) (fun _ h9 => h9) rfl (by decide +kernel) rfl rfl (Nat.le_of_ble_eq_true rfl) dX1_begin_5 (fun H locs hP hD hS => ?_)
      have h9R := zRe (ws' := [(mv, .inr (1, [.ref mb, .int mr, .int 6, .int mm, .int mq])), (mb, .inl (cI, 20, .inl fb))]) hP hD rfl
      clear hP hD
      obtain ⟨hP, hD⟩ := h9R
      refine lv_aload_n hx hb dX1_begin_8 rfl (lv_at hl 0 rfl) ?_
      refine lv_iload_n hx hb dX1_begin_9 rfl (lv_at hl 2 rfl) ?_
      refine va_put (D := D) (ci := 1) (v := .int nb) (ty := .int) (C := RX1) (T := TX1) (N := 5) hx hb hts hi_X1_begin_1 tyX1 tyX1_ok nmX1 hown hK hP hD hS 0 rfl rfl 3 (by decide) (hts (.fieldLink RX1 22 "TheLiningsInIt$Moves" "m" "I") (List.mem_of_getElem? (i := 3) rfl)) (fun _ h9 => h9) rfl (by decide +kernel) rfl rfl (Nat.le_of_ble_eq_true rfl) dX1_begin_10 (fun H locs hP hD hS => ?_)
      have h9R := zRe (ws' := [(mv, .inr (1, [.ref mb, .int mr, .int 6, .int nb, .int mq])), (mb, .inl (cI, 20, .inl fb))]) hP hD rfl
      clear hP hD
      obtain ⟨hP, hD⟩ := h9R
      refine lv_aload_n hx hb dX1_begin_13 rfl (lv_at hl 0 rfl) ?_
      refine lv_aload_n hx hb dX1_begin_14 rfl (lv_at hl 1 rfl) ?_
      refine va_get (D := D) (ci := 2) (v := .int a_) (C := RX2) (T := TX2) (N := 3) hx hb hts hi_X1_begin_2 hown hK (zPu_P (hZ.kept hS) hu_u0) 0 rfl rfl 1 (by decide) (hts (.fieldLink RX1 31 "TheLiningsInIt$Pull" "a" "I") (List.mem_of_getElem? (i := 4) rfl)) (fun _ h9 => h9) rfl dX1_begin_15 ?_
      refine va_put (D := D) (ci := 1) (v := .int a_) (ty := .int) (C := RX1) (T := TX1) (N := 5) hx hb hts hi_X1_begin_1 tyX1 tyX1_ok nmX1 hown hK hP hD hS 0 rfl rfl 4 (by decide) (hts (.fieldLink RX1 25 "TheLiningsInIt$Moves" "k" "I") (List.mem_of_getElem? (i := 5) rfl)) (fun _ h9 => h9) rfl (by decide +kernel) rfl rfl (Nat.le_of_ble_eq_true rfl) dX1_begin_18 (fun H locs hP hD hS => ?_)
      have h9R := zRe (ws' := [(mv, .inr (1, [.ref mb, .int mr, .int 6, .int nb, .int a_])), (mb, .inl (cI, 20, .inl fb))]) hP hD rfl
      clear hP hD
      obtain ⟨hP, hD⟩ := h9R
      refine lv_aload_n hx hb dX1_begin_21 rfl (lv_at hl 0 rfl) ?_
      refine lv_aload_n hx hb dX1_begin_22 rfl (lv_at hl 0 rfl) ?_
      refine va_get (D := D) (ci := 1) (v := .int 6) (C := RX1) (T := TX1) (N := 5) hx hb hts hi_X1_begin_1 hown hK hP 0 rfl rfl 2 (by decide) (hts (.fieldLink RX1 19 "TheLiningsInIt$Moves" "kind" "I") (List.mem_of_getElem? (i := 2) rfl)) (fun _ h9 => h9) rfl dX1_begin_23 ?_
      refine lv_iload_n hx hb dX1_begin_26 rfl (lv_at hl 3 rfl) ?_
      refine lv_iload hx hb dX1_begin_27 (lv_at hl 4 rfl) ?_
      refine lv_iconst (v := 0) hx hb dX1_begin_29 (by decide) ?_
      skip
      refine zw_V (As := [.int 6, .int 1, .int x, .int 0]) (rest := []) (wr := []) ⟨hx, hb, hml, hown, hts⟩ (c_M_run_6_6_1_0 l D cI cJ cZ cP cS po mv mb (mr) (nb) (a_) fb (x) hy2 hy3 H.size) (cwV 4 hts gX1_begin_X1_run rfl rfl rfl (by decide +kernel) ⟨Nat.le_of_ble_eq_true rfl, Nat.le_of_ble_eq_true rfl⟩) hK hN (hZ.kept hS) hP hD hS hA [0, 1] [] rfl rfl (by decide) (by decide) (by decide) (va_recv hK hP (ci := 1) (q0 := 0) rfl rfl) rfl hl.1 rfl (Nat.le_of_ble_eq_true rfl) dX1_begin_30 ⟨Nat.le_of_ble_eq_true rfl, Nat.le_of_ble_eq_true rfl⟩ (fun r_77 u_78 H locs hr_77 hP hD hS => ?_)
      obtain ⟨q_79, q_80⟩ := u_78
      try dsimp only at hr_77
      obtain ⟨hbq_79, hr_77⟩ := hr_77
      have h9R := zRe (ws' := [(mv, .inr (1, [.ref mb, .int q_79, .int 6, .int nb, .int a_])), (mb, .inl (cI, 20, .inl q_80))]) hP hD rfl
      clear hP hD
      obtain ⟨hP, hD⟩ := h9R
      exact W.iret (v := r_77) hx hb hr (fun t ht hW => ⟨⟨r_77, (q_79, 6, nb, a_, q_80), rfl, ⟨(show 0 ≤ q_79.toInt ∧ q_79.toInt ≤ 2000 from ⟨by omega, by omega⟩), trivial⟩, zRet ht hP hD [0, 1] (by decide) rfl⟩, hS.F ht⟩) hS.2.2 dX1_begin_33
    · refine lv_aload_n hx hb dX1_begin_1 rfl (lv_at hl 1 rfl) ?_
      refine va_get (D := D) (ci := 2) (v := .int 6) (C := RX2) (T := TX2) (N := 3) hx hb hts hi_X1_begin_2 hown hK (zPu_P (hZ.kept hS) hu_u0) 0 rfl rfl 0 (by decide) (hts (.fieldLink RX1 28 "TheLiningsInIt$Pull" "kind" "I") (List.mem_of_getElem? (i := 1) rfl)) (fun _ h9 => h9) rfl dX1_begin_2 ?_
      refine va_put (D := D) (ci := 1) (v := .int 6) (ty := .int) (C := RX1) (T := TX1) (N := 5) hx hb hts hi_X1_begin_1 tyX1 tyX1_ok nmX1 hown hK hP hD hS 0 rfl rfl 2 (by decide) (hts (.fieldLink RX1 19 "TheLiningsInIt$Moves" "kind" "I") (List.mem_of_getElem? (i := 2) rfl)) (fun _ h9 => h9) rfl (by decide +kernel) rfl rfl (Nat.le_of_ble_eq_true rfl) dX1_begin_5 (fun H locs hP hD hS => ?_)
      have h9R := zRe (ws' := [(mv, .inr (1, [.ref mb, .int mr, .int 6, .int mm, .int mq])), (mb, .inl (cI, 20, .inl fb))]) hP hD rfl
      clear hP hD
      obtain ⟨hP, hD⟩ := h9R
      refine lv_aload_n hx hb dX1_begin_8 rfl (lv_at hl 0 rfl) ?_
      refine lv_iload_n hx hb dX1_begin_9 rfl (lv_at hl 2 rfl) ?_
      refine va_put (D := D) (ci := 1) (v := .int nb) (ty := .int) (C := RX1) (T := TX1) (N := 5) hx hb hts hi_X1_begin_1 tyX1 tyX1_ok nmX1 hown hK hP hD hS 0 rfl rfl 3 (by decide) (hts (.fieldLink RX1 22 "TheLiningsInIt$Moves" "m" "I") (List.mem_of_getElem? (i := 3) rfl)) (fun _ h9 => h9) rfl (by decide +kernel) rfl rfl (Nat.le_of_ble_eq_true rfl) dX1_begin_10 (fun H locs hP hD hS => ?_)
      have h9R := zRe (ws' := [(mv, .inr (1, [.ref mb, .int mr, .int 6, .int nb, .int mq])), (mb, .inl (cI, 20, .inl fb))]) hP hD rfl
      clear hP hD
      obtain ⟨hP, hD⟩ := h9R
      refine lv_aload_n hx hb dX1_begin_13 rfl (lv_at hl 0 rfl) ?_
      refine lv_aload_n hx hb dX1_begin_14 rfl (lv_at hl 1 rfl) ?_
      refine va_get (D := D) (ci := 2) (v := .int a_) (C := RX2) (T := TX2) (N := 3) hx hb hts hi_X1_begin_2 hown hK (zPu_P (hZ.kept hS) hu_u0) 0 rfl rfl 1 (by decide) (hts (.fieldLink RX1 31 "TheLiningsInIt$Pull" "a" "I") (List.mem_of_getElem? (i := 4) rfl)) (fun _ h9 => h9) rfl dX1_begin_15 ?_
      refine va_put (D := D) (ci := 1) (v := .int a_) (ty := .int) (C := RX1) (T := TX1) (N := 5) hx hb hts hi_X1_begin_1 tyX1 tyX1_ok nmX1 hown hK hP hD hS 0 rfl rfl 4 (by decide) (hts (.fieldLink RX1 25 "TheLiningsInIt$Moves" "k" "I") (List.mem_of_getElem? (i := 5) rfl)) (fun _ h9 => h9) rfl (by decide +kernel) rfl rfl (Nat.le_of_ble_eq_true rfl) dX1_begin_18 (fun H locs hP hD hS => ?_)
      have h9R := zRe (ws' := [(mv, .inr (1, [.ref mb, .int mr, .int 6, .int nb, .int a_])), (mb, .inl (cI, 20, .inl fb))]) hP hD rfl
      clear hP hD
      obtain ⟨hP, hD⟩ := h9R
      refine lv_aload_n hx hb dX1_begin_21 rfl (lv_at hl 0 rfl) ?_
      refine lv_aload_n hx hb dX1_begin_22 rfl (lv_at hl 0 rfl) ?_
      refine va_get (D := D) (ci := 1) (v := .int 6) (C := RX1) (T := TX1) (N := 5) hx hb hts hi_X1_begin_1 hown hK hP 0 rfl rfl 2 (by decide) (hts (.fieldLink RX1 19 "TheLiningsInIt$Moves" "kind" "I") (List.mem_of_getElem? (i := 2) rfl)) (fun _ h9 => h9) rfl dX1_begin_23 ?_
      refine lv_iload_n hx hb dX1_begin_26 rfl (lv_at hl 3 rfl) ?_
      refine lv_iload hx hb dX1_begin_27 (lv_at hl 4 rfl) ?_
      refine lv_iconst (v := 0) hx hb dX1_begin_29 (by decide) ?_
      skip
      refine zw_V (As := [.int 6, .int 2, .int x, .int 0]) (rest := []) (wr := []) ⟨hx, hb, hml, hown, hts⟩ (c_M_run_6_6_2_0 l D cI cJ cZ cP cS po mv mb (mr) (nb) (a_) fb (x) hy2 hy3 H.size) (cwV 4 hts gX1_begin_X1_run rfl rfl rfl (by decide +kernel) ⟨Nat.le_of_ble_eq_true rfl, Nat.le_of_ble_eq_true rfl⟩) hK hN (hZ.kept hS) hP hD hS hA [0, 1] [] rfl rfl (by decide) (by decide) (by decide) (va_recv hK hP (ci := 1) (q0 := 0) rfl rfl) rfl hl.1 rfl (Nat.le_of_ble_eq_true rfl) dX1_begin_30 ⟨Nat.le_of_ble_eq_true rfl, Nat.le_of_ble_eq_true rfl⟩ (fun r_81 u_82 H locs hr_81 hP hD hS => ?_)
      obtain ⟨q_83, q_84⟩ := u_82
      try dsimp only at hr_81
      obtain ⟨hbq_83, hr_81⟩ := hr_81
      have h9R := zRe (ws' := [(mv, .inr (1, [.ref mb, .int q_83, .int 6, .int nb, .int a_])), (mb, .inl (cI, 20, .inl q_84))]) hP hD rfl
      clear hP hD
      obtain ⟨hP, hD⟩ := h9R
      exact W.iret (v := r_81) hx hb hr (fun t ht hW => ⟨⟨r_81, (q_83, 6, nb, a_, q_84), rfl, ⟨(show 0 ≤ q_83.toInt ∧ q_83.toInt ≤ 2000 from ⟨by omega, by omega⟩), trivial⟩, zRet ht hP hD [0, 1] (by decide) rfl⟩, hS.F ht⟩) hS.2.2 dX1_begin_33

