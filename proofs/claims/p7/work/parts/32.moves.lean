theorem hi_X1_bodyAt_1 : ∀ w ∈ u_ws RX1 TX1 5, w ∈ wsX1_bodyAt := fun w h => (goodIn_r (u_ws RX1 TX1 5) [10, 11, 12, 13, 14] rfl (by decide +kernel) w h).1
set_option maxHeartbeats 4000000 in
set_option maxRecDepth 100000 in
theorem c_M_bodyAt (l : Launch) (D : va_G) (cI cJ cZ cP cS : ClassId) (po : zPool) (mv mb : Nat) (mr mk mm mq : Int32) (fb : Nat → Int32) (i : Int32) (hy0 : 0 ≤ mr.toInt) (hy1 : mr.toInt ≤ 100000) : Met l yX1_bodyAt wsX1_bodyAt ({ frames := 1, cells := 0, slots := 0, locals := 22 }) (va_Pc [.ref mv, .int i] (zR D (zKT cI cJ cZ cP cS) po [(mv, .inr (1, [.ref mb, .int mr, .int mk, .int mm, .int mq])), (mb, .inl (cI, 20, .inl fb))])) (vp_Si (fun r => True)) 0 0 (fun _ => False) := by
  refine Met.ofW (cc := cX1_bodyAt) (maxL := 2) (ret := (some .int)) (by decide) rfl ?_
  intro p e s m args below meth c s₁ B hml hv
  obtain ⟨rfl, hP, hK, hN, hZ⟩ := hv
  have hx := B.exec
  have hb := B.bytes
  have hr := B.returns
  have hts := atoms_spec (ws := wsX1_bodyAt) B.pre
  have hown : s.vm.findClass RX1 = some m.cls := findClass_of_methodNamed B.named
  have hlocks := B.notSynchronized
  have hl := lv_entry ([.ref mv, .int i]) (n := 2) (Nat.le_of_ble_eq_true rfl)
  rw [lg_entry_eq]
  generalize (lg_sl ([.ref mv, .int i]) ++ List.replicate (2 - (lg_sl ([.ref mv, .int i])).length) Slot.unset).toArray = ls at hl ⊢
  replace hl : lv_has ls 2 [(0, .ref mv), (1, .int i)] := hl
  refine lv_iload_n hx hb dX1_bodyAt_0 rfl (lv_at hl 1 rfl) ?_
  refine lv_iconst (v := 0) hx hb dX1_bodyAt_1 (by decide) ?_
  refine lv_aload_n hx hb dX1_bodyAt_2 rfl (lv_at hl 0 rfl) ?_
  refine va_get (D := D) (ci := 1) (v := .int mr) (C := RX1) (T := TX1) (N := 5) hx hb hts hi_X1_bodyAt_1 hown hK hP 0 rfl rfl 1 (by decide) (hts (.fieldLink RX1 15 "TheLiningsInIt$Moves" "ran" "I") (List.mem_of_getElem? (i := 1) rfl)) (fun _ h9 => h9) rfl dX1_bodyAt_3 ?_
  refine lv_bipush (v := 20) hx hb dX1_bodyAt_6 (by decide) ?_
  refine va_mmin hx hb (hml.trans hl.1.symm) hown (hts (.methodLink RX1 38 Lib.Math.min.name) (List.mem_of_getElem? (i := 2) rfl)) (hts _ (List.mem_of_getElem? (i := 3) rfl)) (hts _ (List.mem_of_getElem? (i := 4) rfl)) (hts _ (List.mem_of_getElem? (i := 5) rfl)) (Nat.le_of_ble_eq_true rfl) (Nat.le_of_ble_eq_true rfl) (Nat.le_of_ble_eq_true rfl) (Nat.le_of_ble_eq_true rfl) dX1_bodyAt_8 ?_
  refine lv_topi (fun x_1 ex_1 => ?_)
  have qx_1 := zf_min ex_1 (x1 := mr.toInt) (y1 := 20) rfl (by decide)
  refine lv_iconst (v := 1) hx hb dX1_bodyAt_11 (by decide) ?_
  refine lv_isub hx hb dX1_bodyAt_12 ?_
  refine lv_topi (fun x_2 ex_2 => ?_)
  have qx_2 : x_2.toInt = x_1.toInt - 1 := by rw [ex_2]; exact zf_sub rfl (by decide) (by omega) (by omega)
  have kc0 : (0 : Int32).toInt = 0 := by decide
  refine zc_SN (As := [.int i, .int 0, .int x_2]) (rest := []) ⟨hx, hb, hml, hown, hts⟩ (c_within l D cI cJ cZ cP cS po (i) (0) (x_2) ) ⟨(va_cnB 3 hts gX1_bodyAt_X7_within_n44 rfl rfl rfl (hN.1 (RX1, 44, yX7_within) (List.mem_of_getElem? (i := 13) rfl)) (hts _ (List.mem_of_getElem? (i := 8) rfl)) (by decide +kernel) ⟨Nat.le_of_ble_eq_true rfl, Nat.le_of_ble_eq_true rfl⟩), (hts _ (List.mem_of_getElem? (i := 7) rfl)), trivial⟩ hK hN hZ rfl hl.1 rfl (Nat.le_of_ble_eq_true rfl) dX1_bodyAt_13 ⟨Nat.le_of_ble_eq_true rfl, Nat.le_of_ble_eq_true rfl⟩ (fun r_3 hr_3 => ?_)
  rcases hr_3 with ⟨rfl, g_4⟩ | ⟨rfl, g_5, g_6⟩ | ⟨rfl, g_7, g_8⟩
  · refine lv_if_eq (tgt := 28) hx hb dX1_bodyAt_16 (by decide) (fun c_9 => ?_) (fun c_9 => ?_)
    · refine lv_iconst (v := (-1)) hx hb dX1_bodyAt_28 (by decide) ?_
      exact W.iret (v := (-1)) hx hb hr (fun t ht hW => ⟨(-1), rfl, trivial, ht⟩) (fun q hq => by cases hq) dX1_bodyAt_29
    · exact absurd c_9 (by decide)
  · refine lv_if_eq (tgt := 28) hx hb dX1_bodyAt_16 (by decide) (fun c_10 => ?_) (fun c_10 => ?_)
    · refine lv_iconst (v := (-1)) hx hb dX1_bodyAt_28 (by decide) ?_
      exact W.iret (v := (-1)) hx hb hr (fun t ht hW => ⟨(-1), rfl, trivial, ht⟩) (fun q hq => by cases hq) dX1_bodyAt_29
    · exact absurd c_10 (by decide)
  · refine lv_if_eq (tgt := 28) hx hb dX1_bodyAt_16 (by decide) (fun c_11 => ?_) (fun c_11 => ?_)
    · exact absurd c_11 (by decide)
    · refine lv_aload_n hx hb dX1_bodyAt_19 rfl (lv_at hl 0 rfl) ?_
      refine va_get (D := D) (ci := 1) (v := .ref mb) (C := RX1) (T := TX1) (N := 5) hx hb hts hi_X1_bodyAt_1 hown hK hP 0 rfl rfl 0 (by decide) (hts (.fieldLink RX1 11 "TheLiningsInIt$Moves" "bodies" "[I") (List.mem_of_getElem? (i := 6) rfl)) (fun _ h9 => h9) rfl dX1_bodyAt_20 ?_
      refine lv_iload_n hx hb dX1_bodyAt_23 rfl (lv_at hl 1 rfl) ?_
      refine va_iald hx hb hK hP 1 0 rfl rfl (zf_in (by omega) (by omega)) dX1_bodyAt_24 ?_
      refine lv_topi (fun x_12 ex_12 => ?_)
      refine lv_goto (tgt := 29) hx hb dX1_bodyAt_25 (by decide) ?_
      exact W.iret (v := x_12) hx hb hr (fun t ht hW => ⟨x_12, rfl, trivial, ht⟩) (fun q hq => by cases hq) dX1_bodyAt_29
theorem hi_X1_note_1 : ∀ w ∈ u_ws RX1 TX1 5, w ∈ wsX1_note := fun w h => (goodIn_r (u_ws RX1 TX1 5) [3, 4, 5, 6, 7] rfl (by decide +kernel) w h).1
set_option maxHeartbeats 4000000 in
set_option maxRecDepth 100000 in
theorem c_M_note (l : Launch) (D : va_G) (cI cJ cZ cP cS : ClassId) (po : zPool) (mv mb : Nat) (mr mk mm mq : Int32) (fb : Nat → Int32) (bo : Int32) (hy0 : 0 ≤ mr.toInt) (hy1 : mr.toInt ≤ 100000) (hpz : Nat) : Met l yX1_note wsX1_note ({ frames := 0, cells := 0, slots := 0, locals := 0 }) (va_Pc [.ref mv, .int bo] (zW D (zKT cI cJ cZ cP cS) po [(mv, .inr (1, [.ref mb, .int mr, .int mk, .int mm, .int mq])), (mb, .inl (cI, 20, .inl fb))] hpz)) (va_Qv (fun (u : (Int32) × (Nat → Int32)) => u.1.toInt = mr.toInt + 1 ∧ (True)) (zB D [(mv, .inr (1, [.ref mb, .int mr, .int mk, .int mm, .int mq])), (mb, .inl (cI, 20, .inl fb))] hpz (fun (u : (Int32) × (Nat → Int32)) => [(mv, .inr (1, [.ref mb, .int u.1, .int mk, .int mm, .int mq])), (mb, .inl (cI, 20, .inl u.2))])) (va_A [(mv, .inr (1, [.ref mb, .int mr, .int mk, .int mm, .int mq])), (mb, .inl (cI, 20, .inl fb))] hpz)) 0 0 (va_A [(mv, .inr (1, [.ref mb, .int mr, .int mk, .int mm, .int mq])), (mb, .inl (cI, 20, .inl fb))] hpz) := by
  refine Met.ofW (cc := cX1_note) (maxL := 2) (ret := none) (by decide) rfl ?_
  intro p e s m args below meth c s₁ B hml hv
  obtain ⟨rfl, hsz, hP, hK, hD0, hN, hZ⟩ := hv
  have hx := B.exec
  have hb := B.bytes
  have hr := B.returns
  have hts := atoms_spec (ws := wsX1_note) B.pre
  have hown : s.vm.findClass RX1 = some m.cls := findClass_of_methodNamed B.named
  have hlocks := B.notSynchronized
  subst hsz
  have hD := hD0.self (sz := s.heap.size)
  have hA := zA_of hD
  have hl := lv_entry ([.ref mv, .int bo]) (n := 2) (Nat.le_of_ble_eq_true rfl)
  rw [lg_entry_eq]
  generalize (lg_sl ([.ref mv, .int bo]) ++ List.replicate (2 - (lg_sl ([.ref mv, .int bo])).length) Slot.unset).toArray = ls at hl ⊢
  replace hl : lv_has ls 2 [(0, .ref mv), (1, .int bo)] := hl
  refine zw_begin hP hD (fun H locs hP1 hS => ?_)
  clear hP
  have hP := hP1
  clear hP1
  refine lv_aload_n hx hb dX1_note_0 rfl (lv_at hl 0 rfl) ?_
  refine va_get (D := D) (ci := 1) (v := .int mr) (C := RX1) (T := TX1) (N := 5) hx hb hts hi_X1_note_1 hown hK hP 0 rfl rfl 1 (by decide) (hts (.fieldLink RX1 15 "TheLiningsInIt$Moves" "ran" "I") (List.mem_of_getElem? (i := 1) rfl)) (fun _ h9 => h9) rfl dX1_note_1 ?_
  refine lv_bipush (v := 20) hx hb dX1_note_4 (by decide) ?_
  refine lv_icmp_ge (tgt := 19) hx hb dX1_note_6 (by decide) (fun c_1 => ?_) (fun c_1 => ?_)
  · have fc_1 : 20 ≤ mr.toInt := zf_le c_1 (by decide) rfl
    refine lv_aload_n hx hb dX1_note_19 rfl (lv_at hl 0 rfl) ?_
    refine lv_dup hx hb dX1_note_20 rfl ?_
    refine va_get (D := D) (ci := 1) (v := .int mr) (C := RX1) (T := TX1) (N := 5) hx hb hts hi_X1_note_1 hown hK hP 0 rfl rfl 1 (by decide) (hts (.fieldLink RX1 15 "TheLiningsInIt$Moves" "ran" "I") (List.mem_of_getElem? (i := 1) rfl)) (fun _ h9 => h9) rfl dX1_note_21 ?_
    refine lv_iconst (v := 1) hx hb dX1_note_24 (by decide) ?_
    refine lv_iadd hx hb dX1_note_25 ?_
    refine lv_topi (fun x_2 ex_2 => ?_)
    have qx_2 : x_2.toInt = mr.toInt + 1 := by rw [ex_2]; exact zf_add rfl (by decide) (by omega) (by omega)
    refine va_put (D := D) (ci := 1) (v := .int x_2) (ty := .int) (C := RX1) (T := TX1) (N := 5) hx hb hts hi_X1_note_1 tyX1 tyX1_ok nmX1 hown hK hP hD hS 0 rfl rfl 1 (by decide) (hts (.fieldLink RX1 15 "TheLiningsInIt$Moves" "ran" "I") (List.mem_of_getElem? (i := 1) rfl)) (fun _ h9 => h9) rfl (by decide +kernel) rfl rfl (Nat.le_of_ble_eq_true rfl) dX1_note_26 (fun H locs hP hD hS => ?_)
    have h9R := zRe (ws' := [(mv, .inr (1, [.ref mb, .int x_2, .int mk, .int mm, .int mq])), (mb, .inl (cI, 20, .inl fb))]) hP hD rfl
    clear hP hD
    obtain ⟨hP, hD⟩ := h9R
    exact W.vret hx hb hr (fun t ht hW => ⟨⟨(x_2, fb), rfl, ⟨(show x_2.toInt = mr.toInt + 1 from by omega), trivial⟩, zRet ht hP hD [0, 1] (by decide) rfl⟩, hS.F ht⟩) hS.2.2 dX1_note_29
  · have fc_1 : mr.toInt < 20 := zf_nle c_1 (by decide) rfl
    refine lv_aload_n hx hb dX1_note_9 rfl (lv_at hl 0 rfl) ?_
    refine va_get (D := D) (ci := 1) (v := .ref mb) (C := RX1) (T := TX1) (N := 5) hx hb hts hi_X1_note_1 hown hK hP 0 rfl rfl 0 (by decide) (hts (.fieldLink RX1 11 "TheLiningsInIt$Moves" "bodies" "[I") (List.mem_of_getElem? (i := 2) rfl)) (fun _ h9 => h9) rfl dX1_note_10 ?_
    refine lv_aload_n hx hb dX1_note_13 rfl (lv_at hl 0 rfl) ?_
    refine va_get (D := D) (ci := 1) (v := .int mr) (C := RX1) (T := TX1) (N := 5) hx hb hts hi_X1_note_1 hown hK hP 0 rfl rfl 1 (by decide) (hts (.fieldLink RX1 15 "TheLiningsInIt$Moves" "ran" "I") (List.mem_of_getElem? (i := 1) rfl)) (fun _ h9 => h9) rfl dX1_note_14 ?_
    refine lv_iload_n hx hb dX1_note_17 rfl (lv_at hl 1 rfl) ?_
    refine va_iast hx hb hK hP hD hS 1 0 rfl rfl (zf_in (by omega) (by omega)) dX1_note_18 (fun H locs hP hD hS => ?_)
    obtain ⟨g_3, hg_3⟩ : ∃ g : Nat → Int32, g = upd fb mr.toNatClampNeg bo := ⟨_, rfl⟩
    rw [← hg_3] at hP hD
    clear hg_3
    have h9R := zRe (ws' := [(mv, .inr (1, [.ref mb, .int mr, .int mk, .int mm, .int mq])), (mb, .inl (cI, 20, .inl g_3))]) hP hD rfl
    clear hP hD
    obtain ⟨hP, hD⟩ := h9R
    refine lv_aload_n hx hb dX1_note_19 rfl (lv_at hl 0 rfl) ?_
    refine lv_dup hx hb dX1_note_20 rfl ?_
    refine va_get (D := D) (ci := 1) (v := .int mr) (C := RX1) (T := TX1) (N := 5) hx hb hts hi_X1_note_1 hown hK hP 0 rfl rfl 1 (by decide) (hts (.fieldLink RX1 15 "TheLiningsInIt$Moves" "ran" "I") (List.mem_of_getElem? (i := 1) rfl)) (fun _ h9 => h9) rfl dX1_note_21 ?_
    refine lv_iconst (v := 1) hx hb dX1_note_24 (by decide) ?_
    refine lv_iadd hx hb dX1_note_25 ?_
    refine lv_topi (fun x_4 ex_4 => ?_)
    have qx_4 : x_4.toInt = mr.toInt + 1 := by rw [ex_4]; exact zf_add rfl (by decide) (by omega) (by omega)
    refine va_put (D := D) (ci := 1) (v := .int x_4) (ty := .int) (C := RX1) (T := TX1) (N := 5) hx hb hts hi_X1_note_1 tyX1 tyX1_ok nmX1 hown hK hP hD hS 0 rfl rfl 1 (by decide) (hts (.fieldLink RX1 15 "TheLiningsInIt$Moves" "ran" "I") (List.mem_of_getElem? (i := 1) rfl)) (fun _ h9 => h9) rfl (by decide +kernel) rfl rfl (Nat.le_of_ble_eq_true rfl) dX1_note_26 (fun H locs hP hD hS => ?_)
    have h9R := zRe (ws' := [(mv, .inr (1, [.ref mb, .int x_4, .int mk, .int mm, .int mq])), (mb, .inl (cI, 20, .inl g_3))]) hP hD rfl
    clear hP hD
    obtain ⟨hP, hD⟩ := h9R
    exact W.vret hx hb hr (fun t ht hW => ⟨⟨(x_4, g_3), rfl, ⟨(show x_4.toInt = mr.toInt + 1 from by omega), trivial⟩, zRet ht hP hD [0, 1] (by decide) rfl⟩, hS.F ht⟩) hS.2.2 dX1_note_29

