section
set_option maxHeartbeats 4000000 in
set_option maxRecDepth 100000 in
theorem c_F_W_headIsCheapest (l : Launch) (D : va_G) (cI cJ cZ cP cS : ClassId) (po : zPool) (w0 wk wl wc wp : Nat) (wn wh wg : Int32) (fc : Nat → Int32) (sec : Int32) (hy0 : 0 ≤ wn.toInt) (hy1 : wn.toInt ≤ 8) (hy2 : 0 ≤ wh.toInt) (hy3 : wh.toInt ≤ 9) (hy4 : 0 ≤ wg.toInt) (hy5 : wg.toInt ≤ 60) (hy6 : 0 ≤ sec.toInt) (hy7 : sec.toInt ≤ 300) (hp_fc : zRg fc (0) 99) : Met l yX5_headIsCheapest wsX5_headIsCheapest ({ frames := 0, cells := 0, slots := 0, locals := 0 }) (va_Pc [.ref w0, .int sec] (zR D (zKT cI cJ cZ cP cS) po [(w0, .inr (5, [.ref wk, .ref wl, .ref wc, .ref wp, .int wn, .int wh, .int wg])), (wc, .inl (cI, 3, .inl fc))])) (vp_Si (fun r => 0 ≤ r.toInt ∧ r.toInt ≤ 1 ∧ ((r.toInt = 1 → (30 ≤ sec.toInt ∧ (fc 1).toInt ≤ (fc 2).toInt)) ∧ (r.toInt = 0 → ¬ (30 ≤ sec.toInt ∧ (fc 1).toInt ≤ (fc 2).toInt))))) 0 0 (fun _ => False) := by
  refine Met.ofW (cc := cX5_headIsCheapest) (maxL := 2) (ret := (some .boolean)) (by decide) rfl ?_
  intro p e s m args below meth c s₁ B hml hv
  obtain ⟨rfl, hP, hK, hN, hZ⟩ := hv
  have hx := B.exec
  have hb := B.bytes
  have hr := B.returns
  have hts := atoms_spec (ws := wsX5_headIsCheapest) B.pre
  have hown : s.vm.findClass RX5 = some m.cls := findClass_of_methodNamed B.named
  have hlocks := B.notSynchronized
  have hl := lv_entry ([.ref w0, .int sec]) (n := 2) (Nat.le_of_ble_eq_true rfl)
  rw [lg_entry_eq]
  generalize (lg_sl ([.ref w0, .int sec]) ++ List.replicate (2 - (lg_sl ([.ref w0, .int sec])).length) Slot.unset).toArray = ls at hl ⊢
  replace hl : lv_has ls 2 [(0, .ref w0), (1, .int sec)] := hl
  refine lv_iload_n hx hb dX5_headIsCheapest_0 rfl (lv_at hl 1 rfl) ?_
  refine lv_bipush (v := 30) hx hb dX5_headIsCheapest_1 (by decide) ?_
  refine lv_icmp_lt (tgt := 25) hx hb dX5_headIsCheapest_3 (by decide) (fun c_1 => ?_) (fun c_1 => ?_)
  · have fc_1 : sec.toInt < 30 := zf_lt c_1 rfl (by decide)
    refine lv_iconst (v := 0) hx hb dX5_headIsCheapest_25 (by decide) ?_
    exact W.zret (v := 0) hx hb hr (by decide) (fun t ht hW => ⟨0, rfl, ⟨by decide, by decide, (show ((0 : Int32).toInt = 1 → (30 ≤ sec.toInt ∧ (fc 1).toInt ≤ (fc 2).toInt)) ∧ ((0 : Int32).toInt = 0 → ¬ (30 ≤ sec.toInt ∧ (fc 1).toInt ≤ (fc 2).toInt)) from by (exact ⟨fun h => absurd h (by decide), fun _ => fun z => by (have z1 := z.1; have z2 := z.2; omega)⟩))⟩, ht⟩) (fun q hq => by cases hq) dX5_headIsCheapest_26
  · have fc_1 : 30 ≤ sec.toInt := zf_nlt c_1 rfl (by decide)
    refine lv_aload_n hx hb dX5_headIsCheapest_6 rfl (lv_at hl 0 rfl) ?_
    refine va_get (D := D) (ci := 5) (v := .ref wc) (C := RX5) (T := TX5) (N := 7) hx hb hts hi_X5_headIsCheapest_5 hown hK hP 0 rfl rfl 2 (by decide) (hts (.fieldLink RX5 18 "TheLiningsInIt$Ways" "costs" "[I") (List.mem_of_getElem? (i := 1) rfl)) (fun _ h9 => h9) rfl dX5_headIsCheapest_7 ?_
    refine lv_iconst (v := 1) hx hb dX5_headIsCheapest_10 (by decide) ?_
    refine va_iald hx hb hK hP 1 0 rfl rfl (zf_in (by decide) (by decide)) dX5_headIsCheapest_11 ?_
    refine lv_topi (fun x_2 ex_2 => ?_)
    have bx_2 : 0 ≤ x_2.toInt ∧ x_2.toInt ≤ 99 := by rw [ex_2]; exact hp_fc _
    refine lv_aload_n hx hb dX5_headIsCheapest_12 rfl (lv_at hl 0 rfl) ?_
    refine va_get (D := D) (ci := 5) (v := .ref wc) (C := RX5) (T := TX5) (N := 7) hx hb hts hi_X5_headIsCheapest_5 hown hK hP 0 rfl rfl 2 (by decide) (hts (.fieldLink RX5 18 "TheLiningsInIt$Ways" "costs" "[I") (List.mem_of_getElem? (i := 1) rfl)) (fun _ h9 => h9) rfl dX5_headIsCheapest_13 ?_
    refine lv_iconst (v := 2) hx hb dX5_headIsCheapest_16 (by decide) ?_
    refine va_iald hx hb hK hP 1 0 rfl rfl (zf_in (by decide) (by decide)) dX5_headIsCheapest_17 ?_
    refine lv_topi (fun x_3 ex_3 => ?_)
    have bx_3 : 0 ≤ x_3.toInt ∧ x_3.toInt ≤ 99 := by rw [ex_3]; exact hp_fc _
    refine lv_icmp_gt (tgt := 25) hx hb dX5_headIsCheapest_18 (by decide) (fun c_4 => ?_) (fun c_4 => ?_)
    · have fc_4 : x_3.toInt < x_2.toInt := zf_lt c_4 rfl rfl
      refine lv_iconst (v := 0) hx hb dX5_headIsCheapest_25 (by decide) ?_
      exact W.zret (v := 0) hx hb hr (by decide) (fun t ht hW => ⟨0, rfl, ⟨by decide, by decide, (show ((0 : Int32).toInt = 1 → (30 ≤ sec.toInt ∧ (fc 1).toInt ≤ (fc 2).toInt)) ∧ ((0 : Int32).toInt = 0 → ¬ (30 ≤ sec.toInt ∧ (fc 1).toInt ≤ (fc 2).toInt)) from by (have nx_2 : (fc 1).toInt = x_2.toInt := (by rw [ex_2, show (1 : Int32).toNatClampNeg = 1 from by decide]); have nx_3 : (fc 2).toInt = x_3.toInt := (by rw [ex_3, show (2 : Int32).toNatClampNeg = 2 from by decide]); exact ⟨fun h => absurd h (by decide), fun _ => fun z => by (have z1 := z.1; have z2 := z.2; omega)⟩))⟩, ht⟩) (fun q hq => by cases hq) dX5_headIsCheapest_26
    · have fc_4 : x_2.toInt ≤ x_3.toInt := zf_nlt c_4 rfl rfl
      refine lv_iconst (v := 1) hx hb dX5_headIsCheapest_21 (by decide) ?_
      refine lv_goto (tgt := 26) hx hb dX5_headIsCheapest_22 (by decide) ?_
      exact W.zret (v := 1) hx hb hr (by decide) (fun t ht hW => ⟨1, rfl, ⟨by decide, by decide, (show ((1 : Int32).toInt = 1 → (30 ≤ sec.toInt ∧ (fc 1).toInt ≤ (fc 2).toInt)) ∧ ((1 : Int32).toInt = 0 → ¬ (30 ≤ sec.toInt ∧ (fc 1).toInt ≤ (fc 2).toInt)) from by (have nx_2 : (fc 1).toInt = x_2.toInt := (by rw [ex_2, show (1 : Int32).toNatClampNeg = 1 from by decide]); have nx_3 : (fc 2).toInt = x_3.toInt := (by rw [ex_3, show (2 : Int32).toNatClampNeg = 2 from by decide]); exact ⟨fun _ => ⟨by omega, by omega⟩, fun h => absurd h (by decide)⟩))⟩, ht⟩) (fun q hq => by cases hq) dX5_headIsCheapest_26
set_option maxHeartbeats 4000000 in
set_option maxRecDepth 100000 in
theorem c_F_W_leastAtOnce_0 (l : Launch) (D : va_G) (cI cJ cZ cP cS : ClassId) (po : zPool) (w0 wk wl wc wp : Nat) (wn wh wg : Int32) (fc : Nat → Int32) (sec : Int32) (hy0 : 0 ≤ wn.toInt) (hy1 : wn.toInt ≤ 8) (hy2 : 0 ≤ wh.toInt) (hy3 : wh.toInt ≤ 9) (hy4 : 0 ≤ wg.toInt) (hy5 : wg.toInt ≤ 60) (hy6 : 0 ≤ sec.toInt) (hy7 : sec.toInt ≤ 300) (hp_fc : zRg fc (0) 99) : Met l yX5_leastAtOnce wsX5_leastAtOnce ({ frames := 1, cells := 0, slots := 0, locals := 21 }) (va_Pc [.ref w0, .int 0, .int sec] (zR D (zKT cI cJ cZ cP cS) po [(w0, .inr (5, [.ref wk, .ref wl, .ref wc, .ref wp, .int wn, .int wh, .int wg])), (wc, .inl (cI, 3, .inl fc))])) (vp_Si (fun r => 0 ≤ r.toInt ∧ r.toInt ≤ 99 ∧ (r.toInt = zPw 0 * zAt (fc 1).toInt (fc 2).toInt sec.toInt))) 0 0 (fun _ => False) := by
  refine Met.ofW (cc := cX5_leastAtOnce) (maxL := 3) (ret := (some .int)) (by decide) rfl ?_
  intro p e s m args below meth c s₁ B hml hv
  obtain ⟨rfl, hP, hK, hN, hZ⟩ := hv
  have hx := B.exec
  have hb := B.bytes
  have hr := B.returns
  have hts := atoms_spec (ws := wsX5_leastAtOnce) B.pre
  have hown : s.vm.findClass RX5 = some m.cls := findClass_of_methodNamed B.named
  have hlocks := B.notSynchronized
  have hl := lv_entry ([.ref w0, .int 0, .int sec]) (n := 3) (Nat.le_of_ble_eq_true rfl)
  rw [lg_entry_eq]
  generalize (lg_sl ([.ref w0, .int 0, .int sec]) ++ List.replicate (3 - (lg_sl ([.ref w0, .int 0, .int sec])).length) Slot.unset).toArray = ls at hl ⊢
  replace hl : lv_has ls 3 [(0, .ref w0), (1, .int 0), (2, .int sec)] := hl
  obtain ⟨t_1, zt_1, yt_1⟩ := hZ.1.1
  refine va_gets hx hb zt_1 va_S.rf hown (hts (.fieldLink RX5 79 "TheLiningsInIt$Ways" "POWERS" "[I") (List.mem_of_getElem? (i := 1) rfl)) (fun _ h9 => h9) dX5_leastAtOnce_0 ?_
  refine lv_iload_n hx hb dX5_leastAtOnce_3 rfl (lv_at hl 1 rfl) ?_
  refine va_ti hx hb yt_1 va_S.rf (zf_in (by decide) (by decide)) (v := .int 1) (by decide) dX5_leastAtOnce_4 ?_
  refine lv_aload_n hx hb dX5_leastAtOnce_5 rfl (lv_at hl 0 rfl) ?_
  refine va_get (D := D) (ci := 5) (v := .ref wc) (C := RX5) (T := TX5) (N := 7) hx hb hts hi_X5_leastAtOnce_5 hown hK hP 0 rfl rfl 2 (by decide) (hts (.fieldLink RX5 18 "TheLiningsInIt$Ways" "costs" "[I") (List.mem_of_getElem? (i := 2) rfl)) (fun _ h9 => h9) rfl dX5_leastAtOnce_6 ?_
  refine lv_aload_n hx hb dX5_leastAtOnce_9 rfl (lv_at hl 0 rfl) ?_
  refine lv_iload_n hx hb dX5_leastAtOnce_10 rfl (lv_at hl 2 rfl) ?_
  refine zc_V (As := [.int sec]) (rest := [.ref wc, .int 1]) ⟨hx, hb, hml, hown, hts⟩ (c_F_W_headIsCheapest l D cI cJ cZ cP cS po w0 wk wl wc wp (wn) (wh) (wg) fc (sec) hy0 hy1 hy2 hy3 hy4 hy5 hy6 hy7 hp_fc) (cwV 1 hts gX5_leastAtOnce_X5_headIsCheapest rfl rfl rfl ⟨rfl, dh_X5_headIsCheapest⟩ ⟨Nat.le_of_ble_eq_true rfl, Nat.le_of_ble_eq_true rfl⟩) hK hN hZ hP (hP.sub [0, 1] rfl) (va_recv (q := (RX5, TX5, 7)) hK hP (ci := 5) (q0 := 0) rfl rfl) rfl hl.1 rfl (Nat.le_of_ble_eq_true rfl) dX5_leastAtOnce_11 ⟨Nat.le_of_ble_eq_true rfl, Nat.le_of_ble_eq_true rfl⟩ (fun r_2 hr_2 => ?_)
  obtain ⟨g_3, g_4, hsr_2_0⟩ := hr_2
  refine lv_if_eq (tgt := 21) hx hb dX5_leastAtOnce_14 (by decide) (fun c_5 => ?_) (fun c_5 => ?_)
  · have fc_5 : r_2.toInt = 0 := zf_eq c_5 rfl (by decide)
    refine lv_iconst (v := 2) hx hb dX5_leastAtOnce_21 (by decide) ?_
    refine va_iald hx hb hK hP 1 0 rfl rfl (zf_in (by decide) (by decide)) dX5_leastAtOnce_22 ?_
    refine lv_topi (fun x_6 ex_6 => ?_)
    have bx_6 : 0 ≤ x_6.toInt ∧ x_6.toInt ≤ 99 := by rw [ex_6]; exact hp_fc _
    refine lv_imul hx hb dX5_leastAtOnce_23 ?_
    refine lv_topi (fun x_7 ex_7 => ?_)
    have qx_7 : x_7.toInt = 1 * x_6.toInt := by rw [ex_7]; exact zf_mul (by decide) rfl (by omega) (by omega)
    exact W.iret (v := x_7) hx hb hr (fun t ht hW => ⟨x_7, rfl, ⟨by omega, by omega, (show (x_7 : Int32).toInt = zPw 0 * zAt (fc 1).toInt (fc 2).toInt sec.toInt from by (have nx_6 : (fc 2).toInt = x_6.toInt := (by rw [ex_6, show (2 : Int32).toNatClampNeg = 2 from by decide]); have zh := hsr_2_0; have ht : zAt (fc 1).toInt (fc 2).toInt sec.toInt = x_6.toInt := (by unfold zAt; first | (have z1 := zh.2 (by omega); by_cases c : 30 ≤ sec.toInt; (rw [if_pos c]; omega); (rw [if_neg c]; omega)) | (have z1 := zh.1 (by omega); rw [if_pos z1.1]; omega)); rw [ht, show zPw 0 = 1 from by decide]; omega))⟩, ht⟩) (fun q hq => by cases hq) dX5_leastAtOnce_24
  · have fc_5 : r_2.toInt ≠ 0 := zf_ne c_5 rfl (by decide)
    refine lv_iconst (v := 1) hx hb dX5_leastAtOnce_17 (by decide) ?_
    refine lv_goto (tgt := 22) hx hb dX5_leastAtOnce_18 (by decide) ?_
    refine va_iald hx hb hK hP 1 0 rfl rfl (zf_in (by decide) (by decide)) dX5_leastAtOnce_22 ?_
    refine lv_topi (fun x_8 ex_8 => ?_)
    have bx_8 : 0 ≤ x_8.toInt ∧ x_8.toInt ≤ 99 := by rw [ex_8]; exact hp_fc _
    refine lv_imul hx hb dX5_leastAtOnce_23 ?_
    refine lv_topi (fun x_9 ex_9 => ?_)
    have qx_9 : x_9.toInt = 1 * x_8.toInt := by rw [ex_9]; exact zf_mul (by decide) rfl (by omega) (by omega)
    exact W.iret (v := x_9) hx hb hr (fun t ht hW => ⟨x_9, rfl, ⟨by omega, by omega, (show (x_9 : Int32).toInt = zPw 0 * zAt (fc 1).toInt (fc 2).toInt sec.toInt from by (have nx_8 : (fc 1).toInt = x_8.toInt := (by rw [ex_8, show (1 : Int32).toNatClampNeg = 1 from by decide]); have zh := hsr_2_0; have ht : zAt (fc 1).toInt (fc 2).toInt sec.toInt = x_8.toInt := (by unfold zAt; first | (have z1 := zh.1 (by omega); rw [if_pos z1.1]; omega) | (have z1 := zh.2 (by omega); by_cases c : 30 ≤ sec.toInt; (rw [if_pos c]; omega); (rw [if_neg c]; omega))); rw [ht, show zPw 0 = 1 from by decide]; omega))⟩, ht⟩) (fun q hq => by cases hq) dX5_leastAtOnce_24
set_option maxHeartbeats 4000000 in
set_option maxRecDepth 100000 in
theorem c_F_W_leastAtOnce_1 (l : Launch) (D : va_G) (cI cJ cZ cP cS : ClassId) (po : zPool) (w0 wk wl wc wp : Nat) (wn wh wg : Int32) (fc : Nat → Int32) (sec : Int32) (hy0 : 0 ≤ wn.toInt) (hy1 : wn.toInt ≤ 8) (hy2 : 0 ≤ wh.toInt) (hy3 : wh.toInt ≤ 9) (hy4 : 0 ≤ wg.toInt) (hy5 : wg.toInt ≤ 60) (hy6 : 0 ≤ sec.toInt) (hy7 : sec.toInt ≤ 300) (hp_fc : zRg fc (0) 99) : Met l yX5_leastAtOnce wsX5_leastAtOnce ({ frames := 1, cells := 0, slots := 0, locals := 21 }) (va_Pc [.ref w0, .int 1, .int sec] (zR D (zKT cI cJ cZ cP cS) po [(w0, .inr (5, [.ref wk, .ref wl, .ref wc, .ref wp, .int wn, .int wh, .int wg])), (wc, .inl (cI, 3, .inl fc))])) (vp_Si (fun r => 0 ≤ r.toInt ∧ r.toInt ≤ 1188 ∧ (r.toInt = zPw 1 * zAt (fc 1).toInt (fc 2).toInt sec.toInt))) 0 0 (fun _ => False) := by
  refine Met.ofW (cc := cX5_leastAtOnce) (maxL := 3) (ret := (some .int)) (by decide) rfl ?_
  intro p e s m args below meth c s₁ B hml hv
  obtain ⟨rfl, hP, hK, hN, hZ⟩ := hv
  have hx := B.exec
  have hb := B.bytes
  have hr := B.returns
  have hts := atoms_spec (ws := wsX5_leastAtOnce) B.pre
  have hown : s.vm.findClass RX5 = some m.cls := findClass_of_methodNamed B.named
  have hlocks := B.notSynchronized
  have hl := lv_entry ([.ref w0, .int 1, .int sec]) (n := 3) (Nat.le_of_ble_eq_true rfl)
  rw [lg_entry_eq]
  generalize (lg_sl ([.ref w0, .int 1, .int sec]) ++ List.replicate (3 - (lg_sl ([.ref w0, .int 1, .int sec])).length) Slot.unset).toArray = ls at hl ⊢
  replace hl : lv_has ls 3 [(0, .ref w0), (1, .int 1), (2, .int sec)] := hl
  obtain ⟨t_1, zt_1, yt_1⟩ := hZ.1.1
  refine va_gets hx hb zt_1 va_S.rf hown (hts (.fieldLink RX5 79 "TheLiningsInIt$Ways" "POWERS" "[I") (List.mem_of_getElem? (i := 1) rfl)) (fun _ h9 => h9) dX5_leastAtOnce_0 ?_
  refine lv_iload_n hx hb dX5_leastAtOnce_3 rfl (lv_at hl 1 rfl) ?_
  refine va_ti hx hb yt_1 va_S.rf (zf_in (by decide) (by decide)) (v := .int 12) (by decide) dX5_leastAtOnce_4 ?_
  refine lv_aload_n hx hb dX5_leastAtOnce_5 rfl (lv_at hl 0 rfl) ?_
  refine va_get (D := D) (ci := 5) (v := .ref wc) (C := RX5) (T := TX5) (N := 7) hx hb hts hi_X5_leastAtOnce_5 hown hK hP 0 rfl rfl 2 (by decide) (hts (.fieldLink RX5 18 "TheLiningsInIt$Ways" "costs" "[I") (List.mem_of_getElem? (i := 2) rfl)) (fun _ h9 => h9) rfl dX5_leastAtOnce_6 ?_
  refine lv_aload_n hx hb dX5_leastAtOnce_9 rfl (lv_at hl 0 rfl) ?_
  refine lv_iload_n hx hb dX5_leastAtOnce_10 rfl (lv_at hl 2 rfl) ?_
  refine zc_V (As := [.int sec]) (rest := [.ref wc, .int 12]) ⟨hx, hb, hml, hown, hts⟩ (c_F_W_headIsCheapest l D cI cJ cZ cP cS po w0 wk wl wc wp (wn) (wh) (wg) fc (sec) hy0 hy1 hy2 hy3 hy4 hy5 hy6 hy7 hp_fc) (cwV 1 hts gX5_leastAtOnce_X5_headIsCheapest rfl rfl rfl ⟨rfl, dh_X5_headIsCheapest⟩ ⟨Nat.le_of_ble_eq_true rfl, Nat.le_of_ble_eq_true rfl⟩) hK hN hZ hP (hP.sub [0, 1] rfl) (va_recv (q := (RX5, TX5, 7)) hK hP (ci := 5) (q0 := 0) rfl rfl) rfl hl.1 rfl (Nat.le_of_ble_eq_true rfl) dX5_leastAtOnce_11 ⟨Nat.le_of_ble_eq_true rfl, Nat.le_of_ble_eq_true rfl⟩ (fun r_2 hr_2 => ?_)
  obtain ⟨g_3, g_4, hsr_2_0⟩ := hr_2
  refine lv_if_eq (tgt := 21) hx hb dX5_leastAtOnce_14 (by decide) (fun c_5 => ?_) (fun c_5 => ?_)
  · have fc_5 : r_2.toInt = 0 := zf_eq c_5 rfl (by decide)
    refine lv_iconst (v := 2) hx hb dX5_leastAtOnce_21 (by decide) ?_
    refine va_iald hx hb hK hP 1 0 rfl rfl (zf_in (by decide) (by decide)) dX5_leastAtOnce_22 ?_
    refine lv_topi (fun x_6 ex_6 => ?_)
    have bx_6 : 0 ≤ x_6.toInt ∧ x_6.toInt ≤ 99 := by rw [ex_6]; exact hp_fc _
    refine lv_imul hx hb dX5_leastAtOnce_23 ?_
    refine lv_topi (fun x_7 ex_7 => ?_)
    have qx_7 : x_7.toInt = 12 * x_6.toInt := by rw [ex_7]; exact zf_mul (by decide) rfl (by omega) (by omega)
    exact W.iret (v := x_7) hx hb hr (fun t ht hW => ⟨x_7, rfl, ⟨by omega, by omega, (show (x_7 : Int32).toInt = zPw 1 * zAt (fc 1).toInt (fc 2).toInt sec.toInt from by (have nx_6 : (fc 2).toInt = x_6.toInt := (by rw [ex_6, show (2 : Int32).toNatClampNeg = 2 from by decide]); have zh := hsr_2_0; have ht : zAt (fc 1).toInt (fc 2).toInt sec.toInt = x_6.toInt := (by unfold zAt; first | (have z1 := zh.2 (by omega); by_cases c : 30 ≤ sec.toInt; (rw [if_pos c]; omega); (rw [if_neg c]; omega)) | (have z1 := zh.1 (by omega); rw [if_pos z1.1]; omega)); rw [ht, show zPw 1 = 12 from by decide]; omega))⟩, ht⟩) (fun q hq => by cases hq) dX5_leastAtOnce_24
  · have fc_5 : r_2.toInt ≠ 0 := zf_ne c_5 rfl (by decide)
    refine lv_iconst (v := 1) hx hb dX5_leastAtOnce_17 (by decide) ?_
    refine lv_goto (tgt := 22) hx hb dX5_leastAtOnce_18 (by decide) ?_
    refine va_iald hx hb hK hP 1 0 rfl rfl (zf_in (by decide) (by decide)) dX5_leastAtOnce_22 ?_
    refine lv_topi (fun x_8 ex_8 => ?_)
    have bx_8 : 0 ≤ x_8.toInt ∧ x_8.toInt ≤ 99 := by rw [ex_8]; exact hp_fc _
    refine lv_imul hx hb dX5_leastAtOnce_23 ?_
    refine lv_topi (fun x_9 ex_9 => ?_)
    have qx_9 : x_9.toInt = 12 * x_8.toInt := by rw [ex_9]; exact zf_mul (by decide) rfl (by omega) (by omega)
    exact W.iret (v := x_9) hx hb hr (fun t ht hW => ⟨x_9, rfl, ⟨by omega, by omega, (show (x_9 : Int32).toInt = zPw 1 * zAt (fc 1).toInt (fc 2).toInt sec.toInt from by (have nx_8 : (fc 1).toInt = x_8.toInt := (by rw [ex_8, show (1 : Int32).toNatClampNeg = 1 from by decide]); have zh := hsr_2_0; have ht : zAt (fc 1).toInt (fc 2).toInt sec.toInt = x_8.toInt := (by unfold zAt; first | (have z1 := zh.1 (by omega); rw [if_pos z1.1]; omega) | (have z1 := zh.2 (by omega); by_cases c : 30 ≤ sec.toInt; (rw [if_pos c]; omega); (rw [if_neg c]; omega))); rw [ht, show zPw 1 = 12 from by decide]; omega))⟩, ht⟩) (fun q hq => by cases hq) dX5_leastAtOnce_24
set_option maxHeartbeats 4000000 in
set_option maxRecDepth 100000 in
theorem c_F_W_leastAtOnce_2 (l : Launch) (D : va_G) (cI cJ cZ cP cS : ClassId) (po : zPool) (w0 wk wl wc wp : Nat) (wn wh wg : Int32) (fc : Nat → Int32) (sec : Int32) (hy0 : 0 ≤ wn.toInt) (hy1 : wn.toInt ≤ 8) (hy2 : 0 ≤ wh.toInt) (hy3 : wh.toInt ≤ 9) (hy4 : 0 ≤ wg.toInt) (hy5 : wg.toInt ≤ 60) (hy6 : 0 ≤ sec.toInt) (hy7 : sec.toInt ≤ 300) (hp_fc : zRg fc (0) 99) : Met l yX5_leastAtOnce wsX5_leastAtOnce ({ frames := 1, cells := 0, slots := 0, locals := 21 }) (va_Pc [.ref w0, .int 2, .int sec] (zR D (zKT cI cJ cZ cP cS) po [(w0, .inr (5, [.ref wk, .ref wl, .ref wc, .ref wp, .int wn, .int wh, .int wg])), (wc, .inl (cI, 3, .inl fc))])) (vp_Si (fun r => 0 ≤ r.toInt ∧ r.toInt ≤ 14256 ∧ (r.toInt = zPw 2 * zAt (fc 1).toInt (fc 2).toInt sec.toInt))) 0 0 (fun _ => False) := by
  refine Met.ofW (cc := cX5_leastAtOnce) (maxL := 3) (ret := (some .int)) (by decide) rfl ?_
  intro p e s m args below meth c s₁ B hml hv
  obtain ⟨rfl, hP, hK, hN, hZ⟩ := hv
  have hx := B.exec
  have hb := B.bytes
  have hr := B.returns
  have hts := atoms_spec (ws := wsX5_leastAtOnce) B.pre
  have hown : s.vm.findClass RX5 = some m.cls := findClass_of_methodNamed B.named
  have hlocks := B.notSynchronized
  have hl := lv_entry ([.ref w0, .int 2, .int sec]) (n := 3) (Nat.le_of_ble_eq_true rfl)
  rw [lg_entry_eq]
  generalize (lg_sl ([.ref w0, .int 2, .int sec]) ++ List.replicate (3 - (lg_sl ([.ref w0, .int 2, .int sec])).length) Slot.unset).toArray = ls at hl ⊢
  replace hl : lv_has ls 3 [(0, .ref w0), (1, .int 2), (2, .int sec)] := hl
  obtain ⟨t_1, zt_1, yt_1⟩ := hZ.1.1
  refine va_gets hx hb zt_1 va_S.rf hown (hts (.fieldLink RX5 79 "TheLiningsInIt$Ways" "POWERS" "[I") (List.mem_of_getElem? (i := 1) rfl)) (fun _ h9 => h9) dX5_leastAtOnce_0 ?_
  refine lv_iload_n hx hb dX5_leastAtOnce_3 rfl (lv_at hl 1 rfl) ?_
  refine va_ti hx hb yt_1 va_S.rf (zf_in (by decide) (by decide)) (v := .int 144) (by decide) dX5_leastAtOnce_4 ?_
  refine lv_aload_n hx hb dX5_leastAtOnce_5 rfl (lv_at hl 0 rfl) ?_
  refine va_get (D := D) (ci := 5) (v := .ref wc) (C := RX5) (T := TX5) (N := 7) hx hb hts hi_X5_leastAtOnce_5 hown hK hP 0 rfl rfl 2 (by decide) (hts (.fieldLink RX5 18 "TheLiningsInIt$Ways" "costs" "[I") (List.mem_of_getElem? (i := 2) rfl)) (fun _ h9 => h9) rfl dX5_leastAtOnce_6 ?_
  refine lv_aload_n hx hb dX5_leastAtOnce_9 rfl (lv_at hl 0 rfl) ?_
  refine lv_iload_n hx hb dX5_leastAtOnce_10 rfl (lv_at hl 2 rfl) ?_
  refine zc_V (As := [.int sec]) (rest := [.ref wc, .int 144]) ⟨hx, hb, hml, hown, hts⟩ (c_F_W_headIsCheapest l D cI cJ cZ cP cS po w0 wk wl wc wp (wn) (wh) (wg) fc (sec) hy0 hy1 hy2 hy3 hy4 hy5 hy6 hy7 hp_fc) (cwV 1 hts gX5_leastAtOnce_X5_headIsCheapest rfl rfl rfl ⟨rfl, dh_X5_headIsCheapest⟩ ⟨Nat.le_of_ble_eq_true rfl, Nat.le_of_ble_eq_true rfl⟩) hK hN hZ hP (hP.sub [0, 1] rfl) (va_recv (q := (RX5, TX5, 7)) hK hP (ci := 5) (q0 := 0) rfl rfl) rfl hl.1 rfl (Nat.le_of_ble_eq_true rfl) dX5_leastAtOnce_11 ⟨Nat.le_of_ble_eq_true rfl, Nat.le_of_ble_eq_true rfl⟩ (fun r_2 hr_2 => ?_)
  obtain ⟨g_3, g_4, hsr_2_0⟩ := hr_2
  refine lv_if_eq (tgt := 21) hx hb dX5_leastAtOnce_14 (by decide) (fun c_5 => ?_) (fun c_5 => ?_)
  · have fc_5 : r_2.toInt = 0 := zf_eq c_5 rfl (by decide)
    refine lv_iconst (v := 2) hx hb dX5_leastAtOnce_21 (by decide) ?_
    refine va_iald hx hb hK hP 1 0 rfl rfl (zf_in (by decide) (by decide)) dX5_leastAtOnce_22 ?_
    refine lv_topi (fun x_6 ex_6 => ?_)
    have bx_6 : 0 ≤ x_6.toInt ∧ x_6.toInt ≤ 99 := by rw [ex_6]; exact hp_fc _
    refine lv_imul hx hb dX5_leastAtOnce_23 ?_
    refine lv_topi (fun x_7 ex_7 => ?_)
    have qx_7 : x_7.toInt = 144 * x_6.toInt := by rw [ex_7]; exact zf_mul (by decide) rfl (by omega) (by omega)
    exact W.iret (v := x_7) hx hb hr (fun t ht hW => ⟨x_7, rfl, ⟨by omega, by omega, (show (x_7 : Int32).toInt = zPw 2 * zAt (fc 1).toInt (fc 2).toInt sec.toInt from by (have nx_6 : (fc 2).toInt = x_6.toInt := (by rw [ex_6, show (2 : Int32).toNatClampNeg = 2 from by decide]); have zh := hsr_2_0; have ht : zAt (fc 1).toInt (fc 2).toInt sec.toInt = x_6.toInt := (by unfold zAt; first | (have z1 := zh.2 (by omega); by_cases c : 30 ≤ sec.toInt; (rw [if_pos c]; omega); (rw [if_neg c]; omega)) | (have z1 := zh.1 (by omega); rw [if_pos z1.1]; omega)); rw [ht, show zPw 2 = 144 from by decide]; omega))⟩, ht⟩) (fun q hq => by cases hq) dX5_leastAtOnce_24
  · have fc_5 : r_2.toInt ≠ 0 := zf_ne c_5 rfl (by decide)
    refine lv_iconst (v := 1) hx hb dX5_leastAtOnce_17 (by decide) ?_
    refine lv_goto (tgt := 22) hx hb dX5_leastAtOnce_18 (by decide) ?_
    refine va_iald hx hb hK hP 1 0 rfl rfl (zf_in (by decide) (by decide)) dX5_leastAtOnce_22 ?_
    refine lv_topi (fun x_8 ex_8 => ?_)
    have bx_8 : 0 ≤ x_8.toInt ∧ x_8.toInt ≤ 99 := by rw [ex_8]; exact hp_fc _
    refine lv_imul hx hb dX5_leastAtOnce_23 ?_
    refine lv_topi (fun x_9 ex_9 => ?_)
    have qx_9 : x_9.toInt = 144 * x_8.toInt := by rw [ex_9]; exact zf_mul (by decide) rfl (by omega) (by omega)
    exact W.iret (v := x_9) hx hb hr (fun t ht hW => ⟨x_9, rfl, ⟨by omega, by omega, (show (x_9 : Int32).toInt = zPw 2 * zAt (fc 1).toInt (fc 2).toInt sec.toInt from by (have nx_8 : (fc 1).toInt = x_8.toInt := (by rw [ex_8, show (1 : Int32).toNatClampNeg = 1 from by decide]); have zh := hsr_2_0; have ht : zAt (fc 1).toInt (fc 2).toInt sec.toInt = x_8.toInt := (by unfold zAt; first | (have z1 := zh.1 (by omega); rw [if_pos z1.1]; omega) | (have z1 := zh.2 (by omega); by_cases c : 30 ≤ sec.toInt; (rw [if_pos c]; omega); (rw [if_neg c]; omega))); rw [ht, show zPw 2 = 144 from by decide]; omega))⟩, ht⟩) (fun q hq => by cases hq) dX5_leastAtOnce_24
set_option maxHeartbeats 4000000 in
set_option maxRecDepth 100000 in
theorem c_F_W_leastAtOnce_3 (l : Launch) (D : va_G) (cI cJ cZ cP cS : ClassId) (po : zPool) (w0 wk wl wc wp : Nat) (wn wh wg : Int32) (fc : Nat → Int32) (sec : Int32) (hy0 : 0 ≤ wn.toInt) (hy1 : wn.toInt ≤ 8) (hy2 : 0 ≤ wh.toInt) (hy3 : wh.toInt ≤ 9) (hy4 : 0 ≤ wg.toInt) (hy5 : wg.toInt ≤ 60) (hy6 : 0 ≤ sec.toInt) (hy7 : sec.toInt ≤ 300) (hp_fc : zRg fc (0) 99) : Met l yX5_leastAtOnce wsX5_leastAtOnce ({ frames := 1, cells := 0, slots := 0, locals := 21 }) (va_Pc [.ref w0, .int 3, .int sec] (zR D (zKT cI cJ cZ cP cS) po [(w0, .inr (5, [.ref wk, .ref wl, .ref wc, .ref wp, .int wn, .int wh, .int wg])), (wc, .inl (cI, 3, .inl fc))])) (vp_Si (fun r => 0 ≤ r.toInt ∧ r.toInt ≤ 171072 ∧ (r.toInt = zPw 3 * zAt (fc 1).toInt (fc 2).toInt sec.toInt))) 0 0 (fun _ => False) := by
  refine Met.ofW (cc := cX5_leastAtOnce) (maxL := 3) (ret := (some .int)) (by decide) rfl ?_
  intro p e s m args below meth c s₁ B hml hv
  obtain ⟨rfl, hP, hK, hN, hZ⟩ := hv
  have hx := B.exec
  have hb := B.bytes
  have hr := B.returns
  have hts := atoms_spec (ws := wsX5_leastAtOnce) B.pre
  have hown : s.vm.findClass RX5 = some m.cls := findClass_of_methodNamed B.named
  have hlocks := B.notSynchronized
  have hl := lv_entry ([.ref w0, .int 3, .int sec]) (n := 3) (Nat.le_of_ble_eq_true rfl)
  rw [lg_entry_eq]
  generalize (lg_sl ([.ref w0, .int 3, .int sec]) ++ List.replicate (3 - (lg_sl ([.ref w0, .int 3, .int sec])).length) Slot.unset).toArray = ls at hl ⊢
  replace hl : lv_has ls 3 [(0, .ref w0), (1, .int 3), (2, .int sec)] := hl
  obtain ⟨t_1, zt_1, yt_1⟩ := hZ.1.1
  refine va_gets hx hb zt_1 va_S.rf hown (hts (.fieldLink RX5 79 "TheLiningsInIt$Ways" "POWERS" "[I") (List.mem_of_getElem? (i := 1) rfl)) (fun _ h9 => h9) dX5_leastAtOnce_0 ?_
  refine lv_iload_n hx hb dX5_leastAtOnce_3 rfl (lv_at hl 1 rfl) ?_
  refine va_ti hx hb yt_1 va_S.rf (zf_in (by decide) (by decide)) (v := .int 1728) (by decide) dX5_leastAtOnce_4 ?_
  refine lv_aload_n hx hb dX5_leastAtOnce_5 rfl (lv_at hl 0 rfl) ?_
  refine va_get (D := D) (ci := 5) (v := .ref wc) (C := RX5) (T := TX5) (N := 7) hx hb hts hi_X5_leastAtOnce_5 hown hK hP 0 rfl rfl 2 (by decide) (hts (.fieldLink RX5 18 "TheLiningsInIt$Ways" "costs" "[I") (List.mem_of_getElem? (i := 2) rfl)) (fun _ h9 => h9) rfl dX5_leastAtOnce_6 ?_
  refine lv_aload_n hx hb dX5_leastAtOnce_9 rfl (lv_at hl 0 rfl) ?_
  refine lv_iload_n hx hb dX5_leastAtOnce_10 rfl (lv_at hl 2 rfl) ?_
  refine zc_V (As := [.int sec]) (rest := [.ref wc, .int 1728]) ⟨hx, hb, hml, hown, hts⟩ (c_F_W_headIsCheapest l D cI cJ cZ cP cS po w0 wk wl wc wp (wn) (wh) (wg) fc (sec) hy0 hy1 hy2 hy3 hy4 hy5 hy6 hy7 hp_fc) (cwV 1 hts gX5_leastAtOnce_X5_headIsCheapest rfl rfl rfl ⟨rfl, dh_X5_headIsCheapest⟩ ⟨Nat.le_of_ble_eq_true rfl, Nat.le_of_ble_eq_true rfl⟩) hK hN hZ hP (hP.sub [0, 1] rfl) (va_recv (q := (RX5, TX5, 7)) hK hP (ci := 5) (q0 := 0) rfl rfl) rfl hl.1 rfl (Nat.le_of_ble_eq_true rfl) dX5_leastAtOnce_11 ⟨Nat.le_of_ble_eq_true rfl, Nat.le_of_ble_eq_true rfl⟩ (fun r_2 hr_2 => ?_)
  obtain ⟨g_3, g_4, hsr_2_0⟩ := hr_2
  refine lv_if_eq (tgt := 21) hx hb dX5_leastAtOnce_14 (by decide) (fun c_5 => ?_) (fun c_5 => ?_)
  · have fc_5 : r_2.toInt = 0 := zf_eq c_5 rfl (by decide)
    refine lv_iconst (v := 2) hx hb dX5_leastAtOnce_21 (by decide) ?_
    refine va_iald hx hb hK hP 1 0 rfl rfl (zf_in (by decide) (by decide)) dX5_leastAtOnce_22 ?_
    refine lv_topi (fun x_6 ex_6 => ?_)
    have bx_6 : 0 ≤ x_6.toInt ∧ x_6.toInt ≤ 99 := by rw [ex_6]; exact hp_fc _
    refine lv_imul hx hb dX5_leastAtOnce_23 ?_
    refine lv_topi (fun x_7 ex_7 => ?_)
    have qx_7 : x_7.toInt = 1728 * x_6.toInt := by rw [ex_7]; exact zf_mul (by decide) rfl (by omega) (by omega)
    exact W.iret (v := x_7) hx hb hr (fun t ht hW => ⟨x_7, rfl, ⟨by omega, by omega, (show (x_7 : Int32).toInt = zPw 3 * zAt (fc 1).toInt (fc 2).toInt sec.toInt from by (have nx_6 : (fc 2).toInt = x_6.toInt := (by rw [ex_6, show (2 : Int32).toNatClampNeg = 2 from by decide]); have zh := hsr_2_0; have ht : zAt (fc 1).toInt (fc 2).toInt sec.toInt = x_6.toInt := (by unfold zAt; first | (have z1 := zh.2 (by omega); by_cases c : 30 ≤ sec.toInt; (rw [if_pos c]; omega); (rw [if_neg c]; omega)) | (have z1 := zh.1 (by omega); rw [if_pos z1.1]; omega)); rw [ht, show zPw 3 = 1728 from by decide]; omega))⟩, ht⟩) (fun q hq => by cases hq) dX5_leastAtOnce_24
  · have fc_5 : r_2.toInt ≠ 0 := zf_ne c_5 rfl (by decide)
    refine lv_iconst (v := 1) hx hb dX5_leastAtOnce_17 (by decide) ?_
    refine lv_goto (tgt := 22) hx hb dX5_leastAtOnce_18 (by decide) ?_
    refine va_iald hx hb hK hP 1 0 rfl rfl (zf_in (by decide) (by decide)) dX5_leastAtOnce_22 ?_
    refine lv_topi (fun x_8 ex_8 => ?_)
    have bx_8 : 0 ≤ x_8.toInt ∧ x_8.toInt ≤ 99 := by rw [ex_8]; exact hp_fc _
    refine lv_imul hx hb dX5_leastAtOnce_23 ?_
    refine lv_topi (fun x_9 ex_9 => ?_)
    have qx_9 : x_9.toInt = 1728 * x_8.toInt := by rw [ex_9]; exact zf_mul (by decide) rfl (by omega) (by omega)
    exact W.iret (v := x_9) hx hb hr (fun t ht hW => ⟨x_9, rfl, ⟨by omega, by omega, (show (x_9 : Int32).toInt = zPw 3 * zAt (fc 1).toInt (fc 2).toInt sec.toInt from by (have nx_8 : (fc 1).toInt = x_8.toInt := (by rw [ex_8, show (1 : Int32).toNatClampNeg = 1 from by decide]); have zh := hsr_2_0; have ht : zAt (fc 1).toInt (fc 2).toInt sec.toInt = x_8.toInt := (by unfold zAt; first | (have z1 := zh.1 (by omega); rw [if_pos z1.1]; omega) | (have z1 := zh.2 (by omega); by_cases c : 30 ≤ sec.toInt; (rw [if_pos c]; omega); (rw [if_neg c]; omega))); rw [ht, show zPw 3 = 1728 from by decide]; omega))⟩, ht⟩) (fun q hq => by cases hq) dX5_leastAtOnce_24
set_option maxHeartbeats 4000000 in
set_option maxRecDepth 100000 in
theorem c_F_W_leastAtOnce_4 (l : Launch) (D : va_G) (cI cJ cZ cP cS : ClassId) (po : zPool) (w0 wk wl wc wp : Nat) (wn wh wg : Int32) (fc : Nat → Int32) (sec : Int32) (hy0 : 0 ≤ wn.toInt) (hy1 : wn.toInt ≤ 8) (hy2 : 0 ≤ wh.toInt) (hy3 : wh.toInt ≤ 9) (hy4 : 0 ≤ wg.toInt) (hy5 : wg.toInt ≤ 60) (hy6 : 0 ≤ sec.toInt) (hy7 : sec.toInt ≤ 300) (hp_fc : zRg fc (0) 99) : Met l yX5_leastAtOnce wsX5_leastAtOnce ({ frames := 1, cells := 0, slots := 0, locals := 21 }) (va_Pc [.ref w0, .int 4, .int sec] (zR D (zKT cI cJ cZ cP cS) po [(w0, .inr (5, [.ref wk, .ref wl, .ref wc, .ref wp, .int wn, .int wh, .int wg])), (wc, .inl (cI, 3, .inl fc))])) (vp_Si (fun r => 0 ≤ r.toInt ∧ r.toInt ≤ 2052864 ∧ (r.toInt = zPw 4 * zAt (fc 1).toInt (fc 2).toInt sec.toInt))) 0 0 (fun _ => False) := by
  refine Met.ofW (cc := cX5_leastAtOnce) (maxL := 3) (ret := (some .int)) (by decide) rfl ?_
  intro p e s m args below meth c s₁ B hml hv
  obtain ⟨rfl, hP, hK, hN, hZ⟩ := hv
  have hx := B.exec
  have hb := B.bytes
  have hr := B.returns
  have hts := atoms_spec (ws := wsX5_leastAtOnce) B.pre
  have hown : s.vm.findClass RX5 = some m.cls := findClass_of_methodNamed B.named
  have hlocks := B.notSynchronized
  have hl := lv_entry ([.ref w0, .int 4, .int sec]) (n := 3) (Nat.le_of_ble_eq_true rfl)
  rw [lg_entry_eq]
  generalize (lg_sl ([.ref w0, .int 4, .int sec]) ++ List.replicate (3 - (lg_sl ([.ref w0, .int 4, .int sec])).length) Slot.unset).toArray = ls at hl ⊢
  replace hl : lv_has ls 3 [(0, .ref w0), (1, .int 4), (2, .int sec)] := hl
  obtain ⟨t_1, zt_1, yt_1⟩ := hZ.1.1
  refine va_gets hx hb zt_1 va_S.rf hown (hts (.fieldLink RX5 79 "TheLiningsInIt$Ways" "POWERS" "[I") (List.mem_of_getElem? (i := 1) rfl)) (fun _ h9 => h9) dX5_leastAtOnce_0 ?_
  refine lv_iload_n hx hb dX5_leastAtOnce_3 rfl (lv_at hl 1 rfl) ?_
  refine va_ti hx hb yt_1 va_S.rf (zf_in (by decide) (by decide)) (v := .int 20736) (by decide) dX5_leastAtOnce_4 ?_
  refine lv_aload_n hx hb dX5_leastAtOnce_5 rfl (lv_at hl 0 rfl) ?_
  refine va_get (D := D) (ci := 5) (v := .ref wc) (C := RX5) (T := TX5) (N := 7) hx hb hts hi_X5_leastAtOnce_5 hown hK hP 0 rfl rfl 2 (by decide) (hts (.fieldLink RX5 18 "TheLiningsInIt$Ways" "costs" "[I") (List.mem_of_getElem? (i := 2) rfl)) (fun _ h9 => h9) rfl dX5_leastAtOnce_6 ?_
  refine lv_aload_n hx hb dX5_leastAtOnce_9 rfl (lv_at hl 0 rfl) ?_
  refine lv_iload_n hx hb dX5_leastAtOnce_10 rfl (lv_at hl 2 rfl) ?_
  refine zc_V (As := [.int sec]) (rest := [.ref wc, .int 20736]) ⟨hx, hb, hml, hown, hts⟩ (c_F_W_headIsCheapest l D cI cJ cZ cP cS po w0 wk wl wc wp (wn) (wh) (wg) fc (sec) hy0 hy1 hy2 hy3 hy4 hy5 hy6 hy7 hp_fc) (cwV 1 hts gX5_leastAtOnce_X5_headIsCheapest rfl rfl rfl ⟨rfl, dh_X5_headIsCheapest⟩ ⟨Nat.le_of_ble_eq_true rfl, Nat.le_of_ble_eq_true rfl⟩) hK hN hZ hP (hP.sub [0, 1] rfl) (va_recv (q := (RX5, TX5, 7)) hK hP (ci := 5) (q0 := 0) rfl rfl) rfl hl.1 rfl (Nat.le_of_ble_eq_true rfl) dX5_leastAtOnce_11 ⟨Nat.le_of_ble_eq_true rfl, Nat.le_of_ble_eq_true rfl⟩ (fun r_2 hr_2 => ?_)
  obtain ⟨g_3, g_4, hsr_2_0⟩ := hr_2
  refine lv_if_eq (tgt := 21) hx hb dX5_leastAtOnce_14 (by decide) (fun c_5 => ?_) (fun c_5 => ?_)
  · have fc_5 : r_2.toInt = 0 := zf_eq c_5 rfl (by decide)
    refine lv_iconst (v := 2) hx hb dX5_leastAtOnce_21 (by decide) ?_
    refine va_iald hx hb hK hP 1 0 rfl rfl (zf_in (by decide) (by decide)) dX5_leastAtOnce_22 ?_
    refine lv_topi (fun x_6 ex_6 => ?_)
    have bx_6 : 0 ≤ x_6.toInt ∧ x_6.toInt ≤ 99 := by rw [ex_6]; exact hp_fc _
    refine lv_imul hx hb dX5_leastAtOnce_23 ?_
    refine lv_topi (fun x_7 ex_7 => ?_)
    have qx_7 : x_7.toInt = 20736 * x_6.toInt := by rw [ex_7]; exact zf_mul (by decide) rfl (by omega) (by omega)
    exact W.iret (v := x_7) hx hb hr (fun t ht hW => ⟨x_7, rfl, ⟨by omega, by omega, (show (x_7 : Int32).toInt = zPw 4 * zAt (fc 1).toInt (fc 2).toInt sec.toInt from by (have nx_6 : (fc 2).toInt = x_6.toInt := (by rw [ex_6, show (2 : Int32).toNatClampNeg = 2 from by decide]); have zh := hsr_2_0; have ht : zAt (fc 1).toInt (fc 2).toInt sec.toInt = x_6.toInt := (by unfold zAt; first | (have z1 := zh.2 (by omega); by_cases c : 30 ≤ sec.toInt; (rw [if_pos c]; omega); (rw [if_neg c]; omega)) | (have z1 := zh.1 (by omega); rw [if_pos z1.1]; omega)); rw [ht, show zPw 4 = 20736 from by decide]; omega))⟩, ht⟩) (fun q hq => by cases hq) dX5_leastAtOnce_24
  · have fc_5 : r_2.toInt ≠ 0 := zf_ne c_5 rfl (by decide)
    refine lv_iconst (v := 1) hx hb dX5_leastAtOnce_17 (by decide) ?_
    refine lv_goto (tgt := 22) hx hb dX5_leastAtOnce_18 (by decide) ?_
    refine va_iald hx hb hK hP 1 0 rfl rfl (zf_in (by decide) (by decide)) dX5_leastAtOnce_22 ?_
    refine lv_topi (fun x_8 ex_8 => ?_)
    have bx_8 : 0 ≤ x_8.toInt ∧ x_8.toInt ≤ 99 := by rw [ex_8]; exact hp_fc _
    refine lv_imul hx hb dX5_leastAtOnce_23 ?_
    refine lv_topi (fun x_9 ex_9 => ?_)
    have qx_9 : x_9.toInt = 20736 * x_8.toInt := by rw [ex_9]; exact zf_mul (by decide) rfl (by omega) (by omega)
    exact W.iret (v := x_9) hx hb hr (fun t ht hW => ⟨x_9, rfl, ⟨by omega, by omega, (show (x_9 : Int32).toInt = zPw 4 * zAt (fc 1).toInt (fc 2).toInt sec.toInt from by (have nx_8 : (fc 1).toInt = x_8.toInt := (by rw [ex_8, show (1 : Int32).toNatClampNeg = 1 from by decide]); have zh := hsr_2_0; have ht : zAt (fc 1).toInt (fc 2).toInt sec.toInt = x_8.toInt := (by unfold zAt; first | (have z1 := zh.1 (by omega); rw [if_pos z1.1]; omega) | (have z1 := zh.2 (by omega); by_cases c : 30 ≤ sec.toInt; (rw [if_pos c]; omega); (rw [if_neg c]; omega))); rw [ht, show zPw 4 = 20736 from by decide]; omega))⟩, ht⟩) (fun q hq => by cases hq) dX5_leastAtOnce_24
set_option maxHeartbeats 4000000 in
set_option maxRecDepth 100000 in
theorem c_F_W_least_0 (l : Launch) (D : va_G) (cI cJ cZ cP cS : ClassId) (po : zPool) (w0 wk wl wc wp : Nat) (wn wh wg : Int32) (fq : Nat → Option Nat) (kq aq tq : Nat → Int32) (tw : Int32) (fl fc : Nat → Int32) (d sec : Int32) (hy0 : 0 ≤ wn.toInt) (hy1 : wn.toInt ≤ 8) (hy2 : 0 ≤ wh.toInt) (hy3 : wh.toInt ≤ 9) (hy4 : 0 ≤ wg.toInt) (hy5 : wg.toInt ≤ 60) (hjw : zJW po fq wn kq aq tq tw) (hkn : zKn kq aq tq wn.toInt.toNat wh.toInt (fc 0).toInt (fc 1).toInt (fc 2).toInt wg.toInt fl) (hgl : (∀ p : Nat, p < wn.toInt.toNat → (tq p).toInt ≤ wg.toInt)) (htw : tw.toInt = 1) (hy10 : 0 ≤ d.toInt) (hy11 : d.toInt ≤ 24) (hy12 : 0 ≤ sec.toInt) (hy13 : sec.toInt ≤ 300) (hp_fc : zRg fc (0) 99) (hpz : Nat) : Met l yX5_least wsX5_least ({ frames := 2, cells := 0, slots := 0, locals := 43 }) (va_Pc [.ref w0, .int 0, .int d, .int sec] (zW D (zKT cI cJ cZ cP cS) po [(w0, .inr (5, [.ref wk, .ref wl, .ref wc, .ref wp, .int wn, .int wh, .int wg])), (wl, .inl (cI, 125, .inl fl)), (wc, .inl (cI, 3, .inl fc)), (wp, .inl (cP, 8, .inr (.inr (.inr (.inr fq)))))] hpz)) (va_Qi (fun (r : Int32) (fl2 : (Nat → Int32)) => (zKn kq aq tq wn.toInt.toNat wh.toInt (fc 0).toInt (fc 1).toInt (fc 2).toInt wg.toInt fl2) ∧ (r.toInt = (zLn kq aq tq wn.toInt.toNat wh.toInt (fc 0).toInt (fc 1).toInt (fc 2).toInt 0) d.toInt sec.toInt) ∧ (0 ≤ r.toInt ∧ r.toInt ≤ 99)) (zB D [(w0, .inr (5, [.ref wk, .ref wl, .ref wc, .ref wp, .int wn, .int wh, .int wg])), (wl, .inl (cI, 125, .inl fl)), (wc, .inl (cI, 3, .inl fc)), (wp, .inl (cP, 8, .inr (.inr (.inr (.inr fq)))))] hpz (fun (fl2 : Nat → Int32) => [(w0, .inr (5, [.ref wk, .ref wl, .ref wc, .ref wp, .int wn, .int wh, .int wg])), (wl, .inl (cI, 125, .inl fl2)), (wc, .inl (cI, 3, .inl fc)), (wp, .inl (cP, 8, .inr (.inr (.inr (.inr fq)))))])) (va_A [(w0, .inr (5, [.ref wk, .ref wl, .ref wc, .ref wp, .int wn, .int wh, .int wg])), (wl, .inl (cI, 125, .inl fl)), (wc, .inl (cI, 3, .inl fc)), (wp, .inl (cP, 8, .inr (.inr (.inr (.inr fq)))))] hpz)) 0 0 (va_A [(w0, .inr (5, [.ref wk, .ref wl, .ref wc, .ref wp, .int wn, .int wh, .int wg])), (wl, .inl (cI, 125, .inl fl)), (wc, .inl (cI, 3, .inl fc)), (wp, .inl (cP, 8, .inr (.inr (.inr (.inr fq)))))] hpz) := by
  refine Met.ofW (cc := cX5_least) (maxL := 9) (ret := (some .int)) (by decide) rfl ?_
  intro p e s m args below meth c s₁ B hml hv
  obtain ⟨rfl, hsz, hP, hK, hD0, hN, hZ⟩ := hv
  have hx := B.exec
  have hb := B.bytes
  have hr := B.returns
  have hts := atoms_spec (ws := wsX5_least) B.pre
  have hown : s.vm.findClass RX5 = some m.cls := findClass_of_methodNamed B.named
  have hlocks := B.notSynchronized
  subst hsz
  have hD := hD0.self (sz := s.heap.size)
  have hA := zA_of hD
  have hl := lv_entry ([.ref w0, .int 0, .int d, .int sec]) (n := 9) (Nat.le_of_ble_eq_true rfl)
  rw [lg_entry_eq]
  generalize (lg_sl ([.ref w0, .int 0, .int d, .int sec]) ++ List.replicate (9 - (lg_sl ([.ref w0, .int 0, .int d, .int sec])).length) Slot.unset).toArray = ls at hl ⊢
  replace hl : lv_has ls 9 [(0, .ref w0), (1, .int 0), (2, .int d), (3, .int sec)] := hl
  refine zw_begin hP hD (fun H locs hP1 hS => ?_)
  clear hP
  have hP := hP1
  clear hP1
  refine lv_iload_n hx hb dX5_least_0 rfl (lv_at hl 1 rfl) ?_
  refine lv_if_lt (tgt := 20) hx hb dX5_least_1 (by decide) (fun c_1 => ?_) (fun c_1 => ?_)
  · exact absurd c_1 (by decide)
  · refine lv_iload_n hx hb dX5_least_4 rfl (lv_at hl 1 rfl) ?_
    refine lv_iconst (v := 4) hx hb dX5_least_5 (by decide) ?_
    refine lv_icmp_gt (tgt := 20) hx hb dX5_least_6 (by decide) (fun c_2 => ?_) (fun c_2 => ?_)
    · exact absurd c_2 (by decide)
    · refine lv_iload_n hx hb dX5_least_9 rfl (lv_at hl 2 rfl) ?_
      refine lv_iconst (v := 1) hx hb dX5_least_10 (by decide) ?_
      refine lv_icmp_lt (tgt := 20) hx hb dX5_least_11 (by decide) (fun c_3 => ?_) (fun c_3 => ?_)
      · have fc_3 : d.toInt < 1 := zf_lt c_3 rfl (by decide)
        refine lv_iconst (v := 0) hx hb dX5_least_20 (by decide) ?_
        exact W.iret (v := 0) hx hb hr (fun t ht hW => ⟨⟨0, fl, rfl, ⟨(show zKn kq aq tq wn.toInt.toNat wh.toInt (fc 0).toInt (fc 1).toInt (fc 2).toInt wg.toInt fl from by exact hkn), (show (0 : Int32).toInt = (zLn kq aq tq wn.toInt.toNat wh.toInt (fc 0).toInt (fc 1).toInt (fc 2).toInt 0) d.toInt sec.toInt from by (have k9 : (0 : Int32).toInt = 0 := (by decide); rw [zLn_0, if_pos (by omega)]; exact k9)), ⟨by decide, by decide⟩⟩, zRet ht hP hD [0, 1, 2, 3] (by decide) rfl⟩, hS.F ht⟩) hS.2.2 dX5_least_21
      · have fc_3 : 1 ≤ d.toInt := zf_nlt c_3 rfl (by decide)
        refine lv_iload_n hx hb dX5_least_14 rfl (lv_at hl 2 rfl) ?_
        refine lv_bipush (v := 24) hx hb dX5_least_15 (by decide) ?_
        refine lv_icmp_le (tgt := 22) hx hb dX5_least_17 (by decide) (fun c_4 => ?_) (fun c_4 => ?_)
        · have fc_4 : d.toInt ≤ 24 := zf_le c_4 rfl (by decide)
          refine lv_iload_n hx hb dX5_least_22 rfl (lv_at hl 3 rfl) ?_
          refine lv_iload_n hx hb dX5_least_23 rfl (lv_at hl 1 rfl) ?_
          refine lv_aload_n hx hb dX5_least_24 rfl (lv_at hl 0 rfl) ?_
          refine va_get (D := D) (ci := 5) (v := .int wg) (C := RX5) (T := TX5) (N := 7) hx hb hts hi_X5_least_5 hown hK hP 0 rfl rfl 6 (by decide) (hts (.fieldLink RX5 34 "TheLiningsInIt$Ways" "longest" "I") (List.mem_of_getElem? (i := 1) rfl)) (fun _ h9 => h9) rfl dX5_least_25 ?_
          refine lv_imul hx hb dX5_least_28 ?_
          refine lv_topi (fun x_5 ex_5 => ?_)
          have qx_5 : x_5.toInt = 0 * wg.toInt := by rw [ex_5]; exact zf_mul (by decide) rfl (by omega) (by omega)
          refine lv_bipush (v := 30) hx hb dX5_least_29 (by decide) ?_
          refine lv_iadd hx hb dX5_least_31 ?_
          refine lv_topi (fun x_6 ex_6 => ?_)
          have qx_6 : x_6.toInt = x_5.toInt + 30 := by rw [ex_6]; exact zf_add rfl (by decide) (by omega) (by omega)
          refine lv_icmp_lt (tgt := 39) hx hb dX5_least_32 (by decide) (fun c_7 => ?_) (fun c_7 => ?_)
          · have fc_7 : sec.toInt < x_6.toInt := zf_lt c_7 rfl rfl
            refine lv_iconst (v := 0) hx hb dX5_least_39 (by decide) ?_
            refine lv_istore (lv' := [(4, .int 0), (0, .ref w0), (1, .int 0), (2, .int d), (3, .int sec)]) hx hb dX5_least_40 hl (by decide) rfl (fun ls hl => ?_)
            refine lv_iload_n hx hb dX5_least_42 rfl (lv_at hl 2 rfl) ?_
            refine lv_bipush (v := 25) hx hb dX5_least_43 (by decide) ?_
            refine lv_imul hx hb dX5_least_45 ?_
            refine lv_topi (fun y_8 ey_8 => ?_)
            obtain rfl : y_8 = 0 := ey_8.trans (by decide)
            refine lv_iload_n hx hb dX5_least_46 rfl (lv_at hl 3 rfl) ?_
            refine lv_iadd hx hb dX5_least_47 ?_
            refine lv_topi (fun x_9 ex_9 => ?_)
            have qx_9 : x_9.toInt = 0 + d.toInt := by rw [ex_9]; exact zf_add (by decide) rfl (by omega) (by omega)
            refine lv_istore (lv' := [(5, .int x_9), (4, .int 0), (0, .ref w0), (1, .int 0), (2, .int d), (3, .int sec)]) hx hb dX5_least_48 hl (by decide) rfl (fun ls hl => ?_)
            refine lv_iload hx hb dX5_least_50 (lv_at hl 1 rfl) ?_
            refine lv_if_eq (tgt := 74) hx hb dX5_least_52 (by decide) (fun c_10 => ?_) (fun c_10 => ?_)
            · refine lv_aload_n hx hb dX5_least_74 rfl (lv_at hl 2 rfl) ?_
              refine lv_iload_n hx hb dX5_least_75 rfl (lv_at hl 3 rfl) ?_
              refine lv_iload_n hx hb dX5_least_76 rfl (lv_at hl 5 rfl) ?_
              refine zc_V (As := [.int 0, .int sec]) (rest := []) ⟨hx, hb, hml, hown, hts⟩ (c_F_W_leastAtOnce_0 l D cI cJ cZ cP cS po w0 wk wl wc wp (wn) (wh) (wg) fc (sec) hy0 hy1 hy2 hy3 hy4 hy5 hy12 hy13 hp_fc) (cwV 2 hts gX5_least_X5_leastAtOnce rfl rfl rfl ⟨rfl, dh_X5_leastAtOnce⟩ ⟨Nat.le_of_ble_eq_true rfl, Nat.le_of_ble_eq_true rfl⟩) hK hN (hZ.kept hS) hP (hP.sub [0, 2] rfl) (va_recv (q := (RX5, TX5, 7)) hK hP (ci := 5) (q0 := 0) rfl rfl) rfl hl.1 rfl (Nat.le_of_ble_eq_true rfl) dX5_least_77 ⟨Nat.le_of_ble_eq_true rfl, Nat.le_of_ble_eq_true rfl⟩ (fun r_11 hr_11 => ?_)
              obtain ⟨g_12, g_13, hsr_11_0⟩ := hr_11
              refine lv_istore (lv' := [(6, .int r_11), (5, .int x_9), (4, .int 0), (0, .ref w0), (1, .int 0), (2, .int d), (3, .int sec)]) hx hb dX5_least_80 hl (by decide) rfl (fun ls hl => ?_)
              refine lv_iconst (v := 0) hx hb dX5_least_82 (by decide) ?_
              refine lv_istore (lv' := [(7, .int 0), (6, .int r_11), (5, .int x_9), (4, .int 0), (0, .ref w0), (1, .int 0), (2, .int d), (3, .int sec)]) hx hb dX5_least_83 hl (by decide) rfl (fun ls hl => ?_)
              refine lv_iload hx hb dX5_least_85 (lv_at hl 0 rfl) ?_
              refine lv_aload_n hx hb dX5_least_87 rfl (lv_at hl 4 rfl) ?_
              refine va_get (D := D) (ci := 5) (v := .int wn) (C := RX5) (T := TX5) (N := 7) hx hb hts hi_X5_least_5 hown hK hP 0 rfl rfl 4 (by decide) (hts (.fieldLink RX5 27 "TheLiningsInIt$Ways" "count" "I") (List.mem_of_getElem? (i := 3) rfl)) (fun _ h9 => h9) rfl dX5_least_88 ?_
              refine lv_icmp_ge (tgt := 135) hx hb dX5_least_91 (by decide) (fun c_14 => ?_) (fun c_14 => ?_)
              · have fc_14 : wn.toInt ≤ 0 := zf_le c_14 rfl (by decide)
                refine lv_iload hx hb dX5_least_135 (lv_at hl 3 rfl) ?_
                refine lv_if_eq (tgt := 149) hx hb dX5_least_137 (by decide) (fun c_15 => ?_) (fun c_15 => ?_)
                · refine lv_iload hx hb dX5_least_149 (lv_at hl 1 rfl) ?_
                  exact W.iret (v := r_11) hx hb hr (fun t ht hW => ⟨⟨r_11, fl, rfl, ⟨(show zKn kq aq tq wn.toInt.toNat wh.toInt (fc 0).toInt (fc 1).toInt (fc 2).toInt wg.toInt fl from by exact hkn), (show (r_11 : Int32).toInt = (zLn kq aq tq wn.toInt.toNat wh.toInt (fc 0).toInt (fc 1).toInt (fc 2).toInt 0) d.toInt sec.toInt from by (rw [zLn_0, if_neg (by omega)]; exact hsr_11_0)), ⟨by omega, by omega⟩⟩, zRet ht hP hD [0, 1, 2, 3] (by decide) rfl⟩, hS.F ht⟩) hS.2.2 dX5_least_151
                · exact absurd c_15 (by decide)
              · have fc_14 : 0 < wn.toInt := zf_nle c_14 rfl (by decide)
                refine lv_iload_n hx hb dX5_least_94 rfl (lv_at hl 5 rfl) ?_
                refine lv_if_le (tgt := 135) hx hb dX5_least_95 (by decide) (fun c_16 => ?_) (fun c_16 => ?_)
                · refine lv_iload hx hb dX5_least_135 (lv_at hl 3 rfl) ?_
                  refine lv_if_eq (tgt := 149) hx hb dX5_least_137 (by decide) (fun c_17 => ?_) (fun c_17 => ?_)
                  · refine lv_iload hx hb dX5_least_149 (lv_at hl 1 rfl) ?_
                    exact W.iret (v := r_11) hx hb hr (fun t ht hW => ⟨⟨r_11, fl, rfl, ⟨(show zKn kq aq tq wn.toInt.toNat wh.toInt (fc 0).toInt (fc 1).toInt (fc 2).toInt wg.toInt fl from by exact hkn), (show (r_11 : Int32).toInt = (zLn kq aq tq wn.toInt.toNat wh.toInt (fc 0).toInt (fc 1).toInt (fc 2).toInt 0) d.toInt sec.toInt from by (rw [zLn_0, if_neg (by omega)]; exact hsr_11_0)), ⟨by omega, by omega⟩⟩, zRet ht hP hD [0, 1, 2, 3] (by decide) rfl⟩, hS.F ht⟩) hS.2.2 dX5_least_151
                  · exact absurd c_17 (by decide)
                · exact absurd c_16 (by decide)
            · exact absurd c_10 (by decide)
          · have fc_7 : x_6.toInt ≤ sec.toInt := zf_nlt c_7 rfl rfl
            refine lv_iconst (v := 1) hx hb dX5_least_35 (by decide) ?_
            refine lv_goto (tgt := 40) hx hb dX5_least_36 (by decide) ?_
            refine lv_istore (lv' := [(4, .int 1), (0, .ref w0), (1, .int 0), (2, .int d), (3, .int sec)]) hx hb dX5_least_40 hl (by decide) rfl (fun ls hl => ?_)
            refine lv_iload_n hx hb dX5_least_42 rfl (lv_at hl 2 rfl) ?_
            refine lv_bipush (v := 25) hx hb dX5_least_43 (by decide) ?_
            refine lv_imul hx hb dX5_least_45 ?_
            refine lv_topi (fun y_18 ey_18 => ?_)
            obtain rfl : y_18 = 0 := ey_18.trans (by decide)
            refine lv_iload_n hx hb dX5_least_46 rfl (lv_at hl 3 rfl) ?_
            refine lv_iadd hx hb dX5_least_47 ?_
            refine lv_topi (fun x_19 ex_19 => ?_)
            have qx_19 : x_19.toInt = 0 + d.toInt := by rw [ex_19]; exact zf_add (by decide) rfl (by omega) (by omega)
            refine lv_istore (lv' := [(5, .int x_19), (4, .int 1), (0, .ref w0), (1, .int 0), (2, .int d), (3, .int sec)]) hx hb dX5_least_48 hl (by decide) rfl (fun ls hl => ?_)
            refine lv_iload hx hb dX5_least_50 (lv_at hl 1 rfl) ?_
            refine lv_if_eq (tgt := 74) hx hb dX5_least_52 (by decide) (fun c_20 => ?_) (fun c_20 => ?_)
            · exact absurd c_20 (by decide)
            · refine lv_aload_n hx hb dX5_least_55 rfl (lv_at hl 2 rfl) ?_
              refine va_get (D := D) (ci := 5) (v := .ref wl) (C := RX5) (T := TX5) (N := 7) hx hb hts hi_X5_least_5 hown hK hP 0 rfl rfl 1 (by decide) (hts (.fieldLink RX5 15 "TheLiningsInIt$Ways" "knownLeast" "[I") (List.mem_of_getElem? (i := 2) rfl)) (fun _ h9 => h9) rfl dX5_least_56 ?_
              refine lv_iload hx hb dX5_least_59 (lv_at hl 0 rfl) ?_
              refine va_iald hx hb hK hP 1 0 rfl rfl (zf_in (by omega) (by omega)) dX5_least_61 ?_
              refine lv_topi (fun x_21 ex_21 => ?_)
              refine lv_iconst (v := (-1)) hx hb dX5_least_62 (by decide) ?_
              refine lv_icmp_eq (tgt := 74) hx hb dX5_least_63 (by decide) (fun c_22 => ?_) (fun c_22 => ?_)
              · have fc_22 : x_21.toInt = (-1) := zf_eq c_22 rfl (by decide)
                refine lv_aload_n hx hb dX5_least_74 rfl (lv_at hl 2 rfl) ?_
                refine lv_iload_n hx hb dX5_least_75 rfl (lv_at hl 3 rfl) ?_
                refine lv_iload_n hx hb dX5_least_76 rfl (lv_at hl 5 rfl) ?_
                refine zc_V (As := [.int 0, .int sec]) (rest := []) ⟨hx, hb, hml, hown, hts⟩ (c_F_W_leastAtOnce_0 l D cI cJ cZ cP cS po w0 wk wl wc wp (wn) (wh) (wg) fc (sec) hy0 hy1 hy2 hy3 hy4 hy5 hy12 hy13 hp_fc) (cwV 2 hts gX5_least_X5_leastAtOnce rfl rfl rfl ⟨rfl, dh_X5_leastAtOnce⟩ ⟨Nat.le_of_ble_eq_true rfl, Nat.le_of_ble_eq_true rfl⟩) hK hN (hZ.kept hS) hP (hP.sub [0, 2] rfl) (va_recv (q := (RX5, TX5, 7)) hK hP (ci := 5) (q0 := 0) rfl rfl) rfl hl.1 rfl (Nat.le_of_ble_eq_true rfl) dX5_least_77 ⟨Nat.le_of_ble_eq_true rfl, Nat.le_of_ble_eq_true rfl⟩ (fun r_23 hr_23 => ?_)
                obtain ⟨g_24, g_25, hsr_23_0⟩ := hr_23
                refine lv_istore (lv' := [(6, .int r_23), (5, .int x_19), (4, .int 1), (0, .ref w0), (1, .int 0), (2, .int d), (3, .int sec)]) hx hb dX5_least_80 hl (by decide) rfl (fun ls hl => ?_)
                refine lv_iconst (v := 0) hx hb dX5_least_82 (by decide) ?_
                refine lv_istore (lv' := [(7, .int 0), (6, .int r_23), (5, .int x_19), (4, .int 1), (0, .ref w0), (1, .int 0), (2, .int d), (3, .int sec)]) hx hb dX5_least_83 hl (by decide) rfl (fun ls hl => ?_)
                refine lv_iload hx hb dX5_least_85 (lv_at hl 0 rfl) ?_
                refine lv_aload_n hx hb dX5_least_87 rfl (lv_at hl 4 rfl) ?_
                refine va_get (D := D) (ci := 5) (v := .int wn) (C := RX5) (T := TX5) (N := 7) hx hb hts hi_X5_least_5 hown hK hP 0 rfl rfl 4 (by decide) (hts (.fieldLink RX5 27 "TheLiningsInIt$Ways" "count" "I") (List.mem_of_getElem? (i := 3) rfl)) (fun _ h9 => h9) rfl dX5_least_88 ?_
                refine lv_icmp_ge (tgt := 135) hx hb dX5_least_91 (by decide) (fun c_26 => ?_) (fun c_26 => ?_)
                · have fc_26 : wn.toInt ≤ 0 := zf_le c_26 rfl (by decide)
                  refine lv_iload hx hb dX5_least_135 (lv_at hl 3 rfl) ?_
                  refine lv_if_eq (tgt := 149) hx hb dX5_least_137 (by decide) (fun c_27 => ?_) (fun c_27 => ?_)
                  · exact absurd c_27 (by decide)
                  · refine lv_aload_n hx hb dX5_least_140 rfl (lv_at hl 4 rfl) ?_
                    refine va_get (D := D) (ci := 5) (v := .ref wl) (C := RX5) (T := TX5) (N := 7) hx hb hts hi_X5_least_5 hown hK hP 0 rfl rfl 1 (by decide) (hts (.fieldLink RX5 15 "TheLiningsInIt$Ways" "knownLeast" "[I") (List.mem_of_getElem? (i := 2) rfl)) (fun _ h9 => h9) rfl dX5_least_141 ?_
                    refine lv_iload hx hb dX5_least_144 (lv_at hl 2 rfl) ?_
                    refine lv_iload hx hb dX5_least_146 (lv_at hl 1 rfl) ?_
                    refine va_iast hx hb hK hP hD hS 1 0 rfl rfl (zf_in (by omega) (by omega)) dX5_least_148 (fun H locs hP hD hS => ?_)
                    obtain ⟨g_28, hg_28⟩ : ∃ g : Nat → Int32, g = upd fl x_19.toNatClampNeg r_23 := ⟨_, rfl⟩
                    rw [← hg_28] at hP hD
                    have h9R := zRe (ws' := [(w0, .inr (5, [.ref wk, .ref wl, .ref wc, .ref wp, .int wn, .int wh, .int wg])), (wl, .inl (cI, 125, .inl g_28)), (wc, .inl (cI, 3, .inl fc)), (wp, .inl (cP, 8, .inr (.inr (.inr (.inr fq)))))]) hP hD rfl
                    clear hP hD
                    obtain ⟨hP, hD⟩ := h9R
                    refine lv_iload hx hb dX5_least_149 (lv_at hl 1 rfl) ?_
                    exact W.iret (v := r_23) hx hb hr (fun t ht hW => ⟨⟨r_23, g_28, rfl, ⟨(show zKn kq aq tq wn.toInt.toNat wh.toInt (fc 0).toInt (fc 1).toInt (fc 2).toInt wg.toInt g_28 from by (rw [hg_28]; exact zKn_u (m := 0) (d := d) (s := sec) hkn (by omega) hgl (by omega) ⟨by omega, by omega⟩ (by omega) (by rw [zLn_0, if_neg (by omega)]; exact hsr_23_0))), (show (r_23 : Int32).toInt = (zLn kq aq tq wn.toInt.toNat wh.toInt (fc 0).toInt (fc 1).toInt (fc 2).toInt 0) d.toInt sec.toInt from by (rw [zLn_0, if_neg (by omega)]; exact hsr_23_0)), ⟨by omega, by omega⟩⟩, zRet ht hP hD [0, 1, 2, 3] (by decide) rfl⟩, hS.F ht⟩) hS.2.2 dX5_least_151
                · have fc_26 : 0 < wn.toInt := zf_nle c_26 rfl (by decide)
                  refine lv_iload_n hx hb dX5_least_94 rfl (lv_at hl 5 rfl) ?_
                  refine lv_if_le (tgt := 135) hx hb dX5_least_95 (by decide) (fun c_29 => ?_) (fun c_29 => ?_)
                  · refine lv_iload hx hb dX5_least_135 (lv_at hl 3 rfl) ?_
                    refine lv_if_eq (tgt := 149) hx hb dX5_least_137 (by decide) (fun c_30 => ?_) (fun c_30 => ?_)
                    · exact absurd c_30 (by decide)
                    · refine lv_aload_n hx hb dX5_least_140 rfl (lv_at hl 4 rfl) ?_
                      refine va_get (D := D) (ci := 5) (v := .ref wl) (C := RX5) (T := TX5) (N := 7) hx hb hts hi_X5_least_5 hown hK hP 0 rfl rfl 1 (by decide) (hts (.fieldLink RX5 15 "TheLiningsInIt$Ways" "knownLeast" "[I") (List.mem_of_getElem? (i := 2) rfl)) (fun _ h9 => h9) rfl dX5_least_141 ?_
                      refine lv_iload hx hb dX5_least_144 (lv_at hl 2 rfl) ?_
                      refine lv_iload hx hb dX5_least_146 (lv_at hl 1 rfl) ?_
                      refine va_iast hx hb hK hP hD hS 1 0 rfl rfl (zf_in (by omega) (by omega)) dX5_least_148 (fun H locs hP hD hS => ?_)
                      obtain ⟨g_31, hg_31⟩ : ∃ g : Nat → Int32, g = upd fl x_19.toNatClampNeg r_23 := ⟨_, rfl⟩
                      rw [← hg_31] at hP hD
                      have h9R := zRe (ws' := [(w0, .inr (5, [.ref wk, .ref wl, .ref wc, .ref wp, .int wn, .int wh, .int wg])), (wl, .inl (cI, 125, .inl g_31)), (wc, .inl (cI, 3, .inl fc)), (wp, .inl (cP, 8, .inr (.inr (.inr (.inr fq)))))]) hP hD rfl
                      clear hP hD
                      obtain ⟨hP, hD⟩ := h9R
                      refine lv_iload hx hb dX5_least_149 (lv_at hl 1 rfl) ?_
                      exact W.iret (v := r_23) hx hb hr (fun t ht hW => ⟨⟨r_23, g_31, rfl, ⟨(show zKn kq aq tq wn.toInt.toNat wh.toInt (fc 0).toInt (fc 1).toInt (fc 2).toInt wg.toInt g_31 from by (rw [hg_31]; exact zKn_u (m := 0) (d := d) (s := sec) hkn (by omega) hgl (by omega) ⟨by omega, by omega⟩ (by omega) (by rw [zLn_0, if_neg (by omega)]; exact hsr_23_0))), (show (r_23 : Int32).toInt = (zLn kq aq tq wn.toInt.toNat wh.toInt (fc 0).toInt (fc 1).toInt (fc 2).toInt 0) d.toInt sec.toInt from by (rw [zLn_0, if_neg (by omega)]; exact hsr_23_0)), ⟨by omega, by omega⟩⟩, zRet ht hP hD [0, 1, 2, 3] (by decide) rfl⟩, hS.F ht⟩) hS.2.2 dX5_least_151
                  · exact absurd c_29 (by decide)
              · have fc_22 : x_21.toInt ≠ (-1) := zf_ne c_22 rfl (by decide)
                refine lv_aload_n hx hb dX5_least_66 rfl (lv_at hl 2 rfl) ?_
                refine va_get (D := D) (ci := 5) (v := .ref wl) (C := RX5) (T := TX5) (N := 7) hx hb hts hi_X5_least_5 hown hK hP 0 rfl rfl 1 (by decide) (hts (.fieldLink RX5 15 "TheLiningsInIt$Ways" "knownLeast" "[I") (List.mem_of_getElem? (i := 2) rfl)) (fun _ h9 => h9) rfl dX5_least_67 ?_
                refine lv_iload hx hb dX5_least_70 (lv_at hl 0 rfl) ?_
                refine va_iald hx hb hK hP 1 0 rfl rfl (zf_in (by omega) (by omega)) dX5_least_72 ?_
                refine lv_topi (fun y_32 ey_32 => ?_)
                obtain rfl : x_21 = y_32 := ex_21.trans ey_32.symm
                have hmx_21 : x_21.toInt = (zLn kq aq tq wn.toInt.toNat wh.toInt (fc 0).toInt (fc 1).toInt (fc 2).toInt 0) d.toInt sec.toInt := by (have zn : (fl x_19.toNatClampNeg).toInt ≠ -1 := (by rw [← ex_21]; omega); rw [ex_21]; exact zKn_at (m := 0) hkn (by decide) (by omega) ⟨by omega, by omega⟩ (by omega) zn)
                have hrx_21 := zLn_rg (K := kq) (A := aq) (T := tq) (N := wn.toInt.toNat) (h := wh.toInt) (hp_fc 0) (hp_fc 1) (hp_fc 2) 0 d.toInt sec.toInt
                rw [← hmx_21, show zPw 0 = 1 from by decide] at hrx_21
                exact W.iret (v := x_21) hx hb hr (fun t ht hW => ⟨⟨x_21, fl, rfl, ⟨(show zKn kq aq tq wn.toInt.toNat wh.toInt (fc 0).toInt (fc 1).toInt (fc 2).toInt wg.toInt fl from by exact hkn), (show (x_21 : Int32).toInt = (zLn kq aq tq wn.toInt.toNat wh.toInt (fc 0).toInt (fc 1).toInt (fc 2).toInt 0) d.toInt sec.toInt from by exact hmx_21), ⟨by omega, by omega⟩⟩, zRet ht hP hD [0, 1, 2, 3] (by decide) rfl⟩, hS.F ht⟩) hS.2.2 dX5_least_73
        · exfalso; have fc_4 : 24 < d.toInt := zf_nle c_4 rfl (by decide); omega
set_option maxHeartbeats 4000000 in
set_option maxRecDepth 100000 in
theorem c_F_W_leastBy_1 (l : Launch) (D : va_G) (cI cJ cZ cP cS : ClassId) (po : zPool) (w0 wk wl wc wp : Nat) (wn wh wg : Int32) (fq : Nat → Option Nat) (kq aq tq : Nat → Int32) (tw : Int32) (fl fc : Nat → Int32) (d sec : Int32) (u0 : Nat) (ki a_ ta : Int32) (hu_u0 : zPu po u0 ki a_ ta) (hr_u0 : zPr ki a_ ta) (hy2 : 0 ≤ wn.toInt) (hy3 : wn.toInt ≤ 8) (hy4 : 0 ≤ wh.toInt) (hy5 : wh.toInt ≤ 9) (hy6 : 0 ≤ wg.toInt) (hy7 : wg.toInt ≤ 60) (hjw : zJW po fq wn kq aq tq tw) (hkn : zKn kq aq tq wn.toInt.toNat wh.toInt (fc 0).toInt (fc 1).toInt (fc 2).toInt wg.toInt fl) (hgl : (∀ p : Nat, p < wn.toInt.toNat → (tq p).toInt ≤ wg.toInt)) (htw : tw.toInt = 1) (hy12 : 0 ≤ d.toInt) (hy13 : d.toInt ≤ 24) (hy14 : 0 ≤ sec.toInt) (hy15 : sec.toInt ≤ 300) (hy16 : ta.toInt ≤ sec.toInt) (hp_fc : zRg fc (0) 99) (hpz : Nat) : Met l yX5_leastBy wsX5_leastBy ({ frames := 3, cells := 0, slots := 0, locals := 71 }) (va_Pc [.ref w0, .ref u0, .int 1, .int d, .int sec] (zW D (zKT cI cJ cZ cP cS) po [(w0, .inr (5, [.ref wk, .ref wl, .ref wc, .ref wp, .int wn, .int wh, .int wg])), (wl, .inl (cI, 125, .inl fl)), (wc, .inl (cI, 3, .inl fc)), (wp, .inl (cP, 8, .inr (.inr (.inr (.inr fq)))))] hpz)) (va_Qi (fun (r : Int32) (fl2 : (Nat → Int32)) => (zKn kq aq tq wn.toInt.toNat wh.toInt (fc 0).toInt (fc 1).toInt (fc 2).toInt wg.toInt fl2) ∧ (r.toInt = zLb (zLn kq aq tq wn.toInt.toNat wh.toInt (fc 0).toInt (fc 1).toInt (fc 2).toInt 0) (fc 0).toInt (zPw 1) ki.toInt a_.toInt ta.toInt wh.toInt d.toInt sec.toInt) ∧ (0 ≤ r.toInt ∧ r.toInt ≤ 2376)) (zB D [(w0, .inr (5, [.ref wk, .ref wl, .ref wc, .ref wp, .int wn, .int wh, .int wg])), (wl, .inl (cI, 125, .inl fl)), (wc, .inl (cI, 3, .inl fc)), (wp, .inl (cP, 8, .inr (.inr (.inr (.inr fq)))))] hpz (fun (fl2 : Nat → Int32) => [(w0, .inr (5, [.ref wk, .ref wl, .ref wc, .ref wp, .int wn, .int wh, .int wg])), (wl, .inl (cI, 125, .inl fl2)), (wc, .inl (cI, 3, .inl fc)), (wp, .inl (cP, 8, .inr (.inr (.inr (.inr fq)))))])) (va_A [(w0, .inr (5, [.ref wk, .ref wl, .ref wc, .ref wp, .int wn, .int wh, .int wg])), (wl, .inl (cI, 125, .inl fl)), (wc, .inl (cI, 3, .inl fc)), (wp, .inl (cP, 8, .inr (.inr (.inr (.inr fq)))))] hpz)) 0 0 (va_A [(w0, .inr (5, [.ref wk, .ref wl, .ref wc, .ref wp, .int wn, .int wh, .int wg])), (wl, .inl (cI, 125, .inl fl)), (wc, .inl (cI, 3, .inl fc)), (wp, .inl (cP, 8, .inr (.inr (.inr (.inr fq)))))] hpz) := by
  refine Met.ofW (cc := cX5_leastBy) (maxL := 8) (ret := (some .int)) (by decide) rfl ?_
  intro p e s m args below meth c s₁ B hml hv
  obtain ⟨rfl, hsz, hP, hK, hD0, hN, hZ⟩ := hv
  have hx := B.exec
  have hb := B.bytes
  have hr := B.returns
  have hts := atoms_spec (ws := wsX5_leastBy) B.pre
  have hown : s.vm.findClass RX5 = some m.cls := findClass_of_methodNamed B.named
  have hlocks := B.notSynchronized
  subst hsz
  have hD := hD0.self (sz := s.heap.size)
  have hA := zA_of hD
  have hl := lv_entry ([.ref w0, .ref u0, .int 1, .int d, .int sec]) (n := 8) (Nat.le_of_ble_eq_true rfl)
  rw [lg_entry_eq]
  generalize (lg_sl ([.ref w0, .ref u0, .int 1, .int d, .int sec]) ++ List.replicate (8 - (lg_sl ([.ref w0, .ref u0, .int 1, .int d, .int sec])).length) Slot.unset).toArray = ls at hl ⊢
  replace hl : lv_has ls 8 [(0, .ref w0), (1, .ref u0), (2, .int 1), (3, .int d), (4, .int sec)] := hl
  refine zw_begin hP hD (fun H locs hP1 hS => ?_)
  clear hP
  have hP := hP1
  clear hP1
  obtain ⟨⟨p1_u0, p2_u0⟩, ⟨p3_u0, p4_u0⟩, p5_u0, p6_u0⟩ := id hr_u0
  refine lv_aload_n hx hb dX5_leastBy_0 rfl (lv_at hl 1 rfl) ?_
  refine lv_iload_n hx hb dX5_leastBy_1 rfl (lv_at hl 3 rfl) ?_
  refine lv_aload_n hx hb dX5_leastBy_2 rfl (lv_at hl 0 rfl) ?_
  refine va_get (D := D) (ci := 5) (v := .int wh) (C := RX5) (T := TX5) (N := 7) hx hb hts hi_X5_leastBy_5 hown hK hP 0 rfl rfl 5 (by decide) (hts (.fieldLink RX5 31 "TheLiningsInIt$Ways" "hurry" "I") (List.mem_of_getElem? (i := 1) rfl)) (fun _ h9 => h9) rfl dX5_leastBy_3 ?_
  refine zc_V (As := [.int d, .int wh]) (rest := []) ⟨hx, hb, hml, hown, hts⟩ (c_F_Pull_waysAt l D cI cJ cZ cP cS po (d) (wh) u0 (ki) (a_) (ta) hu_u0 ⟨by omega, by omega, by omega, by omega⟩ hy12 hy13 hy4 hy5) (cwV 2 hts gX5_leastBy_X2_waysAt rfl rfl rfl ⟨rfl, dh_X2_waysAt⟩ ⟨Nat.le_of_ble_eq_true rfl, Nat.le_of_ble_eq_true rfl⟩) hK hN (hZ.kept hS) hP zP_nil (va_recv (q := (RX2, TX2, 3)) hK (zPu_P (hZ.kept hS) hu_u0) (ci := 2) (q0 := 0) rfl rfl) rfl hl.1 rfl (Nat.le_of_ble_eq_true rfl) dX5_leastBy_6 ⟨Nat.le_of_ble_eq_true rfl, Nat.le_of_ble_eq_true rfl⟩ (fun r_1 hr_1 => ?_)
  obtain ⟨g_2, g_3, hsr_1_0⟩ := hr_1
  refine lv_istore (lv' := [(5, .int r_1), (0, .ref w0), (1, .ref u0), (2, .int 1), (3, .int d), (4, .int sec)]) hx hb dX5_leastBy_9 hl (by decide) rfl (fun ls hl => ?_)
  refine lv_iload hx hb dX5_leastBy_11 (lv_at hl 5 rfl) ?_
  refine lv_aload_n hx hb dX5_leastBy_13 rfl (lv_at hl 2 rfl) ?_
  refine va_get (D := D) (ci := 2) (v := .int ta) (C := RX2) (T := TX2) (N := 3) hx hb hts hi_X5_leastBy_2 hown hK (zPu_P (hZ.kept hS) hu_u0) 0 rfl rfl 2 (by decide) (hts (.fieldLink RX5 49 "TheLiningsInIt$Pull" "takes" "I") (List.mem_of_getElem? (i := 2) rfl)) (fun _ h9 => h9) rfl dX5_leastBy_14 ?_
  refine lv_isub hx hb dX5_leastBy_17 ?_
  refine lv_topi (fun x_4 ex_4 => ?_)
  have qx_4 : x_4.toInt = sec.toInt - ta.toInt := by rw [ex_4]; exact zf_sub rfl rfl (by omega) (by omega)
  refine lv_istore (lv' := [(6, .int x_4), (5, .int r_1), (0, .ref w0), (1, .ref u0), (2, .int 1), (3, .int d), (4, .int sec)]) hx hb dX5_leastBy_18 hl (by decide) rfl (fun ls hl => ?_)
  refine lv_aload_n hx hb dX5_leastBy_20 rfl (lv_at hl 3 rfl) ?_
  refine va_get (D := D) (ci := 2) (v := .int ki) (C := RX2) (T := TX2) (N := 3) hx hb hts hi_X5_leastBy_2 hown hK (zPu_P (hZ.kept hS) hu_u0) 0 rfl rfl 0 (by decide) (hts (.fieldLink RX5 46 "TheLiningsInIt$Pull" "kind" "I") (List.mem_of_getElem? (i := 3) rfl)) (fun _ h9 => h9) rfl dX5_leastBy_21 ?_
  refine lv_iconst (v := 5) hx hb dX5_leastBy_24 (by decide) ?_
  refine lv_icmp_ne (tgt := 43) hx hb dX5_leastBy_25 (by decide) (fun c_5 => ?_) (fun c_5 => ?_)
  · have fc_5 : ki.toInt ≠ 5 := zf_ne c_5 rfl (by decide)
    refine lv_iconst (v := 0) hx hb dX5_leastBy_43 (by decide) ?_
    refine lv_istore (lv' := [(7, .int 0), (6, .int x_4), (5, .int r_1), (0, .ref w0), (1, .ref u0), (2, .int 1), (3, .int d), (4, .int sec)]) hx hb dX5_leastBy_44 hl (by decide) rfl (fun ls hl => ?_)
    refine lv_iload hx hb dX5_leastBy_46 (lv_at hl 2 rfl) ?_
    refine lv_if_le (tgt := 73) hx hb dX5_leastBy_48 (by decide) (fun c_6 => ?_) (fun c_6 => ?_)
    · have fc_6 : r_1.toInt ≤ 0 := zf_le c_6 rfl (by decide)
      refine lv_iload hx hb dX5_leastBy_73 (lv_at hl 2 rfl) ?_
      refine lv_bipush (v := 12) hx hb dX5_leastBy_75 (by decide) ?_
      refine lv_icmp_ge (tgt := 109) hx hb dX5_leastBy_77 (by decide) (fun c_7 => ?_) (fun c_7 => ?_)
      · exfalso; have fc_7 : 12 ≤ r_1.toInt := zf_le c_7 (by decide) rfl; omega
      · have fc_7 : r_1.toInt < 12 := zf_nle c_7 (by decide) rfl
        refine lv_iload hx hb dX5_leastBy_80 (lv_at hl 0 rfl) ?_
        refine lv_bipush (v := 12) hx hb dX5_leastBy_82 (by decide) ?_
        refine lv_iload hx hb dX5_leastBy_84 (lv_at hl 2 rfl) ?_
        refine lv_isub hx hb dX5_leastBy_86 ?_
        refine lv_topi (fun x_8 ex_8 => ?_)
        have qx_8 : x_8.toInt = 12 - r_1.toInt := by rw [ex_8]; exact zf_sub (by decide) rfl (by omega) (by omega)
        refine lv_aload_n hx hb dX5_leastBy_87 rfl (lv_at hl 3 rfl) ?_
        refine lv_iload_n hx hb dX5_leastBy_88 rfl (lv_at hl 5 rfl) ?_
        refine lv_iconst (v := 1) hx hb dX5_leastBy_89 (by decide) ?_
        refine lv_isub hx hb dX5_leastBy_90 ?_
        refine lv_topi (fun y_9 ey_9 => ?_)
        obtain rfl : y_9 = 0 := ey_9.trans (by decide)
        refine lv_aload_n hx hb dX5_leastBy_91 rfl (lv_at hl 4 rfl) ?_
        refine lv_iload_n hx hb dX5_leastBy_92 rfl (lv_at hl 6 rfl) ?_
        refine lv_aload_n hx hb dX5_leastBy_93 rfl (lv_at hl 3 rfl) ?_
        refine va_get (D := D) (ci := 5) (v := .int wh) (C := RX5) (T := TX5) (N := 7) hx hb hts hi_X5_leastBy_5 hown hK hP 0 rfl rfl 5 (by decide) (hts (.fieldLink RX5 31 "TheLiningsInIt$Ways" "hurry" "I") (List.mem_of_getElem? (i := 1) rfl)) (fun _ h9 => h9) rfl dX5_leastBy_94 ?_
        refine zc_V (As := [.int d, .int wh]) (rest := [.int 0, .ref w0, .int x_8, .int 0]) ⟨hx, hb, hml, hown, hts⟩ (c_F_Pull_deeper l D cI cJ cZ cP cS po (d) (wh) u0 (ki) (a_) (ta) hu_u0 ⟨by omega, by omega, by omega, by omega⟩ hy12 hy13 hy4 hy5) (cwV 2 hts gX5_leastBy_X2_deeper rfl rfl rfl ⟨rfl, dh_X2_deeper⟩ ⟨Nat.le_of_ble_eq_true rfl, Nat.le_of_ble_eq_true rfl⟩) hK hN (hZ.kept hS) hP zP_nil (va_recv (q := (RX2, TX2, 3)) hK (zPu_P (hZ.kept hS) hu_u0) (ci := 2) (q0 := 0) rfl rfl) rfl hl.1 rfl (Nat.le_of_ble_eq_true rfl) dX5_leastBy_97 ⟨Nat.le_of_ble_eq_true rfl, Nat.le_of_ble_eq_true rfl⟩ (fun r_10 hr_10 => ?_)
        obtain ⟨g_11, g_12, hsr_10_0⟩ := hr_10
        refine lv_iload hx hb dX5_leastBy_100 (lv_at hl 1 rfl) ?_
        skip
        refine zw_V (As := [.int 0, .int r_10, .int x_4]) (rest := [.int x_8, .int 0]) (wr := []) ⟨hx, hb, hml, hown, hts⟩ (c_F_W_least_0 l D cI cJ cZ cP cS po w0 wk wl wc wp (wn) (wh) (wg) fq kq aq tq (tw) fl fc (r_10) (x_4) hy2 hy3 hy4 hy5 hy6 hy7 hjw (by first | assumption | omega) (by first | assumption | omega) (by first | assumption | omega | decide) (by omega) (by omega) (by omega) (by omega) hp_fc H.size) (cwV 3 hts gX5_leastBy_X5_least rfl rfl rfl ⟨rfl, dh_X5_least⟩ ⟨Nat.le_of_ble_eq_true rfl, Nat.le_of_ble_eq_true rfl⟩) hK hN (hZ.kept hS) hP hD hS hA [0, 1, 2, 3] [] rfl rfl (by decide) (by decide) (by decide) (va_recv (q := (RX5, TX5, 7)) hK hP (ci := 5) (q0 := 0) rfl rfl) rfl hl.1 rfl (Nat.le_of_ble_eq_true rfl) dX5_leastBy_102 ⟨Nat.le_of_ble_eq_true rfl, Nat.le_of_ble_eq_true rfl⟩ (fun r_13 u_14 H locs hr_13 hP hD hS => ?_)
        obtain ⟨q_15, rfl⟩ : ∃ z, z = u_14 := ⟨_, rfl⟩
        obtain ⟨hsr_13_0, hsr_13_1, hr_13⟩ := hr_13
        have h9R := zRe (ws' := [(w0, .inr (5, [.ref wk, .ref wl, .ref wc, .ref wp, .int wn, .int wh, .int wg])), (wl, .inl (cI, 125, .inl q_15)), (wc, .inl (cI, 3, .inl fc)), (wp, .inl (cP, 8, .inr (.inr (.inr (.inr fq)))))]) hP hD rfl
        clear hP hD
        obtain ⟨hP, hD⟩ := h9R
        obtain ⟨g_16, g_17⟩ := hr_13
        refine lv_imul hx hb dX5_leastBy_105 ?_
        refine lv_topi (fun x_18 ex_18 => ?_)
        obtain ⟨mx_18, nx_18, ox_18⟩ := zf_mulc (a := x_8) (b := r_13) (x := x_8.toInt) (y := r_13.toInt) (P := 99) rfl rfl ⟨by omega, by omega⟩ ⟨by omega, by omega⟩ (by decide)
        rw [← ex_18] at mx_18
        refine lv_iadd hx hb dX5_leastBy_106 ?_
        refine lv_topi (fun x_19 ex_19 => ?_)
        have qx_19 : x_19.toInt = 0 + x_18.toInt := by rw [ex_19]; exact zf_add (by decide) rfl (by omega) (by omega)
        refine lv_istore (lv' := [(7, .int x_19), (6, .int x_4), (5, .int r_1), (0, .ref w0), (1, .ref u0), (2, .int 1), (3, .int d), (4, .int sec)]) hx hb dX5_leastBy_107 hl (by decide) rfl (fun ls hl => ?_)
        refine lv_iload hx hb dX5_leastBy_109 (lv_at hl 0 rfl) ?_
        exact W.iret (v := x_19) hx hb hr (fun t ht hW => ⟨⟨x_19, q_15, rfl, ⟨(show zKn kq aq tq wn.toInt.toNat wh.toInt (fc 0).toInt (fc 1).toInt (fc 2).toInt wg.toInt q_15 from by first | exact hsr_13_0 | assumption), (show (x_19 : Int32).toInt = zLb (zLn kq aq tq wn.toInt.toNat wh.toInt (fc 0).toInt (fc 1).toInt (fc 2).toInt 0) (fc 0).toInt (zPw 1) ki.toInt a_.toInt ta.toInt wh.toInt d.toInt sec.toInt from by (have zw := hsr_1_0; have E1 : r_1.toInt * (zLn kq aq tq wn.toInt.toNat wh.toInt (fc 0).toInt (fc 1).toInt (fc 2).toInt 0) (zShl ki.toInt a_.toInt d.toInt) (sec.toInt - ta.toInt) = 0 := (by rw [show r_1.toInt = 0 from by omega, Int.zero_mul]); have E2 : (12 - r_1.toInt) * (zLn kq aq tq wn.toInt.toNat wh.toInt (fc 0).toInt (fc 1).toInt (fc 2).toInt 0) (zDpr ki.toInt a_.toInt wh.toInt d.toInt) (sec.toInt - ta.toInt) = x_18.toInt := (by rw [← hsr_10_0, show sec.toInt - ta.toInt = (x_4 : Int32).toInt from by omega, ← hsr_13_1, show 12 - r_1.toInt = x_8.toInt from by omega]; omega); unfold zLb zBy1; rw [← zw, E1, E2, show zPw 1 = 12 from by decide]; first | (rw [if_neg (by omega)]; omega) | (rw [if_pos (by omega)]; omega))), ⟨by omega, by omega⟩⟩, zRet ht hP hD [0, 1, 2, 3] (by decide) rfl⟩, hS.F ht⟩) hS.2.2 dX5_leastBy_111
    · have fc_6 : 0 < r_1.toInt := zf_nle c_6 rfl (by decide)
      refine lv_iload hx hb dX5_leastBy_51 (lv_at hl 0 rfl) ?_
      refine lv_iload hx hb dX5_leastBy_53 (lv_at hl 2 rfl) ?_
      refine lv_aload_n hx hb dX5_leastBy_55 rfl (lv_at hl 3 rfl) ?_
      refine lv_iload_n hx hb dX5_leastBy_56 rfl (lv_at hl 5 rfl) ?_
      refine lv_iconst (v := 1) hx hb dX5_leastBy_57 (by decide) ?_
      refine lv_isub hx hb dX5_leastBy_58 ?_
      refine lv_topi (fun y_20 ey_20 => ?_)
      obtain rfl : y_20 = 0 := ey_20.trans (by decide)
      refine lv_aload_n hx hb dX5_leastBy_59 rfl (lv_at hl 4 rfl) ?_
      refine lv_iload_n hx hb dX5_leastBy_60 rfl (lv_at hl 6 rfl) ?_
      refine zc_V (As := [.int d]) (rest := [.int 0, .ref w0, .int r_1, .int 0]) ⟨hx, hb, hml, hown, hts⟩ (c_F_Pull_shallower l D cI cJ cZ cP cS po (d) u0 (ki) (a_) (ta) hu_u0 ⟨by omega, by omega, by omega, by omega⟩ hy12 hy13) (cwV 1 hts gX5_leastBy_X2_shallower rfl rfl rfl ⟨rfl, dh_X2_shallower⟩ ⟨Nat.le_of_ble_eq_true rfl, Nat.le_of_ble_eq_true rfl⟩) hK hN (hZ.kept hS) hP zP_nil (va_recv (q := (RX2, TX2, 3)) hK (zPu_P (hZ.kept hS) hu_u0) (ci := 2) (q0 := 0) rfl rfl) rfl hl.1 rfl (Nat.le_of_ble_eq_true rfl) dX5_leastBy_61 ⟨Nat.le_of_ble_eq_true rfl, Nat.le_of_ble_eq_true rfl⟩ (fun r_21 hr_21 => ?_)
      obtain ⟨g_22, g_23, hsr_21_0⟩ := hr_21
      refine lv_iload hx hb dX5_leastBy_64 (lv_at hl 1 rfl) ?_
      skip
      refine zw_V (As := [.int 0, .int r_21, .int x_4]) (rest := [.int r_1, .int 0]) (wr := []) ⟨hx, hb, hml, hown, hts⟩ (c_F_W_least_0 l D cI cJ cZ cP cS po w0 wk wl wc wp (wn) (wh) (wg) fq kq aq tq (tw) fl fc (r_21) (x_4) hy2 hy3 hy4 hy5 hy6 hy7 hjw (by first | assumption | omega) (by first | assumption | omega) (by first | assumption | omega | decide) (by omega) (by omega) (by omega) (by omega) hp_fc H.size) (cwV 3 hts gX5_leastBy_X5_least rfl rfl rfl ⟨rfl, dh_X5_least⟩ ⟨Nat.le_of_ble_eq_true rfl, Nat.le_of_ble_eq_true rfl⟩) hK hN (hZ.kept hS) hP hD hS hA [0, 1, 2, 3] [] rfl rfl (by decide) (by decide) (by decide) (va_recv (q := (RX5, TX5, 7)) hK hP (ci := 5) (q0 := 0) rfl rfl) rfl hl.1 rfl (Nat.le_of_ble_eq_true rfl) dX5_leastBy_66 ⟨Nat.le_of_ble_eq_true rfl, Nat.le_of_ble_eq_true rfl⟩ (fun r_24 u_25 H locs hr_24 hP hD hS => ?_)
      obtain ⟨q_26, rfl⟩ : ∃ z, z = u_25 := ⟨_, rfl⟩
      obtain ⟨hsr_24_0, hsr_24_1, hr_24⟩ := hr_24
      have h9R := zRe (ws' := [(w0, .inr (5, [.ref wk, .ref wl, .ref wc, .ref wp, .int wn, .int wh, .int wg])), (wl, .inl (cI, 125, .inl q_26)), (wc, .inl (cI, 3, .inl fc)), (wp, .inl (cP, 8, .inr (.inr (.inr (.inr fq)))))]) hP hD rfl
      clear hP hD
      obtain ⟨hP, hD⟩ := h9R
      obtain ⟨g_27, g_28⟩ := hr_24
      refine lv_imul hx hb dX5_leastBy_69 ?_
      refine lv_topi (fun x_29 ex_29 => ?_)
      obtain ⟨mx_29, nx_29, ox_29⟩ := zf_mulc (a := r_1) (b := r_24) (x := r_1.toInt) (y := r_24.toInt) (P := 99) rfl rfl ⟨by omega, by omega⟩ ⟨by omega, by omega⟩ (by decide)
      rw [← ex_29] at mx_29
      refine lv_iadd hx hb dX5_leastBy_70 ?_
      refine lv_topi (fun x_30 ex_30 => ?_)
      have qx_30 : x_30.toInt = 0 + x_29.toInt := by rw [ex_30]; exact zf_add (by decide) rfl (by omega) (by omega)
      refine lv_istore (lv' := [(7, .int x_30), (6, .int x_4), (5, .int r_1), (0, .ref w0), (1, .ref u0), (2, .int 1), (3, .int d), (4, .int sec)]) hx hb dX5_leastBy_71 hl (by decide) rfl (fun ls hl => ?_)
      refine lv_iload hx hb dX5_leastBy_73 (lv_at hl 2 rfl) ?_
      refine lv_bipush (v := 12) hx hb dX5_leastBy_75 (by decide) ?_
      refine lv_icmp_ge (tgt := 109) hx hb dX5_leastBy_77 (by decide) (fun c_31 => ?_) (fun c_31 => ?_)
      · have fc_31 : 12 ≤ r_1.toInt := zf_le c_31 (by decide) rfl
        refine lv_iload hx hb dX5_leastBy_109 (lv_at hl 0 rfl) ?_
        exact W.iret (v := x_30) hx hb hr (fun t ht hW => ⟨⟨x_30, q_26, rfl, ⟨(show zKn kq aq tq wn.toInt.toNat wh.toInt (fc 0).toInt (fc 1).toInt (fc 2).toInt wg.toInt q_26 from by exact hsr_24_0), (show (x_30 : Int32).toInt = zLb (zLn kq aq tq wn.toInt.toNat wh.toInt (fc 0).toInt (fc 1).toInt (fc 2).toInt 0) (fc 0).toInt (zPw 1) ki.toInt a_.toInt ta.toInt wh.toInt d.toInt sec.toInt from by (have zw := hsr_1_0; have E1 : r_1.toInt * (zLn kq aq tq wn.toInt.toNat wh.toInt (fc 0).toInt (fc 1).toInt (fc 2).toInt 0) (zShl ki.toInt a_.toInt d.toInt) (sec.toInt - ta.toInt) = x_29.toInt := (by rw [← hsr_21_0, show sec.toInt - ta.toInt = (x_4 : Int32).toInt from by omega, ← hsr_24_1]; omega); have E2 : (12 - r_1.toInt) * (zLn kq aq tq wn.toInt.toNat wh.toInt (fc 0).toInt (fc 1).toInt (fc 2).toInt 0) (zDpr ki.toInt a_.toInt wh.toInt d.toInt) (sec.toInt - ta.toInt) = 0 := (by rw [show 12 - r_1.toInt = 0 from by omega, Int.zero_mul]); unfold zLb zBy1; rw [← zw, E1, E2, show zPw 1 = 12 from by decide]; first | (rw [if_neg (by omega)]; omega) | (rw [if_pos (by omega)]; omega))), ⟨by omega, by omega⟩⟩, zRet ht hP hD [0, 1, 2, 3] (by decide) rfl⟩, hS.F ht⟩) hS.2.2 dX5_leastBy_111
      · have fc_31 : r_1.toInt < 12 := zf_nle c_31 (by decide) rfl
        refine lv_iload hx hb dX5_leastBy_80 (lv_at hl 0 rfl) ?_
        refine lv_bipush (v := 12) hx hb dX5_leastBy_82 (by decide) ?_
        refine lv_iload hx hb dX5_leastBy_84 (lv_at hl 2 rfl) ?_
        refine lv_isub hx hb dX5_leastBy_86 ?_
        refine lv_topi (fun x_32 ex_32 => ?_)
        have qx_32 : x_32.toInt = 12 - r_1.toInt := by rw [ex_32]; exact zf_sub (by decide) rfl (by omega) (by omega)
        refine lv_aload_n hx hb dX5_leastBy_87 rfl (lv_at hl 3 rfl) ?_
        refine lv_iload_n hx hb dX5_leastBy_88 rfl (lv_at hl 5 rfl) ?_
        refine lv_iconst (v := 1) hx hb dX5_leastBy_89 (by decide) ?_
        refine lv_isub hx hb dX5_leastBy_90 ?_
        refine lv_topi (fun y_33 ey_33 => ?_)
        obtain rfl : y_33 = 0 := ey_33.trans (by decide)
        refine lv_aload_n hx hb dX5_leastBy_91 rfl (lv_at hl 4 rfl) ?_
        refine lv_iload_n hx hb dX5_leastBy_92 rfl (lv_at hl 6 rfl) ?_
        refine lv_aload_n hx hb dX5_leastBy_93 rfl (lv_at hl 3 rfl) ?_
        refine va_get (D := D) (ci := 5) (v := .int wh) (C := RX5) (T := TX5) (N := 7) hx hb hts hi_X5_leastBy_5 hown hK hP 0 rfl rfl 5 (by decide) (hts (.fieldLink RX5 31 "TheLiningsInIt$Ways" "hurry" "I") (List.mem_of_getElem? (i := 1) rfl)) (fun _ h9 => h9) rfl dX5_leastBy_94 ?_
        refine zc_V (As := [.int d, .int wh]) (rest := [.int 0, .ref w0, .int x_32, .int x_30]) ⟨hx, hb, hml, hown, hts⟩ (c_F_Pull_deeper l D cI cJ cZ cP cS po (d) (wh) u0 (ki) (a_) (ta) hu_u0 ⟨by omega, by omega, by omega, by omega⟩ hy12 hy13 hy4 hy5) (cwV 2 hts gX5_leastBy_X2_deeper rfl rfl rfl ⟨rfl, dh_X2_deeper⟩ ⟨Nat.le_of_ble_eq_true rfl, Nat.le_of_ble_eq_true rfl⟩) hK hN (hZ.kept hS) hP zP_nil (va_recv (q := (RX2, TX2, 3)) hK (zPu_P (hZ.kept hS) hu_u0) (ci := 2) (q0 := 0) rfl rfl) rfl hl.1 rfl (Nat.le_of_ble_eq_true rfl) dX5_leastBy_97 ⟨Nat.le_of_ble_eq_true rfl, Nat.le_of_ble_eq_true rfl⟩ (fun r_34 hr_34 => ?_)
        obtain ⟨g_35, g_36, hsr_34_0⟩ := hr_34
        refine lv_iload hx hb dX5_leastBy_100 (lv_at hl 1 rfl) ?_
        skip
        refine zw_V (As := [.int 0, .int r_34, .int x_4]) (rest := [.int x_32, .int x_30]) (wr := []) ⟨hx, hb, hml, hown, hts⟩ (c_F_W_least_0 l D cI cJ cZ cP cS po w0 wk wl wc wp (wn) (wh) (wg) fq kq aq tq (tw) q_26 fc (r_34) (x_4) hy2 hy3 hy4 hy5 hy6 hy7 hjw (by first | assumption | omega) (by first | assumption | omega) (by first | assumption | omega | decide) (by omega) (by omega) (by omega) (by omega) hp_fc H.size) (cwV 3 hts gX5_leastBy_X5_least rfl rfl rfl ⟨rfl, dh_X5_least⟩ ⟨Nat.le_of_ble_eq_true rfl, Nat.le_of_ble_eq_true rfl⟩) hK hN (hZ.kept hS) hP hD hS hA [0, 1, 2, 3] [] rfl rfl (by decide) (by decide) (by decide) (va_recv (q := (RX5, TX5, 7)) hK hP (ci := 5) (q0 := 0) rfl rfl) rfl hl.1 rfl (Nat.le_of_ble_eq_true rfl) dX5_leastBy_102 ⟨Nat.le_of_ble_eq_true rfl, Nat.le_of_ble_eq_true rfl⟩ (fun r_37 u_38 H locs hr_37 hP hD hS => ?_)
        obtain ⟨q_39, rfl⟩ : ∃ z, z = u_38 := ⟨_, rfl⟩
        obtain ⟨hsr_37_0, hsr_37_1, hr_37⟩ := hr_37
        have h9R := zRe (ws' := [(w0, .inr (5, [.ref wk, .ref wl, .ref wc, .ref wp, .int wn, .int wh, .int wg])), (wl, .inl (cI, 125, .inl q_39)), (wc, .inl (cI, 3, .inl fc)), (wp, .inl (cP, 8, .inr (.inr (.inr (.inr fq)))))]) hP hD rfl
        clear hP hD
        obtain ⟨hP, hD⟩ := h9R
        obtain ⟨g_40, g_41⟩ := hr_37
        refine lv_imul hx hb dX5_leastBy_105 ?_
        refine lv_topi (fun x_42 ex_42 => ?_)
        obtain ⟨mx_42, nx_42, ox_42⟩ := zf_mulc (a := x_32) (b := r_37) (x := x_32.toInt) (y := r_37.toInt) (P := 99) rfl rfl ⟨by omega, by omega⟩ ⟨by omega, by omega⟩ (by decide)
        rw [← ex_42] at mx_42
        refine lv_iadd hx hb dX5_leastBy_106 ?_
        refine lv_topi (fun x_43 ex_43 => ?_)
        have qx_43 : x_43.toInt = x_30.toInt + x_42.toInt := by rw [ex_43]; exact zf_add rfl rfl (by omega) (by omega)
        refine lv_istore (lv' := [(7, .int x_43), (6, .int x_4), (5, .int r_1), (0, .ref w0), (1, .ref u0), (2, .int 1), (3, .int d), (4, .int sec)]) hx hb dX5_leastBy_107 hl (by decide) rfl (fun ls hl => ?_)
        refine lv_iload hx hb dX5_leastBy_109 (lv_at hl 0 rfl) ?_
        have hmx9 := zMix (w := r_1.toInt) (x := r_24.toInt) (y := r_37.toInt) (P := 99) ⟨by omega, by omega⟩ ⟨by omega, by omega⟩ ⟨by omega, by omega⟩
        rw [show 12 - r_1.toInt = x_32.toInt from by omega] at hmx9
        exact W.iret (v := x_43) hx hb hr (fun t ht hW => ⟨⟨x_43, q_39, rfl, ⟨(show zKn kq aq tq wn.toInt.toNat wh.toInt (fc 0).toInt (fc 1).toInt (fc 2).toInt wg.toInt q_39 from by first | exact hsr_37_0 | assumption), (show (x_43 : Int32).toInt = zLb (zLn kq aq tq wn.toInt.toNat wh.toInt (fc 0).toInt (fc 1).toInt (fc 2).toInt 0) (fc 0).toInt (zPw 1) ki.toInt a_.toInt ta.toInt wh.toInt d.toInt sec.toInt from by (have zw := hsr_1_0; have E1 : r_1.toInt * (zLn kq aq tq wn.toInt.toNat wh.toInt (fc 0).toInt (fc 1).toInt (fc 2).toInt 0) (zShl ki.toInt a_.toInt d.toInt) (sec.toInt - ta.toInt) = x_29.toInt := (by rw [← hsr_21_0, show sec.toInt - ta.toInt = (x_4 : Int32).toInt from by omega, ← hsr_24_1]; omega); have E2 : (12 - r_1.toInt) * (zLn kq aq tq wn.toInt.toNat wh.toInt (fc 0).toInt (fc 1).toInt (fc 2).toInt 0) (zDpr ki.toInt a_.toInt wh.toInt d.toInt) (sec.toInt - ta.toInt) = x_42.toInt := (by rw [← hsr_34_0, show sec.toInt - ta.toInt = (x_4 : Int32).toInt from by omega, ← hsr_37_1, show 12 - r_1.toInt = x_32.toInt from by omega]; omega); unfold zLb zBy1; rw [← zw, E1, E2, show zPw 1 = 12 from by decide]; first | (rw [if_neg (by omega)]; omega) | (rw [if_pos (by omega)]; omega))), ⟨by omega, by omega⟩⟩, zRet ht hP hD [0, 1, 2, 3] (by decide) rfl⟩, hS.F ht⟩) hS.2.2 dX5_leastBy_111
  · have fc_5 : ki.toInt = 5 := zf_eq c_5 rfl (by decide)
    obtain ⟨t_44, zt_44, yt_44⟩ := hZ.1.1
    refine va_gets hx hb zt_44 hS hown (hts (.fieldLink RX5 79 "TheLiningsInIt$Ways" "POWERS" "[I") (List.mem_of_getElem? (i := 4) rfl)) (fun _ h9 => h9) dX5_leastBy_28 ?_
    refine lv_iload_n hx hb dX5_leastBy_31 rfl (lv_at hl 4 rfl) ?_
    refine va_ti hx hb yt_44 hS (zf_in (by decide) (by decide)) (v := .int 12) (by decide) dX5_leastBy_32 ?_
    refine lv_aload_n hx hb dX5_leastBy_33 rfl (lv_at hl 2 rfl) ?_
    refine va_get (D := D) (ci := 5) (v := .ref wc) (C := RX5) (T := TX5) (N := 7) hx hb hts hi_X5_leastBy_5 hown hK hP 0 rfl rfl 2 (by decide) (hts (.fieldLink RX5 18 "TheLiningsInIt$Ways" "costs" "[I") (List.mem_of_getElem? (i := 5) rfl)) (fun _ h9 => h9) rfl dX5_leastBy_34 ?_
    refine lv_iconst (v := 0) hx hb dX5_leastBy_37 (by decide) ?_
    refine va_iald hx hb hK hP 2 0 rfl rfl (zf_in (by decide) (by decide)) dX5_leastBy_38 ?_
    refine lv_topi (fun x_45 ex_45 => ?_)
    have bx_45 : 0 ≤ x_45.toInt ∧ x_45.toInt ≤ 99 := by rw [ex_45]; exact hp_fc _
    refine lv_imul hx hb dX5_leastBy_39 ?_
    refine lv_topi (fun x_46 ex_46 => ?_)
    have qx_46 : x_46.toInt = 12 * x_45.toInt := by rw [ex_46]; exact zf_mul (by decide) rfl (by omega) (by omega)
    refine lv_goto (tgt := 44) hx hb dX5_leastBy_40 (by decide) ?_
    refine lv_istore (lv' := [(7, .int x_46), (6, .int x_4), (5, .int r_1), (0, .ref w0), (1, .ref u0), (2, .int 1), (3, .int d), (4, .int sec)]) hx hb dX5_leastBy_44 hl (by decide) rfl (fun ls hl => ?_)
    refine lv_iload hx hb dX5_leastBy_46 (lv_at hl 2 rfl) ?_
    refine lv_if_le (tgt := 73) hx hb dX5_leastBy_48 (by decide) (fun c_47 => ?_) (fun c_47 => ?_)
    · have fc_47 : r_1.toInt ≤ 0 := zf_le c_47 rfl (by decide)
      refine lv_iload hx hb dX5_leastBy_73 (lv_at hl 2 rfl) ?_
      refine lv_bipush (v := 12) hx hb dX5_leastBy_75 (by decide) ?_
      refine lv_icmp_ge (tgt := 109) hx hb dX5_leastBy_77 (by decide) (fun c_48 => ?_) (fun c_48 => ?_)
      · exfalso; have fc_48 : 12 ≤ r_1.toInt := zf_le c_48 (by decide) rfl; omega
      · have fc_48 : r_1.toInt < 12 := zf_nle c_48 (by decide) rfl
        refine lv_iload hx hb dX5_leastBy_80 (lv_at hl 0 rfl) ?_
        refine lv_bipush (v := 12) hx hb dX5_leastBy_82 (by decide) ?_
        refine lv_iload hx hb dX5_leastBy_84 (lv_at hl 2 rfl) ?_
        refine lv_isub hx hb dX5_leastBy_86 ?_
        refine lv_topi (fun x_49 ex_49 => ?_)
        have qx_49 : x_49.toInt = 12 - r_1.toInt := by rw [ex_49]; exact zf_sub (by decide) rfl (by omega) (by omega)
        refine lv_aload_n hx hb dX5_leastBy_87 rfl (lv_at hl 3 rfl) ?_
        refine lv_iload_n hx hb dX5_leastBy_88 rfl (lv_at hl 5 rfl) ?_
        refine lv_iconst (v := 1) hx hb dX5_leastBy_89 (by decide) ?_
        refine lv_isub hx hb dX5_leastBy_90 ?_
        refine lv_topi (fun y_50 ey_50 => ?_)
        obtain rfl : y_50 = 0 := ey_50.trans (by decide)
        refine lv_aload_n hx hb dX5_leastBy_91 rfl (lv_at hl 4 rfl) ?_
        refine lv_iload_n hx hb dX5_leastBy_92 rfl (lv_at hl 6 rfl) ?_
        refine lv_aload_n hx hb dX5_leastBy_93 rfl (lv_at hl 3 rfl) ?_
        refine va_get (D := D) (ci := 5) (v := .int wh) (C := RX5) (T := TX5) (N := 7) hx hb hts hi_X5_leastBy_5 hown hK hP 0 rfl rfl 5 (by decide) (hts (.fieldLink RX5 31 "TheLiningsInIt$Ways" "hurry" "I") (List.mem_of_getElem? (i := 1) rfl)) (fun _ h9 => h9) rfl dX5_leastBy_94 ?_
        refine zc_V (As := [.int d, .int wh]) (rest := [.int 0, .ref w0, .int x_49, .int x_46]) ⟨hx, hb, hml, hown, hts⟩ (c_F_Pull_deeper l D cI cJ cZ cP cS po (d) (wh) u0 (ki) (a_) (ta) hu_u0 ⟨by omega, by omega, by omega, by omega⟩ hy12 hy13 hy4 hy5) (cwV 2 hts gX5_leastBy_X2_deeper rfl rfl rfl ⟨rfl, dh_X2_deeper⟩ ⟨Nat.le_of_ble_eq_true rfl, Nat.le_of_ble_eq_true rfl⟩) hK hN (hZ.kept hS) hP zP_nil (va_recv (q := (RX2, TX2, 3)) hK (zPu_P (hZ.kept hS) hu_u0) (ci := 2) (q0 := 0) rfl rfl) rfl hl.1 rfl (Nat.le_of_ble_eq_true rfl) dX5_leastBy_97 ⟨Nat.le_of_ble_eq_true rfl, Nat.le_of_ble_eq_true rfl⟩ (fun r_51 hr_51 => ?_)
        obtain ⟨g_52, g_53, hsr_51_0⟩ := hr_51
        refine lv_iload hx hb dX5_leastBy_100 (lv_at hl 1 rfl) ?_
        skip
        refine zw_V (As := [.int 0, .int r_51, .int x_4]) (rest := [.int x_49, .int x_46]) (wr := []) ⟨hx, hb, hml, hown, hts⟩ (c_F_W_least_0 l D cI cJ cZ cP cS po w0 wk wl wc wp (wn) (wh) (wg) fq kq aq tq (tw) fl fc (r_51) (x_4) hy2 hy3 hy4 hy5 hy6 hy7 hjw (by first | assumption | omega) (by first | assumption | omega) (by first | assumption | omega | decide) (by omega) (by omega) (by omega) (by omega) hp_fc H.size) (cwV 3 hts gX5_leastBy_X5_least rfl rfl rfl ⟨rfl, dh_X5_least⟩ ⟨Nat.le_of_ble_eq_true rfl, Nat.le_of_ble_eq_true rfl⟩) hK hN (hZ.kept hS) hP hD hS hA [0, 1, 2, 3] [] rfl rfl (by decide) (by decide) (by decide) (va_recv (q := (RX5, TX5, 7)) hK hP (ci := 5) (q0 := 0) rfl rfl) rfl hl.1 rfl (Nat.le_of_ble_eq_true rfl) dX5_leastBy_102 ⟨Nat.le_of_ble_eq_true rfl, Nat.le_of_ble_eq_true rfl⟩ (fun r_54 u_55 H locs hr_54 hP hD hS => ?_)
        obtain ⟨q_56, rfl⟩ : ∃ z, z = u_55 := ⟨_, rfl⟩
        obtain ⟨hsr_54_0, hsr_54_1, hr_54⟩ := hr_54
        have h9R := zRe (ws' := [(w0, .inr (5, [.ref wk, .ref wl, .ref wc, .ref wp, .int wn, .int wh, .int wg])), (wl, .inl (cI, 125, .inl q_56)), (wc, .inl (cI, 3, .inl fc)), (wp, .inl (cP, 8, .inr (.inr (.inr (.inr fq)))))]) hP hD rfl
        clear hP hD
        obtain ⟨hP, hD⟩ := h9R
        obtain ⟨g_57, g_58⟩ := hr_54
        refine lv_imul hx hb dX5_leastBy_105 ?_
        refine lv_topi (fun x_59 ex_59 => ?_)
        obtain ⟨mx_59, nx_59, ox_59⟩ := zf_mulc (a := x_49) (b := r_54) (x := x_49.toInt) (y := r_54.toInt) (P := 99) rfl rfl ⟨by omega, by omega⟩ ⟨by omega, by omega⟩ (by decide)
        rw [← ex_59] at mx_59
        refine lv_iadd hx hb dX5_leastBy_106 ?_
        refine lv_topi (fun x_60 ex_60 => ?_)
        have qx_60 : x_60.toInt = x_46.toInt + x_59.toInt := by rw [ex_60]; exact zf_add rfl rfl (by omega) (by omega)
        refine lv_istore (lv' := [(7, .int x_60), (6, .int x_4), (5, .int r_1), (0, .ref w0), (1, .ref u0), (2, .int 1), (3, .int d), (4, .int sec)]) hx hb dX5_leastBy_107 hl (by decide) rfl (fun ls hl => ?_)
        refine lv_iload hx hb dX5_leastBy_109 (lv_at hl 0 rfl) ?_
        exact W.iret (v := x_60) hx hb hr (fun t ht hW => ⟨⟨x_60, q_56, rfl, ⟨(show zKn kq aq tq wn.toInt.toNat wh.toInt (fc 0).toInt (fc 1).toInt (fc 2).toInt wg.toInt q_56 from by first | exact hsr_54_0 | assumption), (show (x_60 : Int32).toInt = zLb (zLn kq aq tq wn.toInt.toNat wh.toInt (fc 0).toInt (fc 1).toInt (fc 2).toInt 0) (fc 0).toInt (zPw 1) ki.toInt a_.toInt ta.toInt wh.toInt d.toInt sec.toInt from by (have nx_45 : (fc 0).toInt = x_45.toInt := (by rw [ex_45, show (0 : Int32).toNatClampNeg = 0 from by decide]); have zw := hsr_1_0; have E1 : r_1.toInt * (zLn kq aq tq wn.toInt.toNat wh.toInt (fc 0).toInt (fc 1).toInt (fc 2).toInt 0) (zShl ki.toInt a_.toInt d.toInt) (sec.toInt - ta.toInt) = 0 := (by rw [show r_1.toInt = 0 from by omega, Int.zero_mul]); have E2 : (12 - r_1.toInt) * (zLn kq aq tq wn.toInt.toNat wh.toInt (fc 0).toInt (fc 1).toInt (fc 2).toInt 0) (zDpr ki.toInt a_.toInt wh.toInt d.toInt) (sec.toInt - ta.toInt) = x_59.toInt := (by rw [← hsr_51_0, show sec.toInt - ta.toInt = (x_4 : Int32).toInt from by omega, ← hsr_54_1, show 12 - r_1.toInt = x_49.toInt from by omega]; omega); unfold zLb zBy1; rw [← zw, E1, E2, show zPw 1 = 12 from by decide]; first | (rw [if_pos (by omega)]; omega) | (rw [if_neg (by omega)]; omega))), ⟨by omega, by omega⟩⟩, zRet ht hP hD [0, 1, 2, 3] (by decide) rfl⟩, hS.F ht⟩) hS.2.2 dX5_leastBy_111
    · have fc_47 : 0 < r_1.toInt := zf_nle c_47 rfl (by decide)
      refine lv_iload hx hb dX5_leastBy_51 (lv_at hl 0 rfl) ?_
      refine lv_iload hx hb dX5_leastBy_53 (lv_at hl 2 rfl) ?_
      refine lv_aload_n hx hb dX5_leastBy_55 rfl (lv_at hl 3 rfl) ?_
      refine lv_iload_n hx hb dX5_leastBy_56 rfl (lv_at hl 5 rfl) ?_
      refine lv_iconst (v := 1) hx hb dX5_leastBy_57 (by decide) ?_
      refine lv_isub hx hb dX5_leastBy_58 ?_
      refine lv_topi (fun y_61 ey_61 => ?_)
      obtain rfl : y_61 = 0 := ey_61.trans (by decide)
      refine lv_aload_n hx hb dX5_leastBy_59 rfl (lv_at hl 4 rfl) ?_
      refine lv_iload_n hx hb dX5_leastBy_60 rfl (lv_at hl 6 rfl) ?_
      refine zc_V (As := [.int d]) (rest := [.int 0, .ref w0, .int r_1, .int x_46]) ⟨hx, hb, hml, hown, hts⟩ (c_F_Pull_shallower l D cI cJ cZ cP cS po (d) u0 (ki) (a_) (ta) hu_u0 ⟨by omega, by omega, by omega, by omega⟩ hy12 hy13) (cwV 1 hts gX5_leastBy_X2_shallower rfl rfl rfl ⟨rfl, dh_X2_shallower⟩ ⟨Nat.le_of_ble_eq_true rfl, Nat.le_of_ble_eq_true rfl⟩) hK hN (hZ.kept hS) hP zP_nil (va_recv (q := (RX2, TX2, 3)) hK (zPu_P (hZ.kept hS) hu_u0) (ci := 2) (q0 := 0) rfl rfl) rfl hl.1 rfl (Nat.le_of_ble_eq_true rfl) dX5_leastBy_61 ⟨Nat.le_of_ble_eq_true rfl, Nat.le_of_ble_eq_true rfl⟩ (fun r_62 hr_62 => ?_)
      obtain ⟨g_63, g_64, hsr_62_0⟩ := hr_62
      refine lv_iload hx hb dX5_leastBy_64 (lv_at hl 1 rfl) ?_
      skip
      refine zw_V (As := [.int 0, .int r_62, .int x_4]) (rest := [.int r_1, .int x_46]) (wr := []) ⟨hx, hb, hml, hown, hts⟩ (c_F_W_least_0 l D cI cJ cZ cP cS po w0 wk wl wc wp (wn) (wh) (wg) fq kq aq tq (tw) fl fc (r_62) (x_4) hy2 hy3 hy4 hy5 hy6 hy7 hjw (by first | assumption | omega) (by first | assumption | omega) (by first | assumption | omega | decide) (by omega) (by omega) (by omega) (by omega) hp_fc H.size) (cwV 3 hts gX5_leastBy_X5_least rfl rfl rfl ⟨rfl, dh_X5_least⟩ ⟨Nat.le_of_ble_eq_true rfl, Nat.le_of_ble_eq_true rfl⟩) hK hN (hZ.kept hS) hP hD hS hA [0, 1, 2, 3] [] rfl rfl (by decide) (by decide) (by decide) (va_recv (q := (RX5, TX5, 7)) hK hP (ci := 5) (q0 := 0) rfl rfl) rfl hl.1 rfl (Nat.le_of_ble_eq_true rfl) dX5_leastBy_66 ⟨Nat.le_of_ble_eq_true rfl, Nat.le_of_ble_eq_true rfl⟩ (fun r_65 u_66 H locs hr_65 hP hD hS => ?_)
      obtain ⟨q_67, rfl⟩ : ∃ z, z = u_66 := ⟨_, rfl⟩
      obtain ⟨hsr_65_0, hsr_65_1, hr_65⟩ := hr_65
      have h9R := zRe (ws' := [(w0, .inr (5, [.ref wk, .ref wl, .ref wc, .ref wp, .int wn, .int wh, .int wg])), (wl, .inl (cI, 125, .inl q_67)), (wc, .inl (cI, 3, .inl fc)), (wp, .inl (cP, 8, .inr (.inr (.inr (.inr fq)))))]) hP hD rfl
      clear hP hD
      obtain ⟨hP, hD⟩ := h9R
      obtain ⟨g_68, g_69⟩ := hr_65
      refine lv_imul hx hb dX5_leastBy_69 ?_
      refine lv_topi (fun x_70 ex_70 => ?_)
      obtain ⟨mx_70, nx_70, ox_70⟩ := zf_mulc (a := r_1) (b := r_65) (x := r_1.toInt) (y := r_65.toInt) (P := 99) rfl rfl ⟨by omega, by omega⟩ ⟨by omega, by omega⟩ (by decide)
      rw [← ex_70] at mx_70
      refine lv_iadd hx hb dX5_leastBy_70 ?_
      refine lv_topi (fun x_71 ex_71 => ?_)
      have qx_71 : x_71.toInt = x_46.toInt + x_70.toInt := by rw [ex_71]; exact zf_add rfl rfl (by omega) (by omega)
      refine lv_istore (lv' := [(7, .int x_71), (6, .int x_4), (5, .int r_1), (0, .ref w0), (1, .ref u0), (2, .int 1), (3, .int d), (4, .int sec)]) hx hb dX5_leastBy_71 hl (by decide) rfl (fun ls hl => ?_)
      refine lv_iload hx hb dX5_leastBy_73 (lv_at hl 2 rfl) ?_
      refine lv_bipush (v := 12) hx hb dX5_leastBy_75 (by decide) ?_
      refine lv_icmp_ge (tgt := 109) hx hb dX5_leastBy_77 (by decide) (fun c_72 => ?_) (fun c_72 => ?_)
      · have fc_72 : 12 ≤ r_1.toInt := zf_le c_72 (by decide) rfl
        refine lv_iload hx hb dX5_leastBy_109 (lv_at hl 0 rfl) ?_
        exact W.iret (v := x_71) hx hb hr (fun t ht hW => ⟨⟨x_71, q_67, rfl, ⟨(show zKn kq aq tq wn.toInt.toNat wh.toInt (fc 0).toInt (fc 1).toInt (fc 2).toInt wg.toInt q_67 from by exact hsr_65_0), (show (x_71 : Int32).toInt = zLb (zLn kq aq tq wn.toInt.toNat wh.toInt (fc 0).toInt (fc 1).toInt (fc 2).toInt 0) (fc 0).toInt (zPw 1) ki.toInt a_.toInt ta.toInt wh.toInt d.toInt sec.toInt from by (have nx_45 : (fc 0).toInt = x_45.toInt := (by rw [ex_45, show (0 : Int32).toNatClampNeg = 0 from by decide]); have zw := hsr_1_0; have E1 : r_1.toInt * (zLn kq aq tq wn.toInt.toNat wh.toInt (fc 0).toInt (fc 1).toInt (fc 2).toInt 0) (zShl ki.toInt a_.toInt d.toInt) (sec.toInt - ta.toInt) = x_70.toInt := (by rw [← hsr_62_0, show sec.toInt - ta.toInt = (x_4 : Int32).toInt from by omega, ← hsr_65_1]; omega); have E2 : (12 - r_1.toInt) * (zLn kq aq tq wn.toInt.toNat wh.toInt (fc 0).toInt (fc 1).toInt (fc 2).toInt 0) (zDpr ki.toInt a_.toInt wh.toInt d.toInt) (sec.toInt - ta.toInt) = 0 := (by rw [show 12 - r_1.toInt = 0 from by omega, Int.zero_mul]); unfold zLb zBy1; rw [← zw, E1, E2, show zPw 1 = 12 from by decide]; first | (rw [if_pos (by omega)]; omega) | (rw [if_neg (by omega)]; omega))), ⟨by omega, by omega⟩⟩, zRet ht hP hD [0, 1, 2, 3] (by decide) rfl⟩, hS.F ht⟩) hS.2.2 dX5_leastBy_111
      · have fc_72 : r_1.toInt < 12 := zf_nle c_72 (by decide) rfl
        refine lv_iload hx hb dX5_leastBy_80 (lv_at hl 0 rfl) ?_
        refine lv_bipush (v := 12) hx hb dX5_leastBy_82 (by decide) ?_
        refine lv_iload hx hb dX5_leastBy_84 (lv_at hl 2 rfl) ?_
        refine lv_isub hx hb dX5_leastBy_86 ?_
        refine lv_topi (fun x_73 ex_73 => ?_)
        have qx_73 : x_73.toInt = 12 - r_1.toInt := by rw [ex_73]; exact zf_sub (by decide) rfl (by omega) (by omega)
        refine lv_aload_n hx hb dX5_leastBy_87 rfl (lv_at hl 3 rfl) ?_
        refine lv_iload_n hx hb dX5_leastBy_88 rfl (lv_at hl 5 rfl) ?_
        refine lv_iconst (v := 1) hx hb dX5_leastBy_89 (by decide) ?_
        refine lv_isub hx hb dX5_leastBy_90 ?_
        refine lv_topi (fun y_74 ey_74 => ?_)
        obtain rfl : y_74 = 0 := ey_74.trans (by decide)
        refine lv_aload_n hx hb dX5_leastBy_91 rfl (lv_at hl 4 rfl) ?_
        refine lv_iload_n hx hb dX5_leastBy_92 rfl (lv_at hl 6 rfl) ?_
        refine lv_aload_n hx hb dX5_leastBy_93 rfl (lv_at hl 3 rfl) ?_
        refine va_get (D := D) (ci := 5) (v := .int wh) (C := RX5) (T := TX5) (N := 7) hx hb hts hi_X5_leastBy_5 hown hK hP 0 rfl rfl 5 (by decide) (hts (.fieldLink RX5 31 "TheLiningsInIt$Ways" "hurry" "I") (List.mem_of_getElem? (i := 1) rfl)) (fun _ h9 => h9) rfl dX5_leastBy_94 ?_
        refine zc_V (As := [.int d, .int wh]) (rest := [.int 0, .ref w0, .int x_73, .int x_71]) ⟨hx, hb, hml, hown, hts⟩ (c_F_Pull_deeper l D cI cJ cZ cP cS po (d) (wh) u0 (ki) (a_) (ta) hu_u0 ⟨by omega, by omega, by omega, by omega⟩ hy12 hy13 hy4 hy5) (cwV 2 hts gX5_leastBy_X2_deeper rfl rfl rfl ⟨rfl, dh_X2_deeper⟩ ⟨Nat.le_of_ble_eq_true rfl, Nat.le_of_ble_eq_true rfl⟩) hK hN (hZ.kept hS) hP zP_nil (va_recv (q := (RX2, TX2, 3)) hK (zPu_P (hZ.kept hS) hu_u0) (ci := 2) (q0 := 0) rfl rfl) rfl hl.1 rfl (Nat.le_of_ble_eq_true rfl) dX5_leastBy_97 ⟨Nat.le_of_ble_eq_true rfl, Nat.le_of_ble_eq_true rfl⟩ (fun r_75 hr_75 => ?_)
        obtain ⟨g_76, g_77, hsr_75_0⟩ := hr_75
        refine lv_iload hx hb dX5_leastBy_100 (lv_at hl 1 rfl) ?_
        skip
        refine zw_V (As := [.int 0, .int r_75, .int x_4]) (rest := [.int x_73, .int x_71]) (wr := []) ⟨hx, hb, hml, hown, hts⟩ (c_F_W_least_0 l D cI cJ cZ cP cS po w0 wk wl wc wp (wn) (wh) (wg) fq kq aq tq (tw) q_67 fc (r_75) (x_4) hy2 hy3 hy4 hy5 hy6 hy7 hjw (by first | assumption | omega) (by first | assumption | omega) (by first | assumption | omega | decide) (by omega) (by omega) (by omega) (by omega) hp_fc H.size) (cwV 3 hts gX5_leastBy_X5_least rfl rfl rfl ⟨rfl, dh_X5_least⟩ ⟨Nat.le_of_ble_eq_true rfl, Nat.le_of_ble_eq_true rfl⟩) hK hN (hZ.kept hS) hP hD hS hA [0, 1, 2, 3] [] rfl rfl (by decide) (by decide) (by decide) (va_recv (q := (RX5, TX5, 7)) hK hP (ci := 5) (q0 := 0) rfl rfl) rfl hl.1 rfl (Nat.le_of_ble_eq_true rfl) dX5_leastBy_102 ⟨Nat.le_of_ble_eq_true rfl, Nat.le_of_ble_eq_true rfl⟩ (fun r_78 u_79 H locs hr_78 hP hD hS => ?_)
        obtain ⟨q_80, rfl⟩ : ∃ z, z = u_79 := ⟨_, rfl⟩
        obtain ⟨hsr_78_0, hsr_78_1, hr_78⟩ := hr_78
        have h9R := zRe (ws' := [(w0, .inr (5, [.ref wk, .ref wl, .ref wc, .ref wp, .int wn, .int wh, .int wg])), (wl, .inl (cI, 125, .inl q_80)), (wc, .inl (cI, 3, .inl fc)), (wp, .inl (cP, 8, .inr (.inr (.inr (.inr fq)))))]) hP hD rfl
        clear hP hD
        obtain ⟨hP, hD⟩ := h9R
        obtain ⟨g_81, g_82⟩ := hr_78
        refine lv_imul hx hb dX5_leastBy_105 ?_
        refine lv_topi (fun x_83 ex_83 => ?_)
        obtain ⟨mx_83, nx_83, ox_83⟩ := zf_mulc (a := x_73) (b := r_78) (x := x_73.toInt) (y := r_78.toInt) (P := 99) rfl rfl ⟨by omega, by omega⟩ ⟨by omega, by omega⟩ (by decide)
        rw [← ex_83] at mx_83
        refine lv_iadd hx hb dX5_leastBy_106 ?_
        refine lv_topi (fun x_84 ex_84 => ?_)
        have qx_84 : x_84.toInt = x_71.toInt + x_83.toInt := by rw [ex_84]; exact zf_add rfl rfl (by omega) (by omega)
        refine lv_istore (lv' := [(7, .int x_84), (6, .int x_4), (5, .int r_1), (0, .ref w0), (1, .ref u0), (2, .int 1), (3, .int d), (4, .int sec)]) hx hb dX5_leastBy_107 hl (by decide) rfl (fun ls hl => ?_)
        refine lv_iload hx hb dX5_leastBy_109 (lv_at hl 0 rfl) ?_
        have hmx9 := zMix (w := r_1.toInt) (x := r_65.toInt) (y := r_78.toInt) (P := 99) ⟨by omega, by omega⟩ ⟨by omega, by omega⟩ ⟨by omega, by omega⟩
        rw [show 12 - r_1.toInt = x_73.toInt from by omega] at hmx9
        exact W.iret (v := x_84) hx hb hr (fun t ht hW => ⟨⟨x_84, q_80, rfl, ⟨(show zKn kq aq tq wn.toInt.toNat wh.toInt (fc 0).toInt (fc 1).toInt (fc 2).toInt wg.toInt q_80 from by first | exact hsr_78_0 | assumption), (show (x_84 : Int32).toInt = zLb (zLn kq aq tq wn.toInt.toNat wh.toInt (fc 0).toInt (fc 1).toInt (fc 2).toInt 0) (fc 0).toInt (zPw 1) ki.toInt a_.toInt ta.toInt wh.toInt d.toInt sec.toInt from by (have nx_45 : (fc 0).toInt = x_45.toInt := (by rw [ex_45, show (0 : Int32).toNatClampNeg = 0 from by decide]); have zw := hsr_1_0; have E1 : r_1.toInt * (zLn kq aq tq wn.toInt.toNat wh.toInt (fc 0).toInt (fc 1).toInt (fc 2).toInt 0) (zShl ki.toInt a_.toInt d.toInt) (sec.toInt - ta.toInt) = x_70.toInt := (by rw [← hsr_62_0, show sec.toInt - ta.toInt = (x_4 : Int32).toInt from by omega, ← hsr_65_1]; omega); have E2 : (12 - r_1.toInt) * (zLn kq aq tq wn.toInt.toNat wh.toInt (fc 0).toInt (fc 1).toInt (fc 2).toInt 0) (zDpr ki.toInt a_.toInt wh.toInt d.toInt) (sec.toInt - ta.toInt) = x_83.toInt := (by rw [← hsr_75_0, show sec.toInt - ta.toInt = (x_4 : Int32).toInt from by omega, ← hsr_78_1, show 12 - r_1.toInt = x_73.toInt from by omega]; omega); unfold zLb zBy1; rw [← zw, E1, E2, show zPw 1 = 12 from by decide]; first | (rw [if_pos (by omega)]; omega) | (rw [if_neg (by omega)]; omega))), ⟨by omega, by omega⟩⟩, zRet ht hP hD [0, 1, 2, 3] (by decide) rfl⟩, hS.F ht⟩) hS.2.2 dX5_leastBy_111
set_option maxHeartbeats 4000000 in
set_option maxRecDepth 100000 in
theorem c_F_W_least_1 (l : Launch) (D : va_G) (cI cJ cZ cP cS : ClassId) (po : zPool) (w0 wk wl wc wp : Nat) (wn wh wg : Int32) (fq : Nat → Option Nat) (kq aq tq : Nat → Int32) (tw : Int32) (fl fc : Nat → Int32) (d sec : Int32) (hy0 : 0 ≤ wn.toInt) (hy1 : wn.toInt ≤ 8) (hy2 : 0 ≤ wh.toInt) (hy3 : wh.toInt ≤ 9) (hy4 : 0 ≤ wg.toInt) (hy5 : wg.toInt ≤ 60) (hjw : zJW po fq wn kq aq tq tw) (hkn : zKn kq aq tq wn.toInt.toNat wh.toInt (fc 0).toInt (fc 1).toInt (fc 2).toInt wg.toInt fl) (hgl : (∀ p : Nat, p < wn.toInt.toNat → (tq p).toInt ≤ wg.toInt)) (htw : tw.toInt = 1) (hy10 : 0 ≤ d.toInt) (hy11 : d.toInt ≤ 24) (hy12 : 0 ≤ sec.toInt) (hy13 : sec.toInt ≤ 300) (hp_fc : zRg fc (0) 99) (hpz : Nat) : Met l yX5_least wsX5_least ({ frames := 4, cells := 0, slots := 0, locals := 98 }) (va_Pc [.ref w0, .int 1, .int d, .int sec] (zW D (zKT cI cJ cZ cP cS) po [(w0, .inr (5, [.ref wk, .ref wl, .ref wc, .ref wp, .int wn, .int wh, .int wg])), (wl, .inl (cI, 125, .inl fl)), (wc, .inl (cI, 3, .inl fc)), (wp, .inl (cP, 8, .inr (.inr (.inr (.inr fq)))))] hpz)) (va_Qi (fun (r : Int32) (fl2 : (Nat → Int32)) => (zKn kq aq tq wn.toInt.toNat wh.toInt (fc 0).toInt (fc 1).toInt (fc 2).toInt wg.toInt fl2) ∧ (r.toInt = (zLn kq aq tq wn.toInt.toNat wh.toInt (fc 0).toInt (fc 1).toInt (fc 2).toInt 1) d.toInt sec.toInt) ∧ (0 ≤ r.toInt ∧ r.toInt ≤ 1188)) (zB D [(w0, .inr (5, [.ref wk, .ref wl, .ref wc, .ref wp, .int wn, .int wh, .int wg])), (wl, .inl (cI, 125, .inl fl)), (wc, .inl (cI, 3, .inl fc)), (wp, .inl (cP, 8, .inr (.inr (.inr (.inr fq)))))] hpz (fun (fl2 : Nat → Int32) => [(w0, .inr (5, [.ref wk, .ref wl, .ref wc, .ref wp, .int wn, .int wh, .int wg])), (wl, .inl (cI, 125, .inl fl2)), (wc, .inl (cI, 3, .inl fc)), (wp, .inl (cP, 8, .inr (.inr (.inr (.inr fq)))))])) (va_A [(w0, .inr (5, [.ref wk, .ref wl, .ref wc, .ref wp, .int wn, .int wh, .int wg])), (wl, .inl (cI, 125, .inl fl)), (wc, .inl (cI, 3, .inl fc)), (wp, .inl (cP, 8, .inr (.inr (.inr (.inr fq)))))] hpz)) 0 0 (va_A [(w0, .inr (5, [.ref wk, .ref wl, .ref wc, .ref wp, .int wn, .int wh, .int wg])), (wl, .inl (cI, 125, .inl fl)), (wc, .inl (cI, 3, .inl fc)), (wp, .inl (cP, 8, .inr (.inr (.inr (.inr fq)))))] hpz) := by
  refine Met.ofW (cc := cX5_least) (maxL := 9) (ret := (some .int)) (by decide) rfl ?_
  intro p e s m args below meth c s₁ B hml hv
  obtain ⟨rfl, hsz, hP, hK, hD0, hN, hZ⟩ := hv
  have hx := B.exec
  have hb := B.bytes
  have hr := B.returns
  have hts := atoms_spec (ws := wsX5_least) B.pre
  have hown : s.vm.findClass RX5 = some m.cls := findClass_of_methodNamed B.named
  have hlocks := B.notSynchronized
  subst hsz
  have hD := hD0.self (sz := s.heap.size)
  have hA := zA_of hD
  have hl := lv_entry ([.ref w0, .int 1, .int d, .int sec]) (n := 9) (Nat.le_of_ble_eq_true rfl)
  rw [lg_entry_eq]
  generalize (lg_sl ([.ref w0, .int 1, .int d, .int sec]) ++ List.replicate (9 - (lg_sl ([.ref w0, .int 1, .int d, .int sec])).length) Slot.unset).toArray = ls at hl ⊢
  replace hl : lv_has ls 9 [(0, .ref w0), (1, .int 1), (2, .int d), (3, .int sec)] := hl
  refine zw_begin hP hD (fun H locs hP1 hS => ?_)
  clear hP
  have hP := hP1
  clear hP1
  refine lv_iload_n hx hb dX5_least_0 rfl (lv_at hl 1 rfl) ?_
  refine lv_if_lt (tgt := 20) hx hb dX5_least_1 (by decide) (fun c_1 => ?_) (fun c_1 => ?_)
  · exact absurd c_1 (by decide)
  · refine lv_iload_n hx hb dX5_least_4 rfl (lv_at hl 1 rfl) ?_
    refine lv_iconst (v := 4) hx hb dX5_least_5 (by decide) ?_
    refine lv_icmp_gt (tgt := 20) hx hb dX5_least_6 (by decide) (fun c_2 => ?_) (fun c_2 => ?_)
    · exact absurd c_2 (by decide)
    · refine lv_iload_n hx hb dX5_least_9 rfl (lv_at hl 2 rfl) ?_
      refine lv_iconst (v := 1) hx hb dX5_least_10 (by decide) ?_
      refine lv_icmp_lt (tgt := 20) hx hb dX5_least_11 (by decide) (fun c_3 => ?_) (fun c_3 => ?_)
      · have fc_3 : d.toInt < 1 := zf_lt c_3 rfl (by decide)
        refine lv_iconst (v := 0) hx hb dX5_least_20 (by decide) ?_
        exact W.iret (v := 0) hx hb hr (fun t ht hW => ⟨⟨0, fl, rfl, ⟨(show zKn kq aq tq wn.toInt.toNat wh.toInt (fc 0).toInt (fc 1).toInt (fc 2).toInt wg.toInt fl from by exact hkn), (show (0 : Int32).toInt = (zLn kq aq tq wn.toInt.toNat wh.toInt (fc 0).toInt (fc 1).toInt (fc 2).toInt 1) d.toInt sec.toInt from by (have k9 : (0 : Int32).toInt = 0 := (by decide); rw [zLn_s, if_pos (by omega)]; exact k9)), ⟨by decide, by decide⟩⟩, zRet ht hP hD [0, 1, 2, 3] (by decide) rfl⟩, hS.F ht⟩) hS.2.2 dX5_least_21
      · have fc_3 : 1 ≤ d.toInt := zf_nlt c_3 rfl (by decide)
        refine lv_iload_n hx hb dX5_least_14 rfl (lv_at hl 2 rfl) ?_
        refine lv_bipush (v := 24) hx hb dX5_least_15 (by decide) ?_
        refine lv_icmp_le (tgt := 22) hx hb dX5_least_17 (by decide) (fun c_4 => ?_) (fun c_4 => ?_)
        · have fc_4 : d.toInt ≤ 24 := zf_le c_4 rfl (by decide)
          refine lv_iload_n hx hb dX5_least_22 rfl (lv_at hl 3 rfl) ?_
          refine lv_iload_n hx hb dX5_least_23 rfl (lv_at hl 1 rfl) ?_
          refine lv_aload_n hx hb dX5_least_24 rfl (lv_at hl 0 rfl) ?_
          refine va_get (D := D) (ci := 5) (v := .int wg) (C := RX5) (T := TX5) (N := 7) hx hb hts hi_X5_least_5 hown hK hP 0 rfl rfl 6 (by decide) (hts (.fieldLink RX5 34 "TheLiningsInIt$Ways" "longest" "I") (List.mem_of_getElem? (i := 1) rfl)) (fun _ h9 => h9) rfl dX5_least_25 ?_
          refine lv_imul hx hb dX5_least_28 ?_
          refine lv_topi (fun x_5 ex_5 => ?_)
          have qx_5 : x_5.toInt = 1 * wg.toInt := by rw [ex_5]; exact zf_mul (by decide) rfl (by omega) (by omega)
          refine lv_bipush (v := 30) hx hb dX5_least_29 (by decide) ?_
          refine lv_iadd hx hb dX5_least_31 ?_
          refine lv_topi (fun x_6 ex_6 => ?_)
          have qx_6 : x_6.toInt = x_5.toInt + 30 := by rw [ex_6]; exact zf_add rfl (by decide) (by omega) (by omega)
          refine lv_icmp_lt (tgt := 39) hx hb dX5_least_32 (by decide) (fun c_7 => ?_) (fun c_7 => ?_)
          · have fc_7 : sec.toInt < x_6.toInt := zf_lt c_7 rfl rfl
            refine lv_iconst (v := 0) hx hb dX5_least_39 (by decide) ?_
            refine lv_istore (lv' := [(4, .int 0), (0, .ref w0), (1, .int 1), (2, .int d), (3, .int sec)]) hx hb dX5_least_40 hl (by decide) rfl (fun ls hl => ?_)
            refine lv_iload_n hx hb dX5_least_42 rfl (lv_at hl 2 rfl) ?_
            refine lv_bipush (v := 25) hx hb dX5_least_43 (by decide) ?_
            refine lv_imul hx hb dX5_least_45 ?_
            refine lv_topi (fun y_8 ey_8 => ?_)
            obtain rfl : y_8 = 25 := ey_8.trans (by decide)
            refine lv_iload_n hx hb dX5_least_46 rfl (lv_at hl 3 rfl) ?_
            refine lv_iadd hx hb dX5_least_47 ?_
            refine lv_topi (fun x_9 ex_9 => ?_)
            have qx_9 : x_9.toInt = 25 + d.toInt := by rw [ex_9]; exact zf_add (by decide) rfl (by omega) (by omega)
            refine lv_istore (lv' := [(5, .int x_9), (4, .int 0), (0, .ref w0), (1, .int 1), (2, .int d), (3, .int sec)]) hx hb dX5_least_48 hl (by decide) rfl (fun ls hl => ?_)
            refine lv_iload hx hb dX5_least_50 (lv_at hl 1 rfl) ?_
            refine lv_if_eq (tgt := 74) hx hb dX5_least_52 (by decide) (fun c_10 => ?_) (fun c_10 => ?_)
            · refine lv_aload_n hx hb dX5_least_74 rfl (lv_at hl 2 rfl) ?_
              refine lv_iload_n hx hb dX5_least_75 rfl (lv_at hl 3 rfl) ?_
              refine lv_iload_n hx hb dX5_least_76 rfl (lv_at hl 5 rfl) ?_
              refine zc_V (As := [.int 1, .int sec]) (rest := []) ⟨hx, hb, hml, hown, hts⟩ (c_F_W_leastAtOnce_1 l D cI cJ cZ cP cS po w0 wk wl wc wp (wn) (wh) (wg) fc (sec) hy0 hy1 hy2 hy3 hy4 hy5 hy12 hy13 hp_fc) (cwV 2 hts gX5_least_X5_leastAtOnce rfl rfl rfl ⟨rfl, dh_X5_leastAtOnce⟩ ⟨Nat.le_of_ble_eq_true rfl, Nat.le_of_ble_eq_true rfl⟩) hK hN (hZ.kept hS) hP (hP.sub [0, 2] rfl) (va_recv (q := (RX5, TX5, 7)) hK hP (ci := 5) (q0 := 0) rfl rfl) rfl hl.1 rfl (Nat.le_of_ble_eq_true rfl) dX5_least_77 ⟨Nat.le_of_ble_eq_true rfl, Nat.le_of_ble_eq_true rfl⟩ (fun r_11 hr_11 => ?_)
              obtain ⟨g_12, g_13, hsr_11_0⟩ := hr_11
              refine lv_istore (lv' := [(6, .int r_11), (5, .int x_9), (4, .int 0), (0, .ref w0), (1, .int 1), (2, .int d), (3, .int sec)]) hx hb dX5_least_80 hl (by decide) rfl (fun ls hl => ?_)
              refine lv_iconst (v := 0) hx hb dX5_least_82 (by decide) ?_
              refine lv_istore (lv' := [(7, .int 0), (6, .int r_11), (5, .int x_9), (4, .int 0), (0, .ref w0), (1, .int 1), (2, .int d), (3, .int sec)]) hx hb dX5_least_83 hl (by decide) rfl (fun ls hl => ?_)
              obtain ⟨i_85, hi_85⟩ : ∃ i : Int32, i = 0 := ⟨_, rfl⟩
              replace hl : lv_has ls 9 [(7, .int i_85), (6, .int r_11), (5, .int x_9), (4, .int 0), (0, .ref w0), (1, .int 1), (2, .int d), (3, .int sec)] := by rw [hi_85]; exact lv_sub hl [0, 1, 2, 3, 4, 5, 6, 7] rfl
              have h1i_85 : i_85.toInt = 0 := by rw [hi_85]; decide
              obtain ⟨nfu, hni_85⟩ : ∃ nq9 : Nat, wn.toInt ≤ i_85.toInt + (nq9 : Int) := ⟨((wn.toInt : Int) - 0).toNat, by omega⟩
              have hloi_85 : 0 ≤ i_85.toInt := by omega
              obtain ⟨g_14, hg_14⟩ : ∃ g : Nat → Int32, g = fl := ⟨_, rfl⟩
              replace hP : va_P D vwCl [(w0, .inr (5, [.ref wk, .ref wl, .ref wc, .ref wp, .int wn, .int wh, .int wg])), (wl, .inl (cI, 125, .inl g_14)), (wc, .inl (cI, 3, .inl fc)), (wp, .inl (cP, 8, .inr (.inr (.inr (.inr fq)))))] H := by rw [hg_14]; exact hP
              replace hD : va_D (va_A [(w0, .inr (5, [.ref wk, .ref wl, .ref wc, .ref wp, .int wn, .int wh, .int wg])), (wl, .inl (cI, 125, .inl fl)), (wc, .inl (cI, 3, .inl fc)), (wp, .inl (cP, 8, .inr (.inr (.inr (.inr fq)))))] s.heap.size) [(w0, .inr (5, [.ref wk, .ref wl, .ref wc, .ref wp, .int wn, .int wh, .int wg])), (wl, .inl (cI, 125, .inl g_14)), (wc, .inl (cI, 3, .inl fc)), (wp, .inl (cP, 8, .inr (.inr (.inr (.inr fq)))))] := by rw [hg_14]; exact hD
              obtain ⟨v_15, hv_15⟩ : ∃ g : Int32, g = r_11 := ⟨_, rfl⟩
              replace hl : lv_has ls 9 [(7, .int i_85), (6, .int v_15), (5, .int x_9), (4, .int 0), (0, .ref w0), (1, .int 1), (2, .int d), (3, .int sec)] := by rw [hv_15]; exact hl
              have hbv_15 : 0 ≤ v_15.toInt ∧ v_15.toInt ≤ 1188 := by rw [hv_15]; exact ⟨by omega, by omega⟩
              have hvi_85_0 : zKn kq aq tq wn.toInt.toNat wh.toInt (fc 0).toInt (fc 1).toInt (fc 2).toInt wg.toInt g_14 := by
                (try rw [hi_85]); (try rw [hg_14]); (try rw [hv_15]); exact hkn
              have hvi_85_1 : (v_15 : Int32).toInt = zFi tq d.toInt sec.toInt (zPw 1 * zAt (fc 1).toInt (fc 2).toInt sec.toInt) (zLv (zLn kq aq tq wn.toInt.toNat wh.toInt (fc 0).toInt (fc 1).toInt (fc 2).toInt 0) kq aq tq (fc 0).toInt (zPw 1) wh.toInt d.toInt sec.toInt) i_85.toInt.toNat := by
                (try rw [hi_85]); (try rw [hg_14]); (try rw [hv_15]); (rw [(show ((0 : Int32).toInt.toNat) = 0 from by decide)]; exact hsr_11_0)
              have hvi_85_2 : i_85.toInt ≤ wn.toInt := by
                (try rw [hi_85]); (try rw [hg_14]); (try rw [hv_15]); (have k0 : (0 : Int32).toInt = 0 := (by decide); omega)
              clear h1i_85 hi_85 hg_14 hv_15
              skip
              revert hni_85
              revert hloi_85
              revert hvi_85_2
              revert hvi_85_1
              revert hvi_85_0
              revert hbv_15
              revert hl
              revert hS
              revert hD
              revert hP
              revert ls
              revert locs
              revert H
              revert g_14
              revert v_15
              revert i_85
              induction nfu with
              | zero =>
                intro i_85 v_15 g_14 H locs ls hP hD hS hl hbv_15 hvi_85_0 hvi_85_1 hvi_85_2 hloi_85 hni_85
                have hzi_85 : wn.toInt ≤ i_85.toInt := by omega
                refine lv_iload hx hb dX5_least_85 (lv_at hl 0 rfl) ?_
                refine lv_aload_n hx hb dX5_least_87 rfl (lv_at hl 4 rfl) ?_
                refine va_get (D := D) (ci := 5) (v := .int wn) (C := RX5) (T := TX5) (N := 7) hx hb hts hi_X5_least_5 hown hK hP 0 rfl rfl 4 (by decide) (hts (.fieldLink RX5 27 "TheLiningsInIt$Ways" "count" "I") (List.mem_of_getElem? (i := 3) rfl)) (fun _ h9 => h9) rfl dX5_least_88 ?_
                refine lv_icmp_ge (tgt := 135) hx hb dX5_least_91 (by decide) (fun c_16 => ?_) (fun c_16 => ?_)
                · have fc_16 : wn.toInt ≤ i_85.toInt := zf_le c_16 rfl rfl
                  refine lv_iload hx hb dX5_least_135 (lv_at hl 3 rfl) ?_
                  refine lv_if_eq (tgt := 149) hx hb dX5_least_137 (by decide) (fun c_17 => ?_) (fun c_17 => ?_)
                  · refine lv_iload hx hb dX5_least_149 (lv_at hl 1 rfl) ?_
                    exact W.iret (v := v_15) hx hb hr (fun t ht hW => ⟨⟨v_15, g_14, rfl, ⟨(show zKn kq aq tq wn.toInt.toNat wh.toInt (fc 0).toInt (fc 1).toInt (fc 2).toInt wg.toInt g_14 from by exact hvi_85_0), (show (v_15 : Int32).toInt = (zLn kq aq tq wn.toInt.toNat wh.toInt (fc 0).toInt (fc 1).toInt (fc 2).toInt 1) d.toInt sec.toInt from by (have h9 : i_85.toInt.toNat = wn.toInt.toNat := (by omega); have z := hvi_85_1; rw [h9] at z; rw [zLn_s, if_neg (by omega)]; exact z)), ⟨by omega, by omega⟩⟩, zRet ht hP hD [0, 1, 2, 3] (by decide) rfl⟩, hS.F ht⟩) hS.2.2 dX5_least_151
                  · exact absurd c_17 (by decide)
                · exfalso; have fc_16 : i_85.toInt < wn.toInt := zf_nle c_16 rfl rfl; omega
              | succ nfu ih =>
                intro i_85 v_15 g_14 H locs ls hP hD hS hl hbv_15 hvi_85_0 hvi_85_1 hvi_85_2 hloi_85 hni_85
                refine lv_iload hx hb dX5_least_85 (lv_at hl 0 rfl) ?_
                refine lv_aload_n hx hb dX5_least_87 rfl (lv_at hl 4 rfl) ?_
                refine va_get (D := D) (ci := 5) (v := .int wn) (C := RX5) (T := TX5) (N := 7) hx hb hts hi_X5_least_5 hown hK hP 0 rfl rfl 4 (by decide) (hts (.fieldLink RX5 27 "TheLiningsInIt$Ways" "count" "I") (List.mem_of_getElem? (i := 3) rfl)) (fun _ h9 => h9) rfl dX5_least_88 ?_
                refine lv_icmp_ge (tgt := 135) hx hb dX5_least_91 (by decide) (fun c_18 => ?_) (fun c_18 => ?_)
                · have fc_18 : wn.toInt ≤ i_85.toInt := zf_le c_18 rfl rfl
                  refine lv_iload hx hb dX5_least_135 (lv_at hl 3 rfl) ?_
                  refine lv_if_eq (tgt := 149) hx hb dX5_least_137 (by decide) (fun c_19 => ?_) (fun c_19 => ?_)
                  · refine lv_iload hx hb dX5_least_149 (lv_at hl 1 rfl) ?_
                    exact W.iret (v := v_15) hx hb hr (fun t ht hW => ⟨⟨v_15, g_14, rfl, ⟨(show zKn kq aq tq wn.toInt.toNat wh.toInt (fc 0).toInt (fc 1).toInt (fc 2).toInt wg.toInt g_14 from by exact hvi_85_0), (show (v_15 : Int32).toInt = (zLn kq aq tq wn.toInt.toNat wh.toInt (fc 0).toInt (fc 1).toInt (fc 2).toInt 1) d.toInt sec.toInt from by (have h9 : i_85.toInt.toNat = wn.toInt.toNat := (by omega); have z := hvi_85_1; rw [h9] at z; rw [zLn_s, if_neg (by omega)]; exact z)), ⟨by omega, by omega⟩⟩, zRet ht hP hD [0, 1, 2, 3] (by decide) rfl⟩, hS.F ht⟩) hS.2.2 dX5_least_151
                  · exact absurd c_19 (by decide)
                · have fc_18 : i_85.toInt < wn.toInt := zf_nle c_18 rfl rfl
                  refine lv_iload_n hx hb dX5_least_94 rfl (lv_at hl 5 rfl) ?_
                  refine lv_if_le (tgt := 135) hx hb dX5_least_95 (by decide) (fun c_20 => ?_) (fun c_20 => ?_)
                  · exact absurd c_20 (by decide)
                  · refine lv_aload_n hx hb dX5_least_98 rfl (lv_at hl 4 rfl) ?_
                    refine lv_iload hx hb dX5_least_99 (lv_at hl 0 rfl) ?_
                    refine lv_iload_n hx hb dX5_least_101 rfl (lv_at hl 6 rfl) ?_
                    refine lv_iload_n hx hb dX5_least_102 rfl (lv_at hl 7 rfl) ?_
                    refine zc_Vq (As := [.int i_85, .int d, .int sec]) (rest := []) ⟨hx, hb, hml, hown, hts⟩ (c_F_W_mayBeAt l D cI cJ cZ cP cS po w0 wk wl wc wp (wn) (wh) (wg) fq kq aq tq (tw) (i_85) (d) (sec) hy0 hy1 hy2 hy3 hy4 hy5 hjw (by omega) (by omega) (by omega) hy12 hy13) (cwV 3 hts gX5_least_X5_mayBeAt rfl rfl rfl ⟨rfl, dh_X5_mayBeAt⟩ ⟨Nat.le_of_ble_eq_true rfl, Nat.le_of_ble_eq_true rfl⟩) hK hN (hZ.kept hS) hP (hP.sub [0, 3] rfl) (va_recv (q := (RX5, TX5, 7)) hK hP (ci := 5) (q0 := 0) rfl rfl) rfl hl.1 rfl (Nat.le_of_ble_eq_true rfl) dX5_least_103 ⟨Nat.le_of_ble_eq_true rfl, Nat.le_of_ble_eq_true rfl⟩ (fun r_21 hr_21 => ?_)
                    rcases hr_21 with ⟨rfl, hn_22⟩ | ⟨rfl, hn_24, g_23⟩ | ⟨rfl, hn_26, g_25⟩ | ⟨⟨u_28, kiu_28, au_28, tu_28, rfl, huu_28, hkku_28⟩, g_27⟩
                    · refine lv_astoreN (lv' := [(8, .null), (7, .int i_85), (6, .int v_15), (5, .int x_9), (4, .int 0), (0, .ref w0), (1, .int 1), (2, .int d), (3, .int sec)]) hx hb dX5_least_106 hl (by decide) rfl (fun ls hl => ?_)
                      refine lv_aloadN hx hb dX5_least_108 (lv_at hl 0 rfl) ?_
                      refine lv_ifnullN (tgt := 129) hx hb dX5_least_110 (by decide) ?_
                      obtain ⟨x_29, ex_29⟩ : ∃ y : Int32, y = i_85 + 1 := ⟨_, rfl⟩
                      have qx_29 : x_29.toInt = i_85.toInt + 1 := dw_inc ex_29 fc_18
                      refine lv_iinc (v := x_29) (lv' := [(7, .int x_29), (8, .null), (6, .int v_15), (5, .int x_9), (4, .int 0), (0, .ref w0), (1, .int 1), (2, .int d), (3, .int sec)]) hx hb dX5_least_129 hl (k := 1) rfl ex_29.symm (by decide) rfl (fun ls hl => ?_)
                      refine lv_goto (tgt := 85) hx hb dX5_least_132 (by decide) ?_
                      exact ih x_29 v_15 (g_14) _ _ _ (hP.sub [0, 1, 2, 3] rfl) (hD.sub [0, 1, 2, 3] (by decide) rfl) hS (lv_sub hl [0, 2, 3, 4, 5, 6, 7, 8] rfl) hbv_15 (show zKn kq aq tq wn.toInt.toNat wh.toInt (fc 0).toInt (fc 1).toInt (fc 2).toInt wg.toInt g_14 from by exact hvi_85_0) (show (v_15 : Int32).toInt = zFi tq d.toInt sec.toInt (zPw 1 * zAt (fc 1).toInt (fc 2).toInt sec.toInt) (zLv (zLn kq aq tq wn.toInt.toNat wh.toInt (fc 0).toInt (fc 1).toInt (fc 2).toInt 0) kq aq tq (fc 0).toInt (zPw 1) wh.toInt d.toInt sec.toInt) x_29.toInt.toNat from by (have hx : x_29.toInt.toNat = i_85.toInt.toNat + 1 := (by omega); have y4 := hn_22; have y9 : i_85.toNatClampNeg = i_85.toInt.toNat := rfl; rw [y9] at y4; rw [hx, zFi_n (fun z => y4 ⟨z.1, z.2, Or.inl (by omega)⟩)]; exact hvi_85_1)) (show x_29.toInt ≤ wn.toInt from by omega) (dw_lo hloi_85 qx_29) (dw_hn hni_85 qx_29)
                    · exfalso; omega
                    · refine lv_astoreN (lv' := [(8, .null), (7, .int i_85), (6, .int v_15), (5, .int x_9), (4, .int 0), (0, .ref w0), (1, .int 1), (2, .int d), (3, .int sec)]) hx hb dX5_least_106 hl (by decide) rfl (fun ls hl => ?_)
                      refine lv_aloadN hx hb dX5_least_108 (lv_at hl 0 rfl) ?_
                      refine lv_ifnullN (tgt := 129) hx hb dX5_least_110 (by decide) ?_
                      obtain ⟨x_30, ex_30⟩ : ∃ y : Int32, y = i_85 + 1 := ⟨_, rfl⟩
                      have qx_30 : x_30.toInt = i_85.toInt + 1 := dw_inc ex_30 fc_18
                      refine lv_iinc (v := x_30) (lv' := [(7, .int x_30), (8, .null), (6, .int v_15), (5, .int x_9), (4, .int 0), (0, .ref w0), (1, .int 1), (2, .int d), (3, .int sec)]) hx hb dX5_least_129 hl (k := 1) rfl ex_30.symm (by decide) rfl (fun ls hl => ?_)
                      refine lv_goto (tgt := 85) hx hb dX5_least_132 (by decide) ?_
                      exact ih x_30 v_15 (g_14) _ _ _ (hP.sub [0, 1, 2, 3] rfl) (hD.sub [0, 1, 2, 3] (by decide) rfl) hS (lv_sub hl [0, 2, 3, 4, 5, 6, 7, 8] rfl) hbv_15 (show zKn kq aq tq wn.toInt.toNat wh.toInt (fc 0).toInt (fc 1).toInt (fc 2).toInt wg.toInt g_14 from by exact hvi_85_0) (show (v_15 : Int32).toInt = zFi tq d.toInt sec.toInt (zPw 1 * zAt (fc 1).toInt (fc 2).toInt sec.toInt) (zLv (zLn kq aq tq wn.toInt.toNat wh.toInt (fc 0).toInt (fc 1).toInt (fc 2).toInt 0) kq aq tq (fc 0).toInt (zPw 1) wh.toInt d.toInt sec.toInt) x_30.toInt.toNat from by (have hx : x_30.toInt.toNat = i_85.toInt.toNat + 1 := (by omega); have y4 := hn_26; have y9 : i_85.toNatClampNeg = i_85.toInt.toNat := rfl; rw [y9] at y4; rw [hx, zFi_n (fun z => y4 ⟨z.1, z.2, Or.inl (by omega)⟩)]; exact hvi_85_1)) (show x_30.toInt ≤ wn.toInt from by omega) (dw_lo hloi_85 qx_30) (dw_hn hni_85 qx_30)
                    · refine W.eq (g2 := F0 m 106 ls (.ref u_28 :: [])) rfl ?_
                      obtain ⟨hku_28, hau_28, htu_28⟩ := zPu_pr (hZ.kept hS) huu_28
                      refine lv_astore (lv' := [(8, .ref u_28), (7, .int i_85), (6, .int v_15), (5, .int x_9), (4, .int 0), (0, .ref w0), (1, .int 1), (2, .int d), (3, .int sec)]) hx hb dX5_least_106 hl (by decide) rfl (fun ls hl => ?_)
                      refine lv_aload hx hb dX5_least_108 (lv_at hl 0 rfl) ?_
                      refine lv_ifnull hx hb dX5_least_110 ?_
                      refine lv_iload hx hb dX5_least_113 (lv_at hl 2 rfl) ?_
                      refine lv_aload_n hx hb dX5_least_115 rfl (lv_at hl 5 rfl) ?_
                      refine lv_aload hx hb dX5_least_116 (lv_at hl 0 rfl) ?_
                      refine lv_iload_n hx hb dX5_least_118 rfl (lv_at hl 6 rfl) ?_
                      refine lv_iload_n hx hb dX5_least_119 rfl (lv_at hl 7 rfl) ?_
                      refine lv_iload_n hx hb dX5_least_120 rfl (lv_at hl 8 rfl) ?_
                      have tsu_28 : tu_28.toInt ≤ sec.toInt := by (obtain ⟨⟨y1, y2, y3⟩, y4⟩ := hkku_28; have z := y4.2.1; rw [y3]; exact z)
                      skip
                      refine zw_V (As := [.ref u_28, .int 1, .int d, .int sec]) (rest := [.int v_15]) (wr := []) ⟨hx, hb, hml, hown, hts⟩ (c_F_W_leastBy_1 l D cI cJ cZ cP cS po w0 wk wl wc wp (wn) (wh) (wg) fq kq aq tq (tw) g_14 fc (d) (sec) u_28 (kiu_28) (au_28) (tu_28) huu_28 ⟨by omega, by omega, by omega, by omega⟩ hy0 hy1 hy2 hy3 hy4 hy5 hjw (by first | assumption | omega) (by first | assumption | omega) (by first | assumption | omega | decide) hy10 hy11 hy12 hy13 (by omega) hp_fc H.size) (cwV 4 hts gX5_least_X5_leastBy rfl rfl rfl ⟨rfl, dh_X5_leastBy⟩ ⟨Nat.le_of_ble_eq_true rfl, Nat.le_of_ble_eq_true rfl⟩) hK hN (hZ.kept hS) hP hD hS hA [0, 1, 2, 3] [] rfl rfl (by decide) (by decide) (by decide) (va_recv (q := (RX5, TX5, 7)) hK hP (ci := 5) (q0 := 0) rfl rfl) rfl hl.1 rfl (Nat.le_of_ble_eq_true rfl) dX5_least_121 ⟨Nat.le_of_ble_eq_true rfl, Nat.le_of_ble_eq_true rfl⟩ (fun r_31 u_32 H locs hr_31 hP hD hS => ?_)
                      obtain ⟨q_33, rfl⟩ : ∃ z, z = u_32 := ⟨_, rfl⟩
                      obtain ⟨hsr_31_0, hsr_31_1, hr_31⟩ := hr_31
                      have h9R := zRe (ws' := [(w0, .inr (5, [.ref wk, .ref wl, .ref wc, .ref wp, .int wn, .int wh, .int wg])), (wl, .inl (cI, 125, .inl q_33)), (wc, .inl (cI, 3, .inl fc)), (wp, .inl (cP, 8, .inr (.inr (.inr (.inr fq)))))]) hP hD rfl
                      clear hP hD
                      obtain ⟨hP, hD⟩ := h9R
                      obtain ⟨g_34, g_35⟩ := hr_31
                      refine va_mmin hx hb (hml.trans hl.1.symm) hown (hts (.methodLink RX5 110 Lib.Math.min.name) (List.mem_of_getElem? (i := 4) rfl)) (hts _ (List.mem_of_getElem? (i := 5) rfl)) (hts _ (List.mem_of_getElem? (i := 6) rfl)) (hts _ (List.mem_of_getElem? (i := 7) rfl)) (Nat.le_of_ble_eq_true rfl) (Nat.le_of_ble_eq_true rfl) (Nat.le_of_ble_eq_true rfl) (Nat.le_of_ble_eq_true rfl) dX5_least_124 ?_
                      refine lv_topi (fun x_36 ex_36 => ?_)
                      have qx_36 := zf_min ex_36 (x1 := v_15.toInt) (y1 := r_31.toInt) rfl rfl
                      refine lv_istore (lv' := [(6, .int x_36), (8, .ref u_28), (7, .int i_85), (5, .int x_9), (4, .int 0), (0, .ref w0), (1, .int 1), (2, .int d), (3, .int sec)]) hx hb dX5_least_127 hl (by decide) rfl (fun ls hl => ?_)
                      obtain ⟨x_37, ex_37⟩ : ∃ y : Int32, y = i_85 + 1 := ⟨_, rfl⟩
                      have qx_37 : x_37.toInt = i_85.toInt + 1 := dw_inc ex_37 fc_18
                      refine lv_iinc (v := x_37) (lv' := [(7, .int x_37), (6, .int x_36), (8, .ref u_28), (5, .int x_9), (4, .int 0), (0, .ref w0), (1, .int 1), (2, .int d), (3, .int sec)]) hx hb dX5_least_129 hl (k := 2) rfl ex_37.symm (by decide) rfl (fun ls hl => ?_)
                      refine lv_goto (tgt := 85) hx hb dX5_least_132 (by decide) ?_
                      exact ih x_37 x_36 (q_33) _ _ _ (hP.sub [0, 1, 2, 3] rfl) (hD.sub [0, 1, 2, 3] (by decide) rfl) hS (lv_sub hl [0, 1, 3, 4, 5, 6, 7, 8] rfl) ⟨by omega, by omega⟩ (show zKn kq aq tq wn.toInt.toNat wh.toInt (fc 0).toInt (fc 1).toInt (fc 2).toInt wg.toInt q_33 from by exact hsr_31_0) (show (x_36 : Int32).toInt = zFi tq d.toInt sec.toInt (zPw 1 * zAt (fc 1).toInt (fc 2).toInt sec.toInt) (zLv (zLn kq aq tq wn.toInt.toNat wh.toInt (fc 0).toInt (fc 1).toInt (fc 2).toInt 0) kq aq tq (fc 0).toInt (zPw 1) wh.toInt d.toInt sec.toInt) x_37.toInt.toNat from by (have hx : x_37.toInt.toNat = i_85.toInt.toNat + 1 := (by omega); obtain ⟨⟨y1, y2, y3⟩, y4⟩ := hkku_28; have y9 : i_85.toNatClampNeg = i_85.toInt.toNat := rfl; rw [y9] at y1 y2 y3 y4; rw [hx, zFi_y ⟨y4.1, y4.2.1⟩, ← hvi_85_1]; have zr := hsr_31_1; rw [y1, y2, y3] at zr; have zr2 : r_31.toInt = (zLv (zLn kq aq tq wn.toInt.toNat wh.toInt (fc 0).toInt (fc 1).toInt (fc 2).toInt 0) kq aq tq (fc 0).toInt (zPw 1) wh.toInt d.toInt sec.toInt) i_85.toInt.toNat := zr; omega)) (show x_37.toInt ≤ wn.toInt from by omega) (dw_lo hloi_85 qx_37) (dw_hn hni_85 qx_37)
            · exact absurd c_10 (by decide)
          · have fc_7 : x_6.toInt ≤ sec.toInt := zf_nlt c_7 rfl rfl
            refine lv_iconst (v := 1) hx hb dX5_least_35 (by decide) ?_
            refine lv_goto (tgt := 40) hx hb dX5_least_36 (by decide) ?_
            refine lv_istore (lv' := [(4, .int 1), (0, .ref w0), (1, .int 1), (2, .int d), (3, .int sec)]) hx hb dX5_least_40 hl (by decide) rfl (fun ls hl => ?_)
            refine lv_iload_n hx hb dX5_least_42 rfl (lv_at hl 2 rfl) ?_
            refine lv_bipush (v := 25) hx hb dX5_least_43 (by decide) ?_
            refine lv_imul hx hb dX5_least_45 ?_
            refine lv_topi (fun y_38 ey_38 => ?_)
            obtain rfl : y_38 = 25 := ey_38.trans (by decide)
            refine lv_iload_n hx hb dX5_least_46 rfl (lv_at hl 3 rfl) ?_
            refine lv_iadd hx hb dX5_least_47 ?_
            refine lv_topi (fun x_39 ex_39 => ?_)
            have qx_39 : x_39.toInt = 25 + d.toInt := by rw [ex_39]; exact zf_add (by decide) rfl (by omega) (by omega)
            refine lv_istore (lv' := [(5, .int x_39), (4, .int 1), (0, .ref w0), (1, .int 1), (2, .int d), (3, .int sec)]) hx hb dX5_least_48 hl (by decide) rfl (fun ls hl => ?_)
            refine lv_iload hx hb dX5_least_50 (lv_at hl 1 rfl) ?_
            refine lv_if_eq (tgt := 74) hx hb dX5_least_52 (by decide) (fun c_40 => ?_) (fun c_40 => ?_)
            · exact absurd c_40 (by decide)
            · refine lv_aload_n hx hb dX5_least_55 rfl (lv_at hl 2 rfl) ?_
              refine va_get (D := D) (ci := 5) (v := .ref wl) (C := RX5) (T := TX5) (N := 7) hx hb hts hi_X5_least_5 hown hK hP 0 rfl rfl 1 (by decide) (hts (.fieldLink RX5 15 "TheLiningsInIt$Ways" "knownLeast" "[I") (List.mem_of_getElem? (i := 2) rfl)) (fun _ h9 => h9) rfl dX5_least_56 ?_
              refine lv_iload hx hb dX5_least_59 (lv_at hl 0 rfl) ?_
              refine va_iald hx hb hK hP 1 0 rfl rfl (zf_in (by omega) (by omega)) dX5_least_61 ?_
              refine lv_topi (fun x_41 ex_41 => ?_)
              refine lv_iconst (v := (-1)) hx hb dX5_least_62 (by decide) ?_
              refine lv_icmp_eq (tgt := 74) hx hb dX5_least_63 (by decide) (fun c_42 => ?_) (fun c_42 => ?_)
              · have fc_42 : x_41.toInt = (-1) := zf_eq c_42 rfl (by decide)
                refine lv_aload_n hx hb dX5_least_74 rfl (lv_at hl 2 rfl) ?_
                refine lv_iload_n hx hb dX5_least_75 rfl (lv_at hl 3 rfl) ?_
                refine lv_iload_n hx hb dX5_least_76 rfl (lv_at hl 5 rfl) ?_
                refine zc_V (As := [.int 1, .int sec]) (rest := []) ⟨hx, hb, hml, hown, hts⟩ (c_F_W_leastAtOnce_1 l D cI cJ cZ cP cS po w0 wk wl wc wp (wn) (wh) (wg) fc (sec) hy0 hy1 hy2 hy3 hy4 hy5 hy12 hy13 hp_fc) (cwV 2 hts gX5_least_X5_leastAtOnce rfl rfl rfl ⟨rfl, dh_X5_leastAtOnce⟩ ⟨Nat.le_of_ble_eq_true rfl, Nat.le_of_ble_eq_true rfl⟩) hK hN (hZ.kept hS) hP (hP.sub [0, 2] rfl) (va_recv (q := (RX5, TX5, 7)) hK hP (ci := 5) (q0 := 0) rfl rfl) rfl hl.1 rfl (Nat.le_of_ble_eq_true rfl) dX5_least_77 ⟨Nat.le_of_ble_eq_true rfl, Nat.le_of_ble_eq_true rfl⟩ (fun r_43 hr_43 => ?_)
                obtain ⟨g_44, g_45, hsr_43_0⟩ := hr_43
                refine lv_istore (lv' := [(6, .int r_43), (5, .int x_39), (4, .int 1), (0, .ref w0), (1, .int 1), (2, .int d), (3, .int sec)]) hx hb dX5_least_80 hl (by decide) rfl (fun ls hl => ?_)
                refine lv_iconst (v := 0) hx hb dX5_least_82 (by decide) ?_
                refine lv_istore (lv' := [(7, .int 0), (6, .int r_43), (5, .int x_39), (4, .int 1), (0, .ref w0), (1, .int 1), (2, .int d), (3, .int sec)]) hx hb dX5_least_83 hl (by decide) rfl (fun ls hl => ?_)
                obtain ⟨i_85, hi_85⟩ : ∃ i : Int32, i = 0 := ⟨_, rfl⟩
                replace hl : lv_has ls 9 [(7, .int i_85), (6, .int r_43), (5, .int x_39), (4, .int 1), (0, .ref w0), (1, .int 1), (2, .int d), (3, .int sec)] := by rw [hi_85]; exact lv_sub hl [0, 1, 2, 3, 4, 5, 6, 7] rfl
                have h1i_85 : i_85.toInt = 0 := by rw [hi_85]; decide
                obtain ⟨nfu, hni_85⟩ : ∃ nq9 : Nat, wn.toInt ≤ i_85.toInt + (nq9 : Int) := ⟨((wn.toInt : Int) - 0).toNat, by omega⟩
                have hloi_85 : 0 ≤ i_85.toInt := by omega
                obtain ⟨g_46, hg_46⟩ : ∃ g : Nat → Int32, g = fl := ⟨_, rfl⟩
                replace hP : va_P D vwCl [(w0, .inr (5, [.ref wk, .ref wl, .ref wc, .ref wp, .int wn, .int wh, .int wg])), (wl, .inl (cI, 125, .inl g_46)), (wc, .inl (cI, 3, .inl fc)), (wp, .inl (cP, 8, .inr (.inr (.inr (.inr fq)))))] H := by rw [hg_46]; exact hP
                replace hD : va_D (va_A [(w0, .inr (5, [.ref wk, .ref wl, .ref wc, .ref wp, .int wn, .int wh, .int wg])), (wl, .inl (cI, 125, .inl fl)), (wc, .inl (cI, 3, .inl fc)), (wp, .inl (cP, 8, .inr (.inr (.inr (.inr fq)))))] s.heap.size) [(w0, .inr (5, [.ref wk, .ref wl, .ref wc, .ref wp, .int wn, .int wh, .int wg])), (wl, .inl (cI, 125, .inl g_46)), (wc, .inl (cI, 3, .inl fc)), (wp, .inl (cP, 8, .inr (.inr (.inr (.inr fq)))))] := by rw [hg_46]; exact hD
                obtain ⟨v_47, hv_47⟩ : ∃ g : Int32, g = r_43 := ⟨_, rfl⟩
                replace hl : lv_has ls 9 [(7, .int i_85), (6, .int v_47), (5, .int x_39), (4, .int 1), (0, .ref w0), (1, .int 1), (2, .int d), (3, .int sec)] := by rw [hv_47]; exact hl
                have hbv_47 : 0 ≤ v_47.toInt ∧ v_47.toInt ≤ 1188 := by rw [hv_47]; exact ⟨by omega, by omega⟩
                have hvi_85_0 : zKn kq aq tq wn.toInt.toNat wh.toInt (fc 0).toInt (fc 1).toInt (fc 2).toInt wg.toInt g_46 := by
                  (try rw [hi_85]); (try rw [hg_46]); (try rw [hv_47]); exact hkn
                have hvi_85_1 : (v_47 : Int32).toInt = zFi tq d.toInt sec.toInt (zPw 1 * zAt (fc 1).toInt (fc 2).toInt sec.toInt) (zLv (zLn kq aq tq wn.toInt.toNat wh.toInt (fc 0).toInt (fc 1).toInt (fc 2).toInt 0) kq aq tq (fc 0).toInt (zPw 1) wh.toInt d.toInt sec.toInt) i_85.toInt.toNat := by
                  (try rw [hi_85]); (try rw [hg_46]); (try rw [hv_47]); (rw [(show ((0 : Int32).toInt.toNat) = 0 from by decide)]; exact hsr_43_0)
                have hvi_85_2 : i_85.toInt ≤ wn.toInt := by
                  (try rw [hi_85]); (try rw [hg_46]); (try rw [hv_47]); (have k0 : (0 : Int32).toInt = 0 := (by decide); omega)
                clear h1i_85 hi_85 hg_46 hv_47
                skip
                revert hni_85
                revert hloi_85
                revert hvi_85_2
                revert hvi_85_1
                revert hvi_85_0
                revert hbv_47
                revert hl
                revert hS
                revert hD
                revert hP
                revert ls
                revert locs
                revert H
                revert g_46
                revert v_47
                revert i_85
                induction nfu with
                | zero =>
                  intro i_85 v_47 g_46 H locs ls hP hD hS hl hbv_47 hvi_85_0 hvi_85_1 hvi_85_2 hloi_85 hni_85
                  have hzi_85 : wn.toInt ≤ i_85.toInt := by omega
                  refine lv_iload hx hb dX5_least_85 (lv_at hl 0 rfl) ?_
                  refine lv_aload_n hx hb dX5_least_87 rfl (lv_at hl 4 rfl) ?_
                  refine va_get (D := D) (ci := 5) (v := .int wn) (C := RX5) (T := TX5) (N := 7) hx hb hts hi_X5_least_5 hown hK hP 0 rfl rfl 4 (by decide) (hts (.fieldLink RX5 27 "TheLiningsInIt$Ways" "count" "I") (List.mem_of_getElem? (i := 3) rfl)) (fun _ h9 => h9) rfl dX5_least_88 ?_
                  refine lv_icmp_ge (tgt := 135) hx hb dX5_least_91 (by decide) (fun c_48 => ?_) (fun c_48 => ?_)
                  · have fc_48 : wn.toInt ≤ i_85.toInt := zf_le c_48 rfl rfl
                    refine lv_iload hx hb dX5_least_135 (lv_at hl 3 rfl) ?_
                    refine lv_if_eq (tgt := 149) hx hb dX5_least_137 (by decide) (fun c_49 => ?_) (fun c_49 => ?_)
                    · exact absurd c_49 (by decide)
                    · refine lv_aload_n hx hb dX5_least_140 rfl (lv_at hl 4 rfl) ?_
                      refine va_get (D := D) (ci := 5) (v := .ref wl) (C := RX5) (T := TX5) (N := 7) hx hb hts hi_X5_least_5 hown hK hP 0 rfl rfl 1 (by decide) (hts (.fieldLink RX5 15 "TheLiningsInIt$Ways" "knownLeast" "[I") (List.mem_of_getElem? (i := 2) rfl)) (fun _ h9 => h9) rfl dX5_least_141 ?_
                      refine lv_iload hx hb dX5_least_144 (lv_at hl 2 rfl) ?_
                      refine lv_iload hx hb dX5_least_146 (lv_at hl 1 rfl) ?_
                      refine va_iast hx hb hK hP hD hS 1 0 rfl rfl (zf_in (by omega) (by omega)) dX5_least_148 (fun H locs hP hD hS => ?_)
                      obtain ⟨g_50, hg_50⟩ : ∃ g : Nat → Int32, g = upd g_46 x_39.toNatClampNeg v_47 := ⟨_, rfl⟩
                      rw [← hg_50] at hP hD
                      have h9R := zRe (ws' := [(w0, .inr (5, [.ref wk, .ref wl, .ref wc, .ref wp, .int wn, .int wh, .int wg])), (wl, .inl (cI, 125, .inl g_50)), (wc, .inl (cI, 3, .inl fc)), (wp, .inl (cP, 8, .inr (.inr (.inr (.inr fq)))))]) hP hD rfl
                      clear hP hD
                      obtain ⟨hP, hD⟩ := h9R
                      refine lv_iload hx hb dX5_least_149 (lv_at hl 1 rfl) ?_
                      exact W.iret (v := v_47) hx hb hr (fun t ht hW => ⟨⟨v_47, g_50, rfl, ⟨(show zKn kq aq tq wn.toInt.toNat wh.toInt (fc 0).toInt (fc 1).toInt (fc 2).toInt wg.toInt g_50 from by (rw [hg_50]; exact zKn_u (m := 1) (d := d) (s := sec) hvi_85_0 (by omega) hgl (by omega) ⟨by omega, by omega⟩ (by omega) (by have h9 : i_85.toInt.toNat = wn.toInt.toNat := (by omega); have z := hvi_85_1; rw [h9] at z; rw [zLn_s, if_neg (by omega)]; exact z))), (show (v_47 : Int32).toInt = (zLn kq aq tq wn.toInt.toNat wh.toInt (fc 0).toInt (fc 1).toInt (fc 2).toInt 1) d.toInt sec.toInt from by (have h9 : i_85.toInt.toNat = wn.toInt.toNat := (by omega); have z := hvi_85_1; rw [h9] at z; rw [zLn_s, if_neg (by omega)]; exact z)), ⟨by omega, by omega⟩⟩, zRet ht hP hD [0, 1, 2, 3] (by decide) rfl⟩, hS.F ht⟩) hS.2.2 dX5_least_151
                  · exfalso; have fc_48 : i_85.toInt < wn.toInt := zf_nle c_48 rfl rfl; omega
                | succ nfu ih =>
                  intro i_85 v_47 g_46 H locs ls hP hD hS hl hbv_47 hvi_85_0 hvi_85_1 hvi_85_2 hloi_85 hni_85
                  refine lv_iload hx hb dX5_least_85 (lv_at hl 0 rfl) ?_
                  refine lv_aload_n hx hb dX5_least_87 rfl (lv_at hl 4 rfl) ?_
                  refine va_get (D := D) (ci := 5) (v := .int wn) (C := RX5) (T := TX5) (N := 7) hx hb hts hi_X5_least_5 hown hK hP 0 rfl rfl 4 (by decide) (hts (.fieldLink RX5 27 "TheLiningsInIt$Ways" "count" "I") (List.mem_of_getElem? (i := 3) rfl)) (fun _ h9 => h9) rfl dX5_least_88 ?_
                  refine lv_icmp_ge (tgt := 135) hx hb dX5_least_91 (by decide) (fun c_51 => ?_) (fun c_51 => ?_)
                  · have fc_51 : wn.toInt ≤ i_85.toInt := zf_le c_51 rfl rfl
                    refine lv_iload hx hb dX5_least_135 (lv_at hl 3 rfl) ?_
                    refine lv_if_eq (tgt := 149) hx hb dX5_least_137 (by decide) (fun c_52 => ?_) (fun c_52 => ?_)
                    · exact absurd c_52 (by decide)
                    · refine lv_aload_n hx hb dX5_least_140 rfl (lv_at hl 4 rfl) ?_
                      refine va_get (D := D) (ci := 5) (v := .ref wl) (C := RX5) (T := TX5) (N := 7) hx hb hts hi_X5_least_5 hown hK hP 0 rfl rfl 1 (by decide) (hts (.fieldLink RX5 15 "TheLiningsInIt$Ways" "knownLeast" "[I") (List.mem_of_getElem? (i := 2) rfl)) (fun _ h9 => h9) rfl dX5_least_141 ?_
                      refine lv_iload hx hb dX5_least_144 (lv_at hl 2 rfl) ?_
                      refine lv_iload hx hb dX5_least_146 (lv_at hl 1 rfl) ?_
                      refine va_iast hx hb hK hP hD hS 1 0 rfl rfl (zf_in (by omega) (by omega)) dX5_least_148 (fun H locs hP hD hS => ?_)
                      obtain ⟨g_53, hg_53⟩ : ∃ g : Nat → Int32, g = upd g_46 x_39.toNatClampNeg v_47 := ⟨_, rfl⟩
                      rw [← hg_53] at hP hD
                      have h9R := zRe (ws' := [(w0, .inr (5, [.ref wk, .ref wl, .ref wc, .ref wp, .int wn, .int wh, .int wg])), (wl, .inl (cI, 125, .inl g_53)), (wc, .inl (cI, 3, .inl fc)), (wp, .inl (cP, 8, .inr (.inr (.inr (.inr fq)))))]) hP hD rfl
                      clear hP hD
                      obtain ⟨hP, hD⟩ := h9R
                      refine lv_iload hx hb dX5_least_149 (lv_at hl 1 rfl) ?_
                      exact W.iret (v := v_47) hx hb hr (fun t ht hW => ⟨⟨v_47, g_53, rfl, ⟨(show zKn kq aq tq wn.toInt.toNat wh.toInt (fc 0).toInt (fc 1).toInt (fc 2).toInt wg.toInt g_53 from by (rw [hg_53]; exact zKn_u (m := 1) (d := d) (s := sec) hvi_85_0 (by omega) hgl (by omega) ⟨by omega, by omega⟩ (by omega) (by have h9 : i_85.toInt.toNat = wn.toInt.toNat := (by omega); have z := hvi_85_1; rw [h9] at z; rw [zLn_s, if_neg (by omega)]; exact z))), (show (v_47 : Int32).toInt = (zLn kq aq tq wn.toInt.toNat wh.toInt (fc 0).toInt (fc 1).toInt (fc 2).toInt 1) d.toInt sec.toInt from by (have h9 : i_85.toInt.toNat = wn.toInt.toNat := (by omega); have z := hvi_85_1; rw [h9] at z; rw [zLn_s, if_neg (by omega)]; exact z)), ⟨by omega, by omega⟩⟩, zRet ht hP hD [0, 1, 2, 3] (by decide) rfl⟩, hS.F ht⟩) hS.2.2 dX5_least_151
                  · have fc_51 : i_85.toInt < wn.toInt := zf_nle c_51 rfl rfl
                    refine lv_iload_n hx hb dX5_least_94 rfl (lv_at hl 5 rfl) ?_
                    refine lv_if_le (tgt := 135) hx hb dX5_least_95 (by decide) (fun c_54 => ?_) (fun c_54 => ?_)
                    · exact absurd c_54 (by decide)
                    · refine lv_aload_n hx hb dX5_least_98 rfl (lv_at hl 4 rfl) ?_
                      refine lv_iload hx hb dX5_least_99 (lv_at hl 0 rfl) ?_
                      refine lv_iload_n hx hb dX5_least_101 rfl (lv_at hl 6 rfl) ?_
                      refine lv_iload_n hx hb dX5_least_102 rfl (lv_at hl 7 rfl) ?_
                      refine zc_Vq (As := [.int i_85, .int d, .int sec]) (rest := []) ⟨hx, hb, hml, hown, hts⟩ (c_F_W_mayBeAt l D cI cJ cZ cP cS po w0 wk wl wc wp (wn) (wh) (wg) fq kq aq tq (tw) (i_85) (d) (sec) hy0 hy1 hy2 hy3 hy4 hy5 hjw (by omega) (by omega) (by omega) hy12 hy13) (cwV 3 hts gX5_least_X5_mayBeAt rfl rfl rfl ⟨rfl, dh_X5_mayBeAt⟩ ⟨Nat.le_of_ble_eq_true rfl, Nat.le_of_ble_eq_true rfl⟩) hK hN (hZ.kept hS) hP (hP.sub [0, 3] rfl) (va_recv (q := (RX5, TX5, 7)) hK hP (ci := 5) (q0 := 0) rfl rfl) rfl hl.1 rfl (Nat.le_of_ble_eq_true rfl) dX5_least_103 ⟨Nat.le_of_ble_eq_true rfl, Nat.le_of_ble_eq_true rfl⟩ (fun r_55 hr_55 => ?_)
                      rcases hr_55 with ⟨rfl, hn_56⟩ | ⟨rfl, hn_58, g_57⟩ | ⟨rfl, hn_60, g_59⟩ | ⟨⟨u_62, kiu_62, au_62, tu_62, rfl, huu_62, hkku_62⟩, g_61⟩
                      · refine lv_astoreN (lv' := [(8, .null), (7, .int i_85), (6, .int v_47), (5, .int x_39), (4, .int 1), (0, .ref w0), (1, .int 1), (2, .int d), (3, .int sec)]) hx hb dX5_least_106 hl (by decide) rfl (fun ls hl => ?_)
                        refine lv_aloadN hx hb dX5_least_108 (lv_at hl 0 rfl) ?_
                        refine lv_ifnullN (tgt := 129) hx hb dX5_least_110 (by decide) ?_
                        obtain ⟨x_63, ex_63⟩ : ∃ y : Int32, y = i_85 + 1 := ⟨_, rfl⟩
                        have qx_63 : x_63.toInt = i_85.toInt + 1 := dw_inc ex_63 fc_51
                        refine lv_iinc (v := x_63) (lv' := [(7, .int x_63), (8, .null), (6, .int v_47), (5, .int x_39), (4, .int 1), (0, .ref w0), (1, .int 1), (2, .int d), (3, .int sec)]) hx hb dX5_least_129 hl (k := 1) rfl ex_63.symm (by decide) rfl (fun ls hl => ?_)
                        refine lv_goto (tgt := 85) hx hb dX5_least_132 (by decide) ?_
                        exact ih x_63 v_47 (g_46) _ _ _ (hP.sub [0, 1, 2, 3] rfl) (hD.sub [0, 1, 2, 3] (by decide) rfl) hS (lv_sub hl [0, 2, 3, 4, 5, 6, 7, 8] rfl) hbv_47 (show zKn kq aq tq wn.toInt.toNat wh.toInt (fc 0).toInt (fc 1).toInt (fc 2).toInt wg.toInt g_46 from by exact hvi_85_0) (show (v_47 : Int32).toInt = zFi tq d.toInt sec.toInt (zPw 1 * zAt (fc 1).toInt (fc 2).toInt sec.toInt) (zLv (zLn kq aq tq wn.toInt.toNat wh.toInt (fc 0).toInt (fc 1).toInt (fc 2).toInt 0) kq aq tq (fc 0).toInt (zPw 1) wh.toInt d.toInt sec.toInt) x_63.toInt.toNat from by (have hx : x_63.toInt.toNat = i_85.toInt.toNat + 1 := (by omega); have y4 := hn_56; have y9 : i_85.toNatClampNeg = i_85.toInt.toNat := rfl; rw [y9] at y4; rw [hx, zFi_n (fun z => y4 ⟨z.1, z.2, Or.inl (by omega)⟩)]; exact hvi_85_1)) (show x_63.toInt ≤ wn.toInt from by omega) (dw_lo hloi_85 qx_63) (dw_hn hni_85 qx_63)
                      · exfalso; omega
                      · refine lv_astoreN (lv' := [(8, .null), (7, .int i_85), (6, .int v_47), (5, .int x_39), (4, .int 1), (0, .ref w0), (1, .int 1), (2, .int d), (3, .int sec)]) hx hb dX5_least_106 hl (by decide) rfl (fun ls hl => ?_)
                        refine lv_aloadN hx hb dX5_least_108 (lv_at hl 0 rfl) ?_
                        refine lv_ifnullN (tgt := 129) hx hb dX5_least_110 (by decide) ?_
                        obtain ⟨x_64, ex_64⟩ : ∃ y : Int32, y = i_85 + 1 := ⟨_, rfl⟩
                        have qx_64 : x_64.toInt = i_85.toInt + 1 := dw_inc ex_64 fc_51
                        refine lv_iinc (v := x_64) (lv' := [(7, .int x_64), (8, .null), (6, .int v_47), (5, .int x_39), (4, .int 1), (0, .ref w0), (1, .int 1), (2, .int d), (3, .int sec)]) hx hb dX5_least_129 hl (k := 1) rfl ex_64.symm (by decide) rfl (fun ls hl => ?_)
                        refine lv_goto (tgt := 85) hx hb dX5_least_132 (by decide) ?_
                        exact ih x_64 v_47 (g_46) _ _ _ (hP.sub [0, 1, 2, 3] rfl) (hD.sub [0, 1, 2, 3] (by decide) rfl) hS (lv_sub hl [0, 2, 3, 4, 5, 6, 7, 8] rfl) hbv_47 (show zKn kq aq tq wn.toInt.toNat wh.toInt (fc 0).toInt (fc 1).toInt (fc 2).toInt wg.toInt g_46 from by exact hvi_85_0) (show (v_47 : Int32).toInt = zFi tq d.toInt sec.toInt (zPw 1 * zAt (fc 1).toInt (fc 2).toInt sec.toInt) (zLv (zLn kq aq tq wn.toInt.toNat wh.toInt (fc 0).toInt (fc 1).toInt (fc 2).toInt 0) kq aq tq (fc 0).toInt (zPw 1) wh.toInt d.toInt sec.toInt) x_64.toInt.toNat from by (have hx : x_64.toInt.toNat = i_85.toInt.toNat + 1 := (by omega); have y4 := hn_60; have y9 : i_85.toNatClampNeg = i_85.toInt.toNat := rfl; rw [y9] at y4; rw [hx, zFi_n (fun z => y4 ⟨z.1, z.2, Or.inl (by omega)⟩)]; exact hvi_85_1)) (show x_64.toInt ≤ wn.toInt from by omega) (dw_lo hloi_85 qx_64) (dw_hn hni_85 qx_64)
                      · refine W.eq (g2 := F0 m 106 ls (.ref u_62 :: [])) rfl ?_
                        obtain ⟨hku_62, hau_62, htu_62⟩ := zPu_pr (hZ.kept hS) huu_62
                        refine lv_astore (lv' := [(8, .ref u_62), (7, .int i_85), (6, .int v_47), (5, .int x_39), (4, .int 1), (0, .ref w0), (1, .int 1), (2, .int d), (3, .int sec)]) hx hb dX5_least_106 hl (by decide) rfl (fun ls hl => ?_)
                        refine lv_aload hx hb dX5_least_108 (lv_at hl 0 rfl) ?_
                        refine lv_ifnull hx hb dX5_least_110 ?_
                        refine lv_iload hx hb dX5_least_113 (lv_at hl 2 rfl) ?_
                        refine lv_aload_n hx hb dX5_least_115 rfl (lv_at hl 5 rfl) ?_
                        refine lv_aload hx hb dX5_least_116 (lv_at hl 0 rfl) ?_
                        refine lv_iload_n hx hb dX5_least_118 rfl (lv_at hl 6 rfl) ?_
                        refine lv_iload_n hx hb dX5_least_119 rfl (lv_at hl 7 rfl) ?_
                        refine lv_iload_n hx hb dX5_least_120 rfl (lv_at hl 8 rfl) ?_
                        have tsu_62 : tu_62.toInt ≤ sec.toInt := by (obtain ⟨⟨y1, y2, y3⟩, y4⟩ := hkku_62; have z := y4.2.1; rw [y3]; exact z)
                        skip
                        refine zw_V (As := [.ref u_62, .int 1, .int d, .int sec]) (rest := [.int v_47]) (wr := []) ⟨hx, hb, hml, hown, hts⟩ (c_F_W_leastBy_1 l D cI cJ cZ cP cS po w0 wk wl wc wp (wn) (wh) (wg) fq kq aq tq (tw) g_46 fc (d) (sec) u_62 (kiu_62) (au_62) (tu_62) huu_62 ⟨by omega, by omega, by omega, by omega⟩ hy0 hy1 hy2 hy3 hy4 hy5 hjw (by first | assumption | omega) (by first | assumption | omega) (by first | assumption | omega | decide) hy10 hy11 hy12 hy13 (by omega) hp_fc H.size) (cwV 4 hts gX5_least_X5_leastBy rfl rfl rfl ⟨rfl, dh_X5_leastBy⟩ ⟨Nat.le_of_ble_eq_true rfl, Nat.le_of_ble_eq_true rfl⟩) hK hN (hZ.kept hS) hP hD hS hA [0, 1, 2, 3] [] rfl rfl (by decide) (by decide) (by decide) (va_recv (q := (RX5, TX5, 7)) hK hP (ci := 5) (q0 := 0) rfl rfl) rfl hl.1 rfl (Nat.le_of_ble_eq_true rfl) dX5_least_121 ⟨Nat.le_of_ble_eq_true rfl, Nat.le_of_ble_eq_true rfl⟩ (fun r_65 u_66 H locs hr_65 hP hD hS => ?_)
                        obtain ⟨q_67, rfl⟩ : ∃ z, z = u_66 := ⟨_, rfl⟩
                        obtain ⟨hsr_65_0, hsr_65_1, hr_65⟩ := hr_65
                        have h9R := zRe (ws' := [(w0, .inr (5, [.ref wk, .ref wl, .ref wc, .ref wp, .int wn, .int wh, .int wg])), (wl, .inl (cI, 125, .inl q_67)), (wc, .inl (cI, 3, .inl fc)), (wp, .inl (cP, 8, .inr (.inr (.inr (.inr fq)))))]) hP hD rfl
                        clear hP hD
                        obtain ⟨hP, hD⟩ := h9R
                        obtain ⟨g_68, g_69⟩ := hr_65
                        refine va_mmin hx hb (hml.trans hl.1.symm) hown (hts (.methodLink RX5 110 Lib.Math.min.name) (List.mem_of_getElem? (i := 4) rfl)) (hts _ (List.mem_of_getElem? (i := 5) rfl)) (hts _ (List.mem_of_getElem? (i := 6) rfl)) (hts _ (List.mem_of_getElem? (i := 7) rfl)) (Nat.le_of_ble_eq_true rfl) (Nat.le_of_ble_eq_true rfl) (Nat.le_of_ble_eq_true rfl) (Nat.le_of_ble_eq_true rfl) dX5_least_124 ?_
                        refine lv_topi (fun x_70 ex_70 => ?_)
                        have qx_70 := zf_min ex_70 (x1 := v_47.toInt) (y1 := r_65.toInt) rfl rfl
                        refine lv_istore (lv' := [(6, .int x_70), (8, .ref u_62), (7, .int i_85), (5, .int x_39), (4, .int 1), (0, .ref w0), (1, .int 1), (2, .int d), (3, .int sec)]) hx hb dX5_least_127 hl (by decide) rfl (fun ls hl => ?_)
                        obtain ⟨x_71, ex_71⟩ : ∃ y : Int32, y = i_85 + 1 := ⟨_, rfl⟩
                        have qx_71 : x_71.toInt = i_85.toInt + 1 := dw_inc ex_71 fc_51
                        refine lv_iinc (v := x_71) (lv' := [(7, .int x_71), (6, .int x_70), (8, .ref u_62), (5, .int x_39), (4, .int 1), (0, .ref w0), (1, .int 1), (2, .int d), (3, .int sec)]) hx hb dX5_least_129 hl (k := 2) rfl ex_71.symm (by decide) rfl (fun ls hl => ?_)
                        refine lv_goto (tgt := 85) hx hb dX5_least_132 (by decide) ?_
                        exact ih x_71 x_70 (q_67) _ _ _ (hP.sub [0, 1, 2, 3] rfl) (hD.sub [0, 1, 2, 3] (by decide) rfl) hS (lv_sub hl [0, 1, 3, 4, 5, 6, 7, 8] rfl) ⟨by omega, by omega⟩ (show zKn kq aq tq wn.toInt.toNat wh.toInt (fc 0).toInt (fc 1).toInt (fc 2).toInt wg.toInt q_67 from by exact hsr_65_0) (show (x_70 : Int32).toInt = zFi tq d.toInt sec.toInt (zPw 1 * zAt (fc 1).toInt (fc 2).toInt sec.toInt) (zLv (zLn kq aq tq wn.toInt.toNat wh.toInt (fc 0).toInt (fc 1).toInt (fc 2).toInt 0) kq aq tq (fc 0).toInt (zPw 1) wh.toInt d.toInt sec.toInt) x_71.toInt.toNat from by (have hx : x_71.toInt.toNat = i_85.toInt.toNat + 1 := (by omega); obtain ⟨⟨y1, y2, y3⟩, y4⟩ := hkku_62; have y9 : i_85.toNatClampNeg = i_85.toInt.toNat := rfl; rw [y9] at y1 y2 y3 y4; rw [hx, zFi_y ⟨y4.1, y4.2.1⟩, ← hvi_85_1]; have zr := hsr_65_1; rw [y1, y2, y3] at zr; have zr2 : r_65.toInt = (zLv (zLn kq aq tq wn.toInt.toNat wh.toInt (fc 0).toInt (fc 1).toInt (fc 2).toInt 0) kq aq tq (fc 0).toInt (zPw 1) wh.toInt d.toInt sec.toInt) i_85.toInt.toNat := zr; omega)) (show x_71.toInt ≤ wn.toInt from by omega) (dw_lo hloi_85 qx_71) (dw_hn hni_85 qx_71)
              · have fc_42 : x_41.toInt ≠ (-1) := zf_ne c_42 rfl (by decide)
                refine lv_aload_n hx hb dX5_least_66 rfl (lv_at hl 2 rfl) ?_
                refine va_get (D := D) (ci := 5) (v := .ref wl) (C := RX5) (T := TX5) (N := 7) hx hb hts hi_X5_least_5 hown hK hP 0 rfl rfl 1 (by decide) (hts (.fieldLink RX5 15 "TheLiningsInIt$Ways" "knownLeast" "[I") (List.mem_of_getElem? (i := 2) rfl)) (fun _ h9 => h9) rfl dX5_least_67 ?_
                refine lv_iload hx hb dX5_least_70 (lv_at hl 0 rfl) ?_
                refine va_iald hx hb hK hP 1 0 rfl rfl (zf_in (by omega) (by omega)) dX5_least_72 ?_
                refine lv_topi (fun y_72 ey_72 => ?_)
                obtain rfl : x_41 = y_72 := ex_41.trans ey_72.symm
                have hmx_41 : x_41.toInt = (zLn kq aq tq wn.toInt.toNat wh.toInt (fc 0).toInt (fc 1).toInt (fc 2).toInt 1) d.toInt sec.toInt := by (have zn : (fl x_39.toNatClampNeg).toInt ≠ -1 := (by rw [← ex_41]; omega); rw [ex_41]; exact zKn_at (m := 1) hkn (by decide) (by omega) ⟨by omega, by omega⟩ (by omega) zn)
                have hrx_41 := zLn_rg (K := kq) (A := aq) (T := tq) (N := wn.toInt.toNat) (h := wh.toInt) (hp_fc 0) (hp_fc 1) (hp_fc 2) 1 d.toInt sec.toInt
                rw [← hmx_41, show zPw 1 = 12 from by decide] at hrx_41
                exact W.iret (v := x_41) hx hb hr (fun t ht hW => ⟨⟨x_41, fl, rfl, ⟨(show zKn kq aq tq wn.toInt.toNat wh.toInt (fc 0).toInt (fc 1).toInt (fc 2).toInt wg.toInt fl from by exact hkn), (show (x_41 : Int32).toInt = (zLn kq aq tq wn.toInt.toNat wh.toInt (fc 0).toInt (fc 1).toInt (fc 2).toInt 1) d.toInt sec.toInt from by exact hmx_41), ⟨by omega, by omega⟩⟩, zRet ht hP hD [0, 1, 2, 3] (by decide) rfl⟩, hS.F ht⟩) hS.2.2 dX5_least_73
        · exfalso; have fc_4 : 24 < d.toInt := zf_nle c_4 rfl (by decide); omega
set_option maxHeartbeats 4000000 in
set_option maxRecDepth 100000 in
theorem c_F_W_leastBy_2 (l : Launch) (D : va_G) (cI cJ cZ cP cS : ClassId) (po : zPool) (w0 wk wl wc wp : Nat) (wn wh wg : Int32) (fq : Nat → Option Nat) (kq aq tq : Nat → Int32) (tw : Int32) (fl fc : Nat → Int32) (d sec : Int32) (u0 : Nat) (ki a_ ta : Int32) (hu_u0 : zPu po u0 ki a_ ta) (hr_u0 : zPr ki a_ ta) (hy2 : 0 ≤ wn.toInt) (hy3 : wn.toInt ≤ 8) (hy4 : 0 ≤ wh.toInt) (hy5 : wh.toInt ≤ 9) (hy6 : 0 ≤ wg.toInt) (hy7 : wg.toInt ≤ 60) (hjw : zJW po fq wn kq aq tq tw) (hkn : zKn kq aq tq wn.toInt.toNat wh.toInt (fc 0).toInt (fc 1).toInt (fc 2).toInt wg.toInt fl) (hgl : (∀ p : Nat, p < wn.toInt.toNat → (tq p).toInt ≤ wg.toInt)) (htw : tw.toInt = 1) (hy12 : 0 ≤ d.toInt) (hy13 : d.toInt ≤ 24) (hy14 : 0 ≤ sec.toInt) (hy15 : sec.toInt ≤ 300) (hy16 : ta.toInt ≤ sec.toInt) (hp_fc : zRg fc (0) 99) (hpz : Nat) : Met l yX5_leastBy wsX5_leastBy ({ frames := 5, cells := 0, slots := 0, locals := 126 }) (va_Pc [.ref w0, .ref u0, .int 2, .int d, .int sec] (zW D (zKT cI cJ cZ cP cS) po [(w0, .inr (5, [.ref wk, .ref wl, .ref wc, .ref wp, .int wn, .int wh, .int wg])), (wl, .inl (cI, 125, .inl fl)), (wc, .inl (cI, 3, .inl fc)), (wp, .inl (cP, 8, .inr (.inr (.inr (.inr fq)))))] hpz)) (va_Qi (fun (r : Int32) (fl2 : (Nat → Int32)) => (zKn kq aq tq wn.toInt.toNat wh.toInt (fc 0).toInt (fc 1).toInt (fc 2).toInt wg.toInt fl2) ∧ (r.toInt = zLb (zLn kq aq tq wn.toInt.toNat wh.toInt (fc 0).toInt (fc 1).toInt (fc 2).toInt 1) (fc 0).toInt (zPw 2) ki.toInt a_.toInt ta.toInt wh.toInt d.toInt sec.toInt) ∧ (0 ≤ r.toInt ∧ r.toInt ≤ 28512)) (zB D [(w0, .inr (5, [.ref wk, .ref wl, .ref wc, .ref wp, .int wn, .int wh, .int wg])), (wl, .inl (cI, 125, .inl fl)), (wc, .inl (cI, 3, .inl fc)), (wp, .inl (cP, 8, .inr (.inr (.inr (.inr fq)))))] hpz (fun (fl2 : Nat → Int32) => [(w0, .inr (5, [.ref wk, .ref wl, .ref wc, .ref wp, .int wn, .int wh, .int wg])), (wl, .inl (cI, 125, .inl fl2)), (wc, .inl (cI, 3, .inl fc)), (wp, .inl (cP, 8, .inr (.inr (.inr (.inr fq)))))])) (va_A [(w0, .inr (5, [.ref wk, .ref wl, .ref wc, .ref wp, .int wn, .int wh, .int wg])), (wl, .inl (cI, 125, .inl fl)), (wc, .inl (cI, 3, .inl fc)), (wp, .inl (cP, 8, .inr (.inr (.inr (.inr fq)))))] hpz)) 0 0 (va_A [(w0, .inr (5, [.ref wk, .ref wl, .ref wc, .ref wp, .int wn, .int wh, .int wg])), (wl, .inl (cI, 125, .inl fl)), (wc, .inl (cI, 3, .inl fc)), (wp, .inl (cP, 8, .inr (.inr (.inr (.inr fq)))))] hpz) := by
  refine Met.ofW (cc := cX5_leastBy) (maxL := 8) (ret := (some .int)) (by decide) rfl ?_
  intro p e s m args below meth c s₁ B hml hv
  obtain ⟨rfl, hsz, hP, hK, hD0, hN, hZ⟩ := hv
  have hx := B.exec
  have hb := B.bytes
  have hr := B.returns
  have hts := atoms_spec (ws := wsX5_leastBy) B.pre
  have hown : s.vm.findClass RX5 = some m.cls := findClass_of_methodNamed B.named
  have hlocks := B.notSynchronized
  subst hsz
  have hD := hD0.self (sz := s.heap.size)
  have hA := zA_of hD
  have hl := lv_entry ([.ref w0, .ref u0, .int 2, .int d, .int sec]) (n := 8) (Nat.le_of_ble_eq_true rfl)
  rw [lg_entry_eq]
  generalize (lg_sl ([.ref w0, .ref u0, .int 2, .int d, .int sec]) ++ List.replicate (8 - (lg_sl ([.ref w0, .ref u0, .int 2, .int d, .int sec])).length) Slot.unset).toArray = ls at hl ⊢
  replace hl : lv_has ls 8 [(0, .ref w0), (1, .ref u0), (2, .int 2), (3, .int d), (4, .int sec)] := hl
  refine zw_begin hP hD (fun H locs hP1 hS => ?_)
  clear hP
  have hP := hP1
  clear hP1
  obtain ⟨⟨p1_u0, p2_u0⟩, ⟨p3_u0, p4_u0⟩, p5_u0, p6_u0⟩ := id hr_u0
  refine lv_aload_n hx hb dX5_leastBy_0 rfl (lv_at hl 1 rfl) ?_
  refine lv_iload_n hx hb dX5_leastBy_1 rfl (lv_at hl 3 rfl) ?_
  refine lv_aload_n hx hb dX5_leastBy_2 rfl (lv_at hl 0 rfl) ?_
  refine va_get (D := D) (ci := 5) (v := .int wh) (C := RX5) (T := TX5) (N := 7) hx hb hts hi_X5_leastBy_5 hown hK hP 0 rfl rfl 5 (by decide) (hts (.fieldLink RX5 31 "TheLiningsInIt$Ways" "hurry" "I") (List.mem_of_getElem? (i := 1) rfl)) (fun _ h9 => h9) rfl dX5_leastBy_3 ?_
  refine zc_V (As := [.int d, .int wh]) (rest := []) ⟨hx, hb, hml, hown, hts⟩ (c_F_Pull_waysAt l D cI cJ cZ cP cS po (d) (wh) u0 (ki) (a_) (ta) hu_u0 ⟨by omega, by omega, by omega, by omega⟩ hy12 hy13 hy4 hy5) (cwV 2 hts gX5_leastBy_X2_waysAt rfl rfl rfl ⟨rfl, dh_X2_waysAt⟩ ⟨Nat.le_of_ble_eq_true rfl, Nat.le_of_ble_eq_true rfl⟩) hK hN (hZ.kept hS) hP zP_nil (va_recv (q := (RX2, TX2, 3)) hK (zPu_P (hZ.kept hS) hu_u0) (ci := 2) (q0 := 0) rfl rfl) rfl hl.1 rfl (Nat.le_of_ble_eq_true rfl) dX5_leastBy_6 ⟨Nat.le_of_ble_eq_true rfl, Nat.le_of_ble_eq_true rfl⟩ (fun r_1 hr_1 => ?_)
  obtain ⟨g_2, g_3, hsr_1_0⟩ := hr_1
  refine lv_istore (lv' := [(5, .int r_1), (0, .ref w0), (1, .ref u0), (2, .int 2), (3, .int d), (4, .int sec)]) hx hb dX5_leastBy_9 hl (by decide) rfl (fun ls hl => ?_)
  refine lv_iload hx hb dX5_leastBy_11 (lv_at hl 5 rfl) ?_
  refine lv_aload_n hx hb dX5_leastBy_13 rfl (lv_at hl 2 rfl) ?_
  refine va_get (D := D) (ci := 2) (v := .int ta) (C := RX2) (T := TX2) (N := 3) hx hb hts hi_X5_leastBy_2 hown hK (zPu_P (hZ.kept hS) hu_u0) 0 rfl rfl 2 (by decide) (hts (.fieldLink RX5 49 "TheLiningsInIt$Pull" "takes" "I") (List.mem_of_getElem? (i := 2) rfl)) (fun _ h9 => h9) rfl dX5_leastBy_14 ?_
  refine lv_isub hx hb dX5_leastBy_17 ?_
  refine lv_topi (fun x_4 ex_4 => ?_)
  have qx_4 : x_4.toInt = sec.toInt - ta.toInt := by rw [ex_4]; exact zf_sub rfl rfl (by omega) (by omega)
  refine lv_istore (lv' := [(6, .int x_4), (5, .int r_1), (0, .ref w0), (1, .ref u0), (2, .int 2), (3, .int d), (4, .int sec)]) hx hb dX5_leastBy_18 hl (by decide) rfl (fun ls hl => ?_)
  refine lv_aload_n hx hb dX5_leastBy_20 rfl (lv_at hl 3 rfl) ?_
  refine va_get (D := D) (ci := 2) (v := .int ki) (C := RX2) (T := TX2) (N := 3) hx hb hts hi_X5_leastBy_2 hown hK (zPu_P (hZ.kept hS) hu_u0) 0 rfl rfl 0 (by decide) (hts (.fieldLink RX5 46 "TheLiningsInIt$Pull" "kind" "I") (List.mem_of_getElem? (i := 3) rfl)) (fun _ h9 => h9) rfl dX5_leastBy_21 ?_
  refine lv_iconst (v := 5) hx hb dX5_leastBy_24 (by decide) ?_
  refine lv_icmp_ne (tgt := 43) hx hb dX5_leastBy_25 (by decide) (fun c_5 => ?_) (fun c_5 => ?_)
  · have fc_5 : ki.toInt ≠ 5 := zf_ne c_5 rfl (by decide)
    refine lv_iconst (v := 0) hx hb dX5_leastBy_43 (by decide) ?_
    refine lv_istore (lv' := [(7, .int 0), (6, .int x_4), (5, .int r_1), (0, .ref w0), (1, .ref u0), (2, .int 2), (3, .int d), (4, .int sec)]) hx hb dX5_leastBy_44 hl (by decide) rfl (fun ls hl => ?_)
    refine lv_iload hx hb dX5_leastBy_46 (lv_at hl 2 rfl) ?_
    refine lv_if_le (tgt := 73) hx hb dX5_leastBy_48 (by decide) (fun c_6 => ?_) (fun c_6 => ?_)
    · have fc_6 : r_1.toInt ≤ 0 := zf_le c_6 rfl (by decide)
      refine lv_iload hx hb dX5_leastBy_73 (lv_at hl 2 rfl) ?_
      refine lv_bipush (v := 12) hx hb dX5_leastBy_75 (by decide) ?_
      refine lv_icmp_ge (tgt := 109) hx hb dX5_leastBy_77 (by decide) (fun c_7 => ?_) (fun c_7 => ?_)
      · exfalso; have fc_7 : 12 ≤ r_1.toInt := zf_le c_7 (by decide) rfl; omega
      · have fc_7 : r_1.toInt < 12 := zf_nle c_7 (by decide) rfl
        refine lv_iload hx hb dX5_leastBy_80 (lv_at hl 0 rfl) ?_
        refine lv_bipush (v := 12) hx hb dX5_leastBy_82 (by decide) ?_
        refine lv_iload hx hb dX5_leastBy_84 (lv_at hl 2 rfl) ?_
        refine lv_isub hx hb dX5_leastBy_86 ?_
        refine lv_topi (fun x_8 ex_8 => ?_)
        have qx_8 : x_8.toInt = 12 - r_1.toInt := by rw [ex_8]; exact zf_sub (by decide) rfl (by omega) (by omega)
        refine lv_aload_n hx hb dX5_leastBy_87 rfl (lv_at hl 3 rfl) ?_
        refine lv_iload_n hx hb dX5_leastBy_88 rfl (lv_at hl 5 rfl) ?_
        refine lv_iconst (v := 1) hx hb dX5_leastBy_89 (by decide) ?_
        refine lv_isub hx hb dX5_leastBy_90 ?_
        refine lv_topi (fun y_9 ey_9 => ?_)
        obtain rfl : y_9 = 1 := ey_9.trans (by decide)
        refine lv_aload_n hx hb dX5_leastBy_91 rfl (lv_at hl 4 rfl) ?_
        refine lv_iload_n hx hb dX5_leastBy_92 rfl (lv_at hl 6 rfl) ?_
        refine lv_aload_n hx hb dX5_leastBy_93 rfl (lv_at hl 3 rfl) ?_
        refine va_get (D := D) (ci := 5) (v := .int wh) (C := RX5) (T := TX5) (N := 7) hx hb hts hi_X5_leastBy_5 hown hK hP 0 rfl rfl 5 (by decide) (hts (.fieldLink RX5 31 "TheLiningsInIt$Ways" "hurry" "I") (List.mem_of_getElem? (i := 1) rfl)) (fun _ h9 => h9) rfl dX5_leastBy_94 ?_
        refine zc_V (As := [.int d, .int wh]) (rest := [.int 1, .ref w0, .int x_8, .int 0]) ⟨hx, hb, hml, hown, hts⟩ (c_F_Pull_deeper l D cI cJ cZ cP cS po (d) (wh) u0 (ki) (a_) (ta) hu_u0 ⟨by omega, by omega, by omega, by omega⟩ hy12 hy13 hy4 hy5) (cwV 2 hts gX5_leastBy_X2_deeper rfl rfl rfl ⟨rfl, dh_X2_deeper⟩ ⟨Nat.le_of_ble_eq_true rfl, Nat.le_of_ble_eq_true rfl⟩) hK hN (hZ.kept hS) hP zP_nil (va_recv (q := (RX2, TX2, 3)) hK (zPu_P (hZ.kept hS) hu_u0) (ci := 2) (q0 := 0) rfl rfl) rfl hl.1 rfl (Nat.le_of_ble_eq_true rfl) dX5_leastBy_97 ⟨Nat.le_of_ble_eq_true rfl, Nat.le_of_ble_eq_true rfl⟩ (fun r_10 hr_10 => ?_)
        obtain ⟨g_11, g_12, hsr_10_0⟩ := hr_10
        refine lv_iload hx hb dX5_leastBy_100 (lv_at hl 1 rfl) ?_
        skip
        refine zw_V (As := [.int 1, .int r_10, .int x_4]) (rest := [.int x_8, .int 0]) (wr := []) ⟨hx, hb, hml, hown, hts⟩ (c_F_W_least_1 l D cI cJ cZ cP cS po w0 wk wl wc wp (wn) (wh) (wg) fq kq aq tq (tw) fl fc (r_10) (x_4) hy2 hy3 hy4 hy5 hy6 hy7 hjw (by first | assumption | omega) (by first | assumption | omega) (by first | assumption | omega | decide) (by omega) (by omega) (by omega) (by omega) hp_fc H.size) (cwV 3 hts gX5_leastBy_X5_least rfl rfl rfl ⟨rfl, dh_X5_least⟩ ⟨Nat.le_of_ble_eq_true rfl, Nat.le_of_ble_eq_true rfl⟩) hK hN (hZ.kept hS) hP hD hS hA [0, 1, 2, 3] [] rfl rfl (by decide) (by decide) (by decide) (va_recv (q := (RX5, TX5, 7)) hK hP (ci := 5) (q0 := 0) rfl rfl) rfl hl.1 rfl (Nat.le_of_ble_eq_true rfl) dX5_leastBy_102 ⟨Nat.le_of_ble_eq_true rfl, Nat.le_of_ble_eq_true rfl⟩ (fun r_13 u_14 H locs hr_13 hP hD hS => ?_)
        obtain ⟨q_15, rfl⟩ : ∃ z, z = u_14 := ⟨_, rfl⟩
        obtain ⟨hsr_13_0, hsr_13_1, hr_13⟩ := hr_13
        have h9R := zRe (ws' := [(w0, .inr (5, [.ref wk, .ref wl, .ref wc, .ref wp, .int wn, .int wh, .int wg])), (wl, .inl (cI, 125, .inl q_15)), (wc, .inl (cI, 3, .inl fc)), (wp, .inl (cP, 8, .inr (.inr (.inr (.inr fq)))))]) hP hD rfl
        clear hP hD
        obtain ⟨hP, hD⟩ := h9R
        obtain ⟨g_16, g_17⟩ := hr_13
        refine lv_imul hx hb dX5_leastBy_105 ?_
        refine lv_topi (fun x_18 ex_18 => ?_)
        obtain ⟨mx_18, nx_18, ox_18⟩ := zf_mulc (a := x_8) (b := r_13) (x := x_8.toInt) (y := r_13.toInt) (P := 1188) rfl rfl ⟨by omega, by omega⟩ ⟨by omega, by omega⟩ (by decide)
        rw [← ex_18] at mx_18
        refine lv_iadd hx hb dX5_leastBy_106 ?_
        refine lv_topi (fun x_19 ex_19 => ?_)
        have qx_19 : x_19.toInt = 0 + x_18.toInt := by rw [ex_19]; exact zf_add (by decide) rfl (by omega) (by omega)
        refine lv_istore (lv' := [(7, .int x_19), (6, .int x_4), (5, .int r_1), (0, .ref w0), (1, .ref u0), (2, .int 2), (3, .int d), (4, .int sec)]) hx hb dX5_leastBy_107 hl (by decide) rfl (fun ls hl => ?_)
        refine lv_iload hx hb dX5_leastBy_109 (lv_at hl 0 rfl) ?_
        exact W.iret (v := x_19) hx hb hr (fun t ht hW => ⟨⟨x_19, q_15, rfl, ⟨(show zKn kq aq tq wn.toInt.toNat wh.toInt (fc 0).toInt (fc 1).toInt (fc 2).toInt wg.toInt q_15 from by first | exact hsr_13_0 | assumption), (show (x_19 : Int32).toInt = zLb (zLn kq aq tq wn.toInt.toNat wh.toInt (fc 0).toInt (fc 1).toInt (fc 2).toInt 1) (fc 0).toInt (zPw 2) ki.toInt a_.toInt ta.toInt wh.toInt d.toInt sec.toInt from by (have zw := hsr_1_0; have E1 : r_1.toInt * (zLn kq aq tq wn.toInt.toNat wh.toInt (fc 0).toInt (fc 1).toInt (fc 2).toInt 1) (zShl ki.toInt a_.toInt d.toInt) (sec.toInt - ta.toInt) = 0 := (by rw [show r_1.toInt = 0 from by omega, Int.zero_mul]); have E2 : (12 - r_1.toInt) * (zLn kq aq tq wn.toInt.toNat wh.toInt (fc 0).toInt (fc 1).toInt (fc 2).toInt 1) (zDpr ki.toInt a_.toInt wh.toInt d.toInt) (sec.toInt - ta.toInt) = x_18.toInt := (by rw [← hsr_10_0, show sec.toInt - ta.toInt = (x_4 : Int32).toInt from by omega, ← hsr_13_1, show 12 - r_1.toInt = x_8.toInt from by omega]; omega); unfold zLb zBy1; rw [← zw, E1, E2, show zPw 2 = 144 from by decide]; first | (rw [if_neg (by omega)]; omega) | (rw [if_pos (by omega)]; omega))), ⟨by omega, by omega⟩⟩, zRet ht hP hD [0, 1, 2, 3] (by decide) rfl⟩, hS.F ht⟩) hS.2.2 dX5_leastBy_111
    · have fc_6 : 0 < r_1.toInt := zf_nle c_6 rfl (by decide)
      refine lv_iload hx hb dX5_leastBy_51 (lv_at hl 0 rfl) ?_
      refine lv_iload hx hb dX5_leastBy_53 (lv_at hl 2 rfl) ?_
      refine lv_aload_n hx hb dX5_leastBy_55 rfl (lv_at hl 3 rfl) ?_
      refine lv_iload_n hx hb dX5_leastBy_56 rfl (lv_at hl 5 rfl) ?_
      refine lv_iconst (v := 1) hx hb dX5_leastBy_57 (by decide) ?_
      refine lv_isub hx hb dX5_leastBy_58 ?_
      refine lv_topi (fun y_20 ey_20 => ?_)
      obtain rfl : y_20 = 1 := ey_20.trans (by decide)
      refine lv_aload_n hx hb dX5_leastBy_59 rfl (lv_at hl 4 rfl) ?_
      refine lv_iload_n hx hb dX5_leastBy_60 rfl (lv_at hl 6 rfl) ?_
      refine zc_V (As := [.int d]) (rest := [.int 1, .ref w0, .int r_1, .int 0]) ⟨hx, hb, hml, hown, hts⟩ (c_F_Pull_shallower l D cI cJ cZ cP cS po (d) u0 (ki) (a_) (ta) hu_u0 ⟨by omega, by omega, by omega, by omega⟩ hy12 hy13) (cwV 1 hts gX5_leastBy_X2_shallower rfl rfl rfl ⟨rfl, dh_X2_shallower⟩ ⟨Nat.le_of_ble_eq_true rfl, Nat.le_of_ble_eq_true rfl⟩) hK hN (hZ.kept hS) hP zP_nil (va_recv (q := (RX2, TX2, 3)) hK (zPu_P (hZ.kept hS) hu_u0) (ci := 2) (q0 := 0) rfl rfl) rfl hl.1 rfl (Nat.le_of_ble_eq_true rfl) dX5_leastBy_61 ⟨Nat.le_of_ble_eq_true rfl, Nat.le_of_ble_eq_true rfl⟩ (fun r_21 hr_21 => ?_)
      obtain ⟨g_22, g_23, hsr_21_0⟩ := hr_21
      refine lv_iload hx hb dX5_leastBy_64 (lv_at hl 1 rfl) ?_
      skip
      refine zw_V (As := [.int 1, .int r_21, .int x_4]) (rest := [.int r_1, .int 0]) (wr := []) ⟨hx, hb, hml, hown, hts⟩ (c_F_W_least_1 l D cI cJ cZ cP cS po w0 wk wl wc wp (wn) (wh) (wg) fq kq aq tq (tw) fl fc (r_21) (x_4) hy2 hy3 hy4 hy5 hy6 hy7 hjw (by first | assumption | omega) (by first | assumption | omega) (by first | assumption | omega | decide) (by omega) (by omega) (by omega) (by omega) hp_fc H.size) (cwV 3 hts gX5_leastBy_X5_least rfl rfl rfl ⟨rfl, dh_X5_least⟩ ⟨Nat.le_of_ble_eq_true rfl, Nat.le_of_ble_eq_true rfl⟩) hK hN (hZ.kept hS) hP hD hS hA [0, 1, 2, 3] [] rfl rfl (by decide) (by decide) (by decide) (va_recv (q := (RX5, TX5, 7)) hK hP (ci := 5) (q0 := 0) rfl rfl) rfl hl.1 rfl (Nat.le_of_ble_eq_true rfl) dX5_leastBy_66 ⟨Nat.le_of_ble_eq_true rfl, Nat.le_of_ble_eq_true rfl⟩ (fun r_24 u_25 H locs hr_24 hP hD hS => ?_)
      obtain ⟨q_26, rfl⟩ : ∃ z, z = u_25 := ⟨_, rfl⟩
      obtain ⟨hsr_24_0, hsr_24_1, hr_24⟩ := hr_24
      have h9R := zRe (ws' := [(w0, .inr (5, [.ref wk, .ref wl, .ref wc, .ref wp, .int wn, .int wh, .int wg])), (wl, .inl (cI, 125, .inl q_26)), (wc, .inl (cI, 3, .inl fc)), (wp, .inl (cP, 8, .inr (.inr (.inr (.inr fq)))))]) hP hD rfl
      clear hP hD
      obtain ⟨hP, hD⟩ := h9R
      obtain ⟨g_27, g_28⟩ := hr_24
      refine lv_imul hx hb dX5_leastBy_69 ?_
      refine lv_topi (fun x_29 ex_29 => ?_)
      obtain ⟨mx_29, nx_29, ox_29⟩ := zf_mulc (a := r_1) (b := r_24) (x := r_1.toInt) (y := r_24.toInt) (P := 1188) rfl rfl ⟨by omega, by omega⟩ ⟨by omega, by omega⟩ (by decide)
      rw [← ex_29] at mx_29
      refine lv_iadd hx hb dX5_leastBy_70 ?_
      refine lv_topi (fun x_30 ex_30 => ?_)
      have qx_30 : x_30.toInt = 0 + x_29.toInt := by rw [ex_30]; exact zf_add (by decide) rfl (by omega) (by omega)
      refine lv_istore (lv' := [(7, .int x_30), (6, .int x_4), (5, .int r_1), (0, .ref w0), (1, .ref u0), (2, .int 2), (3, .int d), (4, .int sec)]) hx hb dX5_leastBy_71 hl (by decide) rfl (fun ls hl => ?_)
      refine lv_iload hx hb dX5_leastBy_73 (lv_at hl 2 rfl) ?_
      refine lv_bipush (v := 12) hx hb dX5_leastBy_75 (by decide) ?_
      refine lv_icmp_ge (tgt := 109) hx hb dX5_leastBy_77 (by decide) (fun c_31 => ?_) (fun c_31 => ?_)
      · have fc_31 : 12 ≤ r_1.toInt := zf_le c_31 (by decide) rfl
        refine lv_iload hx hb dX5_leastBy_109 (lv_at hl 0 rfl) ?_
        exact W.iret (v := x_30) hx hb hr (fun t ht hW => ⟨⟨x_30, q_26, rfl, ⟨(show zKn kq aq tq wn.toInt.toNat wh.toInt (fc 0).toInt (fc 1).toInt (fc 2).toInt wg.toInt q_26 from by exact hsr_24_0), (show (x_30 : Int32).toInt = zLb (zLn kq aq tq wn.toInt.toNat wh.toInt (fc 0).toInt (fc 1).toInt (fc 2).toInt 1) (fc 0).toInt (zPw 2) ki.toInt a_.toInt ta.toInt wh.toInt d.toInt sec.toInt from by (have zw := hsr_1_0; have E1 : r_1.toInt * (zLn kq aq tq wn.toInt.toNat wh.toInt (fc 0).toInt (fc 1).toInt (fc 2).toInt 1) (zShl ki.toInt a_.toInt d.toInt) (sec.toInt - ta.toInt) = x_29.toInt := (by rw [← hsr_21_0, show sec.toInt - ta.toInt = (x_4 : Int32).toInt from by omega, ← hsr_24_1]; omega); have E2 : (12 - r_1.toInt) * (zLn kq aq tq wn.toInt.toNat wh.toInt (fc 0).toInt (fc 1).toInt (fc 2).toInt 1) (zDpr ki.toInt a_.toInt wh.toInt d.toInt) (sec.toInt - ta.toInt) = 0 := (by rw [show 12 - r_1.toInt = 0 from by omega, Int.zero_mul]); unfold zLb zBy1; rw [← zw, E1, E2, show zPw 2 = 144 from by decide]; first | (rw [if_neg (by omega)]; omega) | (rw [if_pos (by omega)]; omega))), ⟨by omega, by omega⟩⟩, zRet ht hP hD [0, 1, 2, 3] (by decide) rfl⟩, hS.F ht⟩) hS.2.2 dX5_leastBy_111
      · have fc_31 : r_1.toInt < 12 := zf_nle c_31 (by decide) rfl
        refine lv_iload hx hb dX5_leastBy_80 (lv_at hl 0 rfl) ?_
        refine lv_bipush (v := 12) hx hb dX5_leastBy_82 (by decide) ?_
        refine lv_iload hx hb dX5_leastBy_84 (lv_at hl 2 rfl) ?_
        refine lv_isub hx hb dX5_leastBy_86 ?_
        refine lv_topi (fun x_32 ex_32 => ?_)
        have qx_32 : x_32.toInt = 12 - r_1.toInt := by rw [ex_32]; exact zf_sub (by decide) rfl (by omega) (by omega)
        refine lv_aload_n hx hb dX5_leastBy_87 rfl (lv_at hl 3 rfl) ?_
        refine lv_iload_n hx hb dX5_leastBy_88 rfl (lv_at hl 5 rfl) ?_
        refine lv_iconst (v := 1) hx hb dX5_leastBy_89 (by decide) ?_
        refine lv_isub hx hb dX5_leastBy_90 ?_
        refine lv_topi (fun y_33 ey_33 => ?_)
        obtain rfl : y_33 = 1 := ey_33.trans (by decide)
        refine lv_aload_n hx hb dX5_leastBy_91 rfl (lv_at hl 4 rfl) ?_
        refine lv_iload_n hx hb dX5_leastBy_92 rfl (lv_at hl 6 rfl) ?_
        refine lv_aload_n hx hb dX5_leastBy_93 rfl (lv_at hl 3 rfl) ?_
        refine va_get (D := D) (ci := 5) (v := .int wh) (C := RX5) (T := TX5) (N := 7) hx hb hts hi_X5_leastBy_5 hown hK hP 0 rfl rfl 5 (by decide) (hts (.fieldLink RX5 31 "TheLiningsInIt$Ways" "hurry" "I") (List.mem_of_getElem? (i := 1) rfl)) (fun _ h9 => h9) rfl dX5_leastBy_94 ?_
        refine zc_V (As := [.int d, .int wh]) (rest := [.int 1, .ref w0, .int x_32, .int x_30]) ⟨hx, hb, hml, hown, hts⟩ (c_F_Pull_deeper l D cI cJ cZ cP cS po (d) (wh) u0 (ki) (a_) (ta) hu_u0 ⟨by omega, by omega, by omega, by omega⟩ hy12 hy13 hy4 hy5) (cwV 2 hts gX5_leastBy_X2_deeper rfl rfl rfl ⟨rfl, dh_X2_deeper⟩ ⟨Nat.le_of_ble_eq_true rfl, Nat.le_of_ble_eq_true rfl⟩) hK hN (hZ.kept hS) hP zP_nil (va_recv (q := (RX2, TX2, 3)) hK (zPu_P (hZ.kept hS) hu_u0) (ci := 2) (q0 := 0) rfl rfl) rfl hl.1 rfl (Nat.le_of_ble_eq_true rfl) dX5_leastBy_97 ⟨Nat.le_of_ble_eq_true rfl, Nat.le_of_ble_eq_true rfl⟩ (fun r_34 hr_34 => ?_)
        obtain ⟨g_35, g_36, hsr_34_0⟩ := hr_34
        refine lv_iload hx hb dX5_leastBy_100 (lv_at hl 1 rfl) ?_
        skip
        refine zw_V (As := [.int 1, .int r_34, .int x_4]) (rest := [.int x_32, .int x_30]) (wr := []) ⟨hx, hb, hml, hown, hts⟩ (c_F_W_least_1 l D cI cJ cZ cP cS po w0 wk wl wc wp (wn) (wh) (wg) fq kq aq tq (tw) q_26 fc (r_34) (x_4) hy2 hy3 hy4 hy5 hy6 hy7 hjw (by first | assumption | omega) (by first | assumption | omega) (by first | assumption | omega | decide) (by omega) (by omega) (by omega) (by omega) hp_fc H.size) (cwV 3 hts gX5_leastBy_X5_least rfl rfl rfl ⟨rfl, dh_X5_least⟩ ⟨Nat.le_of_ble_eq_true rfl, Nat.le_of_ble_eq_true rfl⟩) hK hN (hZ.kept hS) hP hD hS hA [0, 1, 2, 3] [] rfl rfl (by decide) (by decide) (by decide) (va_recv (q := (RX5, TX5, 7)) hK hP (ci := 5) (q0 := 0) rfl rfl) rfl hl.1 rfl (Nat.le_of_ble_eq_true rfl) dX5_leastBy_102 ⟨Nat.le_of_ble_eq_true rfl, Nat.le_of_ble_eq_true rfl⟩ (fun r_37 u_38 H locs hr_37 hP hD hS => ?_)
        obtain ⟨q_39, rfl⟩ : ∃ z, z = u_38 := ⟨_, rfl⟩
        obtain ⟨hsr_37_0, hsr_37_1, hr_37⟩ := hr_37
        have h9R := zRe (ws' := [(w0, .inr (5, [.ref wk, .ref wl, .ref wc, .ref wp, .int wn, .int wh, .int wg])), (wl, .inl (cI, 125, .inl q_39)), (wc, .inl (cI, 3, .inl fc)), (wp, .inl (cP, 8, .inr (.inr (.inr (.inr fq)))))]) hP hD rfl
        clear hP hD
        obtain ⟨hP, hD⟩ := h9R
        obtain ⟨g_40, g_41⟩ := hr_37
        refine lv_imul hx hb dX5_leastBy_105 ?_
        refine lv_topi (fun x_42 ex_42 => ?_)
        obtain ⟨mx_42, nx_42, ox_42⟩ := zf_mulc (a := x_32) (b := r_37) (x := x_32.toInt) (y := r_37.toInt) (P := 1188) rfl rfl ⟨by omega, by omega⟩ ⟨by omega, by omega⟩ (by decide)
        rw [← ex_42] at mx_42
        refine lv_iadd hx hb dX5_leastBy_106 ?_
        refine lv_topi (fun x_43 ex_43 => ?_)
        have qx_43 : x_43.toInt = x_30.toInt + x_42.toInt := by rw [ex_43]; exact zf_add rfl rfl (by omega) (by omega)
        refine lv_istore (lv' := [(7, .int x_43), (6, .int x_4), (5, .int r_1), (0, .ref w0), (1, .ref u0), (2, .int 2), (3, .int d), (4, .int sec)]) hx hb dX5_leastBy_107 hl (by decide) rfl (fun ls hl => ?_)
        refine lv_iload hx hb dX5_leastBy_109 (lv_at hl 0 rfl) ?_
        have hmx9 := zMix (w := r_1.toInt) (x := r_24.toInt) (y := r_37.toInt) (P := 1188) ⟨by omega, by omega⟩ ⟨by omega, by omega⟩ ⟨by omega, by omega⟩
        rw [show 12 - r_1.toInt = x_32.toInt from by omega] at hmx9
        exact W.iret (v := x_43) hx hb hr (fun t ht hW => ⟨⟨x_43, q_39, rfl, ⟨(show zKn kq aq tq wn.toInt.toNat wh.toInt (fc 0).toInt (fc 1).toInt (fc 2).toInt wg.toInt q_39 from by first | exact hsr_37_0 | assumption), (show (x_43 : Int32).toInt = zLb (zLn kq aq tq wn.toInt.toNat wh.toInt (fc 0).toInt (fc 1).toInt (fc 2).toInt 1) (fc 0).toInt (zPw 2) ki.toInt a_.toInt ta.toInt wh.toInt d.toInt sec.toInt from by (have zw := hsr_1_0; have E1 : r_1.toInt * (zLn kq aq tq wn.toInt.toNat wh.toInt (fc 0).toInt (fc 1).toInt (fc 2).toInt 1) (zShl ki.toInt a_.toInt d.toInt) (sec.toInt - ta.toInt) = x_29.toInt := (by rw [← hsr_21_0, show sec.toInt - ta.toInt = (x_4 : Int32).toInt from by omega, ← hsr_24_1]; omega); have E2 : (12 - r_1.toInt) * (zLn kq aq tq wn.toInt.toNat wh.toInt (fc 0).toInt (fc 1).toInt (fc 2).toInt 1) (zDpr ki.toInt a_.toInt wh.toInt d.toInt) (sec.toInt - ta.toInt) = x_42.toInt := (by rw [← hsr_34_0, show sec.toInt - ta.toInt = (x_4 : Int32).toInt from by omega, ← hsr_37_1, show 12 - r_1.toInt = x_32.toInt from by omega]; omega); unfold zLb zBy1; rw [← zw, E1, E2, show zPw 2 = 144 from by decide]; first | (rw [if_neg (by omega)]; omega) | (rw [if_pos (by omega)]; omega))), ⟨by omega, by omega⟩⟩, zRet ht hP hD [0, 1, 2, 3] (by decide) rfl⟩, hS.F ht⟩) hS.2.2 dX5_leastBy_111
  · have fc_5 : ki.toInt = 5 := zf_eq c_5 rfl (by decide)
    obtain ⟨t_44, zt_44, yt_44⟩ := hZ.1.1
    refine va_gets hx hb zt_44 hS hown (hts (.fieldLink RX5 79 "TheLiningsInIt$Ways" "POWERS" "[I") (List.mem_of_getElem? (i := 4) rfl)) (fun _ h9 => h9) dX5_leastBy_28 ?_
    refine lv_iload_n hx hb dX5_leastBy_31 rfl (lv_at hl 4 rfl) ?_
    refine va_ti hx hb yt_44 hS (zf_in (by decide) (by decide)) (v := .int 144) (by decide) dX5_leastBy_32 ?_
    refine lv_aload_n hx hb dX5_leastBy_33 rfl (lv_at hl 2 rfl) ?_
    refine va_get (D := D) (ci := 5) (v := .ref wc) (C := RX5) (T := TX5) (N := 7) hx hb hts hi_X5_leastBy_5 hown hK hP 0 rfl rfl 2 (by decide) (hts (.fieldLink RX5 18 "TheLiningsInIt$Ways" "costs" "[I") (List.mem_of_getElem? (i := 5) rfl)) (fun _ h9 => h9) rfl dX5_leastBy_34 ?_
    refine lv_iconst (v := 0) hx hb dX5_leastBy_37 (by decide) ?_
    refine va_iald hx hb hK hP 2 0 rfl rfl (zf_in (by decide) (by decide)) dX5_leastBy_38 ?_
    refine lv_topi (fun x_45 ex_45 => ?_)
    have bx_45 : 0 ≤ x_45.toInt ∧ x_45.toInt ≤ 99 := by rw [ex_45]; exact hp_fc _
    refine lv_imul hx hb dX5_leastBy_39 ?_
    refine lv_topi (fun x_46 ex_46 => ?_)
    have qx_46 : x_46.toInt = 144 * x_45.toInt := by rw [ex_46]; exact zf_mul (by decide) rfl (by omega) (by omega)
    refine lv_goto (tgt := 44) hx hb dX5_leastBy_40 (by decide) ?_
    refine lv_istore (lv' := [(7, .int x_46), (6, .int x_4), (5, .int r_1), (0, .ref w0), (1, .ref u0), (2, .int 2), (3, .int d), (4, .int sec)]) hx hb dX5_leastBy_44 hl (by decide) rfl (fun ls hl => ?_)
    refine lv_iload hx hb dX5_leastBy_46 (lv_at hl 2 rfl) ?_
    refine lv_if_le (tgt := 73) hx hb dX5_leastBy_48 (by decide) (fun c_47 => ?_) (fun c_47 => ?_)
    · have fc_47 : r_1.toInt ≤ 0 := zf_le c_47 rfl (by decide)
      refine lv_iload hx hb dX5_leastBy_73 (lv_at hl 2 rfl) ?_
      refine lv_bipush (v := 12) hx hb dX5_leastBy_75 (by decide) ?_
      refine lv_icmp_ge (tgt := 109) hx hb dX5_leastBy_77 (by decide) (fun c_48 => ?_) (fun c_48 => ?_)
      · exfalso; have fc_48 : 12 ≤ r_1.toInt := zf_le c_48 (by decide) rfl; omega
      · have fc_48 : r_1.toInt < 12 := zf_nle c_48 (by decide) rfl
        refine lv_iload hx hb dX5_leastBy_80 (lv_at hl 0 rfl) ?_
        refine lv_bipush (v := 12) hx hb dX5_leastBy_82 (by decide) ?_
        refine lv_iload hx hb dX5_leastBy_84 (lv_at hl 2 rfl) ?_
        refine lv_isub hx hb dX5_leastBy_86 ?_
        refine lv_topi (fun x_49 ex_49 => ?_)
        have qx_49 : x_49.toInt = 12 - r_1.toInt := by rw [ex_49]; exact zf_sub (by decide) rfl (by omega) (by omega)
        refine lv_aload_n hx hb dX5_leastBy_87 rfl (lv_at hl 3 rfl) ?_
        refine lv_iload_n hx hb dX5_leastBy_88 rfl (lv_at hl 5 rfl) ?_
        refine lv_iconst (v := 1) hx hb dX5_leastBy_89 (by decide) ?_
        refine lv_isub hx hb dX5_leastBy_90 ?_
        refine lv_topi (fun y_50 ey_50 => ?_)
        obtain rfl : y_50 = 1 := ey_50.trans (by decide)
        refine lv_aload_n hx hb dX5_leastBy_91 rfl (lv_at hl 4 rfl) ?_
        refine lv_iload_n hx hb dX5_leastBy_92 rfl (lv_at hl 6 rfl) ?_
        refine lv_aload_n hx hb dX5_leastBy_93 rfl (lv_at hl 3 rfl) ?_
        refine va_get (D := D) (ci := 5) (v := .int wh) (C := RX5) (T := TX5) (N := 7) hx hb hts hi_X5_leastBy_5 hown hK hP 0 rfl rfl 5 (by decide) (hts (.fieldLink RX5 31 "TheLiningsInIt$Ways" "hurry" "I") (List.mem_of_getElem? (i := 1) rfl)) (fun _ h9 => h9) rfl dX5_leastBy_94 ?_
        refine zc_V (As := [.int d, .int wh]) (rest := [.int 1, .ref w0, .int x_49, .int x_46]) ⟨hx, hb, hml, hown, hts⟩ (c_F_Pull_deeper l D cI cJ cZ cP cS po (d) (wh) u0 (ki) (a_) (ta) hu_u0 ⟨by omega, by omega, by omega, by omega⟩ hy12 hy13 hy4 hy5) (cwV 2 hts gX5_leastBy_X2_deeper rfl rfl rfl ⟨rfl, dh_X2_deeper⟩ ⟨Nat.le_of_ble_eq_true rfl, Nat.le_of_ble_eq_true rfl⟩) hK hN (hZ.kept hS) hP zP_nil (va_recv (q := (RX2, TX2, 3)) hK (zPu_P (hZ.kept hS) hu_u0) (ci := 2) (q0 := 0) rfl rfl) rfl hl.1 rfl (Nat.le_of_ble_eq_true rfl) dX5_leastBy_97 ⟨Nat.le_of_ble_eq_true rfl, Nat.le_of_ble_eq_true rfl⟩ (fun r_51 hr_51 => ?_)
        obtain ⟨g_52, g_53, hsr_51_0⟩ := hr_51
        refine lv_iload hx hb dX5_leastBy_100 (lv_at hl 1 rfl) ?_
        skip
        refine zw_V (As := [.int 1, .int r_51, .int x_4]) (rest := [.int x_49, .int x_46]) (wr := []) ⟨hx, hb, hml, hown, hts⟩ (c_F_W_least_1 l D cI cJ cZ cP cS po w0 wk wl wc wp (wn) (wh) (wg) fq kq aq tq (tw) fl fc (r_51) (x_4) hy2 hy3 hy4 hy5 hy6 hy7 hjw (by first | assumption | omega) (by first | assumption | omega) (by first | assumption | omega | decide) (by omega) (by omega) (by omega) (by omega) hp_fc H.size) (cwV 3 hts gX5_leastBy_X5_least rfl rfl rfl ⟨rfl, dh_X5_least⟩ ⟨Nat.le_of_ble_eq_true rfl, Nat.le_of_ble_eq_true rfl⟩) hK hN (hZ.kept hS) hP hD hS hA [0, 1, 2, 3] [] rfl rfl (by decide) (by decide) (by decide) (va_recv (q := (RX5, TX5, 7)) hK hP (ci := 5) (q0 := 0) rfl rfl) rfl hl.1 rfl (Nat.le_of_ble_eq_true rfl) dX5_leastBy_102 ⟨Nat.le_of_ble_eq_true rfl, Nat.le_of_ble_eq_true rfl⟩ (fun r_54 u_55 H locs hr_54 hP hD hS => ?_)
        obtain ⟨q_56, rfl⟩ : ∃ z, z = u_55 := ⟨_, rfl⟩
        obtain ⟨hsr_54_0, hsr_54_1, hr_54⟩ := hr_54
        have h9R := zRe (ws' := [(w0, .inr (5, [.ref wk, .ref wl, .ref wc, .ref wp, .int wn, .int wh, .int wg])), (wl, .inl (cI, 125, .inl q_56)), (wc, .inl (cI, 3, .inl fc)), (wp, .inl (cP, 8, .inr (.inr (.inr (.inr fq)))))]) hP hD rfl
        clear hP hD
        obtain ⟨hP, hD⟩ := h9R
        obtain ⟨g_57, g_58⟩ := hr_54
        refine lv_imul hx hb dX5_leastBy_105 ?_
        refine lv_topi (fun x_59 ex_59 => ?_)
        obtain ⟨mx_59, nx_59, ox_59⟩ := zf_mulc (a := x_49) (b := r_54) (x := x_49.toInt) (y := r_54.toInt) (P := 1188) rfl rfl ⟨by omega, by omega⟩ ⟨by omega, by omega⟩ (by decide)
        rw [← ex_59] at mx_59
        refine lv_iadd hx hb dX5_leastBy_106 ?_
        refine lv_topi (fun x_60 ex_60 => ?_)
        have qx_60 : x_60.toInt = x_46.toInt + x_59.toInt := by rw [ex_60]; exact zf_add rfl rfl (by omega) (by omega)
        refine lv_istore (lv' := [(7, .int x_60), (6, .int x_4), (5, .int r_1), (0, .ref w0), (1, .ref u0), (2, .int 2), (3, .int d), (4, .int sec)]) hx hb dX5_leastBy_107 hl (by decide) rfl (fun ls hl => ?_)
        refine lv_iload hx hb dX5_leastBy_109 (lv_at hl 0 rfl) ?_
        exact W.iret (v := x_60) hx hb hr (fun t ht hW => ⟨⟨x_60, q_56, rfl, ⟨(show zKn kq aq tq wn.toInt.toNat wh.toInt (fc 0).toInt (fc 1).toInt (fc 2).toInt wg.toInt q_56 from by first | exact hsr_54_0 | assumption), (show (x_60 : Int32).toInt = zLb (zLn kq aq tq wn.toInt.toNat wh.toInt (fc 0).toInt (fc 1).toInt (fc 2).toInt 1) (fc 0).toInt (zPw 2) ki.toInt a_.toInt ta.toInt wh.toInt d.toInt sec.toInt from by (have nx_45 : (fc 0).toInt = x_45.toInt := (by rw [ex_45, show (0 : Int32).toNatClampNeg = 0 from by decide]); have zw := hsr_1_0; have E1 : r_1.toInt * (zLn kq aq tq wn.toInt.toNat wh.toInt (fc 0).toInt (fc 1).toInt (fc 2).toInt 1) (zShl ki.toInt a_.toInt d.toInt) (sec.toInt - ta.toInt) = 0 := (by rw [show r_1.toInt = 0 from by omega, Int.zero_mul]); have E2 : (12 - r_1.toInt) * (zLn kq aq tq wn.toInt.toNat wh.toInt (fc 0).toInt (fc 1).toInt (fc 2).toInt 1) (zDpr ki.toInt a_.toInt wh.toInt d.toInt) (sec.toInt - ta.toInt) = x_59.toInt := (by rw [← hsr_51_0, show sec.toInt - ta.toInt = (x_4 : Int32).toInt from by omega, ← hsr_54_1, show 12 - r_1.toInt = x_49.toInt from by omega]; omega); unfold zLb zBy1; rw [← zw, E1, E2, show zPw 2 = 144 from by decide]; first | (rw [if_pos (by omega)]; omega) | (rw [if_neg (by omega)]; omega))), ⟨by omega, by omega⟩⟩, zRet ht hP hD [0, 1, 2, 3] (by decide) rfl⟩, hS.F ht⟩) hS.2.2 dX5_leastBy_111
    · have fc_47 : 0 < r_1.toInt := zf_nle c_47 rfl (by decide)
      refine lv_iload hx hb dX5_leastBy_51 (lv_at hl 0 rfl) ?_
      refine lv_iload hx hb dX5_leastBy_53 (lv_at hl 2 rfl) ?_
      refine lv_aload_n hx hb dX5_leastBy_55 rfl (lv_at hl 3 rfl) ?_
      refine lv_iload_n hx hb dX5_leastBy_56 rfl (lv_at hl 5 rfl) ?_
      refine lv_iconst (v := 1) hx hb dX5_leastBy_57 (by decide) ?_
      refine lv_isub hx hb dX5_leastBy_58 ?_
      refine lv_topi (fun y_61 ey_61 => ?_)
      obtain rfl : y_61 = 1 := ey_61.trans (by decide)
      refine lv_aload_n hx hb dX5_leastBy_59 rfl (lv_at hl 4 rfl) ?_
      refine lv_iload_n hx hb dX5_leastBy_60 rfl (lv_at hl 6 rfl) ?_
      refine zc_V (As := [.int d]) (rest := [.int 1, .ref w0, .int r_1, .int x_46]) ⟨hx, hb, hml, hown, hts⟩ (c_F_Pull_shallower l D cI cJ cZ cP cS po (d) u0 (ki) (a_) (ta) hu_u0 ⟨by omega, by omega, by omega, by omega⟩ hy12 hy13) (cwV 1 hts gX5_leastBy_X2_shallower rfl rfl rfl ⟨rfl, dh_X2_shallower⟩ ⟨Nat.le_of_ble_eq_true rfl, Nat.le_of_ble_eq_true rfl⟩) hK hN (hZ.kept hS) hP zP_nil (va_recv (q := (RX2, TX2, 3)) hK (zPu_P (hZ.kept hS) hu_u0) (ci := 2) (q0 := 0) rfl rfl) rfl hl.1 rfl (Nat.le_of_ble_eq_true rfl) dX5_leastBy_61 ⟨Nat.le_of_ble_eq_true rfl, Nat.le_of_ble_eq_true rfl⟩ (fun r_62 hr_62 => ?_)
      obtain ⟨g_63, g_64, hsr_62_0⟩ := hr_62
      refine lv_iload hx hb dX5_leastBy_64 (lv_at hl 1 rfl) ?_
      skip
      refine zw_V (As := [.int 1, .int r_62, .int x_4]) (rest := [.int r_1, .int x_46]) (wr := []) ⟨hx, hb, hml, hown, hts⟩ (c_F_W_least_1 l D cI cJ cZ cP cS po w0 wk wl wc wp (wn) (wh) (wg) fq kq aq tq (tw) fl fc (r_62) (x_4) hy2 hy3 hy4 hy5 hy6 hy7 hjw (by first | assumption | omega) (by first | assumption | omega) (by first | assumption | omega | decide) (by omega) (by omega) (by omega) (by omega) hp_fc H.size) (cwV 3 hts gX5_leastBy_X5_least rfl rfl rfl ⟨rfl, dh_X5_least⟩ ⟨Nat.le_of_ble_eq_true rfl, Nat.le_of_ble_eq_true rfl⟩) hK hN (hZ.kept hS) hP hD hS hA [0, 1, 2, 3] [] rfl rfl (by decide) (by decide) (by decide) (va_recv (q := (RX5, TX5, 7)) hK hP (ci := 5) (q0 := 0) rfl rfl) rfl hl.1 rfl (Nat.le_of_ble_eq_true rfl) dX5_leastBy_66 ⟨Nat.le_of_ble_eq_true rfl, Nat.le_of_ble_eq_true rfl⟩ (fun r_65 u_66 H locs hr_65 hP hD hS => ?_)
      obtain ⟨q_67, rfl⟩ : ∃ z, z = u_66 := ⟨_, rfl⟩
      obtain ⟨hsr_65_0, hsr_65_1, hr_65⟩ := hr_65
      have h9R := zRe (ws' := [(w0, .inr (5, [.ref wk, .ref wl, .ref wc, .ref wp, .int wn, .int wh, .int wg])), (wl, .inl (cI, 125, .inl q_67)), (wc, .inl (cI, 3, .inl fc)), (wp, .inl (cP, 8, .inr (.inr (.inr (.inr fq)))))]) hP hD rfl
      clear hP hD
      obtain ⟨hP, hD⟩ := h9R
      obtain ⟨g_68, g_69⟩ := hr_65
      refine lv_imul hx hb dX5_leastBy_69 ?_
      refine lv_topi (fun x_70 ex_70 => ?_)
      obtain ⟨mx_70, nx_70, ox_70⟩ := zf_mulc (a := r_1) (b := r_65) (x := r_1.toInt) (y := r_65.toInt) (P := 1188) rfl rfl ⟨by omega, by omega⟩ ⟨by omega, by omega⟩ (by decide)
      rw [← ex_70] at mx_70
      refine lv_iadd hx hb dX5_leastBy_70 ?_
      refine lv_topi (fun x_71 ex_71 => ?_)
      have qx_71 : x_71.toInt = x_46.toInt + x_70.toInt := by rw [ex_71]; exact zf_add rfl rfl (by omega) (by omega)
      refine lv_istore (lv' := [(7, .int x_71), (6, .int x_4), (5, .int r_1), (0, .ref w0), (1, .ref u0), (2, .int 2), (3, .int d), (4, .int sec)]) hx hb dX5_leastBy_71 hl (by decide) rfl (fun ls hl => ?_)
      refine lv_iload hx hb dX5_leastBy_73 (lv_at hl 2 rfl) ?_
      refine lv_bipush (v := 12) hx hb dX5_leastBy_75 (by decide) ?_
      refine lv_icmp_ge (tgt := 109) hx hb dX5_leastBy_77 (by decide) (fun c_72 => ?_) (fun c_72 => ?_)
      · have fc_72 : 12 ≤ r_1.toInt := zf_le c_72 (by decide) rfl
        refine lv_iload hx hb dX5_leastBy_109 (lv_at hl 0 rfl) ?_
        exact W.iret (v := x_71) hx hb hr (fun t ht hW => ⟨⟨x_71, q_67, rfl, ⟨(show zKn kq aq tq wn.toInt.toNat wh.toInt (fc 0).toInt (fc 1).toInt (fc 2).toInt wg.toInt q_67 from by exact hsr_65_0), (show (x_71 : Int32).toInt = zLb (zLn kq aq tq wn.toInt.toNat wh.toInt (fc 0).toInt (fc 1).toInt (fc 2).toInt 1) (fc 0).toInt (zPw 2) ki.toInt a_.toInt ta.toInt wh.toInt d.toInt sec.toInt from by (have nx_45 : (fc 0).toInt = x_45.toInt := (by rw [ex_45, show (0 : Int32).toNatClampNeg = 0 from by decide]); have zw := hsr_1_0; have E1 : r_1.toInt * (zLn kq aq tq wn.toInt.toNat wh.toInt (fc 0).toInt (fc 1).toInt (fc 2).toInt 1) (zShl ki.toInt a_.toInt d.toInt) (sec.toInt - ta.toInt) = x_70.toInt := (by rw [← hsr_62_0, show sec.toInt - ta.toInt = (x_4 : Int32).toInt from by omega, ← hsr_65_1]; omega); have E2 : (12 - r_1.toInt) * (zLn kq aq tq wn.toInt.toNat wh.toInt (fc 0).toInt (fc 1).toInt (fc 2).toInt 1) (zDpr ki.toInt a_.toInt wh.toInt d.toInt) (sec.toInt - ta.toInt) = 0 := (by rw [show 12 - r_1.toInt = 0 from by omega, Int.zero_mul]); unfold zLb zBy1; rw [← zw, E1, E2, show zPw 2 = 144 from by decide]; first | (rw [if_pos (by omega)]; omega) | (rw [if_neg (by omega)]; omega))), ⟨by omega, by omega⟩⟩, zRet ht hP hD [0, 1, 2, 3] (by decide) rfl⟩, hS.F ht⟩) hS.2.2 dX5_leastBy_111
      · have fc_72 : r_1.toInt < 12 := zf_nle c_72 (by decide) rfl
        refine lv_iload hx hb dX5_leastBy_80 (lv_at hl 0 rfl) ?_
        refine lv_bipush (v := 12) hx hb dX5_leastBy_82 (by decide) ?_
        refine lv_iload hx hb dX5_leastBy_84 (lv_at hl 2 rfl) ?_
        refine lv_isub hx hb dX5_leastBy_86 ?_
        refine lv_topi (fun x_73 ex_73 => ?_)
        have qx_73 : x_73.toInt = 12 - r_1.toInt := by rw [ex_73]; exact zf_sub (by decide) rfl (by omega) (by omega)
        refine lv_aload_n hx hb dX5_leastBy_87 rfl (lv_at hl 3 rfl) ?_
        refine lv_iload_n hx hb dX5_leastBy_88 rfl (lv_at hl 5 rfl) ?_
        refine lv_iconst (v := 1) hx hb dX5_leastBy_89 (by decide) ?_
        refine lv_isub hx hb dX5_leastBy_90 ?_
        refine lv_topi (fun y_74 ey_74 => ?_)
        obtain rfl : y_74 = 1 := ey_74.trans (by decide)
        refine lv_aload_n hx hb dX5_leastBy_91 rfl (lv_at hl 4 rfl) ?_
        refine lv_iload_n hx hb dX5_leastBy_92 rfl (lv_at hl 6 rfl) ?_
        refine lv_aload_n hx hb dX5_leastBy_93 rfl (lv_at hl 3 rfl) ?_
        refine va_get (D := D) (ci := 5) (v := .int wh) (C := RX5) (T := TX5) (N := 7) hx hb hts hi_X5_leastBy_5 hown hK hP 0 rfl rfl 5 (by decide) (hts (.fieldLink RX5 31 "TheLiningsInIt$Ways" "hurry" "I") (List.mem_of_getElem? (i := 1) rfl)) (fun _ h9 => h9) rfl dX5_leastBy_94 ?_
        refine zc_V (As := [.int d, .int wh]) (rest := [.int 1, .ref w0, .int x_73, .int x_71]) ⟨hx, hb, hml, hown, hts⟩ (c_F_Pull_deeper l D cI cJ cZ cP cS po (d) (wh) u0 (ki) (a_) (ta) hu_u0 ⟨by omega, by omega, by omega, by omega⟩ hy12 hy13 hy4 hy5) (cwV 2 hts gX5_leastBy_X2_deeper rfl rfl rfl ⟨rfl, dh_X2_deeper⟩ ⟨Nat.le_of_ble_eq_true rfl, Nat.le_of_ble_eq_true rfl⟩) hK hN (hZ.kept hS) hP zP_nil (va_recv (q := (RX2, TX2, 3)) hK (zPu_P (hZ.kept hS) hu_u0) (ci := 2) (q0 := 0) rfl rfl) rfl hl.1 rfl (Nat.le_of_ble_eq_true rfl) dX5_leastBy_97 ⟨Nat.le_of_ble_eq_true rfl, Nat.le_of_ble_eq_true rfl⟩ (fun r_75 hr_75 => ?_)
        obtain ⟨g_76, g_77, hsr_75_0⟩ := hr_75
        refine lv_iload hx hb dX5_leastBy_100 (lv_at hl 1 rfl) ?_
        skip
        refine zw_V (As := [.int 1, .int r_75, .int x_4]) (rest := [.int x_73, .int x_71]) (wr := []) ⟨hx, hb, hml, hown, hts⟩ (c_F_W_least_1 l D cI cJ cZ cP cS po w0 wk wl wc wp (wn) (wh) (wg) fq kq aq tq (tw) q_67 fc (r_75) (x_4) hy2 hy3 hy4 hy5 hy6 hy7 hjw (by first | assumption | omega) (by first | assumption | omega) (by first | assumption | omega | decide) (by omega) (by omega) (by omega) (by omega) hp_fc H.size) (cwV 3 hts gX5_leastBy_X5_least rfl rfl rfl ⟨rfl, dh_X5_least⟩ ⟨Nat.le_of_ble_eq_true rfl, Nat.le_of_ble_eq_true rfl⟩) hK hN (hZ.kept hS) hP hD hS hA [0, 1, 2, 3] [] rfl rfl (by decide) (by decide) (by decide) (va_recv (q := (RX5, TX5, 7)) hK hP (ci := 5) (q0 := 0) rfl rfl) rfl hl.1 rfl (Nat.le_of_ble_eq_true rfl) dX5_leastBy_102 ⟨Nat.le_of_ble_eq_true rfl, Nat.le_of_ble_eq_true rfl⟩ (fun r_78 u_79 H locs hr_78 hP hD hS => ?_)
        obtain ⟨q_80, rfl⟩ : ∃ z, z = u_79 := ⟨_, rfl⟩
        obtain ⟨hsr_78_0, hsr_78_1, hr_78⟩ := hr_78
        have h9R := zRe (ws' := [(w0, .inr (5, [.ref wk, .ref wl, .ref wc, .ref wp, .int wn, .int wh, .int wg])), (wl, .inl (cI, 125, .inl q_80)), (wc, .inl (cI, 3, .inl fc)), (wp, .inl (cP, 8, .inr (.inr (.inr (.inr fq)))))]) hP hD rfl
        clear hP hD
        obtain ⟨hP, hD⟩ := h9R
        obtain ⟨g_81, g_82⟩ := hr_78
        refine lv_imul hx hb dX5_leastBy_105 ?_
        refine lv_topi (fun x_83 ex_83 => ?_)
        obtain ⟨mx_83, nx_83, ox_83⟩ := zf_mulc (a := x_73) (b := r_78) (x := x_73.toInt) (y := r_78.toInt) (P := 1188) rfl rfl ⟨by omega, by omega⟩ ⟨by omega, by omega⟩ (by decide)
        rw [← ex_83] at mx_83
        refine lv_iadd hx hb dX5_leastBy_106 ?_
        refine lv_topi (fun x_84 ex_84 => ?_)
        have qx_84 : x_84.toInt = x_71.toInt + x_83.toInt := by rw [ex_84]; exact zf_add rfl rfl (by omega) (by omega)
        refine lv_istore (lv' := [(7, .int x_84), (6, .int x_4), (5, .int r_1), (0, .ref w0), (1, .ref u0), (2, .int 2), (3, .int d), (4, .int sec)]) hx hb dX5_leastBy_107 hl (by decide) rfl (fun ls hl => ?_)
        refine lv_iload hx hb dX5_leastBy_109 (lv_at hl 0 rfl) ?_
        have hmx9 := zMix (w := r_1.toInt) (x := r_65.toInt) (y := r_78.toInt) (P := 1188) ⟨by omega, by omega⟩ ⟨by omega, by omega⟩ ⟨by omega, by omega⟩
        rw [show 12 - r_1.toInt = x_73.toInt from by omega] at hmx9
        exact W.iret (v := x_84) hx hb hr (fun t ht hW => ⟨⟨x_84, q_80, rfl, ⟨(show zKn kq aq tq wn.toInt.toNat wh.toInt (fc 0).toInt (fc 1).toInt (fc 2).toInt wg.toInt q_80 from by first | exact hsr_78_0 | assumption), (show (x_84 : Int32).toInt = zLb (zLn kq aq tq wn.toInt.toNat wh.toInt (fc 0).toInt (fc 1).toInt (fc 2).toInt 1) (fc 0).toInt (zPw 2) ki.toInt a_.toInt ta.toInt wh.toInt d.toInt sec.toInt from by (have nx_45 : (fc 0).toInt = x_45.toInt := (by rw [ex_45, show (0 : Int32).toNatClampNeg = 0 from by decide]); have zw := hsr_1_0; have E1 : r_1.toInt * (zLn kq aq tq wn.toInt.toNat wh.toInt (fc 0).toInt (fc 1).toInt (fc 2).toInt 1) (zShl ki.toInt a_.toInt d.toInt) (sec.toInt - ta.toInt) = x_70.toInt := (by rw [← hsr_62_0, show sec.toInt - ta.toInt = (x_4 : Int32).toInt from by omega, ← hsr_65_1]; omega); have E2 : (12 - r_1.toInt) * (zLn kq aq tq wn.toInt.toNat wh.toInt (fc 0).toInt (fc 1).toInt (fc 2).toInt 1) (zDpr ki.toInt a_.toInt wh.toInt d.toInt) (sec.toInt - ta.toInt) = x_83.toInt := (by rw [← hsr_75_0, show sec.toInt - ta.toInt = (x_4 : Int32).toInt from by omega, ← hsr_78_1, show 12 - r_1.toInt = x_73.toInt from by omega]; omega); unfold zLb zBy1; rw [← zw, E1, E2, show zPw 2 = 144 from by decide]; first | (rw [if_pos (by omega)]; omega) | (rw [if_neg (by omega)]; omega))), ⟨by omega, by omega⟩⟩, zRet ht hP hD [0, 1, 2, 3] (by decide) rfl⟩, hS.F ht⟩) hS.2.2 dX5_leastBy_111
set_option maxHeartbeats 4000000 in
set_option maxRecDepth 100000 in
theorem c_F_W_least_2 (l : Launch) (D : va_G) (cI cJ cZ cP cS : ClassId) (po : zPool) (w0 wk wl wc wp : Nat) (wn wh wg : Int32) (fq : Nat → Option Nat) (kq aq tq : Nat → Int32) (tw : Int32) (fl fc : Nat → Int32) (d sec : Int32) (hy0 : 0 ≤ wn.toInt) (hy1 : wn.toInt ≤ 8) (hy2 : 0 ≤ wh.toInt) (hy3 : wh.toInt ≤ 9) (hy4 : 0 ≤ wg.toInt) (hy5 : wg.toInt ≤ 60) (hjw : zJW po fq wn kq aq tq tw) (hkn : zKn kq aq tq wn.toInt.toNat wh.toInt (fc 0).toInt (fc 1).toInt (fc 2).toInt wg.toInt fl) (hgl : (∀ p : Nat, p < wn.toInt.toNat → (tq p).toInt ≤ wg.toInt)) (htw : tw.toInt = 1) (hy10 : 0 ≤ d.toInt) (hy11 : d.toInt ≤ 24) (hy12 : 0 ≤ sec.toInt) (hy13 : sec.toInt ≤ 300) (hp_fc : zRg fc (0) 99) (hpz : Nat) : Met l yX5_least wsX5_least ({ frames := 6, cells := 0, slots := 0, locals := 153 }) (va_Pc [.ref w0, .int 2, .int d, .int sec] (zW D (zKT cI cJ cZ cP cS) po [(w0, .inr (5, [.ref wk, .ref wl, .ref wc, .ref wp, .int wn, .int wh, .int wg])), (wl, .inl (cI, 125, .inl fl)), (wc, .inl (cI, 3, .inl fc)), (wp, .inl (cP, 8, .inr (.inr (.inr (.inr fq)))))] hpz)) (va_Qi (fun (r : Int32) (fl2 : (Nat → Int32)) => (zKn kq aq tq wn.toInt.toNat wh.toInt (fc 0).toInt (fc 1).toInt (fc 2).toInt wg.toInt fl2) ∧ (r.toInt = (zLn kq aq tq wn.toInt.toNat wh.toInt (fc 0).toInt (fc 1).toInt (fc 2).toInt 2) d.toInt sec.toInt) ∧ (0 ≤ r.toInt ∧ r.toInt ≤ 14256)) (zB D [(w0, .inr (5, [.ref wk, .ref wl, .ref wc, .ref wp, .int wn, .int wh, .int wg])), (wl, .inl (cI, 125, .inl fl)), (wc, .inl (cI, 3, .inl fc)), (wp, .inl (cP, 8, .inr (.inr (.inr (.inr fq)))))] hpz (fun (fl2 : Nat → Int32) => [(w0, .inr (5, [.ref wk, .ref wl, .ref wc, .ref wp, .int wn, .int wh, .int wg])), (wl, .inl (cI, 125, .inl fl2)), (wc, .inl (cI, 3, .inl fc)), (wp, .inl (cP, 8, .inr (.inr (.inr (.inr fq)))))])) (va_A [(w0, .inr (5, [.ref wk, .ref wl, .ref wc, .ref wp, .int wn, .int wh, .int wg])), (wl, .inl (cI, 125, .inl fl)), (wc, .inl (cI, 3, .inl fc)), (wp, .inl (cP, 8, .inr (.inr (.inr (.inr fq)))))] hpz)) 0 0 (va_A [(w0, .inr (5, [.ref wk, .ref wl, .ref wc, .ref wp, .int wn, .int wh, .int wg])), (wl, .inl (cI, 125, .inl fl)), (wc, .inl (cI, 3, .inl fc)), (wp, .inl (cP, 8, .inr (.inr (.inr (.inr fq)))))] hpz) := by
  refine Met.ofW (cc := cX5_least) (maxL := 9) (ret := (some .int)) (by decide) rfl ?_
  intro p e s m args below meth c s₁ B hml hv
  obtain ⟨rfl, hsz, hP, hK, hD0, hN, hZ⟩ := hv
  have hx := B.exec
  have hb := B.bytes
  have hr := B.returns
  have hts := atoms_spec (ws := wsX5_least) B.pre
  have hown : s.vm.findClass RX5 = some m.cls := findClass_of_methodNamed B.named
  have hlocks := B.notSynchronized
  subst hsz
  have hD := hD0.self (sz := s.heap.size)
  have hA := zA_of hD
  have hl := lv_entry ([.ref w0, .int 2, .int d, .int sec]) (n := 9) (Nat.le_of_ble_eq_true rfl)
  rw [lg_entry_eq]
  generalize (lg_sl ([.ref w0, .int 2, .int d, .int sec]) ++ List.replicate (9 - (lg_sl ([.ref w0, .int 2, .int d, .int sec])).length) Slot.unset).toArray = ls at hl ⊢
  replace hl : lv_has ls 9 [(0, .ref w0), (1, .int 2), (2, .int d), (3, .int sec)] := hl
  refine zw_begin hP hD (fun H locs hP1 hS => ?_)
  clear hP
  have hP := hP1
  clear hP1
  refine lv_iload_n hx hb dX5_least_0 rfl (lv_at hl 1 rfl) ?_
  refine lv_if_lt (tgt := 20) hx hb dX5_least_1 (by decide) (fun c_1 => ?_) (fun c_1 => ?_)
  · exact absurd c_1 (by decide)
  · refine lv_iload_n hx hb dX5_least_4 rfl (lv_at hl 1 rfl) ?_
    refine lv_iconst (v := 4) hx hb dX5_least_5 (by decide) ?_
    refine lv_icmp_gt (tgt := 20) hx hb dX5_least_6 (by decide) (fun c_2 => ?_) (fun c_2 => ?_)
    · exact absurd c_2 (by decide)
    · refine lv_iload_n hx hb dX5_least_9 rfl (lv_at hl 2 rfl) ?_
      refine lv_iconst (v := 1) hx hb dX5_least_10 (by decide) ?_
      refine lv_icmp_lt (tgt := 20) hx hb dX5_least_11 (by decide) (fun c_3 => ?_) (fun c_3 => ?_)
      · have fc_3 : d.toInt < 1 := zf_lt c_3 rfl (by decide)
        refine lv_iconst (v := 0) hx hb dX5_least_20 (by decide) ?_
        exact W.iret (v := 0) hx hb hr (fun t ht hW => ⟨⟨0, fl, rfl, ⟨(show zKn kq aq tq wn.toInt.toNat wh.toInt (fc 0).toInt (fc 1).toInt (fc 2).toInt wg.toInt fl from by exact hkn), (show (0 : Int32).toInt = (zLn kq aq tq wn.toInt.toNat wh.toInt (fc 0).toInt (fc 1).toInt (fc 2).toInt 2) d.toInt sec.toInt from by (have k9 : (0 : Int32).toInt = 0 := (by decide); rw [zLn_s, if_pos (by omega)]; exact k9)), ⟨by decide, by decide⟩⟩, zRet ht hP hD [0, 1, 2, 3] (by decide) rfl⟩, hS.F ht⟩) hS.2.2 dX5_least_21
      · have fc_3 : 1 ≤ d.toInt := zf_nlt c_3 rfl (by decide)
        refine lv_iload_n hx hb dX5_least_14 rfl (lv_at hl 2 rfl) ?_
        refine lv_bipush (v := 24) hx hb dX5_least_15 (by decide) ?_
        refine lv_icmp_le (tgt := 22) hx hb dX5_least_17 (by decide) (fun c_4 => ?_) (fun c_4 => ?_)
        · have fc_4 : d.toInt ≤ 24 := zf_le c_4 rfl (by decide)
          refine lv_iload_n hx hb dX5_least_22 rfl (lv_at hl 3 rfl) ?_
          refine lv_iload_n hx hb dX5_least_23 rfl (lv_at hl 1 rfl) ?_
          refine lv_aload_n hx hb dX5_least_24 rfl (lv_at hl 0 rfl) ?_
          refine va_get (D := D) (ci := 5) (v := .int wg) (C := RX5) (T := TX5) (N := 7) hx hb hts hi_X5_least_5 hown hK hP 0 rfl rfl 6 (by decide) (hts (.fieldLink RX5 34 "TheLiningsInIt$Ways" "longest" "I") (List.mem_of_getElem? (i := 1) rfl)) (fun _ h9 => h9) rfl dX5_least_25 ?_
          refine lv_imul hx hb dX5_least_28 ?_
          refine lv_topi (fun x_5 ex_5 => ?_)
          have qx_5 : x_5.toInt = 2 * wg.toInt := by rw [ex_5]; exact zf_mul (by decide) rfl (by omega) (by omega)
          refine lv_bipush (v := 30) hx hb dX5_least_29 (by decide) ?_
          refine lv_iadd hx hb dX5_least_31 ?_
          refine lv_topi (fun x_6 ex_6 => ?_)
          have qx_6 : x_6.toInt = x_5.toInt + 30 := by rw [ex_6]; exact zf_add rfl (by decide) (by omega) (by omega)
          refine lv_icmp_lt (tgt := 39) hx hb dX5_least_32 (by decide) (fun c_7 => ?_) (fun c_7 => ?_)
          · have fc_7 : sec.toInt < x_6.toInt := zf_lt c_7 rfl rfl
            refine lv_iconst (v := 0) hx hb dX5_least_39 (by decide) ?_
            refine lv_istore (lv' := [(4, .int 0), (0, .ref w0), (1, .int 2), (2, .int d), (3, .int sec)]) hx hb dX5_least_40 hl (by decide) rfl (fun ls hl => ?_)
            refine lv_iload_n hx hb dX5_least_42 rfl (lv_at hl 2 rfl) ?_
            refine lv_bipush (v := 25) hx hb dX5_least_43 (by decide) ?_
            refine lv_imul hx hb dX5_least_45 ?_
            refine lv_topi (fun y_8 ey_8 => ?_)
            obtain rfl : y_8 = 50 := ey_8.trans (by decide)
            refine lv_iload_n hx hb dX5_least_46 rfl (lv_at hl 3 rfl) ?_
            refine lv_iadd hx hb dX5_least_47 ?_
            refine lv_topi (fun x_9 ex_9 => ?_)
            have qx_9 : x_9.toInt = 50 + d.toInt := by rw [ex_9]; exact zf_add (by decide) rfl (by omega) (by omega)
            refine lv_istore (lv' := [(5, .int x_9), (4, .int 0), (0, .ref w0), (1, .int 2), (2, .int d), (3, .int sec)]) hx hb dX5_least_48 hl (by decide) rfl (fun ls hl => ?_)
            refine lv_iload hx hb dX5_least_50 (lv_at hl 1 rfl) ?_
            refine lv_if_eq (tgt := 74) hx hb dX5_least_52 (by decide) (fun c_10 => ?_) (fun c_10 => ?_)
            · refine lv_aload_n hx hb dX5_least_74 rfl (lv_at hl 2 rfl) ?_
              refine lv_iload_n hx hb dX5_least_75 rfl (lv_at hl 3 rfl) ?_
              refine lv_iload_n hx hb dX5_least_76 rfl (lv_at hl 5 rfl) ?_
              refine zc_V (As := [.int 2, .int sec]) (rest := []) ⟨hx, hb, hml, hown, hts⟩ (c_F_W_leastAtOnce_2 l D cI cJ cZ cP cS po w0 wk wl wc wp (wn) (wh) (wg) fc (sec) hy0 hy1 hy2 hy3 hy4 hy5 hy12 hy13 hp_fc) (cwV 2 hts gX5_least_X5_leastAtOnce rfl rfl rfl ⟨rfl, dh_X5_leastAtOnce⟩ ⟨Nat.le_of_ble_eq_true rfl, Nat.le_of_ble_eq_true rfl⟩) hK hN (hZ.kept hS) hP (hP.sub [0, 2] rfl) (va_recv (q := (RX5, TX5, 7)) hK hP (ci := 5) (q0 := 0) rfl rfl) rfl hl.1 rfl (Nat.le_of_ble_eq_true rfl) dX5_least_77 ⟨Nat.le_of_ble_eq_true rfl, Nat.le_of_ble_eq_true rfl⟩ (fun r_11 hr_11 => ?_)
              obtain ⟨g_12, g_13, hsr_11_0⟩ := hr_11
              refine lv_istore (lv' := [(6, .int r_11), (5, .int x_9), (4, .int 0), (0, .ref w0), (1, .int 2), (2, .int d), (3, .int sec)]) hx hb dX5_least_80 hl (by decide) rfl (fun ls hl => ?_)
              refine lv_iconst (v := 0) hx hb dX5_least_82 (by decide) ?_
              refine lv_istore (lv' := [(7, .int 0), (6, .int r_11), (5, .int x_9), (4, .int 0), (0, .ref w0), (1, .int 2), (2, .int d), (3, .int sec)]) hx hb dX5_least_83 hl (by decide) rfl (fun ls hl => ?_)
              obtain ⟨i_85, hi_85⟩ : ∃ i : Int32, i = 0 := ⟨_, rfl⟩
              replace hl : lv_has ls 9 [(7, .int i_85), (6, .int r_11), (5, .int x_9), (4, .int 0), (0, .ref w0), (1, .int 2), (2, .int d), (3, .int sec)] := by rw [hi_85]; exact lv_sub hl [0, 1, 2, 3, 4, 5, 6, 7] rfl
              have h1i_85 : i_85.toInt = 0 := by rw [hi_85]; decide
              obtain ⟨nfu, hni_85⟩ : ∃ nq9 : Nat, wn.toInt ≤ i_85.toInt + (nq9 : Int) := ⟨((wn.toInt : Int) - 0).toNat, by omega⟩
              have hloi_85 : 0 ≤ i_85.toInt := by omega
              obtain ⟨g_14, hg_14⟩ : ∃ g : Nat → Int32, g = fl := ⟨_, rfl⟩
              replace hP : va_P D vwCl [(w0, .inr (5, [.ref wk, .ref wl, .ref wc, .ref wp, .int wn, .int wh, .int wg])), (wl, .inl (cI, 125, .inl g_14)), (wc, .inl (cI, 3, .inl fc)), (wp, .inl (cP, 8, .inr (.inr (.inr (.inr fq)))))] H := by rw [hg_14]; exact hP
              replace hD : va_D (va_A [(w0, .inr (5, [.ref wk, .ref wl, .ref wc, .ref wp, .int wn, .int wh, .int wg])), (wl, .inl (cI, 125, .inl fl)), (wc, .inl (cI, 3, .inl fc)), (wp, .inl (cP, 8, .inr (.inr (.inr (.inr fq)))))] s.heap.size) [(w0, .inr (5, [.ref wk, .ref wl, .ref wc, .ref wp, .int wn, .int wh, .int wg])), (wl, .inl (cI, 125, .inl g_14)), (wc, .inl (cI, 3, .inl fc)), (wp, .inl (cP, 8, .inr (.inr (.inr (.inr fq)))))] := by rw [hg_14]; exact hD
              obtain ⟨v_15, hv_15⟩ : ∃ g : Int32, g = r_11 := ⟨_, rfl⟩
              replace hl : lv_has ls 9 [(7, .int i_85), (6, .int v_15), (5, .int x_9), (4, .int 0), (0, .ref w0), (1, .int 2), (2, .int d), (3, .int sec)] := by rw [hv_15]; exact hl
              have hbv_15 : 0 ≤ v_15.toInt ∧ v_15.toInt ≤ 14256 := by rw [hv_15]; exact ⟨by omega, by omega⟩
              have hvi_85_0 : zKn kq aq tq wn.toInt.toNat wh.toInt (fc 0).toInt (fc 1).toInt (fc 2).toInt wg.toInt g_14 := by
                (try rw [hi_85]); (try rw [hg_14]); (try rw [hv_15]); exact hkn
              have hvi_85_1 : (v_15 : Int32).toInt = zFi tq d.toInt sec.toInt (zPw 2 * zAt (fc 1).toInt (fc 2).toInt sec.toInt) (zLv (zLn kq aq tq wn.toInt.toNat wh.toInt (fc 0).toInt (fc 1).toInt (fc 2).toInt 1) kq aq tq (fc 0).toInt (zPw 2) wh.toInt d.toInt sec.toInt) i_85.toInt.toNat := by
                (try rw [hi_85]); (try rw [hg_14]); (try rw [hv_15]); (rw [(show ((0 : Int32).toInt.toNat) = 0 from by decide)]; exact hsr_11_0)
              have hvi_85_2 : i_85.toInt ≤ wn.toInt := by
                (try rw [hi_85]); (try rw [hg_14]); (try rw [hv_15]); (have k0 : (0 : Int32).toInt = 0 := (by decide); omega)
              clear h1i_85 hi_85 hg_14 hv_15
              skip
              revert hni_85
              revert hloi_85
              revert hvi_85_2
              revert hvi_85_1
              revert hvi_85_0
              revert hbv_15
              revert hl
              revert hS
              revert hD
              revert hP
              revert ls
              revert locs
              revert H
              revert g_14
              revert v_15
              revert i_85
              induction nfu with
              | zero =>
                intro i_85 v_15 g_14 H locs ls hP hD hS hl hbv_15 hvi_85_0 hvi_85_1 hvi_85_2 hloi_85 hni_85
                have hzi_85 : wn.toInt ≤ i_85.toInt := by omega
                refine lv_iload hx hb dX5_least_85 (lv_at hl 0 rfl) ?_
                refine lv_aload_n hx hb dX5_least_87 rfl (lv_at hl 4 rfl) ?_
                refine va_get (D := D) (ci := 5) (v := .int wn) (C := RX5) (T := TX5) (N := 7) hx hb hts hi_X5_least_5 hown hK hP 0 rfl rfl 4 (by decide) (hts (.fieldLink RX5 27 "TheLiningsInIt$Ways" "count" "I") (List.mem_of_getElem? (i := 3) rfl)) (fun _ h9 => h9) rfl dX5_least_88 ?_
                refine lv_icmp_ge (tgt := 135) hx hb dX5_least_91 (by decide) (fun c_16 => ?_) (fun c_16 => ?_)
                · have fc_16 : wn.toInt ≤ i_85.toInt := zf_le c_16 rfl rfl
                  refine lv_iload hx hb dX5_least_135 (lv_at hl 3 rfl) ?_
                  refine lv_if_eq (tgt := 149) hx hb dX5_least_137 (by decide) (fun c_17 => ?_) (fun c_17 => ?_)
                  · refine lv_iload hx hb dX5_least_149 (lv_at hl 1 rfl) ?_
                    exact W.iret (v := v_15) hx hb hr (fun t ht hW => ⟨⟨v_15, g_14, rfl, ⟨(show zKn kq aq tq wn.toInt.toNat wh.toInt (fc 0).toInt (fc 1).toInt (fc 2).toInt wg.toInt g_14 from by exact hvi_85_0), (show (v_15 : Int32).toInt = (zLn kq aq tq wn.toInt.toNat wh.toInt (fc 0).toInt (fc 1).toInt (fc 2).toInt 2) d.toInt sec.toInt from by (have h9 : i_85.toInt.toNat = wn.toInt.toNat := (by omega); have z := hvi_85_1; rw [h9] at z; rw [zLn_s, if_neg (by omega)]; exact z)), ⟨by omega, by omega⟩⟩, zRet ht hP hD [0, 1, 2, 3] (by decide) rfl⟩, hS.F ht⟩) hS.2.2 dX5_least_151
                  · exact absurd c_17 (by decide)
                · exfalso; have fc_16 : i_85.toInt < wn.toInt := zf_nle c_16 rfl rfl; omega
              | succ nfu ih =>
                intro i_85 v_15 g_14 H locs ls hP hD hS hl hbv_15 hvi_85_0 hvi_85_1 hvi_85_2 hloi_85 hni_85
                refine lv_iload hx hb dX5_least_85 (lv_at hl 0 rfl) ?_
                refine lv_aload_n hx hb dX5_least_87 rfl (lv_at hl 4 rfl) ?_
                refine va_get (D := D) (ci := 5) (v := .int wn) (C := RX5) (T := TX5) (N := 7) hx hb hts hi_X5_least_5 hown hK hP 0 rfl rfl 4 (by decide) (hts (.fieldLink RX5 27 "TheLiningsInIt$Ways" "count" "I") (List.mem_of_getElem? (i := 3) rfl)) (fun _ h9 => h9) rfl dX5_least_88 ?_
                refine lv_icmp_ge (tgt := 135) hx hb dX5_least_91 (by decide) (fun c_18 => ?_) (fun c_18 => ?_)
                · have fc_18 : wn.toInt ≤ i_85.toInt := zf_le c_18 rfl rfl
                  refine lv_iload hx hb dX5_least_135 (lv_at hl 3 rfl) ?_
                  refine lv_if_eq (tgt := 149) hx hb dX5_least_137 (by decide) (fun c_19 => ?_) (fun c_19 => ?_)
                  · refine lv_iload hx hb dX5_least_149 (lv_at hl 1 rfl) ?_
                    exact W.iret (v := v_15) hx hb hr (fun t ht hW => ⟨⟨v_15, g_14, rfl, ⟨(show zKn kq aq tq wn.toInt.toNat wh.toInt (fc 0).toInt (fc 1).toInt (fc 2).toInt wg.toInt g_14 from by exact hvi_85_0), (show (v_15 : Int32).toInt = (zLn kq aq tq wn.toInt.toNat wh.toInt (fc 0).toInt (fc 1).toInt (fc 2).toInt 2) d.toInt sec.toInt from by (have h9 : i_85.toInt.toNat = wn.toInt.toNat := (by omega); have z := hvi_85_1; rw [h9] at z; rw [zLn_s, if_neg (by omega)]; exact z)), ⟨by omega, by omega⟩⟩, zRet ht hP hD [0, 1, 2, 3] (by decide) rfl⟩, hS.F ht⟩) hS.2.2 dX5_least_151
                  · exact absurd c_19 (by decide)
                · have fc_18 : i_85.toInt < wn.toInt := zf_nle c_18 rfl rfl
                  refine lv_iload_n hx hb dX5_least_94 rfl (lv_at hl 5 rfl) ?_
                  refine lv_if_le (tgt := 135) hx hb dX5_least_95 (by decide) (fun c_20 => ?_) (fun c_20 => ?_)
                  · exact absurd c_20 (by decide)
                  · refine lv_aload_n hx hb dX5_least_98 rfl (lv_at hl 4 rfl) ?_
                    refine lv_iload hx hb dX5_least_99 (lv_at hl 0 rfl) ?_
                    refine lv_iload_n hx hb dX5_least_101 rfl (lv_at hl 6 rfl) ?_
                    refine lv_iload_n hx hb dX5_least_102 rfl (lv_at hl 7 rfl) ?_
                    refine zc_Vq (As := [.int i_85, .int d, .int sec]) (rest := []) ⟨hx, hb, hml, hown, hts⟩ (c_F_W_mayBeAt l D cI cJ cZ cP cS po w0 wk wl wc wp (wn) (wh) (wg) fq kq aq tq (tw) (i_85) (d) (sec) hy0 hy1 hy2 hy3 hy4 hy5 hjw (by omega) (by omega) (by omega) hy12 hy13) (cwV 3 hts gX5_least_X5_mayBeAt rfl rfl rfl ⟨rfl, dh_X5_mayBeAt⟩ ⟨Nat.le_of_ble_eq_true rfl, Nat.le_of_ble_eq_true rfl⟩) hK hN (hZ.kept hS) hP (hP.sub [0, 3] rfl) (va_recv (q := (RX5, TX5, 7)) hK hP (ci := 5) (q0 := 0) rfl rfl) rfl hl.1 rfl (Nat.le_of_ble_eq_true rfl) dX5_least_103 ⟨Nat.le_of_ble_eq_true rfl, Nat.le_of_ble_eq_true rfl⟩ (fun r_21 hr_21 => ?_)
                    rcases hr_21 with ⟨rfl, hn_22⟩ | ⟨rfl, hn_24, g_23⟩ | ⟨rfl, hn_26, g_25⟩ | ⟨⟨u_28, kiu_28, au_28, tu_28, rfl, huu_28, hkku_28⟩, g_27⟩
                    · refine lv_astoreN (lv' := [(8, .null), (7, .int i_85), (6, .int v_15), (5, .int x_9), (4, .int 0), (0, .ref w0), (1, .int 2), (2, .int d), (3, .int sec)]) hx hb dX5_least_106 hl (by decide) rfl (fun ls hl => ?_)
                      refine lv_aloadN hx hb dX5_least_108 (lv_at hl 0 rfl) ?_
                      refine lv_ifnullN (tgt := 129) hx hb dX5_least_110 (by decide) ?_
                      obtain ⟨x_29, ex_29⟩ : ∃ y : Int32, y = i_85 + 1 := ⟨_, rfl⟩
                      have qx_29 : x_29.toInt = i_85.toInt + 1 := dw_inc ex_29 fc_18
                      refine lv_iinc (v := x_29) (lv' := [(7, .int x_29), (8, .null), (6, .int v_15), (5, .int x_9), (4, .int 0), (0, .ref w0), (1, .int 2), (2, .int d), (3, .int sec)]) hx hb dX5_least_129 hl (k := 1) rfl ex_29.symm (by decide) rfl (fun ls hl => ?_)
                      refine lv_goto (tgt := 85) hx hb dX5_least_132 (by decide) ?_
                      exact ih x_29 v_15 (g_14) _ _ _ (hP.sub [0, 1, 2, 3] rfl) (hD.sub [0, 1, 2, 3] (by decide) rfl) hS (lv_sub hl [0, 2, 3, 4, 5, 6, 7, 8] rfl) hbv_15 (show zKn kq aq tq wn.toInt.toNat wh.toInt (fc 0).toInt (fc 1).toInt (fc 2).toInt wg.toInt g_14 from by exact hvi_85_0) (show (v_15 : Int32).toInt = zFi tq d.toInt sec.toInt (zPw 2 * zAt (fc 1).toInt (fc 2).toInt sec.toInt) (zLv (zLn kq aq tq wn.toInt.toNat wh.toInt (fc 0).toInt (fc 1).toInt (fc 2).toInt 1) kq aq tq (fc 0).toInt (zPw 2) wh.toInt d.toInt sec.toInt) x_29.toInt.toNat from by (have hx : x_29.toInt.toNat = i_85.toInt.toNat + 1 := (by omega); have y4 := hn_22; have y9 : i_85.toNatClampNeg = i_85.toInt.toNat := rfl; rw [y9] at y4; rw [hx, zFi_n (fun z => y4 ⟨z.1, z.2, Or.inl (by omega)⟩)]; exact hvi_85_1)) (show x_29.toInt ≤ wn.toInt from by omega) (dw_lo hloi_85 qx_29) (dw_hn hni_85 qx_29)
                    · exfalso; omega
                    · refine lv_astoreN (lv' := [(8, .null), (7, .int i_85), (6, .int v_15), (5, .int x_9), (4, .int 0), (0, .ref w0), (1, .int 2), (2, .int d), (3, .int sec)]) hx hb dX5_least_106 hl (by decide) rfl (fun ls hl => ?_)
                      refine lv_aloadN hx hb dX5_least_108 (lv_at hl 0 rfl) ?_
                      refine lv_ifnullN (tgt := 129) hx hb dX5_least_110 (by decide) ?_
                      obtain ⟨x_30, ex_30⟩ : ∃ y : Int32, y = i_85 + 1 := ⟨_, rfl⟩
                      have qx_30 : x_30.toInt = i_85.toInt + 1 := dw_inc ex_30 fc_18
                      refine lv_iinc (v := x_30) (lv' := [(7, .int x_30), (8, .null), (6, .int v_15), (5, .int x_9), (4, .int 0), (0, .ref w0), (1, .int 2), (2, .int d), (3, .int sec)]) hx hb dX5_least_129 hl (k := 1) rfl ex_30.symm (by decide) rfl (fun ls hl => ?_)
                      refine lv_goto (tgt := 85) hx hb dX5_least_132 (by decide) ?_
                      exact ih x_30 v_15 (g_14) _ _ _ (hP.sub [0, 1, 2, 3] rfl) (hD.sub [0, 1, 2, 3] (by decide) rfl) hS (lv_sub hl [0, 2, 3, 4, 5, 6, 7, 8] rfl) hbv_15 (show zKn kq aq tq wn.toInt.toNat wh.toInt (fc 0).toInt (fc 1).toInt (fc 2).toInt wg.toInt g_14 from by exact hvi_85_0) (show (v_15 : Int32).toInt = zFi tq d.toInt sec.toInt (zPw 2 * zAt (fc 1).toInt (fc 2).toInt sec.toInt) (zLv (zLn kq aq tq wn.toInt.toNat wh.toInt (fc 0).toInt (fc 1).toInt (fc 2).toInt 1) kq aq tq (fc 0).toInt (zPw 2) wh.toInt d.toInt sec.toInt) x_30.toInt.toNat from by (have hx : x_30.toInt.toNat = i_85.toInt.toNat + 1 := (by omega); have y4 := hn_26; have y9 : i_85.toNatClampNeg = i_85.toInt.toNat := rfl; rw [y9] at y4; rw [hx, zFi_n (fun z => y4 ⟨z.1, z.2, Or.inl (by omega)⟩)]; exact hvi_85_1)) (show x_30.toInt ≤ wn.toInt from by omega) (dw_lo hloi_85 qx_30) (dw_hn hni_85 qx_30)
                    · refine W.eq (g2 := F0 m 106 ls (.ref u_28 :: [])) rfl ?_
                      obtain ⟨hku_28, hau_28, htu_28⟩ := zPu_pr (hZ.kept hS) huu_28
                      refine lv_astore (lv' := [(8, .ref u_28), (7, .int i_85), (6, .int v_15), (5, .int x_9), (4, .int 0), (0, .ref w0), (1, .int 2), (2, .int d), (3, .int sec)]) hx hb dX5_least_106 hl (by decide) rfl (fun ls hl => ?_)
                      refine lv_aload hx hb dX5_least_108 (lv_at hl 0 rfl) ?_
                      refine lv_ifnull hx hb dX5_least_110 ?_
                      refine lv_iload hx hb dX5_least_113 (lv_at hl 2 rfl) ?_
                      refine lv_aload_n hx hb dX5_least_115 rfl (lv_at hl 5 rfl) ?_
                      refine lv_aload hx hb dX5_least_116 (lv_at hl 0 rfl) ?_
                      refine lv_iload_n hx hb dX5_least_118 rfl (lv_at hl 6 rfl) ?_
                      refine lv_iload_n hx hb dX5_least_119 rfl (lv_at hl 7 rfl) ?_
                      refine lv_iload_n hx hb dX5_least_120 rfl (lv_at hl 8 rfl) ?_
                      have tsu_28 : tu_28.toInt ≤ sec.toInt := by (obtain ⟨⟨y1, y2, y3⟩, y4⟩ := hkku_28; have z := y4.2.1; rw [y3]; exact z)
                      skip
                      refine zw_V (As := [.ref u_28, .int 2, .int d, .int sec]) (rest := [.int v_15]) (wr := []) ⟨hx, hb, hml, hown, hts⟩ (c_F_W_leastBy_2 l D cI cJ cZ cP cS po w0 wk wl wc wp (wn) (wh) (wg) fq kq aq tq (tw) g_14 fc (d) (sec) u_28 (kiu_28) (au_28) (tu_28) huu_28 ⟨by omega, by omega, by omega, by omega⟩ hy0 hy1 hy2 hy3 hy4 hy5 hjw (by first | assumption | omega) (by first | assumption | omega) (by first | assumption | omega | decide) hy10 hy11 hy12 hy13 (by omega) hp_fc H.size) (cwV 4 hts gX5_least_X5_leastBy rfl rfl rfl ⟨rfl, dh_X5_leastBy⟩ ⟨Nat.le_of_ble_eq_true rfl, Nat.le_of_ble_eq_true rfl⟩) hK hN (hZ.kept hS) hP hD hS hA [0, 1, 2, 3] [] rfl rfl (by decide) (by decide) (by decide) (va_recv (q := (RX5, TX5, 7)) hK hP (ci := 5) (q0 := 0) rfl rfl) rfl hl.1 rfl (Nat.le_of_ble_eq_true rfl) dX5_least_121 ⟨Nat.le_of_ble_eq_true rfl, Nat.le_of_ble_eq_true rfl⟩ (fun r_31 u_32 H locs hr_31 hP hD hS => ?_)
                      obtain ⟨q_33, rfl⟩ : ∃ z, z = u_32 := ⟨_, rfl⟩
                      obtain ⟨hsr_31_0, hsr_31_1, hr_31⟩ := hr_31
                      have h9R := zRe (ws' := [(w0, .inr (5, [.ref wk, .ref wl, .ref wc, .ref wp, .int wn, .int wh, .int wg])), (wl, .inl (cI, 125, .inl q_33)), (wc, .inl (cI, 3, .inl fc)), (wp, .inl (cP, 8, .inr (.inr (.inr (.inr fq)))))]) hP hD rfl
                      clear hP hD
                      obtain ⟨hP, hD⟩ := h9R
                      obtain ⟨g_34, g_35⟩ := hr_31
                      refine va_mmin hx hb (hml.trans hl.1.symm) hown (hts (.methodLink RX5 110 Lib.Math.min.name) (List.mem_of_getElem? (i := 4) rfl)) (hts _ (List.mem_of_getElem? (i := 5) rfl)) (hts _ (List.mem_of_getElem? (i := 6) rfl)) (hts _ (List.mem_of_getElem? (i := 7) rfl)) (Nat.le_of_ble_eq_true rfl) (Nat.le_of_ble_eq_true rfl) (Nat.le_of_ble_eq_true rfl) (Nat.le_of_ble_eq_true rfl) dX5_least_124 ?_
                      refine lv_topi (fun x_36 ex_36 => ?_)
                      have qx_36 := zf_min ex_36 (x1 := v_15.toInt) (y1 := r_31.toInt) rfl rfl
                      refine lv_istore (lv' := [(6, .int x_36), (8, .ref u_28), (7, .int i_85), (5, .int x_9), (4, .int 0), (0, .ref w0), (1, .int 2), (2, .int d), (3, .int sec)]) hx hb dX5_least_127 hl (by decide) rfl (fun ls hl => ?_)
                      obtain ⟨x_37, ex_37⟩ : ∃ y : Int32, y = i_85 + 1 := ⟨_, rfl⟩
                      have qx_37 : x_37.toInt = i_85.toInt + 1 := dw_inc ex_37 fc_18
                      refine lv_iinc (v := x_37) (lv' := [(7, .int x_37), (6, .int x_36), (8, .ref u_28), (5, .int x_9), (4, .int 0), (0, .ref w0), (1, .int 2), (2, .int d), (3, .int sec)]) hx hb dX5_least_129 hl (k := 2) rfl ex_37.symm (by decide) rfl (fun ls hl => ?_)
                      refine lv_goto (tgt := 85) hx hb dX5_least_132 (by decide) ?_
                      exact ih x_37 x_36 (q_33) _ _ _ (hP.sub [0, 1, 2, 3] rfl) (hD.sub [0, 1, 2, 3] (by decide) rfl) hS (lv_sub hl [0, 1, 3, 4, 5, 6, 7, 8] rfl) ⟨by omega, by omega⟩ (show zKn kq aq tq wn.toInt.toNat wh.toInt (fc 0).toInt (fc 1).toInt (fc 2).toInt wg.toInt q_33 from by exact hsr_31_0) (show (x_36 : Int32).toInt = zFi tq d.toInt sec.toInt (zPw 2 * zAt (fc 1).toInt (fc 2).toInt sec.toInt) (zLv (zLn kq aq tq wn.toInt.toNat wh.toInt (fc 0).toInt (fc 1).toInt (fc 2).toInt 1) kq aq tq (fc 0).toInt (zPw 2) wh.toInt d.toInt sec.toInt) x_37.toInt.toNat from by (have hx : x_37.toInt.toNat = i_85.toInt.toNat + 1 := (by omega); obtain ⟨⟨y1, y2, y3⟩, y4⟩ := hkku_28; have y9 : i_85.toNatClampNeg = i_85.toInt.toNat := rfl; rw [y9] at y1 y2 y3 y4; rw [hx, zFi_y ⟨y4.1, y4.2.1⟩, ← hvi_85_1]; have zr := hsr_31_1; rw [y1, y2, y3] at zr; have zr2 : r_31.toInt = (zLv (zLn kq aq tq wn.toInt.toNat wh.toInt (fc 0).toInt (fc 1).toInt (fc 2).toInt 1) kq aq tq (fc 0).toInt (zPw 2) wh.toInt d.toInt sec.toInt) i_85.toInt.toNat := zr; omega)) (show x_37.toInt ≤ wn.toInt from by omega) (dw_lo hloi_85 qx_37) (dw_hn hni_85 qx_37)
            · exact absurd c_10 (by decide)
          · have fc_7 : x_6.toInt ≤ sec.toInt := zf_nlt c_7 rfl rfl
            refine lv_iconst (v := 1) hx hb dX5_least_35 (by decide) ?_
            refine lv_goto (tgt := 40) hx hb dX5_least_36 (by decide) ?_
            refine lv_istore (lv' := [(4, .int 1), (0, .ref w0), (1, .int 2), (2, .int d), (3, .int sec)]) hx hb dX5_least_40 hl (by decide) rfl (fun ls hl => ?_)
            refine lv_iload_n hx hb dX5_least_42 rfl (lv_at hl 2 rfl) ?_
            refine lv_bipush (v := 25) hx hb dX5_least_43 (by decide) ?_
            refine lv_imul hx hb dX5_least_45 ?_
            refine lv_topi (fun y_38 ey_38 => ?_)
            obtain rfl : y_38 = 50 := ey_38.trans (by decide)
            refine lv_iload_n hx hb dX5_least_46 rfl (lv_at hl 3 rfl) ?_
            refine lv_iadd hx hb dX5_least_47 ?_
            refine lv_topi (fun x_39 ex_39 => ?_)
            have qx_39 : x_39.toInt = 50 + d.toInt := by rw [ex_39]; exact zf_add (by decide) rfl (by omega) (by omega)
            refine lv_istore (lv' := [(5, .int x_39), (4, .int 1), (0, .ref w0), (1, .int 2), (2, .int d), (3, .int sec)]) hx hb dX5_least_48 hl (by decide) rfl (fun ls hl => ?_)
            refine lv_iload hx hb dX5_least_50 (lv_at hl 1 rfl) ?_
            refine lv_if_eq (tgt := 74) hx hb dX5_least_52 (by decide) (fun c_40 => ?_) (fun c_40 => ?_)
            · exact absurd c_40 (by decide)
            · refine lv_aload_n hx hb dX5_least_55 rfl (lv_at hl 2 rfl) ?_
              refine va_get (D := D) (ci := 5) (v := .ref wl) (C := RX5) (T := TX5) (N := 7) hx hb hts hi_X5_least_5 hown hK hP 0 rfl rfl 1 (by decide) (hts (.fieldLink RX5 15 "TheLiningsInIt$Ways" "knownLeast" "[I") (List.mem_of_getElem? (i := 2) rfl)) (fun _ h9 => h9) rfl dX5_least_56 ?_
              refine lv_iload hx hb dX5_least_59 (lv_at hl 0 rfl) ?_
              refine va_iald hx hb hK hP 1 0 rfl rfl (zf_in (by omega) (by omega)) dX5_least_61 ?_
              refine lv_topi (fun x_41 ex_41 => ?_)
              refine lv_iconst (v := (-1)) hx hb dX5_least_62 (by decide) ?_
              refine lv_icmp_eq (tgt := 74) hx hb dX5_least_63 (by decide) (fun c_42 => ?_) (fun c_42 => ?_)
              · have fc_42 : x_41.toInt = (-1) := zf_eq c_42 rfl (by decide)
                refine lv_aload_n hx hb dX5_least_74 rfl (lv_at hl 2 rfl) ?_
                refine lv_iload_n hx hb dX5_least_75 rfl (lv_at hl 3 rfl) ?_
                refine lv_iload_n hx hb dX5_least_76 rfl (lv_at hl 5 rfl) ?_
                refine zc_V (As := [.int 2, .int sec]) (rest := []) ⟨hx, hb, hml, hown, hts⟩ (c_F_W_leastAtOnce_2 l D cI cJ cZ cP cS po w0 wk wl wc wp (wn) (wh) (wg) fc (sec) hy0 hy1 hy2 hy3 hy4 hy5 hy12 hy13 hp_fc) (cwV 2 hts gX5_least_X5_leastAtOnce rfl rfl rfl ⟨rfl, dh_X5_leastAtOnce⟩ ⟨Nat.le_of_ble_eq_true rfl, Nat.le_of_ble_eq_true rfl⟩) hK hN (hZ.kept hS) hP (hP.sub [0, 2] rfl) (va_recv (q := (RX5, TX5, 7)) hK hP (ci := 5) (q0 := 0) rfl rfl) rfl hl.1 rfl (Nat.le_of_ble_eq_true rfl) dX5_least_77 ⟨Nat.le_of_ble_eq_true rfl, Nat.le_of_ble_eq_true rfl⟩ (fun r_43 hr_43 => ?_)
                obtain ⟨g_44, g_45, hsr_43_0⟩ := hr_43
                refine lv_istore (lv' := [(6, .int r_43), (5, .int x_39), (4, .int 1), (0, .ref w0), (1, .int 2), (2, .int d), (3, .int sec)]) hx hb dX5_least_80 hl (by decide) rfl (fun ls hl => ?_)
                refine lv_iconst (v := 0) hx hb dX5_least_82 (by decide) ?_
                refine lv_istore (lv' := [(7, .int 0), (6, .int r_43), (5, .int x_39), (4, .int 1), (0, .ref w0), (1, .int 2), (2, .int d), (3, .int sec)]) hx hb dX5_least_83 hl (by decide) rfl (fun ls hl => ?_)
                obtain ⟨i_85, hi_85⟩ : ∃ i : Int32, i = 0 := ⟨_, rfl⟩
                replace hl : lv_has ls 9 [(7, .int i_85), (6, .int r_43), (5, .int x_39), (4, .int 1), (0, .ref w0), (1, .int 2), (2, .int d), (3, .int sec)] := by rw [hi_85]; exact lv_sub hl [0, 1, 2, 3, 4, 5, 6, 7] rfl
                have h1i_85 : i_85.toInt = 0 := by rw [hi_85]; decide
                obtain ⟨nfu, hni_85⟩ : ∃ nq9 : Nat, wn.toInt ≤ i_85.toInt + (nq9 : Int) := ⟨((wn.toInt : Int) - 0).toNat, by omega⟩
                have hloi_85 : 0 ≤ i_85.toInt := by omega
                obtain ⟨g_46, hg_46⟩ : ∃ g : Nat → Int32, g = fl := ⟨_, rfl⟩
                replace hP : va_P D vwCl [(w0, .inr (5, [.ref wk, .ref wl, .ref wc, .ref wp, .int wn, .int wh, .int wg])), (wl, .inl (cI, 125, .inl g_46)), (wc, .inl (cI, 3, .inl fc)), (wp, .inl (cP, 8, .inr (.inr (.inr (.inr fq)))))] H := by rw [hg_46]; exact hP
                replace hD : va_D (va_A [(w0, .inr (5, [.ref wk, .ref wl, .ref wc, .ref wp, .int wn, .int wh, .int wg])), (wl, .inl (cI, 125, .inl fl)), (wc, .inl (cI, 3, .inl fc)), (wp, .inl (cP, 8, .inr (.inr (.inr (.inr fq)))))] s.heap.size) [(w0, .inr (5, [.ref wk, .ref wl, .ref wc, .ref wp, .int wn, .int wh, .int wg])), (wl, .inl (cI, 125, .inl g_46)), (wc, .inl (cI, 3, .inl fc)), (wp, .inl (cP, 8, .inr (.inr (.inr (.inr fq)))))] := by rw [hg_46]; exact hD
                obtain ⟨v_47, hv_47⟩ : ∃ g : Int32, g = r_43 := ⟨_, rfl⟩
                replace hl : lv_has ls 9 [(7, .int i_85), (6, .int v_47), (5, .int x_39), (4, .int 1), (0, .ref w0), (1, .int 2), (2, .int d), (3, .int sec)] := by rw [hv_47]; exact hl
                have hbv_47 : 0 ≤ v_47.toInt ∧ v_47.toInt ≤ 14256 := by rw [hv_47]; exact ⟨by omega, by omega⟩
                have hvi_85_0 : zKn kq aq tq wn.toInt.toNat wh.toInt (fc 0).toInt (fc 1).toInt (fc 2).toInt wg.toInt g_46 := by
                  (try rw [hi_85]); (try rw [hg_46]); (try rw [hv_47]); exact hkn
                have hvi_85_1 : (v_47 : Int32).toInt = zFi tq d.toInt sec.toInt (zPw 2 * zAt (fc 1).toInt (fc 2).toInt sec.toInt) (zLv (zLn kq aq tq wn.toInt.toNat wh.toInt (fc 0).toInt (fc 1).toInt (fc 2).toInt 1) kq aq tq (fc 0).toInt (zPw 2) wh.toInt d.toInt sec.toInt) i_85.toInt.toNat := by
                  (try rw [hi_85]); (try rw [hg_46]); (try rw [hv_47]); (rw [(show ((0 : Int32).toInt.toNat) = 0 from by decide)]; exact hsr_43_0)
                have hvi_85_2 : i_85.toInt ≤ wn.toInt := by
                  (try rw [hi_85]); (try rw [hg_46]); (try rw [hv_47]); (have k0 : (0 : Int32).toInt = 0 := (by decide); omega)
                clear h1i_85 hi_85 hg_46 hv_47
                skip
                revert hni_85
                revert hloi_85
                revert hvi_85_2
                revert hvi_85_1
                revert hvi_85_0
                revert hbv_47
                revert hl
                revert hS
                revert hD
                revert hP
                revert ls
                revert locs
                revert H
                revert g_46
                revert v_47
                revert i_85
                induction nfu with
                | zero =>
                  intro i_85 v_47 g_46 H locs ls hP hD hS hl hbv_47 hvi_85_0 hvi_85_1 hvi_85_2 hloi_85 hni_85
                  have hzi_85 : wn.toInt ≤ i_85.toInt := by omega
                  refine lv_iload hx hb dX5_least_85 (lv_at hl 0 rfl) ?_
                  refine lv_aload_n hx hb dX5_least_87 rfl (lv_at hl 4 rfl) ?_
                  refine va_get (D := D) (ci := 5) (v := .int wn) (C := RX5) (T := TX5) (N := 7) hx hb hts hi_X5_least_5 hown hK hP 0 rfl rfl 4 (by decide) (hts (.fieldLink RX5 27 "TheLiningsInIt$Ways" "count" "I") (List.mem_of_getElem? (i := 3) rfl)) (fun _ h9 => h9) rfl dX5_least_88 ?_
                  refine lv_icmp_ge (tgt := 135) hx hb dX5_least_91 (by decide) (fun c_48 => ?_) (fun c_48 => ?_)
                  · have fc_48 : wn.toInt ≤ i_85.toInt := zf_le c_48 rfl rfl
                    refine lv_iload hx hb dX5_least_135 (lv_at hl 3 rfl) ?_
                    refine lv_if_eq (tgt := 149) hx hb dX5_least_137 (by decide) (fun c_49 => ?_) (fun c_49 => ?_)
                    · exact absurd c_49 (by decide)
                    · refine lv_aload_n hx hb dX5_least_140 rfl (lv_at hl 4 rfl) ?_
                      refine va_get (D := D) (ci := 5) (v := .ref wl) (C := RX5) (T := TX5) (N := 7) hx hb hts hi_X5_least_5 hown hK hP 0 rfl rfl 1 (by decide) (hts (.fieldLink RX5 15 "TheLiningsInIt$Ways" "knownLeast" "[I") (List.mem_of_getElem? (i := 2) rfl)) (fun _ h9 => h9) rfl dX5_least_141 ?_
                      refine lv_iload hx hb dX5_least_144 (lv_at hl 2 rfl) ?_
                      refine lv_iload hx hb dX5_least_146 (lv_at hl 1 rfl) ?_
                      refine va_iast hx hb hK hP hD hS 1 0 rfl rfl (zf_in (by omega) (by omega)) dX5_least_148 (fun H locs hP hD hS => ?_)
                      obtain ⟨g_50, hg_50⟩ : ∃ g : Nat → Int32, g = upd g_46 x_39.toNatClampNeg v_47 := ⟨_, rfl⟩
                      rw [← hg_50] at hP hD
                      have h9R := zRe (ws' := [(w0, .inr (5, [.ref wk, .ref wl, .ref wc, .ref wp, .int wn, .int wh, .int wg])), (wl, .inl (cI, 125, .inl g_50)), (wc, .inl (cI, 3, .inl fc)), (wp, .inl (cP, 8, .inr (.inr (.inr (.inr fq)))))]) hP hD rfl
                      clear hP hD
                      obtain ⟨hP, hD⟩ := h9R
                      refine lv_iload hx hb dX5_least_149 (lv_at hl 1 rfl) ?_
                      exact W.iret (v := v_47) hx hb hr (fun t ht hW => ⟨⟨v_47, g_50, rfl, ⟨(show zKn kq aq tq wn.toInt.toNat wh.toInt (fc 0).toInt (fc 1).toInt (fc 2).toInt wg.toInt g_50 from by (rw [hg_50]; exact zKn_u (m := 2) (d := d) (s := sec) hvi_85_0 (by omega) hgl (by omega) ⟨by omega, by omega⟩ (by omega) (by have h9 : i_85.toInt.toNat = wn.toInt.toNat := (by omega); have z := hvi_85_1; rw [h9] at z; rw [zLn_s, if_neg (by omega)]; exact z))), (show (v_47 : Int32).toInt = (zLn kq aq tq wn.toInt.toNat wh.toInt (fc 0).toInt (fc 1).toInt (fc 2).toInt 2) d.toInt sec.toInt from by (have h9 : i_85.toInt.toNat = wn.toInt.toNat := (by omega); have z := hvi_85_1; rw [h9] at z; rw [zLn_s, if_neg (by omega)]; exact z)), ⟨by omega, by omega⟩⟩, zRet ht hP hD [0, 1, 2, 3] (by decide) rfl⟩, hS.F ht⟩) hS.2.2 dX5_least_151
                  · exfalso; have fc_48 : i_85.toInt < wn.toInt := zf_nle c_48 rfl rfl; omega
                | succ nfu ih =>
                  intro i_85 v_47 g_46 H locs ls hP hD hS hl hbv_47 hvi_85_0 hvi_85_1 hvi_85_2 hloi_85 hni_85
                  refine lv_iload hx hb dX5_least_85 (lv_at hl 0 rfl) ?_
                  refine lv_aload_n hx hb dX5_least_87 rfl (lv_at hl 4 rfl) ?_
                  refine va_get (D := D) (ci := 5) (v := .int wn) (C := RX5) (T := TX5) (N := 7) hx hb hts hi_X5_least_5 hown hK hP 0 rfl rfl 4 (by decide) (hts (.fieldLink RX5 27 "TheLiningsInIt$Ways" "count" "I") (List.mem_of_getElem? (i := 3) rfl)) (fun _ h9 => h9) rfl dX5_least_88 ?_
                  refine lv_icmp_ge (tgt := 135) hx hb dX5_least_91 (by decide) (fun c_51 => ?_) (fun c_51 => ?_)
                  · have fc_51 : wn.toInt ≤ i_85.toInt := zf_le c_51 rfl rfl
                    refine lv_iload hx hb dX5_least_135 (lv_at hl 3 rfl) ?_
                    refine lv_if_eq (tgt := 149) hx hb dX5_least_137 (by decide) (fun c_52 => ?_) (fun c_52 => ?_)
                    · exact absurd c_52 (by decide)
                    · refine lv_aload_n hx hb dX5_least_140 rfl (lv_at hl 4 rfl) ?_
                      refine va_get (D := D) (ci := 5) (v := .ref wl) (C := RX5) (T := TX5) (N := 7) hx hb hts hi_X5_least_5 hown hK hP 0 rfl rfl 1 (by decide) (hts (.fieldLink RX5 15 "TheLiningsInIt$Ways" "knownLeast" "[I") (List.mem_of_getElem? (i := 2) rfl)) (fun _ h9 => h9) rfl dX5_least_141 ?_
                      refine lv_iload hx hb dX5_least_144 (lv_at hl 2 rfl) ?_
                      refine lv_iload hx hb dX5_least_146 (lv_at hl 1 rfl) ?_
                      refine va_iast hx hb hK hP hD hS 1 0 rfl rfl (zf_in (by omega) (by omega)) dX5_least_148 (fun H locs hP hD hS => ?_)
                      obtain ⟨g_53, hg_53⟩ : ∃ g : Nat → Int32, g = upd g_46 x_39.toNatClampNeg v_47 := ⟨_, rfl⟩
                      rw [← hg_53] at hP hD
                      have h9R := zRe (ws' := [(w0, .inr (5, [.ref wk, .ref wl, .ref wc, .ref wp, .int wn, .int wh, .int wg])), (wl, .inl (cI, 125, .inl g_53)), (wc, .inl (cI, 3, .inl fc)), (wp, .inl (cP, 8, .inr (.inr (.inr (.inr fq)))))]) hP hD rfl
                      clear hP hD
                      obtain ⟨hP, hD⟩ := h9R
                      refine lv_iload hx hb dX5_least_149 (lv_at hl 1 rfl) ?_
                      exact W.iret (v := v_47) hx hb hr (fun t ht hW => ⟨⟨v_47, g_53, rfl, ⟨(show zKn kq aq tq wn.toInt.toNat wh.toInt (fc 0).toInt (fc 1).toInt (fc 2).toInt wg.toInt g_53 from by (rw [hg_53]; exact zKn_u (m := 2) (d := d) (s := sec) hvi_85_0 (by omega) hgl (by omega) ⟨by omega, by omega⟩ (by omega) (by have h9 : i_85.toInt.toNat = wn.toInt.toNat := (by omega); have z := hvi_85_1; rw [h9] at z; rw [zLn_s, if_neg (by omega)]; exact z))), (show (v_47 : Int32).toInt = (zLn kq aq tq wn.toInt.toNat wh.toInt (fc 0).toInt (fc 1).toInt (fc 2).toInt 2) d.toInt sec.toInt from by (have h9 : i_85.toInt.toNat = wn.toInt.toNat := (by omega); have z := hvi_85_1; rw [h9] at z; rw [zLn_s, if_neg (by omega)]; exact z)), ⟨by omega, by omega⟩⟩, zRet ht hP hD [0, 1, 2, 3] (by decide) rfl⟩, hS.F ht⟩) hS.2.2 dX5_least_151
                  · have fc_51 : i_85.toInt < wn.toInt := zf_nle c_51 rfl rfl
                    refine lv_iload_n hx hb dX5_least_94 rfl (lv_at hl 5 rfl) ?_
                    refine lv_if_le (tgt := 135) hx hb dX5_least_95 (by decide) (fun c_54 => ?_) (fun c_54 => ?_)
                    · exact absurd c_54 (by decide)
                    · refine lv_aload_n hx hb dX5_least_98 rfl (lv_at hl 4 rfl) ?_
                      refine lv_iload hx hb dX5_least_99 (lv_at hl 0 rfl) ?_
                      refine lv_iload_n hx hb dX5_least_101 rfl (lv_at hl 6 rfl) ?_
                      refine lv_iload_n hx hb dX5_least_102 rfl (lv_at hl 7 rfl) ?_
                      refine zc_Vq (As := [.int i_85, .int d, .int sec]) (rest := []) ⟨hx, hb, hml, hown, hts⟩ (c_F_W_mayBeAt l D cI cJ cZ cP cS po w0 wk wl wc wp (wn) (wh) (wg) fq kq aq tq (tw) (i_85) (d) (sec) hy0 hy1 hy2 hy3 hy4 hy5 hjw (by omega) (by omega) (by omega) hy12 hy13) (cwV 3 hts gX5_least_X5_mayBeAt rfl rfl rfl ⟨rfl, dh_X5_mayBeAt⟩ ⟨Nat.le_of_ble_eq_true rfl, Nat.le_of_ble_eq_true rfl⟩) hK hN (hZ.kept hS) hP (hP.sub [0, 3] rfl) (va_recv (q := (RX5, TX5, 7)) hK hP (ci := 5) (q0 := 0) rfl rfl) rfl hl.1 rfl (Nat.le_of_ble_eq_true rfl) dX5_least_103 ⟨Nat.le_of_ble_eq_true rfl, Nat.le_of_ble_eq_true rfl⟩ (fun r_55 hr_55 => ?_)
                      rcases hr_55 with ⟨rfl, hn_56⟩ | ⟨rfl, hn_58, g_57⟩ | ⟨rfl, hn_60, g_59⟩ | ⟨⟨u_62, kiu_62, au_62, tu_62, rfl, huu_62, hkku_62⟩, g_61⟩
                      · refine lv_astoreN (lv' := [(8, .null), (7, .int i_85), (6, .int v_47), (5, .int x_39), (4, .int 1), (0, .ref w0), (1, .int 2), (2, .int d), (3, .int sec)]) hx hb dX5_least_106 hl (by decide) rfl (fun ls hl => ?_)
                        refine lv_aloadN hx hb dX5_least_108 (lv_at hl 0 rfl) ?_
                        refine lv_ifnullN (tgt := 129) hx hb dX5_least_110 (by decide) ?_
                        obtain ⟨x_63, ex_63⟩ : ∃ y : Int32, y = i_85 + 1 := ⟨_, rfl⟩
                        have qx_63 : x_63.toInt = i_85.toInt + 1 := dw_inc ex_63 fc_51
                        refine lv_iinc (v := x_63) (lv' := [(7, .int x_63), (8, .null), (6, .int v_47), (5, .int x_39), (4, .int 1), (0, .ref w0), (1, .int 2), (2, .int d), (3, .int sec)]) hx hb dX5_least_129 hl (k := 1) rfl ex_63.symm (by decide) rfl (fun ls hl => ?_)
                        refine lv_goto (tgt := 85) hx hb dX5_least_132 (by decide) ?_
                        exact ih x_63 v_47 (g_46) _ _ _ (hP.sub [0, 1, 2, 3] rfl) (hD.sub [0, 1, 2, 3] (by decide) rfl) hS (lv_sub hl [0, 2, 3, 4, 5, 6, 7, 8] rfl) hbv_47 (show zKn kq aq tq wn.toInt.toNat wh.toInt (fc 0).toInt (fc 1).toInt (fc 2).toInt wg.toInt g_46 from by exact hvi_85_0) (show (v_47 : Int32).toInt = zFi tq d.toInt sec.toInt (zPw 2 * zAt (fc 1).toInt (fc 2).toInt sec.toInt) (zLv (zLn kq aq tq wn.toInt.toNat wh.toInt (fc 0).toInt (fc 1).toInt (fc 2).toInt 1) kq aq tq (fc 0).toInt (zPw 2) wh.toInt d.toInt sec.toInt) x_63.toInt.toNat from by (have hx : x_63.toInt.toNat = i_85.toInt.toNat + 1 := (by omega); have y4 := hn_56; have y9 : i_85.toNatClampNeg = i_85.toInt.toNat := rfl; rw [y9] at y4; rw [hx, zFi_n (fun z => y4 ⟨z.1, z.2, Or.inl (by omega)⟩)]; exact hvi_85_1)) (show x_63.toInt ≤ wn.toInt from by omega) (dw_lo hloi_85 qx_63) (dw_hn hni_85 qx_63)
                      · exfalso; omega
                      · refine lv_astoreN (lv' := [(8, .null), (7, .int i_85), (6, .int v_47), (5, .int x_39), (4, .int 1), (0, .ref w0), (1, .int 2), (2, .int d), (3, .int sec)]) hx hb dX5_least_106 hl (by decide) rfl (fun ls hl => ?_)
                        refine lv_aloadN hx hb dX5_least_108 (lv_at hl 0 rfl) ?_
                        refine lv_ifnullN (tgt := 129) hx hb dX5_least_110 (by decide) ?_
                        obtain ⟨x_64, ex_64⟩ : ∃ y : Int32, y = i_85 + 1 := ⟨_, rfl⟩
                        have qx_64 : x_64.toInt = i_85.toInt + 1 := dw_inc ex_64 fc_51
                        refine lv_iinc (v := x_64) (lv' := [(7, .int x_64), (8, .null), (6, .int v_47), (5, .int x_39), (4, .int 1), (0, .ref w0), (1, .int 2), (2, .int d), (3, .int sec)]) hx hb dX5_least_129 hl (k := 1) rfl ex_64.symm (by decide) rfl (fun ls hl => ?_)
                        refine lv_goto (tgt := 85) hx hb dX5_least_132 (by decide) ?_
                        exact ih x_64 v_47 (g_46) _ _ _ (hP.sub [0, 1, 2, 3] rfl) (hD.sub [0, 1, 2, 3] (by decide) rfl) hS (lv_sub hl [0, 2, 3, 4, 5, 6, 7, 8] rfl) hbv_47 (show zKn kq aq tq wn.toInt.toNat wh.toInt (fc 0).toInt (fc 1).toInt (fc 2).toInt wg.toInt g_46 from by exact hvi_85_0) (show (v_47 : Int32).toInt = zFi tq d.toInt sec.toInt (zPw 2 * zAt (fc 1).toInt (fc 2).toInt sec.toInt) (zLv (zLn kq aq tq wn.toInt.toNat wh.toInt (fc 0).toInt (fc 1).toInt (fc 2).toInt 1) kq aq tq (fc 0).toInt (zPw 2) wh.toInt d.toInt sec.toInt) x_64.toInt.toNat from by (have hx : x_64.toInt.toNat = i_85.toInt.toNat + 1 := (by omega); have y4 := hn_60; have y9 : i_85.toNatClampNeg = i_85.toInt.toNat := rfl; rw [y9] at y4; rw [hx, zFi_n (fun z => y4 ⟨z.1, z.2, Or.inl (by omega)⟩)]; exact hvi_85_1)) (show x_64.toInt ≤ wn.toInt from by omega) (dw_lo hloi_85 qx_64) (dw_hn hni_85 qx_64)
                      · refine W.eq (g2 := F0 m 106 ls (.ref u_62 :: [])) rfl ?_
                        obtain ⟨hku_62, hau_62, htu_62⟩ := zPu_pr (hZ.kept hS) huu_62
                        refine lv_astore (lv' := [(8, .ref u_62), (7, .int i_85), (6, .int v_47), (5, .int x_39), (4, .int 1), (0, .ref w0), (1, .int 2), (2, .int d), (3, .int sec)]) hx hb dX5_least_106 hl (by decide) rfl (fun ls hl => ?_)
                        refine lv_aload hx hb dX5_least_108 (lv_at hl 0 rfl) ?_
                        refine lv_ifnull hx hb dX5_least_110 ?_
                        refine lv_iload hx hb dX5_least_113 (lv_at hl 2 rfl) ?_
                        refine lv_aload_n hx hb dX5_least_115 rfl (lv_at hl 5 rfl) ?_
                        refine lv_aload hx hb dX5_least_116 (lv_at hl 0 rfl) ?_
                        refine lv_iload_n hx hb dX5_least_118 rfl (lv_at hl 6 rfl) ?_
                        refine lv_iload_n hx hb dX5_least_119 rfl (lv_at hl 7 rfl) ?_
                        refine lv_iload_n hx hb dX5_least_120 rfl (lv_at hl 8 rfl) ?_
                        have tsu_62 : tu_62.toInt ≤ sec.toInt := by (obtain ⟨⟨y1, y2, y3⟩, y4⟩ := hkku_62; have z := y4.2.1; rw [y3]; exact z)
                        skip
                        refine zw_V (As := [.ref u_62, .int 2, .int d, .int sec]) (rest := [.int v_47]) (wr := []) ⟨hx, hb, hml, hown, hts⟩ (c_F_W_leastBy_2 l D cI cJ cZ cP cS po w0 wk wl wc wp (wn) (wh) (wg) fq kq aq tq (tw) g_46 fc (d) (sec) u_62 (kiu_62) (au_62) (tu_62) huu_62 ⟨by omega, by omega, by omega, by omega⟩ hy0 hy1 hy2 hy3 hy4 hy5 hjw (by first | assumption | omega) (by first | assumption | omega) (by first | assumption | omega | decide) hy10 hy11 hy12 hy13 (by omega) hp_fc H.size) (cwV 4 hts gX5_least_X5_leastBy rfl rfl rfl ⟨rfl, dh_X5_leastBy⟩ ⟨Nat.le_of_ble_eq_true rfl, Nat.le_of_ble_eq_true rfl⟩) hK hN (hZ.kept hS) hP hD hS hA [0, 1, 2, 3] [] rfl rfl (by decide) (by decide) (by decide) (va_recv (q := (RX5, TX5, 7)) hK hP (ci := 5) (q0 := 0) rfl rfl) rfl hl.1 rfl (Nat.le_of_ble_eq_true rfl) dX5_least_121 ⟨Nat.le_of_ble_eq_true rfl, Nat.le_of_ble_eq_true rfl⟩ (fun r_65 u_66 H locs hr_65 hP hD hS => ?_)
                        obtain ⟨q_67, rfl⟩ : ∃ z, z = u_66 := ⟨_, rfl⟩
                        obtain ⟨hsr_65_0, hsr_65_1, hr_65⟩ := hr_65
                        have h9R := zRe (ws' := [(w0, .inr (5, [.ref wk, .ref wl, .ref wc, .ref wp, .int wn, .int wh, .int wg])), (wl, .inl (cI, 125, .inl q_67)), (wc, .inl (cI, 3, .inl fc)), (wp, .inl (cP, 8, .inr (.inr (.inr (.inr fq)))))]) hP hD rfl
                        clear hP hD
                        obtain ⟨hP, hD⟩ := h9R
                        obtain ⟨g_68, g_69⟩ := hr_65
                        refine va_mmin hx hb (hml.trans hl.1.symm) hown (hts (.methodLink RX5 110 Lib.Math.min.name) (List.mem_of_getElem? (i := 4) rfl)) (hts _ (List.mem_of_getElem? (i := 5) rfl)) (hts _ (List.mem_of_getElem? (i := 6) rfl)) (hts _ (List.mem_of_getElem? (i := 7) rfl)) (Nat.le_of_ble_eq_true rfl) (Nat.le_of_ble_eq_true rfl) (Nat.le_of_ble_eq_true rfl) (Nat.le_of_ble_eq_true rfl) dX5_least_124 ?_
                        refine lv_topi (fun x_70 ex_70 => ?_)
                        have qx_70 := zf_min ex_70 (x1 := v_47.toInt) (y1 := r_65.toInt) rfl rfl
                        refine lv_istore (lv' := [(6, .int x_70), (8, .ref u_62), (7, .int i_85), (5, .int x_39), (4, .int 1), (0, .ref w0), (1, .int 2), (2, .int d), (3, .int sec)]) hx hb dX5_least_127 hl (by decide) rfl (fun ls hl => ?_)
                        obtain ⟨x_71, ex_71⟩ : ∃ y : Int32, y = i_85 + 1 := ⟨_, rfl⟩
                        have qx_71 : x_71.toInt = i_85.toInt + 1 := dw_inc ex_71 fc_51
                        refine lv_iinc (v := x_71) (lv' := [(7, .int x_71), (6, .int x_70), (8, .ref u_62), (5, .int x_39), (4, .int 1), (0, .ref w0), (1, .int 2), (2, .int d), (3, .int sec)]) hx hb dX5_least_129 hl (k := 2) rfl ex_71.symm (by decide) rfl (fun ls hl => ?_)
                        refine lv_goto (tgt := 85) hx hb dX5_least_132 (by decide) ?_
                        exact ih x_71 x_70 (q_67) _ _ _ (hP.sub [0, 1, 2, 3] rfl) (hD.sub [0, 1, 2, 3] (by decide) rfl) hS (lv_sub hl [0, 1, 3, 4, 5, 6, 7, 8] rfl) ⟨by omega, by omega⟩ (show zKn kq aq tq wn.toInt.toNat wh.toInt (fc 0).toInt (fc 1).toInt (fc 2).toInt wg.toInt q_67 from by exact hsr_65_0) (show (x_70 : Int32).toInt = zFi tq d.toInt sec.toInt (zPw 2 * zAt (fc 1).toInt (fc 2).toInt sec.toInt) (zLv (zLn kq aq tq wn.toInt.toNat wh.toInt (fc 0).toInt (fc 1).toInt (fc 2).toInt 1) kq aq tq (fc 0).toInt (zPw 2) wh.toInt d.toInt sec.toInt) x_71.toInt.toNat from by (have hx : x_71.toInt.toNat = i_85.toInt.toNat + 1 := (by omega); obtain ⟨⟨y1, y2, y3⟩, y4⟩ := hkku_62; have y9 : i_85.toNatClampNeg = i_85.toInt.toNat := rfl; rw [y9] at y1 y2 y3 y4; rw [hx, zFi_y ⟨y4.1, y4.2.1⟩, ← hvi_85_1]; have zr := hsr_65_1; rw [y1, y2, y3] at zr; have zr2 : r_65.toInt = (zLv (zLn kq aq tq wn.toInt.toNat wh.toInt (fc 0).toInt (fc 1).toInt (fc 2).toInt 1) kq aq tq (fc 0).toInt (zPw 2) wh.toInt d.toInt sec.toInt) i_85.toInt.toNat := zr; omega)) (show x_71.toInt ≤ wn.toInt from by omega) (dw_lo hloi_85 qx_71) (dw_hn hni_85 qx_71)
              · have fc_42 : x_41.toInt ≠ (-1) := zf_ne c_42 rfl (by decide)
                refine lv_aload_n hx hb dX5_least_66 rfl (lv_at hl 2 rfl) ?_
                refine va_get (D := D) (ci := 5) (v := .ref wl) (C := RX5) (T := TX5) (N := 7) hx hb hts hi_X5_least_5 hown hK hP 0 rfl rfl 1 (by decide) (hts (.fieldLink RX5 15 "TheLiningsInIt$Ways" "knownLeast" "[I") (List.mem_of_getElem? (i := 2) rfl)) (fun _ h9 => h9) rfl dX5_least_67 ?_
                refine lv_iload hx hb dX5_least_70 (lv_at hl 0 rfl) ?_
                refine va_iald hx hb hK hP 1 0 rfl rfl (zf_in (by omega) (by omega)) dX5_least_72 ?_
                refine lv_topi (fun y_72 ey_72 => ?_)
                obtain rfl : x_41 = y_72 := ex_41.trans ey_72.symm
                have hmx_41 : x_41.toInt = (zLn kq aq tq wn.toInt.toNat wh.toInt (fc 0).toInt (fc 1).toInt (fc 2).toInt 2) d.toInt sec.toInt := by (have zn : (fl x_39.toNatClampNeg).toInt ≠ -1 := (by rw [← ex_41]; omega); rw [ex_41]; exact zKn_at (m := 2) hkn (by decide) (by omega) ⟨by omega, by omega⟩ (by omega) zn)
                have hrx_41 := zLn_rg (K := kq) (A := aq) (T := tq) (N := wn.toInt.toNat) (h := wh.toInt) (hp_fc 0) (hp_fc 1) (hp_fc 2) 2 d.toInt sec.toInt
                rw [← hmx_41, show zPw 2 = 144 from by decide] at hrx_41
                exact W.iret (v := x_41) hx hb hr (fun t ht hW => ⟨⟨x_41, fl, rfl, ⟨(show zKn kq aq tq wn.toInt.toNat wh.toInt (fc 0).toInt (fc 1).toInt (fc 2).toInt wg.toInt fl from by exact hkn), (show (x_41 : Int32).toInt = (zLn kq aq tq wn.toInt.toNat wh.toInt (fc 0).toInt (fc 1).toInt (fc 2).toInt 2) d.toInt sec.toInt from by exact hmx_41), ⟨by omega, by omega⟩⟩, zRet ht hP hD [0, 1, 2, 3] (by decide) rfl⟩, hS.F ht⟩) hS.2.2 dX5_least_73
        · exfalso; have fc_4 : 24 < d.toInt := zf_nle c_4 rfl (by decide); omega
set_option maxHeartbeats 4000000 in
set_option maxRecDepth 100000 in
theorem c_F_W_leastBy_3 (l : Launch) (D : va_G) (cI cJ cZ cP cS : ClassId) (po : zPool) (w0 wk wl wc wp : Nat) (wn wh wg : Int32) (fq : Nat → Option Nat) (kq aq tq : Nat → Int32) (tw : Int32) (fl fc : Nat → Int32) (d sec : Int32) (u0 : Nat) (ki a_ ta : Int32) (hu_u0 : zPu po u0 ki a_ ta) (hr_u0 : zPr ki a_ ta) (hy2 : 0 ≤ wn.toInt) (hy3 : wn.toInt ≤ 8) (hy4 : 0 ≤ wh.toInt) (hy5 : wh.toInt ≤ 9) (hy6 : 0 ≤ wg.toInt) (hy7 : wg.toInt ≤ 60) (hjw : zJW po fq wn kq aq tq tw) (hkn : zKn kq aq tq wn.toInt.toNat wh.toInt (fc 0).toInt (fc 1).toInt (fc 2).toInt wg.toInt fl) (hgl : (∀ p : Nat, p < wn.toInt.toNat → (tq p).toInt ≤ wg.toInt)) (htw : tw.toInt = 1) (hy12 : 0 ≤ d.toInt) (hy13 : d.toInt ≤ 24) (hy14 : 0 ≤ sec.toInt) (hy15 : sec.toInt ≤ 300) (hy16 : ta.toInt ≤ sec.toInt) (hp_fc : zRg fc (0) 99) (hpz : Nat) : Met l yX5_leastBy wsX5_leastBy ({ frames := 7, cells := 0, slots := 0, locals := 181 }) (va_Pc [.ref w0, .ref u0, .int 3, .int d, .int sec] (zW D (zKT cI cJ cZ cP cS) po [(w0, .inr (5, [.ref wk, .ref wl, .ref wc, .ref wp, .int wn, .int wh, .int wg])), (wl, .inl (cI, 125, .inl fl)), (wc, .inl (cI, 3, .inl fc)), (wp, .inl (cP, 8, .inr (.inr (.inr (.inr fq)))))] hpz)) (va_Qi (fun (r : Int32) (fl2 : (Nat → Int32)) => (zKn kq aq tq wn.toInt.toNat wh.toInt (fc 0).toInt (fc 1).toInt (fc 2).toInt wg.toInt fl2) ∧ (r.toInt = zLb (zLn kq aq tq wn.toInt.toNat wh.toInt (fc 0).toInt (fc 1).toInt (fc 2).toInt 2) (fc 0).toInt (zPw 3) ki.toInt a_.toInt ta.toInt wh.toInt d.toInt sec.toInt) ∧ (0 ≤ r.toInt ∧ r.toInt ≤ 342144)) (zB D [(w0, .inr (5, [.ref wk, .ref wl, .ref wc, .ref wp, .int wn, .int wh, .int wg])), (wl, .inl (cI, 125, .inl fl)), (wc, .inl (cI, 3, .inl fc)), (wp, .inl (cP, 8, .inr (.inr (.inr (.inr fq)))))] hpz (fun (fl2 : Nat → Int32) => [(w0, .inr (5, [.ref wk, .ref wl, .ref wc, .ref wp, .int wn, .int wh, .int wg])), (wl, .inl (cI, 125, .inl fl2)), (wc, .inl (cI, 3, .inl fc)), (wp, .inl (cP, 8, .inr (.inr (.inr (.inr fq)))))])) (va_A [(w0, .inr (5, [.ref wk, .ref wl, .ref wc, .ref wp, .int wn, .int wh, .int wg])), (wl, .inl (cI, 125, .inl fl)), (wc, .inl (cI, 3, .inl fc)), (wp, .inl (cP, 8, .inr (.inr (.inr (.inr fq)))))] hpz)) 0 0 (va_A [(w0, .inr (5, [.ref wk, .ref wl, .ref wc, .ref wp, .int wn, .int wh, .int wg])), (wl, .inl (cI, 125, .inl fl)), (wc, .inl (cI, 3, .inl fc)), (wp, .inl (cP, 8, .inr (.inr (.inr (.inr fq)))))] hpz) := by
  refine Met.ofW (cc := cX5_leastBy) (maxL := 8) (ret := (some .int)) (by decide) rfl ?_
  intro p e s m args below meth c s₁ B hml hv
  obtain ⟨rfl, hsz, hP, hK, hD0, hN, hZ⟩ := hv
  have hx := B.exec
  have hb := B.bytes
  have hr := B.returns
  have hts := atoms_spec (ws := wsX5_leastBy) B.pre
  have hown : s.vm.findClass RX5 = some m.cls := findClass_of_methodNamed B.named
  have hlocks := B.notSynchronized
  subst hsz
  have hD := hD0.self (sz := s.heap.size)
  have hA := zA_of hD
  have hl := lv_entry ([.ref w0, .ref u0, .int 3, .int d, .int sec]) (n := 8) (Nat.le_of_ble_eq_true rfl)
  rw [lg_entry_eq]
  generalize (lg_sl ([.ref w0, .ref u0, .int 3, .int d, .int sec]) ++ List.replicate (8 - (lg_sl ([.ref w0, .ref u0, .int 3, .int d, .int sec])).length) Slot.unset).toArray = ls at hl ⊢
  replace hl : lv_has ls 8 [(0, .ref w0), (1, .ref u0), (2, .int 3), (3, .int d), (4, .int sec)] := hl
  refine zw_begin hP hD (fun H locs hP1 hS => ?_)
  clear hP
  have hP := hP1
  clear hP1
  obtain ⟨⟨p1_u0, p2_u0⟩, ⟨p3_u0, p4_u0⟩, p5_u0, p6_u0⟩ := id hr_u0
  refine lv_aload_n hx hb dX5_leastBy_0 rfl (lv_at hl 1 rfl) ?_
  refine lv_iload_n hx hb dX5_leastBy_1 rfl (lv_at hl 3 rfl) ?_
  refine lv_aload_n hx hb dX5_leastBy_2 rfl (lv_at hl 0 rfl) ?_
  refine va_get (D := D) (ci := 5) (v := .int wh) (C := RX5) (T := TX5) (N := 7) hx hb hts hi_X5_leastBy_5 hown hK hP 0 rfl rfl 5 (by decide) (hts (.fieldLink RX5 31 "TheLiningsInIt$Ways" "hurry" "I") (List.mem_of_getElem? (i := 1) rfl)) (fun _ h9 => h9) rfl dX5_leastBy_3 ?_
  refine zc_V (As := [.int d, .int wh]) (rest := []) ⟨hx, hb, hml, hown, hts⟩ (c_F_Pull_waysAt l D cI cJ cZ cP cS po (d) (wh) u0 (ki) (a_) (ta) hu_u0 ⟨by omega, by omega, by omega, by omega⟩ hy12 hy13 hy4 hy5) (cwV 2 hts gX5_leastBy_X2_waysAt rfl rfl rfl ⟨rfl, dh_X2_waysAt⟩ ⟨Nat.le_of_ble_eq_true rfl, Nat.le_of_ble_eq_true rfl⟩) hK hN (hZ.kept hS) hP zP_nil (va_recv (q := (RX2, TX2, 3)) hK (zPu_P (hZ.kept hS) hu_u0) (ci := 2) (q0 := 0) rfl rfl) rfl hl.1 rfl (Nat.le_of_ble_eq_true rfl) dX5_leastBy_6 ⟨Nat.le_of_ble_eq_true rfl, Nat.le_of_ble_eq_true rfl⟩ (fun r_1 hr_1 => ?_)
  obtain ⟨g_2, g_3, hsr_1_0⟩ := hr_1
  refine lv_istore (lv' := [(5, .int r_1), (0, .ref w0), (1, .ref u0), (2, .int 3), (3, .int d), (4, .int sec)]) hx hb dX5_leastBy_9 hl (by decide) rfl (fun ls hl => ?_)
  refine lv_iload hx hb dX5_leastBy_11 (lv_at hl 5 rfl) ?_
  refine lv_aload_n hx hb dX5_leastBy_13 rfl (lv_at hl 2 rfl) ?_
  refine va_get (D := D) (ci := 2) (v := .int ta) (C := RX2) (T := TX2) (N := 3) hx hb hts hi_X5_leastBy_2 hown hK (zPu_P (hZ.kept hS) hu_u0) 0 rfl rfl 2 (by decide) (hts (.fieldLink RX5 49 "TheLiningsInIt$Pull" "takes" "I") (List.mem_of_getElem? (i := 2) rfl)) (fun _ h9 => h9) rfl dX5_leastBy_14 ?_
  refine lv_isub hx hb dX5_leastBy_17 ?_
  refine lv_topi (fun x_4 ex_4 => ?_)
  have qx_4 : x_4.toInt = sec.toInt - ta.toInt := by rw [ex_4]; exact zf_sub rfl rfl (by omega) (by omega)
  refine lv_istore (lv' := [(6, .int x_4), (5, .int r_1), (0, .ref w0), (1, .ref u0), (2, .int 3), (3, .int d), (4, .int sec)]) hx hb dX5_leastBy_18 hl (by decide) rfl (fun ls hl => ?_)
  refine lv_aload_n hx hb dX5_leastBy_20 rfl (lv_at hl 3 rfl) ?_
  refine va_get (D := D) (ci := 2) (v := .int ki) (C := RX2) (T := TX2) (N := 3) hx hb hts hi_X5_leastBy_2 hown hK (zPu_P (hZ.kept hS) hu_u0) 0 rfl rfl 0 (by decide) (hts (.fieldLink RX5 46 "TheLiningsInIt$Pull" "kind" "I") (List.mem_of_getElem? (i := 3) rfl)) (fun _ h9 => h9) rfl dX5_leastBy_21 ?_
  refine lv_iconst (v := 5) hx hb dX5_leastBy_24 (by decide) ?_
  refine lv_icmp_ne (tgt := 43) hx hb dX5_leastBy_25 (by decide) (fun c_5 => ?_) (fun c_5 => ?_)
  · have fc_5 : ki.toInt ≠ 5 := zf_ne c_5 rfl (by decide)
    refine lv_iconst (v := 0) hx hb dX5_leastBy_43 (by decide) ?_
    refine lv_istore (lv' := [(7, .int 0), (6, .int x_4), (5, .int r_1), (0, .ref w0), (1, .ref u0), (2, .int 3), (3, .int d), (4, .int sec)]) hx hb dX5_leastBy_44 hl (by decide) rfl (fun ls hl => ?_)
    refine lv_iload hx hb dX5_leastBy_46 (lv_at hl 2 rfl) ?_
    refine lv_if_le (tgt := 73) hx hb dX5_leastBy_48 (by decide) (fun c_6 => ?_) (fun c_6 => ?_)
    · have fc_6 : r_1.toInt ≤ 0 := zf_le c_6 rfl (by decide)
      refine lv_iload hx hb dX5_leastBy_73 (lv_at hl 2 rfl) ?_
      refine lv_bipush (v := 12) hx hb dX5_leastBy_75 (by decide) ?_
      refine lv_icmp_ge (tgt := 109) hx hb dX5_leastBy_77 (by decide) (fun c_7 => ?_) (fun c_7 => ?_)
      · exfalso; have fc_7 : 12 ≤ r_1.toInt := zf_le c_7 (by decide) rfl; omega
      · have fc_7 : r_1.toInt < 12 := zf_nle c_7 (by decide) rfl
        refine lv_iload hx hb dX5_leastBy_80 (lv_at hl 0 rfl) ?_
        refine lv_bipush (v := 12) hx hb dX5_leastBy_82 (by decide) ?_
        refine lv_iload hx hb dX5_leastBy_84 (lv_at hl 2 rfl) ?_
        refine lv_isub hx hb dX5_leastBy_86 ?_
        refine lv_topi (fun x_8 ex_8 => ?_)
        have qx_8 : x_8.toInt = 12 - r_1.toInt := by rw [ex_8]; exact zf_sub (by decide) rfl (by omega) (by omega)
        refine lv_aload_n hx hb dX5_leastBy_87 rfl (lv_at hl 3 rfl) ?_
        refine lv_iload_n hx hb dX5_leastBy_88 rfl (lv_at hl 5 rfl) ?_
        refine lv_iconst (v := 1) hx hb dX5_leastBy_89 (by decide) ?_
        refine lv_isub hx hb dX5_leastBy_90 ?_
        refine lv_topi (fun y_9 ey_9 => ?_)
        obtain rfl : y_9 = 2 := ey_9.trans (by decide)
        refine lv_aload_n hx hb dX5_leastBy_91 rfl (lv_at hl 4 rfl) ?_
        refine lv_iload_n hx hb dX5_leastBy_92 rfl (lv_at hl 6 rfl) ?_
        refine lv_aload_n hx hb dX5_leastBy_93 rfl (lv_at hl 3 rfl) ?_
        refine va_get (D := D) (ci := 5) (v := .int wh) (C := RX5) (T := TX5) (N := 7) hx hb hts hi_X5_leastBy_5 hown hK hP 0 rfl rfl 5 (by decide) (hts (.fieldLink RX5 31 "TheLiningsInIt$Ways" "hurry" "I") (List.mem_of_getElem? (i := 1) rfl)) (fun _ h9 => h9) rfl dX5_leastBy_94 ?_
        refine zc_V (As := [.int d, .int wh]) (rest := [.int 2, .ref w0, .int x_8, .int 0]) ⟨hx, hb, hml, hown, hts⟩ (c_F_Pull_deeper l D cI cJ cZ cP cS po (d) (wh) u0 (ki) (a_) (ta) hu_u0 ⟨by omega, by omega, by omega, by omega⟩ hy12 hy13 hy4 hy5) (cwV 2 hts gX5_leastBy_X2_deeper rfl rfl rfl ⟨rfl, dh_X2_deeper⟩ ⟨Nat.le_of_ble_eq_true rfl, Nat.le_of_ble_eq_true rfl⟩) hK hN (hZ.kept hS) hP zP_nil (va_recv (q := (RX2, TX2, 3)) hK (zPu_P (hZ.kept hS) hu_u0) (ci := 2) (q0 := 0) rfl rfl) rfl hl.1 rfl (Nat.le_of_ble_eq_true rfl) dX5_leastBy_97 ⟨Nat.le_of_ble_eq_true rfl, Nat.le_of_ble_eq_true rfl⟩ (fun r_10 hr_10 => ?_)
        obtain ⟨g_11, g_12, hsr_10_0⟩ := hr_10
        refine lv_iload hx hb dX5_leastBy_100 (lv_at hl 1 rfl) ?_
        skip
        refine zw_V (As := [.int 2, .int r_10, .int x_4]) (rest := [.int x_8, .int 0]) (wr := []) ⟨hx, hb, hml, hown, hts⟩ (c_F_W_least_2 l D cI cJ cZ cP cS po w0 wk wl wc wp (wn) (wh) (wg) fq kq aq tq (tw) fl fc (r_10) (x_4) hy2 hy3 hy4 hy5 hy6 hy7 hjw (by first | assumption | omega) (by first | assumption | omega) (by first | assumption | omega | decide) (by omega) (by omega) (by omega) (by omega) hp_fc H.size) (cwV 3 hts gX5_leastBy_X5_least rfl rfl rfl ⟨rfl, dh_X5_least⟩ ⟨Nat.le_of_ble_eq_true rfl, Nat.le_of_ble_eq_true rfl⟩) hK hN (hZ.kept hS) hP hD hS hA [0, 1, 2, 3] [] rfl rfl (by decide) (by decide) (by decide) (va_recv (q := (RX5, TX5, 7)) hK hP (ci := 5) (q0 := 0) rfl rfl) rfl hl.1 rfl (Nat.le_of_ble_eq_true rfl) dX5_leastBy_102 ⟨Nat.le_of_ble_eq_true rfl, Nat.le_of_ble_eq_true rfl⟩ (fun r_13 u_14 H locs hr_13 hP hD hS => ?_)
        obtain ⟨q_15, rfl⟩ : ∃ z, z = u_14 := ⟨_, rfl⟩
        obtain ⟨hsr_13_0, hsr_13_1, hr_13⟩ := hr_13
        have h9R := zRe (ws' := [(w0, .inr (5, [.ref wk, .ref wl, .ref wc, .ref wp, .int wn, .int wh, .int wg])), (wl, .inl (cI, 125, .inl q_15)), (wc, .inl (cI, 3, .inl fc)), (wp, .inl (cP, 8, .inr (.inr (.inr (.inr fq)))))]) hP hD rfl
        clear hP hD
        obtain ⟨hP, hD⟩ := h9R
        obtain ⟨g_16, g_17⟩ := hr_13
        refine lv_imul hx hb dX5_leastBy_105 ?_
        refine lv_topi (fun x_18 ex_18 => ?_)
        obtain ⟨mx_18, nx_18, ox_18⟩ := zf_mulc (a := x_8) (b := r_13) (x := x_8.toInt) (y := r_13.toInt) (P := 14256) rfl rfl ⟨by omega, by omega⟩ ⟨by omega, by omega⟩ (by decide)
        rw [← ex_18] at mx_18
        refine lv_iadd hx hb dX5_leastBy_106 ?_
        refine lv_topi (fun x_19 ex_19 => ?_)
        have qx_19 : x_19.toInt = 0 + x_18.toInt := by rw [ex_19]; exact zf_add (by decide) rfl (by omega) (by omega)
        refine lv_istore (lv' := [(7, .int x_19), (6, .int x_4), (5, .int r_1), (0, .ref w0), (1, .ref u0), (2, .int 3), (3, .int d), (4, .int sec)]) hx hb dX5_leastBy_107 hl (by decide) rfl (fun ls hl => ?_)
        refine lv_iload hx hb dX5_leastBy_109 (lv_at hl 0 rfl) ?_
        exact W.iret (v := x_19) hx hb hr (fun t ht hW => ⟨⟨x_19, q_15, rfl, ⟨(show zKn kq aq tq wn.toInt.toNat wh.toInt (fc 0).toInt (fc 1).toInt (fc 2).toInt wg.toInt q_15 from by first | exact hsr_13_0 | assumption), (show (x_19 : Int32).toInt = zLb (zLn kq aq tq wn.toInt.toNat wh.toInt (fc 0).toInt (fc 1).toInt (fc 2).toInt 2) (fc 0).toInt (zPw 3) ki.toInt a_.toInt ta.toInt wh.toInt d.toInt sec.toInt from by (have zw := hsr_1_0; have E1 : r_1.toInt * (zLn kq aq tq wn.toInt.toNat wh.toInt (fc 0).toInt (fc 1).toInt (fc 2).toInt 2) (zShl ki.toInt a_.toInt d.toInt) (sec.toInt - ta.toInt) = 0 := (by rw [show r_1.toInt = 0 from by omega, Int.zero_mul]); have E2 : (12 - r_1.toInt) * (zLn kq aq tq wn.toInt.toNat wh.toInt (fc 0).toInt (fc 1).toInt (fc 2).toInt 2) (zDpr ki.toInt a_.toInt wh.toInt d.toInt) (sec.toInt - ta.toInt) = x_18.toInt := (by rw [← hsr_10_0, show sec.toInt - ta.toInt = (x_4 : Int32).toInt from by omega, ← hsr_13_1, show 12 - r_1.toInt = x_8.toInt from by omega]; omega); unfold zLb zBy1; rw [← zw, E1, E2, show zPw 3 = 1728 from by decide]; first | (rw [if_neg (by omega)]; omega) | (rw [if_pos (by omega)]; omega))), ⟨by omega, by omega⟩⟩, zRet ht hP hD [0, 1, 2, 3] (by decide) rfl⟩, hS.F ht⟩) hS.2.2 dX5_leastBy_111
    · have fc_6 : 0 < r_1.toInt := zf_nle c_6 rfl (by decide)
      refine lv_iload hx hb dX5_leastBy_51 (lv_at hl 0 rfl) ?_
      refine lv_iload hx hb dX5_leastBy_53 (lv_at hl 2 rfl) ?_
      refine lv_aload_n hx hb dX5_leastBy_55 rfl (lv_at hl 3 rfl) ?_
      refine lv_iload_n hx hb dX5_leastBy_56 rfl (lv_at hl 5 rfl) ?_
      refine lv_iconst (v := 1) hx hb dX5_leastBy_57 (by decide) ?_
      refine lv_isub hx hb dX5_leastBy_58 ?_
      refine lv_topi (fun y_20 ey_20 => ?_)
      obtain rfl : y_20 = 2 := ey_20.trans (by decide)
      refine lv_aload_n hx hb dX5_leastBy_59 rfl (lv_at hl 4 rfl) ?_
      refine lv_iload_n hx hb dX5_leastBy_60 rfl (lv_at hl 6 rfl) ?_
      refine zc_V (As := [.int d]) (rest := [.int 2, .ref w0, .int r_1, .int 0]) ⟨hx, hb, hml, hown, hts⟩ (c_F_Pull_shallower l D cI cJ cZ cP cS po (d) u0 (ki) (a_) (ta) hu_u0 ⟨by omega, by omega, by omega, by omega⟩ hy12 hy13) (cwV 1 hts gX5_leastBy_X2_shallower rfl rfl rfl ⟨rfl, dh_X2_shallower⟩ ⟨Nat.le_of_ble_eq_true rfl, Nat.le_of_ble_eq_true rfl⟩) hK hN (hZ.kept hS) hP zP_nil (va_recv (q := (RX2, TX2, 3)) hK (zPu_P (hZ.kept hS) hu_u0) (ci := 2) (q0 := 0) rfl rfl) rfl hl.1 rfl (Nat.le_of_ble_eq_true rfl) dX5_leastBy_61 ⟨Nat.le_of_ble_eq_true rfl, Nat.le_of_ble_eq_true rfl⟩ (fun r_21 hr_21 => ?_)
      obtain ⟨g_22, g_23, hsr_21_0⟩ := hr_21
      refine lv_iload hx hb dX5_leastBy_64 (lv_at hl 1 rfl) ?_
      skip
      refine zw_V (As := [.int 2, .int r_21, .int x_4]) (rest := [.int r_1, .int 0]) (wr := []) ⟨hx, hb, hml, hown, hts⟩ (c_F_W_least_2 l D cI cJ cZ cP cS po w0 wk wl wc wp (wn) (wh) (wg) fq kq aq tq (tw) fl fc (r_21) (x_4) hy2 hy3 hy4 hy5 hy6 hy7 hjw (by first | assumption | omega) (by first | assumption | omega) (by first | assumption | omega | decide) (by omega) (by omega) (by omega) (by omega) hp_fc H.size) (cwV 3 hts gX5_leastBy_X5_least rfl rfl rfl ⟨rfl, dh_X5_least⟩ ⟨Nat.le_of_ble_eq_true rfl, Nat.le_of_ble_eq_true rfl⟩) hK hN (hZ.kept hS) hP hD hS hA [0, 1, 2, 3] [] rfl rfl (by decide) (by decide) (by decide) (va_recv (q := (RX5, TX5, 7)) hK hP (ci := 5) (q0 := 0) rfl rfl) rfl hl.1 rfl (Nat.le_of_ble_eq_true rfl) dX5_leastBy_66 ⟨Nat.le_of_ble_eq_true rfl, Nat.le_of_ble_eq_true rfl⟩ (fun r_24 u_25 H locs hr_24 hP hD hS => ?_)
      obtain ⟨q_26, rfl⟩ : ∃ z, z = u_25 := ⟨_, rfl⟩
      obtain ⟨hsr_24_0, hsr_24_1, hr_24⟩ := hr_24
      have h9R := zRe (ws' := [(w0, .inr (5, [.ref wk, .ref wl, .ref wc, .ref wp, .int wn, .int wh, .int wg])), (wl, .inl (cI, 125, .inl q_26)), (wc, .inl (cI, 3, .inl fc)), (wp, .inl (cP, 8, .inr (.inr (.inr (.inr fq)))))]) hP hD rfl
      clear hP hD
      obtain ⟨hP, hD⟩ := h9R
      obtain ⟨g_27, g_28⟩ := hr_24
      refine lv_imul hx hb dX5_leastBy_69 ?_
      refine lv_topi (fun x_29 ex_29 => ?_)
      obtain ⟨mx_29, nx_29, ox_29⟩ := zf_mulc (a := r_1) (b := r_24) (x := r_1.toInt) (y := r_24.toInt) (P := 14256) rfl rfl ⟨by omega, by omega⟩ ⟨by omega, by omega⟩ (by decide)
      rw [← ex_29] at mx_29
      refine lv_iadd hx hb dX5_leastBy_70 ?_
      refine lv_topi (fun x_30 ex_30 => ?_)
      have qx_30 : x_30.toInt = 0 + x_29.toInt := by rw [ex_30]; exact zf_add (by decide) rfl (by omega) (by omega)
      refine lv_istore (lv' := [(7, .int x_30), (6, .int x_4), (5, .int r_1), (0, .ref w0), (1, .ref u0), (2, .int 3), (3, .int d), (4, .int sec)]) hx hb dX5_leastBy_71 hl (by decide) rfl (fun ls hl => ?_)
      refine lv_iload hx hb dX5_leastBy_73 (lv_at hl 2 rfl) ?_
      refine lv_bipush (v := 12) hx hb dX5_leastBy_75 (by decide) ?_
      refine lv_icmp_ge (tgt := 109) hx hb dX5_leastBy_77 (by decide) (fun c_31 => ?_) (fun c_31 => ?_)
      · have fc_31 : 12 ≤ r_1.toInt := zf_le c_31 (by decide) rfl
        refine lv_iload hx hb dX5_leastBy_109 (lv_at hl 0 rfl) ?_
        exact W.iret (v := x_30) hx hb hr (fun t ht hW => ⟨⟨x_30, q_26, rfl, ⟨(show zKn kq aq tq wn.toInt.toNat wh.toInt (fc 0).toInt (fc 1).toInt (fc 2).toInt wg.toInt q_26 from by exact hsr_24_0), (show (x_30 : Int32).toInt = zLb (zLn kq aq tq wn.toInt.toNat wh.toInt (fc 0).toInt (fc 1).toInt (fc 2).toInt 2) (fc 0).toInt (zPw 3) ki.toInt a_.toInt ta.toInt wh.toInt d.toInt sec.toInt from by (have zw := hsr_1_0; have E1 : r_1.toInt * (zLn kq aq tq wn.toInt.toNat wh.toInt (fc 0).toInt (fc 1).toInt (fc 2).toInt 2) (zShl ki.toInt a_.toInt d.toInt) (sec.toInt - ta.toInt) = x_29.toInt := (by rw [← hsr_21_0, show sec.toInt - ta.toInt = (x_4 : Int32).toInt from by omega, ← hsr_24_1]; omega); have E2 : (12 - r_1.toInt) * (zLn kq aq tq wn.toInt.toNat wh.toInt (fc 0).toInt (fc 1).toInt (fc 2).toInt 2) (zDpr ki.toInt a_.toInt wh.toInt d.toInt) (sec.toInt - ta.toInt) = 0 := (by rw [show 12 - r_1.toInt = 0 from by omega, Int.zero_mul]); unfold zLb zBy1; rw [← zw, E1, E2, show zPw 3 = 1728 from by decide]; first | (rw [if_neg (by omega)]; omega) | (rw [if_pos (by omega)]; omega))), ⟨by omega, by omega⟩⟩, zRet ht hP hD [0, 1, 2, 3] (by decide) rfl⟩, hS.F ht⟩) hS.2.2 dX5_leastBy_111
      · have fc_31 : r_1.toInt < 12 := zf_nle c_31 (by decide) rfl
        refine lv_iload hx hb dX5_leastBy_80 (lv_at hl 0 rfl) ?_
        refine lv_bipush (v := 12) hx hb dX5_leastBy_82 (by decide) ?_
        refine lv_iload hx hb dX5_leastBy_84 (lv_at hl 2 rfl) ?_
        refine lv_isub hx hb dX5_leastBy_86 ?_
        refine lv_topi (fun x_32 ex_32 => ?_)
        have qx_32 : x_32.toInt = 12 - r_1.toInt := by rw [ex_32]; exact zf_sub (by decide) rfl (by omega) (by omega)
        refine lv_aload_n hx hb dX5_leastBy_87 rfl (lv_at hl 3 rfl) ?_
        refine lv_iload_n hx hb dX5_leastBy_88 rfl (lv_at hl 5 rfl) ?_
        refine lv_iconst (v := 1) hx hb dX5_leastBy_89 (by decide) ?_
        refine lv_isub hx hb dX5_leastBy_90 ?_
        refine lv_topi (fun y_33 ey_33 => ?_)
        obtain rfl : y_33 = 2 := ey_33.trans (by decide)
        refine lv_aload_n hx hb dX5_leastBy_91 rfl (lv_at hl 4 rfl) ?_
        refine lv_iload_n hx hb dX5_leastBy_92 rfl (lv_at hl 6 rfl) ?_
        refine lv_aload_n hx hb dX5_leastBy_93 rfl (lv_at hl 3 rfl) ?_
        refine va_get (D := D) (ci := 5) (v := .int wh) (C := RX5) (T := TX5) (N := 7) hx hb hts hi_X5_leastBy_5 hown hK hP 0 rfl rfl 5 (by decide) (hts (.fieldLink RX5 31 "TheLiningsInIt$Ways" "hurry" "I") (List.mem_of_getElem? (i := 1) rfl)) (fun _ h9 => h9) rfl dX5_leastBy_94 ?_
        refine zc_V (As := [.int d, .int wh]) (rest := [.int 2, .ref w0, .int x_32, .int x_30]) ⟨hx, hb, hml, hown, hts⟩ (c_F_Pull_deeper l D cI cJ cZ cP cS po (d) (wh) u0 (ki) (a_) (ta) hu_u0 ⟨by omega, by omega, by omega, by omega⟩ hy12 hy13 hy4 hy5) (cwV 2 hts gX5_leastBy_X2_deeper rfl rfl rfl ⟨rfl, dh_X2_deeper⟩ ⟨Nat.le_of_ble_eq_true rfl, Nat.le_of_ble_eq_true rfl⟩) hK hN (hZ.kept hS) hP zP_nil (va_recv (q := (RX2, TX2, 3)) hK (zPu_P (hZ.kept hS) hu_u0) (ci := 2) (q0 := 0) rfl rfl) rfl hl.1 rfl (Nat.le_of_ble_eq_true rfl) dX5_leastBy_97 ⟨Nat.le_of_ble_eq_true rfl, Nat.le_of_ble_eq_true rfl⟩ (fun r_34 hr_34 => ?_)
        obtain ⟨g_35, g_36, hsr_34_0⟩ := hr_34
        refine lv_iload hx hb dX5_leastBy_100 (lv_at hl 1 rfl) ?_
        skip
        refine zw_V (As := [.int 2, .int r_34, .int x_4]) (rest := [.int x_32, .int x_30]) (wr := []) ⟨hx, hb, hml, hown, hts⟩ (c_F_W_least_2 l D cI cJ cZ cP cS po w0 wk wl wc wp (wn) (wh) (wg) fq kq aq tq (tw) q_26 fc (r_34) (x_4) hy2 hy3 hy4 hy5 hy6 hy7 hjw (by first | assumption | omega) (by first | assumption | omega) (by first | assumption | omega | decide) (by omega) (by omega) (by omega) (by omega) hp_fc H.size) (cwV 3 hts gX5_leastBy_X5_least rfl rfl rfl ⟨rfl, dh_X5_least⟩ ⟨Nat.le_of_ble_eq_true rfl, Nat.le_of_ble_eq_true rfl⟩) hK hN (hZ.kept hS) hP hD hS hA [0, 1, 2, 3] [] rfl rfl (by decide) (by decide) (by decide) (va_recv (q := (RX5, TX5, 7)) hK hP (ci := 5) (q0 := 0) rfl rfl) rfl hl.1 rfl (Nat.le_of_ble_eq_true rfl) dX5_leastBy_102 ⟨Nat.le_of_ble_eq_true rfl, Nat.le_of_ble_eq_true rfl⟩ (fun r_37 u_38 H locs hr_37 hP hD hS => ?_)
        obtain ⟨q_39, rfl⟩ : ∃ z, z = u_38 := ⟨_, rfl⟩
        obtain ⟨hsr_37_0, hsr_37_1, hr_37⟩ := hr_37
        have h9R := zRe (ws' := [(w0, .inr (5, [.ref wk, .ref wl, .ref wc, .ref wp, .int wn, .int wh, .int wg])), (wl, .inl (cI, 125, .inl q_39)), (wc, .inl (cI, 3, .inl fc)), (wp, .inl (cP, 8, .inr (.inr (.inr (.inr fq)))))]) hP hD rfl
        clear hP hD
        obtain ⟨hP, hD⟩ := h9R
        obtain ⟨g_40, g_41⟩ := hr_37
        refine lv_imul hx hb dX5_leastBy_105 ?_
        refine lv_topi (fun x_42 ex_42 => ?_)
        obtain ⟨mx_42, nx_42, ox_42⟩ := zf_mulc (a := x_32) (b := r_37) (x := x_32.toInt) (y := r_37.toInt) (P := 14256) rfl rfl ⟨by omega, by omega⟩ ⟨by omega, by omega⟩ (by decide)
        rw [← ex_42] at mx_42
        refine lv_iadd hx hb dX5_leastBy_106 ?_
        refine lv_topi (fun x_43 ex_43 => ?_)
        have qx_43 : x_43.toInt = x_30.toInt + x_42.toInt := by rw [ex_43]; exact zf_add rfl rfl (by omega) (by omega)
        refine lv_istore (lv' := [(7, .int x_43), (6, .int x_4), (5, .int r_1), (0, .ref w0), (1, .ref u0), (2, .int 3), (3, .int d), (4, .int sec)]) hx hb dX5_leastBy_107 hl (by decide) rfl (fun ls hl => ?_)
        refine lv_iload hx hb dX5_leastBy_109 (lv_at hl 0 rfl) ?_
        have hmx9 := zMix (w := r_1.toInt) (x := r_24.toInt) (y := r_37.toInt) (P := 14256) ⟨by omega, by omega⟩ ⟨by omega, by omega⟩ ⟨by omega, by omega⟩
        rw [show 12 - r_1.toInt = x_32.toInt from by omega] at hmx9
        exact W.iret (v := x_43) hx hb hr (fun t ht hW => ⟨⟨x_43, q_39, rfl, ⟨(show zKn kq aq tq wn.toInt.toNat wh.toInt (fc 0).toInt (fc 1).toInt (fc 2).toInt wg.toInt q_39 from by first | exact hsr_37_0 | assumption), (show (x_43 : Int32).toInt = zLb (zLn kq aq tq wn.toInt.toNat wh.toInt (fc 0).toInt (fc 1).toInt (fc 2).toInt 2) (fc 0).toInt (zPw 3) ki.toInt a_.toInt ta.toInt wh.toInt d.toInt sec.toInt from by (have zw := hsr_1_0; have E1 : r_1.toInt * (zLn kq aq tq wn.toInt.toNat wh.toInt (fc 0).toInt (fc 1).toInt (fc 2).toInt 2) (zShl ki.toInt a_.toInt d.toInt) (sec.toInt - ta.toInt) = x_29.toInt := (by rw [← hsr_21_0, show sec.toInt - ta.toInt = (x_4 : Int32).toInt from by omega, ← hsr_24_1]; omega); have E2 : (12 - r_1.toInt) * (zLn kq aq tq wn.toInt.toNat wh.toInt (fc 0).toInt (fc 1).toInt (fc 2).toInt 2) (zDpr ki.toInt a_.toInt wh.toInt d.toInt) (sec.toInt - ta.toInt) = x_42.toInt := (by rw [← hsr_34_0, show sec.toInt - ta.toInt = (x_4 : Int32).toInt from by omega, ← hsr_37_1, show 12 - r_1.toInt = x_32.toInt from by omega]; omega); unfold zLb zBy1; rw [← zw, E1, E2, show zPw 3 = 1728 from by decide]; first | (rw [if_neg (by omega)]; omega) | (rw [if_pos (by omega)]; omega))), ⟨by omega, by omega⟩⟩, zRet ht hP hD [0, 1, 2, 3] (by decide) rfl⟩, hS.F ht⟩) hS.2.2 dX5_leastBy_111
  · have fc_5 : ki.toInt = 5 := zf_eq c_5 rfl (by decide)
    obtain ⟨t_44, zt_44, yt_44⟩ := hZ.1.1
    refine va_gets hx hb zt_44 hS hown (hts (.fieldLink RX5 79 "TheLiningsInIt$Ways" "POWERS" "[I") (List.mem_of_getElem? (i := 4) rfl)) (fun _ h9 => h9) dX5_leastBy_28 ?_
    refine lv_iload_n hx hb dX5_leastBy_31 rfl (lv_at hl 4 rfl) ?_
    refine va_ti hx hb yt_44 hS (zf_in (by decide) (by decide)) (v := .int 1728) (by decide) dX5_leastBy_32 ?_
    refine lv_aload_n hx hb dX5_leastBy_33 rfl (lv_at hl 2 rfl) ?_
    refine va_get (D := D) (ci := 5) (v := .ref wc) (C := RX5) (T := TX5) (N := 7) hx hb hts hi_X5_leastBy_5 hown hK hP 0 rfl rfl 2 (by decide) (hts (.fieldLink RX5 18 "TheLiningsInIt$Ways" "costs" "[I") (List.mem_of_getElem? (i := 5) rfl)) (fun _ h9 => h9) rfl dX5_leastBy_34 ?_
    refine lv_iconst (v := 0) hx hb dX5_leastBy_37 (by decide) ?_
    refine va_iald hx hb hK hP 2 0 rfl rfl (zf_in (by decide) (by decide)) dX5_leastBy_38 ?_
    refine lv_topi (fun x_45 ex_45 => ?_)
    have bx_45 : 0 ≤ x_45.toInt ∧ x_45.toInt ≤ 99 := by rw [ex_45]; exact hp_fc _
    refine lv_imul hx hb dX5_leastBy_39 ?_
    refine lv_topi (fun x_46 ex_46 => ?_)
    have qx_46 : x_46.toInt = 1728 * x_45.toInt := by rw [ex_46]; exact zf_mul (by decide) rfl (by omega) (by omega)
    refine lv_goto (tgt := 44) hx hb dX5_leastBy_40 (by decide) ?_
    refine lv_istore (lv' := [(7, .int x_46), (6, .int x_4), (5, .int r_1), (0, .ref w0), (1, .ref u0), (2, .int 3), (3, .int d), (4, .int sec)]) hx hb dX5_leastBy_44 hl (by decide) rfl (fun ls hl => ?_)
    refine lv_iload hx hb dX5_leastBy_46 (lv_at hl 2 rfl) ?_
    refine lv_if_le (tgt := 73) hx hb dX5_leastBy_48 (by decide) (fun c_47 => ?_) (fun c_47 => ?_)
    · have fc_47 : r_1.toInt ≤ 0 := zf_le c_47 rfl (by decide)
      refine lv_iload hx hb dX5_leastBy_73 (lv_at hl 2 rfl) ?_
      refine lv_bipush (v := 12) hx hb dX5_leastBy_75 (by decide) ?_
      refine lv_icmp_ge (tgt := 109) hx hb dX5_leastBy_77 (by decide) (fun c_48 => ?_) (fun c_48 => ?_)
      · exfalso; have fc_48 : 12 ≤ r_1.toInt := zf_le c_48 (by decide) rfl; omega
      · have fc_48 : r_1.toInt < 12 := zf_nle c_48 (by decide) rfl
        refine lv_iload hx hb dX5_leastBy_80 (lv_at hl 0 rfl) ?_
        refine lv_bipush (v := 12) hx hb dX5_leastBy_82 (by decide) ?_
        refine lv_iload hx hb dX5_leastBy_84 (lv_at hl 2 rfl) ?_
        refine lv_isub hx hb dX5_leastBy_86 ?_
        refine lv_topi (fun x_49 ex_49 => ?_)
        have qx_49 : x_49.toInt = 12 - r_1.toInt := by rw [ex_49]; exact zf_sub (by decide) rfl (by omega) (by omega)
        refine lv_aload_n hx hb dX5_leastBy_87 rfl (lv_at hl 3 rfl) ?_
        refine lv_iload_n hx hb dX5_leastBy_88 rfl (lv_at hl 5 rfl) ?_
        refine lv_iconst (v := 1) hx hb dX5_leastBy_89 (by decide) ?_
        refine lv_isub hx hb dX5_leastBy_90 ?_
        refine lv_topi (fun y_50 ey_50 => ?_)
        obtain rfl : y_50 = 2 := ey_50.trans (by decide)
        refine lv_aload_n hx hb dX5_leastBy_91 rfl (lv_at hl 4 rfl) ?_
        refine lv_iload_n hx hb dX5_leastBy_92 rfl (lv_at hl 6 rfl) ?_
        refine lv_aload_n hx hb dX5_leastBy_93 rfl (lv_at hl 3 rfl) ?_
        refine va_get (D := D) (ci := 5) (v := .int wh) (C := RX5) (T := TX5) (N := 7) hx hb hts hi_X5_leastBy_5 hown hK hP 0 rfl rfl 5 (by decide) (hts (.fieldLink RX5 31 "TheLiningsInIt$Ways" "hurry" "I") (List.mem_of_getElem? (i := 1) rfl)) (fun _ h9 => h9) rfl dX5_leastBy_94 ?_
        refine zc_V (As := [.int d, .int wh]) (rest := [.int 2, .ref w0, .int x_49, .int x_46]) ⟨hx, hb, hml, hown, hts⟩ (c_F_Pull_deeper l D cI cJ cZ cP cS po (d) (wh) u0 (ki) (a_) (ta) hu_u0 ⟨by omega, by omega, by omega, by omega⟩ hy12 hy13 hy4 hy5) (cwV 2 hts gX5_leastBy_X2_deeper rfl rfl rfl ⟨rfl, dh_X2_deeper⟩ ⟨Nat.le_of_ble_eq_true rfl, Nat.le_of_ble_eq_true rfl⟩) hK hN (hZ.kept hS) hP zP_nil (va_recv (q := (RX2, TX2, 3)) hK (zPu_P (hZ.kept hS) hu_u0) (ci := 2) (q0 := 0) rfl rfl) rfl hl.1 rfl (Nat.le_of_ble_eq_true rfl) dX5_leastBy_97 ⟨Nat.le_of_ble_eq_true rfl, Nat.le_of_ble_eq_true rfl⟩ (fun r_51 hr_51 => ?_)
        obtain ⟨g_52, g_53, hsr_51_0⟩ := hr_51
        refine lv_iload hx hb dX5_leastBy_100 (lv_at hl 1 rfl) ?_
        skip
        refine zw_V (As := [.int 2, .int r_51, .int x_4]) (rest := [.int x_49, .int x_46]) (wr := []) ⟨hx, hb, hml, hown, hts⟩ (c_F_W_least_2 l D cI cJ cZ cP cS po w0 wk wl wc wp (wn) (wh) (wg) fq kq aq tq (tw) fl fc (r_51) (x_4) hy2 hy3 hy4 hy5 hy6 hy7 hjw (by first | assumption | omega) (by first | assumption | omega) (by first | assumption | omega | decide) (by omega) (by omega) (by omega) (by omega) hp_fc H.size) (cwV 3 hts gX5_leastBy_X5_least rfl rfl rfl ⟨rfl, dh_X5_least⟩ ⟨Nat.le_of_ble_eq_true rfl, Nat.le_of_ble_eq_true rfl⟩) hK hN (hZ.kept hS) hP hD hS hA [0, 1, 2, 3] [] rfl rfl (by decide) (by decide) (by decide) (va_recv (q := (RX5, TX5, 7)) hK hP (ci := 5) (q0 := 0) rfl rfl) rfl hl.1 rfl (Nat.le_of_ble_eq_true rfl) dX5_leastBy_102 ⟨Nat.le_of_ble_eq_true rfl, Nat.le_of_ble_eq_true rfl⟩ (fun r_54 u_55 H locs hr_54 hP hD hS => ?_)
        obtain ⟨q_56, rfl⟩ : ∃ z, z = u_55 := ⟨_, rfl⟩
        obtain ⟨hsr_54_0, hsr_54_1, hr_54⟩ := hr_54
        have h9R := zRe (ws' := [(w0, .inr (5, [.ref wk, .ref wl, .ref wc, .ref wp, .int wn, .int wh, .int wg])), (wl, .inl (cI, 125, .inl q_56)), (wc, .inl (cI, 3, .inl fc)), (wp, .inl (cP, 8, .inr (.inr (.inr (.inr fq)))))]) hP hD rfl
        clear hP hD
        obtain ⟨hP, hD⟩ := h9R
        obtain ⟨g_57, g_58⟩ := hr_54
        refine lv_imul hx hb dX5_leastBy_105 ?_
        refine lv_topi (fun x_59 ex_59 => ?_)
        obtain ⟨mx_59, nx_59, ox_59⟩ := zf_mulc (a := x_49) (b := r_54) (x := x_49.toInt) (y := r_54.toInt) (P := 14256) rfl rfl ⟨by omega, by omega⟩ ⟨by omega, by omega⟩ (by decide)
        rw [← ex_59] at mx_59
        refine lv_iadd hx hb dX5_leastBy_106 ?_
        refine lv_topi (fun x_60 ex_60 => ?_)
        have qx_60 : x_60.toInt = x_46.toInt + x_59.toInt := by rw [ex_60]; exact zf_add rfl rfl (by omega) (by omega)
        refine lv_istore (lv' := [(7, .int x_60), (6, .int x_4), (5, .int r_1), (0, .ref w0), (1, .ref u0), (2, .int 3), (3, .int d), (4, .int sec)]) hx hb dX5_leastBy_107 hl (by decide) rfl (fun ls hl => ?_)
        refine lv_iload hx hb dX5_leastBy_109 (lv_at hl 0 rfl) ?_
        exact W.iret (v := x_60) hx hb hr (fun t ht hW => ⟨⟨x_60, q_56, rfl, ⟨(show zKn kq aq tq wn.toInt.toNat wh.toInt (fc 0).toInt (fc 1).toInt (fc 2).toInt wg.toInt q_56 from by first | exact hsr_54_0 | assumption), (show (x_60 : Int32).toInt = zLb (zLn kq aq tq wn.toInt.toNat wh.toInt (fc 0).toInt (fc 1).toInt (fc 2).toInt 2) (fc 0).toInt (zPw 3) ki.toInt a_.toInt ta.toInt wh.toInt d.toInt sec.toInt from by (have nx_45 : (fc 0).toInt = x_45.toInt := (by rw [ex_45, show (0 : Int32).toNatClampNeg = 0 from by decide]); have zw := hsr_1_0; have E1 : r_1.toInt * (zLn kq aq tq wn.toInt.toNat wh.toInt (fc 0).toInt (fc 1).toInt (fc 2).toInt 2) (zShl ki.toInt a_.toInt d.toInt) (sec.toInt - ta.toInt) = 0 := (by rw [show r_1.toInt = 0 from by omega, Int.zero_mul]); have E2 : (12 - r_1.toInt) * (zLn kq aq tq wn.toInt.toNat wh.toInt (fc 0).toInt (fc 1).toInt (fc 2).toInt 2) (zDpr ki.toInt a_.toInt wh.toInt d.toInt) (sec.toInt - ta.toInt) = x_59.toInt := (by rw [← hsr_51_0, show sec.toInt - ta.toInt = (x_4 : Int32).toInt from by omega, ← hsr_54_1, show 12 - r_1.toInt = x_49.toInt from by omega]; omega); unfold zLb zBy1; rw [← zw, E1, E2, show zPw 3 = 1728 from by decide]; first | (rw [if_pos (by omega)]; omega) | (rw [if_neg (by omega)]; omega))), ⟨by omega, by omega⟩⟩, zRet ht hP hD [0, 1, 2, 3] (by decide) rfl⟩, hS.F ht⟩) hS.2.2 dX5_leastBy_111
    · have fc_47 : 0 < r_1.toInt := zf_nle c_47 rfl (by decide)
      refine lv_iload hx hb dX5_leastBy_51 (lv_at hl 0 rfl) ?_
      refine lv_iload hx hb dX5_leastBy_53 (lv_at hl 2 rfl) ?_
      refine lv_aload_n hx hb dX5_leastBy_55 rfl (lv_at hl 3 rfl) ?_
      refine lv_iload_n hx hb dX5_leastBy_56 rfl (lv_at hl 5 rfl) ?_
      refine lv_iconst (v := 1) hx hb dX5_leastBy_57 (by decide) ?_
      refine lv_isub hx hb dX5_leastBy_58 ?_
      refine lv_topi (fun y_61 ey_61 => ?_)
      obtain rfl : y_61 = 2 := ey_61.trans (by decide)
      refine lv_aload_n hx hb dX5_leastBy_59 rfl (lv_at hl 4 rfl) ?_
      refine lv_iload_n hx hb dX5_leastBy_60 rfl (lv_at hl 6 rfl) ?_
      refine zc_V (As := [.int d]) (rest := [.int 2, .ref w0, .int r_1, .int x_46]) ⟨hx, hb, hml, hown, hts⟩ (c_F_Pull_shallower l D cI cJ cZ cP cS po (d) u0 (ki) (a_) (ta) hu_u0 ⟨by omega, by omega, by omega, by omega⟩ hy12 hy13) (cwV 1 hts gX5_leastBy_X2_shallower rfl rfl rfl ⟨rfl, dh_X2_shallower⟩ ⟨Nat.le_of_ble_eq_true rfl, Nat.le_of_ble_eq_true rfl⟩) hK hN (hZ.kept hS) hP zP_nil (va_recv (q := (RX2, TX2, 3)) hK (zPu_P (hZ.kept hS) hu_u0) (ci := 2) (q0 := 0) rfl rfl) rfl hl.1 rfl (Nat.le_of_ble_eq_true rfl) dX5_leastBy_61 ⟨Nat.le_of_ble_eq_true rfl, Nat.le_of_ble_eq_true rfl⟩ (fun r_62 hr_62 => ?_)
      obtain ⟨g_63, g_64, hsr_62_0⟩ := hr_62
      refine lv_iload hx hb dX5_leastBy_64 (lv_at hl 1 rfl) ?_
      skip
      refine zw_V (As := [.int 2, .int r_62, .int x_4]) (rest := [.int r_1, .int x_46]) (wr := []) ⟨hx, hb, hml, hown, hts⟩ (c_F_W_least_2 l D cI cJ cZ cP cS po w0 wk wl wc wp (wn) (wh) (wg) fq kq aq tq (tw) fl fc (r_62) (x_4) hy2 hy3 hy4 hy5 hy6 hy7 hjw (by first | assumption | omega) (by first | assumption | omega) (by first | assumption | omega | decide) (by omega) (by omega) (by omega) (by omega) hp_fc H.size) (cwV 3 hts gX5_leastBy_X5_least rfl rfl rfl ⟨rfl, dh_X5_least⟩ ⟨Nat.le_of_ble_eq_true rfl, Nat.le_of_ble_eq_true rfl⟩) hK hN (hZ.kept hS) hP hD hS hA [0, 1, 2, 3] [] rfl rfl (by decide) (by decide) (by decide) (va_recv (q := (RX5, TX5, 7)) hK hP (ci := 5) (q0 := 0) rfl rfl) rfl hl.1 rfl (Nat.le_of_ble_eq_true rfl) dX5_leastBy_66 ⟨Nat.le_of_ble_eq_true rfl, Nat.le_of_ble_eq_true rfl⟩ (fun r_65 u_66 H locs hr_65 hP hD hS => ?_)
      obtain ⟨q_67, rfl⟩ : ∃ z, z = u_66 := ⟨_, rfl⟩
      obtain ⟨hsr_65_0, hsr_65_1, hr_65⟩ := hr_65
      have h9R := zRe (ws' := [(w0, .inr (5, [.ref wk, .ref wl, .ref wc, .ref wp, .int wn, .int wh, .int wg])), (wl, .inl (cI, 125, .inl q_67)), (wc, .inl (cI, 3, .inl fc)), (wp, .inl (cP, 8, .inr (.inr (.inr (.inr fq)))))]) hP hD rfl
      clear hP hD
      obtain ⟨hP, hD⟩ := h9R
      obtain ⟨g_68, g_69⟩ := hr_65
      refine lv_imul hx hb dX5_leastBy_69 ?_
      refine lv_topi (fun x_70 ex_70 => ?_)
      obtain ⟨mx_70, nx_70, ox_70⟩ := zf_mulc (a := r_1) (b := r_65) (x := r_1.toInt) (y := r_65.toInt) (P := 14256) rfl rfl ⟨by omega, by omega⟩ ⟨by omega, by omega⟩ (by decide)
      rw [← ex_70] at mx_70
      refine lv_iadd hx hb dX5_leastBy_70 ?_
      refine lv_topi (fun x_71 ex_71 => ?_)
      have qx_71 : x_71.toInt = x_46.toInt + x_70.toInt := by rw [ex_71]; exact zf_add rfl rfl (by omega) (by omega)
      refine lv_istore (lv' := [(7, .int x_71), (6, .int x_4), (5, .int r_1), (0, .ref w0), (1, .ref u0), (2, .int 3), (3, .int d), (4, .int sec)]) hx hb dX5_leastBy_71 hl (by decide) rfl (fun ls hl => ?_)
      refine lv_iload hx hb dX5_leastBy_73 (lv_at hl 2 rfl) ?_
      refine lv_bipush (v := 12) hx hb dX5_leastBy_75 (by decide) ?_
      refine lv_icmp_ge (tgt := 109) hx hb dX5_leastBy_77 (by decide) (fun c_72 => ?_) (fun c_72 => ?_)
      · have fc_72 : 12 ≤ r_1.toInt := zf_le c_72 (by decide) rfl
        refine lv_iload hx hb dX5_leastBy_109 (lv_at hl 0 rfl) ?_
        exact W.iret (v := x_71) hx hb hr (fun t ht hW => ⟨⟨x_71, q_67, rfl, ⟨(show zKn kq aq tq wn.toInt.toNat wh.toInt (fc 0).toInt (fc 1).toInt (fc 2).toInt wg.toInt q_67 from by exact hsr_65_0), (show (x_71 : Int32).toInt = zLb (zLn kq aq tq wn.toInt.toNat wh.toInt (fc 0).toInt (fc 1).toInt (fc 2).toInt 2) (fc 0).toInt (zPw 3) ki.toInt a_.toInt ta.toInt wh.toInt d.toInt sec.toInt from by (have nx_45 : (fc 0).toInt = x_45.toInt := (by rw [ex_45, show (0 : Int32).toNatClampNeg = 0 from by decide]); have zw := hsr_1_0; have E1 : r_1.toInt * (zLn kq aq tq wn.toInt.toNat wh.toInt (fc 0).toInt (fc 1).toInt (fc 2).toInt 2) (zShl ki.toInt a_.toInt d.toInt) (sec.toInt - ta.toInt) = x_70.toInt := (by rw [← hsr_62_0, show sec.toInt - ta.toInt = (x_4 : Int32).toInt from by omega, ← hsr_65_1]; omega); have E2 : (12 - r_1.toInt) * (zLn kq aq tq wn.toInt.toNat wh.toInt (fc 0).toInt (fc 1).toInt (fc 2).toInt 2) (zDpr ki.toInt a_.toInt wh.toInt d.toInt) (sec.toInt - ta.toInt) = 0 := (by rw [show 12 - r_1.toInt = 0 from by omega, Int.zero_mul]); unfold zLb zBy1; rw [← zw, E1, E2, show zPw 3 = 1728 from by decide]; first | (rw [if_pos (by omega)]; omega) | (rw [if_neg (by omega)]; omega))), ⟨by omega, by omega⟩⟩, zRet ht hP hD [0, 1, 2, 3] (by decide) rfl⟩, hS.F ht⟩) hS.2.2 dX5_leastBy_111
      · have fc_72 : r_1.toInt < 12 := zf_nle c_72 (by decide) rfl
        refine lv_iload hx hb dX5_leastBy_80 (lv_at hl 0 rfl) ?_
        refine lv_bipush (v := 12) hx hb dX5_leastBy_82 (by decide) ?_
        refine lv_iload hx hb dX5_leastBy_84 (lv_at hl 2 rfl) ?_
        refine lv_isub hx hb dX5_leastBy_86 ?_
        refine lv_topi (fun x_73 ex_73 => ?_)
        have qx_73 : x_73.toInt = 12 - r_1.toInt := by rw [ex_73]; exact zf_sub (by decide) rfl (by omega) (by omega)
        refine lv_aload_n hx hb dX5_leastBy_87 rfl (lv_at hl 3 rfl) ?_
        refine lv_iload_n hx hb dX5_leastBy_88 rfl (lv_at hl 5 rfl) ?_
        refine lv_iconst (v := 1) hx hb dX5_leastBy_89 (by decide) ?_
        refine lv_isub hx hb dX5_leastBy_90 ?_
        refine lv_topi (fun y_74 ey_74 => ?_)
        obtain rfl : y_74 = 2 := ey_74.trans (by decide)
        refine lv_aload_n hx hb dX5_leastBy_91 rfl (lv_at hl 4 rfl) ?_
        refine lv_iload_n hx hb dX5_leastBy_92 rfl (lv_at hl 6 rfl) ?_
        refine lv_aload_n hx hb dX5_leastBy_93 rfl (lv_at hl 3 rfl) ?_
        refine va_get (D := D) (ci := 5) (v := .int wh) (C := RX5) (T := TX5) (N := 7) hx hb hts hi_X5_leastBy_5 hown hK hP 0 rfl rfl 5 (by decide) (hts (.fieldLink RX5 31 "TheLiningsInIt$Ways" "hurry" "I") (List.mem_of_getElem? (i := 1) rfl)) (fun _ h9 => h9) rfl dX5_leastBy_94 ?_
        refine zc_V (As := [.int d, .int wh]) (rest := [.int 2, .ref w0, .int x_73, .int x_71]) ⟨hx, hb, hml, hown, hts⟩ (c_F_Pull_deeper l D cI cJ cZ cP cS po (d) (wh) u0 (ki) (a_) (ta) hu_u0 ⟨by omega, by omega, by omega, by omega⟩ hy12 hy13 hy4 hy5) (cwV 2 hts gX5_leastBy_X2_deeper rfl rfl rfl ⟨rfl, dh_X2_deeper⟩ ⟨Nat.le_of_ble_eq_true rfl, Nat.le_of_ble_eq_true rfl⟩) hK hN (hZ.kept hS) hP zP_nil (va_recv (q := (RX2, TX2, 3)) hK (zPu_P (hZ.kept hS) hu_u0) (ci := 2) (q0 := 0) rfl rfl) rfl hl.1 rfl (Nat.le_of_ble_eq_true rfl) dX5_leastBy_97 ⟨Nat.le_of_ble_eq_true rfl, Nat.le_of_ble_eq_true rfl⟩ (fun r_75 hr_75 => ?_)
        obtain ⟨g_76, g_77, hsr_75_0⟩ := hr_75
        refine lv_iload hx hb dX5_leastBy_100 (lv_at hl 1 rfl) ?_
        skip
        refine zw_V (As := [.int 2, .int r_75, .int x_4]) (rest := [.int x_73, .int x_71]) (wr := []) ⟨hx, hb, hml, hown, hts⟩ (c_F_W_least_2 l D cI cJ cZ cP cS po w0 wk wl wc wp (wn) (wh) (wg) fq kq aq tq (tw) q_67 fc (r_75) (x_4) hy2 hy3 hy4 hy5 hy6 hy7 hjw (by first | assumption | omega) (by first | assumption | omega) (by first | assumption | omega | decide) (by omega) (by omega) (by omega) (by omega) hp_fc H.size) (cwV 3 hts gX5_leastBy_X5_least rfl rfl rfl ⟨rfl, dh_X5_least⟩ ⟨Nat.le_of_ble_eq_true rfl, Nat.le_of_ble_eq_true rfl⟩) hK hN (hZ.kept hS) hP hD hS hA [0, 1, 2, 3] [] rfl rfl (by decide) (by decide) (by decide) (va_recv (q := (RX5, TX5, 7)) hK hP (ci := 5) (q0 := 0) rfl rfl) rfl hl.1 rfl (Nat.le_of_ble_eq_true rfl) dX5_leastBy_102 ⟨Nat.le_of_ble_eq_true rfl, Nat.le_of_ble_eq_true rfl⟩ (fun r_78 u_79 H locs hr_78 hP hD hS => ?_)
        obtain ⟨q_80, rfl⟩ : ∃ z, z = u_79 := ⟨_, rfl⟩
        obtain ⟨hsr_78_0, hsr_78_1, hr_78⟩ := hr_78
        have h9R := zRe (ws' := [(w0, .inr (5, [.ref wk, .ref wl, .ref wc, .ref wp, .int wn, .int wh, .int wg])), (wl, .inl (cI, 125, .inl q_80)), (wc, .inl (cI, 3, .inl fc)), (wp, .inl (cP, 8, .inr (.inr (.inr (.inr fq)))))]) hP hD rfl
        clear hP hD
        obtain ⟨hP, hD⟩ := h9R
        obtain ⟨g_81, g_82⟩ := hr_78
        refine lv_imul hx hb dX5_leastBy_105 ?_
        refine lv_topi (fun x_83 ex_83 => ?_)
        obtain ⟨mx_83, nx_83, ox_83⟩ := zf_mulc (a := x_73) (b := r_78) (x := x_73.toInt) (y := r_78.toInt) (P := 14256) rfl rfl ⟨by omega, by omega⟩ ⟨by omega, by omega⟩ (by decide)
        rw [← ex_83] at mx_83
        refine lv_iadd hx hb dX5_leastBy_106 ?_
        refine lv_topi (fun x_84 ex_84 => ?_)
        have qx_84 : x_84.toInt = x_71.toInt + x_83.toInt := by rw [ex_84]; exact zf_add rfl rfl (by omega) (by omega)
        refine lv_istore (lv' := [(7, .int x_84), (6, .int x_4), (5, .int r_1), (0, .ref w0), (1, .ref u0), (2, .int 3), (3, .int d), (4, .int sec)]) hx hb dX5_leastBy_107 hl (by decide) rfl (fun ls hl => ?_)
        refine lv_iload hx hb dX5_leastBy_109 (lv_at hl 0 rfl) ?_
        have hmx9 := zMix (w := r_1.toInt) (x := r_65.toInt) (y := r_78.toInt) (P := 14256) ⟨by omega, by omega⟩ ⟨by omega, by omega⟩ ⟨by omega, by omega⟩
        rw [show 12 - r_1.toInt = x_73.toInt from by omega] at hmx9
        exact W.iret (v := x_84) hx hb hr (fun t ht hW => ⟨⟨x_84, q_80, rfl, ⟨(show zKn kq aq tq wn.toInt.toNat wh.toInt (fc 0).toInt (fc 1).toInt (fc 2).toInt wg.toInt q_80 from by first | exact hsr_78_0 | assumption), (show (x_84 : Int32).toInt = zLb (zLn kq aq tq wn.toInt.toNat wh.toInt (fc 0).toInt (fc 1).toInt (fc 2).toInt 2) (fc 0).toInt (zPw 3) ki.toInt a_.toInt ta.toInt wh.toInt d.toInt sec.toInt from by (have nx_45 : (fc 0).toInt = x_45.toInt := (by rw [ex_45, show (0 : Int32).toNatClampNeg = 0 from by decide]); have zw := hsr_1_0; have E1 : r_1.toInt * (zLn kq aq tq wn.toInt.toNat wh.toInt (fc 0).toInt (fc 1).toInt (fc 2).toInt 2) (zShl ki.toInt a_.toInt d.toInt) (sec.toInt - ta.toInt) = x_70.toInt := (by rw [← hsr_62_0, show sec.toInt - ta.toInt = (x_4 : Int32).toInt from by omega, ← hsr_65_1]; omega); have E2 : (12 - r_1.toInt) * (zLn kq aq tq wn.toInt.toNat wh.toInt (fc 0).toInt (fc 1).toInt (fc 2).toInt 2) (zDpr ki.toInt a_.toInt wh.toInt d.toInt) (sec.toInt - ta.toInt) = x_83.toInt := (by rw [← hsr_75_0, show sec.toInt - ta.toInt = (x_4 : Int32).toInt from by omega, ← hsr_78_1, show 12 - r_1.toInt = x_73.toInt from by omega]; omega); unfold zLb zBy1; rw [← zw, E1, E2, show zPw 3 = 1728 from by decide]; first | (rw [if_pos (by omega)]; omega) | (rw [if_neg (by omega)]; omega))), ⟨by omega, by omega⟩⟩, zRet ht hP hD [0, 1, 2, 3] (by decide) rfl⟩, hS.F ht⟩) hS.2.2 dX5_leastBy_111
set_option maxHeartbeats 4000000 in
set_option maxRecDepth 100000 in
theorem c_F_W_least_3 (l : Launch) (D : va_G) (cI cJ cZ cP cS : ClassId) (po : zPool) (w0 wk wl wc wp : Nat) (wn wh wg : Int32) (fq : Nat → Option Nat) (kq aq tq : Nat → Int32) (tw : Int32) (fl fc : Nat → Int32) (d sec : Int32) (hy0 : 0 ≤ wn.toInt) (hy1 : wn.toInt ≤ 8) (hy2 : 0 ≤ wh.toInt) (hy3 : wh.toInt ≤ 9) (hy4 : 0 ≤ wg.toInt) (hy5 : wg.toInt ≤ 60) (hjw : zJW po fq wn kq aq tq tw) (hkn : zKn kq aq tq wn.toInt.toNat wh.toInt (fc 0).toInt (fc 1).toInt (fc 2).toInt wg.toInt fl) (hgl : (∀ p : Nat, p < wn.toInt.toNat → (tq p).toInt ≤ wg.toInt)) (htw : tw.toInt = 1) (hy10 : 0 ≤ d.toInt) (hy11 : d.toInt ≤ 24) (hy12 : 0 ≤ sec.toInt) (hy13 : sec.toInt ≤ 300) (hp_fc : zRg fc (0) 99) (hpz : Nat) : Met l yX5_least wsX5_least ({ frames := 8, cells := 0, slots := 0, locals := 208 }) (va_Pc [.ref w0, .int 3, .int d, .int sec] (zW D (zKT cI cJ cZ cP cS) po [(w0, .inr (5, [.ref wk, .ref wl, .ref wc, .ref wp, .int wn, .int wh, .int wg])), (wl, .inl (cI, 125, .inl fl)), (wc, .inl (cI, 3, .inl fc)), (wp, .inl (cP, 8, .inr (.inr (.inr (.inr fq)))))] hpz)) (va_Qi (fun (r : Int32) (fl2 : (Nat → Int32)) => (zKn kq aq tq wn.toInt.toNat wh.toInt (fc 0).toInt (fc 1).toInt (fc 2).toInt wg.toInt fl2) ∧ (r.toInt = (zLn kq aq tq wn.toInt.toNat wh.toInt (fc 0).toInt (fc 1).toInt (fc 2).toInt 3) d.toInt sec.toInt) ∧ (0 ≤ r.toInt ∧ r.toInt ≤ 171072)) (zB D [(w0, .inr (5, [.ref wk, .ref wl, .ref wc, .ref wp, .int wn, .int wh, .int wg])), (wl, .inl (cI, 125, .inl fl)), (wc, .inl (cI, 3, .inl fc)), (wp, .inl (cP, 8, .inr (.inr (.inr (.inr fq)))))] hpz (fun (fl2 : Nat → Int32) => [(w0, .inr (5, [.ref wk, .ref wl, .ref wc, .ref wp, .int wn, .int wh, .int wg])), (wl, .inl (cI, 125, .inl fl2)), (wc, .inl (cI, 3, .inl fc)), (wp, .inl (cP, 8, .inr (.inr (.inr (.inr fq)))))])) (va_A [(w0, .inr (5, [.ref wk, .ref wl, .ref wc, .ref wp, .int wn, .int wh, .int wg])), (wl, .inl (cI, 125, .inl fl)), (wc, .inl (cI, 3, .inl fc)), (wp, .inl (cP, 8, .inr (.inr (.inr (.inr fq)))))] hpz)) 0 0 (va_A [(w0, .inr (5, [.ref wk, .ref wl, .ref wc, .ref wp, .int wn, .int wh, .int wg])), (wl, .inl (cI, 125, .inl fl)), (wc, .inl (cI, 3, .inl fc)), (wp, .inl (cP, 8, .inr (.inr (.inr (.inr fq)))))] hpz) := by
  refine Met.ofW (cc := cX5_least) (maxL := 9) (ret := (some .int)) (by decide) rfl ?_
  intro p e s m args below meth c s₁ B hml hv
  obtain ⟨rfl, hsz, hP, hK, hD0, hN, hZ⟩ := hv
  have hx := B.exec
  have hb := B.bytes
  have hr := B.returns
  have hts := atoms_spec (ws := wsX5_least) B.pre
  have hown : s.vm.findClass RX5 = some m.cls := findClass_of_methodNamed B.named
  have hlocks := B.notSynchronized
  subst hsz
  have hD := hD0.self (sz := s.heap.size)
  have hA := zA_of hD
  have hl := lv_entry ([.ref w0, .int 3, .int d, .int sec]) (n := 9) (Nat.le_of_ble_eq_true rfl)
  rw [lg_entry_eq]
  generalize (lg_sl ([.ref w0, .int 3, .int d, .int sec]) ++ List.replicate (9 - (lg_sl ([.ref w0, .int 3, .int d, .int sec])).length) Slot.unset).toArray = ls at hl ⊢
  replace hl : lv_has ls 9 [(0, .ref w0), (1, .int 3), (2, .int d), (3, .int sec)] := hl
  refine zw_begin hP hD (fun H locs hP1 hS => ?_)
  clear hP
  have hP := hP1
  clear hP1
  refine lv_iload_n hx hb dX5_least_0 rfl (lv_at hl 1 rfl) ?_
  refine lv_if_lt (tgt := 20) hx hb dX5_least_1 (by decide) (fun c_1 => ?_) (fun c_1 => ?_)
  · exact absurd c_1 (by decide)
  · refine lv_iload_n hx hb dX5_least_4 rfl (lv_at hl 1 rfl) ?_
    refine lv_iconst (v := 4) hx hb dX5_least_5 (by decide) ?_
    refine lv_icmp_gt (tgt := 20) hx hb dX5_least_6 (by decide) (fun c_2 => ?_) (fun c_2 => ?_)
    · exact absurd c_2 (by decide)
    · refine lv_iload_n hx hb dX5_least_9 rfl (lv_at hl 2 rfl) ?_
      refine lv_iconst (v := 1) hx hb dX5_least_10 (by decide) ?_
      refine lv_icmp_lt (tgt := 20) hx hb dX5_least_11 (by decide) (fun c_3 => ?_) (fun c_3 => ?_)
      · have fc_3 : d.toInt < 1 := zf_lt c_3 rfl (by decide)
        refine lv_iconst (v := 0) hx hb dX5_least_20 (by decide) ?_
        exact W.iret (v := 0) hx hb hr (fun t ht hW => ⟨⟨0, fl, rfl, ⟨(show zKn kq aq tq wn.toInt.toNat wh.toInt (fc 0).toInt (fc 1).toInt (fc 2).toInt wg.toInt fl from by exact hkn), (show (0 : Int32).toInt = (zLn kq aq tq wn.toInt.toNat wh.toInt (fc 0).toInt (fc 1).toInt (fc 2).toInt 3) d.toInt sec.toInt from by (have k9 : (0 : Int32).toInt = 0 := (by decide); rw [zLn_s, if_pos (by omega)]; exact k9)), ⟨by decide, by decide⟩⟩, zRet ht hP hD [0, 1, 2, 3] (by decide) rfl⟩, hS.F ht⟩) hS.2.2 dX5_least_21
      · have fc_3 : 1 ≤ d.toInt := zf_nlt c_3 rfl (by decide)
        refine lv_iload_n hx hb dX5_least_14 rfl (lv_at hl 2 rfl) ?_
        refine lv_bipush (v := 24) hx hb dX5_least_15 (by decide) ?_
        refine lv_icmp_le (tgt := 22) hx hb dX5_least_17 (by decide) (fun c_4 => ?_) (fun c_4 => ?_)
        · have fc_4 : d.toInt ≤ 24 := zf_le c_4 rfl (by decide)
          refine lv_iload_n hx hb dX5_least_22 rfl (lv_at hl 3 rfl) ?_
          refine lv_iload_n hx hb dX5_least_23 rfl (lv_at hl 1 rfl) ?_
          refine lv_aload_n hx hb dX5_least_24 rfl (lv_at hl 0 rfl) ?_
          refine va_get (D := D) (ci := 5) (v := .int wg) (C := RX5) (T := TX5) (N := 7) hx hb hts hi_X5_least_5 hown hK hP 0 rfl rfl 6 (by decide) (hts (.fieldLink RX5 34 "TheLiningsInIt$Ways" "longest" "I") (List.mem_of_getElem? (i := 1) rfl)) (fun _ h9 => h9) rfl dX5_least_25 ?_
          refine lv_imul hx hb dX5_least_28 ?_
          refine lv_topi (fun x_5 ex_5 => ?_)
          have qx_5 : x_5.toInt = 3 * wg.toInt := by rw [ex_5]; exact zf_mul (by decide) rfl (by omega) (by omega)
          refine lv_bipush (v := 30) hx hb dX5_least_29 (by decide) ?_
          refine lv_iadd hx hb dX5_least_31 ?_
          refine lv_topi (fun x_6 ex_6 => ?_)
          have qx_6 : x_6.toInt = x_5.toInt + 30 := by rw [ex_6]; exact zf_add rfl (by decide) (by omega) (by omega)
          refine lv_icmp_lt (tgt := 39) hx hb dX5_least_32 (by decide) (fun c_7 => ?_) (fun c_7 => ?_)
          · have fc_7 : sec.toInt < x_6.toInt := zf_lt c_7 rfl rfl
            refine lv_iconst (v := 0) hx hb dX5_least_39 (by decide) ?_
            refine lv_istore (lv' := [(4, .int 0), (0, .ref w0), (1, .int 3), (2, .int d), (3, .int sec)]) hx hb dX5_least_40 hl (by decide) rfl (fun ls hl => ?_)
            refine lv_iload_n hx hb dX5_least_42 rfl (lv_at hl 2 rfl) ?_
            refine lv_bipush (v := 25) hx hb dX5_least_43 (by decide) ?_
            refine lv_imul hx hb dX5_least_45 ?_
            refine lv_topi (fun y_8 ey_8 => ?_)
            obtain rfl : y_8 = 75 := ey_8.trans (by decide)
            refine lv_iload_n hx hb dX5_least_46 rfl (lv_at hl 3 rfl) ?_
            refine lv_iadd hx hb dX5_least_47 ?_
            refine lv_topi (fun x_9 ex_9 => ?_)
            have qx_9 : x_9.toInt = 75 + d.toInt := by rw [ex_9]; exact zf_add (by decide) rfl (by omega) (by omega)
            refine lv_istore (lv' := [(5, .int x_9), (4, .int 0), (0, .ref w0), (1, .int 3), (2, .int d), (3, .int sec)]) hx hb dX5_least_48 hl (by decide) rfl (fun ls hl => ?_)
            refine lv_iload hx hb dX5_least_50 (lv_at hl 1 rfl) ?_
            refine lv_if_eq (tgt := 74) hx hb dX5_least_52 (by decide) (fun c_10 => ?_) (fun c_10 => ?_)
            · refine lv_aload_n hx hb dX5_least_74 rfl (lv_at hl 2 rfl) ?_
              refine lv_iload_n hx hb dX5_least_75 rfl (lv_at hl 3 rfl) ?_
              refine lv_iload_n hx hb dX5_least_76 rfl (lv_at hl 5 rfl) ?_
              refine zc_V (As := [.int 3, .int sec]) (rest := []) ⟨hx, hb, hml, hown, hts⟩ (c_F_W_leastAtOnce_3 l D cI cJ cZ cP cS po w0 wk wl wc wp (wn) (wh) (wg) fc (sec) hy0 hy1 hy2 hy3 hy4 hy5 hy12 hy13 hp_fc) (cwV 2 hts gX5_least_X5_leastAtOnce rfl rfl rfl ⟨rfl, dh_X5_leastAtOnce⟩ ⟨Nat.le_of_ble_eq_true rfl, Nat.le_of_ble_eq_true rfl⟩) hK hN (hZ.kept hS) hP (hP.sub [0, 2] rfl) (va_recv (q := (RX5, TX5, 7)) hK hP (ci := 5) (q0 := 0) rfl rfl) rfl hl.1 rfl (Nat.le_of_ble_eq_true rfl) dX5_least_77 ⟨Nat.le_of_ble_eq_true rfl, Nat.le_of_ble_eq_true rfl⟩ (fun r_11 hr_11 => ?_)
              obtain ⟨g_12, g_13, hsr_11_0⟩ := hr_11
              refine lv_istore (lv' := [(6, .int r_11), (5, .int x_9), (4, .int 0), (0, .ref w0), (1, .int 3), (2, .int d), (3, .int sec)]) hx hb dX5_least_80 hl (by decide) rfl (fun ls hl => ?_)
              refine lv_iconst (v := 0) hx hb dX5_least_82 (by decide) ?_
              refine lv_istore (lv' := [(7, .int 0), (6, .int r_11), (5, .int x_9), (4, .int 0), (0, .ref w0), (1, .int 3), (2, .int d), (3, .int sec)]) hx hb dX5_least_83 hl (by decide) rfl (fun ls hl => ?_)
              obtain ⟨i_85, hi_85⟩ : ∃ i : Int32, i = 0 := ⟨_, rfl⟩
              replace hl : lv_has ls 9 [(7, .int i_85), (6, .int r_11), (5, .int x_9), (4, .int 0), (0, .ref w0), (1, .int 3), (2, .int d), (3, .int sec)] := by rw [hi_85]; exact lv_sub hl [0, 1, 2, 3, 4, 5, 6, 7] rfl
              have h1i_85 : i_85.toInt = 0 := by rw [hi_85]; decide
              obtain ⟨nfu, hni_85⟩ : ∃ nq9 : Nat, wn.toInt ≤ i_85.toInt + (nq9 : Int) := ⟨((wn.toInt : Int) - 0).toNat, by omega⟩
              have hloi_85 : 0 ≤ i_85.toInt := by omega
              obtain ⟨g_14, hg_14⟩ : ∃ g : Nat → Int32, g = fl := ⟨_, rfl⟩
              replace hP : va_P D vwCl [(w0, .inr (5, [.ref wk, .ref wl, .ref wc, .ref wp, .int wn, .int wh, .int wg])), (wl, .inl (cI, 125, .inl g_14)), (wc, .inl (cI, 3, .inl fc)), (wp, .inl (cP, 8, .inr (.inr (.inr (.inr fq)))))] H := by rw [hg_14]; exact hP
              replace hD : va_D (va_A [(w0, .inr (5, [.ref wk, .ref wl, .ref wc, .ref wp, .int wn, .int wh, .int wg])), (wl, .inl (cI, 125, .inl fl)), (wc, .inl (cI, 3, .inl fc)), (wp, .inl (cP, 8, .inr (.inr (.inr (.inr fq)))))] s.heap.size) [(w0, .inr (5, [.ref wk, .ref wl, .ref wc, .ref wp, .int wn, .int wh, .int wg])), (wl, .inl (cI, 125, .inl g_14)), (wc, .inl (cI, 3, .inl fc)), (wp, .inl (cP, 8, .inr (.inr (.inr (.inr fq)))))] := by rw [hg_14]; exact hD
              obtain ⟨v_15, hv_15⟩ : ∃ g : Int32, g = r_11 := ⟨_, rfl⟩
              replace hl : lv_has ls 9 [(7, .int i_85), (6, .int v_15), (5, .int x_9), (4, .int 0), (0, .ref w0), (1, .int 3), (2, .int d), (3, .int sec)] := by rw [hv_15]; exact hl
              have hbv_15 : 0 ≤ v_15.toInt ∧ v_15.toInt ≤ 171072 := by rw [hv_15]; exact ⟨by omega, by omega⟩
              have hvi_85_0 : zKn kq aq tq wn.toInt.toNat wh.toInt (fc 0).toInt (fc 1).toInt (fc 2).toInt wg.toInt g_14 := by
                (try rw [hi_85]); (try rw [hg_14]); (try rw [hv_15]); exact hkn
              have hvi_85_1 : (v_15 : Int32).toInt = zFi tq d.toInt sec.toInt (zPw 3 * zAt (fc 1).toInt (fc 2).toInt sec.toInt) (zLv (zLn kq aq tq wn.toInt.toNat wh.toInt (fc 0).toInt (fc 1).toInt (fc 2).toInt 2) kq aq tq (fc 0).toInt (zPw 3) wh.toInt d.toInt sec.toInt) i_85.toInt.toNat := by
                (try rw [hi_85]); (try rw [hg_14]); (try rw [hv_15]); (rw [(show ((0 : Int32).toInt.toNat) = 0 from by decide)]; exact hsr_11_0)
              have hvi_85_2 : i_85.toInt ≤ wn.toInt := by
                (try rw [hi_85]); (try rw [hg_14]); (try rw [hv_15]); (have k0 : (0 : Int32).toInt = 0 := (by decide); omega)
              clear h1i_85 hi_85 hg_14 hv_15
              skip
              revert hni_85
              revert hloi_85
              revert hvi_85_2
              revert hvi_85_1
              revert hvi_85_0
              revert hbv_15
              revert hl
              revert hS
              revert hD
              revert hP
              revert ls
              revert locs
              revert H
              revert g_14
              revert v_15
              revert i_85
              induction nfu with
              | zero =>
                intro i_85 v_15 g_14 H locs ls hP hD hS hl hbv_15 hvi_85_0 hvi_85_1 hvi_85_2 hloi_85 hni_85
                have hzi_85 : wn.toInt ≤ i_85.toInt := by omega
                refine lv_iload hx hb dX5_least_85 (lv_at hl 0 rfl) ?_
                refine lv_aload_n hx hb dX5_least_87 rfl (lv_at hl 4 rfl) ?_
                refine va_get (D := D) (ci := 5) (v := .int wn) (C := RX5) (T := TX5) (N := 7) hx hb hts hi_X5_least_5 hown hK hP 0 rfl rfl 4 (by decide) (hts (.fieldLink RX5 27 "TheLiningsInIt$Ways" "count" "I") (List.mem_of_getElem? (i := 3) rfl)) (fun _ h9 => h9) rfl dX5_least_88 ?_
                refine lv_icmp_ge (tgt := 135) hx hb dX5_least_91 (by decide) (fun c_16 => ?_) (fun c_16 => ?_)
                · have fc_16 : wn.toInt ≤ i_85.toInt := zf_le c_16 rfl rfl
                  refine lv_iload hx hb dX5_least_135 (lv_at hl 3 rfl) ?_
                  refine lv_if_eq (tgt := 149) hx hb dX5_least_137 (by decide) (fun c_17 => ?_) (fun c_17 => ?_)
                  · refine lv_iload hx hb dX5_least_149 (lv_at hl 1 rfl) ?_
                    exact W.iret (v := v_15) hx hb hr (fun t ht hW => ⟨⟨v_15, g_14, rfl, ⟨(show zKn kq aq tq wn.toInt.toNat wh.toInt (fc 0).toInt (fc 1).toInt (fc 2).toInt wg.toInt g_14 from by exact hvi_85_0), (show (v_15 : Int32).toInt = (zLn kq aq tq wn.toInt.toNat wh.toInt (fc 0).toInt (fc 1).toInt (fc 2).toInt 3) d.toInt sec.toInt from by (have h9 : i_85.toInt.toNat = wn.toInt.toNat := (by omega); have z := hvi_85_1; rw [h9] at z; rw [zLn_s, if_neg (by omega)]; exact z)), ⟨by omega, by omega⟩⟩, zRet ht hP hD [0, 1, 2, 3] (by decide) rfl⟩, hS.F ht⟩) hS.2.2 dX5_least_151
                  · exact absurd c_17 (by decide)
                · exfalso; have fc_16 : i_85.toInt < wn.toInt := zf_nle c_16 rfl rfl; omega
              | succ nfu ih =>
                intro i_85 v_15 g_14 H locs ls hP hD hS hl hbv_15 hvi_85_0 hvi_85_1 hvi_85_2 hloi_85 hni_85
                refine lv_iload hx hb dX5_least_85 (lv_at hl 0 rfl) ?_
                refine lv_aload_n hx hb dX5_least_87 rfl (lv_at hl 4 rfl) ?_
                refine va_get (D := D) (ci := 5) (v := .int wn) (C := RX5) (T := TX5) (N := 7) hx hb hts hi_X5_least_5 hown hK hP 0 rfl rfl 4 (by decide) (hts (.fieldLink RX5 27 "TheLiningsInIt$Ways" "count" "I") (List.mem_of_getElem? (i := 3) rfl)) (fun _ h9 => h9) rfl dX5_least_88 ?_
                refine lv_icmp_ge (tgt := 135) hx hb dX5_least_91 (by decide) (fun c_18 => ?_) (fun c_18 => ?_)
                · have fc_18 : wn.toInt ≤ i_85.toInt := zf_le c_18 rfl rfl
                  refine lv_iload hx hb dX5_least_135 (lv_at hl 3 rfl) ?_
                  refine lv_if_eq (tgt := 149) hx hb dX5_least_137 (by decide) (fun c_19 => ?_) (fun c_19 => ?_)
                  · refine lv_iload hx hb dX5_least_149 (lv_at hl 1 rfl) ?_
                    exact W.iret (v := v_15) hx hb hr (fun t ht hW => ⟨⟨v_15, g_14, rfl, ⟨(show zKn kq aq tq wn.toInt.toNat wh.toInt (fc 0).toInt (fc 1).toInt (fc 2).toInt wg.toInt g_14 from by exact hvi_85_0), (show (v_15 : Int32).toInt = (zLn kq aq tq wn.toInt.toNat wh.toInt (fc 0).toInt (fc 1).toInt (fc 2).toInt 3) d.toInt sec.toInt from by (have h9 : i_85.toInt.toNat = wn.toInt.toNat := (by omega); have z := hvi_85_1; rw [h9] at z; rw [zLn_s, if_neg (by omega)]; exact z)), ⟨by omega, by omega⟩⟩, zRet ht hP hD [0, 1, 2, 3] (by decide) rfl⟩, hS.F ht⟩) hS.2.2 dX5_least_151
                  · exact absurd c_19 (by decide)
                · have fc_18 : i_85.toInt < wn.toInt := zf_nle c_18 rfl rfl
                  refine lv_iload_n hx hb dX5_least_94 rfl (lv_at hl 5 rfl) ?_
                  refine lv_if_le (tgt := 135) hx hb dX5_least_95 (by decide) (fun c_20 => ?_) (fun c_20 => ?_)
                  · exact absurd c_20 (by decide)
                  · refine lv_aload_n hx hb dX5_least_98 rfl (lv_at hl 4 rfl) ?_
                    refine lv_iload hx hb dX5_least_99 (lv_at hl 0 rfl) ?_
                    refine lv_iload_n hx hb dX5_least_101 rfl (lv_at hl 6 rfl) ?_
                    refine lv_iload_n hx hb dX5_least_102 rfl (lv_at hl 7 rfl) ?_
                    refine zc_Vq (As := [.int i_85, .int d, .int sec]) (rest := []) ⟨hx, hb, hml, hown, hts⟩ (c_F_W_mayBeAt l D cI cJ cZ cP cS po w0 wk wl wc wp (wn) (wh) (wg) fq kq aq tq (tw) (i_85) (d) (sec) hy0 hy1 hy2 hy3 hy4 hy5 hjw (by omega) (by omega) (by omega) hy12 hy13) (cwV 3 hts gX5_least_X5_mayBeAt rfl rfl rfl ⟨rfl, dh_X5_mayBeAt⟩ ⟨Nat.le_of_ble_eq_true rfl, Nat.le_of_ble_eq_true rfl⟩) hK hN (hZ.kept hS) hP (hP.sub [0, 3] rfl) (va_recv (q := (RX5, TX5, 7)) hK hP (ci := 5) (q0 := 0) rfl rfl) rfl hl.1 rfl (Nat.le_of_ble_eq_true rfl) dX5_least_103 ⟨Nat.le_of_ble_eq_true rfl, Nat.le_of_ble_eq_true rfl⟩ (fun r_21 hr_21 => ?_)
                    rcases hr_21 with ⟨rfl, hn_22⟩ | ⟨rfl, hn_24, g_23⟩ | ⟨rfl, hn_26, g_25⟩ | ⟨⟨u_28, kiu_28, au_28, tu_28, rfl, huu_28, hkku_28⟩, g_27⟩
                    · refine lv_astoreN (lv' := [(8, .null), (7, .int i_85), (6, .int v_15), (5, .int x_9), (4, .int 0), (0, .ref w0), (1, .int 3), (2, .int d), (3, .int sec)]) hx hb dX5_least_106 hl (by decide) rfl (fun ls hl => ?_)
                      refine lv_aloadN hx hb dX5_least_108 (lv_at hl 0 rfl) ?_
                      refine lv_ifnullN (tgt := 129) hx hb dX5_least_110 (by decide) ?_
                      obtain ⟨x_29, ex_29⟩ : ∃ y : Int32, y = i_85 + 1 := ⟨_, rfl⟩
                      have qx_29 : x_29.toInt = i_85.toInt + 1 := dw_inc ex_29 fc_18
                      refine lv_iinc (v := x_29) (lv' := [(7, .int x_29), (8, .null), (6, .int v_15), (5, .int x_9), (4, .int 0), (0, .ref w0), (1, .int 3), (2, .int d), (3, .int sec)]) hx hb dX5_least_129 hl (k := 1) rfl ex_29.symm (by decide) rfl (fun ls hl => ?_)
                      refine lv_goto (tgt := 85) hx hb dX5_least_132 (by decide) ?_
                      exact ih x_29 v_15 (g_14) _ _ _ (hP.sub [0, 1, 2, 3] rfl) (hD.sub [0, 1, 2, 3] (by decide) rfl) hS (lv_sub hl [0, 2, 3, 4, 5, 6, 7, 8] rfl) hbv_15 (show zKn kq aq tq wn.toInt.toNat wh.toInt (fc 0).toInt (fc 1).toInt (fc 2).toInt wg.toInt g_14 from by exact hvi_85_0) (show (v_15 : Int32).toInt = zFi tq d.toInt sec.toInt (zPw 3 * zAt (fc 1).toInt (fc 2).toInt sec.toInt) (zLv (zLn kq aq tq wn.toInt.toNat wh.toInt (fc 0).toInt (fc 1).toInt (fc 2).toInt 2) kq aq tq (fc 0).toInt (zPw 3) wh.toInt d.toInt sec.toInt) x_29.toInt.toNat from by (have hx : x_29.toInt.toNat = i_85.toInt.toNat + 1 := (by omega); have y4 := hn_22; have y9 : i_85.toNatClampNeg = i_85.toInt.toNat := rfl; rw [y9] at y4; rw [hx, zFi_n (fun z => y4 ⟨z.1, z.2, Or.inl (by omega)⟩)]; exact hvi_85_1)) (show x_29.toInt ≤ wn.toInt from by omega) (dw_lo hloi_85 qx_29) (dw_hn hni_85 qx_29)
                    · exfalso; omega
                    · refine lv_astoreN (lv' := [(8, .null), (7, .int i_85), (6, .int v_15), (5, .int x_9), (4, .int 0), (0, .ref w0), (1, .int 3), (2, .int d), (3, .int sec)]) hx hb dX5_least_106 hl (by decide) rfl (fun ls hl => ?_)
                      refine lv_aloadN hx hb dX5_least_108 (lv_at hl 0 rfl) ?_
                      refine lv_ifnullN (tgt := 129) hx hb dX5_least_110 (by decide) ?_
                      obtain ⟨x_30, ex_30⟩ : ∃ y : Int32, y = i_85 + 1 := ⟨_, rfl⟩
                      have qx_30 : x_30.toInt = i_85.toInt + 1 := dw_inc ex_30 fc_18
                      refine lv_iinc (v := x_30) (lv' := [(7, .int x_30), (8, .null), (6, .int v_15), (5, .int x_9), (4, .int 0), (0, .ref w0), (1, .int 3), (2, .int d), (3, .int sec)]) hx hb dX5_least_129 hl (k := 1) rfl ex_30.symm (by decide) rfl (fun ls hl => ?_)
                      refine lv_goto (tgt := 85) hx hb dX5_least_132 (by decide) ?_
                      exact ih x_30 v_15 (g_14) _ _ _ (hP.sub [0, 1, 2, 3] rfl) (hD.sub [0, 1, 2, 3] (by decide) rfl) hS (lv_sub hl [0, 2, 3, 4, 5, 6, 7, 8] rfl) hbv_15 (show zKn kq aq tq wn.toInt.toNat wh.toInt (fc 0).toInt (fc 1).toInt (fc 2).toInt wg.toInt g_14 from by exact hvi_85_0) (show (v_15 : Int32).toInt = zFi tq d.toInt sec.toInt (zPw 3 * zAt (fc 1).toInt (fc 2).toInt sec.toInt) (zLv (zLn kq aq tq wn.toInt.toNat wh.toInt (fc 0).toInt (fc 1).toInt (fc 2).toInt 2) kq aq tq (fc 0).toInt (zPw 3) wh.toInt d.toInt sec.toInt) x_30.toInt.toNat from by (have hx : x_30.toInt.toNat = i_85.toInt.toNat + 1 := (by omega); have y4 := hn_26; have y9 : i_85.toNatClampNeg = i_85.toInt.toNat := rfl; rw [y9] at y4; rw [hx, zFi_n (fun z => y4 ⟨z.1, z.2, Or.inl (by omega)⟩)]; exact hvi_85_1)) (show x_30.toInt ≤ wn.toInt from by omega) (dw_lo hloi_85 qx_30) (dw_hn hni_85 qx_30)
                    · refine W.eq (g2 := F0 m 106 ls (.ref u_28 :: [])) rfl ?_
                      obtain ⟨hku_28, hau_28, htu_28⟩ := zPu_pr (hZ.kept hS) huu_28
                      refine lv_astore (lv' := [(8, .ref u_28), (7, .int i_85), (6, .int v_15), (5, .int x_9), (4, .int 0), (0, .ref w0), (1, .int 3), (2, .int d), (3, .int sec)]) hx hb dX5_least_106 hl (by decide) rfl (fun ls hl => ?_)
                      refine lv_aload hx hb dX5_least_108 (lv_at hl 0 rfl) ?_
                      refine lv_ifnull hx hb dX5_least_110 ?_
                      refine lv_iload hx hb dX5_least_113 (lv_at hl 2 rfl) ?_
                      refine lv_aload_n hx hb dX5_least_115 rfl (lv_at hl 5 rfl) ?_
                      refine lv_aload hx hb dX5_least_116 (lv_at hl 0 rfl) ?_
                      refine lv_iload_n hx hb dX5_least_118 rfl (lv_at hl 6 rfl) ?_
                      refine lv_iload_n hx hb dX5_least_119 rfl (lv_at hl 7 rfl) ?_
                      refine lv_iload_n hx hb dX5_least_120 rfl (lv_at hl 8 rfl) ?_
                      have tsu_28 : tu_28.toInt ≤ sec.toInt := by (obtain ⟨⟨y1, y2, y3⟩, y4⟩ := hkku_28; have z := y4.2.1; rw [y3]; exact z)
                      skip
                      refine zw_V (As := [.ref u_28, .int 3, .int d, .int sec]) (rest := [.int v_15]) (wr := []) ⟨hx, hb, hml, hown, hts⟩ (c_F_W_leastBy_3 l D cI cJ cZ cP cS po w0 wk wl wc wp (wn) (wh) (wg) fq kq aq tq (tw) g_14 fc (d) (sec) u_28 (kiu_28) (au_28) (tu_28) huu_28 ⟨by omega, by omega, by omega, by omega⟩ hy0 hy1 hy2 hy3 hy4 hy5 hjw (by first | assumption | omega) (by first | assumption | omega) (by first | assumption | omega | decide) hy10 hy11 hy12 hy13 (by omega) hp_fc H.size) (cwV 4 hts gX5_least_X5_leastBy rfl rfl rfl ⟨rfl, dh_X5_leastBy⟩ ⟨Nat.le_of_ble_eq_true rfl, Nat.le_of_ble_eq_true rfl⟩) hK hN (hZ.kept hS) hP hD hS hA [0, 1, 2, 3] [] rfl rfl (by decide) (by decide) (by decide) (va_recv (q := (RX5, TX5, 7)) hK hP (ci := 5) (q0 := 0) rfl rfl) rfl hl.1 rfl (Nat.le_of_ble_eq_true rfl) dX5_least_121 ⟨Nat.le_of_ble_eq_true rfl, Nat.le_of_ble_eq_true rfl⟩ (fun r_31 u_32 H locs hr_31 hP hD hS => ?_)
                      obtain ⟨q_33, rfl⟩ : ∃ z, z = u_32 := ⟨_, rfl⟩
                      obtain ⟨hsr_31_0, hsr_31_1, hr_31⟩ := hr_31
                      have h9R := zRe (ws' := [(w0, .inr (5, [.ref wk, .ref wl, .ref wc, .ref wp, .int wn, .int wh, .int wg])), (wl, .inl (cI, 125, .inl q_33)), (wc, .inl (cI, 3, .inl fc)), (wp, .inl (cP, 8, .inr (.inr (.inr (.inr fq)))))]) hP hD rfl
                      clear hP hD
                      obtain ⟨hP, hD⟩ := h9R
                      obtain ⟨g_34, g_35⟩ := hr_31
                      refine va_mmin hx hb (hml.trans hl.1.symm) hown (hts (.methodLink RX5 110 Lib.Math.min.name) (List.mem_of_getElem? (i := 4) rfl)) (hts _ (List.mem_of_getElem? (i := 5) rfl)) (hts _ (List.mem_of_getElem? (i := 6) rfl)) (hts _ (List.mem_of_getElem? (i := 7) rfl)) (Nat.le_of_ble_eq_true rfl) (Nat.le_of_ble_eq_true rfl) (Nat.le_of_ble_eq_true rfl) (Nat.le_of_ble_eq_true rfl) dX5_least_124 ?_
                      refine lv_topi (fun x_36 ex_36 => ?_)
                      have qx_36 := zf_min ex_36 (x1 := v_15.toInt) (y1 := r_31.toInt) rfl rfl
                      refine lv_istore (lv' := [(6, .int x_36), (8, .ref u_28), (7, .int i_85), (5, .int x_9), (4, .int 0), (0, .ref w0), (1, .int 3), (2, .int d), (3, .int sec)]) hx hb dX5_least_127 hl (by decide) rfl (fun ls hl => ?_)
                      obtain ⟨x_37, ex_37⟩ : ∃ y : Int32, y = i_85 + 1 := ⟨_, rfl⟩
                      have qx_37 : x_37.toInt = i_85.toInt + 1 := dw_inc ex_37 fc_18
                      refine lv_iinc (v := x_37) (lv' := [(7, .int x_37), (6, .int x_36), (8, .ref u_28), (5, .int x_9), (4, .int 0), (0, .ref w0), (1, .int 3), (2, .int d), (3, .int sec)]) hx hb dX5_least_129 hl (k := 2) rfl ex_37.symm (by decide) rfl (fun ls hl => ?_)
                      refine lv_goto (tgt := 85) hx hb dX5_least_132 (by decide) ?_
                      exact ih x_37 x_36 (q_33) _ _ _ (hP.sub [0, 1, 2, 3] rfl) (hD.sub [0, 1, 2, 3] (by decide) rfl) hS (lv_sub hl [0, 1, 3, 4, 5, 6, 7, 8] rfl) ⟨by omega, by omega⟩ (show zKn kq aq tq wn.toInt.toNat wh.toInt (fc 0).toInt (fc 1).toInt (fc 2).toInt wg.toInt q_33 from by exact hsr_31_0) (show (x_36 : Int32).toInt = zFi tq d.toInt sec.toInt (zPw 3 * zAt (fc 1).toInt (fc 2).toInt sec.toInt) (zLv (zLn kq aq tq wn.toInt.toNat wh.toInt (fc 0).toInt (fc 1).toInt (fc 2).toInt 2) kq aq tq (fc 0).toInt (zPw 3) wh.toInt d.toInt sec.toInt) x_37.toInt.toNat from by (have hx : x_37.toInt.toNat = i_85.toInt.toNat + 1 := (by omega); obtain ⟨⟨y1, y2, y3⟩, y4⟩ := hkku_28; have y9 : i_85.toNatClampNeg = i_85.toInt.toNat := rfl; rw [y9] at y1 y2 y3 y4; rw [hx, zFi_y ⟨y4.1, y4.2.1⟩, ← hvi_85_1]; have zr := hsr_31_1; rw [y1, y2, y3] at zr; have zr2 : r_31.toInt = (zLv (zLn kq aq tq wn.toInt.toNat wh.toInt (fc 0).toInt (fc 1).toInt (fc 2).toInt 2) kq aq tq (fc 0).toInt (zPw 3) wh.toInt d.toInt sec.toInt) i_85.toInt.toNat := zr; omega)) (show x_37.toInt ≤ wn.toInt from by omega) (dw_lo hloi_85 qx_37) (dw_hn hni_85 qx_37)
            · exact absurd c_10 (by decide)
          · have fc_7 : x_6.toInt ≤ sec.toInt := zf_nlt c_7 rfl rfl
            refine lv_iconst (v := 1) hx hb dX5_least_35 (by decide) ?_
            refine lv_goto (tgt := 40) hx hb dX5_least_36 (by decide) ?_
            refine lv_istore (lv' := [(4, .int 1), (0, .ref w0), (1, .int 3), (2, .int d), (3, .int sec)]) hx hb dX5_least_40 hl (by decide) rfl (fun ls hl => ?_)
            refine lv_iload_n hx hb dX5_least_42 rfl (lv_at hl 2 rfl) ?_
            refine lv_bipush (v := 25) hx hb dX5_least_43 (by decide) ?_
            refine lv_imul hx hb dX5_least_45 ?_
            refine lv_topi (fun y_38 ey_38 => ?_)
            obtain rfl : y_38 = 75 := ey_38.trans (by decide)
            refine lv_iload_n hx hb dX5_least_46 rfl (lv_at hl 3 rfl) ?_
            refine lv_iadd hx hb dX5_least_47 ?_
            refine lv_topi (fun x_39 ex_39 => ?_)
            have qx_39 : x_39.toInt = 75 + d.toInt := by rw [ex_39]; exact zf_add (by decide) rfl (by omega) (by omega)
            refine lv_istore (lv' := [(5, .int x_39), (4, .int 1), (0, .ref w0), (1, .int 3), (2, .int d), (3, .int sec)]) hx hb dX5_least_48 hl (by decide) rfl (fun ls hl => ?_)
            refine lv_iload hx hb dX5_least_50 (lv_at hl 1 rfl) ?_
            refine lv_if_eq (tgt := 74) hx hb dX5_least_52 (by decide) (fun c_40 => ?_) (fun c_40 => ?_)
            · exact absurd c_40 (by decide)
            · refine lv_aload_n hx hb dX5_least_55 rfl (lv_at hl 2 rfl) ?_
              refine va_get (D := D) (ci := 5) (v := .ref wl) (C := RX5) (T := TX5) (N := 7) hx hb hts hi_X5_least_5 hown hK hP 0 rfl rfl 1 (by decide) (hts (.fieldLink RX5 15 "TheLiningsInIt$Ways" "knownLeast" "[I") (List.mem_of_getElem? (i := 2) rfl)) (fun _ h9 => h9) rfl dX5_least_56 ?_
              refine lv_iload hx hb dX5_least_59 (lv_at hl 0 rfl) ?_
              refine va_iald hx hb hK hP 1 0 rfl rfl (zf_in (by omega) (by omega)) dX5_least_61 ?_
              refine lv_topi (fun x_41 ex_41 => ?_)
              refine lv_iconst (v := (-1)) hx hb dX5_least_62 (by decide) ?_
              refine lv_icmp_eq (tgt := 74) hx hb dX5_least_63 (by decide) (fun c_42 => ?_) (fun c_42 => ?_)
              · have fc_42 : x_41.toInt = (-1) := zf_eq c_42 rfl (by decide)
                refine lv_aload_n hx hb dX5_least_74 rfl (lv_at hl 2 rfl) ?_
                refine lv_iload_n hx hb dX5_least_75 rfl (lv_at hl 3 rfl) ?_
                refine lv_iload_n hx hb dX5_least_76 rfl (lv_at hl 5 rfl) ?_
                refine zc_V (As := [.int 3, .int sec]) (rest := []) ⟨hx, hb, hml, hown, hts⟩ (c_F_W_leastAtOnce_3 l D cI cJ cZ cP cS po w0 wk wl wc wp (wn) (wh) (wg) fc (sec) hy0 hy1 hy2 hy3 hy4 hy5 hy12 hy13 hp_fc) (cwV 2 hts gX5_least_X5_leastAtOnce rfl rfl rfl ⟨rfl, dh_X5_leastAtOnce⟩ ⟨Nat.le_of_ble_eq_true rfl, Nat.le_of_ble_eq_true rfl⟩) hK hN (hZ.kept hS) hP (hP.sub [0, 2] rfl) (va_recv (q := (RX5, TX5, 7)) hK hP (ci := 5) (q0 := 0) rfl rfl) rfl hl.1 rfl (Nat.le_of_ble_eq_true rfl) dX5_least_77 ⟨Nat.le_of_ble_eq_true rfl, Nat.le_of_ble_eq_true rfl⟩ (fun r_43 hr_43 => ?_)
                obtain ⟨g_44, g_45, hsr_43_0⟩ := hr_43
                refine lv_istore (lv' := [(6, .int r_43), (5, .int x_39), (4, .int 1), (0, .ref w0), (1, .int 3), (2, .int d), (3, .int sec)]) hx hb dX5_least_80 hl (by decide) rfl (fun ls hl => ?_)
                refine lv_iconst (v := 0) hx hb dX5_least_82 (by decide) ?_
                refine lv_istore (lv' := [(7, .int 0), (6, .int r_43), (5, .int x_39), (4, .int 1), (0, .ref w0), (1, .int 3), (2, .int d), (3, .int sec)]) hx hb dX5_least_83 hl (by decide) rfl (fun ls hl => ?_)
                obtain ⟨i_85, hi_85⟩ : ∃ i : Int32, i = 0 := ⟨_, rfl⟩
                replace hl : lv_has ls 9 [(7, .int i_85), (6, .int r_43), (5, .int x_39), (4, .int 1), (0, .ref w0), (1, .int 3), (2, .int d), (3, .int sec)] := by rw [hi_85]; exact lv_sub hl [0, 1, 2, 3, 4, 5, 6, 7] rfl
                have h1i_85 : i_85.toInt = 0 := by rw [hi_85]; decide
                obtain ⟨nfu, hni_85⟩ : ∃ nq9 : Nat, wn.toInt ≤ i_85.toInt + (nq9 : Int) := ⟨((wn.toInt : Int) - 0).toNat, by omega⟩
                have hloi_85 : 0 ≤ i_85.toInt := by omega
                obtain ⟨g_46, hg_46⟩ : ∃ g : Nat → Int32, g = fl := ⟨_, rfl⟩
                replace hP : va_P D vwCl [(w0, .inr (5, [.ref wk, .ref wl, .ref wc, .ref wp, .int wn, .int wh, .int wg])), (wl, .inl (cI, 125, .inl g_46)), (wc, .inl (cI, 3, .inl fc)), (wp, .inl (cP, 8, .inr (.inr (.inr (.inr fq)))))] H := by rw [hg_46]; exact hP
                replace hD : va_D (va_A [(w0, .inr (5, [.ref wk, .ref wl, .ref wc, .ref wp, .int wn, .int wh, .int wg])), (wl, .inl (cI, 125, .inl fl)), (wc, .inl (cI, 3, .inl fc)), (wp, .inl (cP, 8, .inr (.inr (.inr (.inr fq)))))] s.heap.size) [(w0, .inr (5, [.ref wk, .ref wl, .ref wc, .ref wp, .int wn, .int wh, .int wg])), (wl, .inl (cI, 125, .inl g_46)), (wc, .inl (cI, 3, .inl fc)), (wp, .inl (cP, 8, .inr (.inr (.inr (.inr fq)))))] := by rw [hg_46]; exact hD
                obtain ⟨v_47, hv_47⟩ : ∃ g : Int32, g = r_43 := ⟨_, rfl⟩
                replace hl : lv_has ls 9 [(7, .int i_85), (6, .int v_47), (5, .int x_39), (4, .int 1), (0, .ref w0), (1, .int 3), (2, .int d), (3, .int sec)] := by rw [hv_47]; exact hl
                have hbv_47 : 0 ≤ v_47.toInt ∧ v_47.toInt ≤ 171072 := by rw [hv_47]; exact ⟨by omega, by omega⟩
                have hvi_85_0 : zKn kq aq tq wn.toInt.toNat wh.toInt (fc 0).toInt (fc 1).toInt (fc 2).toInt wg.toInt g_46 := by
                  (try rw [hi_85]); (try rw [hg_46]); (try rw [hv_47]); exact hkn
                have hvi_85_1 : (v_47 : Int32).toInt = zFi tq d.toInt sec.toInt (zPw 3 * zAt (fc 1).toInt (fc 2).toInt sec.toInt) (zLv (zLn kq aq tq wn.toInt.toNat wh.toInt (fc 0).toInt (fc 1).toInt (fc 2).toInt 2) kq aq tq (fc 0).toInt (zPw 3) wh.toInt d.toInt sec.toInt) i_85.toInt.toNat := by
                  (try rw [hi_85]); (try rw [hg_46]); (try rw [hv_47]); (rw [(show ((0 : Int32).toInt.toNat) = 0 from by decide)]; exact hsr_43_0)
                have hvi_85_2 : i_85.toInt ≤ wn.toInt := by
                  (try rw [hi_85]); (try rw [hg_46]); (try rw [hv_47]); (have k0 : (0 : Int32).toInt = 0 := (by decide); omega)
                clear h1i_85 hi_85 hg_46 hv_47
                skip
                revert hni_85
                revert hloi_85
                revert hvi_85_2
                revert hvi_85_1
                revert hvi_85_0
                revert hbv_47
                revert hl
                revert hS
                revert hD
                revert hP
                revert ls
                revert locs
                revert H
                revert g_46
                revert v_47
                revert i_85
                induction nfu with
                | zero =>
                  intro i_85 v_47 g_46 H locs ls hP hD hS hl hbv_47 hvi_85_0 hvi_85_1 hvi_85_2 hloi_85 hni_85
                  have hzi_85 : wn.toInt ≤ i_85.toInt := by omega
                  refine lv_iload hx hb dX5_least_85 (lv_at hl 0 rfl) ?_
                  refine lv_aload_n hx hb dX5_least_87 rfl (lv_at hl 4 rfl) ?_
                  refine va_get (D := D) (ci := 5) (v := .int wn) (C := RX5) (T := TX5) (N := 7) hx hb hts hi_X5_least_5 hown hK hP 0 rfl rfl 4 (by decide) (hts (.fieldLink RX5 27 "TheLiningsInIt$Ways" "count" "I") (List.mem_of_getElem? (i := 3) rfl)) (fun _ h9 => h9) rfl dX5_least_88 ?_
                  refine lv_icmp_ge (tgt := 135) hx hb dX5_least_91 (by decide) (fun c_48 => ?_) (fun c_48 => ?_)
                  · have fc_48 : wn.toInt ≤ i_85.toInt := zf_le c_48 rfl rfl
                    refine lv_iload hx hb dX5_least_135 (lv_at hl 3 rfl) ?_
                    refine lv_if_eq (tgt := 149) hx hb dX5_least_137 (by decide) (fun c_49 => ?_) (fun c_49 => ?_)
                    · exact absurd c_49 (by decide)
                    · refine lv_aload_n hx hb dX5_least_140 rfl (lv_at hl 4 rfl) ?_
                      refine va_get (D := D) (ci := 5) (v := .ref wl) (C := RX5) (T := TX5) (N := 7) hx hb hts hi_X5_least_5 hown hK hP 0 rfl rfl 1 (by decide) (hts (.fieldLink RX5 15 "TheLiningsInIt$Ways" "knownLeast" "[I") (List.mem_of_getElem? (i := 2) rfl)) (fun _ h9 => h9) rfl dX5_least_141 ?_
                      refine lv_iload hx hb dX5_least_144 (lv_at hl 2 rfl) ?_
                      refine lv_iload hx hb dX5_least_146 (lv_at hl 1 rfl) ?_
                      refine va_iast hx hb hK hP hD hS 1 0 rfl rfl (zf_in (by omega) (by omega)) dX5_least_148 (fun H locs hP hD hS => ?_)
                      obtain ⟨g_50, hg_50⟩ : ∃ g : Nat → Int32, g = upd g_46 x_39.toNatClampNeg v_47 := ⟨_, rfl⟩
                      rw [← hg_50] at hP hD
                      have h9R := zRe (ws' := [(w0, .inr (5, [.ref wk, .ref wl, .ref wc, .ref wp, .int wn, .int wh, .int wg])), (wl, .inl (cI, 125, .inl g_50)), (wc, .inl (cI, 3, .inl fc)), (wp, .inl (cP, 8, .inr (.inr (.inr (.inr fq)))))]) hP hD rfl
                      clear hP hD
                      obtain ⟨hP, hD⟩ := h9R
                      refine lv_iload hx hb dX5_least_149 (lv_at hl 1 rfl) ?_
                      exact W.iret (v := v_47) hx hb hr (fun t ht hW => ⟨⟨v_47, g_50, rfl, ⟨(show zKn kq aq tq wn.toInt.toNat wh.toInt (fc 0).toInt (fc 1).toInt (fc 2).toInt wg.toInt g_50 from by (rw [hg_50]; exact zKn_u (m := 3) (d := d) (s := sec) hvi_85_0 (by omega) hgl (by omega) ⟨by omega, by omega⟩ (by omega) (by have h9 : i_85.toInt.toNat = wn.toInt.toNat := (by omega); have z := hvi_85_1; rw [h9] at z; rw [zLn_s, if_neg (by omega)]; exact z))), (show (v_47 : Int32).toInt = (zLn kq aq tq wn.toInt.toNat wh.toInt (fc 0).toInt (fc 1).toInt (fc 2).toInt 3) d.toInt sec.toInt from by (have h9 : i_85.toInt.toNat = wn.toInt.toNat := (by omega); have z := hvi_85_1; rw [h9] at z; rw [zLn_s, if_neg (by omega)]; exact z)), ⟨by omega, by omega⟩⟩, zRet ht hP hD [0, 1, 2, 3] (by decide) rfl⟩, hS.F ht⟩) hS.2.2 dX5_least_151
                  · exfalso; have fc_48 : i_85.toInt < wn.toInt := zf_nle c_48 rfl rfl; omega
                | succ nfu ih =>
                  intro i_85 v_47 g_46 H locs ls hP hD hS hl hbv_47 hvi_85_0 hvi_85_1 hvi_85_2 hloi_85 hni_85
                  refine lv_iload hx hb dX5_least_85 (lv_at hl 0 rfl) ?_
                  refine lv_aload_n hx hb dX5_least_87 rfl (lv_at hl 4 rfl) ?_
                  refine va_get (D := D) (ci := 5) (v := .int wn) (C := RX5) (T := TX5) (N := 7) hx hb hts hi_X5_least_5 hown hK hP 0 rfl rfl 4 (by decide) (hts (.fieldLink RX5 27 "TheLiningsInIt$Ways" "count" "I") (List.mem_of_getElem? (i := 3) rfl)) (fun _ h9 => h9) rfl dX5_least_88 ?_
                  refine lv_icmp_ge (tgt := 135) hx hb dX5_least_91 (by decide) (fun c_51 => ?_) (fun c_51 => ?_)
                  · have fc_51 : wn.toInt ≤ i_85.toInt := zf_le c_51 rfl rfl
                    refine lv_iload hx hb dX5_least_135 (lv_at hl 3 rfl) ?_
                    refine lv_if_eq (tgt := 149) hx hb dX5_least_137 (by decide) (fun c_52 => ?_) (fun c_52 => ?_)
                    · exact absurd c_52 (by decide)
                    · refine lv_aload_n hx hb dX5_least_140 rfl (lv_at hl 4 rfl) ?_
                      refine va_get (D := D) (ci := 5) (v := .ref wl) (C := RX5) (T := TX5) (N := 7) hx hb hts hi_X5_least_5 hown hK hP 0 rfl rfl 1 (by decide) (hts (.fieldLink RX5 15 "TheLiningsInIt$Ways" "knownLeast" "[I") (List.mem_of_getElem? (i := 2) rfl)) (fun _ h9 => h9) rfl dX5_least_141 ?_
                      refine lv_iload hx hb dX5_least_144 (lv_at hl 2 rfl) ?_
                      refine lv_iload hx hb dX5_least_146 (lv_at hl 1 rfl) ?_
                      refine va_iast hx hb hK hP hD hS 1 0 rfl rfl (zf_in (by omega) (by omega)) dX5_least_148 (fun H locs hP hD hS => ?_)
                      obtain ⟨g_53, hg_53⟩ : ∃ g : Nat → Int32, g = upd g_46 x_39.toNatClampNeg v_47 := ⟨_, rfl⟩
                      rw [← hg_53] at hP hD
                      have h9R := zRe (ws' := [(w0, .inr (5, [.ref wk, .ref wl, .ref wc, .ref wp, .int wn, .int wh, .int wg])), (wl, .inl (cI, 125, .inl g_53)), (wc, .inl (cI, 3, .inl fc)), (wp, .inl (cP, 8, .inr (.inr (.inr (.inr fq)))))]) hP hD rfl
                      clear hP hD
                      obtain ⟨hP, hD⟩ := h9R
                      refine lv_iload hx hb dX5_least_149 (lv_at hl 1 rfl) ?_
                      exact W.iret (v := v_47) hx hb hr (fun t ht hW => ⟨⟨v_47, g_53, rfl, ⟨(show zKn kq aq tq wn.toInt.toNat wh.toInt (fc 0).toInt (fc 1).toInt (fc 2).toInt wg.toInt g_53 from by (rw [hg_53]; exact zKn_u (m := 3) (d := d) (s := sec) hvi_85_0 (by omega) hgl (by omega) ⟨by omega, by omega⟩ (by omega) (by have h9 : i_85.toInt.toNat = wn.toInt.toNat := (by omega); have z := hvi_85_1; rw [h9] at z; rw [zLn_s, if_neg (by omega)]; exact z))), (show (v_47 : Int32).toInt = (zLn kq aq tq wn.toInt.toNat wh.toInt (fc 0).toInt (fc 1).toInt (fc 2).toInt 3) d.toInt sec.toInt from by (have h9 : i_85.toInt.toNat = wn.toInt.toNat := (by omega); have z := hvi_85_1; rw [h9] at z; rw [zLn_s, if_neg (by omega)]; exact z)), ⟨by omega, by omega⟩⟩, zRet ht hP hD [0, 1, 2, 3] (by decide) rfl⟩, hS.F ht⟩) hS.2.2 dX5_least_151
                  · have fc_51 : i_85.toInt < wn.toInt := zf_nle c_51 rfl rfl
                    refine lv_iload_n hx hb dX5_least_94 rfl (lv_at hl 5 rfl) ?_
                    refine lv_if_le (tgt := 135) hx hb dX5_least_95 (by decide) (fun c_54 => ?_) (fun c_54 => ?_)
                    · exact absurd c_54 (by decide)
                    · refine lv_aload_n hx hb dX5_least_98 rfl (lv_at hl 4 rfl) ?_
                      refine lv_iload hx hb dX5_least_99 (lv_at hl 0 rfl) ?_
                      refine lv_iload_n hx hb dX5_least_101 rfl (lv_at hl 6 rfl) ?_
                      refine lv_iload_n hx hb dX5_least_102 rfl (lv_at hl 7 rfl) ?_
                      refine zc_Vq (As := [.int i_85, .int d, .int sec]) (rest := []) ⟨hx, hb, hml, hown, hts⟩ (c_F_W_mayBeAt l D cI cJ cZ cP cS po w0 wk wl wc wp (wn) (wh) (wg) fq kq aq tq (tw) (i_85) (d) (sec) hy0 hy1 hy2 hy3 hy4 hy5 hjw (by omega) (by omega) (by omega) hy12 hy13) (cwV 3 hts gX5_least_X5_mayBeAt rfl rfl rfl ⟨rfl, dh_X5_mayBeAt⟩ ⟨Nat.le_of_ble_eq_true rfl, Nat.le_of_ble_eq_true rfl⟩) hK hN (hZ.kept hS) hP (hP.sub [0, 3] rfl) (va_recv (q := (RX5, TX5, 7)) hK hP (ci := 5) (q0 := 0) rfl rfl) rfl hl.1 rfl (Nat.le_of_ble_eq_true rfl) dX5_least_103 ⟨Nat.le_of_ble_eq_true rfl, Nat.le_of_ble_eq_true rfl⟩ (fun r_55 hr_55 => ?_)
                      rcases hr_55 with ⟨rfl, hn_56⟩ | ⟨rfl, hn_58, g_57⟩ | ⟨rfl, hn_60, g_59⟩ | ⟨⟨u_62, kiu_62, au_62, tu_62, rfl, huu_62, hkku_62⟩, g_61⟩
                      · refine lv_astoreN (lv' := [(8, .null), (7, .int i_85), (6, .int v_47), (5, .int x_39), (4, .int 1), (0, .ref w0), (1, .int 3), (2, .int d), (3, .int sec)]) hx hb dX5_least_106 hl (by decide) rfl (fun ls hl => ?_)
                        refine lv_aloadN hx hb dX5_least_108 (lv_at hl 0 rfl) ?_
                        refine lv_ifnullN (tgt := 129) hx hb dX5_least_110 (by decide) ?_
                        obtain ⟨x_63, ex_63⟩ : ∃ y : Int32, y = i_85 + 1 := ⟨_, rfl⟩
                        have qx_63 : x_63.toInt = i_85.toInt + 1 := dw_inc ex_63 fc_51
                        refine lv_iinc (v := x_63) (lv' := [(7, .int x_63), (8, .null), (6, .int v_47), (5, .int x_39), (4, .int 1), (0, .ref w0), (1, .int 3), (2, .int d), (3, .int sec)]) hx hb dX5_least_129 hl (k := 1) rfl ex_63.symm (by decide) rfl (fun ls hl => ?_)
                        refine lv_goto (tgt := 85) hx hb dX5_least_132 (by decide) ?_
                        exact ih x_63 v_47 (g_46) _ _ _ (hP.sub [0, 1, 2, 3] rfl) (hD.sub [0, 1, 2, 3] (by decide) rfl) hS (lv_sub hl [0, 2, 3, 4, 5, 6, 7, 8] rfl) hbv_47 (show zKn kq aq tq wn.toInt.toNat wh.toInt (fc 0).toInt (fc 1).toInt (fc 2).toInt wg.toInt g_46 from by exact hvi_85_0) (show (v_47 : Int32).toInt = zFi tq d.toInt sec.toInt (zPw 3 * zAt (fc 1).toInt (fc 2).toInt sec.toInt) (zLv (zLn kq aq tq wn.toInt.toNat wh.toInt (fc 0).toInt (fc 1).toInt (fc 2).toInt 2) kq aq tq (fc 0).toInt (zPw 3) wh.toInt d.toInt sec.toInt) x_63.toInt.toNat from by (have hx : x_63.toInt.toNat = i_85.toInt.toNat + 1 := (by omega); have y4 := hn_56; have y9 : i_85.toNatClampNeg = i_85.toInt.toNat := rfl; rw [y9] at y4; rw [hx, zFi_n (fun z => y4 ⟨z.1, z.2, Or.inl (by omega)⟩)]; exact hvi_85_1)) (show x_63.toInt ≤ wn.toInt from by omega) (dw_lo hloi_85 qx_63) (dw_hn hni_85 qx_63)
                      · exfalso; omega
                      · refine lv_astoreN (lv' := [(8, .null), (7, .int i_85), (6, .int v_47), (5, .int x_39), (4, .int 1), (0, .ref w0), (1, .int 3), (2, .int d), (3, .int sec)]) hx hb dX5_least_106 hl (by decide) rfl (fun ls hl => ?_)
                        refine lv_aloadN hx hb dX5_least_108 (lv_at hl 0 rfl) ?_
                        refine lv_ifnullN (tgt := 129) hx hb dX5_least_110 (by decide) ?_
                        obtain ⟨x_64, ex_64⟩ : ∃ y : Int32, y = i_85 + 1 := ⟨_, rfl⟩
                        have qx_64 : x_64.toInt = i_85.toInt + 1 := dw_inc ex_64 fc_51
                        refine lv_iinc (v := x_64) (lv' := [(7, .int x_64), (8, .null), (6, .int v_47), (5, .int x_39), (4, .int 1), (0, .ref w0), (1, .int 3), (2, .int d), (3, .int sec)]) hx hb dX5_least_129 hl (k := 1) rfl ex_64.symm (by decide) rfl (fun ls hl => ?_)
                        refine lv_goto (tgt := 85) hx hb dX5_least_132 (by decide) ?_
                        exact ih x_64 v_47 (g_46) _ _ _ (hP.sub [0, 1, 2, 3] rfl) (hD.sub [0, 1, 2, 3] (by decide) rfl) hS (lv_sub hl [0, 2, 3, 4, 5, 6, 7, 8] rfl) hbv_47 (show zKn kq aq tq wn.toInt.toNat wh.toInt (fc 0).toInt (fc 1).toInt (fc 2).toInt wg.toInt g_46 from by exact hvi_85_0) (show (v_47 : Int32).toInt = zFi tq d.toInt sec.toInt (zPw 3 * zAt (fc 1).toInt (fc 2).toInt sec.toInt) (zLv (zLn kq aq tq wn.toInt.toNat wh.toInt (fc 0).toInt (fc 1).toInt (fc 2).toInt 2) kq aq tq (fc 0).toInt (zPw 3) wh.toInt d.toInt sec.toInt) x_64.toInt.toNat from by (have hx : x_64.toInt.toNat = i_85.toInt.toNat + 1 := (by omega); have y4 := hn_60; have y9 : i_85.toNatClampNeg = i_85.toInt.toNat := rfl; rw [y9] at y4; rw [hx, zFi_n (fun z => y4 ⟨z.1, z.2, Or.inl (by omega)⟩)]; exact hvi_85_1)) (show x_64.toInt ≤ wn.toInt from by omega) (dw_lo hloi_85 qx_64) (dw_hn hni_85 qx_64)
                      · refine W.eq (g2 := F0 m 106 ls (.ref u_62 :: [])) rfl ?_
                        obtain ⟨hku_62, hau_62, htu_62⟩ := zPu_pr (hZ.kept hS) huu_62
                        refine lv_astore (lv' := [(8, .ref u_62), (7, .int i_85), (6, .int v_47), (5, .int x_39), (4, .int 1), (0, .ref w0), (1, .int 3), (2, .int d), (3, .int sec)]) hx hb dX5_least_106 hl (by decide) rfl (fun ls hl => ?_)
                        refine lv_aload hx hb dX5_least_108 (lv_at hl 0 rfl) ?_
                        refine lv_ifnull hx hb dX5_least_110 ?_
                        refine lv_iload hx hb dX5_least_113 (lv_at hl 2 rfl) ?_
                        refine lv_aload_n hx hb dX5_least_115 rfl (lv_at hl 5 rfl) ?_
                        refine lv_aload hx hb dX5_least_116 (lv_at hl 0 rfl) ?_
                        refine lv_iload_n hx hb dX5_least_118 rfl (lv_at hl 6 rfl) ?_
                        refine lv_iload_n hx hb dX5_least_119 rfl (lv_at hl 7 rfl) ?_
                        refine lv_iload_n hx hb dX5_least_120 rfl (lv_at hl 8 rfl) ?_
                        have tsu_62 : tu_62.toInt ≤ sec.toInt := by (obtain ⟨⟨y1, y2, y3⟩, y4⟩ := hkku_62; have z := y4.2.1; rw [y3]; exact z)
                        skip
                        refine zw_V (As := [.ref u_62, .int 3, .int d, .int sec]) (rest := [.int v_47]) (wr := []) ⟨hx, hb, hml, hown, hts⟩ (c_F_W_leastBy_3 l D cI cJ cZ cP cS po w0 wk wl wc wp (wn) (wh) (wg) fq kq aq tq (tw) g_46 fc (d) (sec) u_62 (kiu_62) (au_62) (tu_62) huu_62 ⟨by omega, by omega, by omega, by omega⟩ hy0 hy1 hy2 hy3 hy4 hy5 hjw (by first | assumption | omega) (by first | assumption | omega) (by first | assumption | omega | decide) hy10 hy11 hy12 hy13 (by omega) hp_fc H.size) (cwV 4 hts gX5_least_X5_leastBy rfl rfl rfl ⟨rfl, dh_X5_leastBy⟩ ⟨Nat.le_of_ble_eq_true rfl, Nat.le_of_ble_eq_true rfl⟩) hK hN (hZ.kept hS) hP hD hS hA [0, 1, 2, 3] [] rfl rfl (by decide) (by decide) (by decide) (va_recv (q := (RX5, TX5, 7)) hK hP (ci := 5) (q0 := 0) rfl rfl) rfl hl.1 rfl (Nat.le_of_ble_eq_true rfl) dX5_least_121 ⟨Nat.le_of_ble_eq_true rfl, Nat.le_of_ble_eq_true rfl⟩ (fun r_65 u_66 H locs hr_65 hP hD hS => ?_)
                        obtain ⟨q_67, rfl⟩ : ∃ z, z = u_66 := ⟨_, rfl⟩
                        obtain ⟨hsr_65_0, hsr_65_1, hr_65⟩ := hr_65
                        have h9R := zRe (ws' := [(w0, .inr (5, [.ref wk, .ref wl, .ref wc, .ref wp, .int wn, .int wh, .int wg])), (wl, .inl (cI, 125, .inl q_67)), (wc, .inl (cI, 3, .inl fc)), (wp, .inl (cP, 8, .inr (.inr (.inr (.inr fq)))))]) hP hD rfl
                        clear hP hD
                        obtain ⟨hP, hD⟩ := h9R
                        obtain ⟨g_68, g_69⟩ := hr_65
                        refine va_mmin hx hb (hml.trans hl.1.symm) hown (hts (.methodLink RX5 110 Lib.Math.min.name) (List.mem_of_getElem? (i := 4) rfl)) (hts _ (List.mem_of_getElem? (i := 5) rfl)) (hts _ (List.mem_of_getElem? (i := 6) rfl)) (hts _ (List.mem_of_getElem? (i := 7) rfl)) (Nat.le_of_ble_eq_true rfl) (Nat.le_of_ble_eq_true rfl) (Nat.le_of_ble_eq_true rfl) (Nat.le_of_ble_eq_true rfl) dX5_least_124 ?_
                        refine lv_topi (fun x_70 ex_70 => ?_)
                        have qx_70 := zf_min ex_70 (x1 := v_47.toInt) (y1 := r_65.toInt) rfl rfl
                        refine lv_istore (lv' := [(6, .int x_70), (8, .ref u_62), (7, .int i_85), (5, .int x_39), (4, .int 1), (0, .ref w0), (1, .int 3), (2, .int d), (3, .int sec)]) hx hb dX5_least_127 hl (by decide) rfl (fun ls hl => ?_)
                        obtain ⟨x_71, ex_71⟩ : ∃ y : Int32, y = i_85 + 1 := ⟨_, rfl⟩
                        have qx_71 : x_71.toInt = i_85.toInt + 1 := dw_inc ex_71 fc_51
                        refine lv_iinc (v := x_71) (lv' := [(7, .int x_71), (6, .int x_70), (8, .ref u_62), (5, .int x_39), (4, .int 1), (0, .ref w0), (1, .int 3), (2, .int d), (3, .int sec)]) hx hb dX5_least_129 hl (k := 2) rfl ex_71.symm (by decide) rfl (fun ls hl => ?_)
                        refine lv_goto (tgt := 85) hx hb dX5_least_132 (by decide) ?_
                        exact ih x_71 x_70 (q_67) _ _ _ (hP.sub [0, 1, 2, 3] rfl) (hD.sub [0, 1, 2, 3] (by decide) rfl) hS (lv_sub hl [0, 1, 3, 4, 5, 6, 7, 8] rfl) ⟨by omega, by omega⟩ (show zKn kq aq tq wn.toInt.toNat wh.toInt (fc 0).toInt (fc 1).toInt (fc 2).toInt wg.toInt q_67 from by exact hsr_65_0) (show (x_70 : Int32).toInt = zFi tq d.toInt sec.toInt (zPw 3 * zAt (fc 1).toInt (fc 2).toInt sec.toInt) (zLv (zLn kq aq tq wn.toInt.toNat wh.toInt (fc 0).toInt (fc 1).toInt (fc 2).toInt 2) kq aq tq (fc 0).toInt (zPw 3) wh.toInt d.toInt sec.toInt) x_71.toInt.toNat from by (have hx : x_71.toInt.toNat = i_85.toInt.toNat + 1 := (by omega); obtain ⟨⟨y1, y2, y3⟩, y4⟩ := hkku_62; have y9 : i_85.toNatClampNeg = i_85.toInt.toNat := rfl; rw [y9] at y1 y2 y3 y4; rw [hx, zFi_y ⟨y4.1, y4.2.1⟩, ← hvi_85_1]; have zr := hsr_65_1; rw [y1, y2, y3] at zr; have zr2 : r_65.toInt = (zLv (zLn kq aq tq wn.toInt.toNat wh.toInt (fc 0).toInt (fc 1).toInt (fc 2).toInt 2) kq aq tq (fc 0).toInt (zPw 3) wh.toInt d.toInt sec.toInt) i_85.toInt.toNat := zr; omega)) (show x_71.toInt ≤ wn.toInt from by omega) (dw_lo hloi_85 qx_71) (dw_hn hni_85 qx_71)
              · have fc_42 : x_41.toInt ≠ (-1) := zf_ne c_42 rfl (by decide)
                refine lv_aload_n hx hb dX5_least_66 rfl (lv_at hl 2 rfl) ?_
                refine va_get (D := D) (ci := 5) (v := .ref wl) (C := RX5) (T := TX5) (N := 7) hx hb hts hi_X5_least_5 hown hK hP 0 rfl rfl 1 (by decide) (hts (.fieldLink RX5 15 "TheLiningsInIt$Ways" "knownLeast" "[I") (List.mem_of_getElem? (i := 2) rfl)) (fun _ h9 => h9) rfl dX5_least_67 ?_
                refine lv_iload hx hb dX5_least_70 (lv_at hl 0 rfl) ?_
                refine va_iald hx hb hK hP 1 0 rfl rfl (zf_in (by omega) (by omega)) dX5_least_72 ?_
                refine lv_topi (fun y_72 ey_72 => ?_)
                obtain rfl : x_41 = y_72 := ex_41.trans ey_72.symm
                have hmx_41 : x_41.toInt = (zLn kq aq tq wn.toInt.toNat wh.toInt (fc 0).toInt (fc 1).toInt (fc 2).toInt 3) d.toInt sec.toInt := by (have zn : (fl x_39.toNatClampNeg).toInt ≠ -1 := (by rw [← ex_41]; omega); rw [ex_41]; exact zKn_at (m := 3) hkn (by decide) (by omega) ⟨by omega, by omega⟩ (by omega) zn)
                have hrx_41 := zLn_rg (K := kq) (A := aq) (T := tq) (N := wn.toInt.toNat) (h := wh.toInt) (hp_fc 0) (hp_fc 1) (hp_fc 2) 3 d.toInt sec.toInt
                rw [← hmx_41, show zPw 3 = 1728 from by decide] at hrx_41
                exact W.iret (v := x_41) hx hb hr (fun t ht hW => ⟨⟨x_41, fl, rfl, ⟨(show zKn kq aq tq wn.toInt.toNat wh.toInt (fc 0).toInt (fc 1).toInt (fc 2).toInt wg.toInt fl from by exact hkn), (show (x_41 : Int32).toInt = (zLn kq aq tq wn.toInt.toNat wh.toInt (fc 0).toInt (fc 1).toInt (fc 2).toInt 3) d.toInt sec.toInt from by exact hmx_41), ⟨by omega, by omega⟩⟩, zRet ht hP hD [0, 1, 2, 3] (by decide) rfl⟩, hS.F ht⟩) hS.2.2 dX5_least_73
        · exfalso; have fc_4 : 24 < d.toInt := zf_nle c_4 rfl (by decide); omega
set_option maxHeartbeats 4000000 in
set_option maxRecDepth 100000 in
theorem c_F_W_leastBy_4 (l : Launch) (D : va_G) (cI cJ cZ cP cS : ClassId) (po : zPool) (w0 wk wl wc wp : Nat) (wn wh wg : Int32) (fq : Nat → Option Nat) (kq aq tq : Nat → Int32) (tw : Int32) (fl fc : Nat → Int32) (d sec : Int32) (u0 : Nat) (ki a_ ta : Int32) (hu_u0 : zPu po u0 ki a_ ta) (hr_u0 : zPr ki a_ ta) (hy2 : 0 ≤ wn.toInt) (hy3 : wn.toInt ≤ 8) (hy4 : 0 ≤ wh.toInt) (hy5 : wh.toInt ≤ 9) (hy6 : 0 ≤ wg.toInt) (hy7 : wg.toInt ≤ 60) (hjw : zJW po fq wn kq aq tq tw) (hkn : zKn kq aq tq wn.toInt.toNat wh.toInt (fc 0).toInt (fc 1).toInt (fc 2).toInt wg.toInt fl) (hgl : (∀ p : Nat, p < wn.toInt.toNat → (tq p).toInt ≤ wg.toInt)) (htw : tw.toInt = 1) (hy12 : 0 ≤ d.toInt) (hy13 : d.toInt ≤ 24) (hy14 : 0 ≤ sec.toInt) (hy15 : sec.toInt ≤ 300) (hy16 : ta.toInt ≤ sec.toInt) (hp_fc : zRg fc (0) 99) (hpz : Nat) : Met l yX5_leastBy wsX5_leastBy ({ frames := 9, cells := 0, slots := 0, locals := 236 }) (va_Pc [.ref w0, .ref u0, .int 4, .int d, .int sec] (zW D (zKT cI cJ cZ cP cS) po [(w0, .inr (5, [.ref wk, .ref wl, .ref wc, .ref wp, .int wn, .int wh, .int wg])), (wl, .inl (cI, 125, .inl fl)), (wc, .inl (cI, 3, .inl fc)), (wp, .inl (cP, 8, .inr (.inr (.inr (.inr fq)))))] hpz)) (va_Qi (fun (r : Int32) (fl2 : (Nat → Int32)) => (zKn kq aq tq wn.toInt.toNat wh.toInt (fc 0).toInt (fc 1).toInt (fc 2).toInt wg.toInt fl2) ∧ (r.toInt = zLb (zLn kq aq tq wn.toInt.toNat wh.toInt (fc 0).toInt (fc 1).toInt (fc 2).toInt 3) (fc 0).toInt (zPw 4) ki.toInt a_.toInt ta.toInt wh.toInt d.toInt sec.toInt) ∧ (0 ≤ r.toInt ∧ r.toInt ≤ 4105728)) (zB D [(w0, .inr (5, [.ref wk, .ref wl, .ref wc, .ref wp, .int wn, .int wh, .int wg])), (wl, .inl (cI, 125, .inl fl)), (wc, .inl (cI, 3, .inl fc)), (wp, .inl (cP, 8, .inr (.inr (.inr (.inr fq)))))] hpz (fun (fl2 : Nat → Int32) => [(w0, .inr (5, [.ref wk, .ref wl, .ref wc, .ref wp, .int wn, .int wh, .int wg])), (wl, .inl (cI, 125, .inl fl2)), (wc, .inl (cI, 3, .inl fc)), (wp, .inl (cP, 8, .inr (.inr (.inr (.inr fq)))))])) (va_A [(w0, .inr (5, [.ref wk, .ref wl, .ref wc, .ref wp, .int wn, .int wh, .int wg])), (wl, .inl (cI, 125, .inl fl)), (wc, .inl (cI, 3, .inl fc)), (wp, .inl (cP, 8, .inr (.inr (.inr (.inr fq)))))] hpz)) 0 0 (va_A [(w0, .inr (5, [.ref wk, .ref wl, .ref wc, .ref wp, .int wn, .int wh, .int wg])), (wl, .inl (cI, 125, .inl fl)), (wc, .inl (cI, 3, .inl fc)), (wp, .inl (cP, 8, .inr (.inr (.inr (.inr fq)))))] hpz) := by
  refine Met.ofW (cc := cX5_leastBy) (maxL := 8) (ret := (some .int)) (by decide) rfl ?_
  intro p e s m args below meth c s₁ B hml hv
  obtain ⟨rfl, hsz, hP, hK, hD0, hN, hZ⟩ := hv
  have hx := B.exec
  have hb := B.bytes
  have hr := B.returns
  have hts := atoms_spec (ws := wsX5_leastBy) B.pre
  have hown : s.vm.findClass RX5 = some m.cls := findClass_of_methodNamed B.named
  have hlocks := B.notSynchronized
  subst hsz
  have hD := hD0.self (sz := s.heap.size)
  have hA := zA_of hD
  have hl := lv_entry ([.ref w0, .ref u0, .int 4, .int d, .int sec]) (n := 8) (Nat.le_of_ble_eq_true rfl)
  rw [lg_entry_eq]
  generalize (lg_sl ([.ref w0, .ref u0, .int 4, .int d, .int sec]) ++ List.replicate (8 - (lg_sl ([.ref w0, .ref u0, .int 4, .int d, .int sec])).length) Slot.unset).toArray = ls at hl ⊢
  replace hl : lv_has ls 8 [(0, .ref w0), (1, .ref u0), (2, .int 4), (3, .int d), (4, .int sec)] := hl
  refine zw_begin hP hD (fun H locs hP1 hS => ?_)
  clear hP
  have hP := hP1
  clear hP1
  obtain ⟨⟨p1_u0, p2_u0⟩, ⟨p3_u0, p4_u0⟩, p5_u0, p6_u0⟩ := id hr_u0
  refine lv_aload_n hx hb dX5_leastBy_0 rfl (lv_at hl 1 rfl) ?_
  refine lv_iload_n hx hb dX5_leastBy_1 rfl (lv_at hl 3 rfl) ?_
  refine lv_aload_n hx hb dX5_leastBy_2 rfl (lv_at hl 0 rfl) ?_
  refine va_get (D := D) (ci := 5) (v := .int wh) (C := RX5) (T := TX5) (N := 7) hx hb hts hi_X5_leastBy_5 hown hK hP 0 rfl rfl 5 (by decide) (hts (.fieldLink RX5 31 "TheLiningsInIt$Ways" "hurry" "I") (List.mem_of_getElem? (i := 1) rfl)) (fun _ h9 => h9) rfl dX5_leastBy_3 ?_
  refine zc_V (As := [.int d, .int wh]) (rest := []) ⟨hx, hb, hml, hown, hts⟩ (c_F_Pull_waysAt l D cI cJ cZ cP cS po (d) (wh) u0 (ki) (a_) (ta) hu_u0 ⟨by omega, by omega, by omega, by omega⟩ hy12 hy13 hy4 hy5) (cwV 2 hts gX5_leastBy_X2_waysAt rfl rfl rfl ⟨rfl, dh_X2_waysAt⟩ ⟨Nat.le_of_ble_eq_true rfl, Nat.le_of_ble_eq_true rfl⟩) hK hN (hZ.kept hS) hP zP_nil (va_recv (q := (RX2, TX2, 3)) hK (zPu_P (hZ.kept hS) hu_u0) (ci := 2) (q0 := 0) rfl rfl) rfl hl.1 rfl (Nat.le_of_ble_eq_true rfl) dX5_leastBy_6 ⟨Nat.le_of_ble_eq_true rfl, Nat.le_of_ble_eq_true rfl⟩ (fun r_1 hr_1 => ?_)
  obtain ⟨g_2, g_3, hsr_1_0⟩ := hr_1
  refine lv_istore (lv' := [(5, .int r_1), (0, .ref w0), (1, .ref u0), (2, .int 4), (3, .int d), (4, .int sec)]) hx hb dX5_leastBy_9 hl (by decide) rfl (fun ls hl => ?_)
  refine lv_iload hx hb dX5_leastBy_11 (lv_at hl 5 rfl) ?_
  refine lv_aload_n hx hb dX5_leastBy_13 rfl (lv_at hl 2 rfl) ?_
  refine va_get (D := D) (ci := 2) (v := .int ta) (C := RX2) (T := TX2) (N := 3) hx hb hts hi_X5_leastBy_2 hown hK (zPu_P (hZ.kept hS) hu_u0) 0 rfl rfl 2 (by decide) (hts (.fieldLink RX5 49 "TheLiningsInIt$Pull" "takes" "I") (List.mem_of_getElem? (i := 2) rfl)) (fun _ h9 => h9) rfl dX5_leastBy_14 ?_
  refine lv_isub hx hb dX5_leastBy_17 ?_
  refine lv_topi (fun x_4 ex_4 => ?_)
  have qx_4 : x_4.toInt = sec.toInt - ta.toInt := by rw [ex_4]; exact zf_sub rfl rfl (by omega) (by omega)
  refine lv_istore (lv' := [(6, .int x_4), (5, .int r_1), (0, .ref w0), (1, .ref u0), (2, .int 4), (3, .int d), (4, .int sec)]) hx hb dX5_leastBy_18 hl (by decide) rfl (fun ls hl => ?_)
  refine lv_aload_n hx hb dX5_leastBy_20 rfl (lv_at hl 3 rfl) ?_
  refine va_get (D := D) (ci := 2) (v := .int ki) (C := RX2) (T := TX2) (N := 3) hx hb hts hi_X5_leastBy_2 hown hK (zPu_P (hZ.kept hS) hu_u0) 0 rfl rfl 0 (by decide) (hts (.fieldLink RX5 46 "TheLiningsInIt$Pull" "kind" "I") (List.mem_of_getElem? (i := 3) rfl)) (fun _ h9 => h9) rfl dX5_leastBy_21 ?_
  refine lv_iconst (v := 5) hx hb dX5_leastBy_24 (by decide) ?_
  refine lv_icmp_ne (tgt := 43) hx hb dX5_leastBy_25 (by decide) (fun c_5 => ?_) (fun c_5 => ?_)
  · have fc_5 : ki.toInt ≠ 5 := zf_ne c_5 rfl (by decide)
    refine lv_iconst (v := 0) hx hb dX5_leastBy_43 (by decide) ?_
    refine lv_istore (lv' := [(7, .int 0), (6, .int x_4), (5, .int r_1), (0, .ref w0), (1, .ref u0), (2, .int 4), (3, .int d), (4, .int sec)]) hx hb dX5_leastBy_44 hl (by decide) rfl (fun ls hl => ?_)
    refine lv_iload hx hb dX5_leastBy_46 (lv_at hl 2 rfl) ?_
    refine lv_if_le (tgt := 73) hx hb dX5_leastBy_48 (by decide) (fun c_6 => ?_) (fun c_6 => ?_)
    · have fc_6 : r_1.toInt ≤ 0 := zf_le c_6 rfl (by decide)
      refine lv_iload hx hb dX5_leastBy_73 (lv_at hl 2 rfl) ?_
      refine lv_bipush (v := 12) hx hb dX5_leastBy_75 (by decide) ?_
      refine lv_icmp_ge (tgt := 109) hx hb dX5_leastBy_77 (by decide) (fun c_7 => ?_) (fun c_7 => ?_)
      · exfalso; have fc_7 : 12 ≤ r_1.toInt := zf_le c_7 (by decide) rfl; omega
      · have fc_7 : r_1.toInt < 12 := zf_nle c_7 (by decide) rfl
        refine lv_iload hx hb dX5_leastBy_80 (lv_at hl 0 rfl) ?_
        refine lv_bipush (v := 12) hx hb dX5_leastBy_82 (by decide) ?_
        refine lv_iload hx hb dX5_leastBy_84 (lv_at hl 2 rfl) ?_
        refine lv_isub hx hb dX5_leastBy_86 ?_
        refine lv_topi (fun x_8 ex_8 => ?_)
        have qx_8 : x_8.toInt = 12 - r_1.toInt := by rw [ex_8]; exact zf_sub (by decide) rfl (by omega) (by omega)
        refine lv_aload_n hx hb dX5_leastBy_87 rfl (lv_at hl 3 rfl) ?_
        refine lv_iload_n hx hb dX5_leastBy_88 rfl (lv_at hl 5 rfl) ?_
        refine lv_iconst (v := 1) hx hb dX5_leastBy_89 (by decide) ?_
        refine lv_isub hx hb dX5_leastBy_90 ?_
        refine lv_topi (fun y_9 ey_9 => ?_)
        obtain rfl : y_9 = 3 := ey_9.trans (by decide)
        refine lv_aload_n hx hb dX5_leastBy_91 rfl (lv_at hl 4 rfl) ?_
        refine lv_iload_n hx hb dX5_leastBy_92 rfl (lv_at hl 6 rfl) ?_
        refine lv_aload_n hx hb dX5_leastBy_93 rfl (lv_at hl 3 rfl) ?_
        refine va_get (D := D) (ci := 5) (v := .int wh) (C := RX5) (T := TX5) (N := 7) hx hb hts hi_X5_leastBy_5 hown hK hP 0 rfl rfl 5 (by decide) (hts (.fieldLink RX5 31 "TheLiningsInIt$Ways" "hurry" "I") (List.mem_of_getElem? (i := 1) rfl)) (fun _ h9 => h9) rfl dX5_leastBy_94 ?_
        refine zc_V (As := [.int d, .int wh]) (rest := [.int 3, .ref w0, .int x_8, .int 0]) ⟨hx, hb, hml, hown, hts⟩ (c_F_Pull_deeper l D cI cJ cZ cP cS po (d) (wh) u0 (ki) (a_) (ta) hu_u0 ⟨by omega, by omega, by omega, by omega⟩ hy12 hy13 hy4 hy5) (cwV 2 hts gX5_leastBy_X2_deeper rfl rfl rfl ⟨rfl, dh_X2_deeper⟩ ⟨Nat.le_of_ble_eq_true rfl, Nat.le_of_ble_eq_true rfl⟩) hK hN (hZ.kept hS) hP zP_nil (va_recv (q := (RX2, TX2, 3)) hK (zPu_P (hZ.kept hS) hu_u0) (ci := 2) (q0 := 0) rfl rfl) rfl hl.1 rfl (Nat.le_of_ble_eq_true rfl) dX5_leastBy_97 ⟨Nat.le_of_ble_eq_true rfl, Nat.le_of_ble_eq_true rfl⟩ (fun r_10 hr_10 => ?_)
        obtain ⟨g_11, g_12, hsr_10_0⟩ := hr_10
        refine lv_iload hx hb dX5_leastBy_100 (lv_at hl 1 rfl) ?_
        skip
        refine zw_V (As := [.int 3, .int r_10, .int x_4]) (rest := [.int x_8, .int 0]) (wr := []) ⟨hx, hb, hml, hown, hts⟩ (c_F_W_least_3 l D cI cJ cZ cP cS po w0 wk wl wc wp (wn) (wh) (wg) fq kq aq tq (tw) fl fc (r_10) (x_4) hy2 hy3 hy4 hy5 hy6 hy7 hjw (by first | assumption | omega) (by first | assumption | omega) (by first | assumption | omega | decide) (by omega) (by omega) (by omega) (by omega) hp_fc H.size) (cwV 3 hts gX5_leastBy_X5_least rfl rfl rfl ⟨rfl, dh_X5_least⟩ ⟨Nat.le_of_ble_eq_true rfl, Nat.le_of_ble_eq_true rfl⟩) hK hN (hZ.kept hS) hP hD hS hA [0, 1, 2, 3] [] rfl rfl (by decide) (by decide) (by decide) (va_recv (q := (RX5, TX5, 7)) hK hP (ci := 5) (q0 := 0) rfl rfl) rfl hl.1 rfl (Nat.le_of_ble_eq_true rfl) dX5_leastBy_102 ⟨Nat.le_of_ble_eq_true rfl, Nat.le_of_ble_eq_true rfl⟩ (fun r_13 u_14 H locs hr_13 hP hD hS => ?_)
        obtain ⟨q_15, rfl⟩ : ∃ z, z = u_14 := ⟨_, rfl⟩
        obtain ⟨hsr_13_0, hsr_13_1, hr_13⟩ := hr_13
        have h9R := zRe (ws' := [(w0, .inr (5, [.ref wk, .ref wl, .ref wc, .ref wp, .int wn, .int wh, .int wg])), (wl, .inl (cI, 125, .inl q_15)), (wc, .inl (cI, 3, .inl fc)), (wp, .inl (cP, 8, .inr (.inr (.inr (.inr fq)))))]) hP hD rfl
        clear hP hD
        obtain ⟨hP, hD⟩ := h9R
        obtain ⟨g_16, g_17⟩ := hr_13
        refine lv_imul hx hb dX5_leastBy_105 ?_
        refine lv_topi (fun x_18 ex_18 => ?_)
        obtain ⟨mx_18, nx_18, ox_18⟩ := zf_mulc (a := x_8) (b := r_13) (x := x_8.toInt) (y := r_13.toInt) (P := 171072) rfl rfl ⟨by omega, by omega⟩ ⟨by omega, by omega⟩ (by decide)
        rw [← ex_18] at mx_18
        refine lv_iadd hx hb dX5_leastBy_106 ?_
        refine lv_topi (fun x_19 ex_19 => ?_)
        have qx_19 : x_19.toInt = 0 + x_18.toInt := by rw [ex_19]; exact zf_add (by decide) rfl (by omega) (by omega)
        refine lv_istore (lv' := [(7, .int x_19), (6, .int x_4), (5, .int r_1), (0, .ref w0), (1, .ref u0), (2, .int 4), (3, .int d), (4, .int sec)]) hx hb dX5_leastBy_107 hl (by decide) rfl (fun ls hl => ?_)
        refine lv_iload hx hb dX5_leastBy_109 (lv_at hl 0 rfl) ?_
        exact W.iret (v := x_19) hx hb hr (fun t ht hW => ⟨⟨x_19, q_15, rfl, ⟨(show zKn kq aq tq wn.toInt.toNat wh.toInt (fc 0).toInt (fc 1).toInt (fc 2).toInt wg.toInt q_15 from by first | exact hsr_13_0 | assumption), (show (x_19 : Int32).toInt = zLb (zLn kq aq tq wn.toInt.toNat wh.toInt (fc 0).toInt (fc 1).toInt (fc 2).toInt 3) (fc 0).toInt (zPw 4) ki.toInt a_.toInt ta.toInt wh.toInt d.toInt sec.toInt from by (have zw := hsr_1_0; have E1 : r_1.toInt * (zLn kq aq tq wn.toInt.toNat wh.toInt (fc 0).toInt (fc 1).toInt (fc 2).toInt 3) (zShl ki.toInt a_.toInt d.toInt) (sec.toInt - ta.toInt) = 0 := (by rw [show r_1.toInt = 0 from by omega, Int.zero_mul]); have E2 : (12 - r_1.toInt) * (zLn kq aq tq wn.toInt.toNat wh.toInt (fc 0).toInt (fc 1).toInt (fc 2).toInt 3) (zDpr ki.toInt a_.toInt wh.toInt d.toInt) (sec.toInt - ta.toInt) = x_18.toInt := (by rw [← hsr_10_0, show sec.toInt - ta.toInt = (x_4 : Int32).toInt from by omega, ← hsr_13_1, show 12 - r_1.toInt = x_8.toInt from by omega]; omega); unfold zLb zBy1; rw [← zw, E1, E2, show zPw 4 = 20736 from by decide]; first | (rw [if_neg (by omega)]; omega) | (rw [if_pos (by omega)]; omega))), ⟨by omega, by omega⟩⟩, zRet ht hP hD [0, 1, 2, 3] (by decide) rfl⟩, hS.F ht⟩) hS.2.2 dX5_leastBy_111
    · have fc_6 : 0 < r_1.toInt := zf_nle c_6 rfl (by decide)
      refine lv_iload hx hb dX5_leastBy_51 (lv_at hl 0 rfl) ?_
      refine lv_iload hx hb dX5_leastBy_53 (lv_at hl 2 rfl) ?_
      refine lv_aload_n hx hb dX5_leastBy_55 rfl (lv_at hl 3 rfl) ?_
      refine lv_iload_n hx hb dX5_leastBy_56 rfl (lv_at hl 5 rfl) ?_
      refine lv_iconst (v := 1) hx hb dX5_leastBy_57 (by decide) ?_
      refine lv_isub hx hb dX5_leastBy_58 ?_
      refine lv_topi (fun y_20 ey_20 => ?_)
      obtain rfl : y_20 = 3 := ey_20.trans (by decide)
      refine lv_aload_n hx hb dX5_leastBy_59 rfl (lv_at hl 4 rfl) ?_
      refine lv_iload_n hx hb dX5_leastBy_60 rfl (lv_at hl 6 rfl) ?_
      refine zc_V (As := [.int d]) (rest := [.int 3, .ref w0, .int r_1, .int 0]) ⟨hx, hb, hml, hown, hts⟩ (c_F_Pull_shallower l D cI cJ cZ cP cS po (d) u0 (ki) (a_) (ta) hu_u0 ⟨by omega, by omega, by omega, by omega⟩ hy12 hy13) (cwV 1 hts gX5_leastBy_X2_shallower rfl rfl rfl ⟨rfl, dh_X2_shallower⟩ ⟨Nat.le_of_ble_eq_true rfl, Nat.le_of_ble_eq_true rfl⟩) hK hN (hZ.kept hS) hP zP_nil (va_recv (q := (RX2, TX2, 3)) hK (zPu_P (hZ.kept hS) hu_u0) (ci := 2) (q0 := 0) rfl rfl) rfl hl.1 rfl (Nat.le_of_ble_eq_true rfl) dX5_leastBy_61 ⟨Nat.le_of_ble_eq_true rfl, Nat.le_of_ble_eq_true rfl⟩ (fun r_21 hr_21 => ?_)
      obtain ⟨g_22, g_23, hsr_21_0⟩ := hr_21
      refine lv_iload hx hb dX5_leastBy_64 (lv_at hl 1 rfl) ?_
      skip
      refine zw_V (As := [.int 3, .int r_21, .int x_4]) (rest := [.int r_1, .int 0]) (wr := []) ⟨hx, hb, hml, hown, hts⟩ (c_F_W_least_3 l D cI cJ cZ cP cS po w0 wk wl wc wp (wn) (wh) (wg) fq kq aq tq (tw) fl fc (r_21) (x_4) hy2 hy3 hy4 hy5 hy6 hy7 hjw (by first | assumption | omega) (by first | assumption | omega) (by first | assumption | omega | decide) (by omega) (by omega) (by omega) (by omega) hp_fc H.size) (cwV 3 hts gX5_leastBy_X5_least rfl rfl rfl ⟨rfl, dh_X5_least⟩ ⟨Nat.le_of_ble_eq_true rfl, Nat.le_of_ble_eq_true rfl⟩) hK hN (hZ.kept hS) hP hD hS hA [0, 1, 2, 3] [] rfl rfl (by decide) (by decide) (by decide) (va_recv (q := (RX5, TX5, 7)) hK hP (ci := 5) (q0 := 0) rfl rfl) rfl hl.1 rfl (Nat.le_of_ble_eq_true rfl) dX5_leastBy_66 ⟨Nat.le_of_ble_eq_true rfl, Nat.le_of_ble_eq_true rfl⟩ (fun r_24 u_25 H locs hr_24 hP hD hS => ?_)
      obtain ⟨q_26, rfl⟩ : ∃ z, z = u_25 := ⟨_, rfl⟩
      obtain ⟨hsr_24_0, hsr_24_1, hr_24⟩ := hr_24
      have h9R := zRe (ws' := [(w0, .inr (5, [.ref wk, .ref wl, .ref wc, .ref wp, .int wn, .int wh, .int wg])), (wl, .inl (cI, 125, .inl q_26)), (wc, .inl (cI, 3, .inl fc)), (wp, .inl (cP, 8, .inr (.inr (.inr (.inr fq)))))]) hP hD rfl
      clear hP hD
      obtain ⟨hP, hD⟩ := h9R
      obtain ⟨g_27, g_28⟩ := hr_24
      refine lv_imul hx hb dX5_leastBy_69 ?_
      refine lv_topi (fun x_29 ex_29 => ?_)
      obtain ⟨mx_29, nx_29, ox_29⟩ := zf_mulc (a := r_1) (b := r_24) (x := r_1.toInt) (y := r_24.toInt) (P := 171072) rfl rfl ⟨by omega, by omega⟩ ⟨by omega, by omega⟩ (by decide)
      rw [← ex_29] at mx_29
      refine lv_iadd hx hb dX5_leastBy_70 ?_
      refine lv_topi (fun x_30 ex_30 => ?_)
      have qx_30 : x_30.toInt = 0 + x_29.toInt := by rw [ex_30]; exact zf_add (by decide) rfl (by omega) (by omega)
      refine lv_istore (lv' := [(7, .int x_30), (6, .int x_4), (5, .int r_1), (0, .ref w0), (1, .ref u0), (2, .int 4), (3, .int d), (4, .int sec)]) hx hb dX5_leastBy_71 hl (by decide) rfl (fun ls hl => ?_)
      refine lv_iload hx hb dX5_leastBy_73 (lv_at hl 2 rfl) ?_
      refine lv_bipush (v := 12) hx hb dX5_leastBy_75 (by decide) ?_
      refine lv_icmp_ge (tgt := 109) hx hb dX5_leastBy_77 (by decide) (fun c_31 => ?_) (fun c_31 => ?_)
      · have fc_31 : 12 ≤ r_1.toInt := zf_le c_31 (by decide) rfl
        refine lv_iload hx hb dX5_leastBy_109 (lv_at hl 0 rfl) ?_
        exact W.iret (v := x_30) hx hb hr (fun t ht hW => ⟨⟨x_30, q_26, rfl, ⟨(show zKn kq aq tq wn.toInt.toNat wh.toInt (fc 0).toInt (fc 1).toInt (fc 2).toInt wg.toInt q_26 from by exact hsr_24_0), (show (x_30 : Int32).toInt = zLb (zLn kq aq tq wn.toInt.toNat wh.toInt (fc 0).toInt (fc 1).toInt (fc 2).toInt 3) (fc 0).toInt (zPw 4) ki.toInt a_.toInt ta.toInt wh.toInt d.toInt sec.toInt from by (have zw := hsr_1_0; have E1 : r_1.toInt * (zLn kq aq tq wn.toInt.toNat wh.toInt (fc 0).toInt (fc 1).toInt (fc 2).toInt 3) (zShl ki.toInt a_.toInt d.toInt) (sec.toInt - ta.toInt) = x_29.toInt := (by rw [← hsr_21_0, show sec.toInt - ta.toInt = (x_4 : Int32).toInt from by omega, ← hsr_24_1]; omega); have E2 : (12 - r_1.toInt) * (zLn kq aq tq wn.toInt.toNat wh.toInt (fc 0).toInt (fc 1).toInt (fc 2).toInt 3) (zDpr ki.toInt a_.toInt wh.toInt d.toInt) (sec.toInt - ta.toInt) = 0 := (by rw [show 12 - r_1.toInt = 0 from by omega, Int.zero_mul]); unfold zLb zBy1; rw [← zw, E1, E2, show zPw 4 = 20736 from by decide]; first | (rw [if_neg (by omega)]; omega) | (rw [if_pos (by omega)]; omega))), ⟨by omega, by omega⟩⟩, zRet ht hP hD [0, 1, 2, 3] (by decide) rfl⟩, hS.F ht⟩) hS.2.2 dX5_leastBy_111
      · have fc_31 : r_1.toInt < 12 := zf_nle c_31 (by decide) rfl
        refine lv_iload hx hb dX5_leastBy_80 (lv_at hl 0 rfl) ?_
        refine lv_bipush (v := 12) hx hb dX5_leastBy_82 (by decide) ?_
        refine lv_iload hx hb dX5_leastBy_84 (lv_at hl 2 rfl) ?_
        refine lv_isub hx hb dX5_leastBy_86 ?_
        refine lv_topi (fun x_32 ex_32 => ?_)
        have qx_32 : x_32.toInt = 12 - r_1.toInt := by rw [ex_32]; exact zf_sub (by decide) rfl (by omega) (by omega)
        refine lv_aload_n hx hb dX5_leastBy_87 rfl (lv_at hl 3 rfl) ?_
        refine lv_iload_n hx hb dX5_leastBy_88 rfl (lv_at hl 5 rfl) ?_
        refine lv_iconst (v := 1) hx hb dX5_leastBy_89 (by decide) ?_
        refine lv_isub hx hb dX5_leastBy_90 ?_
        refine lv_topi (fun y_33 ey_33 => ?_)
        obtain rfl : y_33 = 3 := ey_33.trans (by decide)
        refine lv_aload_n hx hb dX5_leastBy_91 rfl (lv_at hl 4 rfl) ?_
        refine lv_iload_n hx hb dX5_leastBy_92 rfl (lv_at hl 6 rfl) ?_
        refine lv_aload_n hx hb dX5_leastBy_93 rfl (lv_at hl 3 rfl) ?_
        refine va_get (D := D) (ci := 5) (v := .int wh) (C := RX5) (T := TX5) (N := 7) hx hb hts hi_X5_leastBy_5 hown hK hP 0 rfl rfl 5 (by decide) (hts (.fieldLink RX5 31 "TheLiningsInIt$Ways" "hurry" "I") (List.mem_of_getElem? (i := 1) rfl)) (fun _ h9 => h9) rfl dX5_leastBy_94 ?_
        refine zc_V (As := [.int d, .int wh]) (rest := [.int 3, .ref w0, .int x_32, .int x_30]) ⟨hx, hb, hml, hown, hts⟩ (c_F_Pull_deeper l D cI cJ cZ cP cS po (d) (wh) u0 (ki) (a_) (ta) hu_u0 ⟨by omega, by omega, by omega, by omega⟩ hy12 hy13 hy4 hy5) (cwV 2 hts gX5_leastBy_X2_deeper rfl rfl rfl ⟨rfl, dh_X2_deeper⟩ ⟨Nat.le_of_ble_eq_true rfl, Nat.le_of_ble_eq_true rfl⟩) hK hN (hZ.kept hS) hP zP_nil (va_recv (q := (RX2, TX2, 3)) hK (zPu_P (hZ.kept hS) hu_u0) (ci := 2) (q0 := 0) rfl rfl) rfl hl.1 rfl (Nat.le_of_ble_eq_true rfl) dX5_leastBy_97 ⟨Nat.le_of_ble_eq_true rfl, Nat.le_of_ble_eq_true rfl⟩ (fun r_34 hr_34 => ?_)
        obtain ⟨g_35, g_36, hsr_34_0⟩ := hr_34
        refine lv_iload hx hb dX5_leastBy_100 (lv_at hl 1 rfl) ?_
        skip
        refine zw_V (As := [.int 3, .int r_34, .int x_4]) (rest := [.int x_32, .int x_30]) (wr := []) ⟨hx, hb, hml, hown, hts⟩ (c_F_W_least_3 l D cI cJ cZ cP cS po w0 wk wl wc wp (wn) (wh) (wg) fq kq aq tq (tw) q_26 fc (r_34) (x_4) hy2 hy3 hy4 hy5 hy6 hy7 hjw (by first | assumption | omega) (by first | assumption | omega) (by first | assumption | omega | decide) (by omega) (by omega) (by omega) (by omega) hp_fc H.size) (cwV 3 hts gX5_leastBy_X5_least rfl rfl rfl ⟨rfl, dh_X5_least⟩ ⟨Nat.le_of_ble_eq_true rfl, Nat.le_of_ble_eq_true rfl⟩) hK hN (hZ.kept hS) hP hD hS hA [0, 1, 2, 3] [] rfl rfl (by decide) (by decide) (by decide) (va_recv (q := (RX5, TX5, 7)) hK hP (ci := 5) (q0 := 0) rfl rfl) rfl hl.1 rfl (Nat.le_of_ble_eq_true rfl) dX5_leastBy_102 ⟨Nat.le_of_ble_eq_true rfl, Nat.le_of_ble_eq_true rfl⟩ (fun r_37 u_38 H locs hr_37 hP hD hS => ?_)
        obtain ⟨q_39, rfl⟩ : ∃ z, z = u_38 := ⟨_, rfl⟩
        obtain ⟨hsr_37_0, hsr_37_1, hr_37⟩ := hr_37
        have h9R := zRe (ws' := [(w0, .inr (5, [.ref wk, .ref wl, .ref wc, .ref wp, .int wn, .int wh, .int wg])), (wl, .inl (cI, 125, .inl q_39)), (wc, .inl (cI, 3, .inl fc)), (wp, .inl (cP, 8, .inr (.inr (.inr (.inr fq)))))]) hP hD rfl
        clear hP hD
        obtain ⟨hP, hD⟩ := h9R
        obtain ⟨g_40, g_41⟩ := hr_37
        refine lv_imul hx hb dX5_leastBy_105 ?_
        refine lv_topi (fun x_42 ex_42 => ?_)
        obtain ⟨mx_42, nx_42, ox_42⟩ := zf_mulc (a := x_32) (b := r_37) (x := x_32.toInt) (y := r_37.toInt) (P := 171072) rfl rfl ⟨by omega, by omega⟩ ⟨by omega, by omega⟩ (by decide)
        rw [← ex_42] at mx_42
        refine lv_iadd hx hb dX5_leastBy_106 ?_
        refine lv_topi (fun x_43 ex_43 => ?_)
        have qx_43 : x_43.toInt = x_30.toInt + x_42.toInt := by rw [ex_43]; exact zf_add rfl rfl (by omega) (by omega)
        refine lv_istore (lv' := [(7, .int x_43), (6, .int x_4), (5, .int r_1), (0, .ref w0), (1, .ref u0), (2, .int 4), (3, .int d), (4, .int sec)]) hx hb dX5_leastBy_107 hl (by decide) rfl (fun ls hl => ?_)
        refine lv_iload hx hb dX5_leastBy_109 (lv_at hl 0 rfl) ?_
        have hmx9 := zMix (w := r_1.toInt) (x := r_24.toInt) (y := r_37.toInt) (P := 171072) ⟨by omega, by omega⟩ ⟨by omega, by omega⟩ ⟨by omega, by omega⟩
        rw [show 12 - r_1.toInt = x_32.toInt from by omega] at hmx9
        exact W.iret (v := x_43) hx hb hr (fun t ht hW => ⟨⟨x_43, q_39, rfl, ⟨(show zKn kq aq tq wn.toInt.toNat wh.toInt (fc 0).toInt (fc 1).toInt (fc 2).toInt wg.toInt q_39 from by first | exact hsr_37_0 | assumption), (show (x_43 : Int32).toInt = zLb (zLn kq aq tq wn.toInt.toNat wh.toInt (fc 0).toInt (fc 1).toInt (fc 2).toInt 3) (fc 0).toInt (zPw 4) ki.toInt a_.toInt ta.toInt wh.toInt d.toInt sec.toInt from by (have zw := hsr_1_0; have E1 : r_1.toInt * (zLn kq aq tq wn.toInt.toNat wh.toInt (fc 0).toInt (fc 1).toInt (fc 2).toInt 3) (zShl ki.toInt a_.toInt d.toInt) (sec.toInt - ta.toInt) = x_29.toInt := (by rw [← hsr_21_0, show sec.toInt - ta.toInt = (x_4 : Int32).toInt from by omega, ← hsr_24_1]; omega); have E2 : (12 - r_1.toInt) * (zLn kq aq tq wn.toInt.toNat wh.toInt (fc 0).toInt (fc 1).toInt (fc 2).toInt 3) (zDpr ki.toInt a_.toInt wh.toInt d.toInt) (sec.toInt - ta.toInt) = x_42.toInt := (by rw [← hsr_34_0, show sec.toInt - ta.toInt = (x_4 : Int32).toInt from by omega, ← hsr_37_1, show 12 - r_1.toInt = x_32.toInt from by omega]; omega); unfold zLb zBy1; rw [← zw, E1, E2, show zPw 4 = 20736 from by decide]; first | (rw [if_neg (by omega)]; omega) | (rw [if_pos (by omega)]; omega))), ⟨by omega, by omega⟩⟩, zRet ht hP hD [0, 1, 2, 3] (by decide) rfl⟩, hS.F ht⟩) hS.2.2 dX5_leastBy_111
  · have fc_5 : ki.toInt = 5 := zf_eq c_5 rfl (by decide)
    obtain ⟨t_44, zt_44, yt_44⟩ := hZ.1.1
    refine va_gets hx hb zt_44 hS hown (hts (.fieldLink RX5 79 "TheLiningsInIt$Ways" "POWERS" "[I") (List.mem_of_getElem? (i := 4) rfl)) (fun _ h9 => h9) dX5_leastBy_28 ?_
    refine lv_iload_n hx hb dX5_leastBy_31 rfl (lv_at hl 4 rfl) ?_
    refine va_ti hx hb yt_44 hS (zf_in (by decide) (by decide)) (v := .int 20736) (by decide) dX5_leastBy_32 ?_
    refine lv_aload_n hx hb dX5_leastBy_33 rfl (lv_at hl 2 rfl) ?_
    refine va_get (D := D) (ci := 5) (v := .ref wc) (C := RX5) (T := TX5) (N := 7) hx hb hts hi_X5_leastBy_5 hown hK hP 0 rfl rfl 2 (by decide) (hts (.fieldLink RX5 18 "TheLiningsInIt$Ways" "costs" "[I") (List.mem_of_getElem? (i := 5) rfl)) (fun _ h9 => h9) rfl dX5_leastBy_34 ?_
    refine lv_iconst (v := 0) hx hb dX5_leastBy_37 (by decide) ?_
    refine va_iald hx hb hK hP 2 0 rfl rfl (zf_in (by decide) (by decide)) dX5_leastBy_38 ?_
    refine lv_topi (fun x_45 ex_45 => ?_)
    have bx_45 : 0 ≤ x_45.toInt ∧ x_45.toInt ≤ 99 := by rw [ex_45]; exact hp_fc _
    refine lv_imul hx hb dX5_leastBy_39 ?_
    refine lv_topi (fun x_46 ex_46 => ?_)
    have qx_46 : x_46.toInt = 20736 * x_45.toInt := by rw [ex_46]; exact zf_mul (by decide) rfl (by omega) (by omega)
    refine lv_goto (tgt := 44) hx hb dX5_leastBy_40 (by decide) ?_
    refine lv_istore (lv' := [(7, .int x_46), (6, .int x_4), (5, .int r_1), (0, .ref w0), (1, .ref u0), (2, .int 4), (3, .int d), (4, .int sec)]) hx hb dX5_leastBy_44 hl (by decide) rfl (fun ls hl => ?_)
    refine lv_iload hx hb dX5_leastBy_46 (lv_at hl 2 rfl) ?_
    refine lv_if_le (tgt := 73) hx hb dX5_leastBy_48 (by decide) (fun c_47 => ?_) (fun c_47 => ?_)
    · have fc_47 : r_1.toInt ≤ 0 := zf_le c_47 rfl (by decide)
      refine lv_iload hx hb dX5_leastBy_73 (lv_at hl 2 rfl) ?_
      refine lv_bipush (v := 12) hx hb dX5_leastBy_75 (by decide) ?_
      refine lv_icmp_ge (tgt := 109) hx hb dX5_leastBy_77 (by decide) (fun c_48 => ?_) (fun c_48 => ?_)
      · exfalso; have fc_48 : 12 ≤ r_1.toInt := zf_le c_48 (by decide) rfl; omega
      · have fc_48 : r_1.toInt < 12 := zf_nle c_48 (by decide) rfl
        refine lv_iload hx hb dX5_leastBy_80 (lv_at hl 0 rfl) ?_
        refine lv_bipush (v := 12) hx hb dX5_leastBy_82 (by decide) ?_
        refine lv_iload hx hb dX5_leastBy_84 (lv_at hl 2 rfl) ?_
        refine lv_isub hx hb dX5_leastBy_86 ?_
        refine lv_topi (fun x_49 ex_49 => ?_)
        have qx_49 : x_49.toInt = 12 - r_1.toInt := by rw [ex_49]; exact zf_sub (by decide) rfl (by omega) (by omega)
        refine lv_aload_n hx hb dX5_leastBy_87 rfl (lv_at hl 3 rfl) ?_
        refine lv_iload_n hx hb dX5_leastBy_88 rfl (lv_at hl 5 rfl) ?_
        refine lv_iconst (v := 1) hx hb dX5_leastBy_89 (by decide) ?_
        refine lv_isub hx hb dX5_leastBy_90 ?_
        refine lv_topi (fun y_50 ey_50 => ?_)
        obtain rfl : y_50 = 3 := ey_50.trans (by decide)
        refine lv_aload_n hx hb dX5_leastBy_91 rfl (lv_at hl 4 rfl) ?_
        refine lv_iload_n hx hb dX5_leastBy_92 rfl (lv_at hl 6 rfl) ?_
        refine lv_aload_n hx hb dX5_leastBy_93 rfl (lv_at hl 3 rfl) ?_
        refine va_get (D := D) (ci := 5) (v := .int wh) (C := RX5) (T := TX5) (N := 7) hx hb hts hi_X5_leastBy_5 hown hK hP 0 rfl rfl 5 (by decide) (hts (.fieldLink RX5 31 "TheLiningsInIt$Ways" "hurry" "I") (List.mem_of_getElem? (i := 1) rfl)) (fun _ h9 => h9) rfl dX5_leastBy_94 ?_
        refine zc_V (As := [.int d, .int wh]) (rest := [.int 3, .ref w0, .int x_49, .int x_46]) ⟨hx, hb, hml, hown, hts⟩ (c_F_Pull_deeper l D cI cJ cZ cP cS po (d) (wh) u0 (ki) (a_) (ta) hu_u0 ⟨by omega, by omega, by omega, by omega⟩ hy12 hy13 hy4 hy5) (cwV 2 hts gX5_leastBy_X2_deeper rfl rfl rfl ⟨rfl, dh_X2_deeper⟩ ⟨Nat.le_of_ble_eq_true rfl, Nat.le_of_ble_eq_true rfl⟩) hK hN (hZ.kept hS) hP zP_nil (va_recv (q := (RX2, TX2, 3)) hK (zPu_P (hZ.kept hS) hu_u0) (ci := 2) (q0 := 0) rfl rfl) rfl hl.1 rfl (Nat.le_of_ble_eq_true rfl) dX5_leastBy_97 ⟨Nat.le_of_ble_eq_true rfl, Nat.le_of_ble_eq_true rfl⟩ (fun r_51 hr_51 => ?_)
        obtain ⟨g_52, g_53, hsr_51_0⟩ := hr_51
        refine lv_iload hx hb dX5_leastBy_100 (lv_at hl 1 rfl) ?_
        skip
        refine zw_V (As := [.int 3, .int r_51, .int x_4]) (rest := [.int x_49, .int x_46]) (wr := []) ⟨hx, hb, hml, hown, hts⟩ (c_F_W_least_3 l D cI cJ cZ cP cS po w0 wk wl wc wp (wn) (wh) (wg) fq kq aq tq (tw) fl fc (r_51) (x_4) hy2 hy3 hy4 hy5 hy6 hy7 hjw (by first | assumption | omega) (by first | assumption | omega) (by first | assumption | omega | decide) (by omega) (by omega) (by omega) (by omega) hp_fc H.size) (cwV 3 hts gX5_leastBy_X5_least rfl rfl rfl ⟨rfl, dh_X5_least⟩ ⟨Nat.le_of_ble_eq_true rfl, Nat.le_of_ble_eq_true rfl⟩) hK hN (hZ.kept hS) hP hD hS hA [0, 1, 2, 3] [] rfl rfl (by decide) (by decide) (by decide) (va_recv (q := (RX5, TX5, 7)) hK hP (ci := 5) (q0 := 0) rfl rfl) rfl hl.1 rfl (Nat.le_of_ble_eq_true rfl) dX5_leastBy_102 ⟨Nat.le_of_ble_eq_true rfl, Nat.le_of_ble_eq_true rfl⟩ (fun r_54 u_55 H locs hr_54 hP hD hS => ?_)
        obtain ⟨q_56, rfl⟩ : ∃ z, z = u_55 := ⟨_, rfl⟩
        obtain ⟨hsr_54_0, hsr_54_1, hr_54⟩ := hr_54
        have h9R := zRe (ws' := [(w0, .inr (5, [.ref wk, .ref wl, .ref wc, .ref wp, .int wn, .int wh, .int wg])), (wl, .inl (cI, 125, .inl q_56)), (wc, .inl (cI, 3, .inl fc)), (wp, .inl (cP, 8, .inr (.inr (.inr (.inr fq)))))]) hP hD rfl
        clear hP hD
        obtain ⟨hP, hD⟩ := h9R
        obtain ⟨g_57, g_58⟩ := hr_54
        refine lv_imul hx hb dX5_leastBy_105 ?_
        refine lv_topi (fun x_59 ex_59 => ?_)
        obtain ⟨mx_59, nx_59, ox_59⟩ := zf_mulc (a := x_49) (b := r_54) (x := x_49.toInt) (y := r_54.toInt) (P := 171072) rfl rfl ⟨by omega, by omega⟩ ⟨by omega, by omega⟩ (by decide)
        rw [← ex_59] at mx_59
        refine lv_iadd hx hb dX5_leastBy_106 ?_
        refine lv_topi (fun x_60 ex_60 => ?_)
        have qx_60 : x_60.toInt = x_46.toInt + x_59.toInt := by rw [ex_60]; exact zf_add rfl rfl (by omega) (by omega)
        refine lv_istore (lv' := [(7, .int x_60), (6, .int x_4), (5, .int r_1), (0, .ref w0), (1, .ref u0), (2, .int 4), (3, .int d), (4, .int sec)]) hx hb dX5_leastBy_107 hl (by decide) rfl (fun ls hl => ?_)
        refine lv_iload hx hb dX5_leastBy_109 (lv_at hl 0 rfl) ?_
        exact W.iret (v := x_60) hx hb hr (fun t ht hW => ⟨⟨x_60, q_56, rfl, ⟨(show zKn kq aq tq wn.toInt.toNat wh.toInt (fc 0).toInt (fc 1).toInt (fc 2).toInt wg.toInt q_56 from by first | exact hsr_54_0 | assumption), (show (x_60 : Int32).toInt = zLb (zLn kq aq tq wn.toInt.toNat wh.toInt (fc 0).toInt (fc 1).toInt (fc 2).toInt 3) (fc 0).toInt (zPw 4) ki.toInt a_.toInt ta.toInt wh.toInt d.toInt sec.toInt from by (have nx_45 : (fc 0).toInt = x_45.toInt := (by rw [ex_45, show (0 : Int32).toNatClampNeg = 0 from by decide]); have zw := hsr_1_0; have E1 : r_1.toInt * (zLn kq aq tq wn.toInt.toNat wh.toInt (fc 0).toInt (fc 1).toInt (fc 2).toInt 3) (zShl ki.toInt a_.toInt d.toInt) (sec.toInt - ta.toInt) = 0 := (by rw [show r_1.toInt = 0 from by omega, Int.zero_mul]); have E2 : (12 - r_1.toInt) * (zLn kq aq tq wn.toInt.toNat wh.toInt (fc 0).toInt (fc 1).toInt (fc 2).toInt 3) (zDpr ki.toInt a_.toInt wh.toInt d.toInt) (sec.toInt - ta.toInt) = x_59.toInt := (by rw [← hsr_51_0, show sec.toInt - ta.toInt = (x_4 : Int32).toInt from by omega, ← hsr_54_1, show 12 - r_1.toInt = x_49.toInt from by omega]; omega); unfold zLb zBy1; rw [← zw, E1, E2, show zPw 4 = 20736 from by decide]; first | (rw [if_pos (by omega)]; omega) | (rw [if_neg (by omega)]; omega))), ⟨by omega, by omega⟩⟩, zRet ht hP hD [0, 1, 2, 3] (by decide) rfl⟩, hS.F ht⟩) hS.2.2 dX5_leastBy_111
    · have fc_47 : 0 < r_1.toInt := zf_nle c_47 rfl (by decide)
      refine lv_iload hx hb dX5_leastBy_51 (lv_at hl 0 rfl) ?_
      refine lv_iload hx hb dX5_leastBy_53 (lv_at hl 2 rfl) ?_
      refine lv_aload_n hx hb dX5_leastBy_55 rfl (lv_at hl 3 rfl) ?_
      refine lv_iload_n hx hb dX5_leastBy_56 rfl (lv_at hl 5 rfl) ?_
      refine lv_iconst (v := 1) hx hb dX5_leastBy_57 (by decide) ?_
      refine lv_isub hx hb dX5_leastBy_58 ?_
      refine lv_topi (fun y_61 ey_61 => ?_)
      obtain rfl : y_61 = 3 := ey_61.trans (by decide)
      refine lv_aload_n hx hb dX5_leastBy_59 rfl (lv_at hl 4 rfl) ?_
      refine lv_iload_n hx hb dX5_leastBy_60 rfl (lv_at hl 6 rfl) ?_
      refine zc_V (As := [.int d]) (rest := [.int 3, .ref w0, .int r_1, .int x_46]) ⟨hx, hb, hml, hown, hts⟩ (c_F_Pull_shallower l D cI cJ cZ cP cS po (d) u0 (ki) (a_) (ta) hu_u0 ⟨by omega, by omega, by omega, by omega⟩ hy12 hy13) (cwV 1 hts gX5_leastBy_X2_shallower rfl rfl rfl ⟨rfl, dh_X2_shallower⟩ ⟨Nat.le_of_ble_eq_true rfl, Nat.le_of_ble_eq_true rfl⟩) hK hN (hZ.kept hS) hP zP_nil (va_recv (q := (RX2, TX2, 3)) hK (zPu_P (hZ.kept hS) hu_u0) (ci := 2) (q0 := 0) rfl rfl) rfl hl.1 rfl (Nat.le_of_ble_eq_true rfl) dX5_leastBy_61 ⟨Nat.le_of_ble_eq_true rfl, Nat.le_of_ble_eq_true rfl⟩ (fun r_62 hr_62 => ?_)
      obtain ⟨g_63, g_64, hsr_62_0⟩ := hr_62
      refine lv_iload hx hb dX5_leastBy_64 (lv_at hl 1 rfl) ?_
      skip
      refine zw_V (As := [.int 3, .int r_62, .int x_4]) (rest := [.int r_1, .int x_46]) (wr := []) ⟨hx, hb, hml, hown, hts⟩ (c_F_W_least_3 l D cI cJ cZ cP cS po w0 wk wl wc wp (wn) (wh) (wg) fq kq aq tq (tw) fl fc (r_62) (x_4) hy2 hy3 hy4 hy5 hy6 hy7 hjw (by first | assumption | omega) (by first | assumption | omega) (by first | assumption | omega | decide) (by omega) (by omega) (by omega) (by omega) hp_fc H.size) (cwV 3 hts gX5_leastBy_X5_least rfl rfl rfl ⟨rfl, dh_X5_least⟩ ⟨Nat.le_of_ble_eq_true rfl, Nat.le_of_ble_eq_true rfl⟩) hK hN (hZ.kept hS) hP hD hS hA [0, 1, 2, 3] [] rfl rfl (by decide) (by decide) (by decide) (va_recv (q := (RX5, TX5, 7)) hK hP (ci := 5) (q0 := 0) rfl rfl) rfl hl.1 rfl (Nat.le_of_ble_eq_true rfl) dX5_leastBy_66 ⟨Nat.le_of_ble_eq_true rfl, Nat.le_of_ble_eq_true rfl⟩ (fun r_65 u_66 H locs hr_65 hP hD hS => ?_)
      obtain ⟨q_67, rfl⟩ : ∃ z, z = u_66 := ⟨_, rfl⟩
      obtain ⟨hsr_65_0, hsr_65_1, hr_65⟩ := hr_65
      have h9R := zRe (ws' := [(w0, .inr (5, [.ref wk, .ref wl, .ref wc, .ref wp, .int wn, .int wh, .int wg])), (wl, .inl (cI, 125, .inl q_67)), (wc, .inl (cI, 3, .inl fc)), (wp, .inl (cP, 8, .inr (.inr (.inr (.inr fq)))))]) hP hD rfl
      clear hP hD
      obtain ⟨hP, hD⟩ := h9R
      obtain ⟨g_68, g_69⟩ := hr_65
      refine lv_imul hx hb dX5_leastBy_69 ?_
      refine lv_topi (fun x_70 ex_70 => ?_)
      obtain ⟨mx_70, nx_70, ox_70⟩ := zf_mulc (a := r_1) (b := r_65) (x := r_1.toInt) (y := r_65.toInt) (P := 171072) rfl rfl ⟨by omega, by omega⟩ ⟨by omega, by omega⟩ (by decide)
      rw [← ex_70] at mx_70
      refine lv_iadd hx hb dX5_leastBy_70 ?_
      refine lv_topi (fun x_71 ex_71 => ?_)
      have qx_71 : x_71.toInt = x_46.toInt + x_70.toInt := by rw [ex_71]; exact zf_add rfl rfl (by omega) (by omega)
      refine lv_istore (lv' := [(7, .int x_71), (6, .int x_4), (5, .int r_1), (0, .ref w0), (1, .ref u0), (2, .int 4), (3, .int d), (4, .int sec)]) hx hb dX5_leastBy_71 hl (by decide) rfl (fun ls hl => ?_)
      refine lv_iload hx hb dX5_leastBy_73 (lv_at hl 2 rfl) ?_
      refine lv_bipush (v := 12) hx hb dX5_leastBy_75 (by decide) ?_
      refine lv_icmp_ge (tgt := 109) hx hb dX5_leastBy_77 (by decide) (fun c_72 => ?_) (fun c_72 => ?_)
      · have fc_72 : 12 ≤ r_1.toInt := zf_le c_72 (by decide) rfl
        refine lv_iload hx hb dX5_leastBy_109 (lv_at hl 0 rfl) ?_
        exact W.iret (v := x_71) hx hb hr (fun t ht hW => ⟨⟨x_71, q_67, rfl, ⟨(show zKn kq aq tq wn.toInt.toNat wh.toInt (fc 0).toInt (fc 1).toInt (fc 2).toInt wg.toInt q_67 from by exact hsr_65_0), (show (x_71 : Int32).toInt = zLb (zLn kq aq tq wn.toInt.toNat wh.toInt (fc 0).toInt (fc 1).toInt (fc 2).toInt 3) (fc 0).toInt (zPw 4) ki.toInt a_.toInt ta.toInt wh.toInt d.toInt sec.toInt from by (have nx_45 : (fc 0).toInt = x_45.toInt := (by rw [ex_45, show (0 : Int32).toNatClampNeg = 0 from by decide]); have zw := hsr_1_0; have E1 : r_1.toInt * (zLn kq aq tq wn.toInt.toNat wh.toInt (fc 0).toInt (fc 1).toInt (fc 2).toInt 3) (zShl ki.toInt a_.toInt d.toInt) (sec.toInt - ta.toInt) = x_70.toInt := (by rw [← hsr_62_0, show sec.toInt - ta.toInt = (x_4 : Int32).toInt from by omega, ← hsr_65_1]; omega); have E2 : (12 - r_1.toInt) * (zLn kq aq tq wn.toInt.toNat wh.toInt (fc 0).toInt (fc 1).toInt (fc 2).toInt 3) (zDpr ki.toInt a_.toInt wh.toInt d.toInt) (sec.toInt - ta.toInt) = 0 := (by rw [show 12 - r_1.toInt = 0 from by omega, Int.zero_mul]); unfold zLb zBy1; rw [← zw, E1, E2, show zPw 4 = 20736 from by decide]; first | (rw [if_pos (by omega)]; omega) | (rw [if_neg (by omega)]; omega))), ⟨by omega, by omega⟩⟩, zRet ht hP hD [0, 1, 2, 3] (by decide) rfl⟩, hS.F ht⟩) hS.2.2 dX5_leastBy_111
      · have fc_72 : r_1.toInt < 12 := zf_nle c_72 (by decide) rfl
        refine lv_iload hx hb dX5_leastBy_80 (lv_at hl 0 rfl) ?_
        refine lv_bipush (v := 12) hx hb dX5_leastBy_82 (by decide) ?_
        refine lv_iload hx hb dX5_leastBy_84 (lv_at hl 2 rfl) ?_
        refine lv_isub hx hb dX5_leastBy_86 ?_
        refine lv_topi (fun x_73 ex_73 => ?_)
        have qx_73 : x_73.toInt = 12 - r_1.toInt := by rw [ex_73]; exact zf_sub (by decide) rfl (by omega) (by omega)
        refine lv_aload_n hx hb dX5_leastBy_87 rfl (lv_at hl 3 rfl) ?_
        refine lv_iload_n hx hb dX5_leastBy_88 rfl (lv_at hl 5 rfl) ?_
        refine lv_iconst (v := 1) hx hb dX5_leastBy_89 (by decide) ?_
        refine lv_isub hx hb dX5_leastBy_90 ?_
        refine lv_topi (fun y_74 ey_74 => ?_)
        obtain rfl : y_74 = 3 := ey_74.trans (by decide)
        refine lv_aload_n hx hb dX5_leastBy_91 rfl (lv_at hl 4 rfl) ?_
        refine lv_iload_n hx hb dX5_leastBy_92 rfl (lv_at hl 6 rfl) ?_
        refine lv_aload_n hx hb dX5_leastBy_93 rfl (lv_at hl 3 rfl) ?_
        refine va_get (D := D) (ci := 5) (v := .int wh) (C := RX5) (T := TX5) (N := 7) hx hb hts hi_X5_leastBy_5 hown hK hP 0 rfl rfl 5 (by decide) (hts (.fieldLink RX5 31 "TheLiningsInIt$Ways" "hurry" "I") (List.mem_of_getElem? (i := 1) rfl)) (fun _ h9 => h9) rfl dX5_leastBy_94 ?_
        refine zc_V (As := [.int d, .int wh]) (rest := [.int 3, .ref w0, .int x_73, .int x_71]) ⟨hx, hb, hml, hown, hts⟩ (c_F_Pull_deeper l D cI cJ cZ cP cS po (d) (wh) u0 (ki) (a_) (ta) hu_u0 ⟨by omega, by omega, by omega, by omega⟩ hy12 hy13 hy4 hy5) (cwV 2 hts gX5_leastBy_X2_deeper rfl rfl rfl ⟨rfl, dh_X2_deeper⟩ ⟨Nat.le_of_ble_eq_true rfl, Nat.le_of_ble_eq_true rfl⟩) hK hN (hZ.kept hS) hP zP_nil (va_recv (q := (RX2, TX2, 3)) hK (zPu_P (hZ.kept hS) hu_u0) (ci := 2) (q0 := 0) rfl rfl) rfl hl.1 rfl (Nat.le_of_ble_eq_true rfl) dX5_leastBy_97 ⟨Nat.le_of_ble_eq_true rfl, Nat.le_of_ble_eq_true rfl⟩ (fun r_75 hr_75 => ?_)
        obtain ⟨g_76, g_77, hsr_75_0⟩ := hr_75
        refine lv_iload hx hb dX5_leastBy_100 (lv_at hl 1 rfl) ?_
        skip
        refine zw_V (As := [.int 3, .int r_75, .int x_4]) (rest := [.int x_73, .int x_71]) (wr := []) ⟨hx, hb, hml, hown, hts⟩ (c_F_W_least_3 l D cI cJ cZ cP cS po w0 wk wl wc wp (wn) (wh) (wg) fq kq aq tq (tw) q_67 fc (r_75) (x_4) hy2 hy3 hy4 hy5 hy6 hy7 hjw (by first | assumption | omega) (by first | assumption | omega) (by first | assumption | omega | decide) (by omega) (by omega) (by omega) (by omega) hp_fc H.size) (cwV 3 hts gX5_leastBy_X5_least rfl rfl rfl ⟨rfl, dh_X5_least⟩ ⟨Nat.le_of_ble_eq_true rfl, Nat.le_of_ble_eq_true rfl⟩) hK hN (hZ.kept hS) hP hD hS hA [0, 1, 2, 3] [] rfl rfl (by decide) (by decide) (by decide) (va_recv (q := (RX5, TX5, 7)) hK hP (ci := 5) (q0 := 0) rfl rfl) rfl hl.1 rfl (Nat.le_of_ble_eq_true rfl) dX5_leastBy_102 ⟨Nat.le_of_ble_eq_true rfl, Nat.le_of_ble_eq_true rfl⟩ (fun r_78 u_79 H locs hr_78 hP hD hS => ?_)
        obtain ⟨q_80, rfl⟩ : ∃ z, z = u_79 := ⟨_, rfl⟩
        obtain ⟨hsr_78_0, hsr_78_1, hr_78⟩ := hr_78
        have h9R := zRe (ws' := [(w0, .inr (5, [.ref wk, .ref wl, .ref wc, .ref wp, .int wn, .int wh, .int wg])), (wl, .inl (cI, 125, .inl q_80)), (wc, .inl (cI, 3, .inl fc)), (wp, .inl (cP, 8, .inr (.inr (.inr (.inr fq)))))]) hP hD rfl
        clear hP hD
        obtain ⟨hP, hD⟩ := h9R
        obtain ⟨g_81, g_82⟩ := hr_78
        refine lv_imul hx hb dX5_leastBy_105 ?_
        refine lv_topi (fun x_83 ex_83 => ?_)
        obtain ⟨mx_83, nx_83, ox_83⟩ := zf_mulc (a := x_73) (b := r_78) (x := x_73.toInt) (y := r_78.toInt) (P := 171072) rfl rfl ⟨by omega, by omega⟩ ⟨by omega, by omega⟩ (by decide)
        rw [← ex_83] at mx_83
        refine lv_iadd hx hb dX5_leastBy_106 ?_
        refine lv_topi (fun x_84 ex_84 => ?_)
        have qx_84 : x_84.toInt = x_71.toInt + x_83.toInt := by rw [ex_84]; exact zf_add rfl rfl (by omega) (by omega)
        refine lv_istore (lv' := [(7, .int x_84), (6, .int x_4), (5, .int r_1), (0, .ref w0), (1, .ref u0), (2, .int 4), (3, .int d), (4, .int sec)]) hx hb dX5_leastBy_107 hl (by decide) rfl (fun ls hl => ?_)
        refine lv_iload hx hb dX5_leastBy_109 (lv_at hl 0 rfl) ?_
        have hmx9 := zMix (w := r_1.toInt) (x := r_65.toInt) (y := r_78.toInt) (P := 171072) ⟨by omega, by omega⟩ ⟨by omega, by omega⟩ ⟨by omega, by omega⟩
        rw [show 12 - r_1.toInt = x_73.toInt from by omega] at hmx9
        exact W.iret (v := x_84) hx hb hr (fun t ht hW => ⟨⟨x_84, q_80, rfl, ⟨(show zKn kq aq tq wn.toInt.toNat wh.toInt (fc 0).toInt (fc 1).toInt (fc 2).toInt wg.toInt q_80 from by first | exact hsr_78_0 | assumption), (show (x_84 : Int32).toInt = zLb (zLn kq aq tq wn.toInt.toNat wh.toInt (fc 0).toInt (fc 1).toInt (fc 2).toInt 3) (fc 0).toInt (zPw 4) ki.toInt a_.toInt ta.toInt wh.toInt d.toInt sec.toInt from by (have nx_45 : (fc 0).toInt = x_45.toInt := (by rw [ex_45, show (0 : Int32).toNatClampNeg = 0 from by decide]); have zw := hsr_1_0; have E1 : r_1.toInt * (zLn kq aq tq wn.toInt.toNat wh.toInt (fc 0).toInt (fc 1).toInt (fc 2).toInt 3) (zShl ki.toInt a_.toInt d.toInt) (sec.toInt - ta.toInt) = x_70.toInt := (by rw [← hsr_62_0, show sec.toInt - ta.toInt = (x_4 : Int32).toInt from by omega, ← hsr_65_1]; omega); have E2 : (12 - r_1.toInt) * (zLn kq aq tq wn.toInt.toNat wh.toInt (fc 0).toInt (fc 1).toInt (fc 2).toInt 3) (zDpr ki.toInt a_.toInt wh.toInt d.toInt) (sec.toInt - ta.toInt) = x_83.toInt := (by rw [← hsr_75_0, show sec.toInt - ta.toInt = (x_4 : Int32).toInt from by omega, ← hsr_78_1, show 12 - r_1.toInt = x_73.toInt from by omega]; omega); unfold zLb zBy1; rw [← zw, E1, E2, show zPw 4 = 20736 from by decide]; first | (rw [if_pos (by omega)]; omega) | (rw [if_neg (by omega)]; omega))), ⟨by omega, by omega⟩⟩, zRet ht hP hD [0, 1, 2, 3] (by decide) rfl⟩, hS.F ht⟩) hS.2.2 dX5_leastBy_111
set_option maxHeartbeats 4000000 in
set_option maxRecDepth 100000 in
theorem c_F_W_least_4 (l : Launch) (D : va_G) (cI cJ cZ cP cS : ClassId) (po : zPool) (w0 wk wl wc wp : Nat) (wn wh wg : Int32) (fq : Nat → Option Nat) (kq aq tq : Nat → Int32) (tw : Int32) (fl fc : Nat → Int32) (d sec : Int32) (hy0 : 0 ≤ wn.toInt) (hy1 : wn.toInt ≤ 8) (hy2 : 0 ≤ wh.toInt) (hy3 : wh.toInt ≤ 9) (hy4 : 0 ≤ wg.toInt) (hy5 : wg.toInt ≤ 60) (hjw : zJW po fq wn kq aq tq tw) (hkn : zKn kq aq tq wn.toInt.toNat wh.toInt (fc 0).toInt (fc 1).toInt (fc 2).toInt wg.toInt fl) (hgl : (∀ p : Nat, p < wn.toInt.toNat → (tq p).toInt ≤ wg.toInt)) (htw : tw.toInt = 1) (hy10 : 0 ≤ d.toInt) (hy11 : d.toInt ≤ 24) (hy12 : 0 ≤ sec.toInt) (hy13 : sec.toInt ≤ 300) (hp_fc : zRg fc (0) 99) (hpz : Nat) : Met l yX5_least wsX5_least ({ frames := 10, cells := 0, slots := 0, locals := 263 }) (va_Pc [.ref w0, .int 4, .int d, .int sec] (zW D (zKT cI cJ cZ cP cS) po [(w0, .inr (5, [.ref wk, .ref wl, .ref wc, .ref wp, .int wn, .int wh, .int wg])), (wl, .inl (cI, 125, .inl fl)), (wc, .inl (cI, 3, .inl fc)), (wp, .inl (cP, 8, .inr (.inr (.inr (.inr fq)))))] hpz)) (va_Qi (fun (r : Int32) (fl2 : (Nat → Int32)) => (zKn kq aq tq wn.toInt.toNat wh.toInt (fc 0).toInt (fc 1).toInt (fc 2).toInt wg.toInt fl2) ∧ (r.toInt = (zLn kq aq tq wn.toInt.toNat wh.toInt (fc 0).toInt (fc 1).toInt (fc 2).toInt 4) d.toInt sec.toInt) ∧ (0 ≤ r.toInt ∧ r.toInt ≤ 2052864)) (zB D [(w0, .inr (5, [.ref wk, .ref wl, .ref wc, .ref wp, .int wn, .int wh, .int wg])), (wl, .inl (cI, 125, .inl fl)), (wc, .inl (cI, 3, .inl fc)), (wp, .inl (cP, 8, .inr (.inr (.inr (.inr fq)))))] hpz (fun (fl2 : Nat → Int32) => [(w0, .inr (5, [.ref wk, .ref wl, .ref wc, .ref wp, .int wn, .int wh, .int wg])), (wl, .inl (cI, 125, .inl fl2)), (wc, .inl (cI, 3, .inl fc)), (wp, .inl (cP, 8, .inr (.inr (.inr (.inr fq)))))])) (va_A [(w0, .inr (5, [.ref wk, .ref wl, .ref wc, .ref wp, .int wn, .int wh, .int wg])), (wl, .inl (cI, 125, .inl fl)), (wc, .inl (cI, 3, .inl fc)), (wp, .inl (cP, 8, .inr (.inr (.inr (.inr fq)))))] hpz)) 0 0 (va_A [(w0, .inr (5, [.ref wk, .ref wl, .ref wc, .ref wp, .int wn, .int wh, .int wg])), (wl, .inl (cI, 125, .inl fl)), (wc, .inl (cI, 3, .inl fc)), (wp, .inl (cP, 8, .inr (.inr (.inr (.inr fq)))))] hpz) := by
  refine Met.ofW (cc := cX5_least) (maxL := 9) (ret := (some .int)) (by decide) rfl ?_
  intro p e s m args below meth c s₁ B hml hv
  obtain ⟨rfl, hsz, hP, hK, hD0, hN, hZ⟩ := hv
  have hx := B.exec
  have hb := B.bytes
  have hr := B.returns
  have hts := atoms_spec (ws := wsX5_least) B.pre
  have hown : s.vm.findClass RX5 = some m.cls := findClass_of_methodNamed B.named
  have hlocks := B.notSynchronized
  subst hsz
  have hD := hD0.self (sz := s.heap.size)
  have hA := zA_of hD
  have hl := lv_entry ([.ref w0, .int 4, .int d, .int sec]) (n := 9) (Nat.le_of_ble_eq_true rfl)
  rw [lg_entry_eq]
  generalize (lg_sl ([.ref w0, .int 4, .int d, .int sec]) ++ List.replicate (9 - (lg_sl ([.ref w0, .int 4, .int d, .int sec])).length) Slot.unset).toArray = ls at hl ⊢
  replace hl : lv_has ls 9 [(0, .ref w0), (1, .int 4), (2, .int d), (3, .int sec)] := hl
  refine zw_begin hP hD (fun H locs hP1 hS => ?_)
  clear hP
  have hP := hP1
  clear hP1
  refine lv_iload_n hx hb dX5_least_0 rfl (lv_at hl 1 rfl) ?_
  refine lv_if_lt (tgt := 20) hx hb dX5_least_1 (by decide) (fun c_1 => ?_) (fun c_1 => ?_)
  · exact absurd c_1 (by decide)
  · refine lv_iload_n hx hb dX5_least_4 rfl (lv_at hl 1 rfl) ?_
    refine lv_iconst (v := 4) hx hb dX5_least_5 (by decide) ?_
    refine lv_icmp_gt (tgt := 20) hx hb dX5_least_6 (by decide) (fun c_2 => ?_) (fun c_2 => ?_)
    · exact absurd c_2 (by decide)
    · refine lv_iload_n hx hb dX5_least_9 rfl (lv_at hl 2 rfl) ?_
      refine lv_iconst (v := 1) hx hb dX5_least_10 (by decide) ?_
      refine lv_icmp_lt (tgt := 20) hx hb dX5_least_11 (by decide) (fun c_3 => ?_) (fun c_3 => ?_)
      · have fc_3 : d.toInt < 1 := zf_lt c_3 rfl (by decide)
        refine lv_iconst (v := 0) hx hb dX5_least_20 (by decide) ?_
        exact W.iret (v := 0) hx hb hr (fun t ht hW => ⟨⟨0, fl, rfl, ⟨(show zKn kq aq tq wn.toInt.toNat wh.toInt (fc 0).toInt (fc 1).toInt (fc 2).toInt wg.toInt fl from by exact hkn), (show (0 : Int32).toInt = (zLn kq aq tq wn.toInt.toNat wh.toInt (fc 0).toInt (fc 1).toInt (fc 2).toInt 4) d.toInt sec.toInt from by (have k9 : (0 : Int32).toInt = 0 := (by decide); rw [zLn_s, if_pos (by omega)]; exact k9)), ⟨by decide, by decide⟩⟩, zRet ht hP hD [0, 1, 2, 3] (by decide) rfl⟩, hS.F ht⟩) hS.2.2 dX5_least_21
      · have fc_3 : 1 ≤ d.toInt := zf_nlt c_3 rfl (by decide)
        refine lv_iload_n hx hb dX5_least_14 rfl (lv_at hl 2 rfl) ?_
        refine lv_bipush (v := 24) hx hb dX5_least_15 (by decide) ?_
        refine lv_icmp_le (tgt := 22) hx hb dX5_least_17 (by decide) (fun c_4 => ?_) (fun c_4 => ?_)
        · have fc_4 : d.toInt ≤ 24 := zf_le c_4 rfl (by decide)
          refine lv_iload_n hx hb dX5_least_22 rfl (lv_at hl 3 rfl) ?_
          refine lv_iload_n hx hb dX5_least_23 rfl (lv_at hl 1 rfl) ?_
          refine lv_aload_n hx hb dX5_least_24 rfl (lv_at hl 0 rfl) ?_
          refine va_get (D := D) (ci := 5) (v := .int wg) (C := RX5) (T := TX5) (N := 7) hx hb hts hi_X5_least_5 hown hK hP 0 rfl rfl 6 (by decide) (hts (.fieldLink RX5 34 "TheLiningsInIt$Ways" "longest" "I") (List.mem_of_getElem? (i := 1) rfl)) (fun _ h9 => h9) rfl dX5_least_25 ?_
          refine lv_imul hx hb dX5_least_28 ?_
          refine lv_topi (fun x_5 ex_5 => ?_)
          have qx_5 : x_5.toInt = 4 * wg.toInt := by rw [ex_5]; exact zf_mul (by decide) rfl (by omega) (by omega)
          refine lv_bipush (v := 30) hx hb dX5_least_29 (by decide) ?_
          refine lv_iadd hx hb dX5_least_31 ?_
          refine lv_topi (fun x_6 ex_6 => ?_)
          have qx_6 : x_6.toInt = x_5.toInt + 30 := by rw [ex_6]; exact zf_add rfl (by decide) (by omega) (by omega)
          refine lv_icmp_lt (tgt := 39) hx hb dX5_least_32 (by decide) (fun c_7 => ?_) (fun c_7 => ?_)
          · have fc_7 : sec.toInt < x_6.toInt := zf_lt c_7 rfl rfl
            refine lv_iconst (v := 0) hx hb dX5_least_39 (by decide) ?_
            refine lv_istore (lv' := [(4, .int 0), (0, .ref w0), (1, .int 4), (2, .int d), (3, .int sec)]) hx hb dX5_least_40 hl (by decide) rfl (fun ls hl => ?_)
            refine lv_iload_n hx hb dX5_least_42 rfl (lv_at hl 2 rfl) ?_
            refine lv_bipush (v := 25) hx hb dX5_least_43 (by decide) ?_
            refine lv_imul hx hb dX5_least_45 ?_
            refine lv_topi (fun y_8 ey_8 => ?_)
            obtain rfl : y_8 = 100 := ey_8.trans (by decide)
            refine lv_iload_n hx hb dX5_least_46 rfl (lv_at hl 3 rfl) ?_
            refine lv_iadd hx hb dX5_least_47 ?_
            refine lv_topi (fun x_9 ex_9 => ?_)
            have qx_9 : x_9.toInt = 100 + d.toInt := by rw [ex_9]; exact zf_add (by decide) rfl (by omega) (by omega)
            refine lv_istore (lv' := [(5, .int x_9), (4, .int 0), (0, .ref w0), (1, .int 4), (2, .int d), (3, .int sec)]) hx hb dX5_least_48 hl (by decide) rfl (fun ls hl => ?_)
            refine lv_iload hx hb dX5_least_50 (lv_at hl 1 rfl) ?_
            refine lv_if_eq (tgt := 74) hx hb dX5_least_52 (by decide) (fun c_10 => ?_) (fun c_10 => ?_)
            · refine lv_aload_n hx hb dX5_least_74 rfl (lv_at hl 2 rfl) ?_
              refine lv_iload_n hx hb dX5_least_75 rfl (lv_at hl 3 rfl) ?_
              refine lv_iload_n hx hb dX5_least_76 rfl (lv_at hl 5 rfl) ?_
              refine zc_V (As := [.int 4, .int sec]) (rest := []) ⟨hx, hb, hml, hown, hts⟩ (c_F_W_leastAtOnce_4 l D cI cJ cZ cP cS po w0 wk wl wc wp (wn) (wh) (wg) fc (sec) hy0 hy1 hy2 hy3 hy4 hy5 hy12 hy13 hp_fc) (cwV 2 hts gX5_least_X5_leastAtOnce rfl rfl rfl ⟨rfl, dh_X5_leastAtOnce⟩ ⟨Nat.le_of_ble_eq_true rfl, Nat.le_of_ble_eq_true rfl⟩) hK hN (hZ.kept hS) hP (hP.sub [0, 2] rfl) (va_recv (q := (RX5, TX5, 7)) hK hP (ci := 5) (q0 := 0) rfl rfl) rfl hl.1 rfl (Nat.le_of_ble_eq_true rfl) dX5_least_77 ⟨Nat.le_of_ble_eq_true rfl, Nat.le_of_ble_eq_true rfl⟩ (fun r_11 hr_11 => ?_)
              obtain ⟨g_12, g_13, hsr_11_0⟩ := hr_11
              refine lv_istore (lv' := [(6, .int r_11), (5, .int x_9), (4, .int 0), (0, .ref w0), (1, .int 4), (2, .int d), (3, .int sec)]) hx hb dX5_least_80 hl (by decide) rfl (fun ls hl => ?_)
              refine lv_iconst (v := 0) hx hb dX5_least_82 (by decide) ?_
              refine lv_istore (lv' := [(7, .int 0), (6, .int r_11), (5, .int x_9), (4, .int 0), (0, .ref w0), (1, .int 4), (2, .int d), (3, .int sec)]) hx hb dX5_least_83 hl (by decide) rfl (fun ls hl => ?_)
              obtain ⟨i_85, hi_85⟩ : ∃ i : Int32, i = 0 := ⟨_, rfl⟩
              replace hl : lv_has ls 9 [(7, .int i_85), (6, .int r_11), (5, .int x_9), (4, .int 0), (0, .ref w0), (1, .int 4), (2, .int d), (3, .int sec)] := by rw [hi_85]; exact lv_sub hl [0, 1, 2, 3, 4, 5, 6, 7] rfl
              have h1i_85 : i_85.toInt = 0 := by rw [hi_85]; decide
              obtain ⟨nfu, hni_85⟩ : ∃ nq9 : Nat, wn.toInt ≤ i_85.toInt + (nq9 : Int) := ⟨((wn.toInt : Int) - 0).toNat, by omega⟩
              have hloi_85 : 0 ≤ i_85.toInt := by omega
              obtain ⟨g_14, hg_14⟩ : ∃ g : Nat → Int32, g = fl := ⟨_, rfl⟩
              replace hP : va_P D vwCl [(w0, .inr (5, [.ref wk, .ref wl, .ref wc, .ref wp, .int wn, .int wh, .int wg])), (wl, .inl (cI, 125, .inl g_14)), (wc, .inl (cI, 3, .inl fc)), (wp, .inl (cP, 8, .inr (.inr (.inr (.inr fq)))))] H := by rw [hg_14]; exact hP
              replace hD : va_D (va_A [(w0, .inr (5, [.ref wk, .ref wl, .ref wc, .ref wp, .int wn, .int wh, .int wg])), (wl, .inl (cI, 125, .inl fl)), (wc, .inl (cI, 3, .inl fc)), (wp, .inl (cP, 8, .inr (.inr (.inr (.inr fq)))))] s.heap.size) [(w0, .inr (5, [.ref wk, .ref wl, .ref wc, .ref wp, .int wn, .int wh, .int wg])), (wl, .inl (cI, 125, .inl g_14)), (wc, .inl (cI, 3, .inl fc)), (wp, .inl (cP, 8, .inr (.inr (.inr (.inr fq)))))] := by rw [hg_14]; exact hD
              obtain ⟨v_15, hv_15⟩ : ∃ g : Int32, g = r_11 := ⟨_, rfl⟩
              replace hl : lv_has ls 9 [(7, .int i_85), (6, .int v_15), (5, .int x_9), (4, .int 0), (0, .ref w0), (1, .int 4), (2, .int d), (3, .int sec)] := by rw [hv_15]; exact hl
              have hbv_15 : 0 ≤ v_15.toInt ∧ v_15.toInt ≤ 2052864 := by rw [hv_15]; exact ⟨by omega, by omega⟩
              have hvi_85_0 : zKn kq aq tq wn.toInt.toNat wh.toInt (fc 0).toInt (fc 1).toInt (fc 2).toInt wg.toInt g_14 := by
                (try rw [hi_85]); (try rw [hg_14]); (try rw [hv_15]); exact hkn
              have hvi_85_1 : (v_15 : Int32).toInt = zFi tq d.toInt sec.toInt (zPw 4 * zAt (fc 1).toInt (fc 2).toInt sec.toInt) (zLv (zLn kq aq tq wn.toInt.toNat wh.toInt (fc 0).toInt (fc 1).toInt (fc 2).toInt 3) kq aq tq (fc 0).toInt (zPw 4) wh.toInt d.toInt sec.toInt) i_85.toInt.toNat := by
                (try rw [hi_85]); (try rw [hg_14]); (try rw [hv_15]); (rw [(show ((0 : Int32).toInt.toNat) = 0 from by decide)]; exact hsr_11_0)
              have hvi_85_2 : i_85.toInt ≤ wn.toInt := by
                (try rw [hi_85]); (try rw [hg_14]); (try rw [hv_15]); (have k0 : (0 : Int32).toInt = 0 := (by decide); omega)
              clear h1i_85 hi_85 hg_14 hv_15
              skip
              revert hni_85
              revert hloi_85
              revert hvi_85_2
              revert hvi_85_1
              revert hvi_85_0
              revert hbv_15
              revert hl
              revert hS
              revert hD
              revert hP
              revert ls
              revert locs
              revert H
              revert g_14
              revert v_15
              revert i_85
              induction nfu with
              | zero =>
                intro i_85 v_15 g_14 H locs ls hP hD hS hl hbv_15 hvi_85_0 hvi_85_1 hvi_85_2 hloi_85 hni_85
                have hzi_85 : wn.toInt ≤ i_85.toInt := by omega
                refine lv_iload hx hb dX5_least_85 (lv_at hl 0 rfl) ?_
                refine lv_aload_n hx hb dX5_least_87 rfl (lv_at hl 4 rfl) ?_
                refine va_get (D := D) (ci := 5) (v := .int wn) (C := RX5) (T := TX5) (N := 7) hx hb hts hi_X5_least_5 hown hK hP 0 rfl rfl 4 (by decide) (hts (.fieldLink RX5 27 "TheLiningsInIt$Ways" "count" "I") (List.mem_of_getElem? (i := 3) rfl)) (fun _ h9 => h9) rfl dX5_least_88 ?_
                refine lv_icmp_ge (tgt := 135) hx hb dX5_least_91 (by decide) (fun c_16 => ?_) (fun c_16 => ?_)
                · have fc_16 : wn.toInt ≤ i_85.toInt := zf_le c_16 rfl rfl
                  refine lv_iload hx hb dX5_least_135 (lv_at hl 3 rfl) ?_
                  refine lv_if_eq (tgt := 149) hx hb dX5_least_137 (by decide) (fun c_17 => ?_) (fun c_17 => ?_)
                  · refine lv_iload hx hb dX5_least_149 (lv_at hl 1 rfl) ?_
                    exact W.iret (v := v_15) hx hb hr (fun t ht hW => ⟨⟨v_15, g_14, rfl, ⟨(show zKn kq aq tq wn.toInt.toNat wh.toInt (fc 0).toInt (fc 1).toInt (fc 2).toInt wg.toInt g_14 from by exact hvi_85_0), (show (v_15 : Int32).toInt = (zLn kq aq tq wn.toInt.toNat wh.toInt (fc 0).toInt (fc 1).toInt (fc 2).toInt 4) d.toInt sec.toInt from by (have h9 : i_85.toInt.toNat = wn.toInt.toNat := (by omega); have z := hvi_85_1; rw [h9] at z; rw [zLn_s, if_neg (by omega)]; exact z)), ⟨by omega, by omega⟩⟩, zRet ht hP hD [0, 1, 2, 3] (by decide) rfl⟩, hS.F ht⟩) hS.2.2 dX5_least_151
                  · exact absurd c_17 (by decide)
                · exfalso; have fc_16 : i_85.toInt < wn.toInt := zf_nle c_16 rfl rfl; omega
              | succ nfu ih =>
                intro i_85 v_15 g_14 H locs ls hP hD hS hl hbv_15 hvi_85_0 hvi_85_1 hvi_85_2 hloi_85 hni_85
                refine lv_iload hx hb dX5_least_85 (lv_at hl 0 rfl) ?_
                refine lv_aload_n hx hb dX5_least_87 rfl (lv_at hl 4 rfl) ?_
                refine va_get (D := D) (ci := 5) (v := .int wn) (C := RX5) (T := TX5) (N := 7) hx hb hts hi_X5_least_5 hown hK hP 0 rfl rfl 4 (by decide) (hts (.fieldLink RX5 27 "TheLiningsInIt$Ways" "count" "I") (List.mem_of_getElem? (i := 3) rfl)) (fun _ h9 => h9) rfl dX5_least_88 ?_
                refine lv_icmp_ge (tgt := 135) hx hb dX5_least_91 (by decide) (fun c_18 => ?_) (fun c_18 => ?_)
                · have fc_18 : wn.toInt ≤ i_85.toInt := zf_le c_18 rfl rfl
                  refine lv_iload hx hb dX5_least_135 (lv_at hl 3 rfl) ?_
                  refine lv_if_eq (tgt := 149) hx hb dX5_least_137 (by decide) (fun c_19 => ?_) (fun c_19 => ?_)
                  · refine lv_iload hx hb dX5_least_149 (lv_at hl 1 rfl) ?_
                    exact W.iret (v := v_15) hx hb hr (fun t ht hW => ⟨⟨v_15, g_14, rfl, ⟨(show zKn kq aq tq wn.toInt.toNat wh.toInt (fc 0).toInt (fc 1).toInt (fc 2).toInt wg.toInt g_14 from by exact hvi_85_0), (show (v_15 : Int32).toInt = (zLn kq aq tq wn.toInt.toNat wh.toInt (fc 0).toInt (fc 1).toInt (fc 2).toInt 4) d.toInt sec.toInt from by (have h9 : i_85.toInt.toNat = wn.toInt.toNat := (by omega); have z := hvi_85_1; rw [h9] at z; rw [zLn_s, if_neg (by omega)]; exact z)), ⟨by omega, by omega⟩⟩, zRet ht hP hD [0, 1, 2, 3] (by decide) rfl⟩, hS.F ht⟩) hS.2.2 dX5_least_151
                  · exact absurd c_19 (by decide)
                · have fc_18 : i_85.toInt < wn.toInt := zf_nle c_18 rfl rfl
                  refine lv_iload_n hx hb dX5_least_94 rfl (lv_at hl 5 rfl) ?_
                  refine lv_if_le (tgt := 135) hx hb dX5_least_95 (by decide) (fun c_20 => ?_) (fun c_20 => ?_)
                  · exact absurd c_20 (by decide)
                  · refine lv_aload_n hx hb dX5_least_98 rfl (lv_at hl 4 rfl) ?_
                    refine lv_iload hx hb dX5_least_99 (lv_at hl 0 rfl) ?_
                    refine lv_iload_n hx hb dX5_least_101 rfl (lv_at hl 6 rfl) ?_
                    refine lv_iload_n hx hb dX5_least_102 rfl (lv_at hl 7 rfl) ?_
                    refine zc_Vq (As := [.int i_85, .int d, .int sec]) (rest := []) ⟨hx, hb, hml, hown, hts⟩ (c_F_W_mayBeAt l D cI cJ cZ cP cS po w0 wk wl wc wp (wn) (wh) (wg) fq kq aq tq (tw) (i_85) (d) (sec) hy0 hy1 hy2 hy3 hy4 hy5 hjw (by omega) (by omega) (by omega) hy12 hy13) (cwV 3 hts gX5_least_X5_mayBeAt rfl rfl rfl ⟨rfl, dh_X5_mayBeAt⟩ ⟨Nat.le_of_ble_eq_true rfl, Nat.le_of_ble_eq_true rfl⟩) hK hN (hZ.kept hS) hP (hP.sub [0, 3] rfl) (va_recv (q := (RX5, TX5, 7)) hK hP (ci := 5) (q0 := 0) rfl rfl) rfl hl.1 rfl (Nat.le_of_ble_eq_true rfl) dX5_least_103 ⟨Nat.le_of_ble_eq_true rfl, Nat.le_of_ble_eq_true rfl⟩ (fun r_21 hr_21 => ?_)
                    rcases hr_21 with ⟨rfl, hn_22⟩ | ⟨rfl, hn_24, g_23⟩ | ⟨rfl, hn_26, g_25⟩ | ⟨⟨u_28, kiu_28, au_28, tu_28, rfl, huu_28, hkku_28⟩, g_27⟩
                    · refine lv_astoreN (lv' := [(8, .null), (7, .int i_85), (6, .int v_15), (5, .int x_9), (4, .int 0), (0, .ref w0), (1, .int 4), (2, .int d), (3, .int sec)]) hx hb dX5_least_106 hl (by decide) rfl (fun ls hl => ?_)
                      refine lv_aloadN hx hb dX5_least_108 (lv_at hl 0 rfl) ?_
                      refine lv_ifnullN (tgt := 129) hx hb dX5_least_110 (by decide) ?_
                      obtain ⟨x_29, ex_29⟩ : ∃ y : Int32, y = i_85 + 1 := ⟨_, rfl⟩
                      have qx_29 : x_29.toInt = i_85.toInt + 1 := dw_inc ex_29 fc_18
                      refine lv_iinc (v := x_29) (lv' := [(7, .int x_29), (8, .null), (6, .int v_15), (5, .int x_9), (4, .int 0), (0, .ref w0), (1, .int 4), (2, .int d), (3, .int sec)]) hx hb dX5_least_129 hl (k := 1) rfl ex_29.symm (by decide) rfl (fun ls hl => ?_)
                      refine lv_goto (tgt := 85) hx hb dX5_least_132 (by decide) ?_
                      exact ih x_29 v_15 (g_14) _ _ _ (hP.sub [0, 1, 2, 3] rfl) (hD.sub [0, 1, 2, 3] (by decide) rfl) hS (lv_sub hl [0, 2, 3, 4, 5, 6, 7, 8] rfl) hbv_15 (show zKn kq aq tq wn.toInt.toNat wh.toInt (fc 0).toInt (fc 1).toInt (fc 2).toInt wg.toInt g_14 from by exact hvi_85_0) (show (v_15 : Int32).toInt = zFi tq d.toInt sec.toInt (zPw 4 * zAt (fc 1).toInt (fc 2).toInt sec.toInt) (zLv (zLn kq aq tq wn.toInt.toNat wh.toInt (fc 0).toInt (fc 1).toInt (fc 2).toInt 3) kq aq tq (fc 0).toInt (zPw 4) wh.toInt d.toInt sec.toInt) x_29.toInt.toNat from by (have hx : x_29.toInt.toNat = i_85.toInt.toNat + 1 := (by omega); have y4 := hn_22; have y9 : i_85.toNatClampNeg = i_85.toInt.toNat := rfl; rw [y9] at y4; rw [hx, zFi_n (fun z => y4 ⟨z.1, z.2, Or.inl (by omega)⟩)]; exact hvi_85_1)) (show x_29.toInt ≤ wn.toInt from by omega) (dw_lo hloi_85 qx_29) (dw_hn hni_85 qx_29)
                    · exfalso; omega
                    · refine lv_astoreN (lv' := [(8, .null), (7, .int i_85), (6, .int v_15), (5, .int x_9), (4, .int 0), (0, .ref w0), (1, .int 4), (2, .int d), (3, .int sec)]) hx hb dX5_least_106 hl (by decide) rfl (fun ls hl => ?_)
                      refine lv_aloadN hx hb dX5_least_108 (lv_at hl 0 rfl) ?_
                      refine lv_ifnullN (tgt := 129) hx hb dX5_least_110 (by decide) ?_
                      obtain ⟨x_30, ex_30⟩ : ∃ y : Int32, y = i_85 + 1 := ⟨_, rfl⟩
                      have qx_30 : x_30.toInt = i_85.toInt + 1 := dw_inc ex_30 fc_18
                      refine lv_iinc (v := x_30) (lv' := [(7, .int x_30), (8, .null), (6, .int v_15), (5, .int x_9), (4, .int 0), (0, .ref w0), (1, .int 4), (2, .int d), (3, .int sec)]) hx hb dX5_least_129 hl (k := 1) rfl ex_30.symm (by decide) rfl (fun ls hl => ?_)
                      refine lv_goto (tgt := 85) hx hb dX5_least_132 (by decide) ?_
                      exact ih x_30 v_15 (g_14) _ _ _ (hP.sub [0, 1, 2, 3] rfl) (hD.sub [0, 1, 2, 3] (by decide) rfl) hS (lv_sub hl [0, 2, 3, 4, 5, 6, 7, 8] rfl) hbv_15 (show zKn kq aq tq wn.toInt.toNat wh.toInt (fc 0).toInt (fc 1).toInt (fc 2).toInt wg.toInt g_14 from by exact hvi_85_0) (show (v_15 : Int32).toInt = zFi tq d.toInt sec.toInt (zPw 4 * zAt (fc 1).toInt (fc 2).toInt sec.toInt) (zLv (zLn kq aq tq wn.toInt.toNat wh.toInt (fc 0).toInt (fc 1).toInt (fc 2).toInt 3) kq aq tq (fc 0).toInt (zPw 4) wh.toInt d.toInt sec.toInt) x_30.toInt.toNat from by (have hx : x_30.toInt.toNat = i_85.toInt.toNat + 1 := (by omega); have y4 := hn_26; have y9 : i_85.toNatClampNeg = i_85.toInt.toNat := rfl; rw [y9] at y4; rw [hx, zFi_n (fun z => y4 ⟨z.1, z.2, Or.inl (by omega)⟩)]; exact hvi_85_1)) (show x_30.toInt ≤ wn.toInt from by omega) (dw_lo hloi_85 qx_30) (dw_hn hni_85 qx_30)
                    · refine W.eq (g2 := F0 m 106 ls (.ref u_28 :: [])) rfl ?_
                      obtain ⟨hku_28, hau_28, htu_28⟩ := zPu_pr (hZ.kept hS) huu_28
                      refine lv_astore (lv' := [(8, .ref u_28), (7, .int i_85), (6, .int v_15), (5, .int x_9), (4, .int 0), (0, .ref w0), (1, .int 4), (2, .int d), (3, .int sec)]) hx hb dX5_least_106 hl (by decide) rfl (fun ls hl => ?_)
                      refine lv_aload hx hb dX5_least_108 (lv_at hl 0 rfl) ?_
                      refine lv_ifnull hx hb dX5_least_110 ?_
                      refine lv_iload hx hb dX5_least_113 (lv_at hl 2 rfl) ?_
                      refine lv_aload_n hx hb dX5_least_115 rfl (lv_at hl 5 rfl) ?_
                      refine lv_aload hx hb dX5_least_116 (lv_at hl 0 rfl) ?_
                      refine lv_iload_n hx hb dX5_least_118 rfl (lv_at hl 6 rfl) ?_
                      refine lv_iload_n hx hb dX5_least_119 rfl (lv_at hl 7 rfl) ?_
                      refine lv_iload_n hx hb dX5_least_120 rfl (lv_at hl 8 rfl) ?_
                      have tsu_28 : tu_28.toInt ≤ sec.toInt := by (obtain ⟨⟨y1, y2, y3⟩, y4⟩ := hkku_28; have z := y4.2.1; rw [y3]; exact z)
                      skip
                      refine zw_V (As := [.ref u_28, .int 4, .int d, .int sec]) (rest := [.int v_15]) (wr := []) ⟨hx, hb, hml, hown, hts⟩ (c_F_W_leastBy_4 l D cI cJ cZ cP cS po w0 wk wl wc wp (wn) (wh) (wg) fq kq aq tq (tw) g_14 fc (d) (sec) u_28 (kiu_28) (au_28) (tu_28) huu_28 ⟨by omega, by omega, by omega, by omega⟩ hy0 hy1 hy2 hy3 hy4 hy5 hjw (by first | assumption | omega) (by first | assumption | omega) (by first | assumption | omega | decide) hy10 hy11 hy12 hy13 (by omega) hp_fc H.size) (cwV 4 hts gX5_least_X5_leastBy rfl rfl rfl ⟨rfl, dh_X5_leastBy⟩ ⟨Nat.le_of_ble_eq_true rfl, Nat.le_of_ble_eq_true rfl⟩) hK hN (hZ.kept hS) hP hD hS hA [0, 1, 2, 3] [] rfl rfl (by decide) (by decide) (by decide) (va_recv (q := (RX5, TX5, 7)) hK hP (ci := 5) (q0 := 0) rfl rfl) rfl hl.1 rfl (Nat.le_of_ble_eq_true rfl) dX5_least_121 ⟨Nat.le_of_ble_eq_true rfl, Nat.le_of_ble_eq_true rfl⟩ (fun r_31 u_32 H locs hr_31 hP hD hS => ?_)
                      obtain ⟨q_33, rfl⟩ : ∃ z, z = u_32 := ⟨_, rfl⟩
                      obtain ⟨hsr_31_0, hsr_31_1, hr_31⟩ := hr_31
                      have h9R := zRe (ws' := [(w0, .inr (5, [.ref wk, .ref wl, .ref wc, .ref wp, .int wn, .int wh, .int wg])), (wl, .inl (cI, 125, .inl q_33)), (wc, .inl (cI, 3, .inl fc)), (wp, .inl (cP, 8, .inr (.inr (.inr (.inr fq)))))]) hP hD rfl
                      clear hP hD
                      obtain ⟨hP, hD⟩ := h9R
                      obtain ⟨g_34, g_35⟩ := hr_31
                      refine va_mmin hx hb (hml.trans hl.1.symm) hown (hts (.methodLink RX5 110 Lib.Math.min.name) (List.mem_of_getElem? (i := 4) rfl)) (hts _ (List.mem_of_getElem? (i := 5) rfl)) (hts _ (List.mem_of_getElem? (i := 6) rfl)) (hts _ (List.mem_of_getElem? (i := 7) rfl)) (Nat.le_of_ble_eq_true rfl) (Nat.le_of_ble_eq_true rfl) (Nat.le_of_ble_eq_true rfl) (Nat.le_of_ble_eq_true rfl) dX5_least_124 ?_
                      refine lv_topi (fun x_36 ex_36 => ?_)
                      have qx_36 := zf_min ex_36 (x1 := v_15.toInt) (y1 := r_31.toInt) rfl rfl
                      refine lv_istore (lv' := [(6, .int x_36), (8, .ref u_28), (7, .int i_85), (5, .int x_9), (4, .int 0), (0, .ref w0), (1, .int 4), (2, .int d), (3, .int sec)]) hx hb dX5_least_127 hl (by decide) rfl (fun ls hl => ?_)
                      obtain ⟨x_37, ex_37⟩ : ∃ y : Int32, y = i_85 + 1 := ⟨_, rfl⟩
                      have qx_37 : x_37.toInt = i_85.toInt + 1 := dw_inc ex_37 fc_18
                      refine lv_iinc (v := x_37) (lv' := [(7, .int x_37), (6, .int x_36), (8, .ref u_28), (5, .int x_9), (4, .int 0), (0, .ref w0), (1, .int 4), (2, .int d), (3, .int sec)]) hx hb dX5_least_129 hl (k := 2) rfl ex_37.symm (by decide) rfl (fun ls hl => ?_)
                      refine lv_goto (tgt := 85) hx hb dX5_least_132 (by decide) ?_
                      exact ih x_37 x_36 (q_33) _ _ _ (hP.sub [0, 1, 2, 3] rfl) (hD.sub [0, 1, 2, 3] (by decide) rfl) hS (lv_sub hl [0, 1, 3, 4, 5, 6, 7, 8] rfl) ⟨by omega, by omega⟩ (show zKn kq aq tq wn.toInt.toNat wh.toInt (fc 0).toInt (fc 1).toInt (fc 2).toInt wg.toInt q_33 from by exact hsr_31_0) (show (x_36 : Int32).toInt = zFi tq d.toInt sec.toInt (zPw 4 * zAt (fc 1).toInt (fc 2).toInt sec.toInt) (zLv (zLn kq aq tq wn.toInt.toNat wh.toInt (fc 0).toInt (fc 1).toInt (fc 2).toInt 3) kq aq tq (fc 0).toInt (zPw 4) wh.toInt d.toInt sec.toInt) x_37.toInt.toNat from by (have hx : x_37.toInt.toNat = i_85.toInt.toNat + 1 := (by omega); obtain ⟨⟨y1, y2, y3⟩, y4⟩ := hkku_28; have y9 : i_85.toNatClampNeg = i_85.toInt.toNat := rfl; rw [y9] at y1 y2 y3 y4; rw [hx, zFi_y ⟨y4.1, y4.2.1⟩, ← hvi_85_1]; have zr := hsr_31_1; rw [y1, y2, y3] at zr; have zr2 : r_31.toInt = (zLv (zLn kq aq tq wn.toInt.toNat wh.toInt (fc 0).toInt (fc 1).toInt (fc 2).toInt 3) kq aq tq (fc 0).toInt (zPw 4) wh.toInt d.toInt sec.toInt) i_85.toInt.toNat := zr; omega)) (show x_37.toInt ≤ wn.toInt from by omega) (dw_lo hloi_85 qx_37) (dw_hn hni_85 qx_37)
            · exact absurd c_10 (by decide)
          · have fc_7 : x_6.toInt ≤ sec.toInt := zf_nlt c_7 rfl rfl
            refine lv_iconst (v := 1) hx hb dX5_least_35 (by decide) ?_
            refine lv_goto (tgt := 40) hx hb dX5_least_36 (by decide) ?_
            refine lv_istore (lv' := [(4, .int 1), (0, .ref w0), (1, .int 4), (2, .int d), (3, .int sec)]) hx hb dX5_least_40 hl (by decide) rfl (fun ls hl => ?_)
            refine lv_iload_n hx hb dX5_least_42 rfl (lv_at hl 2 rfl) ?_
            refine lv_bipush (v := 25) hx hb dX5_least_43 (by decide) ?_
            refine lv_imul hx hb dX5_least_45 ?_
            refine lv_topi (fun y_38 ey_38 => ?_)
            obtain rfl : y_38 = 100 := ey_38.trans (by decide)
            refine lv_iload_n hx hb dX5_least_46 rfl (lv_at hl 3 rfl) ?_
            refine lv_iadd hx hb dX5_least_47 ?_
            refine lv_topi (fun x_39 ex_39 => ?_)
            have qx_39 : x_39.toInt = 100 + d.toInt := by rw [ex_39]; exact zf_add (by decide) rfl (by omega) (by omega)
            refine lv_istore (lv' := [(5, .int x_39), (4, .int 1), (0, .ref w0), (1, .int 4), (2, .int d), (3, .int sec)]) hx hb dX5_least_48 hl (by decide) rfl (fun ls hl => ?_)
            refine lv_iload hx hb dX5_least_50 (lv_at hl 1 rfl) ?_
            refine lv_if_eq (tgt := 74) hx hb dX5_least_52 (by decide) (fun c_40 => ?_) (fun c_40 => ?_)
            · exact absurd c_40 (by decide)
            · refine lv_aload_n hx hb dX5_least_55 rfl (lv_at hl 2 rfl) ?_
              refine va_get (D := D) (ci := 5) (v := .ref wl) (C := RX5) (T := TX5) (N := 7) hx hb hts hi_X5_least_5 hown hK hP 0 rfl rfl 1 (by decide) (hts (.fieldLink RX5 15 "TheLiningsInIt$Ways" "knownLeast" "[I") (List.mem_of_getElem? (i := 2) rfl)) (fun _ h9 => h9) rfl dX5_least_56 ?_
              refine lv_iload hx hb dX5_least_59 (lv_at hl 0 rfl) ?_
              refine va_iald hx hb hK hP 1 0 rfl rfl (zf_in (by omega) (by omega)) dX5_least_61 ?_
              refine lv_topi (fun x_41 ex_41 => ?_)
              refine lv_iconst (v := (-1)) hx hb dX5_least_62 (by decide) ?_
              refine lv_icmp_eq (tgt := 74) hx hb dX5_least_63 (by decide) (fun c_42 => ?_) (fun c_42 => ?_)
              · have fc_42 : x_41.toInt = (-1) := zf_eq c_42 rfl (by decide)
                refine lv_aload_n hx hb dX5_least_74 rfl (lv_at hl 2 rfl) ?_
                refine lv_iload_n hx hb dX5_least_75 rfl (lv_at hl 3 rfl) ?_
                refine lv_iload_n hx hb dX5_least_76 rfl (lv_at hl 5 rfl) ?_
                refine zc_V (As := [.int 4, .int sec]) (rest := []) ⟨hx, hb, hml, hown, hts⟩ (c_F_W_leastAtOnce_4 l D cI cJ cZ cP cS po w0 wk wl wc wp (wn) (wh) (wg) fc (sec) hy0 hy1 hy2 hy3 hy4 hy5 hy12 hy13 hp_fc) (cwV 2 hts gX5_least_X5_leastAtOnce rfl rfl rfl ⟨rfl, dh_X5_leastAtOnce⟩ ⟨Nat.le_of_ble_eq_true rfl, Nat.le_of_ble_eq_true rfl⟩) hK hN (hZ.kept hS) hP (hP.sub [0, 2] rfl) (va_recv (q := (RX5, TX5, 7)) hK hP (ci := 5) (q0 := 0) rfl rfl) rfl hl.1 rfl (Nat.le_of_ble_eq_true rfl) dX5_least_77 ⟨Nat.le_of_ble_eq_true rfl, Nat.le_of_ble_eq_true rfl⟩ (fun r_43 hr_43 => ?_)
                obtain ⟨g_44, g_45, hsr_43_0⟩ := hr_43
                refine lv_istore (lv' := [(6, .int r_43), (5, .int x_39), (4, .int 1), (0, .ref w0), (1, .int 4), (2, .int d), (3, .int sec)]) hx hb dX5_least_80 hl (by decide) rfl (fun ls hl => ?_)
                refine lv_iconst (v := 0) hx hb dX5_least_82 (by decide) ?_
                refine lv_istore (lv' := [(7, .int 0), (6, .int r_43), (5, .int x_39), (4, .int 1), (0, .ref w0), (1, .int 4), (2, .int d), (3, .int sec)]) hx hb dX5_least_83 hl (by decide) rfl (fun ls hl => ?_)
                obtain ⟨i_85, hi_85⟩ : ∃ i : Int32, i = 0 := ⟨_, rfl⟩
                replace hl : lv_has ls 9 [(7, .int i_85), (6, .int r_43), (5, .int x_39), (4, .int 1), (0, .ref w0), (1, .int 4), (2, .int d), (3, .int sec)] := by rw [hi_85]; exact lv_sub hl [0, 1, 2, 3, 4, 5, 6, 7] rfl
                have h1i_85 : i_85.toInt = 0 := by rw [hi_85]; decide
                obtain ⟨nfu, hni_85⟩ : ∃ nq9 : Nat, wn.toInt ≤ i_85.toInt + (nq9 : Int) := ⟨((wn.toInt : Int) - 0).toNat, by omega⟩
                have hloi_85 : 0 ≤ i_85.toInt := by omega
                obtain ⟨g_46, hg_46⟩ : ∃ g : Nat → Int32, g = fl := ⟨_, rfl⟩
                replace hP : va_P D vwCl [(w0, .inr (5, [.ref wk, .ref wl, .ref wc, .ref wp, .int wn, .int wh, .int wg])), (wl, .inl (cI, 125, .inl g_46)), (wc, .inl (cI, 3, .inl fc)), (wp, .inl (cP, 8, .inr (.inr (.inr (.inr fq)))))] H := by rw [hg_46]; exact hP
                replace hD : va_D (va_A [(w0, .inr (5, [.ref wk, .ref wl, .ref wc, .ref wp, .int wn, .int wh, .int wg])), (wl, .inl (cI, 125, .inl fl)), (wc, .inl (cI, 3, .inl fc)), (wp, .inl (cP, 8, .inr (.inr (.inr (.inr fq)))))] s.heap.size) [(w0, .inr (5, [.ref wk, .ref wl, .ref wc, .ref wp, .int wn, .int wh, .int wg])), (wl, .inl (cI, 125, .inl g_46)), (wc, .inl (cI, 3, .inl fc)), (wp, .inl (cP, 8, .inr (.inr (.inr (.inr fq)))))] := by rw [hg_46]; exact hD
                obtain ⟨v_47, hv_47⟩ : ∃ g : Int32, g = r_43 := ⟨_, rfl⟩
                replace hl : lv_has ls 9 [(7, .int i_85), (6, .int v_47), (5, .int x_39), (4, .int 1), (0, .ref w0), (1, .int 4), (2, .int d), (3, .int sec)] := by rw [hv_47]; exact hl
                have hbv_47 : 0 ≤ v_47.toInt ∧ v_47.toInt ≤ 2052864 := by rw [hv_47]; exact ⟨by omega, by omega⟩
                have hvi_85_0 : zKn kq aq tq wn.toInt.toNat wh.toInt (fc 0).toInt (fc 1).toInt (fc 2).toInt wg.toInt g_46 := by
                  (try rw [hi_85]); (try rw [hg_46]); (try rw [hv_47]); exact hkn
                have hvi_85_1 : (v_47 : Int32).toInt = zFi tq d.toInt sec.toInt (zPw 4 * zAt (fc 1).toInt (fc 2).toInt sec.toInt) (zLv (zLn kq aq tq wn.toInt.toNat wh.toInt (fc 0).toInt (fc 1).toInt (fc 2).toInt 3) kq aq tq (fc 0).toInt (zPw 4) wh.toInt d.toInt sec.toInt) i_85.toInt.toNat := by
                  (try rw [hi_85]); (try rw [hg_46]); (try rw [hv_47]); (rw [(show ((0 : Int32).toInt.toNat) = 0 from by decide)]; exact hsr_43_0)
                have hvi_85_2 : i_85.toInt ≤ wn.toInt := by
                  (try rw [hi_85]); (try rw [hg_46]); (try rw [hv_47]); (have k0 : (0 : Int32).toInt = 0 := (by decide); omega)
                clear h1i_85 hi_85 hg_46 hv_47
                skip
                revert hni_85
                revert hloi_85
                revert hvi_85_2
                revert hvi_85_1
                revert hvi_85_0
                revert hbv_47
                revert hl
                revert hS
                revert hD
                revert hP
                revert ls
                revert locs
                revert H
                revert g_46
                revert v_47
                revert i_85
                induction nfu with
                | zero =>
                  intro i_85 v_47 g_46 H locs ls hP hD hS hl hbv_47 hvi_85_0 hvi_85_1 hvi_85_2 hloi_85 hni_85
                  have hzi_85 : wn.toInt ≤ i_85.toInt := by omega
                  refine lv_iload hx hb dX5_least_85 (lv_at hl 0 rfl) ?_
                  refine lv_aload_n hx hb dX5_least_87 rfl (lv_at hl 4 rfl) ?_
                  refine va_get (D := D) (ci := 5) (v := .int wn) (C := RX5) (T := TX5) (N := 7) hx hb hts hi_X5_least_5 hown hK hP 0 rfl rfl 4 (by decide) (hts (.fieldLink RX5 27 "TheLiningsInIt$Ways" "count" "I") (List.mem_of_getElem? (i := 3) rfl)) (fun _ h9 => h9) rfl dX5_least_88 ?_
                  refine lv_icmp_ge (tgt := 135) hx hb dX5_least_91 (by decide) (fun c_48 => ?_) (fun c_48 => ?_)
                  · have fc_48 : wn.toInt ≤ i_85.toInt := zf_le c_48 rfl rfl
                    refine lv_iload hx hb dX5_least_135 (lv_at hl 3 rfl) ?_
                    refine lv_if_eq (tgt := 149) hx hb dX5_least_137 (by decide) (fun c_49 => ?_) (fun c_49 => ?_)
                    · exact absurd c_49 (by decide)
                    · refine lv_aload_n hx hb dX5_least_140 rfl (lv_at hl 4 rfl) ?_
                      refine va_get (D := D) (ci := 5) (v := .ref wl) (C := RX5) (T := TX5) (N := 7) hx hb hts hi_X5_least_5 hown hK hP 0 rfl rfl 1 (by decide) (hts (.fieldLink RX5 15 "TheLiningsInIt$Ways" "knownLeast" "[I") (List.mem_of_getElem? (i := 2) rfl)) (fun _ h9 => h9) rfl dX5_least_141 ?_
                      refine lv_iload hx hb dX5_least_144 (lv_at hl 2 rfl) ?_
                      refine lv_iload hx hb dX5_least_146 (lv_at hl 1 rfl) ?_
                      refine va_iast hx hb hK hP hD hS 1 0 rfl rfl (zf_in (by omega) (by omega)) dX5_least_148 (fun H locs hP hD hS => ?_)
                      obtain ⟨g_50, hg_50⟩ : ∃ g : Nat → Int32, g = upd g_46 x_39.toNatClampNeg v_47 := ⟨_, rfl⟩
                      rw [← hg_50] at hP hD
                      have h9R := zRe (ws' := [(w0, .inr (5, [.ref wk, .ref wl, .ref wc, .ref wp, .int wn, .int wh, .int wg])), (wl, .inl (cI, 125, .inl g_50)), (wc, .inl (cI, 3, .inl fc)), (wp, .inl (cP, 8, .inr (.inr (.inr (.inr fq)))))]) hP hD rfl
                      clear hP hD
                      obtain ⟨hP, hD⟩ := h9R
                      refine lv_iload hx hb dX5_least_149 (lv_at hl 1 rfl) ?_
                      exact W.iret (v := v_47) hx hb hr (fun t ht hW => ⟨⟨v_47, g_50, rfl, ⟨(show zKn kq aq tq wn.toInt.toNat wh.toInt (fc 0).toInt (fc 1).toInt (fc 2).toInt wg.toInt g_50 from by (rw [hg_50]; exact zKn_u (m := 4) (d := d) (s := sec) hvi_85_0 (by omega) hgl (by omega) ⟨by omega, by omega⟩ (by omega) (by have h9 : i_85.toInt.toNat = wn.toInt.toNat := (by omega); have z := hvi_85_1; rw [h9] at z; rw [zLn_s, if_neg (by omega)]; exact z))), (show (v_47 : Int32).toInt = (zLn kq aq tq wn.toInt.toNat wh.toInt (fc 0).toInt (fc 1).toInt (fc 2).toInt 4) d.toInt sec.toInt from by (have h9 : i_85.toInt.toNat = wn.toInt.toNat := (by omega); have z := hvi_85_1; rw [h9] at z; rw [zLn_s, if_neg (by omega)]; exact z)), ⟨by omega, by omega⟩⟩, zRet ht hP hD [0, 1, 2, 3] (by decide) rfl⟩, hS.F ht⟩) hS.2.2 dX5_least_151
                  · exfalso; have fc_48 : i_85.toInt < wn.toInt := zf_nle c_48 rfl rfl; omega
                | succ nfu ih =>
                  intro i_85 v_47 g_46 H locs ls hP hD hS hl hbv_47 hvi_85_0 hvi_85_1 hvi_85_2 hloi_85 hni_85
                  refine lv_iload hx hb dX5_least_85 (lv_at hl 0 rfl) ?_
                  refine lv_aload_n hx hb dX5_least_87 rfl (lv_at hl 4 rfl) ?_
                  refine va_get (D := D) (ci := 5) (v := .int wn) (C := RX5) (T := TX5) (N := 7) hx hb hts hi_X5_least_5 hown hK hP 0 rfl rfl 4 (by decide) (hts (.fieldLink RX5 27 "TheLiningsInIt$Ways" "count" "I") (List.mem_of_getElem? (i := 3) rfl)) (fun _ h9 => h9) rfl dX5_least_88 ?_
                  refine lv_icmp_ge (tgt := 135) hx hb dX5_least_91 (by decide) (fun c_51 => ?_) (fun c_51 => ?_)
                  · have fc_51 : wn.toInt ≤ i_85.toInt := zf_le c_51 rfl rfl
                    refine lv_iload hx hb dX5_least_135 (lv_at hl 3 rfl) ?_
                    refine lv_if_eq (tgt := 149) hx hb dX5_least_137 (by decide) (fun c_52 => ?_) (fun c_52 => ?_)
                    · exact absurd c_52 (by decide)
                    · refine lv_aload_n hx hb dX5_least_140 rfl (lv_at hl 4 rfl) ?_
                      refine va_get (D := D) (ci := 5) (v := .ref wl) (C := RX5) (T := TX5) (N := 7) hx hb hts hi_X5_least_5 hown hK hP 0 rfl rfl 1 (by decide) (hts (.fieldLink RX5 15 "TheLiningsInIt$Ways" "knownLeast" "[I") (List.mem_of_getElem? (i := 2) rfl)) (fun _ h9 => h9) rfl dX5_least_141 ?_
                      refine lv_iload hx hb dX5_least_144 (lv_at hl 2 rfl) ?_
                      refine lv_iload hx hb dX5_least_146 (lv_at hl 1 rfl) ?_
                      refine va_iast hx hb hK hP hD hS 1 0 rfl rfl (zf_in (by omega) (by omega)) dX5_least_148 (fun H locs hP hD hS => ?_)
                      obtain ⟨g_53, hg_53⟩ : ∃ g : Nat → Int32, g = upd g_46 x_39.toNatClampNeg v_47 := ⟨_, rfl⟩
                      rw [← hg_53] at hP hD
                      have h9R := zRe (ws' := [(w0, .inr (5, [.ref wk, .ref wl, .ref wc, .ref wp, .int wn, .int wh, .int wg])), (wl, .inl (cI, 125, .inl g_53)), (wc, .inl (cI, 3, .inl fc)), (wp, .inl (cP, 8, .inr (.inr (.inr (.inr fq)))))]) hP hD rfl
                      clear hP hD
                      obtain ⟨hP, hD⟩ := h9R
                      refine lv_iload hx hb dX5_least_149 (lv_at hl 1 rfl) ?_
                      exact W.iret (v := v_47) hx hb hr (fun t ht hW => ⟨⟨v_47, g_53, rfl, ⟨(show zKn kq aq tq wn.toInt.toNat wh.toInt (fc 0).toInt (fc 1).toInt (fc 2).toInt wg.toInt g_53 from by (rw [hg_53]; exact zKn_u (m := 4) (d := d) (s := sec) hvi_85_0 (by omega) hgl (by omega) ⟨by omega, by omega⟩ (by omega) (by have h9 : i_85.toInt.toNat = wn.toInt.toNat := (by omega); have z := hvi_85_1; rw [h9] at z; rw [zLn_s, if_neg (by omega)]; exact z))), (show (v_47 : Int32).toInt = (zLn kq aq tq wn.toInt.toNat wh.toInt (fc 0).toInt (fc 1).toInt (fc 2).toInt 4) d.toInt sec.toInt from by (have h9 : i_85.toInt.toNat = wn.toInt.toNat := (by omega); have z := hvi_85_1; rw [h9] at z; rw [zLn_s, if_neg (by omega)]; exact z)), ⟨by omega, by omega⟩⟩, zRet ht hP hD [0, 1, 2, 3] (by decide) rfl⟩, hS.F ht⟩) hS.2.2 dX5_least_151
                  · have fc_51 : i_85.toInt < wn.toInt := zf_nle c_51 rfl rfl
                    refine lv_iload_n hx hb dX5_least_94 rfl (lv_at hl 5 rfl) ?_
                    refine lv_if_le (tgt := 135) hx hb dX5_least_95 (by decide) (fun c_54 => ?_) (fun c_54 => ?_)
                    · exact absurd c_54 (by decide)
                    · refine lv_aload_n hx hb dX5_least_98 rfl (lv_at hl 4 rfl) ?_
                      refine lv_iload hx hb dX5_least_99 (lv_at hl 0 rfl) ?_
                      refine lv_iload_n hx hb dX5_least_101 rfl (lv_at hl 6 rfl) ?_
                      refine lv_iload_n hx hb dX5_least_102 rfl (lv_at hl 7 rfl) ?_
                      refine zc_Vq (As := [.int i_85, .int d, .int sec]) (rest := []) ⟨hx, hb, hml, hown, hts⟩ (c_F_W_mayBeAt l D cI cJ cZ cP cS po w0 wk wl wc wp (wn) (wh) (wg) fq kq aq tq (tw) (i_85) (d) (sec) hy0 hy1 hy2 hy3 hy4 hy5 hjw (by omega) (by omega) (by omega) hy12 hy13) (cwV 3 hts gX5_least_X5_mayBeAt rfl rfl rfl ⟨rfl, dh_X5_mayBeAt⟩ ⟨Nat.le_of_ble_eq_true rfl, Nat.le_of_ble_eq_true rfl⟩) hK hN (hZ.kept hS) hP (hP.sub [0, 3] rfl) (va_recv (q := (RX5, TX5, 7)) hK hP (ci := 5) (q0 := 0) rfl rfl) rfl hl.1 rfl (Nat.le_of_ble_eq_true rfl) dX5_least_103 ⟨Nat.le_of_ble_eq_true rfl, Nat.le_of_ble_eq_true rfl⟩ (fun r_55 hr_55 => ?_)
                      rcases hr_55 with ⟨rfl, hn_56⟩ | ⟨rfl, hn_58, g_57⟩ | ⟨rfl, hn_60, g_59⟩ | ⟨⟨u_62, kiu_62, au_62, tu_62, rfl, huu_62, hkku_62⟩, g_61⟩
                      · refine lv_astoreN (lv' := [(8, .null), (7, .int i_85), (6, .int v_47), (5, .int x_39), (4, .int 1), (0, .ref w0), (1, .int 4), (2, .int d), (3, .int sec)]) hx hb dX5_least_106 hl (by decide) rfl (fun ls hl => ?_)
                        refine lv_aloadN hx hb dX5_least_108 (lv_at hl 0 rfl) ?_
                        refine lv_ifnullN (tgt := 129) hx hb dX5_least_110 (by decide) ?_
                        obtain ⟨x_63, ex_63⟩ : ∃ y : Int32, y = i_85 + 1 := ⟨_, rfl⟩
                        have qx_63 : x_63.toInt = i_85.toInt + 1 := dw_inc ex_63 fc_51
                        refine lv_iinc (v := x_63) (lv' := [(7, .int x_63), (8, .null), (6, .int v_47), (5, .int x_39), (4, .int 1), (0, .ref w0), (1, .int 4), (2, .int d), (3, .int sec)]) hx hb dX5_least_129 hl (k := 1) rfl ex_63.symm (by decide) rfl (fun ls hl => ?_)
                        refine lv_goto (tgt := 85) hx hb dX5_least_132 (by decide) ?_
                        exact ih x_63 v_47 (g_46) _ _ _ (hP.sub [0, 1, 2, 3] rfl) (hD.sub [0, 1, 2, 3] (by decide) rfl) hS (lv_sub hl [0, 2, 3, 4, 5, 6, 7, 8] rfl) hbv_47 (show zKn kq aq tq wn.toInt.toNat wh.toInt (fc 0).toInt (fc 1).toInt (fc 2).toInt wg.toInt g_46 from by exact hvi_85_0) (show (v_47 : Int32).toInt = zFi tq d.toInt sec.toInt (zPw 4 * zAt (fc 1).toInt (fc 2).toInt sec.toInt) (zLv (zLn kq aq tq wn.toInt.toNat wh.toInt (fc 0).toInt (fc 1).toInt (fc 2).toInt 3) kq aq tq (fc 0).toInt (zPw 4) wh.toInt d.toInt sec.toInt) x_63.toInt.toNat from by (have hx : x_63.toInt.toNat = i_85.toInt.toNat + 1 := (by omega); have y4 := hn_56; have y9 : i_85.toNatClampNeg = i_85.toInt.toNat := rfl; rw [y9] at y4; rw [hx, zFi_n (fun z => y4 ⟨z.1, z.2, Or.inl (by omega)⟩)]; exact hvi_85_1)) (show x_63.toInt ≤ wn.toInt from by omega) (dw_lo hloi_85 qx_63) (dw_hn hni_85 qx_63)
                      · exfalso; omega
                      · refine lv_astoreN (lv' := [(8, .null), (7, .int i_85), (6, .int v_47), (5, .int x_39), (4, .int 1), (0, .ref w0), (1, .int 4), (2, .int d), (3, .int sec)]) hx hb dX5_least_106 hl (by decide) rfl (fun ls hl => ?_)
                        refine lv_aloadN hx hb dX5_least_108 (lv_at hl 0 rfl) ?_
                        refine lv_ifnullN (tgt := 129) hx hb dX5_least_110 (by decide) ?_
                        obtain ⟨x_64, ex_64⟩ : ∃ y : Int32, y = i_85 + 1 := ⟨_, rfl⟩
                        have qx_64 : x_64.toInt = i_85.toInt + 1 := dw_inc ex_64 fc_51
                        refine lv_iinc (v := x_64) (lv' := [(7, .int x_64), (8, .null), (6, .int v_47), (5, .int x_39), (4, .int 1), (0, .ref w0), (1, .int 4), (2, .int d), (3, .int sec)]) hx hb dX5_least_129 hl (k := 1) rfl ex_64.symm (by decide) rfl (fun ls hl => ?_)
                        refine lv_goto (tgt := 85) hx hb dX5_least_132 (by decide) ?_
                        exact ih x_64 v_47 (g_46) _ _ _ (hP.sub [0, 1, 2, 3] rfl) (hD.sub [0, 1, 2, 3] (by decide) rfl) hS (lv_sub hl [0, 2, 3, 4, 5, 6, 7, 8] rfl) hbv_47 (show zKn kq aq tq wn.toInt.toNat wh.toInt (fc 0).toInt (fc 1).toInt (fc 2).toInt wg.toInt g_46 from by exact hvi_85_0) (show (v_47 : Int32).toInt = zFi tq d.toInt sec.toInt (zPw 4 * zAt (fc 1).toInt (fc 2).toInt sec.toInt) (zLv (zLn kq aq tq wn.toInt.toNat wh.toInt (fc 0).toInt (fc 1).toInt (fc 2).toInt 3) kq aq tq (fc 0).toInt (zPw 4) wh.toInt d.toInt sec.toInt) x_64.toInt.toNat from by (have hx : x_64.toInt.toNat = i_85.toInt.toNat + 1 := (by omega); have y4 := hn_60; have y9 : i_85.toNatClampNeg = i_85.toInt.toNat := rfl; rw [y9] at y4; rw [hx, zFi_n (fun z => y4 ⟨z.1, z.2, Or.inl (by omega)⟩)]; exact hvi_85_1)) (show x_64.toInt ≤ wn.toInt from by omega) (dw_lo hloi_85 qx_64) (dw_hn hni_85 qx_64)
                      · refine W.eq (g2 := F0 m 106 ls (.ref u_62 :: [])) rfl ?_
                        obtain ⟨hku_62, hau_62, htu_62⟩ := zPu_pr (hZ.kept hS) huu_62
                        refine lv_astore (lv' := [(8, .ref u_62), (7, .int i_85), (6, .int v_47), (5, .int x_39), (4, .int 1), (0, .ref w0), (1, .int 4), (2, .int d), (3, .int sec)]) hx hb dX5_least_106 hl (by decide) rfl (fun ls hl => ?_)
                        refine lv_aload hx hb dX5_least_108 (lv_at hl 0 rfl) ?_
                        refine lv_ifnull hx hb dX5_least_110 ?_
                        refine lv_iload hx hb dX5_least_113 (lv_at hl 2 rfl) ?_
                        refine lv_aload_n hx hb dX5_least_115 rfl (lv_at hl 5 rfl) ?_
                        refine lv_aload hx hb dX5_least_116 (lv_at hl 0 rfl) ?_
                        refine lv_iload_n hx hb dX5_least_118 rfl (lv_at hl 6 rfl) ?_
                        refine lv_iload_n hx hb dX5_least_119 rfl (lv_at hl 7 rfl) ?_
                        refine lv_iload_n hx hb dX5_least_120 rfl (lv_at hl 8 rfl) ?_
                        have tsu_62 : tu_62.toInt ≤ sec.toInt := by (obtain ⟨⟨y1, y2, y3⟩, y4⟩ := hkku_62; have z := y4.2.1; rw [y3]; exact z)
                        skip
                        refine zw_V (As := [.ref u_62, .int 4, .int d, .int sec]) (rest := [.int v_47]) (wr := []) ⟨hx, hb, hml, hown, hts⟩ (c_F_W_leastBy_4 l D cI cJ cZ cP cS po w0 wk wl wc wp (wn) (wh) (wg) fq kq aq tq (tw) g_46 fc (d) (sec) u_62 (kiu_62) (au_62) (tu_62) huu_62 ⟨by omega, by omega, by omega, by omega⟩ hy0 hy1 hy2 hy3 hy4 hy5 hjw (by first | assumption | omega) (by first | assumption | omega) (by first | assumption | omega | decide) hy10 hy11 hy12 hy13 (by omega) hp_fc H.size) (cwV 4 hts gX5_least_X5_leastBy rfl rfl rfl ⟨rfl, dh_X5_leastBy⟩ ⟨Nat.le_of_ble_eq_true rfl, Nat.le_of_ble_eq_true rfl⟩) hK hN (hZ.kept hS) hP hD hS hA [0, 1, 2, 3] [] rfl rfl (by decide) (by decide) (by decide) (va_recv (q := (RX5, TX5, 7)) hK hP (ci := 5) (q0 := 0) rfl rfl) rfl hl.1 rfl (Nat.le_of_ble_eq_true rfl) dX5_least_121 ⟨Nat.le_of_ble_eq_true rfl, Nat.le_of_ble_eq_true rfl⟩ (fun r_65 u_66 H locs hr_65 hP hD hS => ?_)
                        obtain ⟨q_67, rfl⟩ : ∃ z, z = u_66 := ⟨_, rfl⟩
                        obtain ⟨hsr_65_0, hsr_65_1, hr_65⟩ := hr_65
                        have h9R := zRe (ws' := [(w0, .inr (5, [.ref wk, .ref wl, .ref wc, .ref wp, .int wn, .int wh, .int wg])), (wl, .inl (cI, 125, .inl q_67)), (wc, .inl (cI, 3, .inl fc)), (wp, .inl (cP, 8, .inr (.inr (.inr (.inr fq)))))]) hP hD rfl
                        clear hP hD
                        obtain ⟨hP, hD⟩ := h9R
                        obtain ⟨g_68, g_69⟩ := hr_65
                        refine va_mmin hx hb (hml.trans hl.1.symm) hown (hts (.methodLink RX5 110 Lib.Math.min.name) (List.mem_of_getElem? (i := 4) rfl)) (hts _ (List.mem_of_getElem? (i := 5) rfl)) (hts _ (List.mem_of_getElem? (i := 6) rfl)) (hts _ (List.mem_of_getElem? (i := 7) rfl)) (Nat.le_of_ble_eq_true rfl) (Nat.le_of_ble_eq_true rfl) (Nat.le_of_ble_eq_true rfl) (Nat.le_of_ble_eq_true rfl) dX5_least_124 ?_
                        refine lv_topi (fun x_70 ex_70 => ?_)
                        have qx_70 := zf_min ex_70 (x1 := v_47.toInt) (y1 := r_65.toInt) rfl rfl
                        refine lv_istore (lv' := [(6, .int x_70), (8, .ref u_62), (7, .int i_85), (5, .int x_39), (4, .int 1), (0, .ref w0), (1, .int 4), (2, .int d), (3, .int sec)]) hx hb dX5_least_127 hl (by decide) rfl (fun ls hl => ?_)
                        obtain ⟨x_71, ex_71⟩ : ∃ y : Int32, y = i_85 + 1 := ⟨_, rfl⟩
                        have qx_71 : x_71.toInt = i_85.toInt + 1 := dw_inc ex_71 fc_51
                        refine lv_iinc (v := x_71) (lv' := [(7, .int x_71), (6, .int x_70), (8, .ref u_62), (5, .int x_39), (4, .int 1), (0, .ref w0), (1, .int 4), (2, .int d), (3, .int sec)]) hx hb dX5_least_129 hl (k := 2) rfl ex_71.symm (by decide) rfl (fun ls hl => ?_)
                        refine lv_goto (tgt := 85) hx hb dX5_least_132 (by decide) ?_
                        exact ih x_71 x_70 (q_67) _ _ _ (hP.sub [0, 1, 2, 3] rfl) (hD.sub [0, 1, 2, 3] (by decide) rfl) hS (lv_sub hl [0, 1, 3, 4, 5, 6, 7, 8] rfl) ⟨by omega, by omega⟩ (show zKn kq aq tq wn.toInt.toNat wh.toInt (fc 0).toInt (fc 1).toInt (fc 2).toInt wg.toInt q_67 from by exact hsr_65_0) (show (x_70 : Int32).toInt = zFi tq d.toInt sec.toInt (zPw 4 * zAt (fc 1).toInt (fc 2).toInt sec.toInt) (zLv (zLn kq aq tq wn.toInt.toNat wh.toInt (fc 0).toInt (fc 1).toInt (fc 2).toInt 3) kq aq tq (fc 0).toInt (zPw 4) wh.toInt d.toInt sec.toInt) x_71.toInt.toNat from by (have hx : x_71.toInt.toNat = i_85.toInt.toNat + 1 := (by omega); obtain ⟨⟨y1, y2, y3⟩, y4⟩ := hkku_62; have y9 : i_85.toNatClampNeg = i_85.toInt.toNat := rfl; rw [y9] at y1 y2 y3 y4; rw [hx, zFi_y ⟨y4.1, y4.2.1⟩, ← hvi_85_1]; have zr := hsr_65_1; rw [y1, y2, y3] at zr; have zr2 : r_65.toInt = (zLv (zLn kq aq tq wn.toInt.toNat wh.toInt (fc 0).toInt (fc 1).toInt (fc 2).toInt 3) kq aq tq (fc 0).toInt (zPw 4) wh.toInt d.toInt sec.toInt) i_85.toInt.toNat := zr; omega)) (show x_71.toInt ≤ wn.toInt from by omega) (dw_lo hloi_85 qx_71) (dw_hn hni_85 qx_71)
              · have fc_42 : x_41.toInt ≠ (-1) := zf_ne c_42 rfl (by decide)
                refine lv_aload_n hx hb dX5_least_66 rfl (lv_at hl 2 rfl) ?_
                refine va_get (D := D) (ci := 5) (v := .ref wl) (C := RX5) (T := TX5) (N := 7) hx hb hts hi_X5_least_5 hown hK hP 0 rfl rfl 1 (by decide) (hts (.fieldLink RX5 15 "TheLiningsInIt$Ways" "knownLeast" "[I") (List.mem_of_getElem? (i := 2) rfl)) (fun _ h9 => h9) rfl dX5_least_67 ?_
                refine lv_iload hx hb dX5_least_70 (lv_at hl 0 rfl) ?_
                refine va_iald hx hb hK hP 1 0 rfl rfl (zf_in (by omega) (by omega)) dX5_least_72 ?_
                refine lv_topi (fun y_72 ey_72 => ?_)
                obtain rfl : x_41 = y_72 := ex_41.trans ey_72.symm
                have hmx_41 : x_41.toInt = (zLn kq aq tq wn.toInt.toNat wh.toInt (fc 0).toInt (fc 1).toInt (fc 2).toInt 4) d.toInt sec.toInt := by (have zn : (fl x_39.toNatClampNeg).toInt ≠ -1 := (by rw [← ex_41]; omega); rw [ex_41]; exact zKn_at (m := 4) hkn (by decide) (by omega) ⟨by omega, by omega⟩ (by omega) zn)
                have hrx_41 := zLn_rg (K := kq) (A := aq) (T := tq) (N := wn.toInt.toNat) (h := wh.toInt) (hp_fc 0) (hp_fc 1) (hp_fc 2) 4 d.toInt sec.toInt
                rw [← hmx_41, show zPw 4 = 20736 from by decide] at hrx_41
                exact W.iret (v := x_41) hx hb hr (fun t ht hW => ⟨⟨x_41, fl, rfl, ⟨(show zKn kq aq tq wn.toInt.toNat wh.toInt (fc 0).toInt (fc 1).toInt (fc 2).toInt wg.toInt fl from by exact hkn), (show (x_41 : Int32).toInt = (zLn kq aq tq wn.toInt.toNat wh.toInt (fc 0).toInt (fc 1).toInt (fc 2).toInt 4) d.toInt sec.toInt from by exact hmx_41), ⟨by omega, by omega⟩⟩, zRet ht hP hD [0, 1, 2, 3] (by decide) rfl⟩, hS.F ht⟩) hS.2.2 dX5_least_73
        · exfalso; have fc_4 : 24 < d.toInt := zf_nle c_4 rfl (by decide); omega
end
section
set_option maxHeartbeats 4000000 in
set_option maxRecDepth 100000 in
theorem c_F_W_first_0 (l : Launch) (D : va_G) (cI cJ cZ cP cS : ClassId) (po : zPool) (w0 wk wl wc wp : Nat) (wn wh wg : Int32) (fq : Nat → Option Nat) (kq aq tq : Nat → Int32) (tw : Int32) (fl fc : Nat → Int32) (d sec : Int32) (hy0 : 0 ≤ wn.toInt) (hy1 : wn.toInt ≤ 8) (hy2 : 0 ≤ wh.toInt) (hy3 : wh.toInt ≤ 9) (hy4 : 0 ≤ wg.toInt) (hy5 : wg.toInt ≤ 60) (hjw : zJW po fq wn kq aq tq tw) (hkn : zKn kq aq tq wn.toInt.toNat wh.toInt (fc 0).toInt (fc 1).toInt (fc 2).toInt wg.toInt fl) (hgl : (∀ p : Nat, p < wn.toInt.toNat → (tq p).toInt ≤ wg.toInt)) (htw : tw.toInt = 1) (hy10 : 0 ≤ d.toInt) (hy11 : d.toInt ≤ 24) (hy12 : 0 ≤ sec.toInt) (hy13 : sec.toInt ≤ 300) (hp_fc : zRg fc (0) 99) (hpz : Nat) : Met l yX5_first wsX5_first ({ frames := 3, cells := 0, slots := 0, locals := 71 }) (va_Pc [.ref w0, .int 0, .int d, .int sec] (zW D (zKT cI cJ cZ cP cS) po [(w0, .inr (5, [.ref wk, .ref wl, .ref wc, .ref wp, .int wn, .int wh, .int wg])), (wl, .inl (cI, 125, .inl fl)), (wc, .inl (cI, 3, .inl fc)), (wp, .inl (cP, 8, .inr (.inr (.inr (.inr fq)))))] hpz)) (va_Qi (fun (r : Int32) (fl2 : (Nat → Int32)) => (zKn kq aq tq wn.toInt.toNat wh.toInt (fc 0).toInt (fc 1).toInt (fc 2).toInt wg.toInt fl2) ∧ (r.toInt = (if d.toInt = 0 then -1 else (if (30 ≤ sec.toInt ∧ (fc 1).toInt ≤ (fc 2).toInt) then 101 else 100))) ∧ (-1 ≤ r.toInt ∧ r.toInt ≤ 101)) (zB D [(w0, .inr (5, [.ref wk, .ref wl, .ref wc, .ref wp, .int wn, .int wh, .int wg])), (wl, .inl (cI, 125, .inl fl)), (wc, .inl (cI, 3, .inl fc)), (wp, .inl (cP, 8, .inr (.inr (.inr (.inr fq)))))] hpz (fun (fl2 : Nat → Int32) => [(w0, .inr (5, [.ref wk, .ref wl, .ref wc, .ref wp, .int wn, .int wh, .int wg])), (wl, .inl (cI, 125, .inl fl2)), (wc, .inl (cI, 3, .inl fc)), (wp, .inl (cP, 8, .inr (.inr (.inr (.inr fq)))))])) (va_A [(w0, .inr (5, [.ref wk, .ref wl, .ref wc, .ref wp, .int wn, .int wh, .int wg])), (wl, .inl (cI, 125, .inl fl)), (wc, .inl (cI, 3, .inl fc)), (wp, .inl (cP, 8, .inr (.inr (.inr (.inr fq)))))] hpz)) 0 0 (va_A [(w0, .inr (5, [.ref wk, .ref wl, .ref wc, .ref wp, .int wn, .int wh, .int wg])), (wl, .inl (cI, 125, .inl fl)), (wc, .inl (cI, 3, .inl fc)), (wp, .inl (cP, 8, .inr (.inr (.inr (.inr fq)))))] hpz) := by
  refine Met.ofW (cc := cX5_first) (maxL := 7) (ret := (some .int)) (by decide) rfl ?_
  intro p e s m args below meth c s₁ B hml hv
  obtain ⟨rfl, hsz, hP, hK, hD0, hN, hZ⟩ := hv
  have hx := B.exec
  have hb := B.bytes
  have hr := B.returns
  have hts := atoms_spec (ws := wsX5_first) B.pre
  have hown : s.vm.findClass RX5 = some m.cls := findClass_of_methodNamed B.named
  have hlocks := B.notSynchronized
  subst hsz
  have hD := hD0.self (sz := s.heap.size)
  have hA := zA_of hD
  have hl := lv_entry ([.ref w0, .int 0, .int d, .int sec]) (n := 7) (Nat.le_of_ble_eq_true rfl)
  rw [lg_entry_eq]
  generalize (lg_sl ([.ref w0, .int 0, .int d, .int sec]) ++ List.replicate (7 - (lg_sl ([.ref w0, .int 0, .int d, .int sec])).length) Slot.unset).toArray = ls at hl ⊢
  replace hl : lv_has ls 7 [(0, .ref w0), (1, .int 0), (2, .int d), (3, .int sec)] := hl
  refine zw_begin hP hD (fun H locs hP1 hS => ?_)
  clear hP
  have hP := hP1
  clear hP1
  refine lv_iload_n hx hb dX5_first_0 rfl (lv_at hl 2 rfl) ?_
  refine lv_if_ne (tgt := 6) hx hb dX5_first_1 (by decide) (fun c_1 => ?_) (fun c_1 => ?_)
  · have fc_1 : d.toInt ≠ 0 := zf_ne c_1 rfl (by decide)
    refine lv_aload_n hx hb dX5_first_6 rfl (lv_at hl 0 rfl) ?_
    refine lv_iload_n hx hb dX5_first_7 rfl (lv_at hl 1 rfl) ?_
    refine lv_iload_n hx hb dX5_first_8 rfl (lv_at hl 2 rfl) ?_
    refine lv_iload_n hx hb dX5_first_9 rfl (lv_at hl 3 rfl) ?_
    skip
    refine zw_V (As := [.int 0, .int d, .int sec]) (rest := []) (wr := []) ⟨hx, hb, hml, hown, hts⟩ (c_F_W_least_0 l D cI cJ cZ cP cS po w0 wk wl wc wp (wn) (wh) (wg) fq kq aq tq (tw) fl fc (d) (sec) hy0 hy1 hy2 hy3 hy4 hy5 hjw (by first | assumption | omega) (by first | assumption | omega) (by first | assumption | omega | decide) hy10 hy11 hy12 hy13 hp_fc H.size) (cwV 3 hts gX5_first_X5_least rfl rfl rfl ⟨rfl, dh_X5_least⟩ ⟨Nat.le_of_ble_eq_true rfl, Nat.le_of_ble_eq_true rfl⟩) hK hN (hZ.kept hS) hP hD hS hA [0, 1, 2, 3] [] rfl rfl (by decide) (by decide) (by decide) (va_recv (q := (RX5, TX5, 7)) hK hP (ci := 5) (q0 := 0) rfl rfl) rfl hl.1 rfl (Nat.le_of_ble_eq_true rfl) dX5_first_10 ⟨Nat.le_of_ble_eq_true rfl, Nat.le_of_ble_eq_true rfl⟩ (fun r_2 u_3 H locs hr_2 hP hD hS => ?_)
    obtain ⟨q_4, rfl⟩ : ∃ z, z = u_3 := ⟨_, rfl⟩
    obtain ⟨hsr_2_0, hsr_2_1, hr_2⟩ := hr_2
    have h9R := zRe (ws' := [(w0, .inr (5, [.ref wk, .ref wl, .ref wc, .ref wp, .int wn, .int wh, .int wg])), (wl, .inl (cI, 125, .inl q_4)), (wc, .inl (cI, 3, .inl fc)), (wp, .inl (cP, 8, .inr (.inr (.inr (.inr fq)))))]) hP hD rfl
    clear hP hD
    obtain ⟨hP, hD⟩ := h9R
    obtain ⟨g_5, g_6⟩ := hr_2
    refine lv_istore (lv' := [(4, .int r_2), (0, .ref w0), (1, .int 0), (2, .int d), (3, .int sec)]) hx hb dX5_first_13 hl (by decide) rfl (fun ls hl => ?_)
    refine lv_iconst (v := 0) hx hb dX5_first_15 (by decide) ?_
    refine lv_istore (lv' := [(5, .int 0), (4, .int r_2), (0, .ref w0), (1, .int 0), (2, .int d), (3, .int sec)]) hx hb dX5_first_16 hl (by decide) rfl (fun ls hl => ?_)
    refine lv_iload hx hb dX5_first_18 (lv_at hl 0 rfl) ?_
    refine lv_aload_n hx hb dX5_first_20 rfl (lv_at hl 2 rfl) ?_
    refine va_get (D := D) (ci := 5) (v := .int wn) (C := RX5) (T := TX5) (N := 7) hx hb hts hi_X5_first_5 hown hK hP 0 rfl rfl 4 (by decide) (hts (.fieldLink RX5 27 "TheLiningsInIt$Ways" "count" "I") (List.mem_of_getElem? (i := 1) rfl)) (fun _ h9 => h9) rfl dX5_first_21 ?_
    refine lv_icmp_ge (tgt := 69) hx hb dX5_first_24 (by decide) (fun c_7 => ?_) (fun c_7 => ?_)
    · have fc_7 : wn.toInt ≤ 0 := zf_le c_7 rfl (by decide)
      refine lv_aload_n hx hb dX5_first_69 rfl (lv_at hl 2 rfl) ?_
      refine lv_iload_n hx hb dX5_first_70 rfl (lv_at hl 5 rfl) ?_
      refine zc_V (As := [.int sec]) (rest := []) ⟨hx, hb, hml, hown, hts⟩ (c_F_W_headIsCheapest l D cI cJ cZ cP cS po w0 wk wl wc wp (wn) (wh) (wg) fc (sec) hy0 hy1 hy2 hy3 hy4 hy5 hy12 hy13 hp_fc) (cwV 1 hts gX5_first_X5_headIsCheapest rfl rfl rfl ⟨rfl, dh_X5_headIsCheapest⟩ ⟨Nat.le_of_ble_eq_true rfl, Nat.le_of_ble_eq_true rfl⟩) hK hN (hZ.kept hS) hP (hP.sub [0, 2] rfl) (va_recv (q := (RX5, TX5, 7)) hK hP (ci := 5) (q0 := 0) rfl rfl) rfl hl.1 rfl (Nat.le_of_ble_eq_true rfl) dX5_first_71 ⟨Nat.le_of_ble_eq_true rfl, Nat.le_of_ble_eq_true rfl⟩ (fun r_8 hr_8 => ?_)
      obtain ⟨g_9, g_10, hsr_8_0⟩ := hr_8
      refine lv_if_eq (tgt := 82) hx hb dX5_first_74 (by decide) (fun c_11 => ?_) (fun c_11 => ?_)
      · have fc_11 : r_8.toInt = 0 := zf_eq c_11 rfl (by decide)
        refine lv_bipush (v := 100) hx hb dX5_first_82 (by decide) ?_
        exact W.iret (v := 100) hx hb hr (fun t ht hW => ⟨⟨100, q_4, rfl, ⟨(show zKn kq aq tq wn.toInt.toNat wh.toInt (fc 0).toInt (fc 1).toInt (fc 2).toInt wg.toInt q_4 from by exact hsr_2_0), (show (100 : Int32).toInt = (if d.toInt = 0 then -1 else (if (30 ≤ sec.toInt ∧ (fc 1).toInt ≤ (fc 2).toInt) then 101 else 100)) from by (have k1 : (101 : Int32).toInt = 101 := (by decide); have k2 : (100 : Int32).toInt = 100 := (by decide); rw [if_neg (by omega)]; have zh := hsr_8_0; first | (rw [if_pos (zh.1 (by omega))]; omega) | (rw [if_neg (zh.2 (by omega))]; omega))), ⟨by decide, by decide⟩⟩, zRet ht hP hD [0, 1, 2, 3] (by decide) rfl⟩, hS.F ht⟩) hS.2.2 dX5_first_84
      · have fc_11 : r_8.toInt ≠ 0 := zf_ne c_11 rfl (by decide)
        refine lv_bipush (v := 101) hx hb dX5_first_77 (by decide) ?_
        refine lv_goto (tgt := 84) hx hb dX5_first_79 (by decide) ?_
        exact W.iret (v := 101) hx hb hr (fun t ht hW => ⟨⟨101, q_4, rfl, ⟨(show zKn kq aq tq wn.toInt.toNat wh.toInt (fc 0).toInt (fc 1).toInt (fc 2).toInt wg.toInt q_4 from by exact hsr_2_0), (show (101 : Int32).toInt = (if d.toInt = 0 then -1 else (if (30 ≤ sec.toInt ∧ (fc 1).toInt ≤ (fc 2).toInt) then 101 else 100)) from by (have k1 : (101 : Int32).toInt = 101 := (by decide); have k2 : (100 : Int32).toInt = 100 := (by decide); rw [if_neg (by omega)]; have zh := hsr_8_0; first | (rw [if_pos (zh.1 (by omega))]; omega) | (rw [if_neg (zh.2 (by omega))]; omega))), ⟨by decide, by decide⟩⟩, zRet ht hP hD [0, 1, 2, 3] (by decide) rfl⟩, hS.F ht⟩) hS.2.2 dX5_first_84
    · have fc_7 : 0 < wn.toInt := zf_nle c_7 rfl (by decide)
      refine lv_iload_n hx hb dX5_first_27 rfl (lv_at hl 3 rfl) ?_
      refine lv_if_le (tgt := 69) hx hb dX5_first_28 (by decide) (fun c_12 => ?_) (fun c_12 => ?_)
      · refine lv_aload_n hx hb dX5_first_69 rfl (lv_at hl 2 rfl) ?_
        refine lv_iload_n hx hb dX5_first_70 rfl (lv_at hl 5 rfl) ?_
        refine zc_V (As := [.int sec]) (rest := []) ⟨hx, hb, hml, hown, hts⟩ (c_F_W_headIsCheapest l D cI cJ cZ cP cS po w0 wk wl wc wp (wn) (wh) (wg) fc (sec) hy0 hy1 hy2 hy3 hy4 hy5 hy12 hy13 hp_fc) (cwV 1 hts gX5_first_X5_headIsCheapest rfl rfl rfl ⟨rfl, dh_X5_headIsCheapest⟩ ⟨Nat.le_of_ble_eq_true rfl, Nat.le_of_ble_eq_true rfl⟩) hK hN (hZ.kept hS) hP (hP.sub [0, 2] rfl) (va_recv (q := (RX5, TX5, 7)) hK hP (ci := 5) (q0 := 0) rfl rfl) rfl hl.1 rfl (Nat.le_of_ble_eq_true rfl) dX5_first_71 ⟨Nat.le_of_ble_eq_true rfl, Nat.le_of_ble_eq_true rfl⟩ (fun r_13 hr_13 => ?_)
        obtain ⟨g_14, g_15, hsr_13_0⟩ := hr_13
        refine lv_if_eq (tgt := 82) hx hb dX5_first_74 (by decide) (fun c_16 => ?_) (fun c_16 => ?_)
        · have fc_16 : r_13.toInt = 0 := zf_eq c_16 rfl (by decide)
          refine lv_bipush (v := 100) hx hb dX5_first_82 (by decide) ?_
          exact W.iret (v := 100) hx hb hr (fun t ht hW => ⟨⟨100, q_4, rfl, ⟨(show zKn kq aq tq wn.toInt.toNat wh.toInt (fc 0).toInt (fc 1).toInt (fc 2).toInt wg.toInt q_4 from by exact hsr_2_0), (show (100 : Int32).toInt = (if d.toInt = 0 then -1 else (if (30 ≤ sec.toInt ∧ (fc 1).toInt ≤ (fc 2).toInt) then 101 else 100)) from by (have k1 : (101 : Int32).toInt = 101 := (by decide); have k2 : (100 : Int32).toInt = 100 := (by decide); rw [if_neg (by omega)]; have zh := hsr_13_0; first | (rw [if_pos (zh.1 (by omega))]; omega) | (rw [if_neg (zh.2 (by omega))]; omega))), ⟨by decide, by decide⟩⟩, zRet ht hP hD [0, 1, 2, 3] (by decide) rfl⟩, hS.F ht⟩) hS.2.2 dX5_first_84
        · have fc_16 : r_13.toInt ≠ 0 := zf_ne c_16 rfl (by decide)
          refine lv_bipush (v := 101) hx hb dX5_first_77 (by decide) ?_
          refine lv_goto (tgt := 84) hx hb dX5_first_79 (by decide) ?_
          exact W.iret (v := 101) hx hb hr (fun t ht hW => ⟨⟨101, q_4, rfl, ⟨(show zKn kq aq tq wn.toInt.toNat wh.toInt (fc 0).toInt (fc 1).toInt (fc 2).toInt wg.toInt q_4 from by exact hsr_2_0), (show (101 : Int32).toInt = (if d.toInt = 0 then -1 else (if (30 ≤ sec.toInt ∧ (fc 1).toInt ≤ (fc 2).toInt) then 101 else 100)) from by (have k1 : (101 : Int32).toInt = 101 := (by decide); have k2 : (100 : Int32).toInt = 100 := (by decide); rw [if_neg (by omega)]; have zh := hsr_13_0; first | (rw [if_pos (zh.1 (by omega))]; omega) | (rw [if_neg (zh.2 (by omega))]; omega))), ⟨by decide, by decide⟩⟩, zRet ht hP hD [0, 1, 2, 3] (by decide) rfl⟩, hS.F ht⟩) hS.2.2 dX5_first_84
      · exact absurd c_12 (by decide)
  · have fc_1 : d.toInt = 0 := zf_eq c_1 rfl (by decide)
    refine lv_iconst (v := (-1)) hx hb dX5_first_4 (by decide) ?_
    exact W.iret (v := (-1)) hx hb hr (fun t ht hW => ⟨⟨(-1), fl, rfl, ⟨(show zKn kq aq tq wn.toInt.toNat wh.toInt (fc 0).toInt (fc 1).toInt (fc 2).toInt wg.toInt fl from by exact hkn), (show ((-1) : Int32).toInt = (if d.toInt = 0 then -1 else (if (30 ≤ sec.toInt ∧ (fc 1).toInt ≤ (fc 2).toInt) then 101 else 100)) from by (have k9 : ((-1) : Int32).toInt = -1 := (by decide); rw [if_pos (by omega)]; exact k9)), ⟨by decide, by decide⟩⟩, zRet ht hP hD [0, 1, 2, 3] (by decide) rfl⟩, hS.F ht⟩) hS.2.2 dX5_first_5
set_option maxHeartbeats 4000000 in
set_option maxRecDepth 100000 in
theorem c_F_W_first_1 (l : Launch) (D : va_G) (cI cJ cZ cP cS : ClassId) (po : zPool) (w0 wk wl wc wp : Nat) (wn wh wg : Int32) (fq : Nat → Option Nat) (kq aq tq : Nat → Int32) (tw : Int32) (fl fc : Nat → Int32) (d sec : Int32) (hy0 : 0 ≤ wn.toInt) (hy1 : wn.toInt ≤ 8) (hy2 : 0 ≤ wh.toInt) (hy3 : wh.toInt ≤ 9) (hy4 : 0 ≤ wg.toInt) (hy5 : wg.toInt ≤ 60) (hjw : zJW po fq wn kq aq tq tw) (hkn : zKn kq aq tq wn.toInt.toNat wh.toInt (fc 0).toInt (fc 1).toInt (fc 2).toInt wg.toInt fl) (hgl : (∀ p : Nat, p < wn.toInt.toNat → (tq p).toInt ≤ wg.toInt)) (htw : tw.toInt = 1) (hy10 : 0 ≤ d.toInt) (hy11 : d.toInt ≤ 24) (hy12 : 0 ≤ sec.toInt) (hy13 : sec.toInt ≤ 300) (hp_fc : zRg fc (0) 99) (hpz : Nat) : Met l yX5_first wsX5_first ({ frames := 5, cells := 0, slots := 0, locals := 126 }) (va_Pc [.ref w0, .int 1, .int d, .int sec] (zW D (zKT cI cJ cZ cP cS) po [(w0, .inr (5, [.ref wk, .ref wl, .ref wc, .ref wp, .int wn, .int wh, .int wg])), (wl, .inl (cI, 125, .inl fl)), (wc, .inl (cI, 3, .inl fc)), (wp, .inl (cP, 8, .inr (.inr (.inr (.inr fq)))))] hpz)) (va_Qi (fun (r : Int32) (fl2 : (Nat → Int32)) => (zKn kq aq tq wn.toInt.toNat wh.toInt (fc 0).toInt (fc 1).toInt (fc 2).toInt wg.toInt fl2) ∧ (r.toInt = (if d.toInt = 0 then -1 else if zFf tq d.toInt sec.toInt ((zLn kq aq tq wn.toInt.toNat wh.toInt (fc 0).toInt (fc 1).toInt (fc 2).toInt 1) d.toInt sec.toInt) (zLv (zLn kq aq tq wn.toInt.toNat wh.toInt (fc 0).toInt (fc 1).toInt (fc 2).toInt 0) kq aq tq (fc 0).toInt (zPw 1) wh.toInt d.toInt sec.toInt) wn.toInt.toNat = -1 then (if (30 ≤ sec.toInt ∧ (fc 1).toInt ≤ (fc 2).toInt) then 101 else 100) else zFf tq d.toInt sec.toInt ((zLn kq aq tq wn.toInt.toNat wh.toInt (fc 0).toInt (fc 1).toInt (fc 2).toInt 1) d.toInt sec.toInt) (zLv (zLn kq aq tq wn.toInt.toNat wh.toInt (fc 0).toInt (fc 1).toInt (fc 2).toInt 0) kq aq tq (fc 0).toInt (zPw 1) wh.toInt d.toInt sec.toInt) wn.toInt.toNat)) ∧ (-1 ≤ r.toInt ∧ r.toInt ≤ 101)) (zB D [(w0, .inr (5, [.ref wk, .ref wl, .ref wc, .ref wp, .int wn, .int wh, .int wg])), (wl, .inl (cI, 125, .inl fl)), (wc, .inl (cI, 3, .inl fc)), (wp, .inl (cP, 8, .inr (.inr (.inr (.inr fq)))))] hpz (fun (fl2 : Nat → Int32) => [(w0, .inr (5, [.ref wk, .ref wl, .ref wc, .ref wp, .int wn, .int wh, .int wg])), (wl, .inl (cI, 125, .inl fl2)), (wc, .inl (cI, 3, .inl fc)), (wp, .inl (cP, 8, .inr (.inr (.inr (.inr fq)))))])) (va_A [(w0, .inr (5, [.ref wk, .ref wl, .ref wc, .ref wp, .int wn, .int wh, .int wg])), (wl, .inl (cI, 125, .inl fl)), (wc, .inl (cI, 3, .inl fc)), (wp, .inl (cP, 8, .inr (.inr (.inr (.inr fq)))))] hpz)) 0 0 (va_A [(w0, .inr (5, [.ref wk, .ref wl, .ref wc, .ref wp, .int wn, .int wh, .int wg])), (wl, .inl (cI, 125, .inl fl)), (wc, .inl (cI, 3, .inl fc)), (wp, .inl (cP, 8, .inr (.inr (.inr (.inr fq)))))] hpz) := by
  refine Met.ofW (cc := cX5_first) (maxL := 7) (ret := (some .int)) (by decide) rfl ?_
  intro p e s m args below meth c s₁ B hml hv
  obtain ⟨rfl, hsz, hP, hK, hD0, hN, hZ⟩ := hv
  have hx := B.exec
  have hb := B.bytes
  have hr := B.returns
  have hts := atoms_spec (ws := wsX5_first) B.pre
  have hown : s.vm.findClass RX5 = some m.cls := findClass_of_methodNamed B.named
  have hlocks := B.notSynchronized
  subst hsz
  have hD := hD0.self (sz := s.heap.size)
  have hA := zA_of hD
  have hl := lv_entry ([.ref w0, .int 1, .int d, .int sec]) (n := 7) (Nat.le_of_ble_eq_true rfl)
  rw [lg_entry_eq]
  generalize (lg_sl ([.ref w0, .int 1, .int d, .int sec]) ++ List.replicate (7 - (lg_sl ([.ref w0, .int 1, .int d, .int sec])).length) Slot.unset).toArray = ls at hl ⊢
  replace hl : lv_has ls 7 [(0, .ref w0), (1, .int 1), (2, .int d), (3, .int sec)] := hl
  refine zw_begin hP hD (fun H locs hP1 hS => ?_)
  clear hP
  have hP := hP1
  clear hP1
  refine lv_iload_n hx hb dX5_first_0 rfl (lv_at hl 2 rfl) ?_
  refine lv_if_ne (tgt := 6) hx hb dX5_first_1 (by decide) (fun c_1 => ?_) (fun c_1 => ?_)
  · have fc_1 : d.toInt ≠ 0 := zf_ne c_1 rfl (by decide)
    refine lv_aload_n hx hb dX5_first_6 rfl (lv_at hl 0 rfl) ?_
    refine lv_iload_n hx hb dX5_first_7 rfl (lv_at hl 1 rfl) ?_
    refine lv_iload_n hx hb dX5_first_8 rfl (lv_at hl 2 rfl) ?_
    refine lv_iload_n hx hb dX5_first_9 rfl (lv_at hl 3 rfl) ?_
    skip
    refine zw_V (As := [.int 1, .int d, .int sec]) (rest := []) (wr := []) ⟨hx, hb, hml, hown, hts⟩ (c_F_W_least_1 l D cI cJ cZ cP cS po w0 wk wl wc wp (wn) (wh) (wg) fq kq aq tq (tw) fl fc (d) (sec) hy0 hy1 hy2 hy3 hy4 hy5 hjw (by first | assumption | omega) (by first | assumption | omega) (by first | assumption | omega | decide) hy10 hy11 hy12 hy13 hp_fc H.size) (cwV 3 hts gX5_first_X5_least rfl rfl rfl ⟨rfl, dh_X5_least⟩ ⟨Nat.le_of_ble_eq_true rfl, Nat.le_of_ble_eq_true rfl⟩) hK hN (hZ.kept hS) hP hD hS hA [0, 1, 2, 3] [] rfl rfl (by decide) (by decide) (by decide) (va_recv (q := (RX5, TX5, 7)) hK hP (ci := 5) (q0 := 0) rfl rfl) rfl hl.1 rfl (Nat.le_of_ble_eq_true rfl) dX5_first_10 ⟨Nat.le_of_ble_eq_true rfl, Nat.le_of_ble_eq_true rfl⟩ (fun r_2 u_3 H locs hr_2 hP hD hS => ?_)
    obtain ⟨q_4, rfl⟩ : ∃ z, z = u_3 := ⟨_, rfl⟩
    obtain ⟨hsr_2_0, hsr_2_1, hr_2⟩ := hr_2
    have h9R := zRe (ws' := [(w0, .inr (5, [.ref wk, .ref wl, .ref wc, .ref wp, .int wn, .int wh, .int wg])), (wl, .inl (cI, 125, .inl q_4)), (wc, .inl (cI, 3, .inl fc)), (wp, .inl (cP, 8, .inr (.inr (.inr (.inr fq)))))]) hP hD rfl
    clear hP hD
    obtain ⟨hP, hD⟩ := h9R
    obtain ⟨g_5, g_6⟩ := hr_2
    refine lv_istore (lv' := [(4, .int r_2), (0, .ref w0), (1, .int 1), (2, .int d), (3, .int sec)]) hx hb dX5_first_13 hl (by decide) rfl (fun ls hl => ?_)
    refine lv_iconst (v := 0) hx hb dX5_first_15 (by decide) ?_
    refine lv_istore (lv' := [(5, .int 0), (4, .int r_2), (0, .ref w0), (1, .int 1), (2, .int d), (3, .int sec)]) hx hb dX5_first_16 hl (by decide) rfl (fun ls hl => ?_)
    obtain ⟨i_18, hi_18⟩ : ∃ i : Int32, i = 0 := ⟨_, rfl⟩
    replace hl : lv_has ls 7 [(5, .int i_18), (4, .int r_2), (0, .ref w0), (1, .int 1), (2, .int d), (3, .int sec)] := by rw [hi_18]; exact lv_sub hl [0, 1, 2, 3, 4, 5] rfl
    have h1i_18 : i_18.toInt = 0 := by rw [hi_18]; decide
    obtain ⟨nfu, hni_18⟩ : ∃ nq9 : Nat, wn.toInt ≤ i_18.toInt + (nq9 : Int) := ⟨((wn.toInt : Int) - 0).toNat, by omega⟩
    have hloi_18 : 0 ≤ i_18.toInt := by omega
    obtain ⟨g_7, hg_7⟩ : ∃ g : Nat → Int32, g = q_4 := ⟨_, rfl⟩
    replace hP : va_P D vwCl [(w0, .inr (5, [.ref wk, .ref wl, .ref wc, .ref wp, .int wn, .int wh, .int wg])), (wl, .inl (cI, 125, .inl g_7)), (wc, .inl (cI, 3, .inl fc)), (wp, .inl (cP, 8, .inr (.inr (.inr (.inr fq)))))] H := by rw [hg_7]; exact hP
    replace hD : va_D (va_A [(w0, .inr (5, [.ref wk, .ref wl, .ref wc, .ref wp, .int wn, .int wh, .int wg])), (wl, .inl (cI, 125, .inl fl)), (wc, .inl (cI, 3, .inl fc)), (wp, .inl (cP, 8, .inr (.inr (.inr (.inr fq)))))] s.heap.size) [(w0, .inr (5, [.ref wk, .ref wl, .ref wc, .ref wp, .int wn, .int wh, .int wg])), (wl, .inl (cI, 125, .inl g_7)), (wc, .inl (cI, 3, .inl fc)), (wp, .inl (cP, 8, .inr (.inr (.inr (.inr fq)))))] := by rw [hg_7]; exact hD
    have hvi_18_0 : zKn kq aq tq wn.toInt.toNat wh.toInt (fc 0).toInt (fc 1).toInt (fc 2).toInt wg.toInt g_7 := by
      (try rw [hi_18]); (try rw [hg_7]); exact hsr_2_0
    have hvi_18_1 : zFf tq d.toInt sec.toInt ((zLn kq aq tq wn.toInt.toNat wh.toInt (fc 0).toInt (fc 1).toInt (fc 2).toInt 1) d.toInt sec.toInt) (zLv (zLn kq aq tq wn.toInt.toNat wh.toInt (fc 0).toInt (fc 1).toInt (fc 2).toInt 0) kq aq tq (fc 0).toInt (zPw 1) wh.toInt d.toInt sec.toInt) i_18.toInt.toNat = -1 := by
      (try rw [hi_18]); (try rw [hg_7]); (rw [(show ((0 : Int32).toInt.toNat) = 0 from by decide)]; rfl)
    have hvi_18_2 : i_18.toInt ≤ wn.toInt := by
      (try rw [hi_18]); (try rw [hg_7]); (have k0 : (0 : Int32).toInt = 0 := (by decide); omega)
    clear h1i_18 hi_18 hg_7
    skip
    revert hni_18
    revert hloi_18
    revert hvi_18_2
    revert hvi_18_1
    revert hvi_18_0
    revert hl
    revert hS
    revert hD
    revert hP
    revert ls
    revert locs
    revert H
    revert g_7
    revert i_18
    induction nfu with
    | zero =>
      intro i_18 g_7 H locs ls hP hD hS hl hvi_18_0 hvi_18_1 hvi_18_2 hloi_18 hni_18
      have hzi_18 : wn.toInt ≤ i_18.toInt := by omega
      refine lv_iload hx hb dX5_first_18 (lv_at hl 0 rfl) ?_
      refine lv_aload_n hx hb dX5_first_20 rfl (lv_at hl 2 rfl) ?_
      refine va_get (D := D) (ci := 5) (v := .int wn) (C := RX5) (T := TX5) (N := 7) hx hb hts hi_X5_first_5 hown hK hP 0 rfl rfl 4 (by decide) (hts (.fieldLink RX5 27 "TheLiningsInIt$Ways" "count" "I") (List.mem_of_getElem? (i := 1) rfl)) (fun _ h9 => h9) rfl dX5_first_21 ?_
      refine lv_icmp_ge (tgt := 69) hx hb dX5_first_24 (by decide) (fun c_8 => ?_) (fun c_8 => ?_)
      · have fc_8 : wn.toInt ≤ i_18.toInt := zf_le c_8 rfl rfl
        refine lv_aload_n hx hb dX5_first_69 rfl (lv_at hl 2 rfl) ?_
        refine lv_iload_n hx hb dX5_first_70 rfl (lv_at hl 5 rfl) ?_
        refine zc_V (As := [.int sec]) (rest := []) ⟨hx, hb, hml, hown, hts⟩ (c_F_W_headIsCheapest l D cI cJ cZ cP cS po w0 wk wl wc wp (wn) (wh) (wg) fc (sec) hy0 hy1 hy2 hy3 hy4 hy5 hy12 hy13 hp_fc) (cwV 1 hts gX5_first_X5_headIsCheapest rfl rfl rfl ⟨rfl, dh_X5_headIsCheapest⟩ ⟨Nat.le_of_ble_eq_true rfl, Nat.le_of_ble_eq_true rfl⟩) hK hN (hZ.kept hS) hP (hP.sub [0, 2] rfl) (va_recv (q := (RX5, TX5, 7)) hK hP (ci := 5) (q0 := 0) rfl rfl) rfl hl.1 rfl (Nat.le_of_ble_eq_true rfl) dX5_first_71 ⟨Nat.le_of_ble_eq_true rfl, Nat.le_of_ble_eq_true rfl⟩ (fun r_9 hr_9 => ?_)
        obtain ⟨g_10, g_11, hsr_9_0⟩ := hr_9
        refine lv_if_eq (tgt := 82) hx hb dX5_first_74 (by decide) (fun c_12 => ?_) (fun c_12 => ?_)
        · have fc_12 : r_9.toInt = 0 := zf_eq c_12 rfl (by decide)
          refine lv_bipush (v := 100) hx hb dX5_first_82 (by decide) ?_
          exact W.iret (v := 100) hx hb hr (fun t ht hW => ⟨⟨100, g_7, rfl, ⟨(show zKn kq aq tq wn.toInt.toNat wh.toInt (fc 0).toInt (fc 1).toInt (fc 2).toInt wg.toInt g_7 from by exact hvi_18_0), (show (100 : Int32).toInt = (if d.toInt = 0 then -1 else if zFf tq d.toInt sec.toInt ((zLn kq aq tq wn.toInt.toNat wh.toInt (fc 0).toInt (fc 1).toInt (fc 2).toInt 1) d.toInt sec.toInt) (zLv (zLn kq aq tq wn.toInt.toNat wh.toInt (fc 0).toInt (fc 1).toInt (fc 2).toInt 0) kq aq tq (fc 0).toInt (zPw 1) wh.toInt d.toInt sec.toInt) wn.toInt.toNat = -1 then (if (30 ≤ sec.toInt ∧ (fc 1).toInt ≤ (fc 2).toInt) then 101 else 100) else zFf tq d.toInt sec.toInt ((zLn kq aq tq wn.toInt.toNat wh.toInt (fc 0).toInt (fc 1).toInt (fc 2).toInt 1) d.toInt sec.toInt) (zLv (zLn kq aq tq wn.toInt.toNat wh.toInt (fc 0).toInt (fc 1).toInt (fc 2).toInt 0) kq aq tq (fc 0).toInt (zPw 1) wh.toInt d.toInt sec.toInt) wn.toInt.toNat) from by (have k1 : (101 : Int32).toInt = 101 := (by decide); have k2 : (100 : Int32).toInt = 100 := (by decide); have h9 : i_18.toInt.toNat = wn.toInt.toNat := (by omega); have z := hvi_18_1; rw [h9] at z; rw [if_neg (by omega), if_pos z]; have zh := hsr_9_0; first | (rw [if_pos (zh.1 (by omega))]; omega) | (rw [if_neg (zh.2 (by omega))]; omega))), ⟨by decide, by decide⟩⟩, zRet ht hP hD [0, 1, 2, 3] (by decide) rfl⟩, hS.F ht⟩) hS.2.2 dX5_first_84
        · have fc_12 : r_9.toInt ≠ 0 := zf_ne c_12 rfl (by decide)
          refine lv_bipush (v := 101) hx hb dX5_first_77 (by decide) ?_
          refine lv_goto (tgt := 84) hx hb dX5_first_79 (by decide) ?_
          exact W.iret (v := 101) hx hb hr (fun t ht hW => ⟨⟨101, g_7, rfl, ⟨(show zKn kq aq tq wn.toInt.toNat wh.toInt (fc 0).toInt (fc 1).toInt (fc 2).toInt wg.toInt g_7 from by exact hvi_18_0), (show (101 : Int32).toInt = (if d.toInt = 0 then -1 else if zFf tq d.toInt sec.toInt ((zLn kq aq tq wn.toInt.toNat wh.toInt (fc 0).toInt (fc 1).toInt (fc 2).toInt 1) d.toInt sec.toInt) (zLv (zLn kq aq tq wn.toInt.toNat wh.toInt (fc 0).toInt (fc 1).toInt (fc 2).toInt 0) kq aq tq (fc 0).toInt (zPw 1) wh.toInt d.toInt sec.toInt) wn.toInt.toNat = -1 then (if (30 ≤ sec.toInt ∧ (fc 1).toInt ≤ (fc 2).toInt) then 101 else 100) else zFf tq d.toInt sec.toInt ((zLn kq aq tq wn.toInt.toNat wh.toInt (fc 0).toInt (fc 1).toInt (fc 2).toInt 1) d.toInt sec.toInt) (zLv (zLn kq aq tq wn.toInt.toNat wh.toInt (fc 0).toInt (fc 1).toInt (fc 2).toInt 0) kq aq tq (fc 0).toInt (zPw 1) wh.toInt d.toInt sec.toInt) wn.toInt.toNat) from by (have k1 : (101 : Int32).toInt = 101 := (by decide); have k2 : (100 : Int32).toInt = 100 := (by decide); have h9 : i_18.toInt.toNat = wn.toInt.toNat := (by omega); have z := hvi_18_1; rw [h9] at z; rw [if_neg (by omega), if_pos z]; have zh := hsr_9_0; first | (rw [if_pos (zh.1 (by omega))]; omega) | (rw [if_neg (zh.2 (by omega))]; omega))), ⟨by decide, by decide⟩⟩, zRet ht hP hD [0, 1, 2, 3] (by decide) rfl⟩, hS.F ht⟩) hS.2.2 dX5_first_84
      · exfalso; have fc_8 : i_18.toInt < wn.toInt := zf_nle c_8 rfl rfl; omega
    | succ nfu ih =>
      intro i_18 g_7 H locs ls hP hD hS hl hvi_18_0 hvi_18_1 hvi_18_2 hloi_18 hni_18
      refine lv_iload hx hb dX5_first_18 (lv_at hl 0 rfl) ?_
      refine lv_aload_n hx hb dX5_first_20 rfl (lv_at hl 2 rfl) ?_
      refine va_get (D := D) (ci := 5) (v := .int wn) (C := RX5) (T := TX5) (N := 7) hx hb hts hi_X5_first_5 hown hK hP 0 rfl rfl 4 (by decide) (hts (.fieldLink RX5 27 "TheLiningsInIt$Ways" "count" "I") (List.mem_of_getElem? (i := 1) rfl)) (fun _ h9 => h9) rfl dX5_first_21 ?_
      refine lv_icmp_ge (tgt := 69) hx hb dX5_first_24 (by decide) (fun c_13 => ?_) (fun c_13 => ?_)
      · have fc_13 : wn.toInt ≤ i_18.toInt := zf_le c_13 rfl rfl
        refine lv_aload_n hx hb dX5_first_69 rfl (lv_at hl 2 rfl) ?_
        refine lv_iload_n hx hb dX5_first_70 rfl (lv_at hl 5 rfl) ?_
        refine zc_V (As := [.int sec]) (rest := []) ⟨hx, hb, hml, hown, hts⟩ (c_F_W_headIsCheapest l D cI cJ cZ cP cS po w0 wk wl wc wp (wn) (wh) (wg) fc (sec) hy0 hy1 hy2 hy3 hy4 hy5 hy12 hy13 hp_fc) (cwV 1 hts gX5_first_X5_headIsCheapest rfl rfl rfl ⟨rfl, dh_X5_headIsCheapest⟩ ⟨Nat.le_of_ble_eq_true rfl, Nat.le_of_ble_eq_true rfl⟩) hK hN (hZ.kept hS) hP (hP.sub [0, 2] rfl) (va_recv (q := (RX5, TX5, 7)) hK hP (ci := 5) (q0 := 0) rfl rfl) rfl hl.1 rfl (Nat.le_of_ble_eq_true rfl) dX5_first_71 ⟨Nat.le_of_ble_eq_true rfl, Nat.le_of_ble_eq_true rfl⟩ (fun r_14 hr_14 => ?_)
        obtain ⟨g_15, g_16, hsr_14_0⟩ := hr_14
        refine lv_if_eq (tgt := 82) hx hb dX5_first_74 (by decide) (fun c_17 => ?_) (fun c_17 => ?_)
        · have fc_17 : r_14.toInt = 0 := zf_eq c_17 rfl (by decide)
          refine lv_bipush (v := 100) hx hb dX5_first_82 (by decide) ?_
          exact W.iret (v := 100) hx hb hr (fun t ht hW => ⟨⟨100, g_7, rfl, ⟨(show zKn kq aq tq wn.toInt.toNat wh.toInt (fc 0).toInt (fc 1).toInt (fc 2).toInt wg.toInt g_7 from by exact hvi_18_0), (show (100 : Int32).toInt = (if d.toInt = 0 then -1 else if zFf tq d.toInt sec.toInt ((zLn kq aq tq wn.toInt.toNat wh.toInt (fc 0).toInt (fc 1).toInt (fc 2).toInt 1) d.toInt sec.toInt) (zLv (zLn kq aq tq wn.toInt.toNat wh.toInt (fc 0).toInt (fc 1).toInt (fc 2).toInt 0) kq aq tq (fc 0).toInt (zPw 1) wh.toInt d.toInt sec.toInt) wn.toInt.toNat = -1 then (if (30 ≤ sec.toInt ∧ (fc 1).toInt ≤ (fc 2).toInt) then 101 else 100) else zFf tq d.toInt sec.toInt ((zLn kq aq tq wn.toInt.toNat wh.toInt (fc 0).toInt (fc 1).toInt (fc 2).toInt 1) d.toInt sec.toInt) (zLv (zLn kq aq tq wn.toInt.toNat wh.toInt (fc 0).toInt (fc 1).toInt (fc 2).toInt 0) kq aq tq (fc 0).toInt (zPw 1) wh.toInt d.toInt sec.toInt) wn.toInt.toNat) from by (have k1 : (101 : Int32).toInt = 101 := (by decide); have k2 : (100 : Int32).toInt = 100 := (by decide); have h9 : i_18.toInt.toNat = wn.toInt.toNat := (by omega); have z := hvi_18_1; rw [h9] at z; rw [if_neg (by omega), if_pos z]; have zh := hsr_14_0; first | (rw [if_pos (zh.1 (by omega))]; omega) | (rw [if_neg (zh.2 (by omega))]; omega))), ⟨by decide, by decide⟩⟩, zRet ht hP hD [0, 1, 2, 3] (by decide) rfl⟩, hS.F ht⟩) hS.2.2 dX5_first_84
        · have fc_17 : r_14.toInt ≠ 0 := zf_ne c_17 rfl (by decide)
          refine lv_bipush (v := 101) hx hb dX5_first_77 (by decide) ?_
          refine lv_goto (tgt := 84) hx hb dX5_first_79 (by decide) ?_
          exact W.iret (v := 101) hx hb hr (fun t ht hW => ⟨⟨101, g_7, rfl, ⟨(show zKn kq aq tq wn.toInt.toNat wh.toInt (fc 0).toInt (fc 1).toInt (fc 2).toInt wg.toInt g_7 from by exact hvi_18_0), (show (101 : Int32).toInt = (if d.toInt = 0 then -1 else if zFf tq d.toInt sec.toInt ((zLn kq aq tq wn.toInt.toNat wh.toInt (fc 0).toInt (fc 1).toInt (fc 2).toInt 1) d.toInt sec.toInt) (zLv (zLn kq aq tq wn.toInt.toNat wh.toInt (fc 0).toInt (fc 1).toInt (fc 2).toInt 0) kq aq tq (fc 0).toInt (zPw 1) wh.toInt d.toInt sec.toInt) wn.toInt.toNat = -1 then (if (30 ≤ sec.toInt ∧ (fc 1).toInt ≤ (fc 2).toInt) then 101 else 100) else zFf tq d.toInt sec.toInt ((zLn kq aq tq wn.toInt.toNat wh.toInt (fc 0).toInt (fc 1).toInt (fc 2).toInt 1) d.toInt sec.toInt) (zLv (zLn kq aq tq wn.toInt.toNat wh.toInt (fc 0).toInt (fc 1).toInt (fc 2).toInt 0) kq aq tq (fc 0).toInt (zPw 1) wh.toInt d.toInt sec.toInt) wn.toInt.toNat) from by (have k1 : (101 : Int32).toInt = 101 := (by decide); have k2 : (100 : Int32).toInt = 100 := (by decide); have h9 : i_18.toInt.toNat = wn.toInt.toNat := (by omega); have z := hvi_18_1; rw [h9] at z; rw [if_neg (by omega), if_pos z]; have zh := hsr_14_0; first | (rw [if_pos (zh.1 (by omega))]; omega) | (rw [if_neg (zh.2 (by omega))]; omega))), ⟨by decide, by decide⟩⟩, zRet ht hP hD [0, 1, 2, 3] (by decide) rfl⟩, hS.F ht⟩) hS.2.2 dX5_first_84
      · have fc_13 : i_18.toInt < wn.toInt := zf_nle c_13 rfl rfl
        refine lv_iload_n hx hb dX5_first_27 rfl (lv_at hl 3 rfl) ?_
        refine lv_if_le (tgt := 69) hx hb dX5_first_28 (by decide) (fun c_18 => ?_) (fun c_18 => ?_)
        · exact absurd c_18 (by decide)
        · refine lv_aload_n hx hb dX5_first_31 rfl (lv_at hl 2 rfl) ?_
          refine lv_iload hx hb dX5_first_32 (lv_at hl 0 rfl) ?_
          refine lv_iload_n hx hb dX5_first_34 rfl (lv_at hl 4 rfl) ?_
          refine lv_iload_n hx hb dX5_first_35 rfl (lv_at hl 5 rfl) ?_
          refine zc_Vq (As := [.int i_18, .int d, .int sec]) (rest := []) ⟨hx, hb, hml, hown, hts⟩ (c_F_W_mayBeAt l D cI cJ cZ cP cS po w0 wk wl wc wp (wn) (wh) (wg) fq kq aq tq (tw) (i_18) (d) (sec) hy0 hy1 hy2 hy3 hy4 hy5 hjw (by omega) (by omega) (by omega) hy12 hy13) (cwV 3 hts gX5_first_X5_mayBeAt rfl rfl rfl ⟨rfl, dh_X5_mayBeAt⟩ ⟨Nat.le_of_ble_eq_true rfl, Nat.le_of_ble_eq_true rfl⟩) hK hN (hZ.kept hS) hP (hP.sub [0, 3] rfl) (va_recv (q := (RX5, TX5, 7)) hK hP (ci := 5) (q0 := 0) rfl rfl) rfl hl.1 rfl (Nat.le_of_ble_eq_true rfl) dX5_first_36 ⟨Nat.le_of_ble_eq_true rfl, Nat.le_of_ble_eq_true rfl⟩ (fun r_19 hr_19 => ?_)
          rcases hr_19 with ⟨rfl, hn_20⟩ | ⟨rfl, hn_22, g_21⟩ | ⟨rfl, hn_24, g_23⟩ | ⟨⟨u_26, kiu_26, au_26, tu_26, rfl, huu_26, hkku_26⟩, g_25⟩
          · refine lv_astoreN (lv' := [(6, .null), (5, .int i_18), (4, .int r_2), (0, .ref w0), (1, .int 1), (2, .int d), (3, .int sec)]) hx hb dX5_first_39 hl (by decide) rfl (fun ls hl => ?_)
            refine lv_aloadN hx hb dX5_first_41 (lv_at hl 0 rfl) ?_
            refine lv_ifnullN (tgt := 63) hx hb dX5_first_43 (by decide) ?_
            obtain ⟨x_27, ex_27⟩ : ∃ y : Int32, y = i_18 + 1 := ⟨_, rfl⟩
            have qx_27 : x_27.toInt = i_18.toInt + 1 := dw_inc ex_27 fc_13
            refine lv_iinc (v := x_27) (lv' := [(5, .int x_27), (6, .null), (4, .int r_2), (0, .ref w0), (1, .int 1), (2, .int d), (3, .int sec)]) hx hb dX5_first_63 hl (k := 1) rfl ex_27.symm (by decide) rfl (fun ls hl => ?_)
            refine lv_goto (tgt := 18) hx hb dX5_first_66 (by decide) ?_
            exact ih x_27 (g_7) _ _ _ (hP.sub [0, 1, 2, 3] rfl) (hD.sub [0, 1, 2, 3] (by decide) rfl) hS (lv_sub hl [0, 2, 3, 4, 5, 6] rfl) (show zKn kq aq tq wn.toInt.toNat wh.toInt (fc 0).toInt (fc 1).toInt (fc 2).toInt wg.toInt g_7 from by exact hvi_18_0) (show zFf tq d.toInt sec.toInt ((zLn kq aq tq wn.toInt.toNat wh.toInt (fc 0).toInt (fc 1).toInt (fc 2).toInt 1) d.toInt sec.toInt) (zLv (zLn kq aq tq wn.toInt.toNat wh.toInt (fc 0).toInt (fc 1).toInt (fc 2).toInt 0) kq aq tq (fc 0).toInt (zPw 1) wh.toInt d.toInt sec.toInt) x_27.toInt.toNat = -1 from by (have hx : x_27.toInt.toNat = i_18.toInt.toNat + 1 := (by omega); have y4 := hn_20; have y9 : i_18.toNatClampNeg = i_18.toInt.toNat := rfl; rw [y9] at y4; rw [hx]; exact zFf_nx hvi_18_1 (fun z => y4 ⟨z.1.1, z.1.2, Or.inl (by omega)⟩))) (show x_27.toInt ≤ wn.toInt from by omega) (dw_lo hloi_18 qx_27) (dw_hn hni_18 qx_27)
          · exfalso; omega
          · refine lv_astoreN (lv' := [(6, .null), (5, .int i_18), (4, .int r_2), (0, .ref w0), (1, .int 1), (2, .int d), (3, .int sec)]) hx hb dX5_first_39 hl (by decide) rfl (fun ls hl => ?_)
            refine lv_aloadN hx hb dX5_first_41 (lv_at hl 0 rfl) ?_
            refine lv_ifnullN (tgt := 63) hx hb dX5_first_43 (by decide) ?_
            obtain ⟨x_28, ex_28⟩ : ∃ y : Int32, y = i_18 + 1 := ⟨_, rfl⟩
            have qx_28 : x_28.toInt = i_18.toInt + 1 := dw_inc ex_28 fc_13
            refine lv_iinc (v := x_28) (lv' := [(5, .int x_28), (6, .null), (4, .int r_2), (0, .ref w0), (1, .int 1), (2, .int d), (3, .int sec)]) hx hb dX5_first_63 hl (k := 1) rfl ex_28.symm (by decide) rfl (fun ls hl => ?_)
            refine lv_goto (tgt := 18) hx hb dX5_first_66 (by decide) ?_
            exact ih x_28 (g_7) _ _ _ (hP.sub [0, 1, 2, 3] rfl) (hD.sub [0, 1, 2, 3] (by decide) rfl) hS (lv_sub hl [0, 2, 3, 4, 5, 6] rfl) (show zKn kq aq tq wn.toInt.toNat wh.toInt (fc 0).toInt (fc 1).toInt (fc 2).toInt wg.toInt g_7 from by exact hvi_18_0) (show zFf tq d.toInt sec.toInt ((zLn kq aq tq wn.toInt.toNat wh.toInt (fc 0).toInt (fc 1).toInt (fc 2).toInt 1) d.toInt sec.toInt) (zLv (zLn kq aq tq wn.toInt.toNat wh.toInt (fc 0).toInt (fc 1).toInt (fc 2).toInt 0) kq aq tq (fc 0).toInt (zPw 1) wh.toInt d.toInt sec.toInt) x_28.toInt.toNat = -1 from by (have hx : x_28.toInt.toNat = i_18.toInt.toNat + 1 := (by omega); have y4 := hn_24; have y9 : i_18.toNatClampNeg = i_18.toInt.toNat := rfl; rw [y9] at y4; rw [hx]; exact zFf_nx hvi_18_1 (fun z => y4 ⟨z.1.1, z.1.2, Or.inl (by omega)⟩))) (show x_28.toInt ≤ wn.toInt from by omega) (dw_lo hloi_18 qx_28) (dw_hn hni_18 qx_28)
          · refine W.eq (g2 := F0 m 39 ls (.ref u_26 :: [])) rfl ?_
            obtain ⟨hku_26, hau_26, htu_26⟩ := zPu_pr (hZ.kept hS) huu_26
            refine lv_astore (lv' := [(6, .ref u_26), (5, .int i_18), (4, .int r_2), (0, .ref w0), (1, .int 1), (2, .int d), (3, .int sec)]) hx hb dX5_first_39 hl (by decide) rfl (fun ls hl => ?_)
            refine lv_aload hx hb dX5_first_41 (lv_at hl 0 rfl) ?_
            refine lv_ifnull hx hb dX5_first_43 ?_
            refine lv_aload_n hx hb dX5_first_46 rfl (lv_at hl 3 rfl) ?_
            refine lv_aload hx hb dX5_first_47 (lv_at hl 0 rfl) ?_
            refine lv_iload_n hx hb dX5_first_49 rfl (lv_at hl 4 rfl) ?_
            refine lv_iload_n hx hb dX5_first_50 rfl (lv_at hl 5 rfl) ?_
            refine lv_iload_n hx hb dX5_first_51 rfl (lv_at hl 6 rfl) ?_
            have tsu_26 : tu_26.toInt ≤ sec.toInt := by (obtain ⟨⟨y1, y2, y3⟩, y4⟩ := hkku_26; have z := y4.2.1; rw [y3]; exact z)
            skip
            refine zw_V (As := [.ref u_26, .int 1, .int d, .int sec]) (rest := []) (wr := []) ⟨hx, hb, hml, hown, hts⟩ (c_F_W_leastBy_1 l D cI cJ cZ cP cS po w0 wk wl wc wp (wn) (wh) (wg) fq kq aq tq (tw) g_7 fc (d) (sec) u_26 (kiu_26) (au_26) (tu_26) huu_26 ⟨by omega, by omega, by omega, by omega⟩ hy0 hy1 hy2 hy3 hy4 hy5 hjw (by first | assumption | omega) (by first | assumption | omega) (by first | assumption | omega | decide) hy10 hy11 hy12 hy13 (by omega) hp_fc H.size) (cwV 4 hts gX5_first_X5_leastBy rfl rfl rfl ⟨rfl, dh_X5_leastBy⟩ ⟨Nat.le_of_ble_eq_true rfl, Nat.le_of_ble_eq_true rfl⟩) hK hN (hZ.kept hS) hP hD hS hA [0, 1, 2, 3] [] rfl rfl (by decide) (by decide) (by decide) (va_recv (q := (RX5, TX5, 7)) hK hP (ci := 5) (q0 := 0) rfl rfl) rfl hl.1 rfl (Nat.le_of_ble_eq_true rfl) dX5_first_52 ⟨Nat.le_of_ble_eq_true rfl, Nat.le_of_ble_eq_true rfl⟩ (fun r_29 u_30 H locs hr_29 hP hD hS => ?_)
            obtain ⟨q_31, rfl⟩ : ∃ z, z = u_30 := ⟨_, rfl⟩
            obtain ⟨hsr_29_0, hsr_29_1, hr_29⟩ := hr_29
            have h9R := zRe (ws' := [(w0, .inr (5, [.ref wk, .ref wl, .ref wc, .ref wp, .int wn, .int wh, .int wg])), (wl, .inl (cI, 125, .inl q_31)), (wc, .inl (cI, 3, .inl fc)), (wp, .inl (cP, 8, .inr (.inr (.inr (.inr fq)))))]) hP hD rfl
            clear hP hD
            obtain ⟨hP, hD⟩ := h9R
            obtain ⟨g_32, g_33⟩ := hr_29
            refine lv_iload hx hb dX5_first_55 (lv_at hl 2 rfl) ?_
            refine lv_icmp_ne (tgt := 63) hx hb dX5_first_57 (by decide) (fun c_34 => ?_) (fun c_34 => ?_)
            · have fc_34 : r_29.toInt ≠ r_2.toInt := zf_ne c_34 rfl rfl
              obtain ⟨x_35, ex_35⟩ : ∃ y : Int32, y = i_18 + 1 := ⟨_, rfl⟩
              have qx_35 : x_35.toInt = i_18.toInt + 1 := dw_inc ex_35 fc_13
              refine lv_iinc (v := x_35) (lv' := [(5, .int x_35), (6, .ref u_26), (4, .int r_2), (0, .ref w0), (1, .int 1), (2, .int d), (3, .int sec)]) hx hb dX5_first_63 hl (k := 1) rfl ex_35.symm (by decide) rfl (fun ls hl => ?_)
              refine lv_goto (tgt := 18) hx hb dX5_first_66 (by decide) ?_
              exact ih x_35 (q_31) _ _ _ (hP.sub [0, 1, 2, 3] rfl) (hD.sub [0, 1, 2, 3] (by decide) rfl) hS (lv_sub hl [0, 2, 3, 4, 5, 6] rfl) (show zKn kq aq tq wn.toInt.toNat wh.toInt (fc 0).toInt (fc 1).toInt (fc 2).toInt wg.toInt q_31 from by exact hsr_29_0) (show zFf tq d.toInt sec.toInt ((zLn kq aq tq wn.toInt.toNat wh.toInt (fc 0).toInt (fc 1).toInt (fc 2).toInt 1) d.toInt sec.toInt) (zLv (zLn kq aq tq wn.toInt.toNat wh.toInt (fc 0).toInt (fc 1).toInt (fc 2).toInt 0) kq aq tq (fc 0).toInt (zPw 1) wh.toInt d.toInt sec.toInt) x_35.toInt.toNat = -1 from by (have hx : x_35.toInt.toNat = i_18.toInt.toNat + 1 := (by omega); obtain ⟨⟨y1, y2, y3⟩, y4⟩ := hkku_26; have y9 : i_18.toNatClampNeg = i_18.toInt.toNat := rfl; rw [y9] at y1 y2 y3 y4; have zr := hsr_29_1; rw [y1, y2, y3] at zr; have zr2 : r_29.toInt = (zLv (zLn kq aq tq wn.toInt.toNat wh.toInt (fc 0).toInt (fc 1).toInt (fc 2).toInt 0) kq aq tq (fc 0).toInt (zPw 1) wh.toInt d.toInt sec.toInt) i_18.toInt.toNat := zr; have zl := hsr_2_1; rw [hx]; exact zFf_nx hvi_18_1 (fun z => by (have z2 := z.2; rw [← zr2, ← zl] at z2; omega)))) (show x_35.toInt ≤ wn.toInt from by omega) (dw_lo hloi_18 qx_35) (dw_hn hni_18 qx_35)
            · have fc_34 : r_29.toInt = r_2.toInt := zf_eq c_34 rfl rfl
              refine lv_iload hx hb dX5_first_60 (lv_at hl 1 rfl) ?_
              exact W.iret (v := i_18) hx hb hr (fun t ht hW => ⟨⟨i_18, q_31, rfl, ⟨(show zKn kq aq tq wn.toInt.toNat wh.toInt (fc 0).toInt (fc 1).toInt (fc 2).toInt wg.toInt q_31 from by exact hsr_29_0), (show (i_18 : Int32).toInt = (if d.toInt = 0 then -1 else if zFf tq d.toInt sec.toInt ((zLn kq aq tq wn.toInt.toNat wh.toInt (fc 0).toInt (fc 1).toInt (fc 2).toInt 1) d.toInt sec.toInt) (zLv (zLn kq aq tq wn.toInt.toNat wh.toInt (fc 0).toInt (fc 1).toInt (fc 2).toInt 0) kq aq tq (fc 0).toInt (zPw 1) wh.toInt d.toInt sec.toInt) wn.toInt.toNat = -1 then (if (30 ≤ sec.toInt ∧ (fc 1).toInt ≤ (fc 2).toInt) then 101 else 100) else zFf tq d.toInt sec.toInt ((zLn kq aq tq wn.toInt.toNat wh.toInt (fc 0).toInt (fc 1).toInt (fc 2).toInt 1) d.toInt sec.toInt) (zLv (zLn kq aq tq wn.toInt.toNat wh.toInt (fc 0).toInt (fc 1).toInt (fc 2).toInt 0) kq aq tq (fc 0).toInt (zPw 1) wh.toInt d.toInt sec.toInt) wn.toInt.toNat) from by (rw [if_neg (by omega)]; obtain ⟨⟨y1, y2, y3⟩, y4⟩ := hkku_26; have y9 : i_18.toNatClampNeg = i_18.toInt.toNat := rfl; rw [y9] at y1 y2 y3 y4; have zr := hsr_29_1; rw [y1, y2, y3] at zr; have zr2 : r_29.toInt = (zLv (zLn kq aq tq wn.toInt.toNat wh.toInt (fc 0).toInt (fc 1).toInt (fc 2).toInt 0) kq aq tq (fc 0).toInt (zPw 1) wh.toInt d.toInt sec.toInt) i_18.toInt.toNat := zr; have zl := hsr_2_1; have zf : zFf tq d.toInt sec.toInt ((zLn kq aq tq wn.toInt.toNat wh.toInt (fc 0).toInt (fc 1).toInt (fc 2).toInt 1) d.toInt sec.toInt) (zLv (zLn kq aq tq wn.toInt.toNat wh.toInt (fc 0).toInt (fc 1).toInt (fc 2).toInt 0) kq aq tq (fc 0).toInt (zPw 1) wh.toInt d.toInt sec.toInt) wn.toInt.toNat = (i_18.toInt.toNat : Int) := zFf_at hvi_18_1 ⟨y4.1, y4.2.1⟩ (by rw [← zr2, ← zl]; omega) (by omega); rw [if_neg (by rw [zf]; omega), zf]; omega)), ⟨by omega, by omega⟩⟩, zRet ht hP hD [0, 1, 2, 3] (by decide) rfl⟩, hS.F ht⟩) hS.2.2 dX5_first_62
  · have fc_1 : d.toInt = 0 := zf_eq c_1 rfl (by decide)
    refine lv_iconst (v := (-1)) hx hb dX5_first_4 (by decide) ?_
    exact W.iret (v := (-1)) hx hb hr (fun t ht hW => ⟨⟨(-1), fl, rfl, ⟨(show zKn kq aq tq wn.toInt.toNat wh.toInt (fc 0).toInt (fc 1).toInt (fc 2).toInt wg.toInt fl from by exact hkn), (show ((-1) : Int32).toInt = (if d.toInt = 0 then -1 else if zFf tq d.toInt sec.toInt ((zLn kq aq tq wn.toInt.toNat wh.toInt (fc 0).toInt (fc 1).toInt (fc 2).toInt 1) d.toInt sec.toInt) (zLv (zLn kq aq tq wn.toInt.toNat wh.toInt (fc 0).toInt (fc 1).toInt (fc 2).toInt 0) kq aq tq (fc 0).toInt (zPw 1) wh.toInt d.toInt sec.toInt) wn.toInt.toNat = -1 then (if (30 ≤ sec.toInt ∧ (fc 1).toInt ≤ (fc 2).toInt) then 101 else 100) else zFf tq d.toInt sec.toInt ((zLn kq aq tq wn.toInt.toNat wh.toInt (fc 0).toInt (fc 1).toInt (fc 2).toInt 1) d.toInt sec.toInt) (zLv (zLn kq aq tq wn.toInt.toNat wh.toInt (fc 0).toInt (fc 1).toInt (fc 2).toInt 0) kq aq tq (fc 0).toInt (zPw 1) wh.toInt d.toInt sec.toInt) wn.toInt.toNat) from by (have k9 : ((-1) : Int32).toInt = -1 := (by decide); rw [if_pos (by omega)]; exact k9)), ⟨by decide, by decide⟩⟩, zRet ht hP hD [0, 1, 2, 3] (by decide) rfl⟩, hS.F ht⟩) hS.2.2 dX5_first_5
set_option maxHeartbeats 4000000 in
set_option maxRecDepth 100000 in
theorem c_F_W_first_2 (l : Launch) (D : va_G) (cI cJ cZ cP cS : ClassId) (po : zPool) (w0 wk wl wc wp : Nat) (wn wh wg : Int32) (fq : Nat → Option Nat) (kq aq tq : Nat → Int32) (tw : Int32) (fl fc : Nat → Int32) (d sec : Int32) (hy0 : 0 ≤ wn.toInt) (hy1 : wn.toInt ≤ 8) (hy2 : 0 ≤ wh.toInt) (hy3 : wh.toInt ≤ 9) (hy4 : 0 ≤ wg.toInt) (hy5 : wg.toInt ≤ 60) (hjw : zJW po fq wn kq aq tq tw) (hkn : zKn kq aq tq wn.toInt.toNat wh.toInt (fc 0).toInt (fc 1).toInt (fc 2).toInt wg.toInt fl) (hgl : (∀ p : Nat, p < wn.toInt.toNat → (tq p).toInt ≤ wg.toInt)) (htw : tw.toInt = 1) (hy10 : 0 ≤ d.toInt) (hy11 : d.toInt ≤ 24) (hy12 : 0 ≤ sec.toInt) (hy13 : sec.toInt ≤ 300) (hp_fc : zRg fc (0) 99) (hpz : Nat) : Met l yX5_first wsX5_first ({ frames := 7, cells := 0, slots := 0, locals := 181 }) (va_Pc [.ref w0, .int 2, .int d, .int sec] (zW D (zKT cI cJ cZ cP cS) po [(w0, .inr (5, [.ref wk, .ref wl, .ref wc, .ref wp, .int wn, .int wh, .int wg])), (wl, .inl (cI, 125, .inl fl)), (wc, .inl (cI, 3, .inl fc)), (wp, .inl (cP, 8, .inr (.inr (.inr (.inr fq)))))] hpz)) (va_Qi (fun (r : Int32) (fl2 : (Nat → Int32)) => (zKn kq aq tq wn.toInt.toNat wh.toInt (fc 0).toInt (fc 1).toInt (fc 2).toInt wg.toInt fl2) ∧ (r.toInt = (if d.toInt = 0 then -1 else if zFf tq d.toInt sec.toInt ((zLn kq aq tq wn.toInt.toNat wh.toInt (fc 0).toInt (fc 1).toInt (fc 2).toInt 2) d.toInt sec.toInt) (zLv (zLn kq aq tq wn.toInt.toNat wh.toInt (fc 0).toInt (fc 1).toInt (fc 2).toInt 1) kq aq tq (fc 0).toInt (zPw 2) wh.toInt d.toInt sec.toInt) wn.toInt.toNat = -1 then (if (30 ≤ sec.toInt ∧ (fc 1).toInt ≤ (fc 2).toInt) then 101 else 100) else zFf tq d.toInt sec.toInt ((zLn kq aq tq wn.toInt.toNat wh.toInt (fc 0).toInt (fc 1).toInt (fc 2).toInt 2) d.toInt sec.toInt) (zLv (zLn kq aq tq wn.toInt.toNat wh.toInt (fc 0).toInt (fc 1).toInt (fc 2).toInt 1) kq aq tq (fc 0).toInt (zPw 2) wh.toInt d.toInt sec.toInt) wn.toInt.toNat)) ∧ (-1 ≤ r.toInt ∧ r.toInt ≤ 101)) (zB D [(w0, .inr (5, [.ref wk, .ref wl, .ref wc, .ref wp, .int wn, .int wh, .int wg])), (wl, .inl (cI, 125, .inl fl)), (wc, .inl (cI, 3, .inl fc)), (wp, .inl (cP, 8, .inr (.inr (.inr (.inr fq)))))] hpz (fun (fl2 : Nat → Int32) => [(w0, .inr (5, [.ref wk, .ref wl, .ref wc, .ref wp, .int wn, .int wh, .int wg])), (wl, .inl (cI, 125, .inl fl2)), (wc, .inl (cI, 3, .inl fc)), (wp, .inl (cP, 8, .inr (.inr (.inr (.inr fq)))))])) (va_A [(w0, .inr (5, [.ref wk, .ref wl, .ref wc, .ref wp, .int wn, .int wh, .int wg])), (wl, .inl (cI, 125, .inl fl)), (wc, .inl (cI, 3, .inl fc)), (wp, .inl (cP, 8, .inr (.inr (.inr (.inr fq)))))] hpz)) 0 0 (va_A [(w0, .inr (5, [.ref wk, .ref wl, .ref wc, .ref wp, .int wn, .int wh, .int wg])), (wl, .inl (cI, 125, .inl fl)), (wc, .inl (cI, 3, .inl fc)), (wp, .inl (cP, 8, .inr (.inr (.inr (.inr fq)))))] hpz) := by
  refine Met.ofW (cc := cX5_first) (maxL := 7) (ret := (some .int)) (by decide) rfl ?_
  intro p e s m args below meth c s₁ B hml hv
  obtain ⟨rfl, hsz, hP, hK, hD0, hN, hZ⟩ := hv
  have hx := B.exec
  have hb := B.bytes
  have hr := B.returns
  have hts := atoms_spec (ws := wsX5_first) B.pre
  have hown : s.vm.findClass RX5 = some m.cls := findClass_of_methodNamed B.named
  have hlocks := B.notSynchronized
  subst hsz
  have hD := hD0.self (sz := s.heap.size)
  have hA := zA_of hD
  have hl := lv_entry ([.ref w0, .int 2, .int d, .int sec]) (n := 7) (Nat.le_of_ble_eq_true rfl)
  rw [lg_entry_eq]
  generalize (lg_sl ([.ref w0, .int 2, .int d, .int sec]) ++ List.replicate (7 - (lg_sl ([.ref w0, .int 2, .int d, .int sec])).length) Slot.unset).toArray = ls at hl ⊢
  replace hl : lv_has ls 7 [(0, .ref w0), (1, .int 2), (2, .int d), (3, .int sec)] := hl
  refine zw_begin hP hD (fun H locs hP1 hS => ?_)
  clear hP
  have hP := hP1
  clear hP1
  refine lv_iload_n hx hb dX5_first_0 rfl (lv_at hl 2 rfl) ?_
  refine lv_if_ne (tgt := 6) hx hb dX5_first_1 (by decide) (fun c_1 => ?_) (fun c_1 => ?_)
  · have fc_1 : d.toInt ≠ 0 := zf_ne c_1 rfl (by decide)
    refine lv_aload_n hx hb dX5_first_6 rfl (lv_at hl 0 rfl) ?_
    refine lv_iload_n hx hb dX5_first_7 rfl (lv_at hl 1 rfl) ?_
    refine lv_iload_n hx hb dX5_first_8 rfl (lv_at hl 2 rfl) ?_
    refine lv_iload_n hx hb dX5_first_9 rfl (lv_at hl 3 rfl) ?_
    skip
    refine zw_V (As := [.int 2, .int d, .int sec]) (rest := []) (wr := []) ⟨hx, hb, hml, hown, hts⟩ (c_F_W_least_2 l D cI cJ cZ cP cS po w0 wk wl wc wp (wn) (wh) (wg) fq kq aq tq (tw) fl fc (d) (sec) hy0 hy1 hy2 hy3 hy4 hy5 hjw (by first | assumption | omega) (by first | assumption | omega) (by first | assumption | omega | decide) hy10 hy11 hy12 hy13 hp_fc H.size) (cwV 3 hts gX5_first_X5_least rfl rfl rfl ⟨rfl, dh_X5_least⟩ ⟨Nat.le_of_ble_eq_true rfl, Nat.le_of_ble_eq_true rfl⟩) hK hN (hZ.kept hS) hP hD hS hA [0, 1, 2, 3] [] rfl rfl (by decide) (by decide) (by decide) (va_recv (q := (RX5, TX5, 7)) hK hP (ci := 5) (q0 := 0) rfl rfl) rfl hl.1 rfl (Nat.le_of_ble_eq_true rfl) dX5_first_10 ⟨Nat.le_of_ble_eq_true rfl, Nat.le_of_ble_eq_true rfl⟩ (fun r_2 u_3 H locs hr_2 hP hD hS => ?_)
    obtain ⟨q_4, rfl⟩ : ∃ z, z = u_3 := ⟨_, rfl⟩
    obtain ⟨hsr_2_0, hsr_2_1, hr_2⟩ := hr_2
    have h9R := zRe (ws' := [(w0, .inr (5, [.ref wk, .ref wl, .ref wc, .ref wp, .int wn, .int wh, .int wg])), (wl, .inl (cI, 125, .inl q_4)), (wc, .inl (cI, 3, .inl fc)), (wp, .inl (cP, 8, .inr (.inr (.inr (.inr fq)))))]) hP hD rfl
    clear hP hD
    obtain ⟨hP, hD⟩ := h9R
    obtain ⟨g_5, g_6⟩ := hr_2
    refine lv_istore (lv' := [(4, .int r_2), (0, .ref w0), (1, .int 2), (2, .int d), (3, .int sec)]) hx hb dX5_first_13 hl (by decide) rfl (fun ls hl => ?_)
    refine lv_iconst (v := 0) hx hb dX5_first_15 (by decide) ?_
    refine lv_istore (lv' := [(5, .int 0), (4, .int r_2), (0, .ref w0), (1, .int 2), (2, .int d), (3, .int sec)]) hx hb dX5_first_16 hl (by decide) rfl (fun ls hl => ?_)
    obtain ⟨i_18, hi_18⟩ : ∃ i : Int32, i = 0 := ⟨_, rfl⟩
    replace hl : lv_has ls 7 [(5, .int i_18), (4, .int r_2), (0, .ref w0), (1, .int 2), (2, .int d), (3, .int sec)] := by rw [hi_18]; exact lv_sub hl [0, 1, 2, 3, 4, 5] rfl
    have h1i_18 : i_18.toInt = 0 := by rw [hi_18]; decide
    obtain ⟨nfu, hni_18⟩ : ∃ nq9 : Nat, wn.toInt ≤ i_18.toInt + (nq9 : Int) := ⟨((wn.toInt : Int) - 0).toNat, by omega⟩
    have hloi_18 : 0 ≤ i_18.toInt := by omega
    obtain ⟨g_7, hg_7⟩ : ∃ g : Nat → Int32, g = q_4 := ⟨_, rfl⟩
    replace hP : va_P D vwCl [(w0, .inr (5, [.ref wk, .ref wl, .ref wc, .ref wp, .int wn, .int wh, .int wg])), (wl, .inl (cI, 125, .inl g_7)), (wc, .inl (cI, 3, .inl fc)), (wp, .inl (cP, 8, .inr (.inr (.inr (.inr fq)))))] H := by rw [hg_7]; exact hP
    replace hD : va_D (va_A [(w0, .inr (5, [.ref wk, .ref wl, .ref wc, .ref wp, .int wn, .int wh, .int wg])), (wl, .inl (cI, 125, .inl fl)), (wc, .inl (cI, 3, .inl fc)), (wp, .inl (cP, 8, .inr (.inr (.inr (.inr fq)))))] s.heap.size) [(w0, .inr (5, [.ref wk, .ref wl, .ref wc, .ref wp, .int wn, .int wh, .int wg])), (wl, .inl (cI, 125, .inl g_7)), (wc, .inl (cI, 3, .inl fc)), (wp, .inl (cP, 8, .inr (.inr (.inr (.inr fq)))))] := by rw [hg_7]; exact hD
    have hvi_18_0 : zKn kq aq tq wn.toInt.toNat wh.toInt (fc 0).toInt (fc 1).toInt (fc 2).toInt wg.toInt g_7 := by
      (try rw [hi_18]); (try rw [hg_7]); exact hsr_2_0
    have hvi_18_1 : zFf tq d.toInt sec.toInt ((zLn kq aq tq wn.toInt.toNat wh.toInt (fc 0).toInt (fc 1).toInt (fc 2).toInt 2) d.toInt sec.toInt) (zLv (zLn kq aq tq wn.toInt.toNat wh.toInt (fc 0).toInt (fc 1).toInt (fc 2).toInt 1) kq aq tq (fc 0).toInt (zPw 2) wh.toInt d.toInt sec.toInt) i_18.toInt.toNat = -1 := by
      (try rw [hi_18]); (try rw [hg_7]); (rw [(show ((0 : Int32).toInt.toNat) = 0 from by decide)]; rfl)
    have hvi_18_2 : i_18.toInt ≤ wn.toInt := by
      (try rw [hi_18]); (try rw [hg_7]); (have k0 : (0 : Int32).toInt = 0 := (by decide); omega)
    clear h1i_18 hi_18 hg_7
    skip
    revert hni_18
    revert hloi_18
    revert hvi_18_2
    revert hvi_18_1
    revert hvi_18_0
    revert hl
    revert hS
    revert hD
    revert hP
    revert ls
    revert locs
    revert H
    revert g_7
    revert i_18
    induction nfu with
    | zero =>
      intro i_18 g_7 H locs ls hP hD hS hl hvi_18_0 hvi_18_1 hvi_18_2 hloi_18 hni_18
      have hzi_18 : wn.toInt ≤ i_18.toInt := by omega
      refine lv_iload hx hb dX5_first_18 (lv_at hl 0 rfl) ?_
      refine lv_aload_n hx hb dX5_first_20 rfl (lv_at hl 2 rfl) ?_
      refine va_get (D := D) (ci := 5) (v := .int wn) (C := RX5) (T := TX5) (N := 7) hx hb hts hi_X5_first_5 hown hK hP 0 rfl rfl 4 (by decide) (hts (.fieldLink RX5 27 "TheLiningsInIt$Ways" "count" "I") (List.mem_of_getElem? (i := 1) rfl)) (fun _ h9 => h9) rfl dX5_first_21 ?_
      refine lv_icmp_ge (tgt := 69) hx hb dX5_first_24 (by decide) (fun c_8 => ?_) (fun c_8 => ?_)
      · have fc_8 : wn.toInt ≤ i_18.toInt := zf_le c_8 rfl rfl
        refine lv_aload_n hx hb dX5_first_69 rfl (lv_at hl 2 rfl) ?_
        refine lv_iload_n hx hb dX5_first_70 rfl (lv_at hl 5 rfl) ?_
        refine zc_V (As := [.int sec]) (rest := []) ⟨hx, hb, hml, hown, hts⟩ (c_F_W_headIsCheapest l D cI cJ cZ cP cS po w0 wk wl wc wp (wn) (wh) (wg) fc (sec) hy0 hy1 hy2 hy3 hy4 hy5 hy12 hy13 hp_fc) (cwV 1 hts gX5_first_X5_headIsCheapest rfl rfl rfl ⟨rfl, dh_X5_headIsCheapest⟩ ⟨Nat.le_of_ble_eq_true rfl, Nat.le_of_ble_eq_true rfl⟩) hK hN (hZ.kept hS) hP (hP.sub [0, 2] rfl) (va_recv (q := (RX5, TX5, 7)) hK hP (ci := 5) (q0 := 0) rfl rfl) rfl hl.1 rfl (Nat.le_of_ble_eq_true rfl) dX5_first_71 ⟨Nat.le_of_ble_eq_true rfl, Nat.le_of_ble_eq_true rfl⟩ (fun r_9 hr_9 => ?_)
        obtain ⟨g_10, g_11, hsr_9_0⟩ := hr_9
        refine lv_if_eq (tgt := 82) hx hb dX5_first_74 (by decide) (fun c_12 => ?_) (fun c_12 => ?_)
        · have fc_12 : r_9.toInt = 0 := zf_eq c_12 rfl (by decide)
          refine lv_bipush (v := 100) hx hb dX5_first_82 (by decide) ?_
          exact W.iret (v := 100) hx hb hr (fun t ht hW => ⟨⟨100, g_7, rfl, ⟨(show zKn kq aq tq wn.toInt.toNat wh.toInt (fc 0).toInt (fc 1).toInt (fc 2).toInt wg.toInt g_7 from by exact hvi_18_0), (show (100 : Int32).toInt = (if d.toInt = 0 then -1 else if zFf tq d.toInt sec.toInt ((zLn kq aq tq wn.toInt.toNat wh.toInt (fc 0).toInt (fc 1).toInt (fc 2).toInt 2) d.toInt sec.toInt) (zLv (zLn kq aq tq wn.toInt.toNat wh.toInt (fc 0).toInt (fc 1).toInt (fc 2).toInt 1) kq aq tq (fc 0).toInt (zPw 2) wh.toInt d.toInt sec.toInt) wn.toInt.toNat = -1 then (if (30 ≤ sec.toInt ∧ (fc 1).toInt ≤ (fc 2).toInt) then 101 else 100) else zFf tq d.toInt sec.toInt ((zLn kq aq tq wn.toInt.toNat wh.toInt (fc 0).toInt (fc 1).toInt (fc 2).toInt 2) d.toInt sec.toInt) (zLv (zLn kq aq tq wn.toInt.toNat wh.toInt (fc 0).toInt (fc 1).toInt (fc 2).toInt 1) kq aq tq (fc 0).toInt (zPw 2) wh.toInt d.toInt sec.toInt) wn.toInt.toNat) from by (have k1 : (101 : Int32).toInt = 101 := (by decide); have k2 : (100 : Int32).toInt = 100 := (by decide); have h9 : i_18.toInt.toNat = wn.toInt.toNat := (by omega); have z := hvi_18_1; rw [h9] at z; rw [if_neg (by omega), if_pos z]; have zh := hsr_9_0; first | (rw [if_pos (zh.1 (by omega))]; omega) | (rw [if_neg (zh.2 (by omega))]; omega))), ⟨by decide, by decide⟩⟩, zRet ht hP hD [0, 1, 2, 3] (by decide) rfl⟩, hS.F ht⟩) hS.2.2 dX5_first_84
        · have fc_12 : r_9.toInt ≠ 0 := zf_ne c_12 rfl (by decide)
          refine lv_bipush (v := 101) hx hb dX5_first_77 (by decide) ?_
          refine lv_goto (tgt := 84) hx hb dX5_first_79 (by decide) ?_
          exact W.iret (v := 101) hx hb hr (fun t ht hW => ⟨⟨101, g_7, rfl, ⟨(show zKn kq aq tq wn.toInt.toNat wh.toInt (fc 0).toInt (fc 1).toInt (fc 2).toInt wg.toInt g_7 from by exact hvi_18_0), (show (101 : Int32).toInt = (if d.toInt = 0 then -1 else if zFf tq d.toInt sec.toInt ((zLn kq aq tq wn.toInt.toNat wh.toInt (fc 0).toInt (fc 1).toInt (fc 2).toInt 2) d.toInt sec.toInt) (zLv (zLn kq aq tq wn.toInt.toNat wh.toInt (fc 0).toInt (fc 1).toInt (fc 2).toInt 1) kq aq tq (fc 0).toInt (zPw 2) wh.toInt d.toInt sec.toInt) wn.toInt.toNat = -1 then (if (30 ≤ sec.toInt ∧ (fc 1).toInt ≤ (fc 2).toInt) then 101 else 100) else zFf tq d.toInt sec.toInt ((zLn kq aq tq wn.toInt.toNat wh.toInt (fc 0).toInt (fc 1).toInt (fc 2).toInt 2) d.toInt sec.toInt) (zLv (zLn kq aq tq wn.toInt.toNat wh.toInt (fc 0).toInt (fc 1).toInt (fc 2).toInt 1) kq aq tq (fc 0).toInt (zPw 2) wh.toInt d.toInt sec.toInt) wn.toInt.toNat) from by (have k1 : (101 : Int32).toInt = 101 := (by decide); have k2 : (100 : Int32).toInt = 100 := (by decide); have h9 : i_18.toInt.toNat = wn.toInt.toNat := (by omega); have z := hvi_18_1; rw [h9] at z; rw [if_neg (by omega), if_pos z]; have zh := hsr_9_0; first | (rw [if_pos (zh.1 (by omega))]; omega) | (rw [if_neg (zh.2 (by omega))]; omega))), ⟨by decide, by decide⟩⟩, zRet ht hP hD [0, 1, 2, 3] (by decide) rfl⟩, hS.F ht⟩) hS.2.2 dX5_first_84
      · exfalso; have fc_8 : i_18.toInt < wn.toInt := zf_nle c_8 rfl rfl; omega
    | succ nfu ih =>
      intro i_18 g_7 H locs ls hP hD hS hl hvi_18_0 hvi_18_1 hvi_18_2 hloi_18 hni_18
      refine lv_iload hx hb dX5_first_18 (lv_at hl 0 rfl) ?_
      refine lv_aload_n hx hb dX5_first_20 rfl (lv_at hl 2 rfl) ?_
      refine va_get (D := D) (ci := 5) (v := .int wn) (C := RX5) (T := TX5) (N := 7) hx hb hts hi_X5_first_5 hown hK hP 0 rfl rfl 4 (by decide) (hts (.fieldLink RX5 27 "TheLiningsInIt$Ways" "count" "I") (List.mem_of_getElem? (i := 1) rfl)) (fun _ h9 => h9) rfl dX5_first_21 ?_
      refine lv_icmp_ge (tgt := 69) hx hb dX5_first_24 (by decide) (fun c_13 => ?_) (fun c_13 => ?_)
      · have fc_13 : wn.toInt ≤ i_18.toInt := zf_le c_13 rfl rfl
        refine lv_aload_n hx hb dX5_first_69 rfl (lv_at hl 2 rfl) ?_
        refine lv_iload_n hx hb dX5_first_70 rfl (lv_at hl 5 rfl) ?_
        refine zc_V (As := [.int sec]) (rest := []) ⟨hx, hb, hml, hown, hts⟩ (c_F_W_headIsCheapest l D cI cJ cZ cP cS po w0 wk wl wc wp (wn) (wh) (wg) fc (sec) hy0 hy1 hy2 hy3 hy4 hy5 hy12 hy13 hp_fc) (cwV 1 hts gX5_first_X5_headIsCheapest rfl rfl rfl ⟨rfl, dh_X5_headIsCheapest⟩ ⟨Nat.le_of_ble_eq_true rfl, Nat.le_of_ble_eq_true rfl⟩) hK hN (hZ.kept hS) hP (hP.sub [0, 2] rfl) (va_recv (q := (RX5, TX5, 7)) hK hP (ci := 5) (q0 := 0) rfl rfl) rfl hl.1 rfl (Nat.le_of_ble_eq_true rfl) dX5_first_71 ⟨Nat.le_of_ble_eq_true rfl, Nat.le_of_ble_eq_true rfl⟩ (fun r_14 hr_14 => ?_)
        obtain ⟨g_15, g_16, hsr_14_0⟩ := hr_14
        refine lv_if_eq (tgt := 82) hx hb dX5_first_74 (by decide) (fun c_17 => ?_) (fun c_17 => ?_)
        · have fc_17 : r_14.toInt = 0 := zf_eq c_17 rfl (by decide)
          refine lv_bipush (v := 100) hx hb dX5_first_82 (by decide) ?_
          exact W.iret (v := 100) hx hb hr (fun t ht hW => ⟨⟨100, g_7, rfl, ⟨(show zKn kq aq tq wn.toInt.toNat wh.toInt (fc 0).toInt (fc 1).toInt (fc 2).toInt wg.toInt g_7 from by exact hvi_18_0), (show (100 : Int32).toInt = (if d.toInt = 0 then -1 else if zFf tq d.toInt sec.toInt ((zLn kq aq tq wn.toInt.toNat wh.toInt (fc 0).toInt (fc 1).toInt (fc 2).toInt 2) d.toInt sec.toInt) (zLv (zLn kq aq tq wn.toInt.toNat wh.toInt (fc 0).toInt (fc 1).toInt (fc 2).toInt 1) kq aq tq (fc 0).toInt (zPw 2) wh.toInt d.toInt sec.toInt) wn.toInt.toNat = -1 then (if (30 ≤ sec.toInt ∧ (fc 1).toInt ≤ (fc 2).toInt) then 101 else 100) else zFf tq d.toInt sec.toInt ((zLn kq aq tq wn.toInt.toNat wh.toInt (fc 0).toInt (fc 1).toInt (fc 2).toInt 2) d.toInt sec.toInt) (zLv (zLn kq aq tq wn.toInt.toNat wh.toInt (fc 0).toInt (fc 1).toInt (fc 2).toInt 1) kq aq tq (fc 0).toInt (zPw 2) wh.toInt d.toInt sec.toInt) wn.toInt.toNat) from by (have k1 : (101 : Int32).toInt = 101 := (by decide); have k2 : (100 : Int32).toInt = 100 := (by decide); have h9 : i_18.toInt.toNat = wn.toInt.toNat := (by omega); have z := hvi_18_1; rw [h9] at z; rw [if_neg (by omega), if_pos z]; have zh := hsr_14_0; first | (rw [if_pos (zh.1 (by omega))]; omega) | (rw [if_neg (zh.2 (by omega))]; omega))), ⟨by decide, by decide⟩⟩, zRet ht hP hD [0, 1, 2, 3] (by decide) rfl⟩, hS.F ht⟩) hS.2.2 dX5_first_84
        · have fc_17 : r_14.toInt ≠ 0 := zf_ne c_17 rfl (by decide)
          refine lv_bipush (v := 101) hx hb dX5_first_77 (by decide) ?_
          refine lv_goto (tgt := 84) hx hb dX5_first_79 (by decide) ?_
          exact W.iret (v := 101) hx hb hr (fun t ht hW => ⟨⟨101, g_7, rfl, ⟨(show zKn kq aq tq wn.toInt.toNat wh.toInt (fc 0).toInt (fc 1).toInt (fc 2).toInt wg.toInt g_7 from by exact hvi_18_0), (show (101 : Int32).toInt = (if d.toInt = 0 then -1 else if zFf tq d.toInt sec.toInt ((zLn kq aq tq wn.toInt.toNat wh.toInt (fc 0).toInt (fc 1).toInt (fc 2).toInt 2) d.toInt sec.toInt) (zLv (zLn kq aq tq wn.toInt.toNat wh.toInt (fc 0).toInt (fc 1).toInt (fc 2).toInt 1) kq aq tq (fc 0).toInt (zPw 2) wh.toInt d.toInt sec.toInt) wn.toInt.toNat = -1 then (if (30 ≤ sec.toInt ∧ (fc 1).toInt ≤ (fc 2).toInt) then 101 else 100) else zFf tq d.toInt sec.toInt ((zLn kq aq tq wn.toInt.toNat wh.toInt (fc 0).toInt (fc 1).toInt (fc 2).toInt 2) d.toInt sec.toInt) (zLv (zLn kq aq tq wn.toInt.toNat wh.toInt (fc 0).toInt (fc 1).toInt (fc 2).toInt 1) kq aq tq (fc 0).toInt (zPw 2) wh.toInt d.toInt sec.toInt) wn.toInt.toNat) from by (have k1 : (101 : Int32).toInt = 101 := (by decide); have k2 : (100 : Int32).toInt = 100 := (by decide); have h9 : i_18.toInt.toNat = wn.toInt.toNat := (by omega); have z := hvi_18_1; rw [h9] at z; rw [if_neg (by omega), if_pos z]; have zh := hsr_14_0; first | (rw [if_pos (zh.1 (by omega))]; omega) | (rw [if_neg (zh.2 (by omega))]; omega))), ⟨by decide, by decide⟩⟩, zRet ht hP hD [0, 1, 2, 3] (by decide) rfl⟩, hS.F ht⟩) hS.2.2 dX5_first_84
      · have fc_13 : i_18.toInt < wn.toInt := zf_nle c_13 rfl rfl
        refine lv_iload_n hx hb dX5_first_27 rfl (lv_at hl 3 rfl) ?_
        refine lv_if_le (tgt := 69) hx hb dX5_first_28 (by decide) (fun c_18 => ?_) (fun c_18 => ?_)
        · exact absurd c_18 (by decide)
        · refine lv_aload_n hx hb dX5_first_31 rfl (lv_at hl 2 rfl) ?_
          refine lv_iload hx hb dX5_first_32 (lv_at hl 0 rfl) ?_
          refine lv_iload_n hx hb dX5_first_34 rfl (lv_at hl 4 rfl) ?_
          refine lv_iload_n hx hb dX5_first_35 rfl (lv_at hl 5 rfl) ?_
          refine zc_Vq (As := [.int i_18, .int d, .int sec]) (rest := []) ⟨hx, hb, hml, hown, hts⟩ (c_F_W_mayBeAt l D cI cJ cZ cP cS po w0 wk wl wc wp (wn) (wh) (wg) fq kq aq tq (tw) (i_18) (d) (sec) hy0 hy1 hy2 hy3 hy4 hy5 hjw (by omega) (by omega) (by omega) hy12 hy13) (cwV 3 hts gX5_first_X5_mayBeAt rfl rfl rfl ⟨rfl, dh_X5_mayBeAt⟩ ⟨Nat.le_of_ble_eq_true rfl, Nat.le_of_ble_eq_true rfl⟩) hK hN (hZ.kept hS) hP (hP.sub [0, 3] rfl) (va_recv (q := (RX5, TX5, 7)) hK hP (ci := 5) (q0 := 0) rfl rfl) rfl hl.1 rfl (Nat.le_of_ble_eq_true rfl) dX5_first_36 ⟨Nat.le_of_ble_eq_true rfl, Nat.le_of_ble_eq_true rfl⟩ (fun r_19 hr_19 => ?_)
          rcases hr_19 with ⟨rfl, hn_20⟩ | ⟨rfl, hn_22, g_21⟩ | ⟨rfl, hn_24, g_23⟩ | ⟨⟨u_26, kiu_26, au_26, tu_26, rfl, huu_26, hkku_26⟩, g_25⟩
          · refine lv_astoreN (lv' := [(6, .null), (5, .int i_18), (4, .int r_2), (0, .ref w0), (1, .int 2), (2, .int d), (3, .int sec)]) hx hb dX5_first_39 hl (by decide) rfl (fun ls hl => ?_)
            refine lv_aloadN hx hb dX5_first_41 (lv_at hl 0 rfl) ?_
            refine lv_ifnullN (tgt := 63) hx hb dX5_first_43 (by decide) ?_
            obtain ⟨x_27, ex_27⟩ : ∃ y : Int32, y = i_18 + 1 := ⟨_, rfl⟩
            have qx_27 : x_27.toInt = i_18.toInt + 1 := dw_inc ex_27 fc_13
            refine lv_iinc (v := x_27) (lv' := [(5, .int x_27), (6, .null), (4, .int r_2), (0, .ref w0), (1, .int 2), (2, .int d), (3, .int sec)]) hx hb dX5_first_63 hl (k := 1) rfl ex_27.symm (by decide) rfl (fun ls hl => ?_)
            refine lv_goto (tgt := 18) hx hb dX5_first_66 (by decide) ?_
            exact ih x_27 (g_7) _ _ _ (hP.sub [0, 1, 2, 3] rfl) (hD.sub [0, 1, 2, 3] (by decide) rfl) hS (lv_sub hl [0, 2, 3, 4, 5, 6] rfl) (show zKn kq aq tq wn.toInt.toNat wh.toInt (fc 0).toInt (fc 1).toInt (fc 2).toInt wg.toInt g_7 from by exact hvi_18_0) (show zFf tq d.toInt sec.toInt ((zLn kq aq tq wn.toInt.toNat wh.toInt (fc 0).toInt (fc 1).toInt (fc 2).toInt 2) d.toInt sec.toInt) (zLv (zLn kq aq tq wn.toInt.toNat wh.toInt (fc 0).toInt (fc 1).toInt (fc 2).toInt 1) kq aq tq (fc 0).toInt (zPw 2) wh.toInt d.toInt sec.toInt) x_27.toInt.toNat = -1 from by (have hx : x_27.toInt.toNat = i_18.toInt.toNat + 1 := (by omega); have y4 := hn_20; have y9 : i_18.toNatClampNeg = i_18.toInt.toNat := rfl; rw [y9] at y4; rw [hx]; exact zFf_nx hvi_18_1 (fun z => y4 ⟨z.1.1, z.1.2, Or.inl (by omega)⟩))) (show x_27.toInt ≤ wn.toInt from by omega) (dw_lo hloi_18 qx_27) (dw_hn hni_18 qx_27)
          · exfalso; omega
          · refine lv_astoreN (lv' := [(6, .null), (5, .int i_18), (4, .int r_2), (0, .ref w0), (1, .int 2), (2, .int d), (3, .int sec)]) hx hb dX5_first_39 hl (by decide) rfl (fun ls hl => ?_)
            refine lv_aloadN hx hb dX5_first_41 (lv_at hl 0 rfl) ?_
            refine lv_ifnullN (tgt := 63) hx hb dX5_first_43 (by decide) ?_
            obtain ⟨x_28, ex_28⟩ : ∃ y : Int32, y = i_18 + 1 := ⟨_, rfl⟩
            have qx_28 : x_28.toInt = i_18.toInt + 1 := dw_inc ex_28 fc_13
            refine lv_iinc (v := x_28) (lv' := [(5, .int x_28), (6, .null), (4, .int r_2), (0, .ref w0), (1, .int 2), (2, .int d), (3, .int sec)]) hx hb dX5_first_63 hl (k := 1) rfl ex_28.symm (by decide) rfl (fun ls hl => ?_)
            refine lv_goto (tgt := 18) hx hb dX5_first_66 (by decide) ?_
            exact ih x_28 (g_7) _ _ _ (hP.sub [0, 1, 2, 3] rfl) (hD.sub [0, 1, 2, 3] (by decide) rfl) hS (lv_sub hl [0, 2, 3, 4, 5, 6] rfl) (show zKn kq aq tq wn.toInt.toNat wh.toInt (fc 0).toInt (fc 1).toInt (fc 2).toInt wg.toInt g_7 from by exact hvi_18_0) (show zFf tq d.toInt sec.toInt ((zLn kq aq tq wn.toInt.toNat wh.toInt (fc 0).toInt (fc 1).toInt (fc 2).toInt 2) d.toInt sec.toInt) (zLv (zLn kq aq tq wn.toInt.toNat wh.toInt (fc 0).toInt (fc 1).toInt (fc 2).toInt 1) kq aq tq (fc 0).toInt (zPw 2) wh.toInt d.toInt sec.toInt) x_28.toInt.toNat = -1 from by (have hx : x_28.toInt.toNat = i_18.toInt.toNat + 1 := (by omega); have y4 := hn_24; have y9 : i_18.toNatClampNeg = i_18.toInt.toNat := rfl; rw [y9] at y4; rw [hx]; exact zFf_nx hvi_18_1 (fun z => y4 ⟨z.1.1, z.1.2, Or.inl (by omega)⟩))) (show x_28.toInt ≤ wn.toInt from by omega) (dw_lo hloi_18 qx_28) (dw_hn hni_18 qx_28)
          · refine W.eq (g2 := F0 m 39 ls (.ref u_26 :: [])) rfl ?_
            obtain ⟨hku_26, hau_26, htu_26⟩ := zPu_pr (hZ.kept hS) huu_26
            refine lv_astore (lv' := [(6, .ref u_26), (5, .int i_18), (4, .int r_2), (0, .ref w0), (1, .int 2), (2, .int d), (3, .int sec)]) hx hb dX5_first_39 hl (by decide) rfl (fun ls hl => ?_)
            refine lv_aload hx hb dX5_first_41 (lv_at hl 0 rfl) ?_
            refine lv_ifnull hx hb dX5_first_43 ?_
            refine lv_aload_n hx hb dX5_first_46 rfl (lv_at hl 3 rfl) ?_
            refine lv_aload hx hb dX5_first_47 (lv_at hl 0 rfl) ?_
            refine lv_iload_n hx hb dX5_first_49 rfl (lv_at hl 4 rfl) ?_
            refine lv_iload_n hx hb dX5_first_50 rfl (lv_at hl 5 rfl) ?_
            refine lv_iload_n hx hb dX5_first_51 rfl (lv_at hl 6 rfl) ?_
            have tsu_26 : tu_26.toInt ≤ sec.toInt := by (obtain ⟨⟨y1, y2, y3⟩, y4⟩ := hkku_26; have z := y4.2.1; rw [y3]; exact z)
            skip
            refine zw_V (As := [.ref u_26, .int 2, .int d, .int sec]) (rest := []) (wr := []) ⟨hx, hb, hml, hown, hts⟩ (c_F_W_leastBy_2 l D cI cJ cZ cP cS po w0 wk wl wc wp (wn) (wh) (wg) fq kq aq tq (tw) g_7 fc (d) (sec) u_26 (kiu_26) (au_26) (tu_26) huu_26 ⟨by omega, by omega, by omega, by omega⟩ hy0 hy1 hy2 hy3 hy4 hy5 hjw (by first | assumption | omega) (by first | assumption | omega) (by first | assumption | omega | decide) hy10 hy11 hy12 hy13 (by omega) hp_fc H.size) (cwV 4 hts gX5_first_X5_leastBy rfl rfl rfl ⟨rfl, dh_X5_leastBy⟩ ⟨Nat.le_of_ble_eq_true rfl, Nat.le_of_ble_eq_true rfl⟩) hK hN (hZ.kept hS) hP hD hS hA [0, 1, 2, 3] [] rfl rfl (by decide) (by decide) (by decide) (va_recv (q := (RX5, TX5, 7)) hK hP (ci := 5) (q0 := 0) rfl rfl) rfl hl.1 rfl (Nat.le_of_ble_eq_true rfl) dX5_first_52 ⟨Nat.le_of_ble_eq_true rfl, Nat.le_of_ble_eq_true rfl⟩ (fun r_29 u_30 H locs hr_29 hP hD hS => ?_)
            obtain ⟨q_31, rfl⟩ : ∃ z, z = u_30 := ⟨_, rfl⟩
            obtain ⟨hsr_29_0, hsr_29_1, hr_29⟩ := hr_29
            have h9R := zRe (ws' := [(w0, .inr (5, [.ref wk, .ref wl, .ref wc, .ref wp, .int wn, .int wh, .int wg])), (wl, .inl (cI, 125, .inl q_31)), (wc, .inl (cI, 3, .inl fc)), (wp, .inl (cP, 8, .inr (.inr (.inr (.inr fq)))))]) hP hD rfl
            clear hP hD
            obtain ⟨hP, hD⟩ := h9R
            obtain ⟨g_32, g_33⟩ := hr_29
            refine lv_iload hx hb dX5_first_55 (lv_at hl 2 rfl) ?_
            refine lv_icmp_ne (tgt := 63) hx hb dX5_first_57 (by decide) (fun c_34 => ?_) (fun c_34 => ?_)
            · have fc_34 : r_29.toInt ≠ r_2.toInt := zf_ne c_34 rfl rfl
              obtain ⟨x_35, ex_35⟩ : ∃ y : Int32, y = i_18 + 1 := ⟨_, rfl⟩
              have qx_35 : x_35.toInt = i_18.toInt + 1 := dw_inc ex_35 fc_13
              refine lv_iinc (v := x_35) (lv' := [(5, .int x_35), (6, .ref u_26), (4, .int r_2), (0, .ref w0), (1, .int 2), (2, .int d), (3, .int sec)]) hx hb dX5_first_63 hl (k := 1) rfl ex_35.symm (by decide) rfl (fun ls hl => ?_)
              refine lv_goto (tgt := 18) hx hb dX5_first_66 (by decide) ?_
              exact ih x_35 (q_31) _ _ _ (hP.sub [0, 1, 2, 3] rfl) (hD.sub [0, 1, 2, 3] (by decide) rfl) hS (lv_sub hl [0, 2, 3, 4, 5, 6] rfl) (show zKn kq aq tq wn.toInt.toNat wh.toInt (fc 0).toInt (fc 1).toInt (fc 2).toInt wg.toInt q_31 from by exact hsr_29_0) (show zFf tq d.toInt sec.toInt ((zLn kq aq tq wn.toInt.toNat wh.toInt (fc 0).toInt (fc 1).toInt (fc 2).toInt 2) d.toInt sec.toInt) (zLv (zLn kq aq tq wn.toInt.toNat wh.toInt (fc 0).toInt (fc 1).toInt (fc 2).toInt 1) kq aq tq (fc 0).toInt (zPw 2) wh.toInt d.toInt sec.toInt) x_35.toInt.toNat = -1 from by (have hx : x_35.toInt.toNat = i_18.toInt.toNat + 1 := (by omega); obtain ⟨⟨y1, y2, y3⟩, y4⟩ := hkku_26; have y9 : i_18.toNatClampNeg = i_18.toInt.toNat := rfl; rw [y9] at y1 y2 y3 y4; have zr := hsr_29_1; rw [y1, y2, y3] at zr; have zr2 : r_29.toInt = (zLv (zLn kq aq tq wn.toInt.toNat wh.toInt (fc 0).toInt (fc 1).toInt (fc 2).toInt 1) kq aq tq (fc 0).toInt (zPw 2) wh.toInt d.toInt sec.toInt) i_18.toInt.toNat := zr; have zl := hsr_2_1; rw [hx]; exact zFf_nx hvi_18_1 (fun z => by (have z2 := z.2; rw [← zr2, ← zl] at z2; omega)))) (show x_35.toInt ≤ wn.toInt from by omega) (dw_lo hloi_18 qx_35) (dw_hn hni_18 qx_35)
            · have fc_34 : r_29.toInt = r_2.toInt := zf_eq c_34 rfl rfl
              refine lv_iload hx hb dX5_first_60 (lv_at hl 1 rfl) ?_
              exact W.iret (v := i_18) hx hb hr (fun t ht hW => ⟨⟨i_18, q_31, rfl, ⟨(show zKn kq aq tq wn.toInt.toNat wh.toInt (fc 0).toInt (fc 1).toInt (fc 2).toInt wg.toInt q_31 from by exact hsr_29_0), (show (i_18 : Int32).toInt = (if d.toInt = 0 then -1 else if zFf tq d.toInt sec.toInt ((zLn kq aq tq wn.toInt.toNat wh.toInt (fc 0).toInt (fc 1).toInt (fc 2).toInt 2) d.toInt sec.toInt) (zLv (zLn kq aq tq wn.toInt.toNat wh.toInt (fc 0).toInt (fc 1).toInt (fc 2).toInt 1) kq aq tq (fc 0).toInt (zPw 2) wh.toInt d.toInt sec.toInt) wn.toInt.toNat = -1 then (if (30 ≤ sec.toInt ∧ (fc 1).toInt ≤ (fc 2).toInt) then 101 else 100) else zFf tq d.toInt sec.toInt ((zLn kq aq tq wn.toInt.toNat wh.toInt (fc 0).toInt (fc 1).toInt (fc 2).toInt 2) d.toInt sec.toInt) (zLv (zLn kq aq tq wn.toInt.toNat wh.toInt (fc 0).toInt (fc 1).toInt (fc 2).toInt 1) kq aq tq (fc 0).toInt (zPw 2) wh.toInt d.toInt sec.toInt) wn.toInt.toNat) from by (rw [if_neg (by omega)]; obtain ⟨⟨y1, y2, y3⟩, y4⟩ := hkku_26; have y9 : i_18.toNatClampNeg = i_18.toInt.toNat := rfl; rw [y9] at y1 y2 y3 y4; have zr := hsr_29_1; rw [y1, y2, y3] at zr; have zr2 : r_29.toInt = (zLv (zLn kq aq tq wn.toInt.toNat wh.toInt (fc 0).toInt (fc 1).toInt (fc 2).toInt 1) kq aq tq (fc 0).toInt (zPw 2) wh.toInt d.toInt sec.toInt) i_18.toInt.toNat := zr; have zl := hsr_2_1; have zf : zFf tq d.toInt sec.toInt ((zLn kq aq tq wn.toInt.toNat wh.toInt (fc 0).toInt (fc 1).toInt (fc 2).toInt 2) d.toInt sec.toInt) (zLv (zLn kq aq tq wn.toInt.toNat wh.toInt (fc 0).toInt (fc 1).toInt (fc 2).toInt 1) kq aq tq (fc 0).toInt (zPw 2) wh.toInt d.toInt sec.toInt) wn.toInt.toNat = (i_18.toInt.toNat : Int) := zFf_at hvi_18_1 ⟨y4.1, y4.2.1⟩ (by rw [← zr2, ← zl]; omega) (by omega); rw [if_neg (by rw [zf]; omega), zf]; omega)), ⟨by omega, by omega⟩⟩, zRet ht hP hD [0, 1, 2, 3] (by decide) rfl⟩, hS.F ht⟩) hS.2.2 dX5_first_62
  · have fc_1 : d.toInt = 0 := zf_eq c_1 rfl (by decide)
    refine lv_iconst (v := (-1)) hx hb dX5_first_4 (by decide) ?_
    exact W.iret (v := (-1)) hx hb hr (fun t ht hW => ⟨⟨(-1), fl, rfl, ⟨(show zKn kq aq tq wn.toInt.toNat wh.toInt (fc 0).toInt (fc 1).toInt (fc 2).toInt wg.toInt fl from by exact hkn), (show ((-1) : Int32).toInt = (if d.toInt = 0 then -1 else if zFf tq d.toInt sec.toInt ((zLn kq aq tq wn.toInt.toNat wh.toInt (fc 0).toInt (fc 1).toInt (fc 2).toInt 2) d.toInt sec.toInt) (zLv (zLn kq aq tq wn.toInt.toNat wh.toInt (fc 0).toInt (fc 1).toInt (fc 2).toInt 1) kq aq tq (fc 0).toInt (zPw 2) wh.toInt d.toInt sec.toInt) wn.toInt.toNat = -1 then (if (30 ≤ sec.toInt ∧ (fc 1).toInt ≤ (fc 2).toInt) then 101 else 100) else zFf tq d.toInt sec.toInt ((zLn kq aq tq wn.toInt.toNat wh.toInt (fc 0).toInt (fc 1).toInt (fc 2).toInt 2) d.toInt sec.toInt) (zLv (zLn kq aq tq wn.toInt.toNat wh.toInt (fc 0).toInt (fc 1).toInt (fc 2).toInt 1) kq aq tq (fc 0).toInt (zPw 2) wh.toInt d.toInt sec.toInt) wn.toInt.toNat) from by (have k9 : ((-1) : Int32).toInt = -1 := (by decide); rw [if_pos (by omega)]; exact k9)), ⟨by decide, by decide⟩⟩, zRet ht hP hD [0, 1, 2, 3] (by decide) rfl⟩, hS.F ht⟩) hS.2.2 dX5_first_5
set_option maxHeartbeats 4000000 in
set_option maxRecDepth 100000 in
theorem c_F_W_first_3 (l : Launch) (D : va_G) (cI cJ cZ cP cS : ClassId) (po : zPool) (w0 wk wl wc wp : Nat) (wn wh wg : Int32) (fq : Nat → Option Nat) (kq aq tq : Nat → Int32) (tw : Int32) (fl fc : Nat → Int32) (d sec : Int32) (hy0 : 0 ≤ wn.toInt) (hy1 : wn.toInt ≤ 8) (hy2 : 0 ≤ wh.toInt) (hy3 : wh.toInt ≤ 9) (hy4 : 0 ≤ wg.toInt) (hy5 : wg.toInt ≤ 60) (hjw : zJW po fq wn kq aq tq tw) (hkn : zKn kq aq tq wn.toInt.toNat wh.toInt (fc 0).toInt (fc 1).toInt (fc 2).toInt wg.toInt fl) (hgl : (∀ p : Nat, p < wn.toInt.toNat → (tq p).toInt ≤ wg.toInt)) (htw : tw.toInt = 1) (hy10 : 0 ≤ d.toInt) (hy11 : d.toInt ≤ 24) (hy12 : 0 ≤ sec.toInt) (hy13 : sec.toInt ≤ 300) (hp_fc : zRg fc (0) 99) (hpz : Nat) : Met l yX5_first wsX5_first ({ frames := 9, cells := 0, slots := 0, locals := 236 }) (va_Pc [.ref w0, .int 3, .int d, .int sec] (zW D (zKT cI cJ cZ cP cS) po [(w0, .inr (5, [.ref wk, .ref wl, .ref wc, .ref wp, .int wn, .int wh, .int wg])), (wl, .inl (cI, 125, .inl fl)), (wc, .inl (cI, 3, .inl fc)), (wp, .inl (cP, 8, .inr (.inr (.inr (.inr fq)))))] hpz)) (va_Qi (fun (r : Int32) (fl2 : (Nat → Int32)) => (zKn kq aq tq wn.toInt.toNat wh.toInt (fc 0).toInt (fc 1).toInt (fc 2).toInt wg.toInt fl2) ∧ (r.toInt = (if d.toInt = 0 then -1 else if zFf tq d.toInt sec.toInt ((zLn kq aq tq wn.toInt.toNat wh.toInt (fc 0).toInt (fc 1).toInt (fc 2).toInt 3) d.toInt sec.toInt) (zLv (zLn kq aq tq wn.toInt.toNat wh.toInt (fc 0).toInt (fc 1).toInt (fc 2).toInt 2) kq aq tq (fc 0).toInt (zPw 3) wh.toInt d.toInt sec.toInt) wn.toInt.toNat = -1 then (if (30 ≤ sec.toInt ∧ (fc 1).toInt ≤ (fc 2).toInt) then 101 else 100) else zFf tq d.toInt sec.toInt ((zLn kq aq tq wn.toInt.toNat wh.toInt (fc 0).toInt (fc 1).toInt (fc 2).toInt 3) d.toInt sec.toInt) (zLv (zLn kq aq tq wn.toInt.toNat wh.toInt (fc 0).toInt (fc 1).toInt (fc 2).toInt 2) kq aq tq (fc 0).toInt (zPw 3) wh.toInt d.toInt sec.toInt) wn.toInt.toNat)) ∧ (-1 ≤ r.toInt ∧ r.toInt ≤ 101)) (zB D [(w0, .inr (5, [.ref wk, .ref wl, .ref wc, .ref wp, .int wn, .int wh, .int wg])), (wl, .inl (cI, 125, .inl fl)), (wc, .inl (cI, 3, .inl fc)), (wp, .inl (cP, 8, .inr (.inr (.inr (.inr fq)))))] hpz (fun (fl2 : Nat → Int32) => [(w0, .inr (5, [.ref wk, .ref wl, .ref wc, .ref wp, .int wn, .int wh, .int wg])), (wl, .inl (cI, 125, .inl fl2)), (wc, .inl (cI, 3, .inl fc)), (wp, .inl (cP, 8, .inr (.inr (.inr (.inr fq)))))])) (va_A [(w0, .inr (5, [.ref wk, .ref wl, .ref wc, .ref wp, .int wn, .int wh, .int wg])), (wl, .inl (cI, 125, .inl fl)), (wc, .inl (cI, 3, .inl fc)), (wp, .inl (cP, 8, .inr (.inr (.inr (.inr fq)))))] hpz)) 0 0 (va_A [(w0, .inr (5, [.ref wk, .ref wl, .ref wc, .ref wp, .int wn, .int wh, .int wg])), (wl, .inl (cI, 125, .inl fl)), (wc, .inl (cI, 3, .inl fc)), (wp, .inl (cP, 8, .inr (.inr (.inr (.inr fq)))))] hpz) := by
  refine Met.ofW (cc := cX5_first) (maxL := 7) (ret := (some .int)) (by decide) rfl ?_
  intro p e s m args below meth c s₁ B hml hv
  obtain ⟨rfl, hsz, hP, hK, hD0, hN, hZ⟩ := hv
  have hx := B.exec
  have hb := B.bytes
  have hr := B.returns
  have hts := atoms_spec (ws := wsX5_first) B.pre
  have hown : s.vm.findClass RX5 = some m.cls := findClass_of_methodNamed B.named
  have hlocks := B.notSynchronized
  subst hsz
  have hD := hD0.self (sz := s.heap.size)
  have hA := zA_of hD
  have hl := lv_entry ([.ref w0, .int 3, .int d, .int sec]) (n := 7) (Nat.le_of_ble_eq_true rfl)
  rw [lg_entry_eq]
  generalize (lg_sl ([.ref w0, .int 3, .int d, .int sec]) ++ List.replicate (7 - (lg_sl ([.ref w0, .int 3, .int d, .int sec])).length) Slot.unset).toArray = ls at hl ⊢
  replace hl : lv_has ls 7 [(0, .ref w0), (1, .int 3), (2, .int d), (3, .int sec)] := hl
  refine zw_begin hP hD (fun H locs hP1 hS => ?_)
  clear hP
  have hP := hP1
  clear hP1
  refine lv_iload_n hx hb dX5_first_0 rfl (lv_at hl 2 rfl) ?_
  refine lv_if_ne (tgt := 6) hx hb dX5_first_1 (by decide) (fun c_1 => ?_) (fun c_1 => ?_)
  · have fc_1 : d.toInt ≠ 0 := zf_ne c_1 rfl (by decide)
    refine lv_aload_n hx hb dX5_first_6 rfl (lv_at hl 0 rfl) ?_
    refine lv_iload_n hx hb dX5_first_7 rfl (lv_at hl 1 rfl) ?_
    refine lv_iload_n hx hb dX5_first_8 rfl (lv_at hl 2 rfl) ?_
    refine lv_iload_n hx hb dX5_first_9 rfl (lv_at hl 3 rfl) ?_
    skip
    refine zw_V (As := [.int 3, .int d, .int sec]) (rest := []) (wr := []) ⟨hx, hb, hml, hown, hts⟩ (c_F_W_least_3 l D cI cJ cZ cP cS po w0 wk wl wc wp (wn) (wh) (wg) fq kq aq tq (tw) fl fc (d) (sec) hy0 hy1 hy2 hy3 hy4 hy5 hjw (by first | assumption | omega) (by first | assumption | omega) (by first | assumption | omega | decide) hy10 hy11 hy12 hy13 hp_fc H.size) (cwV 3 hts gX5_first_X5_least rfl rfl rfl ⟨rfl, dh_X5_least⟩ ⟨Nat.le_of_ble_eq_true rfl, Nat.le_of_ble_eq_true rfl⟩) hK hN (hZ.kept hS) hP hD hS hA [0, 1, 2, 3] [] rfl rfl (by decide) (by decide) (by decide) (va_recv (q := (RX5, TX5, 7)) hK hP (ci := 5) (q0 := 0) rfl rfl) rfl hl.1 rfl (Nat.le_of_ble_eq_true rfl) dX5_first_10 ⟨Nat.le_of_ble_eq_true rfl, Nat.le_of_ble_eq_true rfl⟩ (fun r_2 u_3 H locs hr_2 hP hD hS => ?_)
    obtain ⟨q_4, rfl⟩ : ∃ z, z = u_3 := ⟨_, rfl⟩
    obtain ⟨hsr_2_0, hsr_2_1, hr_2⟩ := hr_2
    have h9R := zRe (ws' := [(w0, .inr (5, [.ref wk, .ref wl, .ref wc, .ref wp, .int wn, .int wh, .int wg])), (wl, .inl (cI, 125, .inl q_4)), (wc, .inl (cI, 3, .inl fc)), (wp, .inl (cP, 8, .inr (.inr (.inr (.inr fq)))))]) hP hD rfl
    clear hP hD
    obtain ⟨hP, hD⟩ := h9R
    obtain ⟨g_5, g_6⟩ := hr_2
    refine lv_istore (lv' := [(4, .int r_2), (0, .ref w0), (1, .int 3), (2, .int d), (3, .int sec)]) hx hb dX5_first_13 hl (by decide) rfl (fun ls hl => ?_)
    refine lv_iconst (v := 0) hx hb dX5_first_15 (by decide) ?_
    refine lv_istore (lv' := [(5, .int 0), (4, .int r_2), (0, .ref w0), (1, .int 3), (2, .int d), (3, .int sec)]) hx hb dX5_first_16 hl (by decide) rfl (fun ls hl => ?_)
    obtain ⟨i_18, hi_18⟩ : ∃ i : Int32, i = 0 := ⟨_, rfl⟩
    replace hl : lv_has ls 7 [(5, .int i_18), (4, .int r_2), (0, .ref w0), (1, .int 3), (2, .int d), (3, .int sec)] := by rw [hi_18]; exact lv_sub hl [0, 1, 2, 3, 4, 5] rfl
    have h1i_18 : i_18.toInt = 0 := by rw [hi_18]; decide
    obtain ⟨nfu, hni_18⟩ : ∃ nq9 : Nat, wn.toInt ≤ i_18.toInt + (nq9 : Int) := ⟨((wn.toInt : Int) - 0).toNat, by omega⟩
    have hloi_18 : 0 ≤ i_18.toInt := by omega
    obtain ⟨g_7, hg_7⟩ : ∃ g : Nat → Int32, g = q_4 := ⟨_, rfl⟩
    replace hP : va_P D vwCl [(w0, .inr (5, [.ref wk, .ref wl, .ref wc, .ref wp, .int wn, .int wh, .int wg])), (wl, .inl (cI, 125, .inl g_7)), (wc, .inl (cI, 3, .inl fc)), (wp, .inl (cP, 8, .inr (.inr (.inr (.inr fq)))))] H := by rw [hg_7]; exact hP
    replace hD : va_D (va_A [(w0, .inr (5, [.ref wk, .ref wl, .ref wc, .ref wp, .int wn, .int wh, .int wg])), (wl, .inl (cI, 125, .inl fl)), (wc, .inl (cI, 3, .inl fc)), (wp, .inl (cP, 8, .inr (.inr (.inr (.inr fq)))))] s.heap.size) [(w0, .inr (5, [.ref wk, .ref wl, .ref wc, .ref wp, .int wn, .int wh, .int wg])), (wl, .inl (cI, 125, .inl g_7)), (wc, .inl (cI, 3, .inl fc)), (wp, .inl (cP, 8, .inr (.inr (.inr (.inr fq)))))] := by rw [hg_7]; exact hD
    have hvi_18_0 : zKn kq aq tq wn.toInt.toNat wh.toInt (fc 0).toInt (fc 1).toInt (fc 2).toInt wg.toInt g_7 := by
      (try rw [hi_18]); (try rw [hg_7]); exact hsr_2_0
    have hvi_18_1 : zFf tq d.toInt sec.toInt ((zLn kq aq tq wn.toInt.toNat wh.toInt (fc 0).toInt (fc 1).toInt (fc 2).toInt 3) d.toInt sec.toInt) (zLv (zLn kq aq tq wn.toInt.toNat wh.toInt (fc 0).toInt (fc 1).toInt (fc 2).toInt 2) kq aq tq (fc 0).toInt (zPw 3) wh.toInt d.toInt sec.toInt) i_18.toInt.toNat = -1 := by
      (try rw [hi_18]); (try rw [hg_7]); (rw [(show ((0 : Int32).toInt.toNat) = 0 from by decide)]; rfl)
    have hvi_18_2 : i_18.toInt ≤ wn.toInt := by
      (try rw [hi_18]); (try rw [hg_7]); (have k0 : (0 : Int32).toInt = 0 := (by decide); omega)
    clear h1i_18 hi_18 hg_7
    skip
    revert hni_18
    revert hloi_18
    revert hvi_18_2
    revert hvi_18_1
    revert hvi_18_0
    revert hl
    revert hS
    revert hD
    revert hP
    revert ls
    revert locs
    revert H
    revert g_7
    revert i_18
    induction nfu with
    | zero =>
      intro i_18 g_7 H locs ls hP hD hS hl hvi_18_0 hvi_18_1 hvi_18_2 hloi_18 hni_18
      have hzi_18 : wn.toInt ≤ i_18.toInt := by omega
      refine lv_iload hx hb dX5_first_18 (lv_at hl 0 rfl) ?_
      refine lv_aload_n hx hb dX5_first_20 rfl (lv_at hl 2 rfl) ?_
      refine va_get (D := D) (ci := 5) (v := .int wn) (C := RX5) (T := TX5) (N := 7) hx hb hts hi_X5_first_5 hown hK hP 0 rfl rfl 4 (by decide) (hts (.fieldLink RX5 27 "TheLiningsInIt$Ways" "count" "I") (List.mem_of_getElem? (i := 1) rfl)) (fun _ h9 => h9) rfl dX5_first_21 ?_
      refine lv_icmp_ge (tgt := 69) hx hb dX5_first_24 (by decide) (fun c_8 => ?_) (fun c_8 => ?_)
      · have fc_8 : wn.toInt ≤ i_18.toInt := zf_le c_8 rfl rfl
        refine lv_aload_n hx hb dX5_first_69 rfl (lv_at hl 2 rfl) ?_
        refine lv_iload_n hx hb dX5_first_70 rfl (lv_at hl 5 rfl) ?_
        refine zc_V (As := [.int sec]) (rest := []) ⟨hx, hb, hml, hown, hts⟩ (c_F_W_headIsCheapest l D cI cJ cZ cP cS po w0 wk wl wc wp (wn) (wh) (wg) fc (sec) hy0 hy1 hy2 hy3 hy4 hy5 hy12 hy13 hp_fc) (cwV 1 hts gX5_first_X5_headIsCheapest rfl rfl rfl ⟨rfl, dh_X5_headIsCheapest⟩ ⟨Nat.le_of_ble_eq_true rfl, Nat.le_of_ble_eq_true rfl⟩) hK hN (hZ.kept hS) hP (hP.sub [0, 2] rfl) (va_recv (q := (RX5, TX5, 7)) hK hP (ci := 5) (q0 := 0) rfl rfl) rfl hl.1 rfl (Nat.le_of_ble_eq_true rfl) dX5_first_71 ⟨Nat.le_of_ble_eq_true rfl, Nat.le_of_ble_eq_true rfl⟩ (fun r_9 hr_9 => ?_)
        obtain ⟨g_10, g_11, hsr_9_0⟩ := hr_9
        refine lv_if_eq (tgt := 82) hx hb dX5_first_74 (by decide) (fun c_12 => ?_) (fun c_12 => ?_)
        · have fc_12 : r_9.toInt = 0 := zf_eq c_12 rfl (by decide)
          refine lv_bipush (v := 100) hx hb dX5_first_82 (by decide) ?_
          exact W.iret (v := 100) hx hb hr (fun t ht hW => ⟨⟨100, g_7, rfl, ⟨(show zKn kq aq tq wn.toInt.toNat wh.toInt (fc 0).toInt (fc 1).toInt (fc 2).toInt wg.toInt g_7 from by exact hvi_18_0), (show (100 : Int32).toInt = (if d.toInt = 0 then -1 else if zFf tq d.toInt sec.toInt ((zLn kq aq tq wn.toInt.toNat wh.toInt (fc 0).toInt (fc 1).toInt (fc 2).toInt 3) d.toInt sec.toInt) (zLv (zLn kq aq tq wn.toInt.toNat wh.toInt (fc 0).toInt (fc 1).toInt (fc 2).toInt 2) kq aq tq (fc 0).toInt (zPw 3) wh.toInt d.toInt sec.toInt) wn.toInt.toNat = -1 then (if (30 ≤ sec.toInt ∧ (fc 1).toInt ≤ (fc 2).toInt) then 101 else 100) else zFf tq d.toInt sec.toInt ((zLn kq aq tq wn.toInt.toNat wh.toInt (fc 0).toInt (fc 1).toInt (fc 2).toInt 3) d.toInt sec.toInt) (zLv (zLn kq aq tq wn.toInt.toNat wh.toInt (fc 0).toInt (fc 1).toInt (fc 2).toInt 2) kq aq tq (fc 0).toInt (zPw 3) wh.toInt d.toInt sec.toInt) wn.toInt.toNat) from by (have k1 : (101 : Int32).toInt = 101 := (by decide); have k2 : (100 : Int32).toInt = 100 := (by decide); have h9 : i_18.toInt.toNat = wn.toInt.toNat := (by omega); have z := hvi_18_1; rw [h9] at z; rw [if_neg (by omega), if_pos z]; have zh := hsr_9_0; first | (rw [if_pos (zh.1 (by omega))]; omega) | (rw [if_neg (zh.2 (by omega))]; omega))), ⟨by decide, by decide⟩⟩, zRet ht hP hD [0, 1, 2, 3] (by decide) rfl⟩, hS.F ht⟩) hS.2.2 dX5_first_84
        · have fc_12 : r_9.toInt ≠ 0 := zf_ne c_12 rfl (by decide)
          refine lv_bipush (v := 101) hx hb dX5_first_77 (by decide) ?_
          refine lv_goto (tgt := 84) hx hb dX5_first_79 (by decide) ?_
          exact W.iret (v := 101) hx hb hr (fun t ht hW => ⟨⟨101, g_7, rfl, ⟨(show zKn kq aq tq wn.toInt.toNat wh.toInt (fc 0).toInt (fc 1).toInt (fc 2).toInt wg.toInt g_7 from by exact hvi_18_0), (show (101 : Int32).toInt = (if d.toInt = 0 then -1 else if zFf tq d.toInt sec.toInt ((zLn kq aq tq wn.toInt.toNat wh.toInt (fc 0).toInt (fc 1).toInt (fc 2).toInt 3) d.toInt sec.toInt) (zLv (zLn kq aq tq wn.toInt.toNat wh.toInt (fc 0).toInt (fc 1).toInt (fc 2).toInt 2) kq aq tq (fc 0).toInt (zPw 3) wh.toInt d.toInt sec.toInt) wn.toInt.toNat = -1 then (if (30 ≤ sec.toInt ∧ (fc 1).toInt ≤ (fc 2).toInt) then 101 else 100) else zFf tq d.toInt sec.toInt ((zLn kq aq tq wn.toInt.toNat wh.toInt (fc 0).toInt (fc 1).toInt (fc 2).toInt 3) d.toInt sec.toInt) (zLv (zLn kq aq tq wn.toInt.toNat wh.toInt (fc 0).toInt (fc 1).toInt (fc 2).toInt 2) kq aq tq (fc 0).toInt (zPw 3) wh.toInt d.toInt sec.toInt) wn.toInt.toNat) from by (have k1 : (101 : Int32).toInt = 101 := (by decide); have k2 : (100 : Int32).toInt = 100 := (by decide); have h9 : i_18.toInt.toNat = wn.toInt.toNat := (by omega); have z := hvi_18_1; rw [h9] at z; rw [if_neg (by omega), if_pos z]; have zh := hsr_9_0; first | (rw [if_pos (zh.1 (by omega))]; omega) | (rw [if_neg (zh.2 (by omega))]; omega))), ⟨by decide, by decide⟩⟩, zRet ht hP hD [0, 1, 2, 3] (by decide) rfl⟩, hS.F ht⟩) hS.2.2 dX5_first_84
      · exfalso; have fc_8 : i_18.toInt < wn.toInt := zf_nle c_8 rfl rfl; omega
    | succ nfu ih =>
      intro i_18 g_7 H locs ls hP hD hS hl hvi_18_0 hvi_18_1 hvi_18_2 hloi_18 hni_18
      refine lv_iload hx hb dX5_first_18 (lv_at hl 0 rfl) ?_
      refine lv_aload_n hx hb dX5_first_20 rfl (lv_at hl 2 rfl) ?_
      refine va_get (D := D) (ci := 5) (v := .int wn) (C := RX5) (T := TX5) (N := 7) hx hb hts hi_X5_first_5 hown hK hP 0 rfl rfl 4 (by decide) (hts (.fieldLink RX5 27 "TheLiningsInIt$Ways" "count" "I") (List.mem_of_getElem? (i := 1) rfl)) (fun _ h9 => h9) rfl dX5_first_21 ?_
      refine lv_icmp_ge (tgt := 69) hx hb dX5_first_24 (by decide) (fun c_13 => ?_) (fun c_13 => ?_)
      · have fc_13 : wn.toInt ≤ i_18.toInt := zf_le c_13 rfl rfl
        refine lv_aload_n hx hb dX5_first_69 rfl (lv_at hl 2 rfl) ?_
        refine lv_iload_n hx hb dX5_first_70 rfl (lv_at hl 5 rfl) ?_
        refine zc_V (As := [.int sec]) (rest := []) ⟨hx, hb, hml, hown, hts⟩ (c_F_W_headIsCheapest l D cI cJ cZ cP cS po w0 wk wl wc wp (wn) (wh) (wg) fc (sec) hy0 hy1 hy2 hy3 hy4 hy5 hy12 hy13 hp_fc) (cwV 1 hts gX5_first_X5_headIsCheapest rfl rfl rfl ⟨rfl, dh_X5_headIsCheapest⟩ ⟨Nat.le_of_ble_eq_true rfl, Nat.le_of_ble_eq_true rfl⟩) hK hN (hZ.kept hS) hP (hP.sub [0, 2] rfl) (va_recv (q := (RX5, TX5, 7)) hK hP (ci := 5) (q0 := 0) rfl rfl) rfl hl.1 rfl (Nat.le_of_ble_eq_true rfl) dX5_first_71 ⟨Nat.le_of_ble_eq_true rfl, Nat.le_of_ble_eq_true rfl⟩ (fun r_14 hr_14 => ?_)
        obtain ⟨g_15, g_16, hsr_14_0⟩ := hr_14
        refine lv_if_eq (tgt := 82) hx hb dX5_first_74 (by decide) (fun c_17 => ?_) (fun c_17 => ?_)
        · have fc_17 : r_14.toInt = 0 := zf_eq c_17 rfl (by decide)
          refine lv_bipush (v := 100) hx hb dX5_first_82 (by decide) ?_
          exact W.iret (v := 100) hx hb hr (fun t ht hW => ⟨⟨100, g_7, rfl, ⟨(show zKn kq aq tq wn.toInt.toNat wh.toInt (fc 0).toInt (fc 1).toInt (fc 2).toInt wg.toInt g_7 from by exact hvi_18_0), (show (100 : Int32).toInt = (if d.toInt = 0 then -1 else if zFf tq d.toInt sec.toInt ((zLn kq aq tq wn.toInt.toNat wh.toInt (fc 0).toInt (fc 1).toInt (fc 2).toInt 3) d.toInt sec.toInt) (zLv (zLn kq aq tq wn.toInt.toNat wh.toInt (fc 0).toInt (fc 1).toInt (fc 2).toInt 2) kq aq tq (fc 0).toInt (zPw 3) wh.toInt d.toInt sec.toInt) wn.toInt.toNat = -1 then (if (30 ≤ sec.toInt ∧ (fc 1).toInt ≤ (fc 2).toInt) then 101 else 100) else zFf tq d.toInt sec.toInt ((zLn kq aq tq wn.toInt.toNat wh.toInt (fc 0).toInt (fc 1).toInt (fc 2).toInt 3) d.toInt sec.toInt) (zLv (zLn kq aq tq wn.toInt.toNat wh.toInt (fc 0).toInt (fc 1).toInt (fc 2).toInt 2) kq aq tq (fc 0).toInt (zPw 3) wh.toInt d.toInt sec.toInt) wn.toInt.toNat) from by (have k1 : (101 : Int32).toInt = 101 := (by decide); have k2 : (100 : Int32).toInt = 100 := (by decide); have h9 : i_18.toInt.toNat = wn.toInt.toNat := (by omega); have z := hvi_18_1; rw [h9] at z; rw [if_neg (by omega), if_pos z]; have zh := hsr_14_0; first | (rw [if_pos (zh.1 (by omega))]; omega) | (rw [if_neg (zh.2 (by omega))]; omega))), ⟨by decide, by decide⟩⟩, zRet ht hP hD [0, 1, 2, 3] (by decide) rfl⟩, hS.F ht⟩) hS.2.2 dX5_first_84
        · have fc_17 : r_14.toInt ≠ 0 := zf_ne c_17 rfl (by decide)
          refine lv_bipush (v := 101) hx hb dX5_first_77 (by decide) ?_
          refine lv_goto (tgt := 84) hx hb dX5_first_79 (by decide) ?_
          exact W.iret (v := 101) hx hb hr (fun t ht hW => ⟨⟨101, g_7, rfl, ⟨(show zKn kq aq tq wn.toInt.toNat wh.toInt (fc 0).toInt (fc 1).toInt (fc 2).toInt wg.toInt g_7 from by exact hvi_18_0), (show (101 : Int32).toInt = (if d.toInt = 0 then -1 else if zFf tq d.toInt sec.toInt ((zLn kq aq tq wn.toInt.toNat wh.toInt (fc 0).toInt (fc 1).toInt (fc 2).toInt 3) d.toInt sec.toInt) (zLv (zLn kq aq tq wn.toInt.toNat wh.toInt (fc 0).toInt (fc 1).toInt (fc 2).toInt 2) kq aq tq (fc 0).toInt (zPw 3) wh.toInt d.toInt sec.toInt) wn.toInt.toNat = -1 then (if (30 ≤ sec.toInt ∧ (fc 1).toInt ≤ (fc 2).toInt) then 101 else 100) else zFf tq d.toInt sec.toInt ((zLn kq aq tq wn.toInt.toNat wh.toInt (fc 0).toInt (fc 1).toInt (fc 2).toInt 3) d.toInt sec.toInt) (zLv (zLn kq aq tq wn.toInt.toNat wh.toInt (fc 0).toInt (fc 1).toInt (fc 2).toInt 2) kq aq tq (fc 0).toInt (zPw 3) wh.toInt d.toInt sec.toInt) wn.toInt.toNat) from by (have k1 : (101 : Int32).toInt = 101 := (by decide); have k2 : (100 : Int32).toInt = 100 := (by decide); have h9 : i_18.toInt.toNat = wn.toInt.toNat := (by omega); have z := hvi_18_1; rw [h9] at z; rw [if_neg (by omega), if_pos z]; have zh := hsr_14_0; first | (rw [if_pos (zh.1 (by omega))]; omega) | (rw [if_neg (zh.2 (by omega))]; omega))), ⟨by decide, by decide⟩⟩, zRet ht hP hD [0, 1, 2, 3] (by decide) rfl⟩, hS.F ht⟩) hS.2.2 dX5_first_84
      · have fc_13 : i_18.toInt < wn.toInt := zf_nle c_13 rfl rfl
        refine lv_iload_n hx hb dX5_first_27 rfl (lv_at hl 3 rfl) ?_
        refine lv_if_le (tgt := 69) hx hb dX5_first_28 (by decide) (fun c_18 => ?_) (fun c_18 => ?_)
        · exact absurd c_18 (by decide)
        · refine lv_aload_n hx hb dX5_first_31 rfl (lv_at hl 2 rfl) ?_
          refine lv_iload hx hb dX5_first_32 (lv_at hl 0 rfl) ?_
          refine lv_iload_n hx hb dX5_first_34 rfl (lv_at hl 4 rfl) ?_
          refine lv_iload_n hx hb dX5_first_35 rfl (lv_at hl 5 rfl) ?_
          refine zc_Vq (As := [.int i_18, .int d, .int sec]) (rest := []) ⟨hx, hb, hml, hown, hts⟩ (c_F_W_mayBeAt l D cI cJ cZ cP cS po w0 wk wl wc wp (wn) (wh) (wg) fq kq aq tq (tw) (i_18) (d) (sec) hy0 hy1 hy2 hy3 hy4 hy5 hjw (by omega) (by omega) (by omega) hy12 hy13) (cwV 3 hts gX5_first_X5_mayBeAt rfl rfl rfl ⟨rfl, dh_X5_mayBeAt⟩ ⟨Nat.le_of_ble_eq_true rfl, Nat.le_of_ble_eq_true rfl⟩) hK hN (hZ.kept hS) hP (hP.sub [0, 3] rfl) (va_recv (q := (RX5, TX5, 7)) hK hP (ci := 5) (q0 := 0) rfl rfl) rfl hl.1 rfl (Nat.le_of_ble_eq_true rfl) dX5_first_36 ⟨Nat.le_of_ble_eq_true rfl, Nat.le_of_ble_eq_true rfl⟩ (fun r_19 hr_19 => ?_)
          rcases hr_19 with ⟨rfl, hn_20⟩ | ⟨rfl, hn_22, g_21⟩ | ⟨rfl, hn_24, g_23⟩ | ⟨⟨u_26, kiu_26, au_26, tu_26, rfl, huu_26, hkku_26⟩, g_25⟩
          · refine lv_astoreN (lv' := [(6, .null), (5, .int i_18), (4, .int r_2), (0, .ref w0), (1, .int 3), (2, .int d), (3, .int sec)]) hx hb dX5_first_39 hl (by decide) rfl (fun ls hl => ?_)
            refine lv_aloadN hx hb dX5_first_41 (lv_at hl 0 rfl) ?_
            refine lv_ifnullN (tgt := 63) hx hb dX5_first_43 (by decide) ?_
            obtain ⟨x_27, ex_27⟩ : ∃ y : Int32, y = i_18 + 1 := ⟨_, rfl⟩
            have qx_27 : x_27.toInt = i_18.toInt + 1 := dw_inc ex_27 fc_13
            refine lv_iinc (v := x_27) (lv' := [(5, .int x_27), (6, .null), (4, .int r_2), (0, .ref w0), (1, .int 3), (2, .int d), (3, .int sec)]) hx hb dX5_first_63 hl (k := 1) rfl ex_27.symm (by decide) rfl (fun ls hl => ?_)
            refine lv_goto (tgt := 18) hx hb dX5_first_66 (by decide) ?_
            exact ih x_27 (g_7) _ _ _ (hP.sub [0, 1, 2, 3] rfl) (hD.sub [0, 1, 2, 3] (by decide) rfl) hS (lv_sub hl [0, 2, 3, 4, 5, 6] rfl) (show zKn kq aq tq wn.toInt.toNat wh.toInt (fc 0).toInt (fc 1).toInt (fc 2).toInt wg.toInt g_7 from by exact hvi_18_0) (show zFf tq d.toInt sec.toInt ((zLn kq aq tq wn.toInt.toNat wh.toInt (fc 0).toInt (fc 1).toInt (fc 2).toInt 3) d.toInt sec.toInt) (zLv (zLn kq aq tq wn.toInt.toNat wh.toInt (fc 0).toInt (fc 1).toInt (fc 2).toInt 2) kq aq tq (fc 0).toInt (zPw 3) wh.toInt d.toInt sec.toInt) x_27.toInt.toNat = -1 from by (have hx : x_27.toInt.toNat = i_18.toInt.toNat + 1 := (by omega); have y4 := hn_20; have y9 : i_18.toNatClampNeg = i_18.toInt.toNat := rfl; rw [y9] at y4; rw [hx]; exact zFf_nx hvi_18_1 (fun z => y4 ⟨z.1.1, z.1.2, Or.inl (by omega)⟩))) (show x_27.toInt ≤ wn.toInt from by omega) (dw_lo hloi_18 qx_27) (dw_hn hni_18 qx_27)
          · exfalso; omega
          · refine lv_astoreN (lv' := [(6, .null), (5, .int i_18), (4, .int r_2), (0, .ref w0), (1, .int 3), (2, .int d), (3, .int sec)]) hx hb dX5_first_39 hl (by decide) rfl (fun ls hl => ?_)
            refine lv_aloadN hx hb dX5_first_41 (lv_at hl 0 rfl) ?_
            refine lv_ifnullN (tgt := 63) hx hb dX5_first_43 (by decide) ?_
            obtain ⟨x_28, ex_28⟩ : ∃ y : Int32, y = i_18 + 1 := ⟨_, rfl⟩
            have qx_28 : x_28.toInt = i_18.toInt + 1 := dw_inc ex_28 fc_13
            refine lv_iinc (v := x_28) (lv' := [(5, .int x_28), (6, .null), (4, .int r_2), (0, .ref w0), (1, .int 3), (2, .int d), (3, .int sec)]) hx hb dX5_first_63 hl (k := 1) rfl ex_28.symm (by decide) rfl (fun ls hl => ?_)
            refine lv_goto (tgt := 18) hx hb dX5_first_66 (by decide) ?_
            exact ih x_28 (g_7) _ _ _ (hP.sub [0, 1, 2, 3] rfl) (hD.sub [0, 1, 2, 3] (by decide) rfl) hS (lv_sub hl [0, 2, 3, 4, 5, 6] rfl) (show zKn kq aq tq wn.toInt.toNat wh.toInt (fc 0).toInt (fc 1).toInt (fc 2).toInt wg.toInt g_7 from by exact hvi_18_0) (show zFf tq d.toInt sec.toInt ((zLn kq aq tq wn.toInt.toNat wh.toInt (fc 0).toInt (fc 1).toInt (fc 2).toInt 3) d.toInt sec.toInt) (zLv (zLn kq aq tq wn.toInt.toNat wh.toInt (fc 0).toInt (fc 1).toInt (fc 2).toInt 2) kq aq tq (fc 0).toInt (zPw 3) wh.toInt d.toInt sec.toInt) x_28.toInt.toNat = -1 from by (have hx : x_28.toInt.toNat = i_18.toInt.toNat + 1 := (by omega); have y4 := hn_24; have y9 : i_18.toNatClampNeg = i_18.toInt.toNat := rfl; rw [y9] at y4; rw [hx]; exact zFf_nx hvi_18_1 (fun z => y4 ⟨z.1.1, z.1.2, Or.inl (by omega)⟩))) (show x_28.toInt ≤ wn.toInt from by omega) (dw_lo hloi_18 qx_28) (dw_hn hni_18 qx_28)
          · refine W.eq (g2 := F0 m 39 ls (.ref u_26 :: [])) rfl ?_
            obtain ⟨hku_26, hau_26, htu_26⟩ := zPu_pr (hZ.kept hS) huu_26
            refine lv_astore (lv' := [(6, .ref u_26), (5, .int i_18), (4, .int r_2), (0, .ref w0), (1, .int 3), (2, .int d), (3, .int sec)]) hx hb dX5_first_39 hl (by decide) rfl (fun ls hl => ?_)
            refine lv_aload hx hb dX5_first_41 (lv_at hl 0 rfl) ?_
            refine lv_ifnull hx hb dX5_first_43 ?_
            refine lv_aload_n hx hb dX5_first_46 rfl (lv_at hl 3 rfl) ?_
            refine lv_aload hx hb dX5_first_47 (lv_at hl 0 rfl) ?_
            refine lv_iload_n hx hb dX5_first_49 rfl (lv_at hl 4 rfl) ?_
            refine lv_iload_n hx hb dX5_first_50 rfl (lv_at hl 5 rfl) ?_
            refine lv_iload_n hx hb dX5_first_51 rfl (lv_at hl 6 rfl) ?_
            have tsu_26 : tu_26.toInt ≤ sec.toInt := by (obtain ⟨⟨y1, y2, y3⟩, y4⟩ := hkku_26; have z := y4.2.1; rw [y3]; exact z)
            skip
            refine zw_V (As := [.ref u_26, .int 3, .int d, .int sec]) (rest := []) (wr := []) ⟨hx, hb, hml, hown, hts⟩ (c_F_W_leastBy_3 l D cI cJ cZ cP cS po w0 wk wl wc wp (wn) (wh) (wg) fq kq aq tq (tw) g_7 fc (d) (sec) u_26 (kiu_26) (au_26) (tu_26) huu_26 ⟨by omega, by omega, by omega, by omega⟩ hy0 hy1 hy2 hy3 hy4 hy5 hjw (by first | assumption | omega) (by first | assumption | omega) (by first | assumption | omega | decide) hy10 hy11 hy12 hy13 (by omega) hp_fc H.size) (cwV 4 hts gX5_first_X5_leastBy rfl rfl rfl ⟨rfl, dh_X5_leastBy⟩ ⟨Nat.le_of_ble_eq_true rfl, Nat.le_of_ble_eq_true rfl⟩) hK hN (hZ.kept hS) hP hD hS hA [0, 1, 2, 3] [] rfl rfl (by decide) (by decide) (by decide) (va_recv (q := (RX5, TX5, 7)) hK hP (ci := 5) (q0 := 0) rfl rfl) rfl hl.1 rfl (Nat.le_of_ble_eq_true rfl) dX5_first_52 ⟨Nat.le_of_ble_eq_true rfl, Nat.le_of_ble_eq_true rfl⟩ (fun r_29 u_30 H locs hr_29 hP hD hS => ?_)
            obtain ⟨q_31, rfl⟩ : ∃ z, z = u_30 := ⟨_, rfl⟩
            obtain ⟨hsr_29_0, hsr_29_1, hr_29⟩ := hr_29
            have h9R := zRe (ws' := [(w0, .inr (5, [.ref wk, .ref wl, .ref wc, .ref wp, .int wn, .int wh, .int wg])), (wl, .inl (cI, 125, .inl q_31)), (wc, .inl (cI, 3, .inl fc)), (wp, .inl (cP, 8, .inr (.inr (.inr (.inr fq)))))]) hP hD rfl
            clear hP hD
            obtain ⟨hP, hD⟩ := h9R
            obtain ⟨g_32, g_33⟩ := hr_29
            refine lv_iload hx hb dX5_first_55 (lv_at hl 2 rfl) ?_
            refine lv_icmp_ne (tgt := 63) hx hb dX5_first_57 (by decide) (fun c_34 => ?_) (fun c_34 => ?_)
            · have fc_34 : r_29.toInt ≠ r_2.toInt := zf_ne c_34 rfl rfl
              obtain ⟨x_35, ex_35⟩ : ∃ y : Int32, y = i_18 + 1 := ⟨_, rfl⟩
              have qx_35 : x_35.toInt = i_18.toInt + 1 := dw_inc ex_35 fc_13
              refine lv_iinc (v := x_35) (lv' := [(5, .int x_35), (6, .ref u_26), (4, .int r_2), (0, .ref w0), (1, .int 3), (2, .int d), (3, .int sec)]) hx hb dX5_first_63 hl (k := 1) rfl ex_35.symm (by decide) rfl (fun ls hl => ?_)
              refine lv_goto (tgt := 18) hx hb dX5_first_66 (by decide) ?_
              exact ih x_35 (q_31) _ _ _ (hP.sub [0, 1, 2, 3] rfl) (hD.sub [0, 1, 2, 3] (by decide) rfl) hS (lv_sub hl [0, 2, 3, 4, 5, 6] rfl) (show zKn kq aq tq wn.toInt.toNat wh.toInt (fc 0).toInt (fc 1).toInt (fc 2).toInt wg.toInt q_31 from by exact hsr_29_0) (show zFf tq d.toInt sec.toInt ((zLn kq aq tq wn.toInt.toNat wh.toInt (fc 0).toInt (fc 1).toInt (fc 2).toInt 3) d.toInt sec.toInt) (zLv (zLn kq aq tq wn.toInt.toNat wh.toInt (fc 0).toInt (fc 1).toInt (fc 2).toInt 2) kq aq tq (fc 0).toInt (zPw 3) wh.toInt d.toInt sec.toInt) x_35.toInt.toNat = -1 from by (have hx : x_35.toInt.toNat = i_18.toInt.toNat + 1 := (by omega); obtain ⟨⟨y1, y2, y3⟩, y4⟩ := hkku_26; have y9 : i_18.toNatClampNeg = i_18.toInt.toNat := rfl; rw [y9] at y1 y2 y3 y4; have zr := hsr_29_1; rw [y1, y2, y3] at zr; have zr2 : r_29.toInt = (zLv (zLn kq aq tq wn.toInt.toNat wh.toInt (fc 0).toInt (fc 1).toInt (fc 2).toInt 2) kq aq tq (fc 0).toInt (zPw 3) wh.toInt d.toInt sec.toInt) i_18.toInt.toNat := zr; have zl := hsr_2_1; rw [hx]; exact zFf_nx hvi_18_1 (fun z => by (have z2 := z.2; rw [← zr2, ← zl] at z2; omega)))) (show x_35.toInt ≤ wn.toInt from by omega) (dw_lo hloi_18 qx_35) (dw_hn hni_18 qx_35)
            · have fc_34 : r_29.toInt = r_2.toInt := zf_eq c_34 rfl rfl
              refine lv_iload hx hb dX5_first_60 (lv_at hl 1 rfl) ?_
              exact W.iret (v := i_18) hx hb hr (fun t ht hW => ⟨⟨i_18, q_31, rfl, ⟨(show zKn kq aq tq wn.toInt.toNat wh.toInt (fc 0).toInt (fc 1).toInt (fc 2).toInt wg.toInt q_31 from by exact hsr_29_0), (show (i_18 : Int32).toInt = (if d.toInt = 0 then -1 else if zFf tq d.toInt sec.toInt ((zLn kq aq tq wn.toInt.toNat wh.toInt (fc 0).toInt (fc 1).toInt (fc 2).toInt 3) d.toInt sec.toInt) (zLv (zLn kq aq tq wn.toInt.toNat wh.toInt (fc 0).toInt (fc 1).toInt (fc 2).toInt 2) kq aq tq (fc 0).toInt (zPw 3) wh.toInt d.toInt sec.toInt) wn.toInt.toNat = -1 then (if (30 ≤ sec.toInt ∧ (fc 1).toInt ≤ (fc 2).toInt) then 101 else 100) else zFf tq d.toInt sec.toInt ((zLn kq aq tq wn.toInt.toNat wh.toInt (fc 0).toInt (fc 1).toInt (fc 2).toInt 3) d.toInt sec.toInt) (zLv (zLn kq aq tq wn.toInt.toNat wh.toInt (fc 0).toInt (fc 1).toInt (fc 2).toInt 2) kq aq tq (fc 0).toInt (zPw 3) wh.toInt d.toInt sec.toInt) wn.toInt.toNat) from by (rw [if_neg (by omega)]; obtain ⟨⟨y1, y2, y3⟩, y4⟩ := hkku_26; have y9 : i_18.toNatClampNeg = i_18.toInt.toNat := rfl; rw [y9] at y1 y2 y3 y4; have zr := hsr_29_1; rw [y1, y2, y3] at zr; have zr2 : r_29.toInt = (zLv (zLn kq aq tq wn.toInt.toNat wh.toInt (fc 0).toInt (fc 1).toInt (fc 2).toInt 2) kq aq tq (fc 0).toInt (zPw 3) wh.toInt d.toInt sec.toInt) i_18.toInt.toNat := zr; have zl := hsr_2_1; have zf : zFf tq d.toInt sec.toInt ((zLn kq aq tq wn.toInt.toNat wh.toInt (fc 0).toInt (fc 1).toInt (fc 2).toInt 3) d.toInt sec.toInt) (zLv (zLn kq aq tq wn.toInt.toNat wh.toInt (fc 0).toInt (fc 1).toInt (fc 2).toInt 2) kq aq tq (fc 0).toInt (zPw 3) wh.toInt d.toInt sec.toInt) wn.toInt.toNat = (i_18.toInt.toNat : Int) := zFf_at hvi_18_1 ⟨y4.1, y4.2.1⟩ (by rw [← zr2, ← zl]; omega) (by omega); rw [if_neg (by rw [zf]; omega), zf]; omega)), ⟨by omega, by omega⟩⟩, zRet ht hP hD [0, 1, 2, 3] (by decide) rfl⟩, hS.F ht⟩) hS.2.2 dX5_first_62
  · have fc_1 : d.toInt = 0 := zf_eq c_1 rfl (by decide)
    refine lv_iconst (v := (-1)) hx hb dX5_first_4 (by decide) ?_
    exact W.iret (v := (-1)) hx hb hr (fun t ht hW => ⟨⟨(-1), fl, rfl, ⟨(show zKn kq aq tq wn.toInt.toNat wh.toInt (fc 0).toInt (fc 1).toInt (fc 2).toInt wg.toInt fl from by exact hkn), (show ((-1) : Int32).toInt = (if d.toInt = 0 then -1 else if zFf tq d.toInt sec.toInt ((zLn kq aq tq wn.toInt.toNat wh.toInt (fc 0).toInt (fc 1).toInt (fc 2).toInt 3) d.toInt sec.toInt) (zLv (zLn kq aq tq wn.toInt.toNat wh.toInt (fc 0).toInt (fc 1).toInt (fc 2).toInt 2) kq aq tq (fc 0).toInt (zPw 3) wh.toInt d.toInt sec.toInt) wn.toInt.toNat = -1 then (if (30 ≤ sec.toInt ∧ (fc 1).toInt ≤ (fc 2).toInt) then 101 else 100) else zFf tq d.toInt sec.toInt ((zLn kq aq tq wn.toInt.toNat wh.toInt (fc 0).toInt (fc 1).toInt (fc 2).toInt 3) d.toInt sec.toInt) (zLv (zLn kq aq tq wn.toInt.toNat wh.toInt (fc 0).toInt (fc 1).toInt (fc 2).toInt 2) kq aq tq (fc 0).toInt (zPw 3) wh.toInt d.toInt sec.toInt) wn.toInt.toNat) from by (have k9 : ((-1) : Int32).toInt = -1 := (by decide); rw [if_pos (by omega)]; exact k9)), ⟨by decide, by decide⟩⟩, zRet ht hP hD [0, 1, 2, 3] (by decide) rfl⟩, hS.F ht⟩) hS.2.2 dX5_first_5
set_option maxHeartbeats 4000000 in
set_option maxRecDepth 100000 in
theorem c_F_W_first_4 (l : Launch) (D : va_G) (cI cJ cZ cP cS : ClassId) (po : zPool) (w0 wk wl wc wp : Nat) (wn wh wg : Int32) (fq : Nat → Option Nat) (kq aq tq : Nat → Int32) (tw : Int32) (fl fc : Nat → Int32) (d sec : Int32) (hy0 : 0 ≤ wn.toInt) (hy1 : wn.toInt ≤ 8) (hy2 : 0 ≤ wh.toInt) (hy3 : wh.toInt ≤ 9) (hy4 : 0 ≤ wg.toInt) (hy5 : wg.toInt ≤ 60) (hjw : zJW po fq wn kq aq tq tw) (hkn : zKn kq aq tq wn.toInt.toNat wh.toInt (fc 0).toInt (fc 1).toInt (fc 2).toInt wg.toInt fl) (hgl : (∀ p : Nat, p < wn.toInt.toNat → (tq p).toInt ≤ wg.toInt)) (htw : tw.toInt = 1) (hy10 : 0 ≤ d.toInt) (hy11 : d.toInt ≤ 24) (hy12 : 0 ≤ sec.toInt) (hy13 : sec.toInt ≤ 300) (hp_fc : zRg fc (0) 99) (hpz : Nat) : Met l yX5_first wsX5_first ({ frames := 11, cells := 0, slots := 0, locals := 291 }) (va_Pc [.ref w0, .int 4, .int d, .int sec] (zW D (zKT cI cJ cZ cP cS) po [(w0, .inr (5, [.ref wk, .ref wl, .ref wc, .ref wp, .int wn, .int wh, .int wg])), (wl, .inl (cI, 125, .inl fl)), (wc, .inl (cI, 3, .inl fc)), (wp, .inl (cP, 8, .inr (.inr (.inr (.inr fq)))))] hpz)) (va_Qi (fun (r : Int32) (fl2 : (Nat → Int32)) => (zKn kq aq tq wn.toInt.toNat wh.toInt (fc 0).toInt (fc 1).toInt (fc 2).toInt wg.toInt fl2) ∧ (r.toInt = (if d.toInt = 0 then -1 else if zFf tq d.toInt sec.toInt ((zLn kq aq tq wn.toInt.toNat wh.toInt (fc 0).toInt (fc 1).toInt (fc 2).toInt 4) d.toInt sec.toInt) (zLv (zLn kq aq tq wn.toInt.toNat wh.toInt (fc 0).toInt (fc 1).toInt (fc 2).toInt 3) kq aq tq (fc 0).toInt (zPw 4) wh.toInt d.toInt sec.toInt) wn.toInt.toNat = -1 then (if (30 ≤ sec.toInt ∧ (fc 1).toInt ≤ (fc 2).toInt) then 101 else 100) else zFf tq d.toInt sec.toInt ((zLn kq aq tq wn.toInt.toNat wh.toInt (fc 0).toInt (fc 1).toInt (fc 2).toInt 4) d.toInt sec.toInt) (zLv (zLn kq aq tq wn.toInt.toNat wh.toInt (fc 0).toInt (fc 1).toInt (fc 2).toInt 3) kq aq tq (fc 0).toInt (zPw 4) wh.toInt d.toInt sec.toInt) wn.toInt.toNat)) ∧ (-1 ≤ r.toInt ∧ r.toInt ≤ 101)) (zB D [(w0, .inr (5, [.ref wk, .ref wl, .ref wc, .ref wp, .int wn, .int wh, .int wg])), (wl, .inl (cI, 125, .inl fl)), (wc, .inl (cI, 3, .inl fc)), (wp, .inl (cP, 8, .inr (.inr (.inr (.inr fq)))))] hpz (fun (fl2 : Nat → Int32) => [(w0, .inr (5, [.ref wk, .ref wl, .ref wc, .ref wp, .int wn, .int wh, .int wg])), (wl, .inl (cI, 125, .inl fl2)), (wc, .inl (cI, 3, .inl fc)), (wp, .inl (cP, 8, .inr (.inr (.inr (.inr fq)))))])) (va_A [(w0, .inr (5, [.ref wk, .ref wl, .ref wc, .ref wp, .int wn, .int wh, .int wg])), (wl, .inl (cI, 125, .inl fl)), (wc, .inl (cI, 3, .inl fc)), (wp, .inl (cP, 8, .inr (.inr (.inr (.inr fq)))))] hpz)) 0 0 (va_A [(w0, .inr (5, [.ref wk, .ref wl, .ref wc, .ref wp, .int wn, .int wh, .int wg])), (wl, .inl (cI, 125, .inl fl)), (wc, .inl (cI, 3, .inl fc)), (wp, .inl (cP, 8, .inr (.inr (.inr (.inr fq)))))] hpz) := by
  refine Met.ofW (cc := cX5_first) (maxL := 7) (ret := (some .int)) (by decide) rfl ?_
  intro p e s m args below meth c s₁ B hml hv
  obtain ⟨rfl, hsz, hP, hK, hD0, hN, hZ⟩ := hv
  have hx := B.exec
  have hb := B.bytes
  have hr := B.returns
  have hts := atoms_spec (ws := wsX5_first) B.pre
  have hown : s.vm.findClass RX5 = some m.cls := findClass_of_methodNamed B.named
  have hlocks := B.notSynchronized
  subst hsz
  have hD := hD0.self (sz := s.heap.size)
  have hA := zA_of hD
  have hl := lv_entry ([.ref w0, .int 4, .int d, .int sec]) (n := 7) (Nat.le_of_ble_eq_true rfl)
  rw [lg_entry_eq]
  generalize (lg_sl ([.ref w0, .int 4, .int d, .int sec]) ++ List.replicate (7 - (lg_sl ([.ref w0, .int 4, .int d, .int sec])).length) Slot.unset).toArray = ls at hl ⊢
  replace hl : lv_has ls 7 [(0, .ref w0), (1, .int 4), (2, .int d), (3, .int sec)] := hl
  refine zw_begin hP hD (fun H locs hP1 hS => ?_)
  clear hP
  have hP := hP1
  clear hP1
  refine lv_iload_n hx hb dX5_first_0 rfl (lv_at hl 2 rfl) ?_
  refine lv_if_ne (tgt := 6) hx hb dX5_first_1 (by decide) (fun c_1 => ?_) (fun c_1 => ?_)
  · have fc_1 : d.toInt ≠ 0 := zf_ne c_1 rfl (by decide)
    refine lv_aload_n hx hb dX5_first_6 rfl (lv_at hl 0 rfl) ?_
    refine lv_iload_n hx hb dX5_first_7 rfl (lv_at hl 1 rfl) ?_
    refine lv_iload_n hx hb dX5_first_8 rfl (lv_at hl 2 rfl) ?_
    refine lv_iload_n hx hb dX5_first_9 rfl (lv_at hl 3 rfl) ?_
    skip
    refine zw_V (As := [.int 4, .int d, .int sec]) (rest := []) (wr := []) ⟨hx, hb, hml, hown, hts⟩ (c_F_W_least_4 l D cI cJ cZ cP cS po w0 wk wl wc wp (wn) (wh) (wg) fq kq aq tq (tw) fl fc (d) (sec) hy0 hy1 hy2 hy3 hy4 hy5 hjw (by first | assumption | omega) (by first | assumption | omega) (by first | assumption | omega | decide) hy10 hy11 hy12 hy13 hp_fc H.size) (cwV 3 hts gX5_first_X5_least rfl rfl rfl ⟨rfl, dh_X5_least⟩ ⟨Nat.le_of_ble_eq_true rfl, Nat.le_of_ble_eq_true rfl⟩) hK hN (hZ.kept hS) hP hD hS hA [0, 1, 2, 3] [] rfl rfl (by decide) (by decide) (by decide) (va_recv (q := (RX5, TX5, 7)) hK hP (ci := 5) (q0 := 0) rfl rfl) rfl hl.1 rfl (Nat.le_of_ble_eq_true rfl) dX5_first_10 ⟨Nat.le_of_ble_eq_true rfl, Nat.le_of_ble_eq_true rfl⟩ (fun r_2 u_3 H locs hr_2 hP hD hS => ?_)
    obtain ⟨q_4, rfl⟩ : ∃ z, z = u_3 := ⟨_, rfl⟩
    obtain ⟨hsr_2_0, hsr_2_1, hr_2⟩ := hr_2
    have h9R := zRe (ws' := [(w0, .inr (5, [.ref wk, .ref wl, .ref wc, .ref wp, .int wn, .int wh, .int wg])), (wl, .inl (cI, 125, .inl q_4)), (wc, .inl (cI, 3, .inl fc)), (wp, .inl (cP, 8, .inr (.inr (.inr (.inr fq)))))]) hP hD rfl
    clear hP hD
    obtain ⟨hP, hD⟩ := h9R
    obtain ⟨g_5, g_6⟩ := hr_2
    refine lv_istore (lv' := [(4, .int r_2), (0, .ref w0), (1, .int 4), (2, .int d), (3, .int sec)]) hx hb dX5_first_13 hl (by decide) rfl (fun ls hl => ?_)
    refine lv_iconst (v := 0) hx hb dX5_first_15 (by decide) ?_
    refine lv_istore (lv' := [(5, .int 0), (4, .int r_2), (0, .ref w0), (1, .int 4), (2, .int d), (3, .int sec)]) hx hb dX5_first_16 hl (by decide) rfl (fun ls hl => ?_)
    obtain ⟨i_18, hi_18⟩ : ∃ i : Int32, i = 0 := ⟨_, rfl⟩
    replace hl : lv_has ls 7 [(5, .int i_18), (4, .int r_2), (0, .ref w0), (1, .int 4), (2, .int d), (3, .int sec)] := by rw [hi_18]; exact lv_sub hl [0, 1, 2, 3, 4, 5] rfl
    have h1i_18 : i_18.toInt = 0 := by rw [hi_18]; decide
    obtain ⟨nfu, hni_18⟩ : ∃ nq9 : Nat, wn.toInt ≤ i_18.toInt + (nq9 : Int) := ⟨((wn.toInt : Int) - 0).toNat, by omega⟩
    have hloi_18 : 0 ≤ i_18.toInt := by omega
    obtain ⟨g_7, hg_7⟩ : ∃ g : Nat → Int32, g = q_4 := ⟨_, rfl⟩
    replace hP : va_P D vwCl [(w0, .inr (5, [.ref wk, .ref wl, .ref wc, .ref wp, .int wn, .int wh, .int wg])), (wl, .inl (cI, 125, .inl g_7)), (wc, .inl (cI, 3, .inl fc)), (wp, .inl (cP, 8, .inr (.inr (.inr (.inr fq)))))] H := by rw [hg_7]; exact hP
    replace hD : va_D (va_A [(w0, .inr (5, [.ref wk, .ref wl, .ref wc, .ref wp, .int wn, .int wh, .int wg])), (wl, .inl (cI, 125, .inl fl)), (wc, .inl (cI, 3, .inl fc)), (wp, .inl (cP, 8, .inr (.inr (.inr (.inr fq)))))] s.heap.size) [(w0, .inr (5, [.ref wk, .ref wl, .ref wc, .ref wp, .int wn, .int wh, .int wg])), (wl, .inl (cI, 125, .inl g_7)), (wc, .inl (cI, 3, .inl fc)), (wp, .inl (cP, 8, .inr (.inr (.inr (.inr fq)))))] := by rw [hg_7]; exact hD
    have hvi_18_0 : zKn kq aq tq wn.toInt.toNat wh.toInt (fc 0).toInt (fc 1).toInt (fc 2).toInt wg.toInt g_7 := by
      (try rw [hi_18]); (try rw [hg_7]); exact hsr_2_0
    have hvi_18_1 : zFf tq d.toInt sec.toInt ((zLn kq aq tq wn.toInt.toNat wh.toInt (fc 0).toInt (fc 1).toInt (fc 2).toInt 4) d.toInt sec.toInt) (zLv (zLn kq aq tq wn.toInt.toNat wh.toInt (fc 0).toInt (fc 1).toInt (fc 2).toInt 3) kq aq tq (fc 0).toInt (zPw 4) wh.toInt d.toInt sec.toInt) i_18.toInt.toNat = -1 := by
      (try rw [hi_18]); (try rw [hg_7]); (rw [(show ((0 : Int32).toInt.toNat) = 0 from by decide)]; rfl)
    have hvi_18_2 : i_18.toInt ≤ wn.toInt := by
      (try rw [hi_18]); (try rw [hg_7]); (have k0 : (0 : Int32).toInt = 0 := (by decide); omega)
    clear h1i_18 hi_18 hg_7
    skip
    revert hni_18
    revert hloi_18
    revert hvi_18_2
    revert hvi_18_1
    revert hvi_18_0
    revert hl
    revert hS
    revert hD
    revert hP
    revert ls
    revert locs
    revert H
    revert g_7
    revert i_18
    induction nfu with
    | zero =>
      intro i_18 g_7 H locs ls hP hD hS hl hvi_18_0 hvi_18_1 hvi_18_2 hloi_18 hni_18
      have hzi_18 : wn.toInt ≤ i_18.toInt := by omega
      refine lv_iload hx hb dX5_first_18 (lv_at hl 0 rfl) ?_
      refine lv_aload_n hx hb dX5_first_20 rfl (lv_at hl 2 rfl) ?_
      refine va_get (D := D) (ci := 5) (v := .int wn) (C := RX5) (T := TX5) (N := 7) hx hb hts hi_X5_first_5 hown hK hP 0 rfl rfl 4 (by decide) (hts (.fieldLink RX5 27 "TheLiningsInIt$Ways" "count" "I") (List.mem_of_getElem? (i := 1) rfl)) (fun _ h9 => h9) rfl dX5_first_21 ?_
      refine lv_icmp_ge (tgt := 69) hx hb dX5_first_24 (by decide) (fun c_8 => ?_) (fun c_8 => ?_)
      · have fc_8 : wn.toInt ≤ i_18.toInt := zf_le c_8 rfl rfl
        refine lv_aload_n hx hb dX5_first_69 rfl (lv_at hl 2 rfl) ?_
        refine lv_iload_n hx hb dX5_first_70 rfl (lv_at hl 5 rfl) ?_
        refine zc_V (As := [.int sec]) (rest := []) ⟨hx, hb, hml, hown, hts⟩ (c_F_W_headIsCheapest l D cI cJ cZ cP cS po w0 wk wl wc wp (wn) (wh) (wg) fc (sec) hy0 hy1 hy2 hy3 hy4 hy5 hy12 hy13 hp_fc) (cwV 1 hts gX5_first_X5_headIsCheapest rfl rfl rfl ⟨rfl, dh_X5_headIsCheapest⟩ ⟨Nat.le_of_ble_eq_true rfl, Nat.le_of_ble_eq_true rfl⟩) hK hN (hZ.kept hS) hP (hP.sub [0, 2] rfl) (va_recv (q := (RX5, TX5, 7)) hK hP (ci := 5) (q0 := 0) rfl rfl) rfl hl.1 rfl (Nat.le_of_ble_eq_true rfl) dX5_first_71 ⟨Nat.le_of_ble_eq_true rfl, Nat.le_of_ble_eq_true rfl⟩ (fun r_9 hr_9 => ?_)
        obtain ⟨g_10, g_11, hsr_9_0⟩ := hr_9
        refine lv_if_eq (tgt := 82) hx hb dX5_first_74 (by decide) (fun c_12 => ?_) (fun c_12 => ?_)
        · have fc_12 : r_9.toInt = 0 := zf_eq c_12 rfl (by decide)
          refine lv_bipush (v := 100) hx hb dX5_first_82 (by decide) ?_
          exact W.iret (v := 100) hx hb hr (fun t ht hW => ⟨⟨100, g_7, rfl, ⟨(show zKn kq aq tq wn.toInt.toNat wh.toInt (fc 0).toInt (fc 1).toInt (fc 2).toInt wg.toInt g_7 from by exact hvi_18_0), (show (100 : Int32).toInt = (if d.toInt = 0 then -1 else if zFf tq d.toInt sec.toInt ((zLn kq aq tq wn.toInt.toNat wh.toInt (fc 0).toInt (fc 1).toInt (fc 2).toInt 4) d.toInt sec.toInt) (zLv (zLn kq aq tq wn.toInt.toNat wh.toInt (fc 0).toInt (fc 1).toInt (fc 2).toInt 3) kq aq tq (fc 0).toInt (zPw 4) wh.toInt d.toInt sec.toInt) wn.toInt.toNat = -1 then (if (30 ≤ sec.toInt ∧ (fc 1).toInt ≤ (fc 2).toInt) then 101 else 100) else zFf tq d.toInt sec.toInt ((zLn kq aq tq wn.toInt.toNat wh.toInt (fc 0).toInt (fc 1).toInt (fc 2).toInt 4) d.toInt sec.toInt) (zLv (zLn kq aq tq wn.toInt.toNat wh.toInt (fc 0).toInt (fc 1).toInt (fc 2).toInt 3) kq aq tq (fc 0).toInt (zPw 4) wh.toInt d.toInt sec.toInt) wn.toInt.toNat) from by (have k1 : (101 : Int32).toInt = 101 := (by decide); have k2 : (100 : Int32).toInt = 100 := (by decide); have h9 : i_18.toInt.toNat = wn.toInt.toNat := (by omega); have z := hvi_18_1; rw [h9] at z; rw [if_neg (by omega), if_pos z]; have zh := hsr_9_0; first | (rw [if_pos (zh.1 (by omega))]; omega) | (rw [if_neg (zh.2 (by omega))]; omega))), ⟨by decide, by decide⟩⟩, zRet ht hP hD [0, 1, 2, 3] (by decide) rfl⟩, hS.F ht⟩) hS.2.2 dX5_first_84
        · have fc_12 : r_9.toInt ≠ 0 := zf_ne c_12 rfl (by decide)
          refine lv_bipush (v := 101) hx hb dX5_first_77 (by decide) ?_
          refine lv_goto (tgt := 84) hx hb dX5_first_79 (by decide) ?_
          exact W.iret (v := 101) hx hb hr (fun t ht hW => ⟨⟨101, g_7, rfl, ⟨(show zKn kq aq tq wn.toInt.toNat wh.toInt (fc 0).toInt (fc 1).toInt (fc 2).toInt wg.toInt g_7 from by exact hvi_18_0), (show (101 : Int32).toInt = (if d.toInt = 0 then -1 else if zFf tq d.toInt sec.toInt ((zLn kq aq tq wn.toInt.toNat wh.toInt (fc 0).toInt (fc 1).toInt (fc 2).toInt 4) d.toInt sec.toInt) (zLv (zLn kq aq tq wn.toInt.toNat wh.toInt (fc 0).toInt (fc 1).toInt (fc 2).toInt 3) kq aq tq (fc 0).toInt (zPw 4) wh.toInt d.toInt sec.toInt) wn.toInt.toNat = -1 then (if (30 ≤ sec.toInt ∧ (fc 1).toInt ≤ (fc 2).toInt) then 101 else 100) else zFf tq d.toInt sec.toInt ((zLn kq aq tq wn.toInt.toNat wh.toInt (fc 0).toInt (fc 1).toInt (fc 2).toInt 4) d.toInt sec.toInt) (zLv (zLn kq aq tq wn.toInt.toNat wh.toInt (fc 0).toInt (fc 1).toInt (fc 2).toInt 3) kq aq tq (fc 0).toInt (zPw 4) wh.toInt d.toInt sec.toInt) wn.toInt.toNat) from by (have k1 : (101 : Int32).toInt = 101 := (by decide); have k2 : (100 : Int32).toInt = 100 := (by decide); have h9 : i_18.toInt.toNat = wn.toInt.toNat := (by omega); have z := hvi_18_1; rw [h9] at z; rw [if_neg (by omega), if_pos z]; have zh := hsr_9_0; first | (rw [if_pos (zh.1 (by omega))]; omega) | (rw [if_neg (zh.2 (by omega))]; omega))), ⟨by decide, by decide⟩⟩, zRet ht hP hD [0, 1, 2, 3] (by decide) rfl⟩, hS.F ht⟩) hS.2.2 dX5_first_84
      · exfalso; have fc_8 : i_18.toInt < wn.toInt := zf_nle c_8 rfl rfl; omega
    | succ nfu ih =>
      intro i_18 g_7 H locs ls hP hD hS hl hvi_18_0 hvi_18_1 hvi_18_2 hloi_18 hni_18
      refine lv_iload hx hb dX5_first_18 (lv_at hl 0 rfl) ?_
      refine lv_aload_n hx hb dX5_first_20 rfl (lv_at hl 2 rfl) ?_
      refine va_get (D := D) (ci := 5) (v := .int wn) (C := RX5) (T := TX5) (N := 7) hx hb hts hi_X5_first_5 hown hK hP 0 rfl rfl 4 (by decide) (hts (.fieldLink RX5 27 "TheLiningsInIt$Ways" "count" "I") (List.mem_of_getElem? (i := 1) rfl)) (fun _ h9 => h9) rfl dX5_first_21 ?_
      refine lv_icmp_ge (tgt := 69) hx hb dX5_first_24 (by decide) (fun c_13 => ?_) (fun c_13 => ?_)
      · have fc_13 : wn.toInt ≤ i_18.toInt := zf_le c_13 rfl rfl
        refine lv_aload_n hx hb dX5_first_69 rfl (lv_at hl 2 rfl) ?_
        refine lv_iload_n hx hb dX5_first_70 rfl (lv_at hl 5 rfl) ?_
        refine zc_V (As := [.int sec]) (rest := []) ⟨hx, hb, hml, hown, hts⟩ (c_F_W_headIsCheapest l D cI cJ cZ cP cS po w0 wk wl wc wp (wn) (wh) (wg) fc (sec) hy0 hy1 hy2 hy3 hy4 hy5 hy12 hy13 hp_fc) (cwV 1 hts gX5_first_X5_headIsCheapest rfl rfl rfl ⟨rfl, dh_X5_headIsCheapest⟩ ⟨Nat.le_of_ble_eq_true rfl, Nat.le_of_ble_eq_true rfl⟩) hK hN (hZ.kept hS) hP (hP.sub [0, 2] rfl) (va_recv (q := (RX5, TX5, 7)) hK hP (ci := 5) (q0 := 0) rfl rfl) rfl hl.1 rfl (Nat.le_of_ble_eq_true rfl) dX5_first_71 ⟨Nat.le_of_ble_eq_true rfl, Nat.le_of_ble_eq_true rfl⟩ (fun r_14 hr_14 => ?_)
        obtain ⟨g_15, g_16, hsr_14_0⟩ := hr_14
        refine lv_if_eq (tgt := 82) hx hb dX5_first_74 (by decide) (fun c_17 => ?_) (fun c_17 => ?_)
        · have fc_17 : r_14.toInt = 0 := zf_eq c_17 rfl (by decide)
          refine lv_bipush (v := 100) hx hb dX5_first_82 (by decide) ?_
          exact W.iret (v := 100) hx hb hr (fun t ht hW => ⟨⟨100, g_7, rfl, ⟨(show zKn kq aq tq wn.toInt.toNat wh.toInt (fc 0).toInt (fc 1).toInt (fc 2).toInt wg.toInt g_7 from by exact hvi_18_0), (show (100 : Int32).toInt = (if d.toInt = 0 then -1 else if zFf tq d.toInt sec.toInt ((zLn kq aq tq wn.toInt.toNat wh.toInt (fc 0).toInt (fc 1).toInt (fc 2).toInt 4) d.toInt sec.toInt) (zLv (zLn kq aq tq wn.toInt.toNat wh.toInt (fc 0).toInt (fc 1).toInt (fc 2).toInt 3) kq aq tq (fc 0).toInt (zPw 4) wh.toInt d.toInt sec.toInt) wn.toInt.toNat = -1 then (if (30 ≤ sec.toInt ∧ (fc 1).toInt ≤ (fc 2).toInt) then 101 else 100) else zFf tq d.toInt sec.toInt ((zLn kq aq tq wn.toInt.toNat wh.toInt (fc 0).toInt (fc 1).toInt (fc 2).toInt 4) d.toInt sec.toInt) (zLv (zLn kq aq tq wn.toInt.toNat wh.toInt (fc 0).toInt (fc 1).toInt (fc 2).toInt 3) kq aq tq (fc 0).toInt (zPw 4) wh.toInt d.toInt sec.toInt) wn.toInt.toNat) from by (have k1 : (101 : Int32).toInt = 101 := (by decide); have k2 : (100 : Int32).toInt = 100 := (by decide); have h9 : i_18.toInt.toNat = wn.toInt.toNat := (by omega); have z := hvi_18_1; rw [h9] at z; rw [if_neg (by omega), if_pos z]; have zh := hsr_14_0; first | (rw [if_pos (zh.1 (by omega))]; omega) | (rw [if_neg (zh.2 (by omega))]; omega))), ⟨by decide, by decide⟩⟩, zRet ht hP hD [0, 1, 2, 3] (by decide) rfl⟩, hS.F ht⟩) hS.2.2 dX5_first_84
        · have fc_17 : r_14.toInt ≠ 0 := zf_ne c_17 rfl (by decide)
          refine lv_bipush (v := 101) hx hb dX5_first_77 (by decide) ?_
          refine lv_goto (tgt := 84) hx hb dX5_first_79 (by decide) ?_
          exact W.iret (v := 101) hx hb hr (fun t ht hW => ⟨⟨101, g_7, rfl, ⟨(show zKn kq aq tq wn.toInt.toNat wh.toInt (fc 0).toInt (fc 1).toInt (fc 2).toInt wg.toInt g_7 from by exact hvi_18_0), (show (101 : Int32).toInt = (if d.toInt = 0 then -1 else if zFf tq d.toInt sec.toInt ((zLn kq aq tq wn.toInt.toNat wh.toInt (fc 0).toInt (fc 1).toInt (fc 2).toInt 4) d.toInt sec.toInt) (zLv (zLn kq aq tq wn.toInt.toNat wh.toInt (fc 0).toInt (fc 1).toInt (fc 2).toInt 3) kq aq tq (fc 0).toInt (zPw 4) wh.toInt d.toInt sec.toInt) wn.toInt.toNat = -1 then (if (30 ≤ sec.toInt ∧ (fc 1).toInt ≤ (fc 2).toInt) then 101 else 100) else zFf tq d.toInt sec.toInt ((zLn kq aq tq wn.toInt.toNat wh.toInt (fc 0).toInt (fc 1).toInt (fc 2).toInt 4) d.toInt sec.toInt) (zLv (zLn kq aq tq wn.toInt.toNat wh.toInt (fc 0).toInt (fc 1).toInt (fc 2).toInt 3) kq aq tq (fc 0).toInt (zPw 4) wh.toInt d.toInt sec.toInt) wn.toInt.toNat) from by (have k1 : (101 : Int32).toInt = 101 := (by decide); have k2 : (100 : Int32).toInt = 100 := (by decide); have h9 : i_18.toInt.toNat = wn.toInt.toNat := (by omega); have z := hvi_18_1; rw [h9] at z; rw [if_neg (by omega), if_pos z]; have zh := hsr_14_0; first | (rw [if_pos (zh.1 (by omega))]; omega) | (rw [if_neg (zh.2 (by omega))]; omega))), ⟨by decide, by decide⟩⟩, zRet ht hP hD [0, 1, 2, 3] (by decide) rfl⟩, hS.F ht⟩) hS.2.2 dX5_first_84
      · have fc_13 : i_18.toInt < wn.toInt := zf_nle c_13 rfl rfl
        refine lv_iload_n hx hb dX5_first_27 rfl (lv_at hl 3 rfl) ?_
        refine lv_if_le (tgt := 69) hx hb dX5_first_28 (by decide) (fun c_18 => ?_) (fun c_18 => ?_)
        · exact absurd c_18 (by decide)
        · refine lv_aload_n hx hb dX5_first_31 rfl (lv_at hl 2 rfl) ?_
          refine lv_iload hx hb dX5_first_32 (lv_at hl 0 rfl) ?_
          refine lv_iload_n hx hb dX5_first_34 rfl (lv_at hl 4 rfl) ?_
          refine lv_iload_n hx hb dX5_first_35 rfl (lv_at hl 5 rfl) ?_
          refine zc_Vq (As := [.int i_18, .int d, .int sec]) (rest := []) ⟨hx, hb, hml, hown, hts⟩ (c_F_W_mayBeAt l D cI cJ cZ cP cS po w0 wk wl wc wp (wn) (wh) (wg) fq kq aq tq (tw) (i_18) (d) (sec) hy0 hy1 hy2 hy3 hy4 hy5 hjw (by omega) (by omega) (by omega) hy12 hy13) (cwV 3 hts gX5_first_X5_mayBeAt rfl rfl rfl ⟨rfl, dh_X5_mayBeAt⟩ ⟨Nat.le_of_ble_eq_true rfl, Nat.le_of_ble_eq_true rfl⟩) hK hN (hZ.kept hS) hP (hP.sub [0, 3] rfl) (va_recv (q := (RX5, TX5, 7)) hK hP (ci := 5) (q0 := 0) rfl rfl) rfl hl.1 rfl (Nat.le_of_ble_eq_true rfl) dX5_first_36 ⟨Nat.le_of_ble_eq_true rfl, Nat.le_of_ble_eq_true rfl⟩ (fun r_19 hr_19 => ?_)
          rcases hr_19 with ⟨rfl, hn_20⟩ | ⟨rfl, hn_22, g_21⟩ | ⟨rfl, hn_24, g_23⟩ | ⟨⟨u_26, kiu_26, au_26, tu_26, rfl, huu_26, hkku_26⟩, g_25⟩
          · refine lv_astoreN (lv' := [(6, .null), (5, .int i_18), (4, .int r_2), (0, .ref w0), (1, .int 4), (2, .int d), (3, .int sec)]) hx hb dX5_first_39 hl (by decide) rfl (fun ls hl => ?_)
            refine lv_aloadN hx hb dX5_first_41 (lv_at hl 0 rfl) ?_
            refine lv_ifnullN (tgt := 63) hx hb dX5_first_43 (by decide) ?_
            obtain ⟨x_27, ex_27⟩ : ∃ y : Int32, y = i_18 + 1 := ⟨_, rfl⟩
            have qx_27 : x_27.toInt = i_18.toInt + 1 := dw_inc ex_27 fc_13
            refine lv_iinc (v := x_27) (lv' := [(5, .int x_27), (6, .null), (4, .int r_2), (0, .ref w0), (1, .int 4), (2, .int d), (3, .int sec)]) hx hb dX5_first_63 hl (k := 1) rfl ex_27.symm (by decide) rfl (fun ls hl => ?_)
            refine lv_goto (tgt := 18) hx hb dX5_first_66 (by decide) ?_
            exact ih x_27 (g_7) _ _ _ (hP.sub [0, 1, 2, 3] rfl) (hD.sub [0, 1, 2, 3] (by decide) rfl) hS (lv_sub hl [0, 2, 3, 4, 5, 6] rfl) (show zKn kq aq tq wn.toInt.toNat wh.toInt (fc 0).toInt (fc 1).toInt (fc 2).toInt wg.toInt g_7 from by exact hvi_18_0) (show zFf tq d.toInt sec.toInt ((zLn kq aq tq wn.toInt.toNat wh.toInt (fc 0).toInt (fc 1).toInt (fc 2).toInt 4) d.toInt sec.toInt) (zLv (zLn kq aq tq wn.toInt.toNat wh.toInt (fc 0).toInt (fc 1).toInt (fc 2).toInt 3) kq aq tq (fc 0).toInt (zPw 4) wh.toInt d.toInt sec.toInt) x_27.toInt.toNat = -1 from by (have hx : x_27.toInt.toNat = i_18.toInt.toNat + 1 := (by omega); have y4 := hn_20; have y9 : i_18.toNatClampNeg = i_18.toInt.toNat := rfl; rw [y9] at y4; rw [hx]; exact zFf_nx hvi_18_1 (fun z => y4 ⟨z.1.1, z.1.2, Or.inl (by omega)⟩))) (show x_27.toInt ≤ wn.toInt from by omega) (dw_lo hloi_18 qx_27) (dw_hn hni_18 qx_27)
          · exfalso; omega
          · refine lv_astoreN (lv' := [(6, .null), (5, .int i_18), (4, .int r_2), (0, .ref w0), (1, .int 4), (2, .int d), (3, .int sec)]) hx hb dX5_first_39 hl (by decide) rfl (fun ls hl => ?_)
            refine lv_aloadN hx hb dX5_first_41 (lv_at hl 0 rfl) ?_
            refine lv_ifnullN (tgt := 63) hx hb dX5_first_43 (by decide) ?_
            obtain ⟨x_28, ex_28⟩ : ∃ y : Int32, y = i_18 + 1 := ⟨_, rfl⟩
            have qx_28 : x_28.toInt = i_18.toInt + 1 := dw_inc ex_28 fc_13
            refine lv_iinc (v := x_28) (lv' := [(5, .int x_28), (6, .null), (4, .int r_2), (0, .ref w0), (1, .int 4), (2, .int d), (3, .int sec)]) hx hb dX5_first_63 hl (k := 1) rfl ex_28.symm (by decide) rfl (fun ls hl => ?_)
            refine lv_goto (tgt := 18) hx hb dX5_first_66 (by decide) ?_
            exact ih x_28 (g_7) _ _ _ (hP.sub [0, 1, 2, 3] rfl) (hD.sub [0, 1, 2, 3] (by decide) rfl) hS (lv_sub hl [0, 2, 3, 4, 5, 6] rfl) (show zKn kq aq tq wn.toInt.toNat wh.toInt (fc 0).toInt (fc 1).toInt (fc 2).toInt wg.toInt g_7 from by exact hvi_18_0) (show zFf tq d.toInt sec.toInt ((zLn kq aq tq wn.toInt.toNat wh.toInt (fc 0).toInt (fc 1).toInt (fc 2).toInt 4) d.toInt sec.toInt) (zLv (zLn kq aq tq wn.toInt.toNat wh.toInt (fc 0).toInt (fc 1).toInt (fc 2).toInt 3) kq aq tq (fc 0).toInt (zPw 4) wh.toInt d.toInt sec.toInt) x_28.toInt.toNat = -1 from by (have hx : x_28.toInt.toNat = i_18.toInt.toNat + 1 := (by omega); have y4 := hn_24; have y9 : i_18.toNatClampNeg = i_18.toInt.toNat := rfl; rw [y9] at y4; rw [hx]; exact zFf_nx hvi_18_1 (fun z => y4 ⟨z.1.1, z.1.2, Or.inl (by omega)⟩))) (show x_28.toInt ≤ wn.toInt from by omega) (dw_lo hloi_18 qx_28) (dw_hn hni_18 qx_28)
          · refine W.eq (g2 := F0 m 39 ls (.ref u_26 :: [])) rfl ?_
            obtain ⟨hku_26, hau_26, htu_26⟩ := zPu_pr (hZ.kept hS) huu_26
            refine lv_astore (lv' := [(6, .ref u_26), (5, .int i_18), (4, .int r_2), (0, .ref w0), (1, .int 4), (2, .int d), (3, .int sec)]) hx hb dX5_first_39 hl (by decide) rfl (fun ls hl => ?_)
            refine lv_aload hx hb dX5_first_41 (lv_at hl 0 rfl) ?_
            refine lv_ifnull hx hb dX5_first_43 ?_
            refine lv_aload_n hx hb dX5_first_46 rfl (lv_at hl 3 rfl) ?_
            refine lv_aload hx hb dX5_first_47 (lv_at hl 0 rfl) ?_
            refine lv_iload_n hx hb dX5_first_49 rfl (lv_at hl 4 rfl) ?_
            refine lv_iload_n hx hb dX5_first_50 rfl (lv_at hl 5 rfl) ?_
            refine lv_iload_n hx hb dX5_first_51 rfl (lv_at hl 6 rfl) ?_
            have tsu_26 : tu_26.toInt ≤ sec.toInt := by (obtain ⟨⟨y1, y2, y3⟩, y4⟩ := hkku_26; have z := y4.2.1; rw [y3]; exact z)
            skip
            refine zw_V (As := [.ref u_26, .int 4, .int d, .int sec]) (rest := []) (wr := []) ⟨hx, hb, hml, hown, hts⟩ (c_F_W_leastBy_4 l D cI cJ cZ cP cS po w0 wk wl wc wp (wn) (wh) (wg) fq kq aq tq (tw) g_7 fc (d) (sec) u_26 (kiu_26) (au_26) (tu_26) huu_26 ⟨by omega, by omega, by omega, by omega⟩ hy0 hy1 hy2 hy3 hy4 hy5 hjw (by first | assumption | omega) (by first | assumption | omega) (by first | assumption | omega | decide) hy10 hy11 hy12 hy13 (by omega) hp_fc H.size) (cwV 4 hts gX5_first_X5_leastBy rfl rfl rfl ⟨rfl, dh_X5_leastBy⟩ ⟨Nat.le_of_ble_eq_true rfl, Nat.le_of_ble_eq_true rfl⟩) hK hN (hZ.kept hS) hP hD hS hA [0, 1, 2, 3] [] rfl rfl (by decide) (by decide) (by decide) (va_recv (q := (RX5, TX5, 7)) hK hP (ci := 5) (q0 := 0) rfl rfl) rfl hl.1 rfl (Nat.le_of_ble_eq_true rfl) dX5_first_52 ⟨Nat.le_of_ble_eq_true rfl, Nat.le_of_ble_eq_true rfl⟩ (fun r_29 u_30 H locs hr_29 hP hD hS => ?_)
            obtain ⟨q_31, rfl⟩ : ∃ z, z = u_30 := ⟨_, rfl⟩
            obtain ⟨hsr_29_0, hsr_29_1, hr_29⟩ := hr_29
            have h9R := zRe (ws' := [(w0, .inr (5, [.ref wk, .ref wl, .ref wc, .ref wp, .int wn, .int wh, .int wg])), (wl, .inl (cI, 125, .inl q_31)), (wc, .inl (cI, 3, .inl fc)), (wp, .inl (cP, 8, .inr (.inr (.inr (.inr fq)))))]) hP hD rfl
            clear hP hD
            obtain ⟨hP, hD⟩ := h9R
            obtain ⟨g_32, g_33⟩ := hr_29
            refine lv_iload hx hb dX5_first_55 (lv_at hl 2 rfl) ?_
            refine lv_icmp_ne (tgt := 63) hx hb dX5_first_57 (by decide) (fun c_34 => ?_) (fun c_34 => ?_)
            · have fc_34 : r_29.toInt ≠ r_2.toInt := zf_ne c_34 rfl rfl
              obtain ⟨x_35, ex_35⟩ : ∃ y : Int32, y = i_18 + 1 := ⟨_, rfl⟩
              have qx_35 : x_35.toInt = i_18.toInt + 1 := dw_inc ex_35 fc_13
              refine lv_iinc (v := x_35) (lv' := [(5, .int x_35), (6, .ref u_26), (4, .int r_2), (0, .ref w0), (1, .int 4), (2, .int d), (3, .int sec)]) hx hb dX5_first_63 hl (k := 1) rfl ex_35.symm (by decide) rfl (fun ls hl => ?_)
              refine lv_goto (tgt := 18) hx hb dX5_first_66 (by decide) ?_
              exact ih x_35 (q_31) _ _ _ (hP.sub [0, 1, 2, 3] rfl) (hD.sub [0, 1, 2, 3] (by decide) rfl) hS (lv_sub hl [0, 2, 3, 4, 5, 6] rfl) (show zKn kq aq tq wn.toInt.toNat wh.toInt (fc 0).toInt (fc 1).toInt (fc 2).toInt wg.toInt q_31 from by exact hsr_29_0) (show zFf tq d.toInt sec.toInt ((zLn kq aq tq wn.toInt.toNat wh.toInt (fc 0).toInt (fc 1).toInt (fc 2).toInt 4) d.toInt sec.toInt) (zLv (zLn kq aq tq wn.toInt.toNat wh.toInt (fc 0).toInt (fc 1).toInt (fc 2).toInt 3) kq aq tq (fc 0).toInt (zPw 4) wh.toInt d.toInt sec.toInt) x_35.toInt.toNat = -1 from by (have hx : x_35.toInt.toNat = i_18.toInt.toNat + 1 := (by omega); obtain ⟨⟨y1, y2, y3⟩, y4⟩ := hkku_26; have y9 : i_18.toNatClampNeg = i_18.toInt.toNat := rfl; rw [y9] at y1 y2 y3 y4; have zr := hsr_29_1; rw [y1, y2, y3] at zr; have zr2 : r_29.toInt = (zLv (zLn kq aq tq wn.toInt.toNat wh.toInt (fc 0).toInt (fc 1).toInt (fc 2).toInt 3) kq aq tq (fc 0).toInt (zPw 4) wh.toInt d.toInt sec.toInt) i_18.toInt.toNat := zr; have zl := hsr_2_1; rw [hx]; exact zFf_nx hvi_18_1 (fun z => by (have z2 := z.2; rw [← zr2, ← zl] at z2; omega)))) (show x_35.toInt ≤ wn.toInt from by omega) (dw_lo hloi_18 qx_35) (dw_hn hni_18 qx_35)
            · have fc_34 : r_29.toInt = r_2.toInt := zf_eq c_34 rfl rfl
              refine lv_iload hx hb dX5_first_60 (lv_at hl 1 rfl) ?_
              exact W.iret (v := i_18) hx hb hr (fun t ht hW => ⟨⟨i_18, q_31, rfl, ⟨(show zKn kq aq tq wn.toInt.toNat wh.toInt (fc 0).toInt (fc 1).toInt (fc 2).toInt wg.toInt q_31 from by exact hsr_29_0), (show (i_18 : Int32).toInt = (if d.toInt = 0 then -1 else if zFf tq d.toInt sec.toInt ((zLn kq aq tq wn.toInt.toNat wh.toInt (fc 0).toInt (fc 1).toInt (fc 2).toInt 4) d.toInt sec.toInt) (zLv (zLn kq aq tq wn.toInt.toNat wh.toInt (fc 0).toInt (fc 1).toInt (fc 2).toInt 3) kq aq tq (fc 0).toInt (zPw 4) wh.toInt d.toInt sec.toInt) wn.toInt.toNat = -1 then (if (30 ≤ sec.toInt ∧ (fc 1).toInt ≤ (fc 2).toInt) then 101 else 100) else zFf tq d.toInt sec.toInt ((zLn kq aq tq wn.toInt.toNat wh.toInt (fc 0).toInt (fc 1).toInt (fc 2).toInt 4) d.toInt sec.toInt) (zLv (zLn kq aq tq wn.toInt.toNat wh.toInt (fc 0).toInt (fc 1).toInt (fc 2).toInt 3) kq aq tq (fc 0).toInt (zPw 4) wh.toInt d.toInt sec.toInt) wn.toInt.toNat) from by (rw [if_neg (by omega)]; obtain ⟨⟨y1, y2, y3⟩, y4⟩ := hkku_26; have y9 : i_18.toNatClampNeg = i_18.toInt.toNat := rfl; rw [y9] at y1 y2 y3 y4; have zr := hsr_29_1; rw [y1, y2, y3] at zr; have zr2 : r_29.toInt = (zLv (zLn kq aq tq wn.toInt.toNat wh.toInt (fc 0).toInt (fc 1).toInt (fc 2).toInt 3) kq aq tq (fc 0).toInt (zPw 4) wh.toInt d.toInt sec.toInt) i_18.toInt.toNat := zr; have zl := hsr_2_1; have zf : zFf tq d.toInt sec.toInt ((zLn kq aq tq wn.toInt.toNat wh.toInt (fc 0).toInt (fc 1).toInt (fc 2).toInt 4) d.toInt sec.toInt) (zLv (zLn kq aq tq wn.toInt.toNat wh.toInt (fc 0).toInt (fc 1).toInt (fc 2).toInt 3) kq aq tq (fc 0).toInt (zPw 4) wh.toInt d.toInt sec.toInt) wn.toInt.toNat = (i_18.toInt.toNat : Int) := zFf_at hvi_18_1 ⟨y4.1, y4.2.1⟩ (by rw [← zr2, ← zl]; omega) (by omega); rw [if_neg (by rw [zf]; omega), zf]; omega)), ⟨by omega, by omega⟩⟩, zRet ht hP hD [0, 1, 2, 3] (by decide) rfl⟩, hS.F ht⟩) hS.2.2 dX5_first_62
  · have fc_1 : d.toInt = 0 := zf_eq c_1 rfl (by decide)
    refine lv_iconst (v := (-1)) hx hb dX5_first_4 (by decide) ?_
    exact W.iret (v := (-1)) hx hb hr (fun t ht hW => ⟨⟨(-1), fl, rfl, ⟨(show zKn kq aq tq wn.toInt.toNat wh.toInt (fc 0).toInt (fc 1).toInt (fc 2).toInt wg.toInt fl from by exact hkn), (show ((-1) : Int32).toInt = (if d.toInt = 0 then -1 else if zFf tq d.toInt sec.toInt ((zLn kq aq tq wn.toInt.toNat wh.toInt (fc 0).toInt (fc 1).toInt (fc 2).toInt 4) d.toInt sec.toInt) (zLv (zLn kq aq tq wn.toInt.toNat wh.toInt (fc 0).toInt (fc 1).toInt (fc 2).toInt 3) kq aq tq (fc 0).toInt (zPw 4) wh.toInt d.toInt sec.toInt) wn.toInt.toNat = -1 then (if (30 ≤ sec.toInt ∧ (fc 1).toInt ≤ (fc 2).toInt) then 101 else 100) else zFf tq d.toInt sec.toInt ((zLn kq aq tq wn.toInt.toNat wh.toInt (fc 0).toInt (fc 1).toInt (fc 2).toInt 4) d.toInt sec.toInt) (zLv (zLn kq aq tq wn.toInt.toNat wh.toInt (fc 0).toInt (fc 1).toInt (fc 2).toInt 3) kq aq tq (fc 0).toInt (zPw 4) wh.toInt d.toInt sec.toInt) wn.toInt.toNat) from by (have k9 : ((-1) : Int32).toInt = -1 := (by decide); rw [if_pos (by omega)]; exact k9)), ⟨by decide, by decide⟩⟩, zRet ht hP hD [0, 1, 2, 3] (by decide) rfl⟩, hS.F ht⟩) hS.2.2 dX5_first_5
end
section
set_option maxHeartbeats 4000000 in
set_option maxRecDepth 100000 in
theorem c_F_fillI (l : Launch) (D : va_G) (cI cJ cZ cP cS : ClassId) (po : zPool) (e0 : Nat) (f0 : Nat → Int32) (v : Int32)  (hpz : Nat) : Met l yJ7_fill_53178 wsJ7_fill_53178 ({ frames := 0, cells := 0, slots := 0, locals := 0 }) (va_Pc [.ref e0, .int v] (zW D (zKT cI cJ cZ cP cS) po [(e0, .inl (cI, 125, .inl f0))] hpz)) (va_Qv (fun (f1 : (Nat → Int32)) => ((∀ j : Nat, j < 125 → f1 j = v)) ∧ (True)) (zB D [(e0, .inl (cI, 125, .inl f0))] hpz (fun (f1 : Nat → Int32) => [(e0, .inl (cI, 125, .inl f1))])) (va_A [(e0, .inl (cI, 125, .inl f0))] hpz)) 0 0 (va_A [(e0, .inl (cI, 125, .inl f0))] hpz) := by
  refine Met.ofW (cc := cJ7_fill_53178) (maxL := 4) (ret := none) (by decide) rfl ?_
  intro p e s m args below meth c s₁ B hml hv
  obtain ⟨rfl, hsz, hP, hK, hD0, hN, hZ⟩ := hv
  have hx := B.exec
  have hb := B.bytes
  have hr := B.returns
  have hts := atoms_spec (ws := wsJ7_fill_53178) B.pre
  have hown : s.vm.findClass RJ7 = some m.cls := findClass_of_methodNamed B.named
  have hlocks := B.notSynchronized
  subst hsz
  have hD := hD0.self (sz := s.heap.size)
  have hA := zA_of hD
  have hl := lv_entry ([.ref e0, .int v]) (n := 4) (Nat.le_of_ble_eq_true rfl)
  rw [lg_entry_eq]
  generalize (lg_sl ([.ref e0, .int v]) ++ List.replicate (4 - (lg_sl ([.ref e0, .int v])).length) Slot.unset).toArray = ls at hl ⊢
  replace hl : lv_has ls 4 [(0, .ref e0), (1, .int v)] := hl
  refine zw_begin hP hD (fun H locs hP1 hS => ?_)
  clear hP
  have hP := hP1
  clear hP1
  refine lv_iconst (v := 0) hx hb dJ7_fill_53178_0 (by decide) ?_
  refine lv_istore_n (lv' := [(2, .int 0), (0, .ref e0), (1, .int v)]) hx hb dJ7_fill_53178_1 rfl hl (by decide) rfl (fun ls hl => ?_)
  refine lv_aload_n hx hb dJ7_fill_53178_2 rfl (lv_at hl 1 rfl) ?_
  refine va_alen (v := 125) hx hb hK hP 0 0 rfl rfl rfl dJ7_fill_53178_3 ?_
  refine lv_istore_n (lv' := [(3, .int 125), (2, .int 0), (0, .ref e0), (1, .int v)]) hx hb dJ7_fill_53178_4 rfl hl (by decide) rfl (fun ls hl => ?_)
  obtain ⟨i_5, hi_5⟩ : ∃ i : Int32, i = 0 := ⟨_, rfl⟩
  replace hl : lv_has ls 4 [(3, .int 125), (2, .int i_5), (0, .ref e0), (1, .int v)] := by rw [hi_5]; exact lv_sub hl [0, 1, 2, 3] rfl
  have h1i_5 : i_5.toInt = 0 := by rw [hi_5]; decide
  obtain ⟨nfu, hni_5⟩ : ∃ nq9 : Nat, 125 ≤ i_5.toInt + (nq9 : Int) := ⟨((125 : Int) - 0).toNat, by omega⟩
  have hloi_5 : 0 ≤ i_5.toInt := by omega
  obtain ⟨g_1, hg_1⟩ : ∃ g : Nat → Int32, g = f0 := ⟨_, rfl⟩
  replace hP : va_P D vwCl [(e0, .inl (cI, 125, .inl g_1))] H := by rw [hg_1]; exact hP
  replace hD : va_D (va_A [(e0, .inl (cI, 125, .inl f0))] s.heap.size) [(e0, .inl (cI, 125, .inl g_1))] := by rw [hg_1]; exact hD
  have hvi_5_0 : (∀ j : Nat, (j : Int) < i_5.toInt → g_1 j = v) := by
    (try rw [hi_5]); (try rw [hg_1]); (intro j hj; exfalso; have k0 : (0 : Int32).toInt = 0 := (by decide); omega)
  clear h1i_5 hi_5 hg_1
  skip
  revert hni_5
  revert hloi_5
  revert hvi_5_0
  revert hl
  revert hS
  revert hD
  revert hP
  revert ls
  revert locs
  revert H
  revert g_1
  revert i_5
  induction nfu with
  | zero =>
    intro i_5 g_1 H locs ls hP hD hS hl hvi_5_0 hloi_5 hni_5
    have hzi_5 : 125 ≤ i_5.toInt := by omega
    refine lv_iload_n hx hb dJ7_fill_53178_5 rfl (lv_at hl 1 rfl) ?_
    refine lv_iload_n hx hb dJ7_fill_53178_6 rfl (lv_at hl 0 rfl) ?_
    refine lv_icmp_ge (tgt := 20) hx hb dJ7_fill_53178_7 (by decide) (fun c_2 => ?_) (fun c_2 => ?_)
    · have fc_2 : 125 ≤ i_5.toInt := zf_le c_2 (by decide) rfl
      exact W.vret hx hb hr (fun t ht hW => ⟨⟨g_1, rfl, ⟨(show (∀ j : Nat, j < 125 → g_1 j = v) from by (intro j hj; exact hvi_5_0 j (by omega))), trivial⟩, zRet ht hP hD [0] (by decide) rfl⟩, hS.F ht⟩) hS.2.2 dJ7_fill_53178_20
    · exfalso; have fc_2 : i_5.toInt < 125 := zf_nle c_2 (by decide) rfl; omega
  | succ nfu ih =>
    intro i_5 g_1 H locs ls hP hD hS hl hvi_5_0 hloi_5 hni_5
    refine lv_iload_n hx hb dJ7_fill_53178_5 rfl (lv_at hl 1 rfl) ?_
    refine lv_iload_n hx hb dJ7_fill_53178_6 rfl (lv_at hl 0 rfl) ?_
    refine lv_icmp_ge (tgt := 20) hx hb dJ7_fill_53178_7 (by decide) (fun c_3 => ?_) (fun c_3 => ?_)
    · have fc_3 : 125 ≤ i_5.toInt := zf_le c_3 (by decide) rfl
      exact W.vret hx hb hr (fun t ht hW => ⟨⟨g_1, rfl, ⟨(show (∀ j : Nat, j < 125 → g_1 j = v) from by (intro j hj; exact hvi_5_0 j (by omega))), trivial⟩, zRet ht hP hD [0] (by decide) rfl⟩, hS.F ht⟩) hS.2.2 dJ7_fill_53178_20
    · have fc_3 : i_5.toInt < 125 := zf_nle c_3 (by decide) rfl
      refine lv_aload_n hx hb dJ7_fill_53178_10 rfl (lv_at hl 2 rfl) ?_
      refine lv_iload_n hx hb dJ7_fill_53178_11 rfl (lv_at hl 1 rfl) ?_
      refine lv_iload_n hx hb dJ7_fill_53178_12 rfl (lv_at hl 3 rfl) ?_
      refine va_iast hx hb hK hP hD hS 0 0 rfl rfl (zf_in (by omega) (by omega)) dJ7_fill_53178_13 (fun H locs hP hD hS => ?_)
      obtain ⟨g_4, hg_4⟩ : ∃ g : Nat → Int32, g = upd g_1 i_5.toNatClampNeg v := ⟨_, rfl⟩
      rw [← hg_4] at hP hD
      have h9R := zRe (ws' := [(e0, .inl (cI, 125, .inl g_4))]) hP hD rfl
      clear hP hD
      obtain ⟨hP, hD⟩ := h9R
      obtain ⟨x_5, ex_5⟩ : ∃ y : Int32, y = i_5 + 1 := ⟨_, rfl⟩
      have qx_5 : x_5.toInt = i_5.toInt + 1 := dw_incK ex_5 fc_3 (by decide)
      refine lv_iinc (v := x_5) (lv' := [(2, .int x_5), (3, .int 125), (0, .ref e0), (1, .int v)]) hx hb dJ7_fill_53178_14 hl (k := 1) rfl ex_5.symm (by decide) rfl (fun ls hl => ?_)
      refine lv_goto (tgt := 5) hx hb dJ7_fill_53178_17 (by decide) ?_
      exact ih x_5 (g_4) _ _ _ (hP.sub [0] rfl) (hD.sub [0] (by decide) rfl) hS (lv_sub hl [1, 0, 2, 3] rfl) (show (∀ j : Nat, (j : Int) < x_5.toInt → g_4 j = v) from by (intro j hj; rw [hg_4]; simp only [upd]; have h7 : i_5.toNatClampNeg = i_5.toInt.toNat := rfl; by_cases e9 : j = i_5.toNatClampNeg; (rw [if_pos e9]); (rw [if_neg e9]; exact hvi_5_0 j (by omega)))) (dw_lo hloi_5 qx_5) (dw_hn hni_5 qx_5)
set_option maxHeartbeats 4000000 in
set_option maxRecDepth 100000 in
theorem c_F_W_look (l : Launch) (D : va_G) (cI cJ cZ cP cS : ClassId) (po : zPool) (w0 wk wl wc wp : Nat) (wn wh wg : Int32) (j0 jp jc z0 zl zs : Nat) (cn de tr se hu sd : Int32) (fp fq : Nat → Option Nat) (kf af tf : Nat → Int32) (fk fl fc fjc : Nat → Int32) (h te : Int32) (hy0 : 0 ≤ wn.toInt) (hy1 : wn.toInt ≤ 8) (hy2 : 0 ≤ wh.toInt) (hy3 : wh.toInt ≤ 9) (hy4 : 0 ≤ wg.toInt) (hy5 : wg.toInt ≤ 60) (hy6 : 0 ≤ cn.toInt) (hy7 : cn.toInt ≤ 8) (hy8 : 0 ≤ de.toInt) (hy9 : de.toInt ≤ 24) (hy10 : 0 ≤ hu.toInt) (hy11 : hu.toInt ≤ 9) (hy12 : 0 ≤ h.toInt) (hy13 : h.toInt ≤ 9) (hwq : zWP po fq) (hjp : zJP po fp cn kf af tf) (hp_fc : zRg fc (0) 99) (hp_fjc : zRg fjc (0) 99) (hpz : Nat) : Met l yX5_look wsX5_look ({ frames := 2, cells := 0, slots := 0, locals := 100 }) (va_Pc [.ref w0, .ref j0, .int h, .int te] (zW D (zKT cI cJ cZ cP cS) po [(w0, .inr (5, [.ref wk, .ref wl, .ref wc, .ref wp, .int wn, .int wh, .int wg])), (wk, .inl (cI, 125, .inl fk)), (wl, .inl (cI, 125, .inl fl)), (wc, .inl (cI, 3, .inl fc)), (wp, .inl (cP, 8, .inr (.inr (.inr (.inr fq))))), (j0, .inr (0, [.ref z0, .ref jp, .ref jc, .int cn, .int de, .int tr, .int se, .int hu, .int sd])), (jp, .inl (cP, 8, .inr (.inr (.inr (.inr fp))))), (jc, .inl (cI, 3, .inl fjc))] hpz)) (va_Qv (fun (u : (Int32) × (Int32) × (Int32) × (Nat → Int32) × (Nat → Int32) × (Nat → Int32) × (Nat → Option Nat)) => (0 ≤ u.1.toInt ∧ u.1.toInt ≤ 8) ∧ (0 ≤ u.2.1.toInt ∧ u.2.1.toInt ≤ 9) ∧ (0 ≤ u.2.2.1.toInt ∧ u.2.2.1.toInt ≤ 60) ∧ zRg u.2.2.2.2.2.1 (0) 99 ∧ zWP po u.2.2.2.2.2.2 ∧ (zJW po u.2.2.2.2.2.2 cn kf af tf te) ∧ ((∀ p : Nat, (p : Int) < cn.toInt → (te.toInt ≠ 0 ∨ (kf p).toInt ≠ 5) → (tf p).toInt ≤ u.2.2.1.toInt)) ∧ (u.1 = cn ∧ u.2.1 = h) ∧ ((∀ j : Nat, j < 3 → u.2.2.2.2.2.1 j = fjc j)) ∧ ((∀ j : Nat, j < 125 → (u.2.2.2.1 j).toInt = -1)) ∧ ((∀ j : Nat, j < 125 → (u.2.2.2.2.1 j).toInt = -1)) ∧ (True)) (zB D [(w0, .inr (5, [.ref wk, .ref wl, .ref wc, .ref wp, .int wn, .int wh, .int wg])), (wk, .inl (cI, 125, .inl fk)), (wl, .inl (cI, 125, .inl fl)), (wc, .inl (cI, 3, .inl fc)), (wp, .inl (cP, 8, .inr (.inr (.inr (.inr fq))))), (j0, .inr (0, [.ref z0, .ref jp, .ref jc, .int cn, .int de, .int tr, .int se, .int hu, .int sd])), (jp, .inl (cP, 8, .inr (.inr (.inr (.inr fp))))), (jc, .inl (cI, 3, .inl fjc))] hpz (fun (u : (Int32) × (Int32) × (Int32) × (Nat → Int32) × (Nat → Int32) × (Nat → Int32) × (Nat → Option Nat)) => [(w0, .inr (5, [.ref wk, .ref wl, .ref wc, .ref wp, .int u.1, .int u.2.1, .int u.2.2.1])), (wk, .inl (cI, 125, .inl u.2.2.2.1)), (wl, .inl (cI, 125, .inl u.2.2.2.2.1)), (wc, .inl (cI, 3, .inl u.2.2.2.2.2.1)), (wp, .inl (cP, 8, .inr (.inr (.inr (.inr u.2.2.2.2.2.2))))), (j0, .inr (0, [.ref z0, .ref jp, .ref jc, .int cn, .int de, .int tr, .int se, .int hu, .int sd])), (jp, .inl (cP, 8, .inr (.inr (.inr (.inr fp))))), (jc, .inl (cI, 3, .inl fjc))])) (va_A [(w0, .inr (5, [.ref wk, .ref wl, .ref wc, .ref wp, .int wn, .int wh, .int wg])), (wk, .inl (cI, 125, .inl fk)), (wl, .inl (cI, 125, .inl fl)), (wc, .inl (cI, 3, .inl fc)), (wp, .inl (cP, 8, .inr (.inr (.inr (.inr fq))))), (j0, .inr (0, [.ref z0, .ref jp, .ref jc, .int cn, .int de, .int tr, .int se, .int hu, .int sd])), (jp, .inl (cP, 8, .inr (.inr (.inr (.inr fp))))), (jc, .inl (cI, 3, .inl fjc))] hpz)) 0 0 (va_A [(w0, .inr (5, [.ref wk, .ref wl, .ref wc, .ref wp, .int wn, .int wh, .int wg])), (wk, .inl (cI, 125, .inl fk)), (wl, .inl (cI, 125, .inl fl)), (wc, .inl (cI, 3, .inl fc)), (wp, .inl (cP, 8, .inr (.inr (.inr (.inr fq))))), (j0, .inr (0, [.ref z0, .ref jp, .ref jc, .int cn, .int de, .int tr, .int se, .int hu, .int sd])), (jp, .inl (cP, 8, .inr (.inr (.inr (.inr fp))))), (jc, .inl (cI, 3, .inl fjc))] hpz) := by
  refine Met.ofW (cc := cX5_look) (maxL := 7) (ret := none) (by decide) rfl ?_
  intro p e s m args below meth c s₁ B hml hv
  obtain ⟨rfl, hsz, hP, hK, hD0, hN, hZ⟩ := hv
  have hx := B.exec
  have hb := B.bytes
  have hr := B.returns
  have hts := atoms_spec (ws := wsX5_look) B.pre
  have hown : s.vm.findClass RX5 = some m.cls := findClass_of_methodNamed B.named
  have hlocks := B.notSynchronized
  subst hsz
  have hD := hD0.self (sz := s.heap.size)
  have hA := zA_of hD
  have hl := lv_entry ([.ref w0, .ref j0, .int h, .int te]) (n := 7) (Nat.le_of_ble_eq_true rfl)
  rw [lg_entry_eq]
  generalize (lg_sl ([.ref w0, .ref j0, .int h, .int te]) ++ List.replicate (7 - (lg_sl ([.ref w0, .ref j0, .int h, .int te])).length) Slot.unset).toArray = ls at hl ⊢
  replace hl : lv_has ls 7 [(0, .ref w0), (1, .ref j0), (2, .int h), (3, .int te)] := hl
  refine zw_begin hP hD (fun H locs hP1 hS => ?_)
  clear hP
  have hP := hP1
  clear hP1
  refine lv_aload_n hx hb dX5_look_0 rfl (lv_at hl 0 rfl) ?_
  refine lv_aload_n hx hb dX5_look_1 rfl (lv_at hl 1 rfl) ?_
  refine va_get (D := D) (ci := 0) (v := .int cn) (C := RX0) (T := TX0) (N := 9) hx hb hts hi_X5_look_0 hown hK hP 5 rfl rfl 3 (by decide) (hts (.fieldLink RX5 37 "TheLiningsInIt$Jacket" "pullCount" "I") (List.mem_of_getElem? (i := 1) rfl)) (fun _ h9 => h9) rfl dX5_look_2 ?_
  refine va_put (D := D) (ci := 5) (v := .int cn) (ty := .int) (C := RX5) (T := TX5) (N := 7) hx hb hts hi_X5_look_5 tyX5 tyX5_ok nmX5 hown hK hP hD hS 0 rfl rfl 4 (by decide) (hts (.fieldLink RX5 27 "TheLiningsInIt$Ways" "count" "I") (List.mem_of_getElem? (i := 2) rfl)) (fun _ h9 => h9) rfl (tyX5_ok 4 (Nat.le_of_ble_eq_true rfl)) rfl rfl (Nat.le_of_ble_eq_true rfl) dX5_look_5 (fun H locs hP hD hS => ?_)
  have h9R := zRe (ws' := [(w0, .inr (5, [.ref wk, .ref wl, .ref wc, .ref wp, .int cn, .int wh, .int wg])), (wk, .inl (cI, 125, .inl fk)), (wl, .inl (cI, 125, .inl fl)), (wc, .inl (cI, 3, .inl fc)), (wp, .inl (cP, 8, .inr (.inr (.inr (.inr fq))))), (j0, .inr (0, [.ref z0, .ref jp, .ref jc, .int cn, .int de, .int tr, .int se, .int hu, .int sd])), (jp, .inl (cP, 8, .inr (.inr (.inr (.inr fp))))), (jc, .inl (cI, 3, .inl fjc))]) hP hD rfl
  clear hP hD
  obtain ⟨hP, hD⟩ := h9R
  refine lv_aload_n hx hb dX5_look_8 rfl (lv_at hl 0 rfl) ?_
  refine lv_iload_n hx hb dX5_look_9 rfl (lv_at hl 2 rfl) ?_
  refine va_put (D := D) (ci := 5) (v := .int h) (ty := .int) (C := RX5) (T := TX5) (N := 7) hx hb hts hi_X5_look_5 tyX5 tyX5_ok nmX5 hown hK hP hD hS 0 rfl rfl 5 (by decide) (hts (.fieldLink RX5 31 "TheLiningsInIt$Ways" "hurry" "I") (List.mem_of_getElem? (i := 3) rfl)) (fun _ h9 => h9) rfl (tyX5_ok 5 (Nat.le_of_ble_eq_true rfl)) rfl rfl (Nat.le_of_ble_eq_true rfl) dX5_look_10 (fun H locs hP hD hS => ?_)
  have h9R := zRe (ws' := [(w0, .inr (5, [.ref wk, .ref wl, .ref wc, .ref wp, .int cn, .int h, .int wg])), (wk, .inl (cI, 125, .inl fk)), (wl, .inl (cI, 125, .inl fl)), (wc, .inl (cI, 3, .inl fc)), (wp, .inl (cP, 8, .inr (.inr (.inr (.inr fq))))), (j0, .inr (0, [.ref z0, .ref jp, .ref jc, .int cn, .int de, .int tr, .int se, .int hu, .int sd])), (jp, .inl (cP, 8, .inr (.inr (.inr (.inr fp))))), (jc, .inl (cI, 3, .inl fjc))]) hP hD rfl
  clear hP hD
  obtain ⟨hP, hD⟩ := h9R
  refine lv_aload_n hx hb dX5_look_13 rfl (lv_at hl 0 rfl) ?_
  refine lv_iconst (v := 0) hx hb dX5_look_14 (by decide) ?_
  refine va_put (D := D) (ci := 5) (v := .int 0) (ty := .int) (C := RX5) (T := TX5) (N := 7) hx hb hts hi_X5_look_5 tyX5 tyX5_ok nmX5 hown hK hP hD hS 0 rfl rfl 6 (by decide) (hts (.fieldLink RX5 34 "TheLiningsInIt$Ways" "longest" "I") (List.mem_of_getElem? (i := 4) rfl)) (fun _ h9 => h9) rfl (tyX5_ok 6 (Nat.le_of_ble_eq_true rfl)) rfl rfl (Nat.le_of_ble_eq_true rfl) dX5_look_15 (fun H locs hP hD hS => ?_)
  have h9R := zRe (ws' := [(w0, .inr (5, [.ref wk, .ref wl, .ref wc, .ref wp, .int cn, .int h, .int 0])), (wk, .inl (cI, 125, .inl fk)), (wl, .inl (cI, 125, .inl fl)), (wc, .inl (cI, 3, .inl fc)), (wp, .inl (cP, 8, .inr (.inr (.inr (.inr fq))))), (j0, .inr (0, [.ref z0, .ref jp, .ref jc, .int cn, .int de, .int tr, .int se, .int hu, .int sd])), (jp, .inl (cP, 8, .inr (.inr (.inr (.inr fp))))), (jc, .inl (cI, 3, .inl fjc))]) hP hD rfl
  clear hP hD
  obtain ⟨hP, hD⟩ := h9R
  refine lv_iconst (v := 0) hx hb dX5_look_18 (by decide) ?_
  refine lv_istore (lv' := [(4, .int 0), (0, .ref w0), (1, .ref j0), (2, .int h), (3, .int te)]) hx hb dX5_look_19 hl (by decide) rfl (fun ls hl => ?_)
  obtain ⟨i_21, hi_21⟩ : ∃ i : Int32, i = 0 := ⟨_, rfl⟩
  replace hl : lv_has ls 7 [(4, .int i_21), (0, .ref w0), (1, .ref j0), (2, .int h), (3, .int te)] := by rw [hi_21]; exact lv_sub hl [0, 1, 2, 3, 4] rfl
  have h1i_21 : i_21.toInt = 0 := by rw [hi_21]; decide
  obtain ⟨nfu, hni_21⟩ : ∃ nq9 : Nat, cn.toInt ≤ i_21.toInt + (nq9 : Int) := ⟨((cn.toInt : Int) - 0).toNat, by omega⟩
  have hloi_21 : 0 ≤ i_21.toInt := by omega
  obtain ⟨g_1, hg_1⟩ : ∃ g : Nat → Option Nat, g = fq := ⟨_, rfl⟩
  have hwg_1 : zWP po g_1 := by rw [hg_1]; exact hwq
  obtain ⟨v_2, hv_2⟩ : ∃ g : Int32, g = 0 := ⟨_, rfl⟩
  have hbv_2 : 0 ≤ v_2.toInt ∧ v_2.toInt ≤ 60 := by rw [hv_2]; exact ⟨by decide, by decide⟩
  replace hP : va_P D vwCl [(w0, .inr (5, [.ref wk, .ref wl, .ref wc, .ref wp, .int cn, .int h, .int v_2])), (wk, .inl (cI, 125, .inl fk)), (wl, .inl (cI, 125, .inl fl)), (wc, .inl (cI, 3, .inl fc)), (wp, .inl (cP, 8, .inr (.inr (.inr (.inr g_1))))), (j0, .inr (0, [.ref z0, .ref jp, .ref jc, .int cn, .int de, .int tr, .int se, .int hu, .int sd])), (jp, .inl (cP, 8, .inr (.inr (.inr (.inr fp))))), (jc, .inl (cI, 3, .inl fjc))] H := by rw [hg_1, hv_2]; exact hP
  replace hD : va_D (va_A [(w0, .inr (5, [.ref wk, .ref wl, .ref wc, .ref wp, .int wn, .int wh, .int wg])), (wk, .inl (cI, 125, .inl fk)), (wl, .inl (cI, 125, .inl fl)), (wc, .inl (cI, 3, .inl fc)), (wp, .inl (cP, 8, .inr (.inr (.inr (.inr fq))))), (j0, .inr (0, [.ref z0, .ref jp, .ref jc, .int cn, .int de, .int tr, .int se, .int hu, .int sd])), (jp, .inl (cP, 8, .inr (.inr (.inr (.inr fp))))), (jc, .inl (cI, 3, .inl fjc))] s.heap.size) [(w0, .inr (5, [.ref wk, .ref wl, .ref wc, .ref wp, .int cn, .int h, .int v_2])), (wk, .inl (cI, 125, .inl fk)), (wl, .inl (cI, 125, .inl fl)), (wc, .inl (cI, 3, .inl fc)), (wp, .inl (cP, 8, .inr (.inr (.inr (.inr g_1))))), (j0, .inr (0, [.ref z0, .ref jp, .ref jc, .int cn, .int de, .int tr, .int se, .int hu, .int sd])), (jp, .inl (cP, 8, .inr (.inr (.inr (.inr fp))))), (jc, .inl (cI, 3, .inl fjc))] := by rw [hg_1, hv_2]; exact hD
  have hvi_21_0 : zJW po g_1 i_21 kf af tf te := by
    (try rw [hi_21]); (try rw [hg_1]); (try rw [hv_2]); (intro j hj; exfalso; have k0 : (0 : Int32).toInt = 0 := (by decide); omega)
  have hvi_21_1 : (∀ p : Nat, (p : Int) < i_21.toInt → (te.toInt ≠ 0 ∨ (kf p).toInt ≠ 5) → (tf p).toInt ≤ (v_2 : Int32).toInt) := by
    (try rw [hi_21]); (try rw [hg_1]); (try rw [hv_2]); (intro p hp; exfalso; have k0 : (0 : Int32).toInt = 0 := (by decide); omega)
  have hvi_21_2 : i_21.toInt ≤ cn.toInt := by
    (try rw [hi_21]); (try rw [hg_1]); (try rw [hv_2]); (have k0 : (0 : Int32).toInt = 0 := (by decide); omega)
  clear h1i_21 hi_21 hg_1 hv_2
  skip
  revert hni_21
  revert hloi_21
  revert hvi_21_2
  revert hvi_21_1
  revert hvi_21_0
  revert hbv_2
  revert hwg_1
  revert hl
  revert hS
  revert hD
  revert hP
  revert ls
  revert locs
  revert H
  revert g_1
  revert v_2
  revert i_21
  induction nfu with
  | zero =>
    intro i_21 v_2 g_1 H locs ls hP hD hS hl hwg_1 hbv_2 hvi_21_0 hvi_21_1 hvi_21_2 hloi_21 hni_21
    have hzi_21 : cn.toInt ≤ i_21.toInt := by omega
    refine lv_iload hx hb dX5_look_21 (lv_at hl 0 rfl) ?_
    refine lv_aload_n hx hb dX5_look_23 rfl (lv_at hl 1 rfl) ?_
    refine va_get (D := D) (ci := 5) (v := .int cn) (C := RX5) (T := TX5) (N := 7) hx hb hts hi_X5_look_5 hown hK hP 0 rfl rfl 4 (by decide) (hts (.fieldLink RX5 27 "TheLiningsInIt$Ways" "count" "I") (List.mem_of_getElem? (i := 2) rfl)) (fun _ h9 => h9) rfl dX5_look_24 ?_
    refine lv_icmp_ge (tgt := 122) hx hb dX5_look_27 (by decide) (fun c_3 => ?_) (fun c_3 => ?_)
    · have fc_3 : cn.toInt ≤ i_21.toInt := zf_le c_3 rfl rfl
      refine lv_aload_n hx hb dX5_look_122 rfl (lv_at hl 2 rfl) ?_
      refine va_get (D := D) (ci := 0) (v := .ref jc) (C := RX0) (T := TX0) (N := 9) hx hb hts hi_X5_look_0 hown hK hP 5 rfl rfl 2 (by decide) (hts (.fieldLink RX5 58 "TheLiningsInIt$Jacket" "costs" "[I") (List.mem_of_getElem? (i := 12) rfl)) (fun _ h9 => h9) rfl dX5_look_123 ?_
      refine lv_iconst (v := 0) hx hb dX5_look_126 (by decide) ?_
      refine lv_aload_n hx hb dX5_look_127 rfl (lv_at hl 1 rfl) ?_
      refine va_get (D := D) (ci := 5) (v := .ref wc) (C := RX5) (T := TX5) (N := 7) hx hb hts hi_X5_look_5 hown hK hP 0 rfl rfl 2 (by decide) (hts (.fieldLink RX5 18 "TheLiningsInIt$Ways" "costs" "[I") (List.mem_of_getElem? (i := 13) rfl)) (fun _ h9 => h9) rfl dX5_look_128 ?_
      refine lv_iconst (v := 0) hx hb dX5_look_131 (by decide) ?_
      refine lv_iconst (v := 3) hx hb dX5_look_132 (by decide) ?_
      refine va_copyi hx hb (hml.trans hl.1.symm) hown (hts (.methodLink RX5 59 arraycopyName) (List.mem_of_getElem? (i := 14) rfl)) (hts _ (List.mem_of_getElem? (i := 15) rfl)) (hts _ (List.mem_of_getElem? (i := 16) rfl)) (hts _ (List.mem_of_getElem? (i := 17) rfl)) hK hP hD hS 7 3 0 0 rfl rfl rfl rfl rfl (by decide) (by decide) (by decide) (by decide) (by decide) (fun _ _ => rfl) (Nat.le_of_ble_eq_true rfl) (by decide) dX5_look_133 (fun H locs hP hD hS => ?_)
      have hpg_4 : zRg (va_cpy fjc fc (0 : Int32).toNatClampNeg (0 : Int32).toNatClampNeg (3 : Int32).toNatClampNeg) (0) 99 := zRg_cpy hp_fjc hp_fc
      obtain ⟨g_4, hg_4⟩ : ∃ g : Nat → Int32, g = va_cpy fjc fc (0 : Int32).toNatClampNeg (0 : Int32).toNatClampNeg (3 : Int32).toNatClampNeg := ⟨_, rfl⟩
      rw [← hg_4] at hP hD hpg_4
      have h9R := zRe (ws' := [(w0, .inr (5, [.ref wk, .ref wl, .ref wc, .ref wp, .int cn, .int h, .int v_2])), (wk, .inl (cI, 125, .inl fk)), (wl, .inl (cI, 125, .inl fl)), (wc, .inl (cI, 3, .inl g_4)), (wp, .inl (cP, 8, .inr (.inr (.inr (.inr g_1))))), (j0, .inr (0, [.ref z0, .ref jp, .ref jc, .int cn, .int de, .int tr, .int se, .int hu, .int sd])), (jp, .inl (cP, 8, .inr (.inr (.inr (.inr fp))))), (jc, .inl (cI, 3, .inl fjc))]) hP hD rfl
      clear hP hD
      obtain ⟨hP, hD⟩ := h9R
      refine lv_aload_n hx hb dX5_look_136 rfl (lv_at hl 1 rfl) ?_
      refine va_get (D := D) (ci := 5) (v := .ref wk) (C := RX5) (T := TX5) (N := 7) hx hb hts hi_X5_look_5 hown hK hP 0 rfl rfl 0 (by decide) (hts (.fieldLink RX5 9 "TheLiningsInIt$Ways" "knownMost" "[I") (List.mem_of_getElem? (i := 18) rfl)) (fun _ h9 => h9) rfl dX5_look_137 ?_
      refine lv_iconst (v := (-1)) hx hb dX5_look_140 (by decide) ?_
      skip
      refine zw_Sv (As := [.ref wk, .int (-1)]) (rest := []) (wr := [(w0, .inr (5, [.ref wk, .ref wl, .ref wc, .ref wp, .int cn, .int h, .int v_2])), (wl, .inl (cI, 125, .inl fl)), (wc, .inl (cI, 3, .inl g_4)), (wp, .inl (cP, 8, .inr (.inr (.inr (.inr g_1))))), (j0, .inr (0, [.ref z0, .ref jp, .ref jc, .int cn, .int de, .int tr, .int se, .int hu, .int sd])), (jp, .inl (cP, 8, .inr (.inr (.inr (.inr fp))))), (jc, .inl (cI, 3, .inl fjc))]) ⟨hx, hb, hml, hown, hts⟩ (c_F_fillI l D cI cJ cZ cP cS po wk fk ((-1))  H.size) (va_cwS 2 hts gX5_look_J7_fill_53178 rfl rfl rfl dh_J7_fill_53178 ⟨Nat.le_of_ble_eq_true rfl, Nat.le_of_ble_eq_true rfl⟩) hK hN (hZ.kept hS) hP hD hS hA [1] [0, 2, 3, 4, 5, 6, 7] rfl rfl (by decide) (by decide) (by decide) rfl hl.1 rfl (Nat.le_of_ble_eq_true rfl) dX5_look_141 ⟨Nat.le_of_ble_eq_true rfl, Nat.le_of_ble_eq_true rfl⟩ (fun u_6 H locs hr_5 hP hD hS => ?_)
      obtain ⟨q_7, rfl⟩ : ∃ z, z = u_6 := ⟨_, rfl⟩
      obtain ⟨hsr_5_0, hr_5⟩ := hr_5
      have h9R := zRe (ws' := [(w0, .inr (5, [.ref wk, .ref wl, .ref wc, .ref wp, .int cn, .int h, .int v_2])), (wl, .inl (cI, 125, .inl fl)), (wc, .inl (cI, 3, .inl g_4)), (wp, .inl (cP, 8, .inr (.inr (.inr (.inr g_1))))), (j0, .inr (0, [.ref z0, .ref jp, .ref jc, .int cn, .int de, .int tr, .int se, .int hu, .int sd])), (jp, .inl (cP, 8, .inr (.inr (.inr (.inr fp))))), (jc, .inl (cI, 3, .inl fjc)), (wk, .inl (cI, 125, .inl q_7))]) hP hD rfl
      clear hP hD
      obtain ⟨hP, hD⟩ := h9R
      refine lv_aload_n hx hb dX5_look_144 rfl (lv_at hl 1 rfl) ?_
      refine va_get (D := D) (ci := 5) (v := .ref wl) (C := RX5) (T := TX5) (N := 7) hx hb hts hi_X5_look_5 hown hK hP 0 rfl rfl 1 (by decide) (hts (.fieldLink RX5 15 "TheLiningsInIt$Ways" "knownLeast" "[I") (List.mem_of_getElem? (i := 19) rfl)) (fun _ h9 => h9) rfl dX5_look_145 ?_
      refine lv_iconst (v := (-1)) hx hb dX5_look_148 (by decide) ?_
      skip
      refine zw_Sv (As := [.ref wl, .int (-1)]) (rest := []) (wr := [(w0, .inr (5, [.ref wk, .ref wl, .ref wc, .ref wp, .int cn, .int h, .int v_2])), (wc, .inl (cI, 3, .inl g_4)), (wp, .inl (cP, 8, .inr (.inr (.inr (.inr g_1))))), (j0, .inr (0, [.ref z0, .ref jp, .ref jc, .int cn, .int de, .int tr, .int se, .int hu, .int sd])), (jp, .inl (cP, 8, .inr (.inr (.inr (.inr fp))))), (jc, .inl (cI, 3, .inl fjc)), (wk, .inl (cI, 125, .inl q_7))]) ⟨hx, hb, hml, hown, hts⟩ (c_F_fillI l D cI cJ cZ cP cS po wl fl ((-1))  H.size) (va_cwS 2 hts gX5_look_J7_fill_53178 rfl rfl rfl dh_J7_fill_53178 ⟨Nat.le_of_ble_eq_true rfl, Nat.le_of_ble_eq_true rfl⟩) hK hN (hZ.kept hS) hP hD hS hA [1] [0, 2, 3, 4, 5, 6, 7] rfl rfl (by decide) (by decide) (by decide) rfl hl.1 rfl (Nat.le_of_ble_eq_true rfl) dX5_look_149 ⟨Nat.le_of_ble_eq_true rfl, Nat.le_of_ble_eq_true rfl⟩ (fun u_9 H locs hr_8 hP hD hS => ?_)
      obtain ⟨q_10, rfl⟩ : ∃ z, z = u_9 := ⟨_, rfl⟩
      obtain ⟨hsr_8_0, hr_8⟩ := hr_8
      have h9R := zRe (ws' := [(w0, .inr (5, [.ref wk, .ref wl, .ref wc, .ref wp, .int cn, .int h, .int v_2])), (wc, .inl (cI, 3, .inl g_4)), (wp, .inl (cP, 8, .inr (.inr (.inr (.inr g_1))))), (j0, .inr (0, [.ref z0, .ref jp, .ref jc, .int cn, .int de, .int tr, .int se, .int hu, .int sd])), (jp, .inl (cP, 8, .inr (.inr (.inr (.inr fp))))), (jc, .inl (cI, 3, .inl fjc)), (wk, .inl (cI, 125, .inl q_7)), (wl, .inl (cI, 125, .inl q_10))]) hP hD rfl
      clear hP hD
      obtain ⟨hP, hD⟩ := h9R
      exact W.vret hx hb hr (fun t ht hW => ⟨⟨(cn, h, v_2, q_7, q_10, g_4, g_1), rfl, ⟨(show 0 ≤ cn.toInt ∧ cn.toInt ≤ 8 from ⟨hy6, hy7⟩), (show 0 ≤ h.toInt ∧ h.toInt ≤ 9 from ⟨hy12, hy13⟩), (show 0 ≤ v_2.toInt ∧ v_2.toInt ≤ 60 from hbv_2), hpg_4, hwg_1, (show zJW po g_1 cn kf af tf te from by (intro j hj; exact hvi_21_0 j (by omega))), (show (∀ p : Nat, (p : Int) < cn.toInt → (te.toInt ≠ 0 ∨ (kf p).toInt ≠ 5) → (tf p).toInt ≤ v_2.toInt) from by (intro p hp hl; exact hvi_21_1 p (by omega) hl)), (show cn = cn ∧ h = h from by exact ⟨rfl, rfl⟩), (show (∀ j : Nat, j < 3 → g_4 j = fjc j) from by (intro j hj; rw [hg_4]; unfold va_cpy; have k0 : (0 : Int32).toNatClampNeg = 0 := (by decide); have k3 : (3 : Int32).toNatClampNeg = 3 := (by decide); rw [k0, k3, if_pos (by omega)]; congr 1; omega)), (show (∀ j : Nat, j < 125 → (q_7 j).toInt = -1) from by (intro j hj; rw [hsr_5_0 j hj]; decide)), (show (∀ j : Nat, j < 125 → (q_10 j).toInt = -1) from by (intro j hj; rw [hsr_8_0 j hj]; decide)), trivial⟩, zRet ht hP hD [0, 6, 7, 1, 2, 3, 4, 5] (by decide) rfl⟩, hS.F ht⟩) hS.2.2 dX5_look_152
    · exfalso; have fc_3 : i_21.toInt < cn.toInt := zf_nle c_3 rfl rfl; omega
  | succ nfu ih =>
    intro i_21 v_2 g_1 H locs ls hP hD hS hl hwg_1 hbv_2 hvi_21_0 hvi_21_1 hvi_21_2 hloi_21 hni_21
    refine lv_iload hx hb dX5_look_21 (lv_at hl 0 rfl) ?_
    refine lv_aload_n hx hb dX5_look_23 rfl (lv_at hl 1 rfl) ?_
    refine va_get (D := D) (ci := 5) (v := .int cn) (C := RX5) (T := TX5) (N := 7) hx hb hts hi_X5_look_5 hown hK hP 0 rfl rfl 4 (by decide) (hts (.fieldLink RX5 27 "TheLiningsInIt$Ways" "count" "I") (List.mem_of_getElem? (i := 2) rfl)) (fun _ h9 => h9) rfl dX5_look_24 ?_
    refine lv_icmp_ge (tgt := 122) hx hb dX5_look_27 (by decide) (fun c_11 => ?_) (fun c_11 => ?_)
    · have fc_11 : cn.toInt ≤ i_21.toInt := zf_le c_11 rfl rfl
      refine lv_aload_n hx hb dX5_look_122 rfl (lv_at hl 2 rfl) ?_
      refine va_get (D := D) (ci := 0) (v := .ref jc) (C := RX0) (T := TX0) (N := 9) hx hb hts hi_X5_look_0 hown hK hP 5 rfl rfl 2 (by decide) (hts (.fieldLink RX5 58 "TheLiningsInIt$Jacket" "costs" "[I") (List.mem_of_getElem? (i := 12) rfl)) (fun _ h9 => h9) rfl dX5_look_123 ?_
      refine lv_iconst (v := 0) hx hb dX5_look_126 (by decide) ?_
      refine lv_aload_n hx hb dX5_look_127 rfl (lv_at hl 1 rfl) ?_
      refine va_get (D := D) (ci := 5) (v := .ref wc) (C := RX5) (T := TX5) (N := 7) hx hb hts hi_X5_look_5 hown hK hP 0 rfl rfl 2 (by decide) (hts (.fieldLink RX5 18 "TheLiningsInIt$Ways" "costs" "[I") (List.mem_of_getElem? (i := 13) rfl)) (fun _ h9 => h9) rfl dX5_look_128 ?_
      refine lv_iconst (v := 0) hx hb dX5_look_131 (by decide) ?_
      refine lv_iconst (v := 3) hx hb dX5_look_132 (by decide) ?_
      refine va_copyi hx hb (hml.trans hl.1.symm) hown (hts (.methodLink RX5 59 arraycopyName) (List.mem_of_getElem? (i := 14) rfl)) (hts _ (List.mem_of_getElem? (i := 15) rfl)) (hts _ (List.mem_of_getElem? (i := 16) rfl)) (hts _ (List.mem_of_getElem? (i := 17) rfl)) hK hP hD hS 7 3 0 0 rfl rfl rfl rfl rfl (by decide) (by decide) (by decide) (by decide) (by decide) (fun _ _ => rfl) (Nat.le_of_ble_eq_true rfl) (by decide) dX5_look_133 (fun H locs hP hD hS => ?_)
      have hpg_12 : zRg (va_cpy fjc fc (0 : Int32).toNatClampNeg (0 : Int32).toNatClampNeg (3 : Int32).toNatClampNeg) (0) 99 := zRg_cpy hp_fjc hp_fc
      obtain ⟨g_12, hg_12⟩ : ∃ g : Nat → Int32, g = va_cpy fjc fc (0 : Int32).toNatClampNeg (0 : Int32).toNatClampNeg (3 : Int32).toNatClampNeg := ⟨_, rfl⟩
      rw [← hg_12] at hP hD hpg_12
      have h9R := zRe (ws' := [(w0, .inr (5, [.ref wk, .ref wl, .ref wc, .ref wp, .int cn, .int h, .int v_2])), (wk, .inl (cI, 125, .inl fk)), (wl, .inl (cI, 125, .inl fl)), (wc, .inl (cI, 3, .inl g_12)), (wp, .inl (cP, 8, .inr (.inr (.inr (.inr g_1))))), (j0, .inr (0, [.ref z0, .ref jp, .ref jc, .int cn, .int de, .int tr, .int se, .int hu, .int sd])), (jp, .inl (cP, 8, .inr (.inr (.inr (.inr fp))))), (jc, .inl (cI, 3, .inl fjc))]) hP hD rfl
      clear hP hD
      obtain ⟨hP, hD⟩ := h9R
      refine lv_aload_n hx hb dX5_look_136 rfl (lv_at hl 1 rfl) ?_
      refine va_get (D := D) (ci := 5) (v := .ref wk) (C := RX5) (T := TX5) (N := 7) hx hb hts hi_X5_look_5 hown hK hP 0 rfl rfl 0 (by decide) (hts (.fieldLink RX5 9 "TheLiningsInIt$Ways" "knownMost" "[I") (List.mem_of_getElem? (i := 18) rfl)) (fun _ h9 => h9) rfl dX5_look_137 ?_
      refine lv_iconst (v := (-1)) hx hb dX5_look_140 (by decide) ?_
      skip
      refine zw_Sv (As := [.ref wk, .int (-1)]) (rest := []) (wr := [(w0, .inr (5, [.ref wk, .ref wl, .ref wc, .ref wp, .int cn, .int h, .int v_2])), (wl, .inl (cI, 125, .inl fl)), (wc, .inl (cI, 3, .inl g_12)), (wp, .inl (cP, 8, .inr (.inr (.inr (.inr g_1))))), (j0, .inr (0, [.ref z0, .ref jp, .ref jc, .int cn, .int de, .int tr, .int se, .int hu, .int sd])), (jp, .inl (cP, 8, .inr (.inr (.inr (.inr fp))))), (jc, .inl (cI, 3, .inl fjc))]) ⟨hx, hb, hml, hown, hts⟩ (c_F_fillI l D cI cJ cZ cP cS po wk fk ((-1))  H.size) (va_cwS 2 hts gX5_look_J7_fill_53178 rfl rfl rfl dh_J7_fill_53178 ⟨Nat.le_of_ble_eq_true rfl, Nat.le_of_ble_eq_true rfl⟩) hK hN (hZ.kept hS) hP hD hS hA [1] [0, 2, 3, 4, 5, 6, 7] rfl rfl (by decide) (by decide) (by decide) rfl hl.1 rfl (Nat.le_of_ble_eq_true rfl) dX5_look_141 ⟨Nat.le_of_ble_eq_true rfl, Nat.le_of_ble_eq_true rfl⟩ (fun u_14 H locs hr_13 hP hD hS => ?_)
      obtain ⟨q_15, rfl⟩ : ∃ z, z = u_14 := ⟨_, rfl⟩
      obtain ⟨hsr_13_0, hr_13⟩ := hr_13
      have h9R := zRe (ws' := [(w0, .inr (5, [.ref wk, .ref wl, .ref wc, .ref wp, .int cn, .int h, .int v_2])), (wl, .inl (cI, 125, .inl fl)), (wc, .inl (cI, 3, .inl g_12)), (wp, .inl (cP, 8, .inr (.inr (.inr (.inr g_1))))), (j0, .inr (0, [.ref z0, .ref jp, .ref jc, .int cn, .int de, .int tr, .int se, .int hu, .int sd])), (jp, .inl (cP, 8, .inr (.inr (.inr (.inr fp))))), (jc, .inl (cI, 3, .inl fjc)), (wk, .inl (cI, 125, .inl q_15))]) hP hD rfl
      clear hP hD
      obtain ⟨hP, hD⟩ := h9R
      refine lv_aload_n hx hb dX5_look_144 rfl (lv_at hl 1 rfl) ?_
      refine va_get (D := D) (ci := 5) (v := .ref wl) (C := RX5) (T := TX5) (N := 7) hx hb hts hi_X5_look_5 hown hK hP 0 rfl rfl 1 (by decide) (hts (.fieldLink RX5 15 "TheLiningsInIt$Ways" "knownLeast" "[I") (List.mem_of_getElem? (i := 19) rfl)) (fun _ h9 => h9) rfl dX5_look_145 ?_
      refine lv_iconst (v := (-1)) hx hb dX5_look_148 (by decide) ?_
      skip
      refine zw_Sv (As := [.ref wl, .int (-1)]) (rest := []) (wr := [(w0, .inr (5, [.ref wk, .ref wl, .ref wc, .ref wp, .int cn, .int h, .int v_2])), (wc, .inl (cI, 3, .inl g_12)), (wp, .inl (cP, 8, .inr (.inr (.inr (.inr g_1))))), (j0, .inr (0, [.ref z0, .ref jp, .ref jc, .int cn, .int de, .int tr, .int se, .int hu, .int sd])), (jp, .inl (cP, 8, .inr (.inr (.inr (.inr fp))))), (jc, .inl (cI, 3, .inl fjc)), (wk, .inl (cI, 125, .inl q_15))]) ⟨hx, hb, hml, hown, hts⟩ (c_F_fillI l D cI cJ cZ cP cS po wl fl ((-1))  H.size) (va_cwS 2 hts gX5_look_J7_fill_53178 rfl rfl rfl dh_J7_fill_53178 ⟨Nat.le_of_ble_eq_true rfl, Nat.le_of_ble_eq_true rfl⟩) hK hN (hZ.kept hS) hP hD hS hA [1] [0, 2, 3, 4, 5, 6, 7] rfl rfl (by decide) (by decide) (by decide) rfl hl.1 rfl (Nat.le_of_ble_eq_true rfl) dX5_look_149 ⟨Nat.le_of_ble_eq_true rfl, Nat.le_of_ble_eq_true rfl⟩ (fun u_17 H locs hr_16 hP hD hS => ?_)
      obtain ⟨q_18, rfl⟩ : ∃ z, z = u_17 := ⟨_, rfl⟩
      obtain ⟨hsr_16_0, hr_16⟩ := hr_16
      have h9R := zRe (ws' := [(w0, .inr (5, [.ref wk, .ref wl, .ref wc, .ref wp, .int cn, .int h, .int v_2])), (wc, .inl (cI, 3, .inl g_12)), (wp, .inl (cP, 8, .inr (.inr (.inr (.inr g_1))))), (j0, .inr (0, [.ref z0, .ref jp, .ref jc, .int cn, .int de, .int tr, .int se, .int hu, .int sd])), (jp, .inl (cP, 8, .inr (.inr (.inr (.inr fp))))), (jc, .inl (cI, 3, .inl fjc)), (wk, .inl (cI, 125, .inl q_15)), (wl, .inl (cI, 125, .inl q_18))]) hP hD rfl
      clear hP hD
      obtain ⟨hP, hD⟩ := h9R
      exact W.vret hx hb hr (fun t ht hW => ⟨⟨(cn, h, v_2, q_15, q_18, g_12, g_1), rfl, ⟨(show 0 ≤ cn.toInt ∧ cn.toInt ≤ 8 from ⟨hy6, hy7⟩), (show 0 ≤ h.toInt ∧ h.toInt ≤ 9 from ⟨hy12, hy13⟩), (show 0 ≤ v_2.toInt ∧ v_2.toInt ≤ 60 from hbv_2), hpg_12, hwg_1, (show zJW po g_1 cn kf af tf te from by (intro j hj; exact hvi_21_0 j (by omega))), (show (∀ p : Nat, (p : Int) < cn.toInt → (te.toInt ≠ 0 ∨ (kf p).toInt ≠ 5) → (tf p).toInt ≤ v_2.toInt) from by (intro p hp hl; exact hvi_21_1 p (by omega) hl)), (show cn = cn ∧ h = h from by exact ⟨rfl, rfl⟩), (show (∀ j : Nat, j < 3 → g_12 j = fjc j) from by (intro j hj; rw [hg_12]; unfold va_cpy; have k0 : (0 : Int32).toNatClampNeg = 0 := (by decide); have k3 : (3 : Int32).toNatClampNeg = 3 := (by decide); rw [k0, k3, if_pos (by omega)]; congr 1; omega)), (show (∀ j : Nat, j < 125 → (q_15 j).toInt = -1) from by (intro j hj; rw [hsr_13_0 j hj]; decide)), (show (∀ j : Nat, j < 125 → (q_18 j).toInt = -1) from by (intro j hj; rw [hsr_16_0 j hj]; decide)), trivial⟩, zRet ht hP hD [0, 6, 7, 1, 2, 3, 4, 5] (by decide) rfl⟩, hS.F ht⟩) hS.2.2 dX5_look_152
    · have fc_11 : i_21.toInt < cn.toInt := zf_nle c_11 rfl rfl
      refine lv_iload hx hb dX5_look_30 (lv_at hl 0 rfl) ?_
      refine lv_bipush (v := 8) hx hb dX5_look_32 (by decide) ?_
      refine lv_icmp_ge (tgt := 122) hx hb dX5_look_34 (by decide) (fun c_19 => ?_) (fun c_19 => ?_)
      · exfalso; have fc_19 : 8 ≤ i_21.toInt := zf_le c_19 (by decide) rfl; omega
      · have fc_19 : i_21.toInt < 8 := zf_nle c_19 (by decide) rfl
        refine lv_aload_n hx hb dX5_look_37 rfl (lv_at hl 2 rfl) ?_
        refine lv_iload hx hb dX5_look_38 (lv_at hl 0 rfl) ?_
        refine zc_Vq (As := [.int i_21]) (rest := []) ⟨hx, hb, hml, hown, hts⟩ (c_F_J_pullAt l D cI cJ cZ cP cS po j0 jp jc z0 0 0 (cn) (de) (tr) (se) (hu) (sd) fp kf af tf (i_21) hy6 hy7 hy8 hy9 hy10 hy11 hjp) (cwV 1 hts gX5_look_X0_pullAt rfl rfl rfl ⟨rfl, dh_X0_pullAt⟩ ⟨Nat.le_of_ble_eq_true rfl, Nat.le_of_ble_eq_true rfl⟩) hK hN (hZ.kept hS) hP (hP.sub [5, 6] rfl) (va_recv (q := (RX0, TX0, 9)) hK hP (ci := 0) (q0 := 5) rfl rfl) rfl hl.1 rfl (Nat.le_of_ble_eq_true rfl) dX5_look_40 ⟨Nat.le_of_ble_eq_true rfl, Nat.le_of_ble_eq_true rfl⟩ (fun r_20 hr_20 => ?_)
        rcases hr_20 with ⟨rfl, g_21⟩ | ⟨rfl, g_22, g_23⟩ | ⟨⟨u_25, kiu_25, au_25, tu_25, rfl, huu_25, hkku_25⟩, g_24⟩
        · exfalso; omega
        · exfalso; omega
        · refine W.eq (g2 := F0 m 43 ls (.ref u_25 :: [])) rfl ?_
          obtain ⟨hku_25, hau_25, htu_25⟩ := zPu_pr (hZ.kept hS) huu_25
          refine lv_astore (lv' := [(5, .ref u_25), (4, .int i_21), (0, .ref w0), (1, .ref j0), (2, .int h), (3, .int te)]) hx hb dX5_look_43 hl (by decide) rfl (fun ls hl => ?_)
          refine lv_aload hx hb dX5_look_45 (lv_at hl 0 rfl) ?_
          refine lv_ifnull hx hb dX5_look_47 ?_
          refine lv_iload_n hx hb dX5_look_50 rfl (lv_at hl 5 rfl) ?_
          refine lv_if_ne (tgt := 63) hx hb dX5_look_51 (by decide) (fun c_26 => ?_) (fun c_26 => ?_)
          · have fc_26 : te.toInt ≠ 0 := zf_ne c_26 rfl (by decide)
            refine lv_iconst (v := 1) hx hb dX5_look_63 (by decide) ?_
            refine lv_goto (tgt := 68) hx hb dX5_look_64 (by decide) ?_
            refine lv_istore (lv' := [(6, .int 1), (5, .ref u_25), (4, .int i_21), (0, .ref w0), (1, .ref j0), (2, .int h), (3, .int te)]) hx hb dX5_look_68 hl (by decide) rfl (fun ls hl => ?_)
            refine lv_aload_n hx hb dX5_look_70 rfl (lv_at hl 3 rfl) ?_
            refine va_get (D := D) (ci := 5) (v := .ref wp) (C := RX5) (T := TX5) (N := 7) hx hb hts hi_X5_look_5 hown hK hP 0 rfl rfl 3 (by decide) (hts (.fieldLink RX5 23 "TheLiningsInIt$Ways" "pulls" "[LTheLiningsInIt$Pull;") (List.mem_of_getElem? (i := 6) rfl)) (fun _ h9 => h9) rfl dX5_look_71 ?_
            refine lv_iload hx hb dX5_look_74 (lv_at hl 2 rfl) ?_
            refine lv_iload hx hb dX5_look_76 (lv_at hl 0 rfl) ?_
            refine lv_if_eq (tgt := 86) hx hb dX5_look_78 (by decide) (fun c_27 => ?_) (fun c_27 => ?_)
            · exact absurd c_27 (by decide)
            · refine lv_aload hx hb dX5_look_81 (lv_at hl 1 rfl) ?_
              refine lv_goto (tgt := 87) hx hb dX5_look_83 (by decide) ?_
              refine va_astqM hx hb hK hP hD hS 4 3 rfl rfl (zp_any hK (zPu_P (hZ.kept hS) huu_25)) (zf_in (by omega) (by omega)) dX5_look_87 (fun H locs hP hD hS => ?_)
              have hwg_28 : zWP po (va_up g_1 i_21.toNatClampNeg (some u_25)) := zWP_upd hwg_1 (Or.inr ⟨_, _, _, _, rfl, huu_25⟩)
              obtain ⟨g_28, hg_28⟩ : ∃ g : Nat → Option Nat, g = va_up g_1 i_21.toNatClampNeg (some u_25) := ⟨_, rfl⟩
              rw [← hg_28] at hP hD hwg_28
              have h9R := zRe (ws' := [(w0, .inr (5, [.ref wk, .ref wl, .ref wc, .ref wp, .int cn, .int h, .int v_2])), (wk, .inl (cI, 125, .inl fk)), (wl, .inl (cI, 125, .inl fl)), (wc, .inl (cI, 3, .inl fc)), (wp, .inl (cP, 8, .inr (.inr (.inr (.inr g_28))))), (j0, .inr (0, [.ref z0, .ref jp, .ref jc, .int cn, .int de, .int tr, .int se, .int hu, .int sd])), (jp, .inl (cP, 8, .inr (.inr (.inr (.inr fp))))), (jc, .inl (cI, 3, .inl fjc))]) hP hD rfl
              clear hP hD
              obtain ⟨hP, hD⟩ := h9R
              refine lv_aload_n hx hb dX5_look_88 rfl (lv_at hl 3 rfl) ?_
              refine lv_iload hx hb dX5_look_89 (lv_at hl 0 rfl) ?_
              refine lv_if_eq (tgt := 109) hx hb dX5_look_91 (by decide) (fun c_29 => ?_) (fun c_29 => ?_)
              · exact absurd c_29 (by decide)
              · refine lv_aload_n hx hb dX5_look_94 rfl (lv_at hl 3 rfl) ?_
                refine va_get (D := D) (ci := 5) (v := .int v_2) (C := RX5) (T := TX5) (N := 7) hx hb hts hi_X5_look_5 hown hK hP 0 rfl rfl 6 (by decide) (hts (.fieldLink RX5 34 "TheLiningsInIt$Ways" "longest" "I") (List.mem_of_getElem? (i := 4) rfl)) (fun _ h9 => h9) rfl dX5_look_95 ?_
                refine lv_aload hx hb dX5_look_98 (lv_at hl 1 rfl) ?_
                refine va_get (D := D) (ci := 2) (v := .int tu_25) (C := RX2) (T := TX2) (N := 3) hx hb hts hi_X5_look_2 hown hK (zPu_P (hZ.kept hS) huu_25) 0 rfl rfl 2 (by decide) (hts (.fieldLink RX5 49 "TheLiningsInIt$Pull" "takes" "I") (List.mem_of_getElem? (i := 7) rfl)) (fun _ h9 => h9) rfl dX5_look_100 ?_
                refine va_mmax hx hb (hml.trans hl.1.symm) hown (hts (.methodLink RX5 52 Lib.Math.max.name) (List.mem_of_getElem? (i := 8) rfl)) (hts _ (List.mem_of_getElem? (i := 9) rfl)) (hts _ (List.mem_of_getElem? (i := 10) rfl)) (hts _ (List.mem_of_getElem? (i := 11) rfl)) (Nat.le_of_ble_eq_true rfl) (Nat.le_of_ble_eq_true rfl) (Nat.le_of_ble_eq_true rfl) (Nat.le_of_ble_eq_true rfl) dX5_look_103 ?_
                refine lv_topi (fun x_30 ex_30 => ?_)
                have qx_30 := zf_max ex_30 (x1 := v_2.toInt) (y1 := tu_25.toInt) rfl rfl
                refine lv_goto (tgt := 113) hx hb dX5_look_106 (by decide) ?_
                refine va_put (D := D) (ci := 5) (v := .int x_30) (ty := .int) (C := RX5) (T := TX5) (N := 7) hx hb hts hi_X5_look_5 tyX5 tyX5_ok nmX5 hown hK hP hD hS 0 rfl rfl 6 (by decide) (hts (.fieldLink RX5 34 "TheLiningsInIt$Ways" "longest" "I") (List.mem_of_getElem? (i := 4) rfl)) (fun _ h9 => h9) rfl (tyX5_ok 6 (Nat.le_of_ble_eq_true rfl)) rfl rfl (Nat.le_of_ble_eq_true rfl) dX5_look_113 (fun H locs hP hD hS => ?_)
                have h9R := zRe (ws' := [(w0, .inr (5, [.ref wk, .ref wl, .ref wc, .ref wp, .int cn, .int h, .int x_30])), (wk, .inl (cI, 125, .inl fk)), (wl, .inl (cI, 125, .inl fl)), (wc, .inl (cI, 3, .inl fc)), (wp, .inl (cP, 8, .inr (.inr (.inr (.inr g_28))))), (j0, .inr (0, [.ref z0, .ref jp, .ref jc, .int cn, .int de, .int tr, .int se, .int hu, .int sd])), (jp, .inl (cP, 8, .inr (.inr (.inr (.inr fp))))), (jc, .inl (cI, 3, .inl fjc))]) hP hD rfl
                clear hP hD
                obtain ⟨hP, hD⟩ := h9R
                obtain ⟨x_31, ex_31⟩ : ∃ y : Int32, y = i_21 + 1 := ⟨_, rfl⟩
                have qx_31 : x_31.toInt = i_21.toInt + 1 := dw_incK ex_31 fc_19 (by decide)
                refine lv_iinc (v := x_31) (lv' := [(4, .int x_31), (6, .int 1), (5, .ref u_25), (0, .ref w0), (1, .ref j0), (2, .int h), (3, .int te)]) hx hb dX5_look_116 hl (k := 2) rfl ex_31.symm (by decide) rfl (fun ls hl => ?_)
                refine lv_goto (tgt := 21) hx hb dX5_look_119 (by decide) ?_
                exact ih x_31 (x_30) (g_28) _ _ _ (hP.sub [0, 1, 2, 3, 4, 5, 6, 7] rfl) (hD.sub [0, 1, 2, 3, 4, 5, 6, 7] (by decide) rfl) hS (lv_sub hl [0, 3, 4, 5, 6] rfl) hwg_28 ⟨by omega, by omega⟩ (show zJW po g_28 x_31 kf af tf te from by (obtain ⟨⟨y1, y2, y3⟩, y4, y5⟩ := hkku_25; rw [hg_28]; refine zJW_S hvi_21_0 (by omega) (by omega) (Or.inr ⟨u_25, rfl, ?_, ?_⟩); (rw [← y1, ← y2, ← y3]; exact huu_25); (rw [← y1]; omega))) (show (∀ p : Nat, (p : Int) < x_31.toInt → (te.toInt ≠ 0 ∨ (kf p).toInt ≠ 5) → (tf p).toInt ≤ (x_30 : Int32).toInt) from by (obtain ⟨⟨y1, y2, y3⟩, y4, y5⟩ := hkku_25; have y7 : i_21.toNatClampNeg = i_21.toInt.toNat := rfl; rw [y7] at y1 y3; intro p hp hl; rcases (show (p : Int) < i_21.toInt ∨ p = i_21.toInt.toNat by omega) with h9 | h9; (have z := hvi_21_1 p h9 hl; omega); (rw [h9, ← y3]; omega))) (show x_31.toInt ≤ cn.toInt from by omega) (dw_lo hloi_21 qx_31) (dw_hn hni_21 qx_31)
          · have fc_26 : te.toInt = 0 := zf_eq c_26 rfl (by decide)
            refine lv_aload hx hb dX5_look_54 (lv_at hl 0 rfl) ?_
            refine va_get (D := D) (ci := 2) (v := .int kiu_25) (C := RX2) (T := TX2) (N := 3) hx hb hts hi_X5_look_2 hown hK (zPu_P (hZ.kept hS) huu_25) 0 rfl rfl 0 (by decide) (hts (.fieldLink RX5 46 "TheLiningsInIt$Pull" "kind" "I") (List.mem_of_getElem? (i := 5) rfl)) (fun _ h9 => h9) rfl dX5_look_56 ?_
            refine lv_iconst (v := 5) hx hb dX5_look_59 (by decide) ?_
            refine lv_icmp_eq (tgt := 67) hx hb dX5_look_60 (by decide) (fun c_32 => ?_) (fun c_32 => ?_)
            · have fc_32 : kiu_25.toInt = 5 := zf_eq c_32 rfl (by decide)
              refine lv_iconst (v := 0) hx hb dX5_look_67 (by decide) ?_
              refine lv_istore (lv' := [(6, .int 0), (5, .ref u_25), (4, .int i_21), (0, .ref w0), (1, .ref j0), (2, .int h), (3, .int te)]) hx hb dX5_look_68 hl (by decide) rfl (fun ls hl => ?_)
              refine lv_aload_n hx hb dX5_look_70 rfl (lv_at hl 3 rfl) ?_
              refine va_get (D := D) (ci := 5) (v := .ref wp) (C := RX5) (T := TX5) (N := 7) hx hb hts hi_X5_look_5 hown hK hP 0 rfl rfl 3 (by decide) (hts (.fieldLink RX5 23 "TheLiningsInIt$Ways" "pulls" "[LTheLiningsInIt$Pull;") (List.mem_of_getElem? (i := 6) rfl)) (fun _ h9 => h9) rfl dX5_look_71 ?_
              refine lv_iload hx hb dX5_look_74 (lv_at hl 2 rfl) ?_
              refine lv_iload hx hb dX5_look_76 (lv_at hl 0 rfl) ?_
              refine lv_if_eq (tgt := 86) hx hb dX5_look_78 (by decide) (fun c_33 => ?_) (fun c_33 => ?_)
              · refine lv_null hx hb dX5_look_86 ?_
                refine va_astqN hx hb hK hP hD hS 4 3 rfl rfl (zf_in (by omega) (by omega)) dX5_look_87 (fun H locs hP hD hS => ?_)
                have hwg_34 : zWP po (va_up g_1 i_21.toNatClampNeg none) := zWP_upd hwg_1 (Or.inl rfl)
                obtain ⟨g_34, hg_34⟩ : ∃ g : Nat → Option Nat, g = va_up g_1 i_21.toNatClampNeg none := ⟨_, rfl⟩
                rw [← hg_34] at hP hD hwg_34
                have h9R := zRe (ws' := [(w0, .inr (5, [.ref wk, .ref wl, .ref wc, .ref wp, .int cn, .int h, .int v_2])), (wk, .inl (cI, 125, .inl fk)), (wl, .inl (cI, 125, .inl fl)), (wc, .inl (cI, 3, .inl fc)), (wp, .inl (cP, 8, .inr (.inr (.inr (.inr g_34))))), (j0, .inr (0, [.ref z0, .ref jp, .ref jc, .int cn, .int de, .int tr, .int se, .int hu, .int sd])), (jp, .inl (cP, 8, .inr (.inr (.inr (.inr fp))))), (jc, .inl (cI, 3, .inl fjc))]) hP hD rfl
                clear hP hD
                obtain ⟨hP, hD⟩ := h9R
                refine lv_aload_n hx hb dX5_look_88 rfl (lv_at hl 3 rfl) ?_
                refine lv_iload hx hb dX5_look_89 (lv_at hl 0 rfl) ?_
                refine lv_if_eq (tgt := 109) hx hb dX5_look_91 (by decide) (fun c_35 => ?_) (fun c_35 => ?_)
                · refine lv_aload_n hx hb dX5_look_109 rfl (lv_at hl 3 rfl) ?_
                  refine va_get (D := D) (ci := 5) (v := .int v_2) (C := RX5) (T := TX5) (N := 7) hx hb hts hi_X5_look_5 hown hK hP 0 rfl rfl 6 (by decide) (hts (.fieldLink RX5 34 "TheLiningsInIt$Ways" "longest" "I") (List.mem_of_getElem? (i := 4) rfl)) (fun _ h9 => h9) rfl dX5_look_110 ?_
                  refine va_put (D := D) (ci := 5) (v := .int v_2) (ty := .int) (C := RX5) (T := TX5) (N := 7) hx hb hts hi_X5_look_5 tyX5 tyX5_ok nmX5 hown hK hP hD hS 0 rfl rfl 6 (by decide) (hts (.fieldLink RX5 34 "TheLiningsInIt$Ways" "longest" "I") (List.mem_of_getElem? (i := 4) rfl)) (fun _ h9 => h9) rfl (tyX5_ok 6 (Nat.le_of_ble_eq_true rfl)) rfl rfl (Nat.le_of_ble_eq_true rfl) dX5_look_113 (fun H locs hP hD hS => ?_)
                  have h9R := zRe (ws' := [(w0, .inr (5, [.ref wk, .ref wl, .ref wc, .ref wp, .int cn, .int h, .int v_2])), (wk, .inl (cI, 125, .inl fk)), (wl, .inl (cI, 125, .inl fl)), (wc, .inl (cI, 3, .inl fc)), (wp, .inl (cP, 8, .inr (.inr (.inr (.inr g_34))))), (j0, .inr (0, [.ref z0, .ref jp, .ref jc, .int cn, .int de, .int tr, .int se, .int hu, .int sd])), (jp, .inl (cP, 8, .inr (.inr (.inr (.inr fp))))), (jc, .inl (cI, 3, .inl fjc))]) hP hD rfl
                  clear hP hD
                  obtain ⟨hP, hD⟩ := h9R
                  obtain ⟨x_36, ex_36⟩ : ∃ y : Int32, y = i_21 + 1 := ⟨_, rfl⟩
                  have qx_36 : x_36.toInt = i_21.toInt + 1 := dw_incK ex_36 fc_19 (by decide)
                  refine lv_iinc (v := x_36) (lv' := [(4, .int x_36), (6, .int 0), (5, .ref u_25), (0, .ref w0), (1, .ref j0), (2, .int h), (3, .int te)]) hx hb dX5_look_116 hl (k := 2) rfl ex_36.symm (by decide) rfl (fun ls hl => ?_)
                  refine lv_goto (tgt := 21) hx hb dX5_look_119 (by decide) ?_
                  exact ih x_36 (v_2) (g_34) _ _ _ (hP.sub [0, 1, 2, 3, 4, 5, 6, 7] rfl) (hD.sub [0, 1, 2, 3, 4, 5, 6, 7] (by decide) rfl) hS (lv_sub hl [0, 3, 4, 5, 6] rfl) hwg_34 hbv_2 (show zJW po g_34 x_36 kf af tf te from by (obtain ⟨⟨y1, y2, y3⟩, y4, y5⟩ := hkku_25; rw [hg_34]; refine zJW_S hvi_21_0 (by omega) (by omega) (Or.inl ⟨rfl, ?_⟩); rw [← y1]; omega)) (show (∀ p : Nat, (p : Int) < x_36.toInt → (te.toInt ≠ 0 ∨ (kf p).toInt ≠ 5) → (tf p).toInt ≤ (v_2 : Int32).toInt) from by (obtain ⟨⟨y1, y2, y3⟩, y4, y5⟩ := hkku_25; have y7 : i_21.toNatClampNeg = i_21.toInt.toNat := rfl; rw [y7] at y1 y3; intro p hp hl; rcases (show (p : Int) < i_21.toInt ∨ p = i_21.toInt.toNat by omega) with h9 | h9; (have z := hvi_21_1 p h9 hl; omega); (rw [h9, ← y1] at hl; omega))) (show x_36.toInt ≤ cn.toInt from by omega) (dw_lo hloi_21 qx_36) (dw_hn hni_21 qx_36)
                · exact absurd c_35 (by decide)
              · exact absurd c_33 (by decide)
            · have fc_32 : kiu_25.toInt ≠ 5 := zf_ne c_32 rfl (by decide)
              refine lv_iconst (v := 1) hx hb dX5_look_63 (by decide) ?_
              refine lv_goto (tgt := 68) hx hb dX5_look_64 (by decide) ?_
              refine lv_istore (lv' := [(6, .int 1), (5, .ref u_25), (4, .int i_21), (0, .ref w0), (1, .ref j0), (2, .int h), (3, .int te)]) hx hb dX5_look_68 hl (by decide) rfl (fun ls hl => ?_)
              refine lv_aload_n hx hb dX5_look_70 rfl (lv_at hl 3 rfl) ?_
              refine va_get (D := D) (ci := 5) (v := .ref wp) (C := RX5) (T := TX5) (N := 7) hx hb hts hi_X5_look_5 hown hK hP 0 rfl rfl 3 (by decide) (hts (.fieldLink RX5 23 "TheLiningsInIt$Ways" "pulls" "[LTheLiningsInIt$Pull;") (List.mem_of_getElem? (i := 6) rfl)) (fun _ h9 => h9) rfl dX5_look_71 ?_
              refine lv_iload hx hb dX5_look_74 (lv_at hl 2 rfl) ?_
              refine lv_iload hx hb dX5_look_76 (lv_at hl 0 rfl) ?_
              refine lv_if_eq (tgt := 86) hx hb dX5_look_78 (by decide) (fun c_37 => ?_) (fun c_37 => ?_)
              · exact absurd c_37 (by decide)
              · refine lv_aload hx hb dX5_look_81 (lv_at hl 1 rfl) ?_
                refine lv_goto (tgt := 87) hx hb dX5_look_83 (by decide) ?_
                refine va_astqM hx hb hK hP hD hS 4 3 rfl rfl (zp_any hK (zPu_P (hZ.kept hS) huu_25)) (zf_in (by omega) (by omega)) dX5_look_87 (fun H locs hP hD hS => ?_)
                have hwg_38 : zWP po (va_up g_1 i_21.toNatClampNeg (some u_25)) := zWP_upd hwg_1 (Or.inr ⟨_, _, _, _, rfl, huu_25⟩)
                obtain ⟨g_38, hg_38⟩ : ∃ g : Nat → Option Nat, g = va_up g_1 i_21.toNatClampNeg (some u_25) := ⟨_, rfl⟩
                rw [← hg_38] at hP hD hwg_38
                have h9R := zRe (ws' := [(w0, .inr (5, [.ref wk, .ref wl, .ref wc, .ref wp, .int cn, .int h, .int v_2])), (wk, .inl (cI, 125, .inl fk)), (wl, .inl (cI, 125, .inl fl)), (wc, .inl (cI, 3, .inl fc)), (wp, .inl (cP, 8, .inr (.inr (.inr (.inr g_38))))), (j0, .inr (0, [.ref z0, .ref jp, .ref jc, .int cn, .int de, .int tr, .int se, .int hu, .int sd])), (jp, .inl (cP, 8, .inr (.inr (.inr (.inr fp))))), (jc, .inl (cI, 3, .inl fjc))]) hP hD rfl
                clear hP hD
                obtain ⟨hP, hD⟩ := h9R
                refine lv_aload_n hx hb dX5_look_88 rfl (lv_at hl 3 rfl) ?_
                refine lv_iload hx hb dX5_look_89 (lv_at hl 0 rfl) ?_
                refine lv_if_eq (tgt := 109) hx hb dX5_look_91 (by decide) (fun c_39 => ?_) (fun c_39 => ?_)
                · exact absurd c_39 (by decide)
                · refine lv_aload_n hx hb dX5_look_94 rfl (lv_at hl 3 rfl) ?_
                  refine va_get (D := D) (ci := 5) (v := .int v_2) (C := RX5) (T := TX5) (N := 7) hx hb hts hi_X5_look_5 hown hK hP 0 rfl rfl 6 (by decide) (hts (.fieldLink RX5 34 "TheLiningsInIt$Ways" "longest" "I") (List.mem_of_getElem? (i := 4) rfl)) (fun _ h9 => h9) rfl dX5_look_95 ?_
                  refine lv_aload hx hb dX5_look_98 (lv_at hl 1 rfl) ?_
                  refine va_get (D := D) (ci := 2) (v := .int tu_25) (C := RX2) (T := TX2) (N := 3) hx hb hts hi_X5_look_2 hown hK (zPu_P (hZ.kept hS) huu_25) 0 rfl rfl 2 (by decide) (hts (.fieldLink RX5 49 "TheLiningsInIt$Pull" "takes" "I") (List.mem_of_getElem? (i := 7) rfl)) (fun _ h9 => h9) rfl dX5_look_100 ?_
                  refine va_mmax hx hb (hml.trans hl.1.symm) hown (hts (.methodLink RX5 52 Lib.Math.max.name) (List.mem_of_getElem? (i := 8) rfl)) (hts _ (List.mem_of_getElem? (i := 9) rfl)) (hts _ (List.mem_of_getElem? (i := 10) rfl)) (hts _ (List.mem_of_getElem? (i := 11) rfl)) (Nat.le_of_ble_eq_true rfl) (Nat.le_of_ble_eq_true rfl) (Nat.le_of_ble_eq_true rfl) (Nat.le_of_ble_eq_true rfl) dX5_look_103 ?_
                  refine lv_topi (fun x_40 ex_40 => ?_)
                  have qx_40 := zf_max ex_40 (x1 := v_2.toInt) (y1 := tu_25.toInt) rfl rfl
                  refine lv_goto (tgt := 113) hx hb dX5_look_106 (by decide) ?_
                  refine va_put (D := D) (ci := 5) (v := .int x_40) (ty := .int) (C := RX5) (T := TX5) (N := 7) hx hb hts hi_X5_look_5 tyX5 tyX5_ok nmX5 hown hK hP hD hS 0 rfl rfl 6 (by decide) (hts (.fieldLink RX5 34 "TheLiningsInIt$Ways" "longest" "I") (List.mem_of_getElem? (i := 4) rfl)) (fun _ h9 => h9) rfl (tyX5_ok 6 (Nat.le_of_ble_eq_true rfl)) rfl rfl (Nat.le_of_ble_eq_true rfl) dX5_look_113 (fun H locs hP hD hS => ?_)
                  have h9R := zRe (ws' := [(w0, .inr (5, [.ref wk, .ref wl, .ref wc, .ref wp, .int cn, .int h, .int x_40])), (wk, .inl (cI, 125, .inl fk)), (wl, .inl (cI, 125, .inl fl)), (wc, .inl (cI, 3, .inl fc)), (wp, .inl (cP, 8, .inr (.inr (.inr (.inr g_38))))), (j0, .inr (0, [.ref z0, .ref jp, .ref jc, .int cn, .int de, .int tr, .int se, .int hu, .int sd])), (jp, .inl (cP, 8, .inr (.inr (.inr (.inr fp))))), (jc, .inl (cI, 3, .inl fjc))]) hP hD rfl
                  clear hP hD
                  obtain ⟨hP, hD⟩ := h9R
                  obtain ⟨x_41, ex_41⟩ : ∃ y : Int32, y = i_21 + 1 := ⟨_, rfl⟩
                  have qx_41 : x_41.toInt = i_21.toInt + 1 := dw_incK ex_41 fc_19 (by decide)
                  refine lv_iinc (v := x_41) (lv' := [(4, .int x_41), (6, .int 1), (5, .ref u_25), (0, .ref w0), (1, .ref j0), (2, .int h), (3, .int te)]) hx hb dX5_look_116 hl (k := 2) rfl ex_41.symm (by decide) rfl (fun ls hl => ?_)
                  refine lv_goto (tgt := 21) hx hb dX5_look_119 (by decide) ?_
                  exact ih x_41 (x_40) (g_38) _ _ _ (hP.sub [0, 1, 2, 3, 4, 5, 6, 7] rfl) (hD.sub [0, 1, 2, 3, 4, 5, 6, 7] (by decide) rfl) hS (lv_sub hl [0, 3, 4, 5, 6] rfl) hwg_38 ⟨by omega, by omega⟩ (show zJW po g_38 x_41 kf af tf te from by (obtain ⟨⟨y1, y2, y3⟩, y4, y5⟩ := hkku_25; rw [hg_38]; refine zJW_S hvi_21_0 (by omega) (by omega) (Or.inr ⟨u_25, rfl, ?_, ?_⟩); (rw [← y1, ← y2, ← y3]; exact huu_25); (rw [← y1]; omega))) (show (∀ p : Nat, (p : Int) < x_41.toInt → (te.toInt ≠ 0 ∨ (kf p).toInt ≠ 5) → (tf p).toInt ≤ (x_40 : Int32).toInt) from by (obtain ⟨⟨y1, y2, y3⟩, y4, y5⟩ := hkku_25; have y7 : i_21.toNatClampNeg = i_21.toInt.toNat := rfl; rw [y7] at y1 y3; intro p hp hl; rcases (show (p : Int) < i_21.toInt ∨ p = i_21.toInt.toNat by omega) with h9 | h9; (have z := hvi_21_1 p h9 hl; omega); (rw [h9, ← y3]; omega))) (show x_41.toInt ≤ cn.toInt from by omega) (dw_lo hloi_21 qx_41) (dw_hn hni_21 qx_41)
end
