set_option maxHeartbeats 4000000 in
set_option maxRecDepth 100000 in
theorem c_F_W_headIsCheapest (l : Launch) (D : va_G) (cI cJ cZ cP cS : ClassId) (po : zPool) (w0 wk wl wc wp : Nat) (wn wh wg : Int32) (fc : Nat → Int32) (sec : Int32) (hy0 : 0 ≤ wn.toInt) (hy1 : wn.toInt ≤ 8) (hy2 : 0 ≤ wh.toInt) (hy3 : wh.toInt ≤ 9) (hy4 : 0 ≤ wg.toInt) (hy5 : wg.toInt ≤ 60) (hy6 : 0 ≤ sec.toInt) (hy7 : sec.toInt ≤ 300) (hp_fc : zRg fc (0) 99) : Met l yX5_headIsCheapest wsX5_headIsCheapest ({ frames := 0, cells := 0, slots := 0, locals := 0 }) (va_Pc [.ref w0, .int sec] (zR D (zKT cI cJ cZ cP cS) po [(w0, .inr (5, [.ref wk, .ref wl, .ref wc, .ref wp, .int wn, .int wh, .int wg])), (wc, .inl (cI, 3, .inl fc))])) (vp_Si (fun r => 0 ≤ r.toInt ∧ r.toInt ≤ 1 ∧ ((r.toInt = 1 → (30 ≤ sec.toInt ∧ (fc 1).toInt ≤ (fc 2).toInt)) ∧ (r.toInt = 0 → ¬ (30 ≤ sec.toInt ∧ (fc 1).toInt ≤ (fc 2).toInt))))) 0 0 (fun _ => False) := by
  refine Met.ofW (cc := cX5_headIsCheapest) (maxL := 2) (ret := (some .boolean)) (by decide) rfl ?_
  intro p e s m args below meth c s₁ B hml hv
  obtain ⟨rfl, hP, hK, hN, hZ⟩ := hv
  have hx := B.exec
  have hb := B.bytes
  have hr := B.returns
  have hts := atoms_spec (ws := wsX5_headIsCheapest) B.pre
  have hown : s.vm.findClass RX5 = some m.cls := findClass_of_methodNamed B.named
  have hlocks := B.notSynchronized
  have hl := lv_entry ([.ref w0, .int sec]) (n := 2) (Nat.le_of_ble_eq_true rfl)
  rw [lg_entry_eq]
  generalize (lg_sl ([.ref w0, .int sec]) ++ List.replicate (2 - (lg_sl ([.ref w0, .int sec])).length) Slot.unset).toArray = ls at hl ⊢
  replace hl : lv_has ls 2 [(0, .ref w0), (1, .int sec)] := hl
  refine lv_iload_n hx hb dX5_headIsCheapest_0 rfl (lv_at hl 1 rfl) ?_
  refine lv_bipush (v := 30) hx hb dX5_headIsCheapest_1 (by decide) ?_
  refine lv_icmp_lt (tgt := 25) hx hb dX5_headIsCheapest_3 (by decide) (fun c_1 => ?_) (fun c_1 => ?_)
  · have fc_1 : sec.toInt < 30 := zf_lt c_1 rfl (by decide)
    refine lv_iconst (v := 0) hx hb dX5_headIsCheapest_25 (by decide) ?_
    exact W.zret (v := 0) hx hb hr (by decide) (fun t ht hW => ⟨0, rfl, ⟨by decide, by decide, (show ((0 : Int32).toInt = 1 → (30 ≤ sec.toInt ∧ (fc 1).toInt ≤ (fc 2).toInt)) ∧ ((0 : Int32).toInt = 0 → ¬ (30 ≤ sec.toInt ∧ (fc 1).toInt ≤ (fc 2).toInt)) from by (exact ⟨fun h => absurd h (by decide), fun _ => fun z => by (have z1 := z.1; have z2 := z.2; omega)⟩))⟩, ht⟩) (fun q hq => by cases hq) dX5_headIsCheapest_26
  · have fc_1 : 30 ≤ sec.toInt := zf_nlt c_1 rfl (by decide)
    refine lv_aload_n hx hb dX5_headIsCheapest_6 rfl (lv_at hl 0 rfl) ?_
    refine va_get (D := D) (ci := 5) (v := .ref wc) (C := RX5) (T := TX5) (N := 7) hx hb hts hi_X5_headIsCheapest_5 hown hK hP 0 rfl rfl 2 (by decide) (hts (.fieldLink RX5 18 "TheLiningsInIt$Ways" "costs" "[I") (List.mem_of_getElem? (i := 1) rfl)) (fun _ h9 => h9) rfl dX5_headIsCheapest_7 ?_
    refine lv_iconst (v := 1) hx hb dX5_headIsCheapest_10 (by decide) ?_
    refine va_iald hx hb hK hP 1 0 rfl rfl (zf_in (by decide) (by decide)) dX5_headIsCheapest_11 ?_
    refine lv_topi (fun x_2 ex_2 => ?_)
    have bx_2 : 0 ≤ x_2.toInt ∧ x_2.toInt ≤ 99 := by rw [ex_2]; exact hp_fc _
    refine lv_aload_n hx hb dX5_headIsCheapest_12 rfl (lv_at hl 0 rfl) ?_
    refine va_get (D := D) (ci := 5) (v := .ref wc) (C := RX5) (T := TX5) (N := 7) hx hb hts hi_X5_headIsCheapest_5 hown hK hP 0 rfl rfl 2 (by decide) (hts (.fieldLink RX5 18 "TheLiningsInIt$Ways" "costs" "[I") (List.mem_of_getElem? (i := 1) rfl)) (fun _ h9 => h9) rfl dX5_headIsCheapest_13 ?_
    refine lv_iconst (v := 2) hx hb dX5_headIsCheapest_16 (by decide) ?_
    refine va_iald hx hb hK hP 1 0 rfl rfl (zf_in (by decide) (by decide)) dX5_headIsCheapest_17 ?_
    refine lv_topi (fun x_3 ex_3 => ?_)
    have bx_3 : 0 ≤ x_3.toInt ∧ x_3.toInt ≤ 99 := by rw [ex_3]; exact hp_fc _
    refine lv_icmp_gt (tgt := 25) hx hb dX5_headIsCheapest_18 (by decide) (fun c_4 => ?_) (fun c_4 => ?_)
    · have fc_4 : x_3.toInt < x_2.toInt := zf_lt c_4 rfl rfl
      refine lv_iconst (v := 0) hx hb dX5_headIsCheapest_25 (by decide) ?_
      exact W.zret (v := 0) hx hb hr (by decide) (fun t ht hW => ⟨0, rfl, ⟨by decide, by decide, (show ((0 : Int32).toInt = 1 → (30 ≤ sec.toInt ∧ (fc 1).toInt ≤ (fc 2).toInt)) ∧ ((0 : Int32).toInt = 0 → ¬ (30 ≤ sec.toInt ∧ (fc 1).toInt ≤ (fc 2).toInt)) from by (have nx_2 : (fc 1).toInt = x_2.toInt := (by rw [ex_2, show (1 : Int32).toNatClampNeg = 1 from by decide]); have nx_3 : (fc 2).toInt = x_3.toInt := (by rw [ex_3, show (2 : Int32).toNatClampNeg = 2 from by decide]); exact ⟨fun h => absurd h (by decide), fun _ => fun z => by (have z1 := z.1; have z2 := z.2; omega)⟩))⟩, ht⟩) (fun q hq => by cases hq) dX5_headIsCheapest_26
    · have fc_4 : x_2.toInt ≤ x_3.toInt := zf_nlt c_4 rfl rfl
      refine lv_iconst (v := 1) hx hb dX5_headIsCheapest_21 (by decide) ?_
      refine lv_goto (tgt := 26) hx hb dX5_headIsCheapest_22 (by decide) ?_
      exact W.zret (v := 1) hx hb hr (by decide) (fun t ht hW => ⟨1, rfl, ⟨by decide, by decide, (show ((1 : Int32).toInt = 1 → (30 ≤ sec.toInt ∧ (fc 1).toInt ≤ (fc 2).toInt)) ∧ ((1 : Int32).toInt = 0 → ¬ (30 ≤ sec.toInt ∧ (fc 1).toInt ≤ (fc 2).toInt)) from by (have nx_2 : (fc 1).toInt = x_2.toInt := (by rw [ex_2, show (1 : Int32).toNatClampNeg = 1 from by decide]); have nx_3 : (fc 2).toInt = x_3.toInt := (by rw [ex_3, show (2 : Int32).toNatClampNeg = 2 from by decide]); exact ⟨fun _ => ⟨by omega, by omega⟩, fun h => absurd h (by decide)⟩))⟩, ht⟩) (fun q hq => by cases hq) dX5_headIsCheapest_26
set_option maxHeartbeats 4000000 in
set_option maxRecDepth 100000 in
theorem c_F_W_leastAtOnce_0 (l : Launch) (D : va_G) (cI cJ cZ cP cS : ClassId) (po : zPool) (w0 wk wl wc wp : Nat) (wn wh wg : Int32) (fc : Nat → Int32) (sec : Int32) (hy0 : 0 ≤ wn.toInt) (hy1 : wn.toInt ≤ 8) (hy2 : 0 ≤ wh.toInt) (hy3 : wh.toInt ≤ 9) (hy4 : 0 ≤ wg.toInt) (hy5 : wg.toInt ≤ 60) (hy6 : 0 ≤ sec.toInt) (hy7 : sec.toInt ≤ 300) (hp_fc : zRg fc (0) 99) : Met l yX5_leastAtOnce wsX5_leastAtOnce ({ frames := 1, cells := 0, slots := 0, locals := 21 }) (va_Pc [.ref w0, .int 0, .int sec] (zR D (zKT cI cJ cZ cP cS) po [(w0, .inr (5, [.ref wk, .ref wl, .ref wc, .ref wp, .int wn, .int wh, .int wg])), (wc, .inl (cI, 3, .inl fc))])) (vp_Si (fun r => 0 ≤ r.toInt ∧ r.toInt ≤ 99 ∧ (r.toInt = zPw 0 * zAt (fc 1).toInt (fc 2).toInt sec.toInt))) 0 0 (fun _ => False) := by
  refine Met.ofW (cc := cX5_leastAtOnce) (maxL := 3) (ret := (some .int)) (by decide) rfl ?_
  intro p e s m args below meth c s₁ B hml hv
  obtain ⟨rfl, hP, hK, hN, hZ⟩ := hv
  have hx := B.exec
  have hb := B.bytes
  have hr := B.returns
  have hts := atoms_spec (ws := wsX5_leastAtOnce) B.pre
  have hown : s.vm.findClass RX5 = some m.cls := findClass_of_methodNamed B.named
  have hlocks := B.notSynchronized
  have hl := lv_entry ([.ref w0, .int 0, .int sec]) (n := 3) (Nat.le_of_ble_eq_true rfl)
  rw [lg_entry_eq]
  generalize (lg_sl ([.ref w0, .int 0, .int sec]) ++ List.replicate (3 - (lg_sl ([.ref w0, .int 0, .int sec])).length) Slot.unset).toArray = ls at hl ⊢
  replace hl : lv_has ls 3 [(0, .ref w0), (1, .int 0), (2, .int sec)] := hl
  obtain ⟨t_1, zt_1, yt_1⟩ := hZ.1.1
  refine va_gets hx hb zt_1 va_S.rf hown (hts (.fieldLink RX5 79 "TheLiningsInIt$Ways" "POWERS" "[I") (List.mem_of_getElem? (i := 1) rfl)) (fun _ h9 => h9) dX5_leastAtOnce_0 ?_
  refine lv_iload_n hx hb dX5_leastAtOnce_3 rfl (lv_at hl 1 rfl) ?_
  refine va_ti hx hb yt_1 va_S.rf (zf_in (by decide) (by decide)) (v := .int 1) (by decide) dX5_leastAtOnce_4 ?_
  refine lv_aload_n hx hb dX5_leastAtOnce_5 rfl (lv_at hl 0 rfl) ?_
  refine va_get (D := D) (ci := 5) (v := .ref wc) (C := RX5) (T := TX5) (N := 7) hx hb hts hi_X5_leastAtOnce_5 hown hK hP 0 rfl rfl 2 (by decide) (hts (.fieldLink RX5 18 "TheLiningsInIt$Ways" "costs" "[I") (List.mem_of_getElem? (i := 2) rfl)) (fun _ h9 => h9) rfl dX5_leastAtOnce_6 ?_
  refine lv_aload_n hx hb dX5_leastAtOnce_9 rfl (lv_at hl 0 rfl) ?_
  refine lv_iload_n hx hb dX5_leastAtOnce_10 rfl (lv_at hl 2 rfl) ?_
  refine zc_V (As := [.int sec]) (rest := [.ref wc, .int 1]) ⟨hx, hb, hml, hown, hts⟩ (c_F_W_headIsCheapest l D cI cJ cZ cP cS po w0 wk wl wc wp (wn) (wh) (wg) fc (sec) hy0 hy1 hy2 hy3 hy4 hy5 hy6 hy7 hp_fc) (cwV 1 hts gX5_leastAtOnce_X5_headIsCheapest rfl rfl rfl ⟨rfl, dh_X5_headIsCheapest⟩ ⟨Nat.le_of_ble_eq_true rfl, Nat.le_of_ble_eq_true rfl⟩) hK hN hZ hP (hP.sub [0, 1] rfl) (va_recv (q := (RX5, TX5, 7)) hK hP (ci := 5) (q0 := 0) rfl rfl) rfl hl.1 rfl (Nat.le_of_ble_eq_true rfl) dX5_leastAtOnce_11 ⟨Nat.le_of_ble_eq_true rfl, Nat.le_of_ble_eq_true rfl⟩ (fun r_2 hr_2 => ?_)
  obtain ⟨g_3, g_4, hsr_2_0⟩ := hr_2
  refine lv_if_eq (tgt := 21) hx hb dX5_leastAtOnce_14 (by decide) (fun c_5 => ?_) (fun c_5 => ?_)
  · have fc_5 : r_2.toInt = 0 := zf_eq c_5 rfl (by decide)
    refine lv_iconst (v := 2) hx hb dX5_leastAtOnce_21 (by decide) ?_
    refine va_iald hx hb hK hP 1 0 rfl rfl (zf_in (by decide) (by decide)) dX5_leastAtOnce_22 ?_
    refine lv_topi (fun x_6 ex_6 => ?_)
    have bx_6 : 0 ≤ x_6.toInt ∧ x_6.toInt ≤ 99 := by rw [ex_6]; exact hp_fc _
    refine lv_imul hx hb dX5_leastAtOnce_23 ?_
    refine lv_topi (fun x_7 ex_7 => ?_)
    have qx_7 : x_7.toInt = 1 * x_6.toInt := by rw [ex_7]; exact zf_mul (by decide) rfl (by omega) (by omega)
    exact W.iret (v := x_7) hx hb hr (fun t ht hW => ⟨x_7, rfl, ⟨by omega, by omega, (show (x_7 : Int32).toInt = zPw 0 * zAt (fc 1).toInt (fc 2).toInt sec.toInt from by (have nx_6 : (fc 2).toInt = x_6.toInt := (by rw [ex_6, show (2 : Int32).toNatClampNeg = 2 from by decide]); have zh := hsr_2_0; have ht : zAt (fc 1).toInt (fc 2).toInt sec.toInt = x_6.toInt := (by unfold zAt; first | (have z1 := zh.2 (by omega); by_cases c : 30 ≤ sec.toInt; (rw [if_pos c]; omega); (rw [if_neg c]; omega)) | (have z1 := zh.1 (by omega); rw [if_pos z1.1]; omega)); rw [ht, show zPw 0 = 1 from by decide]; omega))⟩, ht⟩) (fun q hq => by cases hq) dX5_leastAtOnce_24
  · have fc_5 : r_2.toInt ≠ 0 := zf_ne c_5 rfl (by decide)
    refine lv_iconst (v := 1) hx hb dX5_leastAtOnce_17 (by decide) ?_
    refine lv_goto (tgt := 22) hx hb dX5_leastAtOnce_18 (by decide) ?_
    refine va_iald hx hb hK hP 1 0 rfl rfl (zf_in (by decide) (by decide)) dX5_leastAtOnce_22 ?_
    refine lv_topi (fun x_8 ex_8 => ?_)
    have bx_8 : 0 ≤ x_8.toInt ∧ x_8.toInt ≤ 99 := by rw [ex_8]; exact hp_fc _
    refine lv_imul hx hb dX5_leastAtOnce_23 ?_
    refine lv_topi (fun x_9 ex_9 => ?_)
    have qx_9 : x_9.toInt = 1 * x_8.toInt := by rw [ex_9]; exact zf_mul (by decide) rfl (by omega) (by omega)
    exact W.iret (v := x_9) hx hb hr (fun t ht hW => ⟨x_9, rfl, ⟨by omega, by omega, (show (x_9 : Int32).toInt = zPw 0 * zAt (fc 1).toInt (fc 2).toInt sec.toInt from by (have nx_8 : (fc 1).toInt = x_8.toInt := (by rw [ex_8, show (1 : Int32).toNatClampNeg = 1 from by decide]); have zh := hsr_2_0; have ht : zAt (fc 1).toInt (fc 2).toInt sec.toInt = x_8.toInt := (by unfold zAt; first | (have z1 := zh.1 (by omega); rw [if_pos z1.1]; omega) | (have z1 := zh.2 (by omega); by_cases c : 30 ≤ sec.toInt; (rw [if_pos c]; omega); (rw [if_neg c]; omega))); rw [ht, show zPw 0 = 1 from by decide]; omega))⟩, ht⟩) (fun q hq => by cases hq) dX5_leastAtOnce_24
set_option maxHeartbeats 4000000 in
set_option maxRecDepth 100000 in
theorem c_F_W_leastAtOnce_1 (l : Launch) (D : va_G) (cI cJ cZ cP cS : ClassId) (po : zPool) (w0 wk wl wc wp : Nat) (wn wh wg : Int32) (fc : Nat → Int32) (sec : Int32) (hy0 : 0 ≤ wn.toInt) (hy1 : wn.toInt ≤ 8) (hy2 : 0 ≤ wh.toInt) (hy3 : wh.toInt ≤ 9) (hy4 : 0 ≤ wg.toInt) (hy5 : wg.toInt ≤ 60) (hy6 : 0 ≤ sec.toInt) (hy7 : sec.toInt ≤ 300) (hp_fc : zRg fc (0) 99) : Met l yX5_leastAtOnce wsX5_leastAtOnce ({ frames := 1, cells := 0, slots := 0, locals := 21 }) (va_Pc [.ref w0, .int 1, .int sec] (zR D (zKT cI cJ cZ cP cS) po [(w0, .inr (5, [.ref wk, .ref wl, .ref wc, .ref wp, .int wn, .int wh, .int wg])), (wc, .inl (cI, 3, .inl fc))])) (vp_Si (fun r => 0 ≤ r.toInt ∧ r.toInt ≤ 1188 ∧ (r.toInt = zPw 1 * zAt (fc 1).toInt (fc 2).toInt sec.toInt))) 0 0 (fun _ => False) := by
  refine Met.ofW (cc := cX5_leastAtOnce) (maxL := 3) (ret := (some .int)) (by decide) rfl ?_
  intro p e s m args below meth c s₁ B hml hv
  obtain ⟨rfl, hP, hK, hN, hZ⟩ := hv
  have hx := B.exec
  have hb := B.bytes
  have hr := B.returns
  have hts := atoms_spec (ws := wsX5_leastAtOnce) B.pre
  have hown : s.vm.findClass RX5 = some m.cls := findClass_of_methodNamed B.named
  have hlocks := B.notSynchronized
  have hl := lv_entry ([.ref w0, .int 1, .int sec]) (n := 3) (Nat.le_of_ble_eq_true rfl)
  rw [lg_entry_eq]
  generalize (lg_sl ([.ref w0, .int 1, .int sec]) ++ List.replicate (3 - (lg_sl ([.ref w0, .int 1, .int sec])).length) Slot.unset).toArray = ls at hl ⊢
  replace hl : lv_has ls 3 [(0, .ref w0), (1, .int 1), (2, .int sec)] := hl
  obtain ⟨t_1, zt_1, yt_1⟩ := hZ.1.1
  refine va_gets hx hb zt_1 va_S.rf hown (hts (.fieldLink RX5 79 "TheLiningsInIt$Ways" "POWERS" "[I") (List.mem_of_getElem? (i := 1) rfl)) (fun _ h9 => h9) dX5_leastAtOnce_0 ?_
  refine lv_iload_n hx hb dX5_leastAtOnce_3 rfl (lv_at hl 1 rfl) ?_
  refine va_ti hx hb yt_1 va_S.rf (zf_in (by decide) (by decide)) (v := .int 12) (by decide) dX5_leastAtOnce_4 ?_
  refine lv_aload_n hx hb dX5_leastAtOnce_5 rfl (lv_at hl 0 rfl) ?_
  refine va_get (D := D) (ci := 5) (v := .ref wc) (C := RX5) (T := TX5) (N := 7) hx hb hts hi_X5_leastAtOnce_5 hown hK hP 0 rfl rfl 2 (by decide) (hts (.fieldLink RX5 18 "TheLiningsInIt$Ways" "costs" "[I") (List.mem_of_getElem? (i := 2) rfl)) (fun _ h9 => h9) rfl dX5_leastAtOnce_6 ?_
  refine lv_aload_n hx hb dX5_leastAtOnce_9 rfl (lv_at hl 0 rfl) ?_
  refine lv_iload_n hx hb dX5_leastAtOnce_10 rfl (lv_at hl 2 rfl) ?_
  refine zc_V (As := [.int sec]) (rest := [.ref wc, .int 12]) ⟨hx, hb, hml, hown, hts⟩ (c_F_W_headIsCheapest l D cI cJ cZ cP cS po w0 wk wl wc wp (wn) (wh) (wg) fc (sec) hy0 hy1 hy2 hy3 hy4 hy5 hy6 hy7 hp_fc) (cwV 1 hts gX5_leastAtOnce_X5_headIsCheapest rfl rfl rfl ⟨rfl, dh_X5_headIsCheapest⟩ ⟨Nat.le_of_ble_eq_true rfl, Nat.le_of_ble_eq_true rfl⟩) hK hN hZ hP (hP.sub [0, 1] rfl) (va_recv (q := (RX5, TX5, 7)) hK hP (ci := 5) (q0 := 0) rfl rfl) rfl hl.1 rfl (Nat.le_of_ble_eq_true rfl) dX5_leastAtOnce_11 ⟨Nat.le_of_ble_eq_true rfl, Nat.le_of_ble_eq_true rfl⟩ (fun r_2 hr_2 => ?_)
  obtain ⟨g_3, g_4, hsr_2_0⟩ := hr_2
  refine lv_if_eq (tgt := 21) hx hb dX5_leastAtOnce_14 (by decide) (fun c_5 => ?_) (fun c_5 => ?_)
  · have fc_5 : r_2.toInt = 0 := zf_eq c_5 rfl (by decide)
    refine lv_iconst (v := 2) hx hb dX5_leastAtOnce_21 (by decide) ?_
    refine va_iald hx hb hK hP 1 0 rfl rfl (zf_in (by decide) (by decide)) dX5_leastAtOnce_22 ?_
    refine lv_topi (fun x_6 ex_6 => ?_)
    have bx_6 : 0 ≤ x_6.toInt ∧ x_6.toInt ≤ 99 := by rw [ex_6]; exact hp_fc _
    refine lv_imul hx hb dX5_leastAtOnce_23 ?_
    refine lv_topi (fun x_7 ex_7 => ?_)
    have qx_7 : x_7.toInt = 12 * x_6.toInt := by rw [ex_7]; exact zf_mul (by decide) rfl (by omega) (by omega)
    exact W.iret (v := x_7) hx hb hr (fun t ht hW => ⟨x_7, rfl, ⟨by omega, by omega, (show (x_7 : Int32).toInt = zPw 1 * zAt (fc 1).toInt (fc 2).toInt sec.toInt from by (have nx_6 : (fc 2).toInt = x_6.toInt := (by rw [ex_6, show (2 : Int32).toNatClampNeg = 2 from by decide]); have zh := hsr_2_0; have ht : zAt (fc 1).toInt (fc 2).toInt sec.toInt = x_6.toInt := (by unfold zAt; first | (have z1 := zh.2 (by omega); by_cases c : 30 ≤ sec.toInt; (rw [if_pos c]; omega); (rw [if_neg c]; omega)) | (have z1 := zh.1 (by omega); rw [if_pos z1.1]; omega)); rw [ht, show zPw 1 = 12 from by decide]; omega))⟩, ht⟩) (fun q hq => by cases hq) dX5_leastAtOnce_24
  · have fc_5 : r_2.toInt ≠ 0 := zf_ne c_5 rfl (by decide)
    refine lv_iconst (v := 1) hx hb dX5_leastAtOnce_17 (by decide) ?_
    refine lv_goto (tgt := 22) hx hb dX5_leastAtOnce_18 (by decide) ?_
    refine va_iald hx hb hK hP 1 0 rfl rfl (zf_in (by decide) (by decide)) dX5_leastAtOnce_22 ?_
    refine lv_topi (fun x_8 ex_8 => ?_)
    have bx_8 : 0 ≤ x_8.toInt ∧ x_8.toInt ≤ 99 := by rw [ex_8]; exact hp_fc _
    refine lv_imul hx hb dX5_leastAtOnce_23 ?_
    refine lv_topi (fun x_9 ex_9 => ?_)
    have qx_9 : x_9.toInt = 12 * x_8.toInt := by rw [ex_9]; exact zf_mul (by decide) rfl (by omega) (by omega)
    exact W.iret (v := x_9) hx hb hr (fun t ht hW => ⟨x_9, rfl, ⟨by omega, by omega, (show (x_9 : Int32).toInt = zPw 1 * zAt (fc 1).toInt (fc 2).toInt sec.toInt from by (have nx_8 : (fc 1).toInt = x_8.toInt := (by rw [ex_8, show (1 : Int32).toNatClampNeg = 1 from by decide]); have zh := hsr_2_0; have ht : zAt (fc 1).toInt (fc 2).toInt sec.toInt = x_8.toInt := (by unfold zAt; first | (have z1 := zh.1 (by omega); rw [if_pos z1.1]; omega) | (have z1 := zh.2 (by omega); by_cases c : 30 ≤ sec.toInt; (rw [if_pos c]; omega); (rw [if_neg c]; omega))); rw [ht, show zPw 1 = 12 from by decide]; omega))⟩, ht⟩) (fun q hq => by cases hq) dX5_leastAtOnce_24
set_option maxHeartbeats 4000000 in
set_option maxRecDepth 100000 in
theorem c_F_W_leastAtOnce_2 (l : Launch) (D : va_G) (cI cJ cZ cP cS : ClassId) (po : zPool) (w0 wk wl wc wp : Nat) (wn wh wg : Int32) (fc : Nat → Int32) (sec : Int32) (hy0 : 0 ≤ wn.toInt) (hy1 : wn.toInt ≤ 8) (hy2 : 0 ≤ wh.toInt) (hy3 : wh.toInt ≤ 9) (hy4 : 0 ≤ wg.toInt) (hy5 : wg.toInt ≤ 60) (hy6 : 0 ≤ sec.toInt) (hy7 : sec.toInt ≤ 300) (hp_fc : zRg fc (0) 99) : Met l yX5_leastAtOnce wsX5_leastAtOnce ({ frames := 1, cells := 0, slots := 0, locals := 21 }) (va_Pc [.ref w0, .int 2, .int sec] (zR D (zKT cI cJ cZ cP cS) po [(w0, .inr (5, [.ref wk, .ref wl, .ref wc, .ref wp, .int wn, .int wh, .int wg])), (wc, .inl (cI, 3, .inl fc))])) (vp_Si (fun r => 0 ≤ r.toInt ∧ r.toInt ≤ 14256 ∧ (r.toInt = zPw 2 * zAt (fc 1).toInt (fc 2).toInt sec.toInt))) 0 0 (fun _ => False) := by
  refine Met.ofW (cc := cX5_leastAtOnce) (maxL := 3) (ret := (some .int)) (by decide) rfl ?_
  intro p e s m args below meth c s₁ B hml hv
  obtain ⟨rfl, hP, hK, hN, hZ⟩ := hv
  have hx := B.exec
  have hb := B.bytes
  have hr := B.returns
  have hts := atoms_spec (ws := wsX5_leastAtOnce) B.pre
  have hown : s.vm.findClass RX5 = some m.cls := findClass_of_methodNamed B.named
  have hlocks := B.notSynchronized
  have hl := lv_entry ([.ref w0, .int 2, .int sec]) (n := 3) (Nat.le_of_ble_eq_true rfl)
  rw [lg_entry_eq]
  generalize (lg_sl ([.ref w0, .int 2, .int sec]) ++ List.replicate (3 - (lg_sl ([.ref w0, .int 2, .int sec])).length) Slot.unset).toArray = ls at hl ⊢
  replace hl : lv_has ls 3 [(0, .ref w0), (1, .int 2), (2, .int sec)] := hl
  obtain ⟨t_1, zt_1, yt_1⟩ := hZ.1.1
  refine va_gets hx hb zt_1 va_S.rf hown (hts (.fieldLink RX5 79 "TheLiningsInIt$Ways" "POWERS" "[I") (List.mem_of_getElem? (i := 1) rfl)) (fun _ h9 => h9) dX5_leastAtOnce_0 ?_
  refine lv_iload_n hx hb dX5_leastAtOnce_3 rfl (lv_at hl 1 rfl) ?_
  refine va_ti hx hb yt_1 va_S.rf (zf_in (by decide) (by decide)) (v := .int 144) (by decide) dX5_leastAtOnce_4 ?_
  refine lv_aload_n hx hb dX5_leastAtOnce_5 rfl (lv_at hl 0 rfl) ?_
  refine va_get (D := D) (ci := 5) (v := .ref wc) (C := RX5) (T := TX5) (N := 7) hx hb hts hi_X5_leastAtOnce_5 hown hK hP 0 rfl rfl 2 (by decide) (hts (.fieldLink RX5 18 "TheLiningsInIt$Ways" "costs" "[I") (List.mem_of_getElem? (i := 2) rfl)) (fun _ h9 => h9) rfl dX5_leastAtOnce_6 ?_
  refine lv_aload_n hx hb dX5_leastAtOnce_9 rfl (lv_at hl 0 rfl) ?_
  refine lv_iload_n hx hb dX5_leastAtOnce_10 rfl (lv_at hl 2 rfl) ?_
  refine zc_V (As := [.int sec]) (rest := [.ref wc, .int 144]) ⟨hx, hb, hml, hown, hts⟩ (c_F_W_headIsCheapest l D cI cJ cZ cP cS po w0 wk wl wc wp (wn) (wh) (wg) fc (sec) hy0 hy1 hy2 hy3 hy4 hy5 hy6 hy7 hp_fc) (cwV 1 hts gX5_leastAtOnce_X5_headIsCheapest rfl rfl rfl ⟨rfl, dh_X5_headIsCheapest⟩ ⟨Nat.le_of_ble_eq_true rfl, Nat.le_of_ble_eq_true rfl⟩) hK hN hZ hP (hP.sub [0, 1] rfl) (va_recv (q := (RX5, TX5, 7)) hK hP (ci := 5) (q0 := 0) rfl rfl) rfl hl.1 rfl (Nat.le_of_ble_eq_true rfl) dX5_leastAtOnce_11 ⟨Nat.le_of_ble_eq_true rfl, Nat.le_of_ble_eq_true rfl⟩ (fun r_2 hr_2 => ?_)
  obtain ⟨g_3, g_4, hsr_2_0⟩ := hr_2
  refine lv_if_eq (tgt := 21) hx hb dX5_leastAtOnce_14 (by decide) (fun c_5 => ?_) (fun c_5 => ?_)
  · have fc_5 : r_2.toInt = 0 := zf_eq c_5 rfl (by decide)
    refine lv_iconst (v := 2) hx hb dX5_leastAtOnce_21 (by decide) ?_
    refine va_iald hx hb hK hP 1 0 rfl rfl (zf_in (by decide) (by decide)) dX5_leastAtOnce_22 ?_
    refine lv_topi (fun x_6 ex_6 => ?_)
    have bx_6 : 0 ≤ x_6.toInt ∧ x_6.toInt ≤ 99 := by rw [ex_6]; exact hp_fc _
    refine lv_imul hx hb dX5_leastAtOnce_23 ?_
    refine lv_topi (fun x_7 ex_7 => ?_)
    have qx_7 : x_7.toInt = 144 * x_6.toInt := by rw [ex_7]; exact zf_mul (by decide) rfl (by omega) (by omega)
    exact W.iret (v := x_7) hx hb hr (fun t ht hW => ⟨x_7, rfl, ⟨by omega, by omega, (show (x_7 : Int32).toInt = zPw 2 * zAt (fc 1).toInt (fc 2).toInt sec.toInt from by (have nx_6 : (fc 2).toInt = x_6.toInt := (by rw [ex_6, show (2 : Int32).toNatClampNeg = 2 from by decide]); have zh := hsr_2_0; have ht : zAt (fc 1).toInt (fc 2).toInt sec.toInt = x_6.toInt := (by unfold zAt; first | (have z1 := zh.2 (by omega); by_cases c : 30 ≤ sec.toInt; (rw [if_pos c]; omega); (rw [if_neg c]; omega)) | (have z1 := zh.1 (by omega); rw [if_pos z1.1]; omega)); rw [ht, show zPw 2 = 144 from by decide]; omega))⟩, ht⟩) (fun q hq => by cases hq) dX5_leastAtOnce_24
  · have fc_5 : r_2.toInt ≠ 0 := zf_ne c_5 rfl (by decide)
    refine lv_iconst (v := 1) hx hb dX5_leastAtOnce_17 (by decide) ?_
    refine lv_goto (tgt := 22) hx hb dX5_leastAtOnce_18 (by decide) ?_
    refine va_iald hx hb hK hP 1 0 rfl rfl (zf_in (by decide) (by decide)) dX5_leastAtOnce_22 ?_
    refine lv_topi (fun x_8 ex_8 => ?_)
    have bx_8 : 0 ≤ x_8.toInt ∧ x_8.toInt ≤ 99 := by rw [ex_8]; exact hp_fc _
    refine lv_imul hx hb dX5_leastAtOnce_23 ?_
    refine lv_topi (fun x_9 ex_9 => ?_)
    have qx_9 : x_9.toInt = 144 * x_8.toInt := by rw [ex_9]; exact zf_mul (by decide) rfl (by omega) (by omega)
    exact W.iret (v := x_9) hx hb hr (fun t ht hW => ⟨x_9, rfl, ⟨by omega, by omega, (show (x_9 : Int32).toInt = zPw 2 * zAt (fc 1).toInt (fc 2).toInt sec.toInt from by (have nx_8 : (fc 1).toInt = x_8.toInt := (by rw [ex_8, show (1 : Int32).toNatClampNeg = 1 from by decide]); have zh := hsr_2_0; have ht : zAt (fc 1).toInt (fc 2).toInt sec.toInt = x_8.toInt := (by unfold zAt; first | (have z1 := zh.1 (by omega); rw [if_pos z1.1]; omega) | (have z1 := zh.2 (by omega); by_cases c : 30 ≤ sec.toInt; (rw [if_pos c]; omega); (rw [if_neg c]; omega))); rw [ht, show zPw 2 = 144 from by decide]; omega))⟩, ht⟩) (fun q hq => by cases hq) dX5_leastAtOnce_24
set_option maxHeartbeats 4000000 in
set_option maxRecDepth 100000 in
theorem c_F_W_leastAtOnce_3 (l : Launch) (D : va_G) (cI cJ cZ cP cS : ClassId) (po : zPool) (w0 wk wl wc wp : Nat) (wn wh wg : Int32) (fc : Nat → Int32) (sec : Int32) (hy0 : 0 ≤ wn.toInt) (hy1 : wn.toInt ≤ 8) (hy2 : 0 ≤ wh.toInt) (hy3 : wh.toInt ≤ 9) (hy4 : 0 ≤ wg.toInt) (hy5 : wg.toInt ≤ 60) (hy6 : 0 ≤ sec.toInt) (hy7 : sec.toInt ≤ 300) (hp_fc : zRg fc (0) 99) : Met l yX5_leastAtOnce wsX5_leastAtOnce ({ frames := 1, cells := 0, slots := 0, locals := 21 }) (va_Pc [.ref w0, .int 3, .int sec] (zR D (zKT cI cJ cZ cP cS) po [(w0, .inr (5, [.ref wk, .ref wl, .ref wc, .ref wp, .int wn, .int wh, .int wg])), (wc, .inl (cI, 3, .inl fc))])) (vp_Si (fun r => 0 ≤ r.toInt ∧ r.toInt ≤ 171072 ∧ (r.toInt = zPw 3 * zAt (fc 1).toInt (fc 2).toInt sec.toInt))) 0 0 (fun _ => False) := by
  refine Met.ofW (cc := cX5_leastAtOnce) (maxL := 3) (ret := (some .int)) (by decide) rfl ?_
  intro p e s m args below meth c s₁ B hml hv
  obtain ⟨rfl, hP, hK, hN, hZ⟩ := hv
  have hx := B.exec
  have hb := B.bytes
  have hr := B.returns
  have hts := atoms_spec (ws := wsX5_leastAtOnce) B.pre
  have hown : s.vm.findClass RX5 = some m.cls := findClass_of_methodNamed B.named
  have hlocks := B.notSynchronized
  have hl := lv_entry ([.ref w0, .int 3, .int sec]) (n := 3) (Nat.le_of_ble_eq_true rfl)
  rw [lg_entry_eq]
  generalize (lg_sl ([.ref w0, .int 3, .int sec]) ++ List.replicate (3 - (lg_sl ([.ref w0, .int 3, .int sec])).length) Slot.unset).toArray = ls at hl ⊢
  replace hl : lv_has ls 3 [(0, .ref w0), (1, .int 3), (2, .int sec)] := hl
  obtain ⟨t_1, zt_1, yt_1⟩ := hZ.1.1
  refine va_gets hx hb zt_1 va_S.rf hown (hts (.fieldLink RX5 79 "TheLiningsInIt$Ways" "POWERS" "[I") (List.mem_of_getElem? (i := 1) rfl)) (fun _ h9 => h9) dX5_leastAtOnce_0 ?_
  refine lv_iload_n hx hb dX5_leastAtOnce_3 rfl (lv_at hl 1 rfl) ?_
  refine va_ti hx hb yt_1 va_S.rf (zf_in (by decide) (by decide)) (v := .int 1728) (by decide) dX5_leastAtOnce_4 ?_
  refine lv_aload_n hx hb dX5_leastAtOnce_5 rfl (lv_at hl 0 rfl) ?_
  refine va_get (D := D) (ci := 5) (v := .ref wc) (C := RX5) (T := TX5) (N := 7) hx hb hts hi_X5_leastAtOnce_5 hown hK hP 0 rfl rfl 2 (by decide) (hts (.fieldLink RX5 18 "TheLiningsInIt$Ways" "costs" "[I") (List.mem_of_getElem? (i := 2) rfl)) (fun _ h9 => h9) rfl dX5_leastAtOnce_6 ?_
  refine lv_aload_n hx hb dX5_leastAtOnce_9 rfl (lv_at hl 0 rfl) ?_
  refine lv_iload_n hx hb dX5_leastAtOnce_10 rfl (lv_at hl 2 rfl) ?_
  refine zc_V (As := [.int sec]) (rest := [.ref wc, .int 1728]) ⟨hx, hb, hml, hown, hts⟩ (c_F_W_headIsCheapest l D cI cJ cZ cP cS po w0 wk wl wc wp (wn) (wh) (wg) fc (sec) hy0 hy1 hy2 hy3 hy4 hy5 hy6 hy7 hp_fc) (cwV 1 hts gX5_leastAtOnce_X5_headIsCheapest rfl rfl rfl ⟨rfl, dh_X5_headIsCheapest⟩ ⟨Nat.le_of_ble_eq_true rfl, Nat.le_of_ble_eq_true rfl⟩) hK hN hZ hP (hP.sub [0, 1] rfl) (va_recv (q := (RX5, TX5, 7)) hK hP (ci := 5) (q0 := 0) rfl rfl) rfl hl.1 rfl (Nat.le_of_ble_eq_true rfl) dX5_leastAtOnce_11 ⟨Nat.le_of_ble_eq_true rfl, Nat.le_of_ble_eq_true rfl⟩ (fun r_2 hr_2 => ?_)
  obtain ⟨g_3, g_4, hsr_2_0⟩ := hr_2
  refine lv_if_eq (tgt := 21) hx hb dX5_leastAtOnce_14 (by decide) (fun c_5 => ?_) (fun c_5 => ?_)
  · have fc_5 : r_2.toInt = 0 := zf_eq c_5 rfl (by decide)
    refine lv_iconst (v := 2) hx hb dX5_leastAtOnce_21 (by decide) ?_
    refine va_iald hx hb hK hP 1 0 rfl rfl (zf_in (by decide) (by decide)) dX5_leastAtOnce_22 ?_
    refine lv_topi (fun x_6 ex_6 => ?_)
    have bx_6 : 0 ≤ x_6.toInt ∧ x_6.toInt ≤ 99 := by rw [ex_6]; exact hp_fc _
    refine lv_imul hx hb dX5_leastAtOnce_23 ?_
    refine lv_topi (fun x_7 ex_7 => ?_)
    have qx_7 : x_7.toInt = 1728 * x_6.toInt := by rw [ex_7]; exact zf_mul (by decide) rfl (by omega) (by omega)
    exact W.iret (v := x_7) hx hb hr (fun t ht hW => ⟨x_7, rfl, ⟨by omega, by omega, (show (x_7 : Int32).toInt = zPw 3 * zAt (fc 1).toInt (fc 2).toInt sec.toInt from by (have nx_6 : (fc 2).toInt = x_6.toInt := (by rw [ex_6, show (2 : Int32).toNatClampNeg = 2 from by decide]); have zh := hsr_2_0; have ht : zAt (fc 1).toInt (fc 2).toInt sec.toInt = x_6.toInt := (by unfold zAt; first | (have z1 := zh.2 (by omega); by_cases c : 30 ≤ sec.toInt; (rw [if_pos c]; omega); (rw [if_neg c]; omega)) | (have z1 := zh.1 (by omega); rw [if_pos z1.1]; omega)); rw [ht, show zPw 3 = 1728 from by decide]; omega))⟩, ht⟩) (fun q hq => by cases hq) dX5_leastAtOnce_24
  · have fc_5 : r_2.toInt ≠ 0 := zf_ne c_5 rfl (by decide)
    refine lv_iconst (v := 1) hx hb dX5_leastAtOnce_17 (by decide) ?_
    refine lv_goto (tgt := 22) hx hb dX5_leastAtOnce_18 (by decide) ?_
    refine va_iald hx hb hK hP 1 0 rfl rfl (zf_in (by decide) (by decide)) dX5_leastAtOnce_22 ?_
    refine lv_topi (fun x_8 ex_8 => ?_)
    have bx_8 : 0 ≤ x_8.toInt ∧ x_8.toInt ≤ 99 := by rw [ex_8]; exact hp_fc _
    refine lv_imul hx hb dX5_leastAtOnce_23 ?_
    refine lv_topi (fun x_9 ex_9 => ?_)
    have qx_9 : x_9.toInt = 1728 * x_8.toInt := by rw [ex_9]; exact zf_mul (by decide) rfl (by omega) (by omega)
    exact W.iret (v := x_9) hx hb hr (fun t ht hW => ⟨x_9, rfl, ⟨by omega, by omega, (show (x_9 : Int32).toInt = zPw 3 * zAt (fc 1).toInt (fc 2).toInt sec.toInt from by (have nx_8 : (fc 1).toInt = x_8.toInt := (by rw [ex_8, show (1 : Int32).toNatClampNeg = 1 from by decide]); have zh := hsr_2_0; have ht : zAt (fc 1).toInt (fc 2).toInt sec.toInt = x_8.toInt := (by unfold zAt; first | (have z1 := zh.1 (by omega); rw [if_pos z1.1]; omega) | (have z1 := zh.2 (by omega); by_cases c : 30 ≤ sec.toInt; (rw [if_pos c]; omega); (rw [if_neg c]; omega))); rw [ht, show zPw 3 = 1728 from by decide]; omega))⟩, ht⟩) (fun q hq => by cases hq) dX5_leastAtOnce_24
set_option maxHeartbeats 4000000 in
set_option maxRecDepth 100000 in
theorem c_F_W_leastAtOnce_4 (l : Launch) (D : va_G) (cI cJ cZ cP cS : ClassId) (po : zPool) (w0 wk wl wc wp : Nat) (wn wh wg : Int32) (fc : Nat → Int32) (sec : Int32) (hy0 : 0 ≤ wn.toInt) (hy1 : wn.toInt ≤ 8) (hy2 : 0 ≤ wh.toInt) (hy3 : wh.toInt ≤ 9) (hy4 : 0 ≤ wg.toInt) (hy5 : wg.toInt ≤ 60) (hy6 : 0 ≤ sec.toInt) (hy7 : sec.toInt ≤ 300) (hp_fc : zRg fc (0) 99) : Met l yX5_leastAtOnce wsX5_leastAtOnce ({ frames := 1, cells := 0, slots := 0, locals := 21 }) (va_Pc [.ref w0, .int 4, .int sec] (zR D (zKT cI cJ cZ cP cS) po [(w0, .inr (5, [.ref wk, .ref wl, .ref wc, .ref wp, .int wn, .int wh, .int wg])), (wc, .inl (cI, 3, .inl fc))])) (vp_Si (fun r => 0 ≤ r.toInt ∧ r.toInt ≤ 2052864 ∧ (r.toInt = zPw 4 * zAt (fc 1).toInt (fc 2).toInt sec.toInt))) 0 0 (fun _ => False) := by
  refine Met.ofW (cc := cX5_leastAtOnce) (maxL := 3) (ret := (some .int)) (by decide) rfl ?_
  intro p e s m args below meth c s₁ B hml hv
  obtain ⟨rfl, hP, hK, hN, hZ⟩ := hv
  have hx := B.exec
  have hb := B.bytes
  have hr := B.returns
  have hts := atoms_spec (ws := wsX5_leastAtOnce) B.pre
  have hown : s.vm.findClass RX5 = some m.cls := findClass_of_methodNamed B.named
  have hlocks := B.notSynchronized
  have hl := lv_entry ([.ref w0, .int 4, .int sec]) (n := 3) (Nat.le_of_ble_eq_true rfl)
  rw [lg_entry_eq]
  generalize (lg_sl ([.ref w0, .int 4, .int sec]) ++ List.replicate (3 - (lg_sl ([.ref w0, .int 4, .int sec])).length) Slot.unset).toArray = ls at hl ⊢
  replace hl : lv_has ls 3 [(0, .ref w0), (1, .int 4), (2, .int sec)] := hl
  obtain ⟨t_1, zt_1, yt_1⟩ := hZ.1.1
  refine va_gets hx hb zt_1 va_S.rf hown (hts (.fieldLink RX5 79 "TheLiningsInIt$Ways" "POWERS" "[I") (List.mem_of_getElem? (i := 1) rfl)) (fun _ h9 => h9) dX5_leastAtOnce_0 ?_
  refine lv_iload_n hx hb dX5_leastAtOnce_3 rfl (lv_at hl 1 rfl) ?_
  refine va_ti hx hb yt_1 va_S.rf (zf_in (by decide) (by decide)) (v := .int 20736) (by decide) dX5_leastAtOnce_4 ?_
  refine lv_aload_n hx hb dX5_leastAtOnce_5 rfl (lv_at hl 0 rfl) ?_
  refine va_get (D := D) (ci := 5) (v := .ref wc) (C := RX5) (T := TX5) (N := 7) hx hb hts hi_X5_leastAtOnce_5 hown hK hP 0 rfl rfl 2 (by decide) (hts (.fieldLink RX5 18 "TheLiningsInIt$Ways" "costs" "[I") (List.mem_of_getElem? (i := 2) rfl)) (fun _ h9 => h9) rfl dX5_leastAtOnce_6 ?_
  refine lv_aload_n hx hb dX5_leastAtOnce_9 rfl (lv_at hl 0 rfl) ?_
  refine lv_iload_n hx hb dX5_leastAtOnce_10 rfl (lv_at hl 2 rfl) ?_
  refine zc_V (As := [.int sec]) (rest := [.ref wc, .int 20736]) ⟨hx, hb, hml, hown, hts⟩ (c_F_W_headIsCheapest l D cI cJ cZ cP cS po w0 wk wl wc wp (wn) (wh) (wg) fc (sec) hy0 hy1 hy2 hy3 hy4 hy5 hy6 hy7 hp_fc) (cwV 1 hts gX5_leastAtOnce_X5_headIsCheapest rfl rfl rfl ⟨rfl, dh_X5_headIsCheapest⟩ ⟨Nat.le_of_ble_eq_true rfl, Nat.le_of_ble_eq_true rfl⟩) hK hN hZ hP (hP.sub [0, 1] rfl) (va_recv (q := (RX5, TX5, 7)) hK hP (ci := 5) (q0 := 0) rfl rfl) rfl hl.1 rfl (Nat.le_of_ble_eq_true rfl) dX5_leastAtOnce_11 ⟨Nat.le_of_ble_eq_true rfl, Nat.le_of_ble_eq_true rfl⟩ (fun r_2 hr_2 => ?_)
  obtain ⟨g_3, g_4, hsr_2_0⟩ := hr_2
  refine lv_if_eq (tgt := 21) hx hb dX5_leastAtOnce_14 (by decide) (fun c_5 => ?_) (fun c_5 => ?_)
  · have fc_5 : r_2.toInt = 0 := zf_eq c_5 rfl (by decide)
    refine lv_iconst (v := 2) hx hb dX5_leastAtOnce_21 (by decide) ?_
    refine va_iald hx hb hK hP 1 0 rfl rfl (zf_in (by decide) (by decide)) dX5_leastAtOnce_22 ?_
    refine lv_topi (fun x_6 ex_6 => ?_)
    have bx_6 : 0 ≤ x_6.toInt ∧ x_6.toInt ≤ 99 := by rw [ex_6]; exact hp_fc _
    refine lv_imul hx hb dX5_leastAtOnce_23 ?_
    refine lv_topi (fun x_7 ex_7 => ?_)
    have qx_7 : x_7.toInt = 20736 * x_6.toInt := by rw [ex_7]; exact zf_mul (by decide) rfl (by omega) (by omega)
    exact W.iret (v := x_7) hx hb hr (fun t ht hW => ⟨x_7, rfl, ⟨by omega, by omega, (show (x_7 : Int32).toInt = zPw 4 * zAt (fc 1).toInt (fc 2).toInt sec.toInt from by (have nx_6 : (fc 2).toInt = x_6.toInt := (by rw [ex_6, show (2 : Int32).toNatClampNeg = 2 from by decide]); have zh := hsr_2_0; have ht : zAt (fc 1).toInt (fc 2).toInt sec.toInt = x_6.toInt := (by unfold zAt; first | (have z1 := zh.2 (by omega); by_cases c : 30 ≤ sec.toInt; (rw [if_pos c]; omega); (rw [if_neg c]; omega)) | (have z1 := zh.1 (by omega); rw [if_pos z1.1]; omega)); rw [ht, show zPw 4 = 20736 from by decide]; omega))⟩, ht⟩) (fun q hq => by cases hq) dX5_leastAtOnce_24
  · have fc_5 : r_2.toInt ≠ 0 := zf_ne c_5 rfl (by decide)
    refine lv_iconst (v := 1) hx hb dX5_leastAtOnce_17 (by decide) ?_
    refine lv_goto (tgt := 22) hx hb dX5_leastAtOnce_18 (by decide) ?_
    refine va_iald hx hb hK hP 1 0 rfl rfl (zf_in (by decide) (by decide)) dX5_leastAtOnce_22 ?_
    refine lv_topi (fun x_8 ex_8 => ?_)
    have bx_8 : 0 ≤ x_8.toInt ∧ x_8.toInt ≤ 99 := by rw [ex_8]; exact hp_fc _
    refine lv_imul hx hb dX5_leastAtOnce_23 ?_
    refine lv_topi (fun x_9 ex_9 => ?_)
    have qx_9 : x_9.toInt = 20736 * x_8.toInt := by rw [ex_9]; exact zf_mul (by decide) rfl (by omega) (by omega)
    exact W.iret (v := x_9) hx hb hr (fun t ht hW => ⟨x_9, rfl, ⟨by omega, by omega, (show (x_9 : Int32).toInt = zPw 4 * zAt (fc 1).toInt (fc 2).toInt sec.toInt from by (have nx_8 : (fc 1).toInt = x_8.toInt := (by rw [ex_8, show (1 : Int32).toNatClampNeg = 1 from by decide]); have zh := hsr_2_0; have ht : zAt (fc 1).toInt (fc 2).toInt sec.toInt = x_8.toInt := (by unfold zAt; first | (have z1 := zh.1 (by omega); rw [if_pos z1.1]; omega) | (have z1 := zh.2 (by omega); by_cases c : 30 ≤ sec.toInt; (rw [if_pos c]; omega); (rw [if_neg c]; omega))); rw [ht, show zPw 4 = 20736 from by decide]; omega))⟩, ht⟩) (fun q hq => by cases hq) dX5_leastAtOnce_24
set_option maxHeartbeats 4000000 in
set_option maxRecDepth 100000 in
theorem c_F_W_least_0 (l : Launch) (D : va_G) (cI cJ cZ cP cS : ClassId) (po : zPool) (w0 wk wl wc wp : Nat) (wn wh wg : Int32) (fq : Nat → Option Nat) (kq aq tq : Nat → Int32) (tw : Int32) (fl fc : Nat → Int32) (d sec : Int32) (hy0 : 0 ≤ wn.toInt) (hy1 : wn.toInt ≤ 8) (hy2 : 0 ≤ wh.toInt) (hy3 : wh.toInt ≤ 9) (hy4 : 0 ≤ wg.toInt) (hy5 : wg.toInt ≤ 60) (hjw : zJW po fq wn kq aq tq tw) (hkn : zKn kq aq tq wn.toInt.toNat wh.toInt (fc 0).toInt (fc 1).toInt (fc 2).toInt wg.toInt fl) (hgl : (∀ p : Nat, p < wn.toInt.toNat → (tq p).toInt ≤ wg.toInt)) (htw : tw.toInt = 1) (hy10 : 0 ≤ d.toInt) (hy11 : d.toInt ≤ 24) (hy12 : 0 ≤ sec.toInt) (hy13 : sec.toInt ≤ 300) (hp_fc : zRg fc (0) 99) (hpz : Nat) : Met l yX5_least wsX5_least ({ frames := 2, cells := 0, slots := 0, locals := 43 }) (va_Pc [.ref w0, .int 0, .int d, .int sec] (zW D (zKT cI cJ cZ cP cS) po [(w0, .inr (5, [.ref wk, .ref wl, .ref wc, .ref wp, .int wn, .int wh, .int wg])), (wl, .inl (cI, 125, .inl fl)), (wc, .inl (cI, 3, .inl fc)), (wp, .inl (cP, 8, .inr (.inr (.inr (.inr fq)))))] hpz)) (va_Qi (fun (r : Int32) (fl2 : (Nat → Int32)) => (zKn kq aq tq wn.toInt.toNat wh.toInt (fc 0).toInt (fc 1).toInt (fc 2).toInt wg.toInt fl2) ∧ (r.toInt = (zLn kq aq tq wn.toInt.toNat wh.toInt (fc 0).toInt (fc 1).toInt (fc 2).toInt 0) d.toInt sec.toInt) ∧ (0 ≤ r.toInt ∧ r.toInt ≤ 99)) (zB D [(w0, .inr (5, [.ref wk, .ref wl, .ref wc, .ref wp, .int wn, .int wh, .int wg])), (wl, .inl (cI, 125, .inl fl)), (wc, .inl (cI, 3, .inl fc)), (wp, .inl (cP, 8, .inr (.inr (.inr (.inr fq)))))] hpz (fun (fl2 : Nat → Int32) => [(w0, .inr (5, [.ref wk, .ref wl, .ref wc, .ref wp, .int wn, .int wh, .int wg])), (wl, .inl (cI, 125, .inl fl2)), (wc, .inl (cI, 3, .inl fc)), (wp, .inl (cP, 8, .inr (.inr (.inr (.inr fq)))))])) (va_A [(w0, .inr (5, [.ref wk, .ref wl, .ref wc, .ref wp, .int wn, .int wh, .int wg])), (wl, .inl (cI, 125, .inl fl)), (wc, .inl (cI, 3, .inl fc)), (wp, .inl (cP, 8, .inr (.inr (.inr (.inr fq)))))] hpz)) 0 0 (va_A [(w0, .inr (5, [.ref wk, .ref wl, .ref wc, .ref wp, .int wn, .int wh, .int wg])), (wl, .inl (cI, 125, .inl fl)), (wc, .inl (cI, 3, .inl fc)), (wp, .inl (cP, 8, .inr (.inr (.inr (.inr fq)))))] hpz) := by
  refine Met.ofW (cc := cX5_least) (maxL := 9) (ret := (some .int)) (by decide) rfl ?_
  intro p e s m args below meth c s₁ B hml hv
  obtain ⟨rfl, hsz, hP, hK, hD0, hN, hZ⟩ := hv
  have hx := B.exec
  have hb := B.bytes
  have hr := B.returns
  have hts := atoms_spec (ws := wsX5_least) B.pre
  have hown : s.vm.findClass RX5 = some m.cls := findClass_of_methodNamed B.named
  have hlocks := B.notSynchronized
  subst hsz
  have hD := hD0.self (sz := s.heap.size)
  have hA := zA_of hD
  have hl := lv_entry ([.ref w0, .int 0, .int d, .int sec]) (n := 9) (Nat.le_of_ble_eq_true rfl)
  rw [lg_entry_eq]
  generalize (lg_sl ([.ref w0, .int 0, .int d, .int sec]) ++ List.replicate (9 - (lg_sl ([.ref w0, .int 0, .int d, .int sec])).length) Slot.unset).toArray = ls at hl ⊢
  replace hl : lv_has ls 9 [(0, .ref w0), (1, .int 0), (2, .int d), (3, .int sec)] := hl
  refine zw_begin hP hD (fun H locs hP1 hS => ?_)
  clear hP
  have hP := hP1
  clear hP1
  refine lv_iload_n hx hb dX5_least_0 rfl (lv_at hl 1 rfl) ?_
  refine lv_if_lt (tgt := 20) hx hb dX5_least_1 (by decide) (fun c_1 => ?_) (fun c_1 => ?_)
  · exact absurd c_1 (by decide)
  · refine lv_iload_n hx hb dX5_least_4 rfl (lv_at hl 1 rfl) ?_
    refine lv_iconst (v := 4) hx hb dX5_least_5 (by decide) ?_
    refine lv_icmp_gt (tgt := 20) hx hb dX5_least_6 (by decide) (fun c_2 => ?_) (fun c_2 => ?_)
    · exact absurd c_2 (by decide)
    · refine lv_iload_n hx hb dX5_least_9 rfl (lv_at hl 2 rfl) ?_
      refine lv_iconst (v := 1) hx hb dX5_least_10 (by decide) ?_
      refine lv_icmp_lt (tgt := 20) hx hb dX5_least_11 (by decide) (fun c_3 => ?_) (fun c_3 => ?_)
      · have fc_3 : d.toInt < 1 := zf_lt c_3 rfl (by decide)
        refine lv_iconst (v := 0) hx hb dX5_least_20 (by decide) ?_
        exact W.iret (v := 0) hx hb hr (fun t ht hW => ⟨⟨0, fl, rfl, ⟨(show zKn kq aq tq wn.toInt.toNat wh.toInt (fc 0).toInt (fc 1).toInt (fc 2).toInt wg.toInt fl from by exact hkn), (show (0 : Int32).toInt = (zLn kq aq tq wn.toInt.toNat wh.toInt (fc 0).toInt (fc 1).toInt (fc 2).toInt 0) d.toInt sec.toInt from by (have k9 : (0 : Int32).toInt = 0 := (by decide); rw [zLn_0, if_pos (by omega)]; exact k9)), ⟨by decide, by decide⟩⟩, zRet ht hP hD [0, 1, 2, 3] (by decide) rfl⟩, hS.F ht⟩) hS.2.2 dX5_least_21
      · have fc_3 : 1 ≤ d.toInt := zf_nlt c_3 rfl (by decide)
        refine lv_iload_n hx hb dX5_least_14 rfl (lv_at hl 2 rfl) ?_
        refine lv_bipush (v := 24) hx hb dX5_least_15 (by decide) ?_
        refine lv_icmp_le (tgt := 22) hx hb dX5_least_17 (by decide) (fun c_4 => ?_) (fun c_4 => ?_)
        · have fc_4 : d.toInt ≤ 24 := zf_le c_4 rfl (by decide)
          refine lv_iload_n hx hb dX5_least_22 rfl (lv_at hl 3 rfl) ?_
          refine lv_iload_n hx hb dX5_least_23 rfl (lv_at hl 1 rfl) ?_
          refine lv_aload_n hx hb dX5_least_24 rfl (lv_at hl 0 rfl) ?_
          refine va_get (D := D) (ci := 5) (v := .int wg) (C := RX5) (T := TX5) (N := 7) hx hb hts hi_X5_least_5 hown hK hP 0 rfl rfl 6 (by decide) (hts (.fieldLink RX5 34 "TheLiningsInIt$Ways" "longest" "I") (List.mem_of_getElem? (i := 1) rfl)) (fun _ h9 => h9) rfl dX5_least_25 ?_
          refine lv_imul hx hb dX5_least_28 ?_
          refine lv_topi (fun x_5 ex_5 => ?_)
          have qx_5 : x_5.toInt = 0 * wg.toInt := by rw [ex_5]; exact zf_mul (by decide) rfl (by omega) (by omega)
          refine lv_bipush (v := 30) hx hb dX5_least_29 (by decide) ?_
          refine lv_iadd hx hb dX5_least_31 ?_
          refine lv_topi (fun x_6 ex_6 => ?_)
          have qx_6 : x_6.toInt = x_5.toInt + 30 := by rw [ex_6]; exact zf_add rfl (by decide) (by omega) (by omega)
          refine lv_icmp_lt (tgt := 39) hx hb dX5_least_32 (by decide) (fun c_7 => ?_) (fun c_7 => ?_)
          · have fc_7 : sec.toInt < x_6.toInt := zf_lt c_7 rfl rfl
            refine lv_iconst (v := 0) hx hb dX5_least_39 (by decide) ?_
            refine lv_istore (lv' := [(4, .int 0), (0, .ref w0), (1, .int 0), (2, .int d), (3, .int sec)]) hx hb dX5_least_40 hl (by decide) rfl (fun ls hl => ?_)
            refine lv_iload_n hx hb dX5_least_42 rfl (lv_at hl 2 rfl) ?_
            refine lv_bipush (v := 25) hx hb dX5_least_43 (by decide) ?_
            refine lv_imul hx hb dX5_least_45 ?_
            refine lv_topi (fun y_8 ey_8 => ?_)
            obtain rfl : y_8 = 0 := ey_8.trans (by decide)
            refine lv_iload_n hx hb dX5_least_46 rfl (lv_at hl 3 rfl) ?_
            refine lv_iadd hx hb dX5_least_47 ?_
            refine lv_topi (fun x_9 ex_9 => ?_)
            have qx_9 : x_9.toInt = 0 + d.toInt := by rw [ex_9]; exact zf_add (by decide) rfl (by omega) (by omega)
            refine lv_istore (lv' := [(5, .int x_9), (4, .int 0), (0, .ref w0), (1, .int 0), (2, .int d), (3, .int sec)]) hx hb dX5_least_48 hl (by decide) rfl (fun ls hl => ?_)
            refine lv_iload hx hb dX5_least_50 (lv_at hl 1 rfl) ?_
            refine lv_if_eq (tgt := 74) hx hb dX5_least_52 (by decide) (fun c_10 => ?_) (fun c_10 => ?_)
            · refine lv_aload_n hx hb dX5_least_74 rfl (lv_at hl 2 rfl) ?_
              refine lv_iload_n hx hb dX5_least_75 rfl (lv_at hl 3 rfl) ?_
              refine lv_iload_n hx hb dX5_least_76 rfl (lv_at hl 5 rfl) ?_
              refine zc_V (As := [.int 0, .int sec]) (rest := []) ⟨hx, hb, hml, hown, hts⟩ (c_F_W_leastAtOnce_0 l D cI cJ cZ cP cS po w0 wk wl wc wp (wn) (wh) (wg) fc (sec) hy0 hy1 hy2 hy3 hy4 hy5 hy12 hy13 hp_fc) (cwV 2 hts gX5_least_X5_leastAtOnce rfl rfl rfl ⟨rfl, dh_X5_leastAtOnce⟩ ⟨Nat.le_of_ble_eq_true rfl, Nat.le_of_ble_eq_true rfl⟩) hK hN (hZ.kept hS) hP (hP.sub [0, 2] rfl) (va_recv (q := (RX5, TX5, 7)) hK hP (ci := 5) (q0 := 0) rfl rfl) rfl hl.1 rfl (Nat.le_of_ble_eq_true rfl) dX5_least_77 ⟨Nat.le_of_ble_eq_true rfl, Nat.le_of_ble_eq_true rfl⟩ (fun r_11 hr_11 => ?_)
              obtain ⟨g_12, g_13, hsr_11_0⟩ := hr_11
              refine lv_istore (lv' := [(6, .int r_11), (5, .int x_9), (4, .int 0), (0, .ref w0), (1, .int 0), (2, .int d), (3, .int sec)]) hx hb dX5_least_80 hl (by decide) rfl (fun ls hl => ?_)
              refine lv_iconst (v := 0) hx hb dX5_least_82 (by decide) ?_
              refine lv_istore (lv' := [(7, .int 0), (6, .int r_11), (5, .int x_9), (4, .int 0), (0, .ref w0), (1, .int 0), (2, .int d), (3, .int sec)]) hx hb dX5_least_83 hl (by decide) rfl (fun ls hl => ?_)
              refine lv_iload hx hb dX5_least_85 (lv_at hl 0 rfl) ?_
              refine lv_aload_n hx hb dX5_least_87 rfl (lv_at hl 4 rfl) ?_
              refine va_get (D := D) (ci := 5) (v := .int wn) (C := RX5) (T := TX5) (N := 7) hx hb hts hi_X5_least_5 hown hK hP 0 rfl rfl 4 (by decide) (hts (.fieldLink RX5 27 "TheLiningsInIt$Ways" "count" "I") (List.mem_of_getElem? (i := 3) rfl)) (fun _ h9 => h9) rfl dX5_least_88 ?_
              refine lv_icmp_ge (tgt := 135) hx hb dX5_least_91 (by decide) (fun c_14 => ?_) (fun c_14 => ?_)
              · have fc_14 : wn.toInt ≤ 0 := zf_le c_14 rfl (by decide)
                refine lv_iload hx hb dX5_least_135 (lv_at hl 3 rfl) ?_
                refine lv_if_eq (tgt := 149) hx hb dX5_least_137 (by decide) (fun c_15 => ?_) (fun c_15 => ?_)
                · refine lv_iload hx hb dX5_least_149 (lv_at hl 1 rfl) ?_
                  exact W.iret (v := r_11) hx hb hr (fun t ht hW => ⟨⟨r_11, fl, rfl, ⟨(show zKn kq aq tq wn.toInt.toNat wh.toInt (fc 0).toInt (fc 1).toInt (fc 2).toInt wg.toInt fl from by exact hkn), (show (r_11 : Int32).toInt = (zLn kq aq tq wn.toInt.toNat wh.toInt (fc 0).toInt (fc 1).toInt (fc 2).toInt 0) d.toInt sec.toInt from by (rw [zLn_0, if_neg (by omega)]; exact hsr_11_0)), ⟨by omega, by omega⟩⟩, zRet ht hP hD [0, 1, 2, 3] (by decide) rfl⟩, hS.F ht⟩) hS.2.2 dX5_least_151
                · exact absurd c_15 (by decide)
              · have fc_14 : 0 < wn.toInt := zf_nle c_14 rfl (by decide)
                refine lv_iload_n hx hb dX5_least_94 rfl (lv_at hl 5 rfl) ?_
                refine lv_if_le (tgt := 135) hx hb dX5_least_95 (by decide) (fun c_16 => ?_) (fun c_16 => ?_)
                · refine lv_iload hx hb dX5_least_135 (lv_at hl 3 rfl) ?_
                  refine lv_if_eq (tgt := 149) hx hb dX5_least_137 (by decide) (fun c_17 => ?_) (fun c_17 => ?_)
                  · refine lv_iload hx hb dX5_least_149 (lv_at hl 1 rfl) ?_
                    exact W.iret (v := r_11) hx hb hr (fun t ht hW => ⟨⟨r_11, fl, rfl, ⟨(show zKn kq aq tq wn.toInt.toNat wh.toInt (fc 0).toInt (fc 1).toInt (fc 2).toInt wg.toInt fl from by exact hkn), (show (r_11 : Int32).toInt = (zLn kq aq tq wn.toInt.toNat wh.toInt (fc 0).toInt (fc 1).toInt (fc 2).toInt 0) d.toInt sec.toInt from by (rw [zLn_0, if_neg (by omega)]; exact hsr_11_0)), ⟨by omega, by omega⟩⟩, zRet ht hP hD [0, 1, 2, 3] (by decide) rfl⟩, hS.F ht⟩) hS.2.2 dX5_least_151
                  · exact absurd c_17 (by decide)
                · exact absurd c_16 (by decide)
            · exact absurd c_10 (by decide)
          · have fc_7 : x_6.toInt ≤ sec.toInt := zf_nlt c_7 rfl rfl
            refine lv_iconst (v := 1) hx hb dX5_least_35 (by decide) ?_
            refine lv_goto (tgt := 40) hx hb dX5_least_36 (by decide) ?_
            refine lv_istore (lv' := [(4, .int 1), (0, .ref w0), (1, .int 0), (2, .int d), (3, .int sec)]) hx hb dX5_least_40 hl (by decide) rfl (fun ls hl => ?_)
            refine lv_iload_n hx hb dX5_least_42 rfl (lv_at hl 2 rfl) ?_
            refine lv_bipush (v := 25) hx hb dX5_least_43 (by decide) ?_
            refine lv_imul hx hb dX5_least_45 ?_
            refine lv_topi (fun y_18 ey_18 => ?_)
            obtain rfl : y_18 = 0 := ey_18.trans (by decide)
            refine lv_iload_n hx hb dX5_least_46 rfl (lv_at hl 3 rfl) ?_
            refine lv_iadd hx hb dX5_least_47 ?_
            refine lv_topi (fun x_19 ex_19 => ?_)
            have qx_19 : x_19.toInt = 0 + d.toInt := by rw [ex_19]; exact zf_add (by decide) rfl (by omega) (by omega)
            refine lv_istore (lv' := [(5, .int x_19), (4, .int 1), (0, .ref w0), (1, .int 0), (2, .int d), (3, .int sec)]) hx hb dX5_least_48 hl (by decide) rfl (fun ls hl => ?_)
            refine lv_iload hx hb dX5_least_50 (lv_at hl 1 rfl) ?_
            refine lv_if_eq (tgt := 74) hx hb dX5_least_52 (by decide) (fun c_20 => ?_) (fun c_20 => ?_)
            · exact absurd c_20 (by decide)
            · refine lv_aload_n hx hb dX5_least_55 rfl (lv_at hl 2 rfl) ?_
              refine va_get (D := D) (ci := 5) (v := .ref wl) (C := RX5) (T := TX5) (N := 7) hx hb hts hi_X5_least_5 hown hK hP 0 rfl rfl 1 (by decide) (hts (.fieldLink RX5 15 "TheLiningsInIt$Ways" "knownLeast" "[I") (List.mem_of_getElem? (i := 2) rfl)) (fun _ h9 => h9) rfl dX5_least_56 ?_
              refine lv_iload hx hb dX5_least_59 (lv_at hl 0 rfl) ?_
              refine va_iald hx hb hK hP 1 0 rfl rfl (zf_in (by omega) (by omega)) dX5_least_61 ?_
              refine lv_topi (fun x_21 ex_21 => ?_)
              refine lv_iconst (v := (-1)) hx hb dX5_least_62 (by decide) ?_
              refine lv_icmp_eq (tgt := 74) hx hb dX5_least_63 (by decide) (fun c_22 => ?_) (fun c_22 => ?_)
              · have fc_22 : x_21.toInt = (-1) := zf_eq c_22 rfl (by decide)
                refine lv_aload_n hx hb dX5_least_74 rfl (lv_at hl 2 rfl) ?_
                refine lv_iload_n hx hb dX5_least_75 rfl (lv_at hl 3 rfl) ?_
                refine lv_iload_n hx hb dX5_least_76 rfl (lv_at hl 5 rfl) ?_
                refine zc_V (As := [.int 0, .int sec]) (rest := []) ⟨hx, hb, hml, hown, hts⟩ (c_F_W_leastAtOnce_0 l D cI cJ cZ cP cS po w0 wk wl wc wp (wn) (wh) (wg) fc (sec) hy0 hy1 hy2 hy3 hy4 hy5 hy12 hy13 hp_fc) (cwV 2 hts gX5_least_X5_leastAtOnce rfl rfl rfl ⟨rfl, dh_X5_leastAtOnce⟩ ⟨Nat.le_of_ble_eq_true rfl, Nat.le_of_ble_eq_true rfl⟩) hK hN (hZ.kept hS) hP (hP.sub [0, 2] rfl) (va_recv (q := (RX5, TX5, 7)) hK hP (ci := 5) (q0 := 0) rfl rfl) rfl hl.1 rfl (Nat.le_of_ble_eq_true rfl) dX5_least_77 ⟨Nat.le_of_ble_eq_true rfl, Nat.le_of_ble_eq_true rfl⟩ (fun r_23 hr_23 => ?_)
                obtain ⟨g_24, g_25, hsr_23_0⟩ := hr_23
                refine lv_istore (lv' := [(6, .int r_23), (5, .int x_19), (4, .int 1), (0, .ref w0), (1, .int 0), (2, .int d), (3, .int sec)]) hx hb dX5_least_80 hl (by decide) rfl (fun ls hl => ?_)
                refine lv_iconst (v := 0) hx hb dX5_least_82 (by decide) ?_
                refine lv_istore (lv' := [(7, .int 0), (6, .int r_23), (5, .int x_19), (4, .int 1), (0, .ref w0), (1, .int 0), (2, .int d), (3, .int sec)]) hx hb dX5_least_83 hl (by decide) rfl (fun ls hl => ?_)
                refine lv_iload hx hb dX5_least_85 (lv_at hl 0 rfl) ?_
                refine lv_aload_n hx hb dX5_least_87 rfl (lv_at hl 4 rfl) ?_
                refine va_get (D := D) (ci := 5) (v := .int wn) (C := RX5) (T := TX5) (N := 7) hx hb hts hi_X5_least_5 hown hK hP 0 rfl rfl 4 (by decide) (hts (.fieldLink RX5 27 "TheLiningsInIt$Ways" "count" "I") (List.mem_of_getElem? (i := 3) rfl)) (fun _ h9 => h9) rfl dX5_least_88 ?_
                refine lv_icmp_ge (tgt := 135) hx hb dX5_least_91 (by decide) (fun c_26 => ?_) (fun c_26 => ?_)
                · have fc_26 : wn.toInt ≤ 0 := zf_le c_26 rfl (by decide)
                  refine lv_iload hx hb dX5_least_135 (lv_at hl 3 rfl) ?_
                  refine lv_if_eq (tgt := 149) hx hb dX5_least_137 (by decide) (fun c_27 => ?_) (fun c_27 => ?_)
                  · exact absurd c_27 (by decide)
                  · refine lv_aload_n hx hb dX5_least_140 rfl (lv_at hl 4 rfl) ?_
                    refine va_get (D := D) (ci := 5) (v := .ref wl) (C := RX5) (T := TX5) (N := 7) hx hb hts hi_X5_least_5 hown hK hP 0 rfl rfl 1 (by decide) (hts (.fieldLink RX5 15 "TheLiningsInIt$Ways" "knownLeast" "[I") (List.mem_of_getElem? (i := 2) rfl)) (fun _ h9 => h9) rfl dX5_least_141 ?_
                    refine lv_iload hx hb dX5_least_144 (lv_at hl 2 rfl) ?_
                    refine lv_iload hx hb dX5_least_146 (lv_at hl 1 rfl) ?_
                    refine va_iast hx hb hK hP hD hS 1 0 rfl rfl (zf_in (by omega) (by omega)) dX5_least_148 (fun H locs hP hD hS => ?_)
                    obtain ⟨g_28, hg_28⟩ : ∃ g : Nat → Int32, g = upd fl x_19.toNatClampNeg r_23 := ⟨_, rfl⟩
                    rw [← hg_28] at hP hD
                    have h9R := zRe (ws' := [(w0, .inr (5, [.ref wk, .ref wl, .ref wc, .ref wp, .int wn, .int wh, .int wg])), (wl, .inl (cI, 125, .inl g_28)), (wc, .inl (cI, 3, .inl fc)), (wp, .inl (cP, 8, .inr (.inr (.inr (.inr fq)))))]) hP hD rfl
                    clear hP hD
                    obtain ⟨hP, hD⟩ := h9R
                    refine lv_iload hx hb dX5_least_149 (lv_at hl 1 rfl) ?_
                    exact W.iret (v := r_23) hx hb hr (fun t ht hW => ⟨⟨r_23, g_28, rfl, ⟨(show zKn kq aq tq wn.toInt.toNat wh.toInt (fc 0).toInt (fc 1).toInt (fc 2).toInt wg.toInt g_28 from by (rw [hg_28]; exact zKn_u (m := 0) (d := d) (s := sec) hkn (by omega) hgl (by omega) ⟨by omega, by omega⟩ (by omega) (by rw [zLn_0, if_neg (by omega)]; exact hsr_23_0))), (show (r_23 : Int32).toInt = (zLn kq aq tq wn.toInt.toNat wh.toInt (fc 0).toInt (fc 1).toInt (fc 2).toInt 0) d.toInt sec.toInt from by (rw [zLn_0, if_neg (by omega)]; exact hsr_23_0)), ⟨by omega, by omega⟩⟩, zRet ht hP hD [0, 1, 2, 3] (by decide) rfl⟩, hS.F ht⟩) hS.2.2 dX5_least_151
                · have fc_26 : 0 < wn.toInt := zf_nle c_26 rfl (by decide)
                  refine lv_iload_n hx hb dX5_least_94 rfl (lv_at hl 5 rfl) ?_
                  refine lv_if_le (tgt := 135) hx hb dX5_least_95 (by decide) (fun c_29 => ?_) (fun c_29 => ?_)
                  · refine lv_iload hx hb dX5_least_135 (lv_at hl 3 rfl) ?_
                    refine lv_if_eq (tgt := 149) hx hb dX5_least_137 (by decide) (fun c_30 => ?_) (fun c_30 => ?_)
                    · exact absurd c_30 (by decide)
                    · refine lv_aload_n hx hb dX5_least_140 rfl (lv_at hl 4 rfl) ?_
                      refine va_get (D := D) (ci := 5) (v := .ref wl) (C := RX5) (T := TX5) (N := 7) hx hb hts hi_X5_least_5 hown hK hP 0 rfl rfl 1 (by decide) (hts (.fieldLink RX5 15 "TheLiningsInIt$Ways" "knownLeast" "[I") (List.mem_of_getElem? (i := 2) rfl)) (fun _ h9 => h9) rfl dX5_least_141 ?_
                      refine lv_iload hx hb dX5_least_144 (lv_at hl 2 rfl) ?_
                      refine lv_iload hx hb dX5_least_146 (lv_at hl 1 rfl) ?_
                      refine va_iast hx hb hK hP hD hS 1 0 rfl rfl (zf_in (by omega) (by omega)) dX5_least_148 (fun H locs hP hD hS => ?_)
                      obtain ⟨g_31, hg_31⟩ : ∃ g : Nat → Int32, g = upd fl x_19.toNatClampNeg r_23 := ⟨_, rfl⟩
                      rw [← hg_31] at hP hD
                      have h9R := zRe (ws' := [(w0, .inr (5, [.ref wk, .ref wl, .ref wc, .ref wp, .int wn, .int wh, .int wg])), (wl, .inl (cI, 125, .inl g_31)), (wc, .inl (cI, 3, .inl fc)), (wp, .inl (cP, 8, .inr (.inr (.inr (.inr fq)))))]) hP hD rfl
                      clear hP hD
                      obtain ⟨hP, hD⟩ := h9R
                      refine lv_iload hx hb dX5_least_149 (lv_at hl 1 rfl) ?_
                      exact W.iret (v := r_23) hx hb hr (fun t ht hW => ⟨⟨r_23, g_31, rfl, ⟨(show zKn kq aq tq wn.toInt.toNat wh.toInt (fc 0).toInt (fc 1).toInt (fc 2).toInt wg.toInt g_31 from by (rw [hg_31]; exact zKn_u (m := 0) (d := d) (s := sec) hkn (by omega) hgl (by omega) ⟨by omega, by omega⟩ (by omega) (by rw [zLn_0, if_neg (by omega)]; exact hsr_23_0))), (show (r_23 : Int32).toInt = (zLn kq aq tq wn.toInt.toNat wh.toInt (fc 0).toInt (fc 1).toInt (fc 2).toInt 0) d.toInt sec.toInt from by (rw [zLn_0, if_neg (by omega)]; exact hsr_23_0)), ⟨by omega, by omega⟩⟩, zRet ht hP hD [0, 1, 2, 3] (by decide) rfl⟩, hS.F ht⟩) hS.2.2 dX5_least_151
                  · exact absurd c_29 (by decide)
              · have fc_22 : x_21.toInt ≠ (-1) := zf_ne c_22 rfl (by decide)
                refine lv_aload_n hx hb dX5_least_66 rfl (lv_at hl 2 rfl) ?_
                refine va_get (D := D) (ci := 5) (v := .ref wl) (C := RX5) (T := TX5) (N := 7) hx hb hts hi_X5_least_5 hown hK hP 0 rfl rfl 1 (by decide) (hts (.fieldLink RX5 15 "TheLiningsInIt$Ways" "knownLeast" "[I") (List.mem_of_getElem? (i := 2) rfl)) (fun _ h9 => h9) rfl dX5_least_67 ?_
                refine lv_iload hx hb dX5_least_70 (lv_at hl 0 rfl) ?_
                refine va_iald hx hb hK hP 1 0 rfl rfl (zf_in (by omega) (by omega)) dX5_least_72 ?_
                refine lv_topi (fun y_32 ey_32 => ?_)
                obtain rfl : x_21 = y_32 := ex_21.trans ey_32.symm
                have hmx_21 : x_21.toInt = (zLn kq aq tq wn.toInt.toNat wh.toInt (fc 0).toInt (fc 1).toInt (fc 2).toInt 0) d.toInt sec.toInt := by (have zn : (fl x_19.toNatClampNeg).toInt ≠ -1 := (by rw [← ex_21]; omega); rw [ex_21]; exact zKn_at (m := 0) hkn (by decide) (by omega) ⟨by omega, by omega⟩ (by omega) zn)
                have hrx_21 := zLn_rg (K := kq) (A := aq) (T := tq) (N := wn.toInt.toNat) (h := wh.toInt) (hp_fc 0) (hp_fc 1) (hp_fc 2) 0 d.toInt sec.toInt
                rw [← hmx_21, show zPw 0 = 1 from by decide] at hrx_21
                exact W.iret (v := x_21) hx hb hr (fun t ht hW => ⟨⟨x_21, fl, rfl, ⟨(show zKn kq aq tq wn.toInt.toNat wh.toInt (fc 0).toInt (fc 1).toInt (fc 2).toInt wg.toInt fl from by exact hkn), (show (x_21 : Int32).toInt = (zLn kq aq tq wn.toInt.toNat wh.toInt (fc 0).toInt (fc 1).toInt (fc 2).toInt 0) d.toInt sec.toInt from by exact hmx_21), ⟨by omega, by omega⟩⟩, zRet ht hP hD [0, 1, 2, 3] (by decide) rfl⟩, hS.F ht⟩) hS.2.2 dX5_least_73
        · exfalso; have fc_4 : 24 < d.toInt := zf_nle c_4 rfl (by decide); omega
set_option maxHeartbeats 4000000 in
set_option maxRecDepth 100000 in
theorem c_F_W_leastBy_1 (l : Launch) (D : va_G) (cI cJ cZ cP cS : ClassId) (po : zPool) (w0 wk wl wc wp : Nat) (wn wh wg : Int32) (fq : Nat → Option Nat) (kq aq tq : Nat → Int32) (tw : Int32) (fl fc : Nat → Int32) (d sec : Int32) (u0 : Nat) (ki a_ ta : Int32) (hu_u0 : zPu po u0 ki a_ ta) (hr_u0 : zPr ki a_ ta) (hy2 : 0 ≤ wn.toInt) (hy3 : wn.toInt ≤ 8) (hy4 : 0 ≤ wh.toInt) (hy5 : wh.toInt ≤ 9) (hy6 : 0 ≤ wg.toInt) (hy7 : wg.toInt ≤ 60) (hjw : zJW po fq wn kq aq tq tw) (hkn : zKn kq aq tq wn.toInt.toNat wh.toInt (fc 0).toInt (fc 1).toInt (fc 2).toInt wg.toInt fl) (hgl : (∀ p : Nat, p < wn.toInt.toNat → (tq p).toInt ≤ wg.toInt)) (htw : tw.toInt = 1) (hy12 : 0 ≤ d.toInt) (hy13 : d.toInt ≤ 24) (hy14 : 0 ≤ sec.toInt) (hy15 : sec.toInt ≤ 300) (hy16 : ta.toInt ≤ sec.toInt) (hp_fc : zRg fc (0) 99) (hpz : Nat) : Met l yX5_leastBy wsX5_leastBy ({ frames := 3, cells := 0, slots := 0, locals := 71 }) (va_Pc [.ref w0, .ref u0, .int 1, .int d, .int sec] (zW D (zKT cI cJ cZ cP cS) po [(w0, .inr (5, [.ref wk, .ref wl, .ref wc, .ref wp, .int wn, .int wh, .int wg])), (wl, .inl (cI, 125, .inl fl)), (wc, .inl (cI, 3, .inl fc)), (wp, .inl (cP, 8, .inr (.inr (.inr (.inr fq)))))] hpz)) (va_Qi (fun (r : Int32) (fl2 : (Nat → Int32)) => (zKn kq aq tq wn.toInt.toNat wh.toInt (fc 0).toInt (fc 1).toInt (fc 2).toInt wg.toInt fl2) ∧ (r.toInt = zLb (zLn kq aq tq wn.toInt.toNat wh.toInt (fc 0).toInt (fc 1).toInt (fc 2).toInt 0) (fc 0).toInt (zPw 1) ki.toInt a_.toInt ta.toInt wh.toInt d.toInt sec.toInt) ∧ (0 ≤ r.toInt ∧ r.toInt ≤ 2376)) (zB D [(w0, .inr (5, [.ref wk, .ref wl, .ref wc, .ref wp, .int wn, .int wh, .int wg])), (wl, .inl (cI, 125, .inl fl)), (wc, .inl (cI, 3, .inl fc)), (wp, .inl (cP, 8, .inr (.inr (.inr (.inr fq)))))] hpz (fun (fl2 : Nat → Int32) => [(w0, .inr (5, [.ref wk, .ref wl, .ref wc, .ref wp, .int wn, .int wh, .int wg])), (wl, .inl (cI, 125, .inl fl2)), (wc, .inl (cI, 3, .inl fc)), (wp, .inl (cP, 8, .inr (.inr (.inr (.inr fq)))))])) (va_A [(w0, .inr (5, [.ref wk, .ref wl, .ref wc, .ref wp, .int wn, .int wh, .int wg])), (wl, .inl (cI, 125, .inl fl)), (wc, .inl (cI, 3, .inl fc)), (wp, .inl (cP, 8, .inr (.inr (.inr (.inr fq)))))] hpz)) 0 0 (va_A [(w0, .inr (5, [.ref wk, .ref wl, .ref wc, .ref wp, .int wn, .int wh, .int wg])), (wl, .inl (cI, 125, .inl fl)), (wc, .inl (cI, 3, .inl fc)), (wp, .inl (cP, 8, .inr (.inr (.inr (.inr fq)))))] hpz) := by
  refine Met.ofW (cc := cX5_leastBy) (maxL := 8) (ret := (some .int)) (by decide) rfl ?_
  intro p e s m args below meth c s₁ B hml hv
  obtain ⟨rfl, hsz, hP, hK, hD0, hN, hZ⟩ := hv
  have hx := B.exec
  have hb := B.bytes
  have hr := B.returns
  have hts := atoms_spec (ws := wsX5_leastBy) B.pre
  have hown : s.vm.findClass RX5 = some m.cls := findClass_of_methodNamed B.named
  have hlocks := B.notSynchronized
  subst hsz
  have hD := hD0.self (sz := s.heap.size)
  have hA := zA_of hD
  have hl := lv_entry ([.ref w0, .ref u0, .int 1, .int d, .int sec]) (n := 8) (Nat.le_of_ble_eq_true rfl)
  rw [lg_entry_eq]
  generalize (lg_sl ([.ref w0, .ref u0, .int 1, .int d, .int sec]) ++ List.replicate (8 - (lg_sl ([.ref w0, .ref u0, .int 1, .int d, .int sec])).length) Slot.unset).toArray = ls at hl ⊢
  replace hl : lv_has ls 8 [(0, .ref w0), (1, .ref u0), (2, .int 1), (3, .int d), (4, .int sec)] := hl
  refine zw_begin hP hD (fun H locs hP1 hS => ?_)
  clear hP
  have hP := hP1
  clear hP1
  obtain ⟨⟨p1_u0, p2_u0⟩, ⟨p3_u0, p4_u0⟩, p5_u0, p6_u0⟩ := id hr_u0
  refine lv_aload_n hx hb dX5_leastBy_0 rfl (lv_at hl 1 rfl) ?_
  refine lv_iload_n hx hb dX5_leastBy_1 rfl (lv_at hl 3 rfl) ?_
  refine lv_aload_n hx hb dX5_leastBy_2 rfl (lv_at hl 0 rfl) ?_
  refine va_get (D := D) (ci := 5) (v := .int wh) (C := RX5) (T := TX5) (N := 7) hx hb hts hi_X5_leastBy_5 hown hK hP 0 rfl rfl 5 (by decide) (hts (.fieldLink RX5 31 "TheLiningsInIt$Ways" "hurry" "I") (List.mem_of_getElem? (i := 1) rfl)) (fun _ h9 => h9) rfl dX5_leastBy_3 ?_
  refine zc_V (As := [.int d, .int wh]) (rest := []) ⟨hx, hb, hml, hown, hts⟩ (c_F_Pull_waysAt l D cI cJ cZ cP cS po (d) (wh) u0 (ki) (a_) (ta) hu_u0 ⟨by omega, by omega, by omega, by omega⟩ hy12 hy13 hy4 hy5) (cwV 2 hts gX5_leastBy_X2_waysAt rfl rfl rfl ⟨rfl, dh_X2_waysAt⟩ ⟨Nat.le_of_ble_eq_true rfl, Nat.le_of_ble_eq_true rfl⟩) hK hN (hZ.kept hS) hP zP_nil (va_recv (q := (RX2, TX2, 3)) hK (zPu_P (hZ.kept hS) hu_u0) (ci := 2) (q0 := 0) rfl rfl) rfl hl.1 rfl (Nat.le_of_ble_eq_true rfl) dX5_leastBy_6 ⟨Nat.le_of_ble_eq_true rfl, Nat.le_of_ble_eq_true rfl⟩ (fun r_1 hr_1 => ?_)
  obtain ⟨g_2, g_3, hsr_1_0⟩ := hr_1
  refine lv_istore (lv' := [(5, .int r_1), (0, .ref w0), (1, .ref u0), (2, .int 1), (3, .int d), (4, .int sec)]) hx hb dX5_leastBy_9 hl (by decide) rfl (fun ls hl => ?_)
  refine lv_iload hx hb dX5_leastBy_11 (lv_at hl 5 rfl) ?_
  refine lv_aload_n hx hb dX5_leastBy_13 rfl (lv_at hl 2 rfl) ?_
  refine va_get (D := D) (ci := 2) (v := .int ta) (C := RX2) (T := TX2) (N := 3) hx hb hts hi_X5_leastBy_2 hown hK (zPu_P (hZ.kept hS) hu_u0) 0 rfl rfl 2 (by decide) (hts (.fieldLink RX5 49 "TheLiningsInIt$Pull" "takes" "I") (List.mem_of_getElem? (i := 2) rfl)) (fun _ h9 => h9) rfl dX5_leastBy_14 ?_
  refine lv_isub hx hb dX5_leastBy_17 ?_
  refine lv_topi (fun x_4 ex_4 => ?_)
  have qx_4 : x_4.toInt = sec.toInt - ta.toInt := by rw [ex_4]; exact zf_sub rfl rfl (by omega) (by omega)
  refine lv_istore (lv' := [(6, .int x_4), (5, .int r_1), (0, .ref w0), (1, .ref u0), (2, .int 1), (3, .int d), (4, .int sec)]) hx hb dX5_leastBy_18 hl (by decide) rfl (fun ls hl => ?_)
  refine lv_aload_n hx hb dX5_leastBy_20 rfl (lv_at hl 3 rfl) ?_
  refine va_get (D := D) (ci := 2) (v := .int ki) (C := RX2) (T := TX2) (N := 3) hx hb hts hi_X5_leastBy_2 hown hK (zPu_P (hZ.kept hS) hu_u0) 0 rfl rfl 0 (by decide) (hts (.fieldLink RX5 46 "TheLiningsInIt$Pull" "kind" "I") (List.mem_of_getElem? (i := 3) rfl)) (fun _ h9 => h9) rfl dX5_leastBy_21 ?_
  refine lv_iconst (v := 5) hx hb dX5_leastBy_24 (by decide) ?_
  refine lv_icmp_ne (tgt := 43) hx hb dX5_leastBy_25 (by decide) (fun c_5 => ?_) (fun c_5 => ?_)
  · have fc_5 : ki.toInt ≠ 5 := zf_ne c_5 rfl (by decide)
    refine lv_iconst (v := 0) hx hb dX5_leastBy_43 (by decide) ?_
    refine lv_istore (lv' := [(7, .int 0), (6, .int x_4), (5, .int r_1), (0, .ref w0), (1, .ref u0), (2, .int 1), (3, .int d), (4, .int sec)]) hx hb dX5_leastBy_44 hl (by decide) rfl (fun ls hl => ?_)
    refine lv_iload hx hb dX5_leastBy_46 (lv_at hl 2 rfl) ?_
    refine lv_if_le (tgt := 73) hx hb dX5_leastBy_48 (by decide) (fun c_6 => ?_) (fun c_6 => ?_)
    · have fc_6 : r_1.toInt ≤ 0 := zf_le c_6 rfl (by decide)
      refine lv_iload hx hb dX5_leastBy_73 (lv_at hl 2 rfl) ?_
      refine lv_bipush (v := 12) hx hb dX5_leastBy_75 (by decide) ?_
      refine lv_icmp_ge (tgt := 109) hx hb dX5_leastBy_77 (by decide) (fun c_7 => ?_) (fun c_7 => ?_)
      · exfalso; have fc_7 : 12 ≤ r_1.toInt := zf_le c_7 (by decide) rfl; omega
      · have fc_7 : r_1.toInt < 12 := zf_nle c_7 (by decide) rfl
        refine lv_iload hx hb dX5_leastBy_80 (lv_at hl 0 rfl) ?_
        refine lv_bipush (v := 12) hx hb dX5_leastBy_82 (by decide) ?_
        refine lv_iload hx hb dX5_leastBy_84 (lv_at hl 2 rfl) ?_
        refine lv_isub hx hb dX5_leastBy_86 ?_
        refine lv_topi (fun x_8 ex_8 => ?_)
        have qx_8 : x_8.toInt = 12 - r_1.toInt := by rw [ex_8]; exact zf_sub (by decide) rfl (by omega) (by omega)
        refine lv_aload_n hx hb dX5_leastBy_87 rfl (lv_at hl 3 rfl) ?_
        refine lv_iload_n hx hb dX5_leastBy_88 rfl (lv_at hl 5 rfl) ?_
        refine lv_iconst (v := 1) hx hb dX5_leastBy_89 (by decide) ?_
        refine lv_isub hx hb dX5_leastBy_90 ?_
        refine lv_topi (fun y_9 ey_9 => ?_)
        obtain rfl : y_9 = 0 := ey_9.trans (by decide)
        refine lv_aload_n hx hb dX5_leastBy_91 rfl (lv_at hl 4 rfl) ?_
        refine lv_iload_n hx hb dX5_leastBy_92 rfl (lv_at hl 6 rfl) ?_
        refine lv_aload_n hx hb dX5_leastBy_93 rfl (lv_at hl 3 rfl) ?_
        refine va_get (D := D) (ci := 5) (v := .int wh) (C := RX5) (T := TX5) (N := 7) hx hb hts hi_X5_leastBy_5 hown hK hP 0 rfl rfl 5 (by decide) (hts (.fieldLink RX5 31 "TheLiningsInIt$Ways" "hurry" "I") (List.mem_of_getElem? (i := 1) rfl)) (fun _ h9 => h9) rfl dX5_leastBy_94 ?_
        refine zc_V (As := [.int d, .int wh]) (rest := [.int 0, .ref w0, .int x_8, .int 0]) ⟨hx, hb, hml, hown, hts⟩ (c_F_Pull_deeper l D cI cJ cZ cP cS po (d) (wh) u0 (ki) (a_) (ta) hu_u0 ⟨by omega, by omega, by omega, by omega⟩ hy12 hy13 hy4 hy5) (cwV 2 hts gX5_leastBy_X2_deeper rfl rfl rfl ⟨rfl, dh_X2_deeper⟩ ⟨Nat.le_of_ble_eq_true rfl, Nat.le_of_ble_eq_true rfl⟩) hK hN (hZ.kept hS) hP zP_nil (va_recv (q := (RX2, TX2, 3)) hK (zPu_P (hZ.kept hS) hu_u0) (ci := 2) (q0 := 0) rfl rfl) rfl hl.1 rfl (Nat.le_of_ble_eq_true rfl) dX5_leastBy_97 ⟨Nat.le_of_ble_eq_true rfl, Nat.le_of_ble_eq_true rfl⟩ (fun r_10 hr_10 => ?_)
        obtain ⟨g_11, g_12, hsr_10_0⟩ := hr_10
        refine lv_iload hx hb dX5_leastBy_100 (lv_at hl 1 rfl) ?_
        skip
        refine zw_V (As := [.int 0, .int r_10, .int x_4]) (rest := [.int x_8, .int 0]) (wr := []) ⟨hx, hb, hml, hown, hts⟩ (c_F_W_least_0 l D cI cJ cZ cP cS po w0 wk wl wc wp (wn) (wh) (wg) fq kq aq tq (tw) fl fc (r_10) (x_4) hy2 hy3 hy4 hy5 hy6 hy7 hjw (by first | assumption | omega) (by first | assumption | omega) (by first | assumption | omega | decide) (by omega) (by omega) (by omega) (by omega) hp_fc H.size) (cwV 3 hts gX5_leastBy_X5_least rfl rfl rfl ⟨rfl, dh_X5_least⟩ ⟨Nat.le_of_ble_eq_true rfl, Nat.le_of_ble_eq_true rfl⟩) hK hN (hZ.kept hS) hP hD hS hA [0, 1, 2, 3] [] rfl rfl (by decide) (by decide) (by decide) (va_recv (q := (RX5, TX5, 7)) hK hP (ci := 5) (q0 := 0) rfl rfl) rfl hl.1 rfl (Nat.le_of_ble_eq_true rfl) dX5_leastBy_102 ⟨Nat.le_of_ble_eq_true rfl, Nat.le_of_ble_eq_true rfl⟩ (fun r_13 u_14 H locs hr_13 hP hD hS => ?_)
        obtain ⟨q_15, rfl⟩ : ∃ z, z = u_14 := ⟨_, rfl⟩
        obtain ⟨hsr_13_0, hsr_13_1, hr_13⟩ := hr_13
        have h9R := zRe (ws' := [(w0, .inr (5, [.ref wk, .ref wl, .ref wc, .ref wp, .int wn, .int wh, .int wg])), (wl, .inl (cI, 125, .inl q_15)), (wc, .inl (cI, 3, .inl fc)), (wp, .inl (cP, 8, .inr (.inr (.inr (.inr fq)))))]) hP hD rfl
        clear hP hD
        obtain ⟨hP, hD⟩ := h9R
        obtain ⟨g_16, g_17⟩ := hr_13
        refine lv_imul hx hb dX5_leastBy_105 ?_
        refine lv_topi (fun x_18 ex_18 => ?_)
        obtain ⟨mx_18, nx_18, ox_18⟩ := zf_mulc (a := x_8) (b := r_13) (x := x_8.toInt) (y := r_13.toInt) (P := 99) rfl rfl ⟨by omega, by omega⟩ ⟨by omega, by omega⟩ (by decide)
        rw [← ex_18] at mx_18
        refine lv_iadd hx hb dX5_leastBy_106 ?_
        refine lv_topi (fun x_19 ex_19 => ?_)
        have qx_19 : x_19.toInt = 0 + x_18.toInt := by rw [ex_19]; exact zf_add (by decide) rfl (by omega) (by omega)
        refine lv_istore (lv' := [(7, .int x_19), (6, .int x_4), (5, .int r_1), (0, .ref w0), (1, .ref u0), (2, .int 1), (3, .int d), (4, .int sec)]) hx hb dX5_leastBy_107 hl (by decide) rfl (fun ls hl => ?_)
        refine lv_iload hx hb dX5_leastBy_109 (lv_at hl 0 rfl) ?_
        exact W.iret (v := x_19) hx hb hr (fun t ht hW => ⟨⟨x_19, q_15, rfl, ⟨(show zKn kq aq tq wn.toInt.toNat wh.toInt (fc 0).toInt (fc 1).toInt (fc 2).toInt wg.toInt q_15 from by first | exact hsr_13_0 | assumption), (show (x_19 : Int32).toInt = zLb (zLn kq aq tq wn.toInt.toNat wh.toInt (fc 0).toInt (fc 1).toInt (fc 2).toInt 0) (fc 0).toInt (zPw 1) ki.toInt a_.toInt ta.toInt wh.toInt d.toInt sec.toInt from by (have zw := hsr_1_0; have E1 : r_1.toInt * (zLn kq aq tq wn.toInt.toNat wh.toInt (fc 0).toInt (fc 1).toInt (fc 2).toInt 0) (zShl ki.toInt a_.toInt d.toInt) (sec.toInt - ta.toInt) = 0 := (by rw [show r_1.toInt = 0 from by omega, Int.zero_mul]); have E2 : (12 - r_1.toInt) * (zLn kq aq tq wn.toInt.toNat wh.toInt (fc 0).toInt (fc 1).toInt (fc 2).toInt 0) (zDpr ki.toInt a_.toInt wh.toInt d.toInt) (sec.toInt - ta.toInt) = x_18.toInt := (by rw [← hsr_10_0, show sec.toInt - ta.toInt = (x_4 : Int32).toInt from by omega, ← hsr_13_1, show 12 - r_1.toInt = x_8.toInt from by omega]; omega); unfold zLb zBy1; rw [← zw, E1, E2, show zPw 1 = 12 from by decide]; first | (rw [if_neg (by omega)]; omega) | (rw [if_pos (by omega)]; omega))), ⟨by omega, by omega⟩⟩, zRet ht hP hD [0, 1, 2, 3] (by decide) rfl⟩, hS.F ht⟩) hS.2.2 dX5_leastBy_111
    · have fc_6 : 0 < r_1.toInt := zf_nle c_6 rfl (by decide)
      refine lv_iload hx hb dX5_leastBy_51 (lv_at hl 0 rfl) ?_
      refine lv_iload hx hb dX5_leastBy_53 (lv_at hl 2 rfl) ?_
      refine lv_aload_n hx hb dX5_leastBy_55 rfl (lv_at hl 3 rfl) ?_
      refine lv_iload_n hx hb dX5_leastBy_56 rfl (lv_at hl 5 rfl) ?_
      refine lv_iconst (v := 1) hx hb dX5_leastBy_57 (by decide) ?_
      refine lv_isub hx hb dX5_leastBy_58 ?_
      refine lv_topi (fun y_20 ey_20 => ?_)
      obtain rfl : y_20 = 0 := ey_20.trans (by decide)
      refine lv_aload_n hx hb dX5_leastBy_59 rfl (lv_at hl 4 rfl) ?_
      refine lv_iload_n hx hb dX5_leastBy_60 rfl (lv_at hl 6 rfl) ?_
      refine zc_V (As := [.int d]) (rest := [.int 0, .ref w0, .int r_1, .int 0]) ⟨hx, hb, hml, hown, hts⟩ (c_F_Pull_shallower l D cI cJ cZ cP cS po (d) u0 (ki) (a_) (ta) hu_u0 ⟨by omega, by omega, by omega, by omega⟩ hy12 hy13) (cwV 1 hts gX5_leastBy_X2_shallower rfl rfl rfl ⟨rfl, dh_X2_shallower⟩ ⟨Nat.le_of_ble_eq_true rfl, Nat.le_of_ble_eq_true rfl⟩) hK hN (hZ.kept hS) hP zP_nil (va_recv (q := (RX2, TX2, 3)) hK (zPu_P (hZ.kept hS) hu_u0) (ci := 2) (q0 := 0) rfl rfl) rfl hl.1 rfl (Nat.le_of_ble_eq_true rfl) dX5_leastBy_61 ⟨Nat.le_of_ble_eq_true rfl, Nat.le_of_ble_eq_true rfl⟩ (fun r_21 hr_21 => ?_)
      obtain ⟨g_22, g_23, hsr_21_0⟩ := hr_21
      refine lv_iload hx hb dX5_leastBy_64 (lv_at hl 1 rfl) ?_
      skip
      refine zw_V (As := [.int 0, .int r_21, .int x_4]) (rest := [.int r_1, .int 0]) (wr := []) ⟨hx, hb, hml, hown, hts⟩ (c_F_W_least_0 l D cI cJ cZ cP cS po w0 wk wl wc wp (wn) (wh) (wg) fq kq aq tq (tw) fl fc (r_21) (x_4) hy2 hy3 hy4 hy5 hy6 hy7 hjw (by first | assumption | omega) (by first | assumption | omega) (by first | assumption | omega | decide) (by omega) (by omega) (by omega) (by omega) hp_fc H.size) (cwV 3 hts gX5_leastBy_X5_least rfl rfl rfl ⟨rfl, dh_X5_least⟩ ⟨Nat.le_of_ble_eq_true rfl, Nat.le_of_ble_eq_true rfl⟩) hK hN (hZ.kept hS) hP hD hS hA [0, 1, 2, 3] [] rfl rfl (by decide) (by decide) (by decide) (va_recv (q := (RX5, TX5, 7)) hK hP (ci := 5) (q0 := 0) rfl rfl) rfl hl.1 rfl (Nat.le_of_ble_eq_true rfl) dX5_leastBy_66 ⟨Nat.le_of_ble_eq_true rfl, Nat.le_of_ble_eq_true rfl⟩ (fun r_24 u_25 H locs hr_24 hP hD hS => ?_)
      obtain ⟨q_26, rfl⟩ : ∃ z, z = u_25 := ⟨_, rfl⟩
      obtain ⟨hsr_24_0, hsr_24_1, hr_24⟩ := hr_24
      have h9R := zRe (ws' := [(w0, .inr (5, [.ref wk, .ref wl, .ref wc, .ref wp, .int wn, .int wh, .int wg])), (wl, .inl (cI, 125, .inl q_26)), (wc, .inl (cI, 3, .inl fc)), (wp, .inl (cP, 8, .inr (.inr (.inr (.inr fq)))))]) hP hD rfl
      clear hP hD
      obtain ⟨hP, hD⟩ := h9R
      obtain ⟨g_27, g_28⟩ := hr_24
      refine lv_imul hx hb dX5_leastBy_69 ?_
      refine lv_topi (fun x_29 ex_29 => ?_)
      obtain ⟨mx_29, nx_29, ox_29⟩ := zf_mulc (a := r_1) (b := r_24) (x := r_1.toInt) (y := r_24.toInt) (P := 99) rfl rfl ⟨by omega, by omega⟩ ⟨by omega, by omega⟩ (by decide)
      rw [← ex_29] at mx_29
      refine lv_iadd hx hb dX5_leastBy_70 ?_
      refine lv_topi (fun x_30 ex_30 => ?_)
      have qx_30 : x_30.toInt = 0 + x_29.toInt := by rw [ex_30]; exact zf_add (by decide) rfl (by omega) (by omega)
      refine lv_istore (lv' := [(7, .int x_30), (6, .int x_4), (5, .int r_1), (0, .ref w0), (1, .ref u0), (2, .int 1), (3, .int d), (4, .int sec)]) hx hb dX5_leastBy_71 hl (by decide) rfl (fun ls hl => ?_)
      refine lv_iload hx hb dX5_leastBy_73 (lv_at hl 2 rfl) ?_
      refine lv_bipush (v := 12) hx hb dX5_leastBy_75 (by decide) ?_
      refine lv_icmp_ge (tgt := 109) hx hb dX5_leastBy_77 (by decide) (fun c_31 => ?_) (fun c_31 => ?_)
      · have fc_31 : 12 ≤ r_1.toInt := zf_le c_31 (by decide) rfl
        refine lv_iload hx hb dX5_leastBy_109 (lv_at hl 0 rfl) ?_
        exact W.iret (v := x_30) hx hb hr (fun t ht hW => ⟨⟨x_30, q_26, rfl, ⟨(show zKn kq aq tq wn.toInt.toNat wh.toInt (fc 0).toInt (fc 1).toInt (fc 2).toInt wg.toInt q_26 from by exact hsr_24_0), (show (x_30 : Int32).toInt = zLb (zLn kq aq tq wn.toInt.toNat wh.toInt (fc 0).toInt (fc 1).toInt (fc 2).toInt 0) (fc 0).toInt (zPw 1) ki.toInt a_.toInt ta.toInt wh.toInt d.toInt sec.toInt from by (have zw := hsr_1_0; have E1 : r_1.toInt * (zLn kq aq tq wn.toInt.toNat wh.toInt (fc 0).toInt (fc 1).toInt (fc 2).toInt 0) (zShl ki.toInt a_.toInt d.toInt) (sec.toInt - ta.toInt) = x_29.toInt := (by rw [← hsr_21_0, show sec.toInt - ta.toInt = (x_4 : Int32).toInt from by omega, ← hsr_24_1]; omega); have E2 : (12 - r_1.toInt) * (zLn kq aq tq wn.toInt.toNat wh.toInt (fc 0).toInt (fc 1).toInt (fc 2).toInt 0) (zDpr ki.toInt a_.toInt wh.toInt d.toInt) (sec.toInt - ta.toInt) = 0 := (by rw [show 12 - r_1.toInt = 0 from by omega, Int.zero_mul]); unfold zLb zBy1; rw [← zw, E1, E2, show zPw 1 = 12 from by decide]; first | (rw [if_neg (by omega)]; omega) | (rw [if_pos (by omega)]; omega))), ⟨by omega, by omega⟩⟩, zRet ht hP hD [0, 1, 2, 3] (by decide) rfl⟩, hS.F ht⟩) hS.2.2 dX5_leastBy_111
      · have fc_31 : r_1.toInt < 12 := zf_nle c_31 (by decide) rfl
        refine lv_iload hx hb dX5_leastBy_80 (lv_at hl 0 rfl) ?_
        refine lv_bipush (v := 12) hx hb dX5_leastBy_82 (by decide) ?_
        refine lv_iload hx hb dX5_leastBy_84 (lv_at hl 2 rfl) ?_
        refine lv_isub hx hb dX5_leastBy_86 ?_
        refine lv_topi (fun x_32 ex_32 => ?_)
        have qx_32 : x_32.toInt = 12 - r_1.toInt := by rw [ex_32]; exact zf_sub (by decide) rfl (by omega) (by omega)
        refine lv_aload_n hx hb dX5_leastBy_87 rfl (lv_at hl 3 rfl) ?_
        refine lv_iload_n hx hb dX5_leastBy_88 rfl (lv_at hl 5 rfl) ?_
        refine lv_iconst (v := 1) hx hb dX5_leastBy_89 (by decide) ?_
        refine lv_isub hx hb dX5_leastBy_90 ?_
        refine lv_topi (fun y_33 ey_33 => ?_)
        obtain rfl : y_33 = 0 := ey_33.trans (by decide)
        refine lv_aload_n hx hb dX5_leastBy_91 rfl (lv_at hl 4 rfl) ?_
        refine lv_iload_n hx hb dX5_leastBy_92 rfl (lv_at hl 6 rfl) ?_
        refine lv_aload_n hx hb dX5_leastBy_93 rfl (lv_at hl 3 rfl) ?_
        refine va_get (D := D) (ci := 5) (v := .int wh) (C := RX5) (T := TX5) (N := 7) hx hb hts hi_X5_leastBy_5 hown hK hP 0 rfl rfl 5 (by decide) (hts (.fieldLink RX5 31 "TheLiningsInIt$Ways" "hurry" "I") (List.mem_of_getElem? (i := 1) rfl)) (fun _ h9 => h9) rfl dX5_leastBy_94 ?_
        refine zc_V (As := [.int d, .int wh]) (rest := [.int 0, .ref w0, .int x_32, .int x_30]) ⟨hx, hb, hml, hown, hts⟩ (c_F_Pull_deeper l D cI cJ cZ cP cS po (d) (wh) u0 (ki) (a_) (ta) hu_u0 ⟨by omega, by omega, by omega, by omega⟩ hy12 hy13 hy4 hy5) (cwV 2 hts gX5_leastBy_X2_deeper rfl rfl rfl ⟨rfl, dh_X2_deeper⟩ ⟨Nat.le_of_ble_eq_true rfl, Nat.le_of_ble_eq_true rfl⟩) hK hN (hZ.kept hS) hP zP_nil (va_recv (q := (RX2, TX2, 3)) hK (zPu_P (hZ.kept hS) hu_u0) (ci := 2) (q0 := 0) rfl rfl) rfl hl.1 rfl (Nat.le_of_ble_eq_true rfl) dX5_leastBy_97 ⟨Nat.le_of_ble_eq_true rfl, Nat.le_of_ble_eq_true rfl⟩ (fun r_34 hr_34 => ?_)
        obtain ⟨g_35, g_36, hsr_34_0⟩ := hr_34
        refine lv_iload hx hb dX5_leastBy_100 (lv_at hl 1 rfl) ?_
        skip
        refine zw_V (As := [.int 0, .int r_34, .int x_4]) (rest := [.int x_32, .int x_30]) (wr := []) ⟨hx, hb, hml, hown, hts⟩ (c_F_W_least_0 l D cI cJ cZ cP cS po w0 wk wl wc wp (wn) (wh) (wg) fq kq aq tq (tw) q_26 fc (r_34) (x_4) hy2 hy3 hy4 hy5 hy6 hy7 hjw (by first | assumption | omega) (by first | assumption | omega) (by first | assumption | omega | decide) (by omega) (by omega) (by omega) (by omega) hp_fc H.size) (cwV 3 hts gX5_leastBy_X5_least rfl rfl rfl ⟨rfl, dh_X5_least⟩ ⟨Nat.le_of_ble_eq_true rfl, Nat.le_of_ble_eq_true rfl⟩) hK hN (hZ.kept hS) hP hD hS hA [0, 1, 2, 3] [] rfl rfl (by decide) (by decide) (by decide) (va_recv (q := (RX5, TX5, 7)) hK hP (ci := 5) (q0 := 0) rfl rfl) rfl hl.1 rfl (Nat.le_of_ble_eq_true rfl) dX5_leastBy_102 ⟨Nat.le_of_ble_eq_true rfl, Nat.le_of_ble_eq_true rfl⟩ (fun r_37 u_38 H locs hr_37 hP hD hS => ?_)
        obtain ⟨q_39, rfl⟩ : ∃ z, z = u_38 := ⟨_, rfl⟩
        obtain ⟨hsr_37_0, hsr_37_1, hr_37⟩ := hr_37
        have h9R := zRe (ws' := [(w0, .inr (5, [.ref wk, .ref wl, .ref wc, .ref wp, .int wn, .int wh, .int wg])), (wl, .inl (cI, 125, .inl q_39)), (wc, .inl (cI, 3, .inl fc)), (wp, .inl (cP, 8, .inr (.inr (.inr (.inr fq)))))]) hP hD rfl
        clear hP hD
        obtain ⟨hP, hD⟩ := h9R
        obtain ⟨g_40, g_41⟩ := hr_37
        refine lv_imul hx hb dX5_leastBy_105 ?_
        refine lv_topi (fun x_42 ex_42 => ?_)
        obtain ⟨mx_42, nx_42, ox_42⟩ := zf_mulc (a := x_32) (b := r_37) (x := x_32.toInt) (y := r_37.toInt) (P := 99) rfl rfl ⟨by omega, by omega⟩ ⟨by omega, by omega⟩ (by decide)
        rw [← ex_42] at mx_42
        refine lv_iadd hx hb dX5_leastBy_106 ?_
        refine lv_topi (fun x_43 ex_43 => ?_)
        have qx_43 : x_43.toInt = x_30.toInt + x_42.toInt := by rw [ex_43]; exact zf_add rfl rfl (by omega) (by omega)
        refine lv_istore (lv' := [(7, .int x_43), (6, .int x_4), (5, .int r_1), (0, .ref w0), (1, .ref u0), (2, .int 1), (3, .int d), (4, .int sec)]) hx hb dX5_leastBy_107 hl (by decide) rfl (fun ls hl => ?_)
        refine lv_iload hx hb dX5_leastBy_109 (lv_at hl 0 rfl) ?_
        have hmx9 := zMix (w := r_1.toInt) (x := r_24.toInt) (y := r_37.toInt) (P := 99) ⟨by omega, by omega⟩ ⟨by omega, by omega⟩ ⟨by omega, by omega⟩
        rw [show 12 - r_1.toInt = x_32.toInt from by omega] at hmx9
        exact W.iret (v := x_43) hx hb hr (fun t ht hW => ⟨⟨x_43, q_39, rfl, ⟨(show zKn kq aq tq wn.toInt.toNat wh.toInt (fc 0).toInt (fc 1).toInt (fc 2).toInt wg.toInt q_39 from by first | exact hsr_37_0 | assumption), (show (x_43 : Int32).toInt = zLb (zLn kq aq tq wn.toInt.toNat wh.toInt (fc 0).toInt (fc 1).toInt (fc 2).toInt 0) (fc 0).toInt (zPw 1) ki.toInt a_.toInt ta.toInt wh.toInt d.toInt sec.toInt from by (have zw := hsr_1_0; have E1 : r_1.toInt * (zLn kq aq tq wn.toInt.toNat wh.toInt (fc 0).toInt (fc 1).toInt (fc 2).toInt 0) (zShl ki.toInt a_.toInt d.toInt) (sec.toInt - ta.toInt) = x_29.toInt := (by rw [← hsr_21_0, show sec.toInt - ta.toInt = (x_4 : Int32).toInt from by omega, ← hsr_24_1]; omega); have E2 : (12 - r_1.toInt) * (zLn kq aq tq wn.toInt.toNat wh.toInt (fc 0).toInt (fc 1).toInt (fc 2).toInt 0) (zDpr ki.toInt a_.toInt wh.toInt d.toInt) (sec.toInt - ta.toInt) = x_42.toInt := (by rw [← hsr_34_0, show sec.toInt - ta.toInt = (x_4 : Int32).toInt from by omega, ← hsr_37_1, show 12 - r_1.toInt = x_32.toInt from by omega]; omega); unfold zLb zBy1; rw [← zw, E1, E2, show zPw 1 = 12 from by decide]; first | (rw [if_neg (by omega)]; omega) | (rw [if_pos (by omega)]; omega))), ⟨by omega, by omega⟩⟩, zRet ht hP hD [0, 1, 2, 3] (by decide) rfl⟩, hS.F ht⟩) hS.2.2 dX5_leastBy_111
  · have fc_5 : ki.toInt = 5 := zf_eq c_5 rfl (by decide)
    obtain ⟨t_44, zt_44, yt_44⟩ := hZ.1.1
    refine va_gets hx hb zt_44 hS hown (hts (.fieldLink RX5 79 "TheLiningsInIt$Ways" "POWERS" "[I") (List.mem_of_getElem? (i := 4) rfl)) (fun _ h9 => h9) dX5_leastBy_28 ?_
    refine lv_iload_n hx hb dX5_leastBy_31 rfl (lv_at hl 4 rfl) ?_
    refine va_ti hx hb yt_44 hS (zf_in (by decide) (by decide)) (v := .int 12) (by decide) dX5_leastBy_32 ?_
    refine lv_aload_n hx hb dX5_leastBy_33 rfl (lv_at hl 2 rfl) ?_
    refine va_get (D := D) (ci := 5) (v := .ref wc) (C := RX5) (T := TX5) (N := 7) hx hb hts hi_X5_leastBy_5 hown hK hP 0 rfl rfl 2 (by decide) (hts (.fieldLink RX5 18 "TheLiningsInIt$Ways" "costs" "[I") (List.mem_of_getElem? (i := 5) rfl)) (fun _ h9 => h9) rfl dX5_leastBy_34 ?_
    refine lv_iconst (v := 0) hx hb dX5_leastBy_37 (by decide) ?_
    refine va_iald hx hb hK hP 2 0 rfl rfl (zf_in (by decide) (by decide)) dX5_leastBy_38 ?_
    refine lv_topi (fun x_45 ex_45 => ?_)
    have bx_45 : 0 ≤ x_45.toInt ∧ x_45.toInt ≤ 99 := by rw [ex_45]; exact hp_fc _
    refine lv_imul hx hb dX5_leastBy_39 ?_
    refine lv_topi (fun x_46 ex_46 => ?_)
    have qx_46 : x_46.toInt = 12 * x_45.toInt := by rw [ex_46]; exact zf_mul (by decide) rfl (by omega) (by omega)
    refine lv_goto (tgt := 44) hx hb dX5_leastBy_40 (by decide) ?_
    refine lv_istore (lv' := [(7, .int x_46), (6, .int x_4), (5, .int r_1), (0, .ref w0), (1, .ref u0), (2, .int 1), (3, .int d), (4, .int sec)]) hx hb dX5_leastBy_44 hl (by decide) rfl (fun ls hl => ?_)
    refine lv_iload hx hb dX5_leastBy_46 (lv_at hl 2 rfl) ?_
    refine lv_if_le (tgt := 73) hx hb dX5_leastBy_48 (by decide) (fun c_47 => ?_) (fun c_47 => ?_)
    · have fc_47 : r_1.toInt ≤ 0 := zf_le c_47 rfl (by decide)
      refine lv_iload hx hb dX5_leastBy_73 (lv_at hl 2 rfl) ?_
      refine lv_bipush (v := 12) hx hb dX5_leastBy_75 (by decide) ?_
      refine lv_icmp_ge (tgt := 109) hx hb dX5_leastBy_77 (by decide) (fun c_48 => ?_) (fun c_48 => ?_)
      · exfalso; have fc_48 : 12 ≤ r_1.toInt := zf_le c_48 (by decide) rfl; omega
      · have fc_48 : r_1.toInt < 12 := zf_nle c_48 (by decide) rfl
        refine lv_iload hx hb dX5_leastBy_80 (lv_at hl 0 rfl) ?_
        refine lv_bipush (v := 12) hx hb dX5_leastBy_82 (by decide) ?_
        refine lv_iload hx hb dX5_leastBy_84 (lv_at hl 2 rfl) ?_
        refine lv_isub hx hb dX5_leastBy_86 ?_
        refine lv_topi (fun x_49 ex_49 => ?_)
        have qx_49 : x_49.toInt = 12 - r_1.toInt := by rw [ex_49]; exact zf_sub (by decide) rfl (by omega) (by omega)
        refine lv_aload_n hx hb dX5_leastBy_87 rfl (lv_at hl 3 rfl) ?_
        refine lv_iload_n hx hb dX5_leastBy_88 rfl (lv_at hl 5 rfl) ?_
        refine lv_iconst (v := 1) hx hb dX5_leastBy_89 (by decide) ?_
        refine lv_isub hx hb dX5_leastBy_90 ?_
        refine lv_topi (fun y_50 ey_50 => ?_)
        obtain rfl : y_50 = 0 := ey_50.trans (by decide)
        refine lv_aload_n hx hb dX5_leastBy_91 rfl (lv_at hl 4 rfl) ?_
        refine lv_iload_n hx hb dX5_leastBy_92 rfl (lv_at hl 6 rfl) ?_
        refine lv_aload_n hx hb dX5_leastBy_93 rfl (lv_at hl 3 rfl) ?_
        refine va_get (D := D) (ci := 5) (v := .int wh) (C := RX5) (T := TX5) (N := 7) hx hb hts hi_X5_leastBy_5 hown hK hP 0 rfl rfl 5 (by decide) (hts (.fieldLink RX5 31 "TheLiningsInIt$Ways" "hurry" "I") (List.mem_of_getElem? (i := 1) rfl)) (fun _ h9 => h9) rfl dX5_leastBy_94 ?_
        refine zc_V (As := [.int d, .int wh]) (rest := [.int 0, .ref w0, .int x_49, .int x_46]) ⟨hx, hb, hml, hown, hts⟩ (c_F_Pull_deeper l D cI cJ cZ cP cS po (d) (wh) u0 (ki) (a_) (ta) hu_u0 ⟨by omega, by omega, by omega, by omega⟩ hy12 hy13 hy4 hy5) (cwV 2 hts gX5_leastBy_X2_deeper rfl rfl rfl ⟨rfl, dh_X2_deeper⟩ ⟨Nat.le_of_ble_eq_true rfl, Nat.le_of_ble_eq_true rfl⟩) hK hN (hZ.kept hS) hP zP_nil (va_recv (q := (RX2, TX2, 3)) hK (zPu_P (hZ.kept hS) hu_u0) (ci := 2) (q0 := 0) rfl rfl) rfl hl.1 rfl (Nat.le_of_ble_eq_true rfl) dX5_leastBy_97 ⟨Nat.le_of_ble_eq_true rfl, Nat.le_of_ble_eq_true rfl⟩ (fun r_51 hr_51 => ?_)
        obtain ⟨g_52, g_53, hsr_51_0⟩ := hr_51
        refine lv_iload hx hb dX5_leastBy_100 (lv_at hl 1 rfl) ?_
        skip
        refine zw_V (As := [.int 0, .int r_51, .int x_4]) (rest := [.int x_49, .int x_46]) (wr := []) ⟨hx, hb, hml, hown, hts⟩ (c_F_W_least_0 l D cI cJ cZ cP cS po w0 wk wl wc wp (wn) (wh) (wg) fq kq aq tq (tw) fl fc (r_51) (x_4) hy2 hy3 hy4 hy5 hy6 hy7 hjw (by first | assumption | omega) (by first | assumption | omega) (by first | assumption | omega | decide) (by omega) (by omega) (by omega) (by omega) hp_fc H.size) (cwV 3 hts gX5_leastBy_X5_least rfl rfl rfl ⟨rfl, dh_X5_least⟩ ⟨Nat.le_of_ble_eq_true rfl, Nat.le_of_ble_eq_true rfl⟩) hK hN (hZ.kept hS) hP hD hS hA [0, 1, 2, 3] [] rfl rfl (by decide) (by decide) (by decide) (va_recv (q := (RX5, TX5, 7)) hK hP (ci := 5) (q0 := 0) rfl rfl) rfl hl.1 rfl (Nat.le_of_ble_eq_true rfl) dX5_leastBy_102 ⟨Nat.le_of_ble_eq_true rfl, Nat.le_of_ble_eq_true rfl⟩ (fun r_54 u_55 H locs hr_54 hP hD hS => ?_)
        obtain ⟨q_56, rfl⟩ : ∃ z, z = u_55 := ⟨_, rfl⟩
        obtain ⟨hsr_54_0, hsr_54_1, hr_54⟩ := hr_54
        have h9R := zRe (ws' := [(w0, .inr (5, [.ref wk, .ref wl, .ref wc, .ref wp, .int wn, .int wh, .int wg])), (wl, .inl (cI, 125, .inl q_56)), (wc, .inl (cI, 3, .inl fc)), (wp, .inl (cP, 8, .inr (.inr (.inr (.inr fq)))))]) hP hD rfl
        clear hP hD
        obtain ⟨hP, hD⟩ := h9R
        obtain ⟨g_57, g_58⟩ := hr_54
        refine lv_imul hx hb dX5_leastBy_105 ?_
        refine lv_topi (fun x_59 ex_59 => ?_)
        obtain ⟨mx_59, nx_59, ox_59⟩ := zf_mulc (a := x_49) (b := r_54) (x := x_49.toInt) (y := r_54.toInt) (P := 99) rfl rfl ⟨by omega, by omega⟩ ⟨by omega, by omega⟩ (by decide)
        rw [← ex_59] at mx_59
        refine lv_iadd hx hb dX5_leastBy_106 ?_
        refine lv_topi (fun x_60 ex_60 => ?_)
        have qx_60 : x_60.toInt = x_46.toInt + x_59.toInt := by rw [ex_60]; exact zf_add rfl rfl (by omega) (by omega)
        refine lv_istore (lv' := [(7, .int x_60), (6, .int x_4), (5, .int r_1), (0, .ref w0), (1, .ref u0), (2, .int 1), (3, .int d), (4, .int sec)]) hx hb dX5_leastBy_107 hl (by decide) rfl (fun ls hl => ?_)
        refine lv_iload hx hb dX5_leastBy_109 (lv_at hl 0 rfl) ?_
        exact W.iret (v := x_60) hx hb hr (fun t ht hW => ⟨⟨x_60, q_56, rfl, ⟨(show zKn kq aq tq wn.toInt.toNat wh.toInt (fc 0).toInt (fc 1).toInt (fc 2).toInt wg.toInt q_56 from by first | exact hsr_54_0 | assumption), (show (x_60 : Int32).toInt = zLb (zLn kq aq tq wn.toInt.toNat wh.toInt (fc 0).toInt (fc 1).toInt (fc 2).toInt 0) (fc 0).toInt (zPw 1) ki.toInt a_.toInt ta.toInt wh.toInt d.toInt sec.toInt from by (have nx_45 : (fc 0).toInt = x_45.toInt := (by rw [ex_45, show (0 : Int32).toNatClampNeg = 0 from by decide]); have zw := hsr_1_0; have E1 : r_1.toInt * (zLn kq aq tq wn.toInt.toNat wh.toInt (fc 0).toInt (fc 1).toInt (fc 2).toInt 0) (zShl ki.toInt a_.toInt d.toInt) (sec.toInt - ta.toInt) = 0 := (by rw [show r_1.toInt = 0 from by omega, Int.zero_mul]); have E2 : (12 - r_1.toInt) * (zLn kq aq tq wn.toInt.toNat wh.toInt (fc 0).toInt (fc 1).toInt (fc 2).toInt 0) (zDpr ki.toInt a_.toInt wh.toInt d.toInt) (sec.toInt - ta.toInt) = x_59.toInt := (by rw [← hsr_51_0, show sec.toInt - ta.toInt = (x_4 : Int32).toInt from by omega, ← hsr_54_1, show 12 - r_1.toInt = x_49.toInt from by omega]; omega); unfold zLb zBy1; rw [← zw, E1, E2, show zPw 1 = 12 from by decide]; first | (rw [if_pos (by omega)]; omega) | (rw [if_neg (by omega)]; omega))), ⟨by omega, by omega⟩⟩, zRet ht hP hD [0, 1, 2, 3] (by decide) rfl⟩, hS.F ht⟩) hS.2.2 dX5_leastBy_111
    · have fc_47 : 0 < r_1.toInt := zf_nle c_47 rfl (by decide)
      refine lv_iload hx hb dX5_leastBy_51 (lv_at hl 0 rfl) ?_
      refine lv_iload hx hb dX5_leastBy_53 (lv_at hl 2 rfl) ?_
      refine lv_aload_n hx hb dX5_leastBy_55 rfl (lv_at hl 3 rfl) ?_
      refine lv_iload_n hx hb dX5_leastBy_56 rfl (lv_at hl 5 rfl) ?_
      refine lv_iconst (v := 1) hx hb dX5_leastBy_57 (by decide) ?_
      refine lv_isub hx hb dX5_leastBy_58 ?_
      refine lv_topi (fun y_61 ey_61 => ?_)
      obtain rfl : y_61 = 0 := ey_61.trans (by decide)
      refine lv_aload_n hx hb dX5_leastBy_59 rfl (lv_at hl 4 rfl) ?_
      refine lv_iload_n hx hb dX5_leastBy_60 rfl (lv_at hl 6 rfl) ?_
      refine zc_V (As := [.int d]) (rest := [.int 0, .ref w0, .int r_1, .int x_46]) ⟨hx, hb, hml, hown, hts⟩ (c_F_Pull_shallower l D cI cJ cZ cP cS po (d) u0 (ki) (a_) (ta) hu_u0 ⟨by omega, by omega, by omega, by omega⟩ hy12 hy13) (cwV 1 hts gX5_leastBy_X2_shallower rfl rfl rfl ⟨rfl, dh_X2_shallower⟩ ⟨Nat.le_of_ble_eq_true rfl, Nat.le_of_ble_eq_true rfl⟩) hK hN (hZ.kept hS) hP zP_nil (va_recv (q := (RX2, TX2, 3)) hK (zPu_P (hZ.kept hS) hu_u0) (ci := 2) (q0 := 0) rfl rfl) rfl hl.1 rfl (Nat.le_of_ble_eq_true rfl) dX5_leastBy_61 ⟨Nat.le_of_ble_eq_true rfl, Nat.le_of_ble_eq_true rfl⟩ (fun r_62 hr_62 => ?_)
      obtain ⟨g_63, g_64, hsr_62_0⟩ := hr_62
      refine lv_iload hx hb dX5_leastBy_64 (lv_at hl 1 rfl) ?_
      skip
      refine zw_V (As := [.int 0, .int r_62, .int x_4]) (rest := [.int r_1, .int x_46]) (wr := []) ⟨hx, hb, hml, hown, hts⟩ (c_F_W_least_0 l D cI cJ cZ cP cS po w0 wk wl wc wp (wn) (wh) (wg) fq kq aq tq (tw) fl fc (r_62) (x_4) hy2 hy3 hy4 hy5 hy6 hy7 hjw (by first | assumption | omega) (by first | assumption | omega) (by first | assumption | omega | decide) (by omega) (by omega) (by omega) (by omega) hp_fc H.size) (cwV 3 hts gX5_leastBy_X5_least rfl rfl rfl ⟨rfl, dh_X5_least⟩ ⟨Nat.le_of_ble_eq_true rfl, Nat.le_of_ble_eq_true rfl⟩) hK hN (hZ.kept hS) hP hD hS hA [0, 1, 2, 3] [] rfl rfl (by decide) (by decide) (by decide) (va_recv (q := (RX5, TX5, 7)) hK hP (ci := 5) (q0 := 0) rfl rfl) rfl hl.1 rfl (Nat.le_of_ble_eq_true rfl) dX5_leastBy_66 ⟨Nat.le_of_ble_eq_true rfl, Nat.le_of_ble_eq_true rfl⟩ (fun r_65 u_66 H locs hr_65 hP hD hS => ?_)
      obtain ⟨q_67, rfl⟩ : ∃ z, z = u_66 := ⟨_, rfl⟩
      obtain ⟨hsr_65_0, hsr_65_1, hr_65⟩ := hr_65
      have h9R := zRe (ws' := [(w0, .inr (5, [.ref wk, .ref wl, .ref wc, .ref wp, .int wn, .int wh, .int wg])), (wl, .inl (cI, 125, .inl q_67)), (wc, .inl (cI, 3, .inl fc)), (wp, .inl (cP, 8, .inr (.inr (.inr (.inr fq)))))]) hP hD rfl
      clear hP hD
      obtain ⟨hP, hD⟩ := h9R
      obtain ⟨g_68, g_69⟩ := hr_65
      refine lv_imul hx hb dX5_leastBy_69 ?_
      refine lv_topi (fun x_70 ex_70 => ?_)
      obtain ⟨mx_70, nx_70, ox_70⟩ := zf_mulc (a := r_1) (b := r_65) (x := r_1.toInt) (y := r_65.toInt) (P := 99) rfl rfl ⟨by omega, by omega⟩ ⟨by omega, by omega⟩ (by decide)
      rw [← ex_70] at mx_70
      refine lv_iadd hx hb dX5_leastBy_70 ?_
      refine lv_topi (fun x_71 ex_71 => ?_)
      have qx_71 : x_71.toInt = x_46.toInt + x_70.toInt := by rw [ex_71]; exact zf_add rfl rfl (by omega) (by omega)
      refine lv_istore (lv' := [(7, .int x_71), (6, .int x_4), (5, .int r_1), (0, .ref w0), (1, .ref u0), (2, .int 1), (3, .int d), (4, .int sec)]) hx hb dX5_leastBy_71 hl (by decide) rfl (fun ls hl => ?_)
      refine lv_iload hx hb dX5_leastBy_73 (lv_at hl 2 rfl) ?_
      refine lv_bipush (v := 12) hx hb dX5_leastBy_75 (by decide) ?_
      refine lv_icmp_ge (tgt := 109) hx hb dX5_leastBy_77 (by decide) (fun c_72 => ?_) (fun c_72 => ?_)
      · have fc_72 : 12 ≤ r_1.toInt := zf_le c_72 (by decide) rfl
        refine lv_iload hx hb dX5_leastBy_109 (lv_at hl 0 rfl) ?_
        exact W.iret (v := x_71) hx hb hr (fun t ht hW => ⟨⟨x_71, q_67, rfl, ⟨(show zKn kq aq tq wn.toInt.toNat wh.toInt (fc 0).toInt (fc 1).toInt (fc 2).toInt wg.toInt q_67 from by exact hsr_65_0), (show (x_71 : Int32).toInt = zLb (zLn kq aq tq wn.toInt.toNat wh.toInt (fc 0).toInt (fc 1).toInt (fc 2).toInt 0) (fc 0).toInt (zPw 1) ki.toInt a_.toInt ta.toInt wh.toInt d.toInt sec.toInt from by (have nx_45 : (fc 0).toInt = x_45.toInt := (by rw [ex_45, show (0 : Int32).toNatClampNeg = 0 from by decide]); have zw := hsr_1_0; have E1 : r_1.toInt * (zLn kq aq tq wn.toInt.toNat wh.toInt (fc 0).toInt (fc 1).toInt (fc 2).toInt 0) (zShl ki.toInt a_.toInt d.toInt) (sec.toInt - ta.toInt) = x_70.toInt := (by rw [← hsr_62_0, show sec.toInt - ta.toInt = (x_4 : Int32).toInt from by omega, ← hsr_65_1]; omega); have E2 : (12 - r_1.toInt) * (zLn kq aq tq wn.toInt.toNat wh.toInt (fc 0).toInt (fc 1).toInt (fc 2).toInt 0) (zDpr ki.toInt a_.toInt wh.toInt d.toInt) (sec.toInt - ta.toInt) = 0 := (by rw [show 12 - r_1.toInt = 0 from by omega, Int.zero_mul]); unfold zLb zBy1; rw [← zw, E1, E2, show zPw 1 = 12 from by decide]; first | (rw [if_pos (by omega)]; omega) | (rw [if_neg (by omega)]; omega))), ⟨by omega, by omega⟩⟩, zRet ht hP hD [0, 1, 2, 3] (by decide) rfl⟩, hS.F ht⟩) hS.2.2 dX5_leastBy_111
      · have fc_72 : r_1.toInt < 12 := zf_nle c_72 (by decide) rfl
        refine lv_iload hx hb dX5_leastBy_80 (lv_at hl 0 rfl) ?_
        refine lv_bipush (v := 12) hx hb dX5_leastBy_82 (by decide) ?_
        refine lv_iload hx hb dX5_leastBy_84 (lv_at hl 2 rfl) ?_
        refine lv_isub hx hb dX5_leastBy_86 ?_
        refine lv_topi (fun x_73 ex_73 => ?_)
        have qx_73 : x_73.toInt = 12 - r_1.toInt := by rw [ex_73]; exact zf_sub (by decide) rfl (by omega) (by omega)
        refine lv_aload_n hx hb dX5_leastBy_87 rfl (lv_at hl 3 rfl) ?_
        refine lv_iload_n hx hb dX5_leastBy_88 rfl (lv_at hl 5 rfl) ?_
        refine lv_iconst (v := 1) hx hb dX5_leastBy_89 (by decide) ?_
        refine lv_isub hx hb dX5_leastBy_90 ?_
        refine lv_topi (fun y_74 ey_74 => ?_)
        obtain rfl : y_74 = 0 := ey_74.trans (by decide)
        refine lv_aload_n hx hb dX5_leastBy_91 rfl (lv_at hl 4 rfl) ?_
        refine lv_iload_n hx hb dX5_leastBy_92 rfl (lv_at hl 6 rfl) ?_
        refine lv_aload_n hx hb dX5_leastBy_93 rfl (lv_at hl 3 rfl) ?_
        refine va_get (D := D) (ci := 5) (v := .int wh) (C := RX5) (T := TX5) (N := 7) hx hb hts hi_X5_leastBy_5 hown hK hP 0 rfl rfl 5 (by decide) (hts (.fieldLink RX5 31 "TheLiningsInIt$Ways" "hurry" "I") (List.mem_of_getElem? (i := 1) rfl)) (fun _ h9 => h9) rfl dX5_leastBy_94 ?_
        refine zc_V (As := [.int d, .int wh]) (rest := [.int 0, .ref w0, .int x_73, .int x_71]) ⟨hx, hb, hml, hown, hts⟩ (c_F_Pull_deeper l D cI cJ cZ cP cS po (d) (wh) u0 (ki) (a_) (ta) hu_u0 ⟨by omega, by omega, by omega, by omega⟩ hy12 hy13 hy4 hy5) (cwV 2 hts gX5_leastBy_X2_deeper rfl rfl rfl ⟨rfl, dh_X2_deeper⟩ ⟨Nat.le_of_ble_eq_true rfl, Nat.le_of_ble_eq_true rfl⟩) hK hN (hZ.kept hS) hP zP_nil (va_recv (q := (RX2, TX2, 3)) hK (zPu_P (hZ.kept hS) hu_u0) (ci := 2) (q0 := 0) rfl rfl) rfl hl.1 rfl (Nat.le_of_ble_eq_true rfl) dX5_leastBy_97 ⟨Nat.le_of_ble_eq_true rfl, Nat.le_of_ble_eq_true rfl⟩ (fun r_75 hr_75 => ?_)
        obtain ⟨g_76, g_77, hsr_75_0⟩ := hr_75
        refine lv_iload hx hb dX5_leastBy_100 (lv_at hl 1 rfl) ?_
        skip
        refine zw_V (As := [.int 0, .int r_75, .int x_4]) (rest := [.int x_73, .int x_71]) (wr := []) ⟨hx, hb, hml, hown, hts⟩ (c_F_W_least_0 l D cI cJ cZ cP cS po w0 wk wl wc wp (wn) (wh) (wg) fq kq aq tq (tw) q_67 fc (r_75) (x_4) hy2 hy3 hy4 hy5 hy6 hy7 hjw (by first | assumption | omega) (by first | assumption | omega) (by first | assumption | omega | decide) (by omega) (by omega) (by omega) (by omega) hp_fc H.size) (cwV 3 hts gX5_leastBy_X5_least rfl rfl rfl ⟨rfl, dh_X5_least⟩ ⟨Nat.le_of_ble_eq_true rfl, Nat.le_of_ble_eq_true rfl⟩) hK hN (hZ.kept hS) hP hD hS hA [0, 1, 2, 3] [] rfl rfl (by decide) (by decide) (by decide) (va_recv (q := (RX5, TX5, 7)) hK hP (ci := 5) (q0 := 0) rfl rfl) rfl hl.1 rfl (Nat.le_of_ble_eq_true rfl) dX5_leastBy_102 ⟨Nat.le_of_ble_eq_true rfl, Nat.le_of_ble_eq_true rfl⟩ (fun r_78 u_79 H locs hr_78 hP hD hS => ?_)
        obtain ⟨q_80, rfl⟩ : ∃ z, z = u_79 := ⟨_, rfl⟩
        obtain ⟨hsr_78_0, hsr_78_1, hr_78⟩ := hr_78
        have h9R := zRe (ws' := [(w0, .inr (5, [.ref wk, .ref wl, .ref wc, .ref wp, .int wn, .int wh, .int wg])), (wl, .inl (cI, 125, .inl q_80)), (wc, .inl (cI, 3, .inl fc)), (wp, .inl (cP, 8, .inr (.inr (.inr (.inr fq)))))]) hP hD rfl
        clear hP hD
        obtain ⟨hP, hD⟩ := h9R
        obtain ⟨g_81, g_82⟩ := hr_78
        refine lv_imul hx hb dX5_leastBy_105 ?_
        refine lv_topi (fun x_83 ex_83 => ?_)
        obtain ⟨mx_83, nx_83, ox_83⟩ := zf_mulc (a := x_73) (b := r_78) (x := x_73.toInt) (y := r_78.toInt) (P := 99) rfl rfl ⟨by omega, by omega⟩ ⟨by omega, by omega⟩ (by decide)
        rw [← ex_83] at mx_83
        refine lv_iadd hx hb dX5_leastBy_106 ?_
        refine lv_topi (fun x_84 ex_84 => ?_)
        have qx_84 : x_84.toInt = x_71.toInt + x_83.toInt := by rw [ex_84]; exact zf_add rfl rfl (by omega) (by omega)
        refine lv_istore (lv' := [(7, .int x_84), (6, .int x_4), (5, .int r_1), (0, .ref w0), (1, .ref u0), (2, .int 1), (3, .int d), (4, .int sec)]) hx hb dX5_leastBy_107 hl (by decide) rfl (fun ls hl => ?_)
        refine lv_iload hx hb dX5_leastBy_109 (lv_at hl 0 rfl) ?_
        have hmx9 := zMix (w := r_1.toInt) (x := r_65.toInt) (y := r_78.toInt) (P := 99) ⟨by omega, by omega⟩ ⟨by omega, by omega⟩ ⟨by omega, by omega⟩
        rw [show 12 - r_1.toInt = x_73.toInt from by omega] at hmx9
        exact W.iret (v := x_84) hx hb hr (fun t ht hW => ⟨⟨x_84, q_80, rfl, ⟨(show zKn kq aq tq wn.toInt.toNat wh.toInt (fc 0).toInt (fc 1).toInt (fc 2).toInt wg.toInt q_80 from by first | exact hsr_78_0 | assumption), (show (x_84 : Int32).toInt = zLb (zLn kq aq tq wn.toInt.toNat wh.toInt (fc 0).toInt (fc 1).toInt (fc 2).toInt 0) (fc 0).toInt (zPw 1) ki.toInt a_.toInt ta.toInt wh.toInt d.toInt sec.toInt from by (have nx_45 : (fc 0).toInt = x_45.toInt := (by rw [ex_45, show (0 : Int32).toNatClampNeg = 0 from by decide]); have zw := hsr_1_0; have E1 : r_1.toInt * (zLn kq aq tq wn.toInt.toNat wh.toInt (fc 0).toInt (fc 1).toInt (fc 2).toInt 0) (zShl ki.toInt a_.toInt d.toInt) (sec.toInt - ta.toInt) = x_70.toInt := (by rw [← hsr_62_0, show sec.toInt - ta.toInt = (x_4 : Int32).toInt from by omega, ← hsr_65_1]; omega); have E2 : (12 - r_1.toInt) * (zLn kq aq tq wn.toInt.toNat wh.toInt (fc 0).toInt (fc 1).toInt (fc 2).toInt 0) (zDpr ki.toInt a_.toInt wh.toInt d.toInt) (sec.toInt - ta.toInt) = x_83.toInt := (by rw [← hsr_75_0, show sec.toInt - ta.toInt = (x_4 : Int32).toInt from by omega, ← hsr_78_1, show 12 - r_1.toInt = x_73.toInt from by omega]; omega); unfold zLb zBy1; rw [← zw, E1, E2, show zPw 1 = 12 from by decide]; first | (rw [if_pos (by omega)]; omega) | (rw [if_neg (by omega)]; omega))), ⟨by omega, by omega⟩⟩, zRet ht hP hD [0, 1, 2, 3] (by decide) rfl⟩, hS.F ht⟩) hS.2.2 dX5_leastBy_111
set_option maxHeartbeats 4000000 in
set_option maxRecDepth 100000 in
theorem c_F_W_least_1 (l : Launch) (D : va_G) (cI cJ cZ cP cS : ClassId) (po : zPool) (w0 wk wl wc wp : Nat) (wn wh wg : Int32) (fq : Nat → Option Nat) (kq aq tq : Nat → Int32) (tw : Int32) (fl fc : Nat → Int32) (d sec : Int32) (hy0 : 0 ≤ wn.toInt) (hy1 : wn.toInt ≤ 8) (hy2 : 0 ≤ wh.toInt) (hy3 : wh.toInt ≤ 9) (hy4 : 0 ≤ wg.toInt) (hy5 : wg.toInt ≤ 60) (hjw : zJW po fq wn kq aq tq tw) (hkn : zKn kq aq tq wn.toInt.toNat wh.toInt (fc 0).toInt (fc 1).toInt (fc 2).toInt wg.toInt fl) (hgl : (∀ p : Nat, p < wn.toInt.toNat → (tq p).toInt ≤ wg.toInt)) (htw : tw.toInt = 1) (hy10 : 0 ≤ d.toInt) (hy11 : d.toInt ≤ 24) (hy12 : 0 ≤ sec.toInt) (hy13 : sec.toInt ≤ 300) (hp_fc : zRg fc (0) 99) (hpz : Nat) : Met l yX5_least wsX5_least ({ frames := 4, cells := 0, slots := 0, locals := 98 }) (va_Pc [.ref w0, .int 1, .int d, .int sec] (zW D (zKT cI cJ cZ cP cS) po [(w0, .inr (5, [.ref wk, .ref wl, .ref wc, .ref wp, .int wn, .int wh, .int wg])), (wl, .inl (cI, 125, .inl fl)), (wc, .inl (cI, 3, .inl fc)), (wp, .inl (cP, 8, .inr (.inr (.inr (.inr fq)))))] hpz)) (va_Qi (fun (r : Int32) (fl2 : (Nat → Int32)) => (zKn kq aq tq wn.toInt.toNat wh.toInt (fc 0).toInt (fc 1).toInt (fc 2).toInt wg.toInt fl2) ∧ (r.toInt = (zLn kq aq tq wn.toInt.toNat wh.toInt (fc 0).toInt (fc 1).toInt (fc 2).toInt 1) d.toInt sec.toInt) ∧ (0 ≤ r.toInt ∧ r.toInt ≤ 1188)) (zB D [(w0, .inr (5, [.ref wk, .ref wl, .ref wc, .ref wp, .int wn, .int wh, .int wg])), (wl, .inl (cI, 125, .inl fl)), (wc, .inl (cI, 3, .inl fc)), (wp, .inl (cP, 8, .inr (.inr (.inr (.inr fq)))))] hpz (fun (fl2 : Nat → Int32) => [(w0, .inr (5, [.ref wk, .ref wl, .ref wc, .ref wp, .int wn, .int wh, .int wg])), (wl, .inl (cI, 125, .inl fl2)), (wc, .inl (cI, 3, .inl fc)), (wp, .inl (cP, 8, .inr (.inr (.inr (.inr fq)))))])) (va_A [(w0, .inr (5, [.ref wk, .ref wl, .ref wc, .ref wp, .int wn, .int wh, .int wg])), (wl, .inl (cI, 125, .inl fl)), (wc, .inl (cI, 3, .inl fc)), (wp, .inl (cP, 8, .inr (.inr (.inr (.inr fq)))))] hpz)) 0 0 (va_A [(w0, .inr (5, [.ref wk, .ref wl, .ref wc, .ref wp, .int wn, .int wh, .int wg])), (wl, .inl (cI, 125, .inl fl)), (wc, .inl (cI, 3, .inl fc)), (wp, .inl (cP, 8, .inr (.inr (.inr (.inr fq)))))] hpz) := by
  refine Met.ofW (cc := cX5_least) (maxL := 9) (ret := (some .int)) (by decide) rfl ?_
  intro p e s m args below meth c s₁ B hml hv
  obtain ⟨rfl, hsz, hP, hK, hD0, hN, hZ⟩ := hv
  have hx := B.exec
  have hb := B.bytes
  have hr := B.returns
  have hts := atoms_spec (ws := wsX5_least) B.pre
  have hown : s.vm.findClass RX5 = some m.cls := findClass_of_methodNamed B.named
  have hlocks := B.notSynchronized
  subst hsz
  have hD := hD0.self (sz := s.heap.size)
  have hA := zA_of hD
  have hl := lv_entry ([.ref w0, .int 1, .int d, .int sec]) (n := 9) (Nat.le_of_ble_eq_true rfl)
  rw [lg_entry_eq]
  generalize (lg_sl ([.ref w0, .int 1, .int d, .int sec]) ++ List.replicate (9 - (lg_sl ([.ref w0, .int 1, .int d, .int sec])).length) Slot.unset).toArray = ls at hl ⊢
  replace hl : lv_has ls 9 [(0, .ref w0), (1, .int 1), (2, .int d), (3, .int sec)] := hl
  refine zw_begin hP hD (fun H locs hP1 hS => ?_)
  clear hP
  have hP := hP1
  clear hP1
  refine lv_iload_n hx hb dX5_least_0 rfl (lv_at hl 1 rfl) ?_
  refine lv_if_lt (tgt := 20) hx hb dX5_least_1 (by decide) (fun c_1 => ?_) (fun c_1 => ?_)
  · exact absurd c_1 (by decide)
  · refine lv_iload_n hx hb dX5_least_4 rfl (lv_at hl 1 rfl) ?_
    refine lv_iconst (v := 4) hx hb dX5_least_5 (by decide) ?_
    refine lv_icmp_gt (tgt := 20) hx hb dX5_least_6 (by decide) (fun c_2 => ?_) (fun c_2 => ?_)
    · exact absurd c_2 (by decide)
    · refine lv_iload_n hx hb dX5_least_9 rfl (lv_at hl 2 rfl) ?_
      refine lv_iconst (v := 1) hx hb dX5_least_10 (by decide) ?_
      refine lv_icmp_lt (tgt := 20) hx hb dX5_least_11 (by decide) (fun c_3 => ?_) (fun c_3 => ?_)
      · have fc_3 : d.toInt < 1 := zf_lt c_3 rfl (by decide)
        refine lv_iconst (v := 0) hx hb dX5_least_20 (by decide) ?_
        exact W.iret (v := 0) hx hb hr (fun t ht hW => ⟨⟨0, fl, rfl, ⟨(show zKn kq aq tq wn.toInt.toNat wh.toInt (fc 0).toInt (fc 1).toInt (fc 2).toInt wg.toInt fl from by exact hkn), (show (0 : Int32).toInt = (zLn kq aq tq wn.toInt.toNat wh.toInt (fc 0).toInt (fc 1).toInt (fc 2).toInt 1) d.toInt sec.toInt from by (have k9 : (0 : Int32).toInt = 0 := (by decide); rw [zLn_s, if_pos (by omega)]; exact k9)), ⟨by decide, by decide⟩⟩, zRet ht hP hD [0, 1, 2, 3] (by decide) rfl⟩, hS.F ht⟩) hS.2.2 dX5_least_21
      · have fc_3 : 1 ≤ d.toInt := zf_nlt c_3 rfl (by decide)
        refine lv_iload_n hx hb dX5_least_14 rfl (lv_at hl 2 rfl) ?_
        refine lv_bipush (v := 24) hx hb dX5_least_15 (by decide) ?_
        refine lv_icmp_le (tgt := 22) hx hb dX5_least_17 (by decide) (fun c_4 => ?_) (fun c_4 => ?_)
        · have fc_4 : d.toInt ≤ 24 := zf_le c_4 rfl (by decide)
          refine lv_iload_n hx hb dX5_least_22 rfl (lv_at hl 3 rfl) ?_
          refine lv_iload_n hx hb dX5_least_23 rfl (lv_at hl 1 rfl) ?_
          refine lv_aload_n hx hb dX5_least_24 rfl (lv_at hl 0 rfl) ?_
          refine va_get (D := D) (ci := 5) (v := .int wg) (C := RX5) (T := TX5) (N := 7) hx hb hts hi_X5_least_5 hown hK hP 0 rfl rfl 6 (by decide) (hts (.fieldLink RX5 34 "TheLiningsInIt$Ways" "longest" "I") (List.mem_of_getElem? (i := 1) rfl)) (fun _ h9 => h9) rfl dX5_least_25 ?_
          refine lv_imul hx hb dX5_least_28 ?_
          refine lv_topi (fun x_5 ex_5 => ?_)
          have qx_5 : x_5.toInt = 1 * wg.toInt := by rw [ex_5]; exact zf_mul (by decide) rfl (by omega) (by omega)
          refine lv_bipush (v := 30) hx hb dX5_least_29 (by decide) ?_
          refine lv_iadd hx hb dX5_least_31 ?_
          refine lv_topi (fun x_6 ex_6 => ?_)
          have qx_6 : x_6.toInt = x_5.toInt + 30 := by rw [ex_6]; exact zf_add rfl (by decide) (by omega) (by omega)
          refine lv_icmp_lt (tgt := 39) hx hb dX5_least_32 (by decide) (fun c_7 => ?_) (fun c_7 => ?_)
          · have fc_7 : sec.toInt < x_6.toInt := zf_lt c_7 rfl rfl
            refine lv_iconst (v := 0) hx hb dX5_least_39 (by decide) ?_
            refine lv_istore (lv' := [(4, .int 0), (0, .ref w0), (1, .int 1), (2, .int d), (3, .int sec)]) hx hb dX5_least_40 hl (by decide) rfl (fun ls hl => ?_)
            refine lv_iload_n hx hb dX5_least_42 rfl (lv_at hl 2 rfl) ?_
            refine lv_bipush (v := 25) hx hb dX5_least_43 (by decide) ?_
            refine lv_imul hx hb dX5_least_45 ?_
            refine lv_topi (fun y_8 ey_8 => ?_)
            obtain rfl : y_8 = 25 := ey_8.trans (by decide)
            refine lv_iload_n hx hb dX5_least_46 rfl (lv_at hl 3 rfl) ?_
            refine lv_iadd hx hb dX5_least_47 ?_
            refine lv_topi (fun x_9 ex_9 => ?_)
            have qx_9 : x_9.toInt = 25 + d.toInt := by rw [ex_9]; exact zf_add (by decide) rfl (by omega) (by omega)
            refine lv_istore (lv' := [(5, .int x_9), (4, .int 0), (0, .ref w0), (1, .int 1), (2, .int d), (3, .int sec)]) hx hb dX5_least_48 hl (by decide) rfl (fun ls hl => ?_)
            refine lv_iload hx hb dX5_least_50 (lv_at hl 1 rfl) ?_
            refine lv_if_eq (tgt := 74) hx hb dX5_least_52 (by decide) (fun c_10 => ?_) (fun c_10 => ?_)
            · refine lv_aload_n hx hb dX5_least_74 rfl (lv_at hl 2 rfl) ?_
              refine lv_iload_n hx hb dX5_least_75 rfl (lv_at hl 3 rfl) ?_
              refine lv_iload_n hx hb dX5_least_76 rfl (lv_at hl 5 rfl) ?_
              refine zc_V (As := [.int 1, .int sec]) (rest := []) ⟨hx, hb, hml, hown, hts⟩ (c_F_W_leastAtOnce_1 l D cI cJ cZ cP cS po w0 wk wl wc wp (wn) (wh) (wg) fc (sec) hy0 hy1 hy2 hy3 hy4 hy5 hy12 hy13 hp_fc) (cwV 2 hts gX5_least_X5_leastAtOnce rfl rfl rfl ⟨rfl, dh_X5_leastAtOnce⟩ ⟨Nat.le_of_ble_eq_true rfl, Nat.le_of_ble_eq_true rfl⟩) hK hN (hZ.kept hS) hP (hP.sub [0, 2] rfl) (va_recv (q := (RX5, TX5, 7)) hK hP (ci := 5) (q0 := 0) rfl rfl) rfl hl.1 rfl (Nat.le_of_ble_eq_true rfl) dX5_least_77 ⟨Nat.le_of_ble_eq_true rfl, Nat.le_of_ble_eq_true rfl⟩ (fun r_11 hr_11 => ?_)
              obtain ⟨g_12, g_13, hsr_11_0⟩ := hr_11
              refine lv_istore (lv' := [(6, .int r_11), (5, .int x_9), (4, .int 0), (0, .ref w0), (1, .int 1), (2, .int d), (3, .int sec)]) hx hb dX5_least_80 hl (by decide) rfl (fun ls hl => ?_)
              refine lv_iconst (v := 0) hx hb dX5_least_82 (by decide) ?_
              refine lv_istore (lv' := [(7, .int 0), (6, .int r_11), (5, .int x_9), (4, .int 0), (0, .ref w0), (1, .int 1), (2, .int d), (3, .int sec)]) hx hb dX5_least_83 hl (by decide) rfl (fun ls hl => ?_)
              obtain ⟨i_85, hi_85⟩ : ∃ i : Int32, i = 0 := ⟨_, rfl⟩
              replace hl : lv_has ls 9 [(7, .int i_85), (6, .int r_11), (5, .int x_9), (4, .int 0), (0, .ref w0), (1, .int 1), (2, .int d), (3, .int sec)] := by rw [hi_85]; exact lv_sub hl [0, 1, 2, 3, 4, 5, 6, 7] rfl
              have h1i_85 : i_85.toInt = 0 := by rw [hi_85]; decide
              obtain ⟨nfu, hni_85⟩ : ∃ nq9 : Nat, wn.toInt ≤ i_85.toInt + (nq9 : Int) := ⟨((wn.toInt : Int) - 0).toNat, by omega⟩
              have hloi_85 : 0 ≤ i_85.toInt := by omega
              obtain ⟨g_14, hg_14⟩ : ∃ g : Nat → Int32, g = fl := ⟨_, rfl⟩
              replace hP : va_P D vwCl [(w0, .inr (5, [.ref wk, .ref wl, .ref wc, .ref wp, .int wn, .int wh, .int wg])), (wl, .inl (cI, 125, .inl g_14)), (wc, .inl (cI, 3, .inl fc)), (wp, .inl (cP, 8, .inr (.inr (.inr (.inr fq)))))] H := by rw [hg_14]; exact hP
              replace hD : va_D (va_A [(w0, .inr (5, [.ref wk, .ref wl, .ref wc, .ref wp, .int wn, .int wh, .int wg])), (wl, .inl (cI, 125, .inl fl)), (wc, .inl (cI, 3, .inl fc)), (wp, .inl (cP, 8, .inr (.inr (.inr (.inr fq)))))] s.heap.size) [(w0, .inr (5, [.ref wk, .ref wl, .ref wc, .ref wp, .int wn, .int wh, .int wg])), (wl, .inl (cI, 125, .inl g_14)), (wc, .inl (cI, 3, .inl fc)), (wp, .inl (cP, 8, .inr (.inr (.inr (.inr fq)))))] := by rw [hg_14]; exact hD
              obtain ⟨v_15, hv_15⟩ : ∃ g : Int32, g = r_11 := ⟨_, rfl⟩
              replace hl : lv_has ls 9 [(7, .int i_85), (6, .int v_15), (5, .int x_9), (4, .int 0), (0, .ref w0), (1, .int 1), (2, .int d), (3, .int sec)] := by rw [hv_15]; exact hl
              have hbv_15 : 0 ≤ v_15.toInt ∧ v_15.toInt ≤ 1188 := by rw [hv_15]; exact ⟨by omega, by omega⟩
              have hvi_85_0 : zKn kq aq tq wn.toInt.toNat wh.toInt (fc 0).toInt (fc 1).toInt (fc 2).toInt wg.toInt g_14 := by
                (try rw [hi_85]); (try rw [hg_14]); (try rw [hv_15]); exact hkn
              have hvi_85_1 : (v_15 : Int32).toInt = zFi tq d.toInt sec.toInt (zPw 1 * zAt (fc 1).toInt (fc 2).toInt sec.toInt) (zLv (zLn kq aq tq wn.toInt.toNat wh.toInt (fc 0).toInt (fc 1).toInt (fc 2).toInt 0) kq aq tq (fc 0).toInt (zPw 1) wh.toInt d.toInt sec.toInt) i_85.toInt.toNat := by
                (try rw [hi_85]); (try rw [hg_14]); (try rw [hv_15]); (rw [(show ((0 : Int32).toInt.toNat) = 0 from by decide)]; exact hsr_11_0)
              have hvi_85_2 : i_85.toInt ≤ wn.toInt := by
                (try rw [hi_85]); (try rw [hg_14]); (try rw [hv_15]); (have k0 : (0 : Int32).toInt = 0 := (by decide); omega)
              clear h1i_85 hi_85 hg_14 hv_15
              skip
              revert hni_85
              revert hloi_85
              revert hvi_85_2
              revert hvi_85_1
              revert hvi_85_0
              revert hbv_15
              revert hl
              revert hS
              revert hD
              revert hP
              revert ls
              revert locs
              revert H
              revert g_14
              revert v_15
              revert i_85
              induction nfu with
              | zero =>
                intro i_85 v_15 g_14 H locs ls hP hD hS hl hbv_15 hvi_85_0 hvi_85_1 hvi_85_2 hloi_85 hni_85
                have hzi_85 : wn.toInt ≤ i_85.toInt := by omega
                refine lv_iload hx hb dX5_least_85 (lv_at hl 0 rfl) ?_
                refine lv_aload_n hx hb dX5_least_87 rfl (lv_at hl 4 rfl) ?_
                refine va_get (D := D) (ci := 5) (v := .int wn) (C := RX5) (T := TX5) (N := 7) hx hb hts hi_X5_least_5 hown hK hP 0 rfl rfl 4 (by decide) (hts (.fieldLink RX5 27 "TheLiningsInIt$Ways" "count" "I") (List.mem_of_getElem? (i := 3) rfl)) (fun _ h9 => h9) rfl dX5_least_88 ?_
                refine lv_icmp_ge (tgt := 135) hx hb dX5_least_91 (by decide) (fun c_16 => ?_) (fun c_16 => ?_)
                · have fc_16 : wn.toInt ≤ i_85.toInt := zf_le c_16 rfl rfl
                  refine lv_iload hx hb dX5_least_135 (lv_at hl 3 rfl) ?_
                  refine lv_if_eq (tgt := 149) hx hb dX5_least_137 (by decide) (fun c_17 => ?_) (fun c_17 => ?_)
                  · refine lv_iload hx hb dX5_least_149 (lv_at hl 1 rfl) ?_
                    exact W.iret (v := v_15) hx hb hr (fun t ht hW => ⟨⟨v_15, g_14, rfl, ⟨(show zKn kq aq tq wn.toInt.toNat wh.toInt (fc 0).toInt (fc 1).toInt (fc 2).toInt wg.toInt g_14 from by exact hvi_85_0), (show (v_15 : Int32).toInt = (zLn kq aq tq wn.toInt.toNat wh.toInt (fc 0).toInt (fc 1).toInt (fc 2).toInt 1) d.toInt sec.toInt from by (have h9 : i_85.toInt.toNat = wn.toInt.toNat := (by omega); have z := hvi_85_1; rw [h9] at z; rw [zLn_s, if_neg (by omega)]; exact z)), ⟨by omega, by omega⟩⟩, zRet ht hP hD [0, 1, 2, 3] (by decide) rfl⟩, hS.F ht⟩) hS.2.2 dX5_least_151
                  · exact absurd c_17 (by decide)
                · exfalso; have fc_16 : i_85.toInt < wn.toInt := zf_nle c_16 rfl rfl; omega
              | succ nfu ih =>
                intro i_85 v_15 g_14 H locs ls hP hD hS hl hbv_15 hvi_85_0 hvi_85_1 hvi_85_2 hloi_85 hni_85
                refine lv_iload hx hb dX5_least_85 (lv_at hl 0 rfl) ?_
                refine lv_aload_n hx hb dX5_least_87 rfl (lv_at hl 4 rfl) ?_
                refine va_get (D := D) (ci := 5) (v := .int wn) (C := RX5) (T := TX5) (N := 7) hx hb hts hi_X5_least_5 hown hK hP 0 rfl rfl 4 (by decide) (hts (.fieldLink RX5 27 "TheLiningsInIt$Ways" "count" "I") (List.mem_of_getElem? (i := 3) rfl)) (fun _ h9 => h9) rfl dX5_least_88 ?_
                refine lv_icmp_ge (tgt := 135) hx hb dX5_least_91 (by decide) (fun c_18 => ?_) (fun c_18 => ?_)
                · have fc_18 : wn.toInt ≤ i_85.toInt := zf_le c_18 rfl rfl
                  refine lv_iload hx hb dX5_least_135 (lv_at hl 3 rfl) ?_
                  refine lv_if_eq (tgt := 149) hx hb dX5_least_137 (by decide) (fun c_19 => ?_) (fun c_19 => ?_)
                  · refine lv_iload hx hb dX5_least_149 (lv_at hl 1 rfl) ?_
                    exact W.iret (v := v_15) hx hb hr (fun t ht hW => ⟨⟨v_15, g_14, rfl, ⟨(show zKn kq aq tq wn.toInt.toNat wh.toInt (fc 0).toInt (fc 1).toInt (fc 2).toInt wg.toInt g_14 from by exact hvi_85_0), (show (v_15 : Int32).toInt = (zLn kq aq tq wn.toInt.toNat wh.toInt (fc 0).toInt (fc 1).toInt (fc 2).toInt 1) d.toInt sec.toInt from by (have h9 : i_85.toInt.toNat = wn.toInt.toNat := (by omega); have z := hvi_85_1; rw [h9] at z; rw [zLn_s, if_neg (by omega)]; exact z)), ⟨by omega, by omega⟩⟩, zRet ht hP hD [0, 1, 2, 3] (by decide) rfl⟩, hS.F ht⟩) hS.2.2 dX5_least_151
                  · exact absurd c_19 (by decide)
                · have fc_18 : i_85.toInt < wn.toInt := zf_nle c_18 rfl rfl
                  refine lv_iload_n hx hb dX5_least_94 rfl (lv_at hl 5 rfl) ?_
                  refine lv_if_le (tgt := 135) hx hb dX5_least_95 (by decide) (fun c_20 => ?_) (fun c_20 => ?_)
                  · exact absurd c_20 (by decide)
                  · refine lv_aload_n hx hb dX5_least_98 rfl (lv_at hl 4 rfl) ?_
                    refine lv_iload hx hb dX5_least_99 (lv_at hl 0 rfl) ?_
                    refine lv_iload_n hx hb dX5_least_101 rfl (lv_at hl 6 rfl) ?_
                    refine lv_iload_n hx hb dX5_least_102 rfl (lv_at hl 7 rfl) ?_
                    refine zc_Vq (As := [.int i_85, .int d, .int sec]) (rest := []) ⟨hx, hb, hml, hown, hts⟩ (c_F_W_mayBeAt l D cI cJ cZ cP cS po w0 wk wl wc wp (wn) (wh) (wg) fq kq aq tq (tw) (i_85) (d) (sec) hy0 hy1 hy2 hy3 hy4 hy5 hjw (by omega) (by omega) (by omega) hy12 hy13) (cwV 3 hts gX5_least_X5_mayBeAt rfl rfl rfl ⟨rfl, dh_X5_mayBeAt⟩ ⟨Nat.le_of_ble_eq_true rfl, Nat.le_of_ble_eq_true rfl⟩) hK hN (hZ.kept hS) hP (hP.sub [0, 3] rfl) (va_recv (q := (RX5, TX5, 7)) hK hP (ci := 5) (q0 := 0) rfl rfl) rfl hl.1 rfl (Nat.le_of_ble_eq_true rfl) dX5_least_103 ⟨Nat.le_of_ble_eq_true rfl, Nat.le_of_ble_eq_true rfl⟩ (fun r_21 hr_21 => ?_)
                    rcases hr_21 with ⟨rfl, hn_22⟩ | ⟨rfl, hn_24, g_23⟩ | ⟨rfl, hn_26, g_25⟩ | ⟨⟨u_28, kiu_28, au_28, tu_28, rfl, huu_28, hkku_28⟩, g_27⟩
                    · refine lv_astoreN (lv' := [(8, .null), (7, .int i_85), (6, .int v_15), (5, .int x_9), (4, .int 0), (0, .ref w0), (1, .int 1), (2, .int d), (3, .int sec)]) hx hb dX5_least_106 hl (by decide) rfl (fun ls hl => ?_)
                      refine lv_aloadN hx hb dX5_least_108 (lv_at hl 0 rfl) ?_
                      refine lv_ifnullN (tgt := 129) hx hb dX5_least_110 (by decide) ?_
                      obtain ⟨x_29, ex_29⟩ : ∃ y : Int32, y = i_85 + 1 := ⟨_, rfl⟩
                      have qx_29 : x_29.toInt = i_85.toInt + 1 := dw_inc ex_29 fc_18
                      refine lv_iinc (v := x_29) (lv' := [(7, .int x_29), (8, .null), (6, .int v_15), (5, .int x_9), (4, .int 0), (0, .ref w0), (1, .int 1), (2, .int d), (3, .int sec)]) hx hb dX5_least_129 hl (k := 1) rfl ex_29.symm (by decide) rfl (fun ls hl => ?_)
                      refine lv_goto (tgt := 85) hx hb dX5_least_132 (by decide) ?_
                      exact ih x_29 v_15 (g_14) _ _ _ (hP.sub [0, 1, 2, 3] rfl) (hD.sub [0, 1, 2, 3] (by decide) rfl) hS (lv_sub hl [0, 2, 3, 4, 5, 6, 7, 8] rfl) hbv_15 (show zKn kq aq tq wn.toInt.toNat wh.toInt (fc 0).toInt (fc 1).toInt (fc 2).toInt wg.toInt g_14 from by exact hvi_85_0) (show (v_15 : Int32).toInt = zFi tq d.toInt sec.toInt (zPw 1 * zAt (fc 1).toInt (fc 2).toInt sec.toInt) (zLv (zLn kq aq tq wn.toInt.toNat wh.toInt (fc 0).toInt (fc 1).toInt (fc 2).toInt 0) kq aq tq (fc 0).toInt (zPw 1) wh.toInt d.toInt sec.toInt) x_29.toInt.toNat from by (have hx : x_29.toInt.toNat = i_85.toInt.toNat + 1 := (by omega); have y4 := hn_22; have y9 : i_85.toNatClampNeg = i_85.toInt.toNat := rfl; rw [y9] at y4; rw [hx, zFi_n (fun z => y4 ⟨z.1, z.2, Or.inl (by omega)⟩)]; exact hvi_85_1)) (show x_29.toInt ≤ wn.toInt from by omega) (dw_lo hloi_85 qx_29) (dw_hn hni_85 qx_29)
                    · exfalso; omega
                    · refine lv_astoreN (lv' := [(8, .null), (7, .int i_85), (6, .int v_15), (5, .int x_9), (4, .int 0), (0, .ref w0), (1, .int 1), (2, .int d), (3, .int sec)]) hx hb dX5_least_106 hl (by decide) rfl (fun ls hl => ?_)
                      refine lv_aloadN hx hb dX5_least_108 (lv_at hl 0 rfl) ?_
                      refine lv_ifnullN (tgt := 129) hx hb dX5_least_110 (by decide) ?_
                      obtain ⟨x_30, ex_30⟩ : ∃ y : Int32, y = i_85 + 1 := ⟨_, rfl⟩
                      have qx_30 : x_30.toInt = i_85.toInt + 1 := dw_inc ex_30 fc_18
                      refine lv_iinc (v := x_30) (lv' := [(7, .int x_30), (8, .null), (6, .int v_15), (5, .int x_9), (4, .int 0), (0, .ref w0), (1, .int 1), (2, .int d), (3, .int sec)]) hx hb dX5_least_129 hl (k := 1) rfl ex_30.symm (by decide) rfl (fun ls hl => ?_)
                      refine lv_goto (tgt := 85) hx hb dX5_least_132 (by decide) ?_
                      exact ih x_30 v_15 (g_14) _ _ _ (hP.sub [0, 1, 2, 3] rfl) (hD.sub [0, 1, 2, 3] (by decide) rfl) hS (lv_sub hl [0, 2, 3, 4, 5, 6, 7, 8] rfl) hbv_15 (show zKn kq aq tq wn.toInt.toNat wh.toInt (fc 0).toInt (fc 1).toInt (fc 2).toInt wg.toInt g_14 from by exact hvi_85_0) (show (v_15 : Int32).toInt = zFi tq d.toInt sec.toInt (zPw 1 * zAt (fc 1).toInt (fc 2).toInt sec.toInt) (zLv (zLn kq aq tq wn.toInt.toNat wh.toInt (fc 0).toInt (fc 1).toInt (fc 2).toInt 0) kq aq tq (fc 0).toInt (zPw 1) wh.toInt d.toInt sec.toInt) x_30.toInt.toNat from by (have hx : x_30.toInt.toNat = i_85.toInt.toNat + 1 := (by omega); have y4 := hn_26; have y9 : i_85.toNatClampNeg = i_85.toInt.toNat := rfl; rw [y9] at y4; rw [hx, zFi_n (fun z => y4 ⟨z.1, z.2, Or.inl (by omega)⟩)]; exact hvi_85_1)) (show x_30.toInt ≤ wn.toInt from by omega) (dw_lo hloi_85 qx_30) (dw_hn hni_85 qx_30)
                    · refine W.eq (g2 := F0 m 106 ls (.ref u_28 :: [])) rfl ?_
                      obtain ⟨hku_28, hau_28, htu_28⟩ := zPu_pr (hZ.kept hS) huu_28
                      refine lv_astore (lv' := [(8, .ref u_28), (7, .int i_85), (6, .int v_15), (5, .int x_9), (4, .int 0), (0, .ref w0), (1, .int 1), (2, .int d), (3, .int sec)]) hx hb dX5_least_106 hl (by decide) rfl (fun ls hl => ?_)
                      refine lv_aload hx hb dX5_least_108 (lv_at hl 0 rfl) ?_
                      refine lv_ifnull hx hb dX5_least_110 ?_
                      refine lv_iload hx hb dX5_least_113 (lv_at hl 2 rfl) ?_
                      refine lv_aload_n hx hb dX5_least_115 rfl (lv_at hl 5 rfl) ?_
                      refine lv_aload hx hb dX5_least_116 (lv_at hl 0 rfl) ?_
                      refine lv_iload_n hx hb dX5_least_118 rfl (lv_at hl 6 rfl) ?_
                      refine lv_iload_n hx hb dX5_least_119 rfl (lv_at hl 7 rfl) ?_
                      refine lv_iload_n hx hb dX5_least_120 rfl (lv_at hl 8 rfl) ?_
                      have tsu_28 : tu_28.toInt ≤ sec.toInt := by (obtain ⟨⟨y1, y2, y3⟩, y4⟩ := hkku_28; have z := y4.2.1; rw [y3]; exact z)
                      skip
                      refine zw_V (As := [.ref u_28, .int 1, .int d, .int sec]) (rest := [.int v_15]) (wr := []) ⟨hx, hb, hml, hown, hts⟩ (c_F_W_leastBy_1 l D cI cJ cZ cP cS po w0 wk wl wc wp (wn) (wh) (wg) fq kq aq tq (tw) g_14 fc (d) (sec) u_28 (kiu_28) (au_28) (tu_28) huu_28 ⟨by omega, by omega, by omega, by omega⟩ hy0 hy1 hy2 hy3 hy4 hy5 hjw (by first | assumption | omega) (by first | assumption | omega) (by first | assumption | omega | decide) hy10 hy11 hy12 hy13 (by omega) hp_fc H.size) (cwV 4 hts gX5_least_X5_leastBy rfl rfl rfl ⟨rfl, dh_X5_leastBy⟩ ⟨Nat.le_of_ble_eq_true rfl, Nat.le_of_ble_eq_true rfl⟩) hK hN (hZ.kept hS) hP hD hS hA [0, 1, 2, 3] [] rfl rfl (by decide) (by decide) (by decide) (va_recv (q := (RX5, TX5, 7)) hK hP (ci := 5) (q0 := 0) rfl rfl) rfl hl.1 rfl (Nat.le_of_ble_eq_true rfl) dX5_least_121 ⟨Nat.le_of_ble_eq_true rfl, Nat.le_of_ble_eq_true rfl⟩ (fun r_31 u_32 H locs hr_31 hP hD hS => ?_)
                      obtain ⟨q_33, rfl⟩ : ∃ z, z = u_32 := ⟨_, rfl⟩
                      obtain ⟨hsr_31_0, hsr_31_1, hr_31⟩ := hr_31
                      have h9R := zRe (ws' := [(w0, .inr (5, [.ref wk, .ref wl, .ref wc, .ref wp, .int wn, .int wh, .int wg])), (wl, .inl (cI, 125, .inl q_33)), (wc, .inl (cI, 3, .inl fc)), (wp, .inl (cP, 8, .inr (.inr (.inr (.inr fq)))))]) hP hD rfl
                      clear hP hD
                      obtain ⟨hP, hD⟩ := h9R
                      obtain ⟨g_34, g_35⟩ := hr_31
                      refine va_mmin hx hb (hml.trans hl.1.symm) hown (hts (.methodLink RX5 110 Lib.Math.min.name) (List.mem_of_getElem? (i := 4) rfl)) (hts _ (List.mem_of_getElem? (i := 5) rfl)) (hts _ (List.mem_of_getElem? (i := 6) rfl)) (hts _ (List.mem_of_getElem? (i := 7) rfl)) (Nat.le_of_ble_eq_true rfl) (Nat.le_of_ble_eq_true rfl) (Nat.le_of_ble_eq_true rfl) (Nat.le_of_ble_eq_true rfl) dX5_least_124 ?_
                      refine lv_topi (fun x_36 ex_36 => ?_)
                      have qx_36 := zf_min ex_36 (x1 := v_15.toInt) (y1 := r_31.toInt) rfl rfl
                      refine lv_istore (lv' := [(6, .int x_36), (8, .ref u_28), (7, .int i_85), (5, .int x_9), (4, .int 0), (0, .ref w0), (1, .int 1), (2, .int d), (3, .int sec)]) hx hb dX5_least_127 hl (by decide) rfl (fun ls hl => ?_)
                      obtain ⟨x_37, ex_37⟩ : ∃ y : Int32, y = i_85 + 1 := ⟨_, rfl⟩
                      have qx_37 : x_37.toInt = i_85.toInt + 1 := dw_inc ex_37 fc_18
                      refine lv_iinc (v := x_37) (lv' := [(7, .int x_37), (6, .int x_36), (8, .ref u_28), (5, .int x_9), (4, .int 0), (0, .ref w0), (1, .int 1), (2, .int d), (3, .int sec)]) hx hb dX5_least_129 hl (k := 2) rfl ex_37.symm (by decide) rfl (fun ls hl => ?_)
                      refine lv_goto (tgt := 85) hx hb dX5_least_132 (by decide) ?_
                      exact ih x_37 x_36 (q_33) _ _ _ (hP.sub [0, 1, 2, 3] rfl) (hD.sub [0, 1, 2, 3] (by decide) rfl) hS (lv_sub hl [0, 1, 3, 4, 5, 6, 7, 8] rfl) ⟨by omega, by omega⟩ (show zKn kq aq tq wn.toInt.toNat wh.toInt (fc 0).toInt (fc 1).toInt (fc 2).toInt wg.toInt q_33 from by exact hsr_31_0) (show (x_36 : Int32).toInt = zFi tq d.toInt sec.toInt (zPw 1 * zAt (fc 1).toInt (fc 2).toInt sec.toInt) (zLv (zLn kq aq tq wn.toInt.toNat wh.toInt (fc 0).toInt (fc 1).toInt (fc 2).toInt 0) kq aq tq (fc 0).toInt (zPw 1) wh.toInt d.toInt sec.toInt) x_37.toInt.toNat from by (have hx : x_37.toInt.toNat = i_85.toInt.toNat + 1 := (by omega); obtain ⟨⟨y1, y2, y3⟩, y4⟩ := hkku_28; have y9 : i_85.toNatClampNeg = i_85.toInt.toNat := rfl; rw [y9] at y1 y2 y3 y4; rw [hx, zFi_y ⟨y4.1, y4.2.1⟩, ← hvi_85_1]; have zr := hsr_31_1; rw [y1, y2, y3] at zr; have zr2 : r_31.toInt = (zLv (zLn kq aq tq wn.toInt.toNat wh.toInt (fc 0).toInt (fc 1).toInt (fc 2).toInt 0) kq aq tq (fc 0).toInt (zPw 1) wh.toInt d.toInt sec.toInt) i_85.toInt.toNat := zr; omega)) (show x_37.toInt ≤ wn.toInt from by omega) (dw_lo hloi_85 qx_37) (dw_hn hni_85 qx_37)
            · exact absurd c_10 (by decide)
          · have fc_7 : x_6.toInt ≤ sec.toInt := zf_nlt c_7 rfl rfl
            refine lv_iconst (v := 1) hx hb dX5_least_35 (by decide) ?_
            refine lv_goto (tgt := 40) hx hb dX5_least_36 (by decide) ?_
            refine lv_istore (lv' := [(4, .int 1), (0, .ref w0), (1, .int 1), (2, .int d), (3, .int sec)]) hx hb dX5_least_40 hl (by decide) rfl (fun ls hl => ?_)
            refine lv_iload_n hx hb dX5_least_42 rfl (lv_at hl 2 rfl) ?_
            refine lv_bipush (v := 25) hx hb dX5_least_43 (by decide) ?_
            refine lv_imul hx hb dX5_least_45 ?_
            refine lv_topi (fun y_38 ey_38 => ?_)
            obtain rfl : y_38 = 25 := ey_38.trans (by decide)
            refine lv_iload_n hx hb dX5_least_46 rfl (lv_at hl 3 rfl) ?_
            refine lv_iadd hx hb dX5_least_47 ?_
            refine lv_topi (fun x_39 ex_39 => ?_)
            have qx_39 : x_39.toInt = 25 + d.toInt := by rw [ex_39]; exact zf_add (by decide) rfl (by omega) (by omega)
            refine lv_istore (lv' := [(5, .int x_39), (4, .int 1), (0, .ref w0), (1, .int 1), (2, .int d), (3, .int sec)]) hx hb dX5_least_48 hl (by decide) rfl (fun ls hl => ?_)
            refine lv_iload hx hb dX5_least_50 (lv_at hl 1 rfl) ?_
            refine lv_if_eq (tgt := 74) hx hb dX5_least_52 (by decide) (fun c_40 => ?_) (fun c_40 => ?_)
            · exact absurd c_40 (by decide)
            · refine lv_aload_n hx hb dX5_least_55 rfl (lv_at hl 2 rfl) ?_
              refine va_get (D := D) (ci := 5) (v := .ref wl) (C := RX5) (T := TX5) (N := 7) hx hb hts hi_X5_least_5 hown hK hP 0 rfl rfl 1 (by decide) (hts (.fieldLink RX5 15 "TheLiningsInIt$Ways" "knownLeast" "[I") (List.mem_of_getElem? (i := 2) rfl)) (fun _ h9 => h9) rfl dX5_least_56 ?_
              refine lv_iload hx hb dX5_least_59 (lv_at hl 0 rfl) ?_
              refine va_iald hx hb hK hP 1 0 rfl rfl (zf_in (by omega) (by omega)) dX5_least_61 ?_
              refine lv_topi (fun x_41 ex_41 => ?_)
              refine lv_iconst (v := (-1)) hx hb dX5_least_62 (by decide) ?_
              refine lv_icmp_eq (tgt := 74) hx hb dX5_least_63 (by decide) (fun c_42 => ?_) (fun c_42 => ?_)
              · have fc_42 : x_41.toInt = (-1) := zf_eq c_42 rfl (by decide)
                refine lv_aload_n hx hb dX5_least_74 rfl (lv_at hl 2 rfl) ?_
                refine lv_iload_n hx hb dX5_least_75 rfl (lv_at hl 3 rfl) ?_
                refine lv_iload_n hx hb dX5_least_76 rfl (lv_at hl 5 rfl) ?_
                refine zc_V (As := [.int 1, .int sec]) (rest := []) ⟨hx, hb, hml, hown, hts⟩ (c_F_W_leastAtOnce_1 l D cI cJ cZ cP cS po w0 wk wl wc wp (wn) (wh) (wg) fc (sec) hy0 hy1 hy2 hy3 hy4 hy5 hy12 hy13 hp_fc) (cwV 2 hts gX5_least_X5_leastAtOnce rfl rfl rfl ⟨rfl, dh_X5_leastAtOnce⟩ ⟨Nat.le_of_ble_eq_true rfl, Nat.le_of_ble_eq_true rfl⟩) hK hN (hZ.kept hS) hP (hP.sub [0, 2] rfl) (va_recv (q := (RX5, TX5, 7)) hK hP (ci := 5) (q0 := 0) rfl rfl) rfl hl.1 rfl (Nat.le_of_ble_eq_true rfl) dX5_least_77 ⟨Nat.le_of_ble_eq_true rfl, Nat.le_of_ble_eq_true rfl⟩ (fun r_43 hr_43 => ?_)
                obtain ⟨g_44, g_45, hsr_43_0⟩ := hr_43
                refine lv_istore (lv' := [(6, .int r_43), (5, .int x_39), (4, .int 1), (0, .ref w0), (1, .int 1), (2, .int d), (3, .int sec)]) hx hb dX5_least_80 hl (by decide) rfl (fun ls hl => ?_)
                refine lv_iconst (v := 0) hx hb dX5_least_82 (by decide) ?_
                refine lv_istore (lv' := [(7, .int 0), (6, .int r_43), (5, .int x_39), (4, .int 1), (0, .ref w0), (1, .int 1), (2, .int d), (3, .int sec)]) hx hb dX5_least_83 hl (by decide) rfl (fun ls hl => ?_)
                obtain ⟨i_85, hi_85⟩ : ∃ i : Int32, i = 0 := ⟨_, rfl⟩
                replace hl : lv_has ls 9 [(7, .int i_85), (6, .int r_43), (5, .int x_39), (4, .int 1), (0, .ref w0), (1, .int 1), (2, .int d), (3, .int sec)] := by rw [hi_85]; exact lv_sub hl [0, 1, 2, 3, 4, 5, 6, 7] rfl
                have h1i_85 : i_85.toInt = 0 := by rw [hi_85]; decide
                obtain ⟨nfu, hni_85⟩ : ∃ nq9 : Nat, wn.toInt ≤ i_85.toInt + (nq9 : Int) := ⟨((wn.toInt : Int) - 0).toNat, by omega⟩
                have hloi_85 : 0 ≤ i_85.toInt := by omega
                obtain ⟨g_46, hg_46⟩ : ∃ g : Nat → Int32, g = fl := ⟨_, rfl⟩
                replace hP : va_P D vwCl [(w0, .inr (5, [.ref wk, .ref wl, .ref wc, .ref wp, .int wn, .int wh, .int wg])), (wl, .inl (cI, 125, .inl g_46)), (wc, .inl (cI, 3, .inl fc)), (wp, .inl (cP, 8, .inr (.inr (.inr (.inr fq)))))] H := by rw [hg_46]; exact hP
                replace hD : va_D (va_A [(w0, .inr (5, [.ref wk, .ref wl, .ref wc, .ref wp, .int wn, .int wh, .int wg])), (wl, .inl (cI, 125, .inl fl)), (wc, .inl (cI, 3, .inl fc)), (wp, .inl (cP, 8, .inr (.inr (.inr (.inr fq)))))] s.heap.size) [(w0, .inr (5, [.ref wk, .ref wl, .ref wc, .ref wp, .int wn, .int wh, .int wg])), (wl, .inl (cI, 125, .inl g_46)), (wc, .inl (cI, 3, .inl fc)), (wp, .inl (cP, 8, .inr (.inr (.inr (.inr fq)))))] := by rw [hg_46]; exact hD
                obtain ⟨v_47, hv_47⟩ : ∃ g : Int32, g = r_43 := ⟨_, rfl⟩
                replace hl : lv_has ls 9 [(7, .int i_85), (6, .int v_47), (5, .int x_39), (4, .int 1), (0, .ref w0), (1, .int 1), (2, .int d), (3, .int sec)] := by rw [hv_47]; exact hl
                have hbv_47 : 0 ≤ v_47.toInt ∧ v_47.toInt ≤ 1188 := by rw [hv_47]; exact ⟨by omega, by omega⟩
                have hvi_85_0 : zKn kq aq tq wn.toInt.toNat wh.toInt (fc 0).toInt (fc 1).toInt (fc 2).toInt wg.toInt g_46 := by
                  (try rw [hi_85]); (try rw [hg_46]); (try rw [hv_47]); exact hkn
                have hvi_85_1 : (v_47 : Int32).toInt = zFi tq d.toInt sec.toInt (zPw 1 * zAt (fc 1).toInt (fc 2).toInt sec.toInt) (zLv (zLn kq aq tq wn.toInt.toNat wh.toInt (fc 0).toInt (fc 1).toInt (fc 2).toInt 0) kq aq tq (fc 0).toInt (zPw 1) wh.toInt d.toInt sec.toInt) i_85.toInt.toNat := by
                  (try rw [hi_85]); (try rw [hg_46]); (try rw [hv_47]); (rw [(show ((0 : Int32).toInt.toNat) = 0 from by decide)]; exact hsr_43_0)
                have hvi_85_2 : i_85.toInt ≤ wn.toInt := by
                  (try rw [hi_85]); (try rw [hg_46]); (try rw [hv_47]); (have k0 : (0 : Int32).toInt = 0 := (by decide); omega)
                clear h1i_85 hi_85 hg_46 hv_47
                skip
                revert hni_85
                revert hloi_85
                revert hvi_85_2
                revert hvi_85_1
                revert hvi_85_0
                revert hbv_47
                revert hl
                revert hS
                revert hD
                revert hP
                revert ls
                revert locs
                revert H
                revert g_46
                revert v_47
                revert i_85
                induction nfu with
                | zero =>
                  intro i_85 v_47 g_46 H locs ls hP hD hS hl hbv_47 hvi_85_0 hvi_85_1 hvi_85_2 hloi_85 hni_85
                  have hzi_85 : wn.toInt ≤ i_85.toInt := by omega
                  refine lv_iload hx hb dX5_least_85 (lv_at hl 0 rfl) ?_
                  refine lv_aload_n hx hb dX5_least_87 rfl (lv_at hl 4 rfl) ?_
                  refine va_get (D := D) (ci := 5) (v := .int wn) (C := RX5) (T := TX5) (N := 7) hx hb hts hi_X5_least_5 hown hK hP 0 rfl rfl 4 (by decide) (hts (.fieldLink RX5 27 "TheLiningsInIt$Ways" "count" "I") (List.mem_of_getElem? (i := 3) rfl)) (fun _ h9 => h9) rfl dX5_least_88 ?_
                  refine lv_icmp_ge (tgt := 135) hx hb dX5_least_91 (by decide) (fun c_48 => ?_) (fun c_48 => ?_)
                  · have fc_48 : wn.toInt ≤ i_85.toInt := zf_le c_48 rfl rfl
                    refine lv_iload hx hb dX5_least_135 (lv_at hl 3 rfl) ?_
                    refine lv_if_eq (tgt := 149) hx hb dX5_least_137 (by decide) (fun c_49 => ?_) (fun c_49 => ?_)
                    · exact absurd c_49 (by decide)
                    · refine lv_aload_n hx hb dX5_least_140 rfl (lv_at hl 4 rfl) ?_
                      refine va_get (D := D) (ci := 5) (v := .ref wl) (C := RX5) (T := TX5) (N := 7) hx hb hts hi_X5_least_5 hown hK hP 0 rfl rfl 1 (by decide) (hts (.fieldLink RX5 15 "TheLiningsInIt$Ways" "knownLeast" "[I") (List.mem_of_getElem? (i := 2) rfl)) (fun _ h9 => h9) rfl dX5_least_141 ?_
                      refine lv_iload hx hb dX5_least_144 (lv_at hl 2 rfl) ?_
                      refine lv_iload hx hb dX5_least_146 (lv_at hl 1 rfl) ?_
                      refine va_iast hx hb hK hP hD hS 1 0 rfl rfl (zf_in (by omega) (by omega)) dX5_least_148 (fun H locs hP hD hS => ?_)
                      obtain ⟨g_50, hg_50⟩ : ∃ g : Nat → Int32, g = upd g_46 x_39.toNatClampNeg v_47 := ⟨_, rfl⟩
                      rw [← hg_50] at hP hD
                      have h9R := zRe (ws' := [(w0, .inr (5, [.ref wk, .ref wl, .ref wc, .ref wp, .int wn, .int wh, .int wg])), (wl, .inl (cI, 125, .inl g_50)), (wc, .inl (cI, 3, .inl fc)), (wp, .inl (cP, 8, .inr (.inr (.inr (.inr fq)))))]) hP hD rfl
                      clear hP hD
                      obtain ⟨hP, hD⟩ := h9R
                      refine lv_iload hx hb dX5_least_149 (lv_at hl 1 rfl) ?_
                      exact W.iret (v := v_47) hx hb hr (fun t ht hW => ⟨⟨v_47, g_50, rfl, ⟨(show zKn kq aq tq wn.toInt.toNat wh.toInt (fc 0).toInt (fc 1).toInt (fc 2).toInt wg.toInt g_50 from by (rw [hg_50]; exact zKn_u (m := 1) (d := d) (s := sec) hvi_85_0 (by omega) hgl (by omega) ⟨by omega, by omega⟩ (by omega) (by have h9 : i_85.toInt.toNat = wn.toInt.toNat := (by omega); have z := hvi_85_1; rw [h9] at z; rw [zLn_s, if_neg (by omega)]; exact z))), (show (v_47 : Int32).toInt = (zLn kq aq tq wn.toInt.toNat wh.toInt (fc 0).toInt (fc 1).toInt (fc 2).toInt 1) d.toInt sec.toInt from by (have h9 : i_85.toInt.toNat = wn.toInt.toNat := (by omega); have z := hvi_85_1; rw [h9] at z; rw [zLn_s, if_neg (by omega)]; exact z)), ⟨by omega, by omega⟩⟩, zRet ht hP hD [0, 1, 2, 3] (by decide) rfl⟩, hS.F ht⟩) hS.2.2 dX5_least_151
                  · exfalso; have fc_48 : i_85.toInt < wn.toInt := zf_nle c_48 rfl rfl; omega
                | succ nfu ih =>
                  intro i_85 v_47 g_46 H locs ls hP hD hS hl hbv_47 hvi_85_0 hvi_85_1 hvi_85_2 hloi_85 hni_85
                  refine lv_iload hx hb dX5_least_85 (lv_at hl 0 rfl) ?_
                  refine lv_aload_n hx hb dX5_least_87 rfl (lv_at hl 4 rfl) ?_
                  refine va_get (D := D) (ci := 5) (v := .int wn) (C := RX5) (T := TX5) (N := 7) hx hb hts hi_X5_least_5 hown hK hP 0 rfl rfl 4 (by decide) (hts (.fieldLink RX5 27 "TheLiningsInIt$Ways" "count" "I") (List.mem_of_getElem? (i := 3) rfl)) (fun _ h9 => h9) rfl dX5_least_88 ?_
                  refine lv_icmp_ge (tgt := 135) hx hb dX5_least_91 (by decide) (fun c_51 => ?_) (fun c_51 => ?_)
                  · have fc_51 : wn.toInt ≤ i_85.toInt := zf_le c_51 rfl rfl
                    refine lv_iload hx hb dX5_least_135 (lv_at hl 3 rfl) ?_
                    refine lv_if_eq (tgt := 149) hx hb dX5_least_137 (by decide) (fun c_52 => ?_) (fun c_52 => ?_)
                    · exact absurd c_52 (by decide)
                    · refine lv_aload_n hx hb dX5_least_140 rfl (lv_at hl 4 rfl) ?_
                      refine va_get (D := D) (ci := 5) (v := .ref wl) (C := RX5) (T := TX5) (N := 7) hx hb hts hi_X5_least_5 hown hK hP 0 rfl rfl 1 (by decide) (hts (.fieldLink RX5 15 "TheLiningsInIt$Ways" "knownLeast" "[I") (List.mem_of_getElem? (i := 2) rfl)) (fun _ h9 => h9) rfl dX5_least_141 ?_
                      refine lv_iload hx hb dX5_least_144 (lv_at hl 2 rfl) ?_
                      refine lv_iload hx hb dX5_least_146 (lv_at hl 1 rfl) ?_
                      refine va_iast hx hb hK hP hD hS 1 0 rfl rfl (zf_in (by omega) (by omega)) dX5_least_148 (fun H locs hP hD hS => ?_)
                      obtain ⟨g_53, hg_53⟩ : ∃ g : Nat → Int32, g = upd g_46 x_39.toNatClampNeg v_47 := ⟨_, rfl⟩
                      rw [← hg_53] at hP hD
                      have h9R := zRe (ws' := [(w0, .inr (5, [.ref wk, .ref wl, .ref wc, .ref wp, .int wn, .int wh, .int wg])), (wl, .inl (cI, 125, .inl g_53)), (wc, .inl (cI, 3, .inl fc)), (wp, .inl (cP, 8, .inr (.inr (.inr (.inr fq)))))]) hP hD rfl
                      clear hP hD
                      obtain ⟨hP, hD⟩ := h9R
                      refine lv_iload hx hb dX5_least_149 (lv_at hl 1 rfl) ?_
                      exact W.iret (v := v_47) hx hb hr (fun t ht hW => ⟨⟨v_47, g_53, rfl, ⟨(show zKn kq aq tq wn.toInt.toNat wh.toInt (fc 0).toInt (fc 1).toInt (fc 2).toInt wg.toInt g_53 from by (rw [hg_53]; exact zKn_u (m := 1) (d := d) (s := sec) hvi_85_0 (by omega) hgl (by omega) ⟨by omega, by omega⟩ (by omega) (by have h9 : i_85.toInt.toNat = wn.toInt.toNat := (by omega); have z := hvi_85_1; rw [h9] at z; rw [zLn_s, if_neg (by omega)]; exact z))), (show (v_47 : Int32).toInt = (zLn kq aq tq wn.toInt.toNat wh.toInt (fc 0).toInt (fc 1).toInt (fc 2).toInt 1) d.toInt sec.toInt from by (have h9 : i_85.toInt.toNat = wn.toInt.toNat := (by omega); have z := hvi_85_1; rw [h9] at z; rw [zLn_s, if_neg (by omega)]; exact z)), ⟨by omega, by omega⟩⟩, zRet ht hP hD [0, 1, 2, 3] (by decide) rfl⟩, hS.F ht⟩) hS.2.2 dX5_least_151
                  · have fc_51 : i_85.toInt < wn.toInt := zf_nle c_51 rfl rfl
                    refine lv_iload_n hx hb dX5_least_94 rfl (lv_at hl 5 rfl) ?_
                    refine lv_if_le (tgt := 135) hx hb dX5_least_95 (by decide) (fun c_54 => ?_) (fun c_54 => ?_)
                    · exact absurd c_54 (by decide)
                    · refine lv_aload_n hx hb dX5_least_98 rfl (lv_at hl 4 rfl) ?_
                      refine lv_iload hx hb dX5_least_99 (lv_at hl 0 rfl) ?_
                      refine lv_iload_n hx hb dX5_least_101 rfl (lv_at hl 6 rfl) ?_
                      refine lv_iload_n hx hb dX5_least_102 rfl (lv_at hl 7 rfl) ?_
                      refine zc_Vq (As := [.int i_85, .int d, .int sec]) (rest := []) ⟨hx, hb, hml, hown, hts⟩ (c_F_W_mayBeAt l D cI cJ cZ cP cS po w0 wk wl wc wp (wn) (wh) (wg) fq kq aq tq (tw) (i_85) (d) (sec) hy0 hy1 hy2 hy3 hy4 hy5 hjw (by omega) (by omega) (by omega) hy12 hy13) (cwV 3 hts gX5_least_X5_mayBeAt rfl rfl rfl ⟨rfl, dh_X5_mayBeAt⟩ ⟨Nat.le_of_ble_eq_true rfl, Nat.le_of_ble_eq_true rfl⟩) hK hN (hZ.kept hS) hP (hP.sub [0, 3] rfl) (va_recv (q := (RX5, TX5, 7)) hK hP (ci := 5) (q0 := 0) rfl rfl) rfl hl.1 rfl (Nat.le_of_ble_eq_true rfl) dX5_least_103 ⟨Nat.le_of_ble_eq_true rfl, Nat.le_of_ble_eq_true rfl⟩ (fun r_55 hr_55 => ?_)
                      rcases hr_55 with ⟨rfl, hn_56⟩ | ⟨rfl, hn_58, g_57⟩ | ⟨rfl, hn_60, g_59⟩ | ⟨⟨u_62, kiu_62, au_62, tu_62, rfl, huu_62, hkku_62⟩, g_61⟩
                      · refine lv_astoreN (lv' := [(8, .null), (7, .int i_85), (6, .int v_47), (5, .int x_39), (4, .int 1), (0, .ref w0), (1, .int 1), (2, .int d), (3, .int sec)]) hx hb dX5_least_106 hl (by decide) rfl (fun ls hl => ?_)
                        refine lv_aloadN hx hb dX5_least_108 (lv_at hl 0 rfl) ?_
                        refine lv_ifnullN (tgt := 129) hx hb dX5_least_110 (by decide) ?_
                        obtain ⟨x_63, ex_63⟩ : ∃ y : Int32, y = i_85 + 1 := ⟨_, rfl⟩
                        have qx_63 : x_63.toInt = i_85.toInt + 1 := dw_inc ex_63 fc_51
                        refine lv_iinc (v := x_63) (lv' := [(7, .int x_63), (8, .null), (6, .int v_47), (5, .int x_39), (4, .int 1), (0, .ref w0), (1, .int 1), (2, .int d), (3, .int sec)]) hx hb dX5_least_129 hl (k := 1) rfl ex_63.symm (by decide) rfl (fun ls hl => ?_)
                        refine lv_goto (tgt := 85) hx hb dX5_least_132 (by decide) ?_
                        exact ih x_63 v_47 (g_46) _ _ _ (hP.sub [0, 1, 2, 3] rfl) (hD.sub [0, 1, 2, 3] (by decide) rfl) hS (lv_sub hl [0, 2, 3, 4, 5, 6, 7, 8] rfl) hbv_47 (show zKn kq aq tq wn.toInt.toNat wh.toInt (fc 0).toInt (fc 1).toInt (fc 2).toInt wg.toInt g_46 from by exact hvi_85_0) (show (v_47 : Int32).toInt = zFi tq d.toInt sec.toInt (zPw 1 * zAt (fc 1).toInt (fc 2).toInt sec.toInt) (zLv (zLn kq aq tq wn.toInt.toNat wh.toInt (fc 0).toInt (fc 1).toInt (fc 2).toInt 0) kq aq tq (fc 0).toInt (zPw 1) wh.toInt d.toInt sec.toInt) x_63.toInt.toNat from by (have hx : x_63.toInt.toNat = i_85.toInt.toNat + 1 := (by omega); have y4 := hn_56; have y9 : i_85.toNatClampNeg = i_85.toInt.toNat := rfl; rw [y9] at y4; rw [hx, zFi_n (fun z => y4 ⟨z.1, z.2, Or.inl (by omega)⟩)]; exact hvi_85_1)) (show x_63.toInt ≤ wn.toInt from by omega) (dw_lo hloi_85 qx_63) (dw_hn hni_85 qx_63)
                      · exfalso; omega
                      · refine lv_astoreN (lv' := [(8, .null), (7, .int i_85), (6, .int v_47), (5, .int x_39), (4, .int 1), (0, .ref w0), (1, .int 1), (2, .int d), (3, .int sec)]) hx hb dX5_least_106 hl (by decide) rfl (fun ls hl => ?_)
                        refine lv_aloadN hx hb dX5_least_108 (lv_at hl 0 rfl) ?_
                        refine lv_ifnullN (tgt := 129) hx hb dX5_least_110 (by decide) ?_
                        obtain ⟨x_64, ex_64⟩ : ∃ y : Int32, y = i_85 + 1 := ⟨_, rfl⟩
                        have qx_64 : x_64.toInt = i_85.toInt + 1 := dw_inc ex_64 fc_51
                        refine lv_iinc (v := x_64) (lv' := [(7, .int x_64), (8, .null), (6, .int v_47), (5, .int x_39), (4, .int 1), (0, .ref w0), (1, .int 1), (2, .int d), (3, .int sec)]) hx hb dX5_least_129 hl (k := 1) rfl ex_64.symm (by decide) rfl (fun ls hl => ?_)
                        refine lv_goto (tgt := 85) hx hb dX5_least_132 (by decide) ?_
                        exact ih x_64 v_47 (g_46) _ _ _ (hP.sub [0, 1, 2, 3] rfl) (hD.sub [0, 1, 2, 3] (by decide) rfl) hS (lv_sub hl [0, 2, 3, 4, 5, 6, 7, 8] rfl) hbv_47 (show zKn kq aq tq wn.toInt.toNat wh.toInt (fc 0).toInt (fc 1).toInt (fc 2).toInt wg.toInt g_46 from by exact hvi_85_0) (show (v_47 : Int32).toInt = zFi tq d.toInt sec.toInt (zPw 1 * zAt (fc 1).toInt (fc 2).toInt sec.toInt) (zLv (zLn kq aq tq wn.toInt.toNat wh.toInt (fc 0).toInt (fc 1).toInt (fc 2).toInt 0) kq aq tq (fc 0).toInt (zPw 1) wh.toInt d.toInt sec.toInt) x_64.toInt.toNat from by (have hx : x_64.toInt.toNat = i_85.toInt.toNat + 1 := (by omega); have y4 := hn_60; have y9 : i_85.toNatClampNeg = i_85.toInt.toNat := rfl; rw [y9] at y4; rw [hx, zFi_n (fun z => y4 ⟨z.1, z.2, Or.inl (by omega)⟩)]; exact hvi_85_1)) (show x_64.toInt ≤ wn.toInt from by omega) (dw_lo hloi_85 qx_64) (dw_hn hni_85 qx_64)
                      · refine W.eq (g2 := F0 m 106 ls (.ref u_62 :: [])) rfl ?_
                        obtain ⟨hku_62, hau_62, htu_62⟩ := zPu_pr (hZ.kept hS) huu_62
                        refine lv_astore (lv' := [(8, .ref u_62), (7, .int i_85), (6, .int v_47), (5, .int x_39), (4, .int 1), (0, .ref w0), (1, .int 1), (2, .int d), (3, .int sec)]) hx hb dX5_least_106 hl (by decide) rfl (fun ls hl => ?_)
                        refine lv_aload hx hb dX5_least_108 (lv_at hl 0 rfl) ?_
                        refine lv_ifnull hx hb dX5_least_110 ?_
                        refine lv_iload hx hb dX5_least_113 (lv_at hl 2 rfl) ?_
                        refine lv_aload_n hx hb dX5_least_115 rfl (lv_at hl 5 rfl) ?_
                        refine lv_aload hx hb dX5_least_116 (lv_at hl 0 rfl) ?_
                        refine lv_iload_n hx hb dX5_least_118 rfl (lv_at hl 6 rfl) ?_
                        refine lv_iload_n hx hb dX5_least_119 rfl (lv_at hl 7 rfl) ?_
                        refine lv_iload_n hx hb dX5_least_120 rfl (lv_at hl 8 rfl) ?_
                        have tsu_62 : tu_62.toInt ≤ sec.toInt := by (obtain ⟨⟨y1, y2, y3⟩, y4⟩ := hkku_62; have z := y4.2.1; rw [y3]; exact z)
                        skip
                        refine zw_V (As := [.ref u_62, .int 1, .int d, .int sec]) (rest := [.int v_47]) (wr := []) ⟨hx, hb, hml, hown, hts⟩ (c_F_W_leastBy_1 l D cI cJ cZ cP cS po w0 wk wl wc wp (wn) (wh) (wg) fq kq aq tq (tw) g_46 fc (d) (sec) u_62 (kiu_62) (au_62) (tu_62) huu_62 ⟨by omega, by omega, by omega, by omega⟩ hy0 hy1 hy2 hy3 hy4 hy5 hjw (by first | assumption | omega) (by first | assumption | omega) (by first | assumption | omega | decide) hy10 hy11 hy12 hy13 (by omega) hp_fc H.size) (cwV 4 hts gX5_least_X5_leastBy rfl rfl rfl ⟨rfl, dh_X5_leastBy⟩ ⟨Nat.le_of_ble_eq_true rfl, Nat.le_of_ble_eq_true rfl⟩) hK hN (hZ.kept hS) hP hD hS hA [0, 1, 2, 3] [] rfl rfl (by decide) (by decide) (by decide) (va_recv (q := (RX5, TX5, 7)) hK hP (ci := 5) (q0 := 0) rfl rfl) rfl hl.1 rfl (Nat.le_of_ble_eq_true rfl) dX5_least_121 ⟨Nat.le_of_ble_eq_true rfl, Nat.le_of_ble_eq_true rfl⟩ (fun r_65 u_66 H locs hr_65 hP hD hS => ?_)
                        obtain ⟨q_67, rfl⟩ : ∃ z, z = u_66 := ⟨_, rfl⟩
                        obtain ⟨hsr_65_0, hsr_65_1, hr_65⟩ := hr_65
                        have h9R := zRe (ws' := [(w0, .inr (5, [.ref wk, .ref wl, .ref wc, .ref wp, .int wn, .int wh, .int wg])), (wl, .inl (cI, 125, .inl q_67)), (wc, .inl (cI, 3, .inl fc)), (wp, .inl (cP, 8, .inr (.inr (.inr (.inr fq)))))]) hP hD rfl
                        clear hP hD
                        obtain ⟨hP, hD⟩ := h9R
                        obtain ⟨g_68, g_69⟩ := hr_65
                        refine va_mmin hx hb (hml.trans hl.1.symm) hown (hts (.methodLink RX5 110 Lib.Math.min.name) (List.mem_of_getElem? (i := 4) rfl)) (hts _ (List.mem_of_getElem? (i := 5) rfl)) (hts _ (List.mem_of_getElem? (i := 6) rfl)) (hts _ (List.mem_of_getElem? (i := 7) rfl)) (Nat.le_of_ble_eq_true rfl) (Nat.le_of_ble_eq_true rfl) (Nat.le_of_ble_eq_true rfl) (Nat.le_of_ble_eq_true rfl) dX5_least_124 ?_
                        refine lv_topi (fun x_70 ex_70 => ?_)
                        have qx_70 := zf_min ex_70 (x1 := v_47.toInt) (y1 := r_65.toInt) rfl rfl
                        refine lv_istore (lv' := [(6, .int x_70), (8, .ref u_62), (7, .int i_85), (5, .int x_39), (4, .int 1), (0, .ref w0), (1, .int 1), (2, .int d), (3, .int sec)]) hx hb dX5_least_127 hl (by decide) rfl (fun ls hl => ?_)
                        obtain ⟨x_71, ex_71⟩ : ∃ y : Int32, y = i_85 + 1 := ⟨_, rfl⟩
                        have qx_71 : x_71.toInt = i_85.toInt + 1 := dw_inc ex_71 fc_51
                        refine lv_iinc (v := x_71) (lv' := [(7, .int x_71), (6, .int x_70), (8, .ref u_62), (5, .int x_39), (4, .int 1), (0, .ref w0), (1, .int 1), (2, .int d), (3, .int sec)]) hx hb dX5_least_129 hl (k := 2) rfl ex_71.symm (by decide) rfl (fun ls hl => ?_)
                        refine lv_goto (tgt := 85) hx hb dX5_least_132 (by decide) ?_
                        exact ih x_71 x_70 (q_67) _ _ _ (hP.sub [0, 1, 2, 3] rfl) (hD.sub [0, 1, 2, 3] (by decide) rfl) hS (lv_sub hl [0, 1, 3, 4, 5, 6, 7, 8] rfl) ⟨by omega, by omega⟩ (show zKn kq aq tq wn.toInt.toNat wh.toInt (fc 0).toInt (fc 1).toInt (fc 2).toInt wg.toInt q_67 from by exact hsr_65_0) (show (x_70 : Int32).toInt = zFi tq d.toInt sec.toInt (zPw 1 * zAt (fc 1).toInt (fc 2).toInt sec.toInt) (zLv (zLn kq aq tq wn.toInt.toNat wh.toInt (fc 0).toInt (fc 1).toInt (fc 2).toInt 0) kq aq tq (fc 0).toInt (zPw 1) wh.toInt d.toInt sec.toInt) x_71.toInt.toNat from by (have hx : x_71.toInt.toNat = i_85.toInt.toNat + 1 := (by omega); obtain ⟨⟨y1, y2, y3⟩, y4⟩ := hkku_62; have y9 : i_85.toNatClampNeg = i_85.toInt.toNat := rfl; rw [y9] at y1 y2 y3 y4; rw [hx, zFi_y ⟨y4.1, y4.2.1⟩, ← hvi_85_1]; have zr := hsr_65_1; rw [y1, y2, y3] at zr; have zr2 : r_65.toInt = (zLv (zLn kq aq tq wn.toInt.toNat wh.toInt (fc 0).toInt (fc 1).toInt (fc 2).toInt 0) kq aq tq (fc 0).toInt (zPw 1) wh.toInt d.toInt sec.toInt) i_85.toInt.toNat := zr; omega)) (show x_71.toInt ≤ wn.toInt from by omega) (dw_lo hloi_85 qx_71) (dw_hn hni_85 qx_71)
              · have fc_42 : x_41.toInt ≠ (-1) := zf_ne c_42 rfl (by decide)
                refine lv_aload_n hx hb dX5_least_66 rfl (lv_at hl 2 rfl) ?_
                refine va_get (D := D) (ci := 5) (v := .ref wl) (C := RX5) (T := TX5) (N := 7) hx hb hts hi_X5_least_5 hown hK hP 0 rfl rfl 1 (by decide) (hts (.fieldLink RX5 15 "TheLiningsInIt$Ways" "knownLeast" "[I") (List.mem_of_getElem? (i := 2) rfl)) (fun _ h9 => h9) rfl dX5_least_67 ?_
                refine lv_iload hx hb dX5_least_70 (lv_at hl 0 rfl) ?_
                refine va_iald hx hb hK hP 1 0 rfl rfl (zf_in (by omega) (by omega)) dX5_least_72 ?_
                refine lv_topi (fun y_72 ey_72 => ?_)
                obtain rfl : x_41 = y_72 := ex_41.trans ey_72.symm
                have hmx_41 : x_41.toInt = (zLn kq aq tq wn.toInt.toNat wh.toInt (fc 0).toInt (fc 1).toInt (fc 2).toInt 1) d.toInt sec.toInt := by (have zn : (fl x_39.toNatClampNeg).toInt ≠ -1 := (by rw [← ex_41]; omega); rw [ex_41]; exact zKn_at (m := 1) hkn (by decide) (by omega) ⟨by omega, by omega⟩ (by omega) zn)
                have hrx_41 := zLn_rg (K := kq) (A := aq) (T := tq) (N := wn.toInt.toNat) (h := wh.toInt) (hp_fc 0) (hp_fc 1) (hp_fc 2) 1 d.toInt sec.toInt
                rw [← hmx_41, show zPw 1 = 12 from by decide] at hrx_41
                exact W.iret (v := x_41) hx hb hr (fun t ht hW => ⟨⟨x_41, fl, rfl, ⟨(show zKn kq aq tq wn.toInt.toNat wh.toInt (fc 0).toInt (fc 1).toInt (fc 2).toInt wg.toInt fl from by exact hkn), (show (x_41 : Int32).toInt = (zLn kq aq tq wn.toInt.toNat wh.toInt (fc 0).toInt (fc 1).toInt (fc 2).toInt 1) d.toInt sec.toInt from by exact hmx_41), ⟨by omega, by omega⟩⟩, zRet ht hP hD [0, 1, 2, 3] (by decide) rfl⟩, hS.F ht⟩) hS.2.2 dX5_least_73
        · exfalso; have fc_4 : 24 < d.toInt := zf_nle c_4 rfl (by decide); omega
set_option maxHeartbeats 4000000 in
set_option maxRecDepth 100000 in
theorem c_F_W_leastBy_2 (l : Launch) (D : va_G) (cI cJ cZ cP cS : ClassId) (po : zPool) (w0 wk wl wc wp : Nat) (wn wh wg : Int32) (fq : Nat → Option Nat) (kq aq tq : Nat → Int32) (tw : Int32) (fl fc : Nat → Int32) (d sec : Int32) (u0 : Nat) (ki a_ ta : Int32) (hu_u0 : zPu po u0 ki a_ ta) (hr_u0 : zPr ki a_ ta) (hy2 : 0 ≤ wn.toInt) (hy3 : wn.toInt ≤ 8) (hy4 : 0 ≤ wh.toInt) (hy5 : wh.toInt ≤ 9) (hy6 : 0 ≤ wg.toInt) (hy7 : wg.toInt ≤ 60) (hjw : zJW po fq wn kq aq tq tw) (hkn : zKn kq aq tq wn.toInt.toNat wh.toInt (fc 0).toInt (fc 1).toInt (fc 2).toInt wg.toInt fl) (hgl : (∀ p : Nat, p < wn.toInt.toNat → (tq p).toInt ≤ wg.toInt)) (htw : tw.toInt = 1) (hy12 : 0 ≤ d.toInt) (hy13 : d.toInt ≤ 24) (hy14 : 0 ≤ sec.toInt) (hy15 : sec.toInt ≤ 300) (hy16 : ta.toInt ≤ sec.toInt) (hp_fc : zRg fc (0) 99) (hpz : Nat) : Met l yX5_leastBy wsX5_leastBy ({ frames := 5, cells := 0, slots := 0, locals := 126 }) (va_Pc [.ref w0, .ref u0, .int 2, .int d, .int sec] (zW D (zKT cI cJ cZ cP cS) po [(w0, .inr (5, [.ref wk, .ref wl, .ref wc, .ref wp, .int wn, .int wh, .int wg])), (wl, .inl (cI, 125, .inl fl)), (wc, .inl (cI, 3, .inl fc)), (wp, .inl (cP, 8, .inr (.inr (.inr (.inr fq)))))] hpz)) (va_Qi (fun (r : Int32) (fl2 : (Nat → Int32)) => (zKn kq aq tq wn.toInt.toNat wh.toInt (fc 0).toInt (fc 1).toInt (fc 2).toInt wg.toInt fl2) ∧ (r.toInt = zLb (zLn kq aq tq wn.toInt.toNat wh.toInt (fc 0).toInt (fc 1).toInt (fc 2).toInt 1) (fc 0).toInt (zPw 2) ki.toInt a_.toInt ta.toInt wh.toInt d.toInt sec.toInt) ∧ (0 ≤ r.toInt ∧ r.toInt ≤ 28512)) (zB D [(w0, .inr (5, [.ref wk, .ref wl, .ref wc, .ref wp, .int wn, .int wh, .int wg])), (wl, .inl (cI, 125, .inl fl)), (wc, .inl (cI, 3, .inl fc)), (wp, .inl (cP, 8, .inr (.inr (.inr (.inr fq)))))] hpz (fun (fl2 : Nat → Int32) => [(w0, .inr (5, [.ref wk, .ref wl, .ref wc, .ref wp, .int wn, .int wh, .int wg])), (wl, .inl (cI, 125, .inl fl2)), (wc, .inl (cI, 3, .inl fc)), (wp, .inl (cP, 8, .inr (.inr (.inr (.inr fq)))))])) (va_A [(w0, .inr (5, [.ref wk, .ref wl, .ref wc, .ref wp, .int wn, .int wh, .int wg])), (wl, .inl (cI, 125, .inl fl)), (wc, .inl (cI, 3, .inl fc)), (wp, .inl (cP, 8, .inr (.inr (.inr (.inr fq)))))] hpz)) 0 0 (va_A [(w0, .inr (5, [.ref wk, .ref wl, .ref wc, .ref wp, .int wn, .int wh, .int wg])), (wl, .inl (cI, 125, .inl fl)), (wc, .inl (cI, 3, .inl fc)), (wp, .inl (cP, 8, .inr (.inr (.inr (.inr fq)))))] hpz) := by
  refine Met.ofW (cc := cX5_leastBy) (maxL := 8) (ret := (some .int)) (by decide) rfl ?_
  intro p e s m args below meth c s₁ B hml hv
  obtain ⟨rfl, hsz, hP, hK, hD0, hN, hZ⟩ := hv
  have hx := B.exec
  have hb := B.bytes
  have hr := B.returns
  have hts := atoms_spec (ws := wsX5_leastBy) B.pre
  have hown : s.vm.findClass RX5 = some m.cls := findClass_of_methodNamed B.named
  have hlocks := B.notSynchronized
  subst hsz
  have hD := hD0.self (sz := s.heap.size)
  have hA := zA_of hD
  have hl := lv_entry ([.ref w0, .ref u0, .int 2, .int d, .int sec]) (n := 8) (Nat.le_of_ble_eq_true rfl)
  rw [lg_entry_eq]
  generalize (lg_sl ([.ref w0, .ref u0, .int 2, .int d, .int sec]) ++ List.replicate (8 - (lg_sl ([.ref w0, .ref u0, .int 2, .int d, .int sec])).length) Slot.unset).toArray = ls at hl ⊢
  replace hl : lv_has ls 8 [(0, .ref w0), (1, .ref u0), (2, .int 2), (3, .int d), (4, .int sec)] := hl
  refine zw_begin hP hD (fun H locs hP1 hS => ?_)
  clear hP
  have hP := hP1
  clear hP1
  obtain ⟨⟨p1_u0, p2_u0⟩, ⟨p3_u0, p4_u0⟩, p5_u0, p6_u0⟩ := id hr_u0
  refine lv_aload_n hx hb dX5_leastBy_0 rfl (lv_at hl 1 rfl) ?_
  refine lv_iload_n hx hb dX5_leastBy_1 rfl (lv_at hl 3 rfl) ?_
  refine lv_aload_n hx hb dX5_leastBy_2 rfl (lv_at hl 0 rfl) ?_
  refine va_get (D := D) (ci := 5) (v := .int wh) (C := RX5) (T := TX5) (N := 7) hx hb hts hi_X5_leastBy_5 hown hK hP 0 rfl rfl 5 (by decide) (hts (.fieldLink RX5 31 "TheLiningsInIt$Ways" "hurry" "I") (List.mem_of_getElem? (i := 1) rfl)) (fun _ h9 => h9) rfl dX5_leastBy_3 ?_
  refine zc_V (As := [.int d, .int wh]) (rest := []) ⟨hx, hb, hml, hown, hts⟩ (c_F_Pull_waysAt l D cI cJ cZ cP cS po (d) (wh) u0 (ki) (a_) (ta) hu_u0 ⟨by omega, by omega, by omega, by omega⟩ hy12 hy13 hy4 hy5) (cwV 2 hts gX5_leastBy_X2_waysAt rfl rfl rfl ⟨rfl, dh_X2_waysAt⟩ ⟨Nat.le_of_ble_eq_true rfl, Nat.le_of_ble_eq_true rfl⟩) hK hN (hZ.kept hS) hP zP_nil (va_recv (q := (RX2, TX2, 3)) hK (zPu_P (hZ.kept hS) hu_u0) (ci := 2) (q0 := 0) rfl rfl) rfl hl.1 rfl (Nat.le_of_ble_eq_true rfl) dX5_leastBy_6 ⟨Nat.le_of_ble_eq_true rfl, Nat.le_of_ble_eq_true rfl⟩ (fun r_1 hr_1 => ?_)
  obtain ⟨g_2, g_3, hsr_1_0⟩ := hr_1
  refine lv_istore (lv' := [(5, .int r_1), (0, .ref w0), (1, .ref u0), (2, .int 2), (3, .int d), (4, .int sec)]) hx hb dX5_leastBy_9 hl (by decide) rfl (fun ls hl => ?_)
  refine lv_iload hx hb dX5_leastBy_11 (lv_at hl 5 rfl) ?_
  refine lv_aload_n hx hb dX5_leastBy_13 rfl (lv_at hl 2 rfl) ?_
  refine va_get (D := D) (ci := 2) (v := .int ta) (C := RX2) (T := TX2) (N := 3) hx hb hts hi_X5_leastBy_2 hown hK (zPu_P (hZ.kept hS) hu_u0) 0 rfl rfl 2 (by decide) (hts (.fieldLink RX5 49 "TheLiningsInIt$Pull" "takes" "I") (List.mem_of_getElem? (i := 2) rfl)) (fun _ h9 => h9) rfl dX5_leastBy_14 ?_
  refine lv_isub hx hb dX5_leastBy_17 ?_
  refine lv_topi (fun x_4 ex_4 => ?_)
  have qx_4 : x_4.toInt = sec.toInt - ta.toInt := by rw [ex_4]; exact zf_sub rfl rfl (by omega) (by omega)
  refine lv_istore (lv' := [(6, .int x_4), (5, .int r_1), (0, .ref w0), (1, .ref u0), (2, .int 2), (3, .int d), (4, .int sec)]) hx hb dX5_leastBy_18 hl (by decide) rfl (fun ls hl => ?_)
  refine lv_aload_n hx hb dX5_leastBy_20 rfl (lv_at hl 3 rfl) ?_
  refine va_get (D := D) (ci := 2) (v := .int ki) (C := RX2) (T := TX2) (N := 3) hx hb hts hi_X5_leastBy_2 hown hK (zPu_P (hZ.kept hS) hu_u0) 0 rfl rfl 0 (by decide) (hts (.fieldLink RX5 46 "TheLiningsInIt$Pull" "kind" "I") (List.mem_of_getElem? (i := 3) rfl)) (fun _ h9 => h9) rfl dX5_leastBy_21 ?_
  refine lv_iconst (v := 5) hx hb dX5_leastBy_24 (by decide) ?_
  refine lv_icmp_ne (tgt := 43) hx hb dX5_leastBy_25 (by decide) (fun c_5 => ?_) (fun c_5 => ?_)
  · have fc_5 : ki.toInt ≠ 5 := zf_ne c_5 rfl (by decide)
    refine lv_iconst (v := 0) hx hb dX5_leastBy_43 (by decide) ?_
    refine lv_istore (lv' := [(7, .int 0), (6, .int x_4), (5, .int r_1), (0, .ref w0), (1, .ref u0), (2, .int 2), (3, .int d), (4, .int sec)]) hx hb dX5_leastBy_44 hl (by decide) rfl (fun ls hl => ?_)
    refine lv_iload hx hb dX5_leastBy_46 (lv_at hl 2 rfl) ?_
    refine lv_if_le (tgt := 73) hx hb dX5_leastBy_48 (by decide) (fun c_6 => ?_) (fun c_6 => ?_)
    · have fc_6 : r_1.toInt ≤ 0 := zf_le c_6 rfl (by decide)
      refine lv_iload hx hb dX5_leastBy_73 (lv_at hl 2 rfl) ?_
      refine lv_bipush (v := 12) hx hb dX5_leastBy_75 (by decide) ?_
      refine lv_icmp_ge (tgt := 109) hx hb dX5_leastBy_77 (by decide) (fun c_7 => ?_) (fun c_7 => ?_)
      · exfalso; have fc_7 : 12 ≤ r_1.toInt := zf_le c_7 (by decide) rfl; omega
      · have fc_7 : r_1.toInt < 12 := zf_nle c_7 (by decide) rfl
        refine lv_iload hx hb dX5_leastBy_80 (lv_at hl 0 rfl) ?_
        refine lv_bipush (v := 12) hx hb dX5_leastBy_82 (by decide) ?_
        refine lv_iload hx hb dX5_leastBy_84 (lv_at hl 2 rfl) ?_
        refine lv_isub hx hb dX5_leastBy_86 ?_
        refine lv_topi (fun x_8 ex_8 => ?_)
        have qx_8 : x_8.toInt = 12 - r_1.toInt := by rw [ex_8]; exact zf_sub (by decide) rfl (by omega) (by omega)
        refine lv_aload_n hx hb dX5_leastBy_87 rfl (lv_at hl 3 rfl) ?_
        refine lv_iload_n hx hb dX5_leastBy_88 rfl (lv_at hl 5 rfl) ?_
        refine lv_iconst (v := 1) hx hb dX5_leastBy_89 (by decide) ?_
        refine lv_isub hx hb dX5_leastBy_90 ?_
        refine lv_topi (fun y_9 ey_9 => ?_)
        obtain rfl : y_9 = 1 := ey_9.trans (by decide)
        refine lv_aload_n hx hb dX5_leastBy_91 rfl (lv_at hl 4 rfl) ?_
        refine lv_iload_n hx hb dX5_leastBy_92 rfl (lv_at hl 6 rfl) ?_
        refine lv_aload_n hx hb dX5_leastBy_93 rfl (lv_at hl 3 rfl) ?_
        refine va_get (D := D) (ci := 5) (v := .int wh) (C := RX5) (T := TX5) (N := 7) hx hb hts hi_X5_leastBy_5 hown hK hP 0 rfl rfl 5 (by decide) (hts (.fieldLink RX5 31 "TheLiningsInIt$Ways" "hurry" "I") (List.mem_of_getElem? (i := 1) rfl)) (fun _ h9 => h9) rfl dX5_leastBy_94 ?_
        refine zc_V (As := [.int d, .int wh]) (rest := [.int 1, .ref w0, .int x_8, .int 0]) ⟨hx, hb, hml, hown, hts⟩ (c_F_Pull_deeper l D cI cJ cZ cP cS po (d) (wh) u0 (ki) (a_) (ta) hu_u0 ⟨by omega, by omega, by omega, by omega⟩ hy12 hy13 hy4 hy5) (cwV 2 hts gX5_leastBy_X2_deeper rfl rfl rfl ⟨rfl, dh_X2_deeper⟩ ⟨Nat.le_of_ble_eq_true rfl, Nat.le_of_ble_eq_true rfl⟩) hK hN (hZ.kept hS) hP zP_nil (va_recv (q := (RX2, TX2, 3)) hK (zPu_P (hZ.kept hS) hu_u0) (ci := 2) (q0 := 0) rfl rfl) rfl hl.1 rfl (Nat.le_of_ble_eq_true rfl) dX5_leastBy_97 ⟨Nat.le_of_ble_eq_true rfl, Nat.le_of_ble_eq_true rfl⟩ (fun r_10 hr_10 => ?_)
        obtain ⟨g_11, g_12, hsr_10_0⟩ := hr_10
        refine lv_iload hx hb dX5_leastBy_100 (lv_at hl 1 rfl) ?_
        skip
        refine zw_V (As := [.int 1, .int r_10, .int x_4]) (rest := [.int x_8, .int 0]) (wr := []) ⟨hx, hb, hml, hown, hts⟩ (c_F_W_least_1 l D cI cJ cZ cP cS po w0 wk wl wc wp (wn) (wh) (wg) fq kq aq tq (tw) fl fc (r_10) (x_4) hy2 hy3 hy4 hy5 hy6 hy7 hjw (by first | assumption | omega) (by first | assumption | omega) (by first | assumption | omega | decide) (by omega) (by omega) (by omega) (by omega) hp_fc H.size) (cwV 3 hts gX5_leastBy_X5_least rfl rfl rfl ⟨rfl, dh_X5_least⟩ ⟨Nat.le_of_ble_eq_true rfl, Nat.le_of_ble_eq_true rfl⟩) hK hN (hZ.kept hS) hP hD hS hA [0, 1, 2, 3] [] rfl rfl (by decide) (by decide) (by decide) (va_recv (q := (RX5, TX5, 7)) hK hP (ci := 5) (q0 := 0) rfl rfl) rfl hl.1 rfl (Nat.le_of_ble_eq_true rfl) dX5_leastBy_102 ⟨Nat.le_of_ble_eq_true rfl, Nat.le_of_ble_eq_true rfl⟩ (fun r_13 u_14 H locs hr_13 hP hD hS => ?_)
        obtain ⟨q_15, rfl⟩ : ∃ z, z = u_14 := ⟨_, rfl⟩
        obtain ⟨hsr_13_0, hsr_13_1, hr_13⟩ := hr_13
        have h9R := zRe (ws' := [(w0, .inr (5, [.ref wk, .ref wl, .ref wc, .ref wp, .int wn, .int wh, .int wg])), (wl, .inl (cI, 125, .inl q_15)), (wc, .inl (cI, 3, .inl fc)), (wp, .inl (cP, 8, .inr (.inr (.inr (.inr fq)))))]) hP hD rfl
        clear hP hD
        obtain ⟨hP, hD⟩ := h9R
        obtain ⟨g_16, g_17⟩ := hr_13
        refine lv_imul hx hb dX5_leastBy_105 ?_
        refine lv_topi (fun x_18 ex_18 => ?_)
        obtain ⟨mx_18, nx_18, ox_18⟩ := zf_mulc (a := x_8) (b := r_13) (x := x_8.toInt) (y := r_13.toInt) (P := 1188) rfl rfl ⟨by omega, by omega⟩ ⟨by omega, by omega⟩ (by decide)
        rw [← ex_18] at mx_18
        refine lv_iadd hx hb dX5_leastBy_106 ?_
        refine lv_topi (fun x_19 ex_19 => ?_)
        have qx_19 : x_19.toInt = 0 + x_18.toInt := by rw [ex_19]; exact zf_add (by decide) rfl (by omega) (by omega)
        refine lv_istore (lv' := [(7, .int x_19), (6, .int x_4), (5, .int r_1), (0, .ref w0), (1, .ref u0), (2, .int 2), (3, .int d), (4, .int sec)]) hx hb dX5_leastBy_107 hl (by decide) rfl (fun ls hl => ?_)
        refine lv_iload hx hb dX5_leastBy_109 (lv_at hl 0 rfl) ?_
        exact W.iret (v := x_19) hx hb hr (fun t ht hW => ⟨⟨x_19, q_15, rfl, ⟨(show zKn kq aq tq wn.toInt.toNat wh.toInt (fc 0).toInt (fc 1).toInt (fc 2).toInt wg.toInt q_15 from by first | exact hsr_13_0 | assumption), (show (x_19 : Int32).toInt = zLb (zLn kq aq tq wn.toInt.toNat wh.toInt (fc 0).toInt (fc 1).toInt (fc 2).toInt 1) (fc 0).toInt (zPw 2) ki.toInt a_.toInt ta.toInt wh.toInt d.toInt sec.toInt from by (have zw := hsr_1_0; have E1 : r_1.toInt * (zLn kq aq tq wn.toInt.toNat wh.toInt (fc 0).toInt (fc 1).toInt (fc 2).toInt 1) (zShl ki.toInt a_.toInt d.toInt) (sec.toInt - ta.toInt) = 0 := (by rw [show r_1.toInt = 0 from by omega, Int.zero_mul]); have E2 : (12 - r_1.toInt) * (zLn kq aq tq wn.toInt.toNat wh.toInt (fc 0).toInt (fc 1).toInt (fc 2).toInt 1) (zDpr ki.toInt a_.toInt wh.toInt d.toInt) (sec.toInt - ta.toInt) = x_18.toInt := (by rw [← hsr_10_0, show sec.toInt - ta.toInt = (x_4 : Int32).toInt from by omega, ← hsr_13_1, show 12 - r_1.toInt = x_8.toInt from by omega]; omega); unfold zLb zBy1; rw [← zw, E1, E2, show zPw 2 = 144 from by decide]; first | (rw [if_neg (by omega)]; omega) | (rw [if_pos (by omega)]; omega))), ⟨by omega, by omega⟩⟩, zRet ht hP hD [0, 1, 2, 3] (by decide) rfl⟩, hS.F ht⟩) hS.2.2 dX5_leastBy_111
    · have fc_6 : 0 < r_1.toInt := zf_nle c_6 rfl (by decide)
      refine lv_iload hx hb dX5_leastBy_51 (lv_at hl 0 rfl) ?_
      refine lv_iload hx hb dX5_leastBy_53 (lv_at hl 2 rfl) ?_
      refine lv_aload_n hx hb dX5_leastBy_55 rfl (lv_at hl 3 rfl) ?_
      refine lv_iload_n hx hb dX5_leastBy_56 rfl (lv_at hl 5 rfl) ?_
      refine lv_iconst (v := 1) hx hb dX5_leastBy_57 (by decide) ?_
      refine lv_isub hx hb dX5_leastBy_58 ?_
      refine lv_topi (fun y_20 ey_20 => ?_)
      obtain rfl : y_20 = 1 := ey_20.trans (by decide)
      refine lv_aload_n hx hb dX5_leastBy_59 rfl (lv_at hl 4 rfl) ?_
      refine lv_iload_n hx hb dX5_leastBy_60 rfl (lv_at hl 6 rfl) ?_
      refine zc_V (As := [.int d]) (rest := [.int 1, .ref w0, .int r_1, .int 0]) ⟨hx, hb, hml, hown, hts⟩ (c_F_Pull_shallower l D cI cJ cZ cP cS po (d) u0 (ki) (a_) (ta) hu_u0 ⟨by omega, by omega, by omega, by omega⟩ hy12 hy13) (cwV 1 hts gX5_leastBy_X2_shallower rfl rfl rfl ⟨rfl, dh_X2_shallower⟩ ⟨Nat.le_of_ble_eq_true rfl, Nat.le_of_ble_eq_true rfl⟩) hK hN (hZ.kept hS) hP zP_nil (va_recv (q := (RX2, TX2, 3)) hK (zPu_P (hZ.kept hS) hu_u0) (ci := 2) (q0 := 0) rfl rfl) rfl hl.1 rfl (Nat.le_of_ble_eq_true rfl) dX5_leastBy_61 ⟨Nat.le_of_ble_eq_true rfl, Nat.le_of_ble_eq_true rfl⟩ (fun r_21 hr_21 => ?_)
      obtain ⟨g_22, g_23, hsr_21_0⟩ := hr_21
      refine lv_iload hx hb dX5_leastBy_64 (lv_at hl 1 rfl) ?_
      skip
      refine zw_V (As := [.int 1, .int r_21, .int x_4]) (rest := [.int r_1, .int 0]) (wr := []) ⟨hx, hb, hml, hown, hts⟩ (c_F_W_least_1 l D cI cJ cZ cP cS po w0 wk wl wc wp (wn) (wh) (wg) fq kq aq tq (tw) fl fc (r_21) (x_4) hy2 hy3 hy4 hy5 hy6 hy7 hjw (by first | assumption | omega) (by first | assumption | omega) (by first | assumption | omega | decide) (by omega) (by omega) (by omega) (by omega) hp_fc H.size) (cwV 3 hts gX5_leastBy_X5_least rfl rfl rfl ⟨rfl, dh_X5_least⟩ ⟨Nat.le_of_ble_eq_true rfl, Nat.le_of_ble_eq_true rfl⟩) hK hN (hZ.kept hS) hP hD hS hA [0, 1, 2, 3] [] rfl rfl (by decide) (by decide) (by decide) (va_recv (q := (RX5, TX5, 7)) hK hP (ci := 5) (q0 := 0) rfl rfl) rfl hl.1 rfl (Nat.le_of_ble_eq_true rfl) dX5_leastBy_66 ⟨Nat.le_of_ble_eq_true rfl, Nat.le_of_ble_eq_true rfl⟩ (fun r_24 u_25 H locs hr_24 hP hD hS => ?_)
      obtain ⟨q_26, rfl⟩ : ∃ z, z = u_25 := ⟨_, rfl⟩
      obtain ⟨hsr_24_0, hsr_24_1, hr_24⟩ := hr_24
      have h9R := zRe (ws' := [(w0, .inr (5, [.ref wk, .ref wl, .ref wc, .ref wp, .int wn, .int wh, .int wg])), (wl, .inl (cI, 125, .inl q_26)), (wc, .inl (cI, 3, .inl fc)), (wp, .inl (cP, 8, .inr (.inr (.inr (.inr fq)))))]) hP hD rfl
      clear hP hD
      obtain ⟨hP, hD⟩ := h9R
      obtain ⟨g_27, g_28⟩ := hr_24
      refine lv_imul hx hb dX5_leastBy_69 ?_
      refine lv_topi (fun x_29 ex_29 => ?_)
      obtain ⟨mx_29, nx_29, ox_29⟩ := zf_mulc (a := r_1) (b := r_24) (x := r_1.toInt) (y := r_24.toInt) (P := 1188) rfl rfl ⟨by omega, by omega⟩ ⟨by omega, by omega⟩ (by decide)
      rw [← ex_29] at mx_29
      refine lv_iadd hx hb dX5_leastBy_70 ?_
      refine lv_topi (fun x_30 ex_30 => ?_)
      have qx_30 : x_30.toInt = 0 + x_29.toInt := by rw [ex_30]; exact zf_add (by decide) rfl (by omega) (by omega)
      refine lv_istore (lv' := [(7, .int x_30), (6, .int x_4), (5, .int r_1), (0, .ref w0), (1, .ref u0), (2, .int 2), (3, .int d), (4, .int sec)]) hx hb dX5_leastBy_71 hl (by decide) rfl (fun ls hl => ?_)
      refine lv_iload hx hb dX5_leastBy_73 (lv_at hl 2 rfl) ?_
      refine lv_bipush (v := 12) hx hb dX5_leastBy_75 (by decide) ?_
      refine lv_icmp_ge (tgt := 109) hx hb dX5_leastBy_77 (by decide) (fun c_31 => ?_) (fun c_31 => ?_)
      · have fc_31 : 12 ≤ r_1.toInt := zf_le c_31 (by decide) rfl
        refine lv_iload hx hb dX5_leastBy_109 (lv_at hl 0 rfl) ?_
        exact W.iret (v := x_30) hx hb hr (fun t ht hW => ⟨⟨x_30, q_26, rfl, ⟨(show zKn kq aq tq wn.toInt.toNat wh.toInt (fc 0).toInt (fc 1).toInt (fc 2).toInt wg.toInt q_26 from by exact hsr_24_0), (show (x_30 : Int32).toInt = zLb (zLn kq aq tq wn.toInt.toNat wh.toInt (fc 0).toInt (fc 1).toInt (fc 2).toInt 1) (fc 0).toInt (zPw 2) ki.toInt a_.toInt ta.toInt wh.toInt d.toInt sec.toInt from by (have zw := hsr_1_0; have E1 : r_1.toInt * (zLn kq aq tq wn.toInt.toNat wh.toInt (fc 0).toInt (fc 1).toInt (fc 2).toInt 1) (zShl ki.toInt a_.toInt d.toInt) (sec.toInt - ta.toInt) = x_29.toInt := (by rw [← hsr_21_0, show sec.toInt - ta.toInt = (x_4 : Int32).toInt from by omega, ← hsr_24_1]; omega); have E2 : (12 - r_1.toInt) * (zLn kq aq tq wn.toInt.toNat wh.toInt (fc 0).toInt (fc 1).toInt (fc 2).toInt 1) (zDpr ki.toInt a_.toInt wh.toInt d.toInt) (sec.toInt - ta.toInt) = 0 := (by rw [show 12 - r_1.toInt = 0 from by omega, Int.zero_mul]); unfold zLb zBy1; rw [← zw, E1, E2, show zPw 2 = 144 from by decide]; first | (rw [if_neg (by omega)]; omega) | (rw [if_pos (by omega)]; omega))), ⟨by omega, by omega⟩⟩, zRet ht hP hD [0, 1, 2, 3] (by decide) rfl⟩, hS.F ht⟩) hS.2.2 dX5_leastBy_111
      · have fc_31 : r_1.toInt < 12 := zf_nle c_31 (by decide) rfl
        refine lv_iload hx hb dX5_leastBy_80 (lv_at hl 0 rfl) ?_
        refine lv_bipush (v := 12) hx hb dX5_leastBy_82 (by decide) ?_
        refine lv_iload hx hb dX5_leastBy_84 (lv_at hl 2 rfl) ?_
        refine lv_isub hx hb dX5_leastBy_86 ?_
        refine lv_topi (fun x_32 ex_32 => ?_)
        have qx_32 : x_32.toInt = 12 - r_1.toInt := by rw [ex_32]; exact zf_sub (by decide) rfl (by omega) (by omega)
        refine lv_aload_n hx hb dX5_leastBy_87 rfl (lv_at hl 3 rfl) ?_
        refine lv_iload_n hx hb dX5_leastBy_88 rfl (lv_at hl 5 rfl) ?_
        refine lv_iconst (v := 1) hx hb dX5_leastBy_89 (by decide) ?_
        refine lv_isub hx hb dX5_leastBy_90 ?_
        refine lv_topi (fun y_33 ey_33 => ?_)
        obtain rfl : y_33 = 1 := ey_33.trans (by decide)
        refine lv_aload_n hx hb dX5_leastBy_91 rfl (lv_at hl 4 rfl) ?_
        refine lv_iload_n hx hb dX5_leastBy_92 rfl (lv_at hl 6 rfl) ?_
        refine lv_aload_n hx hb dX5_leastBy_93 rfl (lv_at hl 3 rfl) ?_
        refine va_get (D := D) (ci := 5) (v := .int wh) (C := RX5) (T := TX5) (N := 7) hx hb hts hi_X5_leastBy_5 hown hK hP 0 rfl rfl 5 (by decide) (hts (.fieldLink RX5 31 "TheLiningsInIt$Ways" "hurry" "I") (List.mem_of_getElem? (i := 1) rfl)) (fun _ h9 => h9) rfl dX5_leastBy_94 ?_
        refine zc_V (As := [.int d, .int wh]) (rest := [.int 1, .ref w0, .int x_32, .int x_30]) ⟨hx, hb, hml, hown, hts⟩ (c_F_Pull_deeper l D cI cJ cZ cP cS po (d) (wh) u0 (ki) (a_) (ta) hu_u0 ⟨by omega, by omega, by omega, by omega⟩ hy12 hy13 hy4 hy5) (cwV 2 hts gX5_leastBy_X2_deeper rfl rfl rfl ⟨rfl, dh_X2_deeper⟩ ⟨Nat.le_of_ble_eq_true rfl, Nat.le_of_ble_eq_true rfl⟩) hK hN (hZ.kept hS) hP zP_nil (va_recv (q := (RX2, TX2, 3)) hK (zPu_P (hZ.kept hS) hu_u0) (ci := 2) (q0 := 0) rfl rfl) rfl hl.1 rfl (Nat.le_of_ble_eq_true rfl) dX5_leastBy_97 ⟨Nat.le_of_ble_eq_true rfl, Nat.le_of_ble_eq_true rfl⟩ (fun r_34 hr_34 => ?_)
        obtain ⟨g_35, g_36, hsr_34_0⟩ := hr_34
        refine lv_iload hx hb dX5_leastBy_100 (lv_at hl 1 rfl) ?_
        skip
        refine zw_V (As := [.int 1, .int r_34, .int x_4]) (rest := [.int x_32, .int x_30]) (wr := []) ⟨hx, hb, hml, hown, hts⟩ (c_F_W_least_1 l D cI cJ cZ cP cS po w0 wk wl wc wp (wn) (wh) (wg) fq kq aq tq (tw) q_26 fc (r_34) (x_4) hy2 hy3 hy4 hy5 hy6 hy7 hjw (by first | assumption | omega) (by first | assumption | omega) (by first | assumption | omega | decide) (by omega) (by omega) (by omega) (by omega) hp_fc H.size) (cwV 3 hts gX5_leastBy_X5_least rfl rfl rfl ⟨rfl, dh_X5_least⟩ ⟨Nat.le_of_ble_eq_true rfl, Nat.le_of_ble_eq_true rfl⟩) hK hN (hZ.kept hS) hP hD hS hA [0, 1, 2, 3] [] rfl rfl (by decide) (by decide) (by decide) (va_recv (q := (RX5, TX5, 7)) hK hP (ci := 5) (q0 := 0) rfl rfl) rfl hl.1 rfl (Nat.le_of_ble_eq_true rfl) dX5_leastBy_102 ⟨Nat.le_of_ble_eq_true rfl, Nat.le_of_ble_eq_true rfl⟩ (fun r_37 u_38 H locs hr_37 hP hD hS => ?_)
        obtain ⟨q_39, rfl⟩ : ∃ z, z = u_38 := ⟨_, rfl⟩
        obtain ⟨hsr_37_0, hsr_37_1, hr_37⟩ := hr_37
        have h9R := zRe (ws' := [(w0, .inr (5, [.ref wk, .ref wl, .ref wc, .ref wp, .int wn, .int wh, .int wg])), (wl, .inl (cI, 125, .inl q_39)), (wc, .inl (cI, 3, .inl fc)), (wp, .inl (cP, 8, .inr (.inr (.inr (.inr fq)))))]) hP hD rfl
        clear hP hD
        obtain ⟨hP, hD⟩ := h9R
        obtain ⟨g_40, g_41⟩ := hr_37
        refine lv_imul hx hb dX5_leastBy_105 ?_
        refine lv_topi (fun x_42 ex_42 => ?_)
        obtain ⟨mx_42, nx_42, ox_42⟩ := zf_mulc (a := x_32) (b := r_37) (x := x_32.toInt) (y := r_37.toInt) (P := 1188) rfl rfl ⟨by omega, by omega⟩ ⟨by omega, by omega⟩ (by decide)
        rw [← ex_42] at mx_42
        refine lv_iadd hx hb dX5_leastBy_106 ?_
        refine lv_topi (fun x_43 ex_43 => ?_)
        have qx_43 : x_43.toInt = x_30.toInt + x_42.toInt := by rw [ex_43]; exact zf_add rfl rfl (by omega) (by omega)
        refine lv_istore (lv' := [(7, .int x_43), (6, .int x_4), (5, .int r_1), (0, .ref w0), (1, .ref u0), (2, .int 2), (3, .int d), (4, .int sec)]) hx hb dX5_leastBy_107 hl (by decide) rfl (fun ls hl => ?_)
        refine lv_iload hx hb dX5_leastBy_109 (lv_at hl 0 rfl) ?_
        have hmx9 := zMix (w := r_1.toInt) (x := r_24.toInt) (y := r_37.toInt) (P := 1188) ⟨by omega, by omega⟩ ⟨by omega, by omega⟩ ⟨by omega, by omega⟩
        rw [show 12 - r_1.toInt = x_32.toInt from by omega] at hmx9
        exact W.iret (v := x_43) hx hb hr (fun t ht hW => ⟨⟨x_43, q_39, rfl, ⟨(show zKn kq aq tq wn.toInt.toNat wh.toInt (fc 0).toInt (fc 1).toInt (fc 2).toInt wg.toInt q_39 from by first | exact hsr_37_0 | assumption), (show (x_43 : Int32).toInt = zLb (zLn kq aq tq wn.toInt.toNat wh.toInt (fc 0).toInt (fc 1).toInt (fc 2).toInt 1) (fc 0).toInt (zPw 2) ki.toInt a_.toInt ta.toInt wh.toInt d.toInt sec.toInt from by (have zw := hsr_1_0; have E1 : r_1.toInt * (zLn kq aq tq wn.toInt.toNat wh.toInt (fc 0).toInt (fc 1).toInt (fc 2).toInt 1) (zShl ki.toInt a_.toInt d.toInt) (sec.toInt - ta.toInt) = x_29.toInt := (by rw [← hsr_21_0, show sec.toInt - ta.toInt = (x_4 : Int32).toInt from by omega, ← hsr_24_1]; omega); have E2 : (12 - r_1.toInt) * (zLn kq aq tq wn.toInt.toNat wh.toInt (fc 0).toInt (fc 1).toInt (fc 2).toInt 1) (zDpr ki.toInt a_.toInt wh.toInt d.toInt) (sec.toInt - ta.toInt) = x_42.toInt := (by rw [← hsr_34_0, show sec.toInt - ta.toInt = (x_4 : Int32).toInt from by omega, ← hsr_37_1, show 12 - r_1.toInt = x_32.toInt from by omega]; omega); unfold zLb zBy1; rw [← zw, E1, E2, show zPw 2 = 144 from by decide]; first | (rw [if_neg (by omega)]; omega) | (rw [if_pos (by omega)]; omega))), ⟨by omega, by omega⟩⟩, zRet ht hP hD [0, 1, 2, 3] (by decide) rfl⟩, hS.F ht⟩) hS.2.2 dX5_leastBy_111
  · have fc_5 : ki.toInt = 5 := zf_eq c_5 rfl (by decide)
    obtain ⟨t_44, zt_44, yt_44⟩ := hZ.1.1
    refine va_gets hx hb zt_44 hS hown (hts (.fieldLink RX5 79 "TheLiningsInIt$Ways" "POWERS" "[I") (List.mem_of_getElem? (i := 4) rfl)) (fun _ h9 => h9) dX5_leastBy_28 ?_
    refine lv_iload_n hx hb dX5_leastBy_31 rfl (lv_at hl 4 rfl) ?_
    refine va_ti hx hb yt_44 hS (zf_in (by decide) (by decide)) (v := .int 144) (by decide) dX5_leastBy_32 ?_
    refine lv_aload_n hx hb dX5_leastBy_33 rfl (lv_at hl 2 rfl) ?_
    refine va_get (D := D) (ci := 5) (v := .ref wc) (C := RX5) (T := TX5) (N := 7) hx hb hts hi_X5_leastBy_5 hown hK hP 0 rfl rfl 2 (by decide) (hts (.fieldLink RX5 18 "TheLiningsInIt$Ways" "costs" "[I") (List.mem_of_getElem? (i := 5) rfl)) (fun _ h9 => h9) rfl dX5_leastBy_34 ?_
    refine lv_iconst (v := 0) hx hb dX5_leastBy_37 (by decide) ?_
    refine va_iald hx hb hK hP 2 0 rfl rfl (zf_in (by decide) (by decide)) dX5_leastBy_38 ?_
    refine lv_topi (fun x_45 ex_45 => ?_)
    have bx_45 : 0 ≤ x_45.toInt ∧ x_45.toInt ≤ 99 := by rw [ex_45]; exact hp_fc _
    refine lv_imul hx hb dX5_leastBy_39 ?_
    refine lv_topi (fun x_46 ex_46 => ?_)
    have qx_46 : x_46.toInt = 144 * x_45.toInt := by rw [ex_46]; exact zf_mul (by decide) rfl (by omega) (by omega)
    refine lv_goto (tgt := 44) hx hb dX5_leastBy_40 (by decide) ?_
    refine lv_istore (lv' := [(7, .int x_46), (6, .int x_4), (5, .int r_1), (0, .ref w0), (1, .ref u0), (2, .int 2), (3, .int d), (4, .int sec)]) hx hb dX5_leastBy_44 hl (by decide) rfl (fun ls hl => ?_)
    refine lv_iload hx hb dX5_leastBy_46 (lv_at hl 2 rfl) ?_
    refine lv_if_le (tgt := 73) hx hb dX5_leastBy_48 (by decide) (fun c_47 => ?_) (fun c_47 => ?_)
    · have fc_47 : r_1.toInt ≤ 0 := zf_le c_47 rfl (by decide)
      refine lv_iload hx hb dX5_leastBy_73 (lv_at hl 2 rfl) ?_
      refine lv_bipush (v := 12) hx hb dX5_leastBy_75 (by decide) ?_
      refine lv_icmp_ge (tgt := 109) hx hb dX5_leastBy_77 (by decide) (fun c_48 => ?_) (fun c_48 => ?_)
      · exfalso; have fc_48 : 12 ≤ r_1.toInt := zf_le c_48 (by decide) rfl; omega
      · have fc_48 : r_1.toInt < 12 := zf_nle c_48 (by decide) rfl
        refine lv_iload hx hb dX5_leastBy_80 (lv_at hl 0 rfl) ?_
        refine lv_bipush (v := 12) hx hb dX5_leastBy_82 (by decide) ?_
        refine lv_iload hx hb dX5_leastBy_84 (lv_at hl 2 rfl) ?_
        refine lv_isub hx hb dX5_leastBy_86 ?_
        refine lv_topi (fun x_49 ex_49 => ?_)
        have qx_49 : x_49.toInt = 12 - r_1.toInt := by rw [ex_49]; exact zf_sub (by decide) rfl (by omega) (by omega)
        refine lv_aload_n hx hb dX5_leastBy_87 rfl (lv_at hl 3 rfl) ?_
        refine lv_iload_n hx hb dX5_leastBy_88 rfl (lv_at hl 5 rfl) ?_
        refine lv_iconst (v := 1) hx hb dX5_leastBy_89 (by decide) ?_
        refine lv_isub hx hb dX5_leastBy_90 ?_
        refine lv_topi (fun y_50 ey_50 => ?_)
        obtain rfl : y_50 = 1 := ey_50.trans (by decide)
        refine lv_aload_n hx hb dX5_leastBy_91 rfl (lv_at hl 4 rfl) ?_
        refine lv_iload_n hx hb dX5_leastBy_92 rfl (lv_at hl 6 rfl) ?_
        refine lv_aload_n hx hb dX5_leastBy_93 rfl (lv_at hl 3 rfl) ?_
        refine va_get (D := D) (ci := 5) (v := .int wh) (C := RX5) (T := TX5) (N := 7) hx hb hts hi_X5_leastBy_5 hown hK hP 0 rfl rfl 5 (by decide) (hts (.fieldLink RX5 31 "TheLiningsInIt$Ways" "hurry" "I") (List.mem_of_getElem? (i := 1) rfl)) (fun _ h9 => h9) rfl dX5_leastBy_94 ?_
        refine zc_V (As := [.int d, .int wh]) (rest := [.int 1, .ref w0, .int x_49, .int x_46]) ⟨hx, hb, hml, hown, hts⟩ (c_F_Pull_deeper l D cI cJ cZ cP cS po (d) (wh) u0 (ki) (a_) (ta) hu_u0 ⟨by omega, by omega, by omega, by omega⟩ hy12 hy13 hy4 hy5) (cwV 2 hts gX5_leastBy_X2_deeper rfl rfl rfl ⟨rfl, dh_X2_deeper⟩ ⟨Nat.le_of_ble_eq_true rfl, Nat.le_of_ble_eq_true rfl⟩) hK hN (hZ.kept hS) hP zP_nil (va_recv (q := (RX2, TX2, 3)) hK (zPu_P (hZ.kept hS) hu_u0) (ci := 2) (q0 := 0) rfl rfl) rfl hl.1 rfl (Nat.le_of_ble_eq_true rfl) dX5_leastBy_97 ⟨Nat.le_of_ble_eq_true rfl, Nat.le_of_ble_eq_true rfl⟩ (fun r_51 hr_51 => ?_)
        obtain ⟨g_52, g_53, hsr_51_0⟩ := hr_51
        refine lv_iload hx hb dX5_leastBy_100 (lv_at hl 1 rfl) ?_
        skip
        refine zw_V (As := [.int 1, .int r_51, .int x_4]) (rest := [.int x_49, .int x_46]) (wr := []) ⟨hx, hb, hml, hown, hts⟩ (c_F_W_least_1 l D cI cJ cZ cP cS po w0 wk wl wc wp (wn) (wh) (wg) fq kq aq tq (tw) fl fc (r_51) (x_4) hy2 hy3 hy4 hy5 hy6 hy7 hjw (by first | assumption | omega) (by first | assumption | omega) (by first | assumption | omega | decide) (by omega) (by omega) (by omega) (by omega) hp_fc H.size) (cwV 3 hts gX5_leastBy_X5_least rfl rfl rfl ⟨rfl, dh_X5_least⟩ ⟨Nat.le_of_ble_eq_true rfl, Nat.le_of_ble_eq_true rfl⟩) hK hN (hZ.kept hS) hP hD hS hA [0, 1, 2, 3] [] rfl rfl (by decide) (by decide) (by decide) (va_recv (q := (RX5, TX5, 7)) hK hP (ci := 5) (q0 := 0) rfl rfl) rfl hl.1 rfl (Nat.le_of_ble_eq_true rfl) dX5_leastBy_102 ⟨Nat.le_of_ble_eq_true rfl, Nat.le_of_ble_eq_true rfl⟩ (fun r_54 u_55 H locs hr_54 hP hD hS => ?_)
        obtain ⟨q_56, rfl⟩ : ∃ z, z = u_55 := ⟨_, rfl⟩
        obtain ⟨hsr_54_0, hsr_54_1, hr_54⟩ := hr_54
        have h9R := zRe (ws' := [(w0, .inr (5, [.ref wk, .ref wl, .ref wc, .ref wp, .int wn, .int wh, .int wg])), (wl, .inl (cI, 125, .inl q_56)), (wc, .inl (cI, 3, .inl fc)), (wp, .inl (cP, 8, .inr (.inr (.inr (.inr fq)))))]) hP hD rfl
        clear hP hD
        obtain ⟨hP, hD⟩ := h9R
        obtain ⟨g_57, g_58⟩ := hr_54
        refine lv_imul hx hb dX5_leastBy_105 ?_
        refine lv_topi (fun x_59 ex_59 => ?_)
        obtain ⟨mx_59, nx_59, ox_59⟩ := zf_mulc (a := x_49) (b := r_54) (x := x_49.toInt) (y := r_54.toInt) (P := 1188) rfl rfl ⟨by omega, by omega⟩ ⟨by omega, by omega⟩ (by decide)
        rw [← ex_59] at mx_59
        refine lv_iadd hx hb dX5_leastBy_106 ?_
        refine lv_topi (fun x_60 ex_60 => ?_)
        have qx_60 : x_60.toInt = x_46.toInt + x_59.toInt := by rw [ex_60]; exact zf_add rfl rfl (by omega) (by omega)
        refine lv_istore (lv' := [(7, .int x_60), (6, .int x_4), (5, .int r_1), (0, .ref w0), (1, .ref u0), (2, .int 2), (3, .int d), (4, .int sec)]) hx hb dX5_leastBy_107 hl (by decide) rfl (fun ls hl => ?_)
        refine lv_iload hx hb dX5_leastBy_109 (lv_at hl 0 rfl) ?_
        exact W.iret (v := x_60) hx hb hr (fun t ht hW => ⟨⟨x_60, q_56, rfl, ⟨(show zKn kq aq tq wn.toInt.toNat wh.toInt (fc 0).toInt (fc 1).toInt (fc 2).toInt wg.toInt q_56 from by first | exact hsr_54_0 | assumption), (show (x_60 : Int32).toInt = zLb (zLn kq aq tq wn.toInt.toNat wh.toInt (fc 0).toInt (fc 1).toInt (fc 2).toInt 1) (fc 0).toInt (zPw 2) ki.toInt a_.toInt ta.toInt wh.toInt d.toInt sec.toInt from by (have nx_45 : (fc 0).toInt = x_45.toInt := (by rw [ex_45, show (0 : Int32).toNatClampNeg = 0 from by decide]); have zw := hsr_1_0; have E1 : r_1.toInt * (zLn kq aq tq wn.toInt.toNat wh.toInt (fc 0).toInt (fc 1).toInt (fc 2).toInt 1) (zShl ki.toInt a_.toInt d.toInt) (sec.toInt - ta.toInt) = 0 := (by rw [show r_1.toInt = 0 from by omega, Int.zero_mul]); have E2 : (12 - r_1.toInt) * (zLn kq aq tq wn.toInt.toNat wh.toInt (fc 0).toInt (fc 1).toInt (fc 2).toInt 1) (zDpr ki.toInt a_.toInt wh.toInt d.toInt) (sec.toInt - ta.toInt) = x_59.toInt := (by rw [← hsr_51_0, show sec.toInt - ta.toInt = (x_4 : Int32).toInt from by omega, ← hsr_54_1, show 12 - r_1.toInt = x_49.toInt from by omega]; omega); unfold zLb zBy1; rw [← zw, E1, E2, show zPw 2 = 144 from by decide]; first | (rw [if_pos (by omega)]; omega) | (rw [if_neg (by omega)]; omega))), ⟨by omega, by omega⟩⟩, zRet ht hP hD [0, 1, 2, 3] (by decide) rfl⟩, hS.F ht⟩) hS.2.2 dX5_leastBy_111
    · have fc_47 : 0 < r_1.toInt := zf_nle c_47 rfl (by decide)
      refine lv_iload hx hb dX5_leastBy_51 (lv_at hl 0 rfl) ?_
      refine lv_iload hx hb dX5_leastBy_53 (lv_at hl 2 rfl) ?_
      refine lv_aload_n hx hb dX5_leastBy_55 rfl (lv_at hl 3 rfl) ?_
      refine lv_iload_n hx hb dX5_leastBy_56 rfl (lv_at hl 5 rfl) ?_
      refine lv_iconst (v := 1) hx hb dX5_leastBy_57 (by decide) ?_
      refine lv_isub hx hb dX5_leastBy_58 ?_
      refine lv_topi (fun y_61 ey_61 => ?_)
      obtain rfl : y_61 = 1 := ey_61.trans (by decide)
      refine lv_aload_n hx hb dX5_leastBy_59 rfl (lv_at hl 4 rfl) ?_
      refine lv_iload_n hx hb dX5_leastBy_60 rfl (lv_at hl 6 rfl) ?_
      refine zc_V (As := [.int d]) (rest := [.int 1, .ref w0, .int r_1, .int x_46]) ⟨hx, hb, hml, hown, hts⟩ (c_F_Pull_shallower l D cI cJ cZ cP cS po (d) u0 (ki) (a_) (ta) hu_u0 ⟨by omega, by omega, by omega, by omega⟩ hy12 hy13) (cwV 1 hts gX5_leastBy_X2_shallower rfl rfl rfl ⟨rfl, dh_X2_shallower⟩ ⟨Nat.le_of_ble_eq_true rfl, Nat.le_of_ble_eq_true rfl⟩) hK hN (hZ.kept hS) hP zP_nil (va_recv (q := (RX2, TX2, 3)) hK (zPu_P (hZ.kept hS) hu_u0) (ci := 2) (q0 := 0) rfl rfl) rfl hl.1 rfl (Nat.le_of_ble_eq_true rfl) dX5_leastBy_61 ⟨Nat.le_of_ble_eq_true rfl, Nat.le_of_ble_eq_true rfl⟩ (fun r_62 hr_62 => ?_)
      obtain ⟨g_63, g_64, hsr_62_0⟩ := hr_62
      refine lv_iload hx hb dX5_leastBy_64 (lv_at hl 1 rfl) ?_
      skip
      refine zw_V (As := [.int 1, .int r_62, .int x_4]) (rest := [.int r_1, .int x_46]) (wr := []) ⟨hx, hb, hml, hown, hts⟩ (c_F_W_least_1 l D cI cJ cZ cP cS po w0 wk wl wc wp (wn) (wh) (wg) fq kq aq tq (tw) fl fc (r_62) (x_4) hy2 hy3 hy4 hy5 hy6 hy7 hjw (by first | assumption | omega) (by first | assumption | omega) (by first | assumption | omega | decide) (by omega) (by omega) (by omega) (by omega) hp_fc H.size) (cwV 3 hts gX5_leastBy_X5_least rfl rfl rfl ⟨rfl, dh_X5_least⟩ ⟨Nat.le_of_ble_eq_true rfl, Nat.le_of_ble_eq_true rfl⟩) hK hN (hZ.kept hS) hP hD hS hA [0, 1, 2, 3] [] rfl rfl (by decide) (by decide) (by decide) (va_recv (q := (RX5, TX5, 7)) hK hP (ci := 5) (q0 := 0) rfl rfl) rfl hl.1 rfl (Nat.le_of_ble_eq_true rfl) dX5_leastBy_66 ⟨Nat.le_of_ble_eq_true rfl, Nat.le_of_ble_eq_true rfl⟩ (fun r_65 u_66 H locs hr_65 hP hD hS => ?_)
      obtain ⟨q_67, rfl⟩ : ∃ z, z = u_66 := ⟨_, rfl⟩
      obtain ⟨hsr_65_0, hsr_65_1, hr_65⟩ := hr_65
      have h9R := zRe (ws' := [(w0, .inr (5, [.ref wk, .ref wl, .ref wc, .ref wp, .int wn, .int wh, .int wg])), (wl, .inl (cI, 125, .inl q_67)), (wc, .inl (cI, 3, .inl fc)), (wp, .inl (cP, 8, .inr (.inr (.inr (.inr fq)))))]) hP hD rfl
      clear hP hD
      obtain ⟨hP, hD⟩ := h9R
      obtain ⟨g_68, g_69⟩ := hr_65
      refine lv_imul hx hb dX5_leastBy_69 ?_
      refine lv_topi (fun x_70 ex_70 => ?_)
      obtain ⟨mx_70, nx_70, ox_70⟩ := zf_mulc (a := r_1) (b := r_65) (x := r_1.toInt) (y := r_65.toInt) (P := 1188) rfl rfl ⟨by omega, by omega⟩ ⟨by omega, by omega⟩ (by decide)
      rw [← ex_70] at mx_70
      refine lv_iadd hx hb dX5_leastBy_70 ?_
      refine lv_topi (fun x_71 ex_71 => ?_)
      have qx_71 : x_71.toInt = x_46.toInt + x_70.toInt := by rw [ex_71]; exact zf_add rfl rfl (by omega) (by omega)
      refine lv_istore (lv' := [(7, .int x_71), (6, .int x_4), (5, .int r_1), (0, .ref w0), (1, .ref u0), (2, .int 2), (3, .int d), (4, .int sec)]) hx hb dX5_leastBy_71 hl (by decide) rfl (fun ls hl => ?_)
      refine lv_iload hx hb dX5_leastBy_73 (lv_at hl 2 rfl) ?_
      refine lv_bipush (v := 12) hx hb dX5_leastBy_75 (by decide) ?_
      refine lv_icmp_ge (tgt := 109) hx hb dX5_leastBy_77 (by decide) (fun c_72 => ?_) (fun c_72 => ?_)
      · have fc_72 : 12 ≤ r_1.toInt := zf_le c_72 (by decide) rfl
        refine lv_iload hx hb dX5_leastBy_109 (lv_at hl 0 rfl) ?_
        exact W.iret (v := x_71) hx hb hr (fun t ht hW => ⟨⟨x_71, q_67, rfl, ⟨(show zKn kq aq tq wn.toInt.toNat wh.toInt (fc 0).toInt (fc 1).toInt (fc 2).toInt wg.toInt q_67 from by exact hsr_65_0), (show (x_71 : Int32).toInt = zLb (zLn kq aq tq wn.toInt.toNat wh.toInt (fc 0).toInt (fc 1).toInt (fc 2).toInt 1) (fc 0).toInt (zPw 2) ki.toInt a_.toInt ta.toInt wh.toInt d.toInt sec.toInt from by (have nx_45 : (fc 0).toInt = x_45.toInt := (by rw [ex_45, show (0 : Int32).toNatClampNeg = 0 from by decide]); have zw := hsr_1_0; have E1 : r_1.toInt * (zLn kq aq tq wn.toInt.toNat wh.toInt (fc 0).toInt (fc 1).toInt (fc 2).toInt 1) (zShl ki.toInt a_.toInt d.toInt) (sec.toInt - ta.toInt) = x_70.toInt := (by rw [← hsr_62_0, show sec.toInt - ta.toInt = (x_4 : Int32).toInt from by omega, ← hsr_65_1]; omega); have E2 : (12 - r_1.toInt) * (zLn kq aq tq wn.toInt.toNat wh.toInt (fc 0).toInt (fc 1).toInt (fc 2).toInt 1) (zDpr ki.toInt a_.toInt wh.toInt d.toInt) (sec.toInt - ta.toInt) = 0 := (by rw [show 12 - r_1.toInt = 0 from by omega, Int.zero_mul]); unfold zLb zBy1; rw [← zw, E1, E2, show zPw 2 = 144 from by decide]; first | (rw [if_pos (by omega)]; omega) | (rw [if_neg (by omega)]; omega))), ⟨by omega, by omega⟩⟩, zRet ht hP hD [0, 1, 2, 3] (by decide) rfl⟩, hS.F ht⟩) hS.2.2 dX5_leastBy_111
      · have fc_72 : r_1.toInt < 12 := zf_nle c_72 (by decide) rfl
        refine lv_iload hx hb dX5_leastBy_80 (lv_at hl 0 rfl) ?_
        refine lv_bipush (v := 12) hx hb dX5_leastBy_82 (by decide) ?_
        refine lv_iload hx hb dX5_leastBy_84 (lv_at hl 2 rfl) ?_
        refine lv_isub hx hb dX5_leastBy_86 ?_
        refine lv_topi (fun x_73 ex_73 => ?_)
        have qx_73 : x_73.toInt = 12 - r_1.toInt := by rw [ex_73]; exact zf_sub (by decide) rfl (by omega) (by omega)
        refine lv_aload_n hx hb dX5_leastBy_87 rfl (lv_at hl 3 rfl) ?_
        refine lv_iload_n hx hb dX5_leastBy_88 rfl (lv_at hl 5 rfl) ?_
        refine lv_iconst (v := 1) hx hb dX5_leastBy_89 (by decide) ?_
        refine lv_isub hx hb dX5_leastBy_90 ?_
        refine lv_topi (fun y_74 ey_74 => ?_)
        obtain rfl : y_74 = 1 := ey_74.trans (by decide)
        refine lv_aload_n hx hb dX5_leastBy_91 rfl (lv_at hl 4 rfl) ?_
        refine lv_iload_n hx hb dX5_leastBy_92 rfl (lv_at hl 6 rfl) ?_
        refine lv_aload_n hx hb dX5_leastBy_93 rfl (lv_at hl 3 rfl) ?_
        refine va_get (D := D) (ci := 5) (v := .int wh) (C := RX5) (T := TX5) (N := 7) hx hb hts hi_X5_leastBy_5 hown hK hP 0 rfl rfl 5 (by decide) (hts (.fieldLink RX5 31 "TheLiningsInIt$Ways" "hurry" "I") (List.mem_of_getElem? (i := 1) rfl)) (fun _ h9 => h9) rfl dX5_leastBy_94 ?_
        refine zc_V (As := [.int d, .int wh]) (rest := [.int 1, .ref w0, .int x_73, .int x_71]) ⟨hx, hb, hml, hown, hts⟩ (c_F_Pull_deeper l D cI cJ cZ cP cS po (d) (wh) u0 (ki) (a_) (ta) hu_u0 ⟨by omega, by omega, by omega, by omega⟩ hy12 hy13 hy4 hy5) (cwV 2 hts gX5_leastBy_X2_deeper rfl rfl rfl ⟨rfl, dh_X2_deeper⟩ ⟨Nat.le_of_ble_eq_true rfl, Nat.le_of_ble_eq_true rfl⟩) hK hN (hZ.kept hS) hP zP_nil (va_recv (q := (RX2, TX2, 3)) hK (zPu_P (hZ.kept hS) hu_u0) (ci := 2) (q0 := 0) rfl rfl) rfl hl.1 rfl (Nat.le_of_ble_eq_true rfl) dX5_leastBy_97 ⟨Nat.le_of_ble_eq_true rfl, Nat.le_of_ble_eq_true rfl⟩ (fun r_75 hr_75 => ?_)
        obtain ⟨g_76, g_77, hsr_75_0⟩ := hr_75
        refine lv_iload hx hb dX5_leastBy_100 (lv_at hl 1 rfl) ?_
        skip
        refine zw_V (As := [.int 1, .int r_75, .int x_4]) (rest := [.int x_73, .int x_71]) (wr := []) ⟨hx, hb, hml, hown, hts⟩ (c_F_W_least_1 l D cI cJ cZ cP cS po w0 wk wl wc wp (wn) (wh) (wg) fq kq aq tq (tw) q_67 fc (r_75) (x_4) hy2 hy3 hy4 hy5 hy6 hy7 hjw (by first | assumption | omega) (by first | assumption | omega) (by first | assumption | omega | decide) (by omega) (by omega) (by omega) (by omega) hp_fc H.size) (cwV 3 hts gX5_leastBy_X5_least rfl rfl rfl ⟨rfl, dh_X5_least⟩ ⟨Nat.le_of_ble_eq_true rfl, Nat.le_of_ble_eq_true rfl⟩) hK hN (hZ.kept hS) hP hD hS hA [0, 1, 2, 3] [] rfl rfl (by decide) (by decide) (by decide) (va_recv (q := (RX5, TX5, 7)) hK hP (ci := 5) (q0 := 0) rfl rfl) rfl hl.1 rfl (Nat.le_of_ble_eq_true rfl) dX5_leastBy_102 ⟨Nat.le_of_ble_eq_true rfl, Nat.le_of_ble_eq_true rfl⟩ (fun r_78 u_79 H locs hr_78 hP hD hS => ?_)
        obtain ⟨q_80, rfl⟩ : ∃ z, z = u_79 := ⟨_, rfl⟩
        obtain ⟨hsr_78_0, hsr_78_1, hr_78⟩ := hr_78
        have h9R := zRe (ws' := [(w0, .inr (5, [.ref wk, .ref wl, .ref wc, .ref wp, .int wn, .int wh, .int wg])), (wl, .inl (cI, 125, .inl q_80)), (wc, .inl (cI, 3, .inl fc)), (wp, .inl (cP, 8, .inr (.inr (.inr (.inr fq)))))]) hP hD rfl
        clear hP hD
        obtain ⟨hP, hD⟩ := h9R
        obtain ⟨g_81, g_82⟩ := hr_78
        refine lv_imul hx hb dX5_leastBy_105 ?_
        refine lv_topi (fun x_83 ex_83 => ?_)
        obtain ⟨mx_83, nx_83, ox_83⟩ := zf_mulc (a := x_73) (b := r_78) (x := x_73.toInt) (y := r_78.toInt) (P := 1188) rfl rfl ⟨by omega, by omega⟩ ⟨by omega, by omega⟩ (by decide)
        rw [← ex_83] at mx_83
        refine lv_iadd hx hb dX5_leastBy_106 ?_
        refine lv_topi (fun x_84 ex_84 => ?_)
        have qx_84 : x_84.toInt = x_71.toInt + x_83.toInt := by rw [ex_84]; exact zf_add rfl rfl (by omega) (by omega)
        refine lv_istore (lv' := [(7, .int x_84), (6, .int x_4), (5, .int r_1), (0, .ref w0), (1, .ref u0), (2, .int 2), (3, .int d), (4, .int sec)]) hx hb dX5_leastBy_107 hl (by decide) rfl (fun ls hl => ?_)
        refine lv_iload hx hb dX5_leastBy_109 (lv_at hl 0 rfl) ?_
        have hmx9 := zMix (w := r_1.toInt) (x := r_65.toInt) (y := r_78.toInt) (P := 1188) ⟨by omega, by omega⟩ ⟨by omega, by omega⟩ ⟨by omega, by omega⟩
        rw [show 12 - r_1.toInt = x_73.toInt from by omega] at hmx9
        exact W.iret (v := x_84) hx hb hr (fun t ht hW => ⟨⟨x_84, q_80, rfl, ⟨(show zKn kq aq tq wn.toInt.toNat wh.toInt (fc 0).toInt (fc 1).toInt (fc 2).toInt wg.toInt q_80 from by first | exact hsr_78_0 | assumption), (show (x_84 : Int32).toInt = zLb (zLn kq aq tq wn.toInt.toNat wh.toInt (fc 0).toInt (fc 1).toInt (fc 2).toInt 1) (fc 0).toInt (zPw 2) ki.toInt a_.toInt ta.toInt wh.toInt d.toInt sec.toInt from by (have nx_45 : (fc 0).toInt = x_45.toInt := (by rw [ex_45, show (0 : Int32).toNatClampNeg = 0 from by decide]); have zw := hsr_1_0; have E1 : r_1.toInt * (zLn kq aq tq wn.toInt.toNat wh.toInt (fc 0).toInt (fc 1).toInt (fc 2).toInt 1) (zShl ki.toInt a_.toInt d.toInt) (sec.toInt - ta.toInt) = x_70.toInt := (by rw [← hsr_62_0, show sec.toInt - ta.toInt = (x_4 : Int32).toInt from by omega, ← hsr_65_1]; omega); have E2 : (12 - r_1.toInt) * (zLn kq aq tq wn.toInt.toNat wh.toInt (fc 0).toInt (fc 1).toInt (fc 2).toInt 1) (zDpr ki.toInt a_.toInt wh.toInt d.toInt) (sec.toInt - ta.toInt) = x_83.toInt := (by rw [← hsr_75_0, show sec.toInt - ta.toInt = (x_4 : Int32).toInt from by omega, ← hsr_78_1, show 12 - r_1.toInt = x_73.toInt from by omega]; omega); unfold zLb zBy1; rw [← zw, E1, E2, show zPw 2 = 144 from by decide]; first | (rw [if_pos (by omega)]; omega) | (rw [if_neg (by omega)]; omega))), ⟨by omega, by omega⟩⟩, zRet ht hP hD [0, 1, 2, 3] (by decide) rfl⟩, hS.F ht⟩) hS.2.2 dX5_leastBy_111
set_option maxHeartbeats 4000000 in
set_option maxRecDepth 100000 in
theorem c_F_W_least_2 (l : Launch) (D : va_G) (cI cJ cZ cP cS : ClassId) (po : zPool) (w0 wk wl wc wp : Nat) (wn wh wg : Int32) (fq : Nat → Option Nat) (kq aq tq : Nat → Int32) (tw : Int32) (fl fc : Nat → Int32) (d sec : Int32) (hy0 : 0 ≤ wn.toInt) (hy1 : wn.toInt ≤ 8) (hy2 : 0 ≤ wh.toInt) (hy3 : wh.toInt ≤ 9) (hy4 : 0 ≤ wg.toInt) (hy5 : wg.toInt ≤ 60) (hjw : zJW po fq wn kq aq tq tw) (hkn : zKn kq aq tq wn.toInt.toNat wh.toInt (fc 0).toInt (fc 1).toInt (fc 2).toInt wg.toInt fl) (hgl : (∀ p : Nat, p < wn.toInt.toNat → (tq p).toInt ≤ wg.toInt)) (htw : tw.toInt = 1) (hy10 : 0 ≤ d.toInt) (hy11 : d.toInt ≤ 24) (hy12 : 0 ≤ sec.toInt) (hy13 : sec.toInt ≤ 300) (hp_fc : zRg fc (0) 99) (hpz : Nat) : Met l yX5_least wsX5_least ({ frames := 6, cells := 0, slots := 0, locals := 153 }) (va_Pc [.ref w0, .int 2, .int d, .int sec] (zW D (zKT cI cJ cZ cP cS) po [(w0, .inr (5, [.ref wk, .ref wl, .ref wc, .ref wp, .int wn, .int wh, .int wg])), (wl, .inl (cI, 125, .inl fl)), (wc, .inl (cI, 3, .inl fc)), (wp, .inl (cP, 8, .inr (.inr (.inr (.inr fq)))))] hpz)) (va_Qi (fun (r : Int32) (fl2 : (Nat → Int32)) => (zKn kq aq tq wn.toInt.toNat wh.toInt (fc 0).toInt (fc 1).toInt (fc 2).toInt wg.toInt fl2) ∧ (r.toInt = (zLn kq aq tq wn.toInt.toNat wh.toInt (fc 0).toInt (fc 1).toInt (fc 2).toInt 2) d.toInt sec.toInt) ∧ (0 ≤ r.toInt ∧ r.toInt ≤ 14256)) (zB D [(w0, .inr (5, [.ref wk, .ref wl, .ref wc, .ref wp, .int wn, .int wh, .int wg])), (wl, .inl (cI, 125, .inl fl)), (wc, .inl (cI, 3, .inl fc)), (wp, .inl (cP, 8, .inr (.inr (.inr (.inr fq)))))] hpz (fun (fl2 : Nat → Int32) => [(w0, .inr (5, [.ref wk, .ref wl, .ref wc, .ref wp, .int wn, .int wh, .int wg])), (wl, .inl (cI, 125, .inl fl2)), (wc, .inl (cI, 3, .inl fc)), (wp, .inl (cP, 8, .inr (.inr (.inr (.inr fq)))))])) (va_A [(w0, .inr (5, [.ref wk, .ref wl, .ref wc, .ref wp, .int wn, .int wh, .int wg])), (wl, .inl (cI, 125, .inl fl)), (wc, .inl (cI, 3, .inl fc)), (wp, .inl (cP, 8, .inr (.inr (.inr (.inr fq)))))] hpz)) 0 0 (va_A [(w0, .inr (5, [.ref wk, .ref wl, .ref wc, .ref wp, .int wn, .int wh, .int wg])), (wl, .inl (cI, 125, .inl fl)), (wc, .inl (cI, 3, .inl fc)), (wp, .inl (cP, 8, .inr (.inr (.inr (.inr fq)))))] hpz) := by
  refine Met.ofW (cc := cX5_least) (maxL := 9) (ret := (some .int)) (by decide) rfl ?_
  intro p e s m args below meth c s₁ B hml hv
  obtain ⟨rfl, hsz, hP, hK, hD0, hN, hZ⟩ := hv
  have hx := B.exec
  have hb := B.bytes
  have hr := B.returns
  have hts := atoms_spec (ws := wsX5_least) B.pre
  have hown : s.vm.findClass RX5 = some m.cls := findClass_of_methodNamed B.named
  have hlocks := B.notSynchronized
  subst hsz
  have hD := hD0.self (sz := s.heap.size)
  have hA := zA_of hD
  have hl := lv_entry ([.ref w0, .int 2, .int d, .int sec]) (n := 9) (Nat.le_of_ble_eq_true rfl)
  rw [lg_entry_eq]
  generalize (lg_sl ([.ref w0, .int 2, .int d, .int sec]) ++ List.replicate (9 - (lg_sl ([.ref w0, .int 2, .int d, .int sec])).length) Slot.unset).toArray = ls at hl ⊢
  replace hl : lv_has ls 9 [(0, .ref w0), (1, .int 2), (2, .int d), (3, .int sec)] := hl
  refine zw_begin hP hD (fun H locs hP1 hS => ?_)
  clear hP
  have hP := hP1
  clear hP1
  refine lv_iload_n hx hb dX5_least_0 rfl (lv_at hl 1 rfl) ?_
  refine lv_if_lt (tgt := 20) hx hb dX5_least_1 (by decide) (fun c_1 => ?_) (fun c_1 => ?_)
  · exact absurd c_1 (by decide)
  · refine lv_iload_n hx hb dX5_least_4 rfl (lv_at hl 1 rfl) ?_
    refine lv_iconst (v := 4) hx hb dX5_least_5 (by decide) ?_
    refine lv_icmp_gt (tgt := 20) hx hb dX5_least_6 (by decide) (fun c_2 => ?_) (fun c_2 => ?_)
    · exact absurd c_2 (by decide)
    · refine lv_iload_n hx hb dX5_least_9 rfl (lv_at hl 2 rfl) ?_
      refine lv_iconst (v := 1) hx hb dX5_least_10 (by decide) ?_
      refine lv_icmp_lt (tgt := 20) hx hb dX5_least_11 (by decide) (fun c_3 => ?_) (fun c_3 => ?_)
      · have fc_3 : d.toInt < 1 := zf_lt c_3 rfl (by decide)
        refine lv_iconst (v := 0) hx hb dX5_least_20 (by decide) ?_
        exact W.iret (v := 0) hx hb hr (fun t ht hW => ⟨⟨0, fl, rfl, ⟨(show zKn kq aq tq wn.toInt.toNat wh.toInt (fc 0).toInt (fc 1).toInt (fc 2).toInt wg.toInt fl from by exact hkn), (show (0 : Int32).toInt = (zLn kq aq tq wn.toInt.toNat wh.toInt (fc 0).toInt (fc 1).toInt (fc 2).toInt 2) d.toInt sec.toInt from by (have k9 : (0 : Int32).toInt = 0 := (by decide); rw [zLn_s, if_pos (by omega)]; exact k9)), ⟨by decide, by decide⟩⟩, zRet ht hP hD [0, 1, 2, 3] (by decide) rfl⟩, hS.F ht⟩) hS.2.2 dX5_least_21
      · have fc_3 : 1 ≤ d.toInt := zf_nlt c_3 rfl (by decide)
        refine lv_iload_n hx hb dX5_least_14 rfl (lv_at hl 2 rfl) ?_
        refine lv_bipush (v := 24) hx hb dX5_least_15 (by decide) ?_
        refine lv_icmp_le (tgt := 22) hx hb dX5_least_17 (by decide) (fun c_4 => ?_) (fun c_4 => ?_)
        · have fc_4 : d.toInt ≤ 24 := zf_le c_4 rfl (by decide)
          refine lv_iload_n hx hb dX5_least_22 rfl (lv_at hl 3 rfl) ?_
          refine lv_iload_n hx hb dX5_least_23 rfl (lv_at hl 1 rfl) ?_
          refine lv_aload_n hx hb dX5_least_24 rfl (lv_at hl 0 rfl) ?_
          refine va_get (D := D) (ci := 5) (v := .int wg) (C := RX5) (T := TX5) (N := 7) hx hb hts hi_X5_least_5 hown hK hP 0 rfl rfl 6 (by decide) (hts (.fieldLink RX5 34 "TheLiningsInIt$Ways" "longest" "I") (List.mem_of_getElem? (i := 1) rfl)) (fun _ h9 => h9) rfl dX5_least_25 ?_
          refine lv_imul hx hb dX5_least_28 ?_
          refine lv_topi (fun x_5 ex_5 => ?_)
          have qx_5 : x_5.toInt = 2 * wg.toInt := by rw [ex_5]; exact zf_mul (by decide) rfl (by omega) (by omega)
          refine lv_bipush (v := 30) hx hb dX5_least_29 (by decide) ?_
          refine lv_iadd hx hb dX5_least_31 ?_
          refine lv_topi (fun x_6 ex_6 => ?_)
          have qx_6 : x_6.toInt = x_5.toInt + 30 := by rw [ex_6]; exact zf_add rfl (by decide) (by omega) (by omega)
          refine lv_icmp_lt (tgt := 39) hx hb dX5_least_32 (by decide) (fun c_7 => ?_) (fun c_7 => ?_)
          · have fc_7 : sec.toInt < x_6.toInt := zf_lt c_7 rfl rfl
            refine lv_iconst (v := 0) hx hb dX5_least_39 (by decide) ?_
            refine lv_istore (lv' := [(4, .int 0), (0, .ref w0), (1, .int 2), (2, .int d), (3, .int sec)]) hx hb dX5_least_40 hl (by decide) rfl (fun ls hl => ?_)
            refine lv_iload_n hx hb dX5_least_42 rfl (lv_at hl 2 rfl) ?_
            refine lv_bipush (v := 25) hx hb dX5_least_43 (by decide) ?_
            refine lv_imul hx hb dX5_least_45 ?_
            refine lv_topi (fun y_8 ey_8 => ?_)
            obtain rfl : y_8 = 50 := ey_8.trans (by decide)
            refine lv_iload_n hx hb dX5_least_46 rfl (lv_at hl 3 rfl) ?_
            refine lv_iadd hx hb dX5_least_47 ?_
            refine lv_topi (fun x_9 ex_9 => ?_)
            have qx_9 : x_9.toInt = 50 + d.toInt := by rw [ex_9]; exact zf_add (by decide) rfl (by omega) (by omega)
            refine lv_istore (lv' := [(5, .int x_9), (4, .int 0), (0, .ref w0), (1, .int 2), (2, .int d), (3, .int sec)]) hx hb dX5_least_48 hl (by decide) rfl (fun ls hl => ?_)
            refine lv_iload hx hb dX5_least_50 (lv_at hl 1 rfl) ?_
            refine lv_if_eq (tgt := 74) hx hb dX5_least_52 (by decide) (fun c_10 => ?_) (fun c_10 => ?_)
            · refine lv_aload_n hx hb dX5_least_74 rfl (lv_at hl 2 rfl) ?_
              refine lv_iload_n hx hb dX5_least_75 rfl (lv_at hl 3 rfl) ?_
              refine lv_iload_n hx hb dX5_least_76 rfl (lv_at hl 5 rfl) ?_
              refine zc_V (As := [.int 2, .int sec]) (rest := []) ⟨hx, hb, hml, hown, hts⟩ (c_F_W_leastAtOnce_2 l D cI cJ cZ cP cS po w0 wk wl wc wp (wn) (wh) (wg) fc (sec) hy0 hy1 hy2 hy3 hy4 hy5 hy12 hy13 hp_fc) (cwV 2 hts gX5_least_X5_leastAtOnce rfl rfl rfl ⟨rfl, dh_X5_leastAtOnce⟩ ⟨Nat.le_of_ble_eq_true rfl, Nat.le_of_ble_eq_true rfl⟩) hK hN (hZ.kept hS) hP (hP.sub [0, 2] rfl) (va_recv (q := (RX5, TX5, 7)) hK hP (ci := 5) (q0 := 0) rfl rfl) rfl hl.1 rfl (Nat.le_of_ble_eq_true rfl) dX5_least_77 ⟨Nat.le_of_ble_eq_true rfl, Nat.le_of_ble_eq_true rfl⟩ (fun r_11 hr_11 => ?_)
              obtain ⟨g_12, g_13, hsr_11_0⟩ := hr_11
              refine lv_istore (lv' := [(6, .int r_11), (5, .int x_9), (4, .int 0), (0, .ref w0), (1, .int 2), (2, .int d), (3, .int sec)]) hx hb dX5_least_80 hl (by decide) rfl (fun ls hl => ?_)
              refine lv_iconst (v := 0) hx hb dX5_least_82 (by decide) ?_
              refine lv_istore (lv' := [(7, .int 0), (6, .int r_11), (5, .int x_9), (4, .int 0), (0, .ref w0), (1, .int 2), (2, .int d), (3, .int sec)]) hx hb dX5_least_83 hl (by decide) rfl (fun ls hl => ?_)
              obtain ⟨i_85, hi_85⟩ : ∃ i : Int32, i = 0 := ⟨_, rfl⟩
              replace hl : lv_has ls 9 [(7, .int i_85), (6, .int r_11), (5, .int x_9), (4, .int 0), (0, .ref w0), (1, .int 2), (2, .int d), (3, .int sec)] := by rw [hi_85]; exact lv_sub hl [0, 1, 2, 3, 4, 5, 6, 7] rfl
              have h1i_85 : i_85.toInt = 0 := by rw [hi_85]; decide
              obtain ⟨nfu, hni_85⟩ : ∃ nq9 : Nat, wn.toInt ≤ i_85.toInt + (nq9 : Int) := ⟨((wn.toInt : Int) - 0).toNat, by omega⟩
              have hloi_85 : 0 ≤ i_85.toInt := by omega
              obtain ⟨g_14, hg_14⟩ : ∃ g : Nat → Int32, g = fl := ⟨_, rfl⟩
              replace hP : va_P D vwCl [(w0, .inr (5, [.ref wk, .ref wl, .ref wc, .ref wp, .int wn, .int wh, .int wg])), (wl, .inl (cI, 125, .inl g_14)), (wc, .inl (cI, 3, .inl fc)), (wp, .inl (cP, 8, .inr (.inr (.inr (.inr fq)))))] H := by rw [hg_14]; exact hP
              replace hD : va_D (va_A [(w0, .inr (5, [.ref wk, .ref wl, .ref wc, .ref wp, .int wn, .int wh, .int wg])), (wl, .inl (cI, 125, .inl fl)), (wc, .inl (cI, 3, .inl fc)), (wp, .inl (cP, 8, .inr (.inr (.inr (.inr fq)))))] s.heap.size) [(w0, .inr (5, [.ref wk, .ref wl, .ref wc, .ref wp, .int wn, .int wh, .int wg])), (wl, .inl (cI, 125, .inl g_14)), (wc, .inl (cI, 3, .inl fc)), (wp, .inl (cP, 8, .inr (.inr (.inr (.inr fq)))))] := by rw [hg_14]; exact hD
              obtain ⟨v_15, hv_15⟩ : ∃ g : Int32, g = r_11 := ⟨_, rfl⟩
              replace hl : lv_has ls 9 [(7, .int i_85), (6, .int v_15), (5, .int x_9), (4, .int 0), (0, .ref w0), (1, .int 2), (2, .int d), (3, .int sec)] := by rw [hv_15]; exact hl
              have hbv_15 : 0 ≤ v_15.toInt ∧ v_15.toInt ≤ 14256 := by rw [hv_15]; exact ⟨by omega, by omega⟩
              have hvi_85_0 : zKn kq aq tq wn.toInt.toNat wh.toInt (fc 0).toInt (fc 1).toInt (fc 2).toInt wg.toInt g_14 := by
                (try rw [hi_85]); (try rw [hg_14]); (try rw [hv_15]); exact hkn
              have hvi_85_1 : (v_15 : Int32).toInt = zFi tq d.toInt sec.toInt (zPw 2 * zAt (fc 1).toInt (fc 2).toInt sec.toInt) (zLv (zLn kq aq tq wn.toInt.toNat wh.toInt (fc 0).toInt (fc 1).toInt (fc 2).toInt 1) kq aq tq (fc 0).toInt (zPw 2) wh.toInt d.toInt sec.toInt) i_85.toInt.toNat := by
                (try rw [hi_85]); (try rw [hg_14]); (try rw [hv_15]); (rw [(show ((0 : Int32).toInt.toNat) = 0 from by decide)]; exact hsr_11_0)
              have hvi_85_2 : i_85.toInt ≤ wn.toInt := by
                (try rw [hi_85]); (try rw [hg_14]); (try rw [hv_15]); (have k0 : (0 : Int32).toInt = 0 := (by decide); omega)
              clear h1i_85 hi_85 hg_14 hv_15
              skip
              revert hni_85
              revert hloi_85
              revert hvi_85_2
              revert hvi_85_1
              revert hvi_85_0
              revert hbv_15
              revert hl
              revert hS
              revert hD
              revert hP
              revert ls
              revert locs
              revert H
              revert g_14
              revert v_15
              revert i_85
              induction nfu with
              | zero =>
                intro i_85 v_15 g_14 H locs ls hP hD hS hl hbv_15 hvi_85_0 hvi_85_1 hvi_85_2 hloi_85 hni_85
                have hzi_85 : wn.toInt ≤ i_85.toInt := by omega
                refine lv_iload hx hb dX5_least_85 (lv_at hl 0 rfl) ?_
                refine lv_aload_n hx hb dX5_least_87 rfl (lv_at hl 4 rfl) ?_
                refine va_get (D := D) (ci := 5) (v := .int wn) (C := RX5) (T := TX5) (N := 7) hx hb hts hi_X5_least_5 hown hK hP 0 rfl rfl 4 (by decide) (hts (.fieldLink RX5 27 "TheLiningsInIt$Ways" "count" "I") (List.mem_of_getElem? (i := 3) rfl)) (fun _ h9 => h9) rfl dX5_least_88 ?_
                refine lv_icmp_ge (tgt := 135) hx hb dX5_least_91 (by decide) (fun c_16 => ?_) (fun c_16 => ?_)
                · have fc_16 : wn.toInt ≤ i_85.toInt := zf_le c_16 rfl rfl
                  refine lv_iload hx hb dX5_least_135 (lv_at hl 3 rfl) ?_
                  refine lv_if_eq (tgt := 149) hx hb dX5_least_137 (by decide) (fun c_17 => ?_) (fun c_17 => ?_)
                  · refine lv_iload hx hb dX5_least_149 (lv_at hl 1 rfl) ?_
                    exact W.iret (v := v_15) hx hb hr (fun t ht hW => ⟨⟨v_15, g_14, rfl, ⟨(show zKn kq aq tq wn.toInt.toNat wh.toInt (fc 0).toInt (fc 1).toInt (fc 2).toInt wg.toInt g_14 from by exact hvi_85_0), (show (v_15 : Int32).toInt = (zLn kq aq tq wn.toInt.toNat wh.toInt (fc 0).toInt (fc 1).toInt (fc 2).toInt 2) d.toInt sec.toInt from by (have h9 : i_85.toInt.toNat = wn.toInt.toNat := (by omega); have z := hvi_85_1; rw [h9] at z; rw [zLn_s, if_neg (by omega)]; exact z)), ⟨by omega, by omega⟩⟩, zRet ht hP hD [0, 1, 2, 3] (by decide) rfl⟩, hS.F ht⟩) hS.2.2 dX5_least_151
                  · exact absurd c_17 (by decide)
                · exfalso; have fc_16 : i_85.toInt < wn.toInt := zf_nle c_16 rfl rfl; omega
              | succ nfu ih =>
                intro i_85 v_15 g_14 H locs ls hP hD hS hl hbv_15 hvi_85_0 hvi_85_1 hvi_85_2 hloi_85 hni_85
                refine lv_iload hx hb dX5_least_85 (lv_at hl 0 rfl) ?_
                refine lv_aload_n hx hb dX5_least_87 rfl (lv_at hl 4 rfl) ?_
                refine va_get (D := D) (ci := 5) (v := .int wn) (C := RX5) (T := TX5) (N := 7) hx hb hts hi_X5_least_5 hown hK hP 0 rfl rfl 4 (by decide) (hts (.fieldLink RX5 27 "TheLiningsInIt$Ways" "count" "I") (List.mem_of_getElem? (i := 3) rfl)) (fun _ h9 => h9) rfl dX5_least_88 ?_
                refine lv_icmp_ge (tgt := 135) hx hb dX5_least_91 (by decide) (fun c_18 => ?_) (fun c_18 => ?_)
                · have fc_18 : wn.toInt ≤ i_85.toInt := zf_le c_18 rfl rfl
                  refine lv_iload hx hb dX5_least_135 (lv_at hl 3 rfl) ?_
                  refine lv_if_eq (tgt := 149) hx hb dX5_least_137 (by decide) (fun c_19 => ?_) (fun c_19 => ?_)
                  · refine lv_iload hx hb dX5_least_149 (lv_at hl 1 rfl) ?_
                    exact W.iret (v := v_15) hx hb hr (fun t ht hW => ⟨⟨v_15, g_14, rfl, ⟨(show zKn kq aq tq wn.toInt.toNat wh.toInt (fc 0).toInt (fc 1).toInt (fc 2).toInt wg.toInt g_14 from by exact hvi_85_0), (show (v_15 : Int32).toInt = (zLn kq aq tq wn.toInt.toNat wh.toInt (fc 0).toInt (fc 1).toInt (fc 2).toInt 2) d.toInt sec.toInt from by (have h9 : i_85.toInt.toNat = wn.toInt.toNat := (by omega); have z := hvi_85_1; rw [h9] at z; rw [zLn_s, if_neg (by omega)]; exact z)), ⟨by omega, by omega⟩⟩, zRet ht hP hD [0, 1, 2, 3] (by decide) rfl⟩, hS.F ht⟩) hS.2.2 dX5_least_151
                  · exact absurd c_19 (by decide)
                · have fc_18 : i_85.toInt < wn.toInt := zf_nle c_18 rfl rfl
                  refine lv_iload_n hx hb dX5_least_94 rfl (lv_at hl 5 rfl) ?_
                  refine lv_if_le (tgt := 135) hx hb dX5_least_95 (by decide) (fun c_20 => ?_) (fun c_20 => ?_)
                  · exact absurd c_20 (by decide)
                  · refine lv_aload_n hx hb dX5_least_98 rfl (lv_at hl 4 rfl) ?_
                    refine lv_iload hx hb dX5_least_99 (lv_at hl 0 rfl) ?_
                    refine lv_iload_n hx hb dX5_least_101 rfl (lv_at hl 6 rfl) ?_
                    refine lv_iload_n hx hb dX5_least_102 rfl (lv_at hl 7 rfl) ?_
                    refine zc_Vq (As := [.int i_85, .int d, .int sec]) (rest := []) ⟨hx, hb, hml, hown, hts⟩ (c_F_W_mayBeAt l D cI cJ cZ cP cS po w0 wk wl wc wp (wn) (wh) (wg) fq kq aq tq (tw) (i_85) (d) (sec) hy0 hy1 hy2 hy3 hy4 hy5 hjw (by omega) (by omega) (by omega) hy12 hy13) (cwV 3 hts gX5_least_X5_mayBeAt rfl rfl rfl ⟨rfl, dh_X5_mayBeAt⟩ ⟨Nat.le_of_ble_eq_true rfl, Nat.le_of_ble_eq_true rfl⟩) hK hN (hZ.kept hS) hP (hP.sub [0, 3] rfl) (va_recv (q := (RX5, TX5, 7)) hK hP (ci := 5) (q0 := 0) rfl rfl) rfl hl.1 rfl (Nat.le_of_ble_eq_true rfl) dX5_least_103 ⟨Nat.le_of_ble_eq_true rfl, Nat.le_of_ble_eq_true rfl⟩ (fun r_21 hr_21 => ?_)
                    rcases hr_21 with ⟨rfl, hn_22⟩ | ⟨rfl, hn_24, g_23⟩ | ⟨rfl, hn_26, g_25⟩ | ⟨⟨u_28, kiu_28, au_28, tu_28, rfl, huu_28, hkku_28⟩, g_27⟩
                    · refine lv_astoreN (lv' := [(8, .null), (7, .int i_85), (6, .int v_15), (5, .int x_9), (4, .int 0), (0, .ref w0), (1, .int 2), (2, .int d), (3, .int sec)]) hx hb dX5_least_106 hl (by decide) rfl (fun ls hl => ?_)
                      refine lv_aloadN hx hb dX5_least_108 (lv_at hl 0 rfl) ?_
                      refine lv_ifnullN (tgt := 129) hx hb dX5_least_110 (by decide) ?_
                      obtain ⟨x_29, ex_29⟩ : ∃ y : Int32, y = i_85 + 1 := ⟨_, rfl⟩
                      have qx_29 : x_29.toInt = i_85.toInt + 1 := dw_inc ex_29 fc_18
                      refine lv_iinc (v := x_29) (lv' := [(7, .int x_29), (8, .null), (6, .int v_15), (5, .int x_9), (4, .int 0), (0, .ref w0), (1, .int 2), (2, .int d), (3, .int sec)]) hx hb dX5_least_129 hl (k := 1) rfl ex_29.symm (by decide) rfl (fun ls hl => ?_)
                      refine lv_goto (tgt := 85) hx hb dX5_least_132 (by decide) ?_
                      exact ih x_29 v_15 (g_14) _ _ _ (hP.sub [0, 1, 2, 3] rfl) (hD.sub [0, 1, 2, 3] (by decide) rfl) hS (lv_sub hl [0, 2, 3, 4, 5, 6, 7, 8] rfl) hbv_15 (show zKn kq aq tq wn.toInt.toNat wh.toInt (fc 0).toInt (fc 1).toInt (fc 2).toInt wg.toInt g_14 from by exact hvi_85_0) (show (v_15 : Int32).toInt = zFi tq d.toInt sec.toInt (zPw 2 * zAt (fc 1).toInt (fc 2).toInt sec.toInt) (zLv (zLn kq aq tq wn.toInt.toNat wh.toInt (fc 0).toInt (fc 1).toInt (fc 2).toInt 1) kq aq tq (fc 0).toInt (zPw 2) wh.toInt d.toInt sec.toInt) x_29.toInt.toNat from by (have hx : x_29.toInt.toNat = i_85.toInt.toNat + 1 := (by omega); have y4 := hn_22; have y9 : i_85.toNatClampNeg = i_85.toInt.toNat := rfl; rw [y9] at y4; rw [hx, zFi_n (fun z => y4 ⟨z.1, z.2, Or.inl (by omega)⟩)]; exact hvi_85_1)) (show x_29.toInt ≤ wn.toInt from by omega) (dw_lo hloi_85 qx_29) (dw_hn hni_85 qx_29)
                    · exfalso; omega
                    · refine lv_astoreN (lv' := [(8, .null), (7, .int i_85), (6, .int v_15), (5, .int x_9), (4, .int 0), (0, .ref w0), (1, .int 2), (2, .int d), (3, .int sec)]) hx hb dX5_least_106 hl (by decide) rfl (fun ls hl => ?_)
                      refine lv_aloadN hx hb dX5_least_108 (lv_at hl 0 rfl) ?_
                      refine lv_ifnullN (tgt := 129) hx hb dX5_least_110 (by decide) ?_
                      obtain ⟨x_30, ex_30⟩ : ∃ y : Int32, y = i_85 + 1 := ⟨_, rfl⟩
                      have qx_30 : x_30.toInt = i_85.toInt + 1 := dw_inc ex_30 fc_18
                      refine lv_iinc (v := x_30) (lv' := [(7, .int x_30), (8, .null), (6, .int v_15), (5, .int x_9), (4, .int 0), (0, .ref w0), (1, .int 2), (2, .int d), (3, .int sec)]) hx hb dX5_least_129 hl (k := 1) rfl ex_30.symm (by decide) rfl (fun ls hl => ?_)
                      refine lv_goto (tgt := 85) hx hb dX5_least_132 (by decide) ?_
                      exact ih x_30 v_15 (g_14) _ _ _ (hP.sub [0, 1, 2, 3] rfl) (hD.sub [0, 1, 2, 3] (by decide) rfl) hS (lv_sub hl [0, 2, 3, 4, 5, 6, 7, 8] rfl) hbv_15 (show zKn kq aq tq wn.toInt.toNat wh.toInt (fc 0).toInt (fc 1).toInt (fc 2).toInt wg.toInt g_14 from by exact hvi_85_0) (show (v_15 : Int32).toInt = zFi tq d.toInt sec.toInt (zPw 2 * zAt (fc 1).toInt (fc 2).toInt sec.toInt) (zLv (zLn kq aq tq wn.toInt.toNat wh.toInt (fc 0).toInt (fc 1).toInt (fc 2).toInt 1) kq aq tq (fc 0).toInt (zPw 2) wh.toInt d.toInt sec.toInt) x_30.toInt.toNat from by (have hx : x_30.toInt.toNat = i_85.toInt.toNat + 1 := (by omega); have y4 := hn_26; have y9 : i_85.toNatClampNeg = i_85.toInt.toNat := rfl; rw [y9] at y4; rw [hx, zFi_n (fun z => y4 ⟨z.1, z.2, Or.inl (by omega)⟩)]; exact hvi_85_1)) (show x_30.toInt ≤ wn.toInt from by omega) (dw_lo hloi_85 qx_30) (dw_hn hni_85 qx_30)
                    · refine W.eq (g2 := F0 m 106 ls (.ref u_28 :: [])) rfl ?_
                      obtain ⟨hku_28, hau_28, htu_28⟩ := zPu_pr (hZ.kept hS) huu_28
                      refine lv_astore (lv' := [(8, .ref u_28), (7, .int i_85), (6, .int v_15), (5, .int x_9), (4, .int 0), (0, .ref w0), (1, .int 2), (2, .int d), (3, .int sec)]) hx hb dX5_least_106 hl (by decide) rfl (fun ls hl => ?_)
                      refine lv_aload hx hb dX5_least_108 (lv_at hl 0 rfl) ?_
                      refine lv_ifnull hx hb dX5_least_110 ?_
                      refine lv_iload hx hb dX5_least_113 (lv_at hl 2 rfl) ?_
                      refine lv_aload_n hx hb dX5_least_115 rfl (lv_at hl 5 rfl) ?_
                      refine lv_aload hx hb dX5_least_116 (lv_at hl 0 rfl) ?_
                      refine lv_iload_n hx hb dX5_least_118 rfl (lv_at hl 6 rfl) ?_
                      refine lv_iload_n hx hb dX5_least_119 rfl (lv_at hl 7 rfl) ?_
                      refine lv_iload_n hx hb dX5_least_120 rfl (lv_at hl 8 rfl) ?_
                      have tsu_28 : tu_28.toInt ≤ sec.toInt := by (obtain ⟨⟨y1, y2, y3⟩, y4⟩ := hkku_28; have z := y4.2.1; rw [y3]; exact z)
                      skip
                      refine zw_V (As := [.ref u_28, .int 2, .int d, .int sec]) (rest := [.int v_15]) (wr := []) ⟨hx, hb, hml, hown, hts⟩ (c_F_W_leastBy_2 l D cI cJ cZ cP cS po w0 wk wl wc wp (wn) (wh) (wg) fq kq aq tq (tw) g_14 fc (d) (sec) u_28 (kiu_28) (au_28) (tu_28) huu_28 ⟨by omega, by omega, by omega, by omega⟩ hy0 hy1 hy2 hy3 hy4 hy5 hjw (by first | assumption | omega) (by first | assumption | omega) (by first | assumption | omega | decide) hy10 hy11 hy12 hy13 (by omega) hp_fc H.size) (cwV 4 hts gX5_least_X5_leastBy rfl rfl rfl ⟨rfl, dh_X5_leastBy⟩ ⟨Nat.le_of_ble_eq_true rfl, Nat.le_of_ble_eq_true rfl⟩) hK hN (hZ.kept hS) hP hD hS hA [0, 1, 2, 3] [] rfl rfl (by decide) (by decide) (by decide) (va_recv (q := (RX5, TX5, 7)) hK hP (ci := 5) (q0 := 0) rfl rfl) rfl hl.1 rfl (Nat.le_of_ble_eq_true rfl) dX5_least_121 ⟨Nat.le_of_ble_eq_true rfl, Nat.le_of_ble_eq_true rfl⟩ (fun r_31 u_32 H locs hr_31 hP hD hS => ?_)
                      obtain ⟨q_33, rfl⟩ : ∃ z, z = u_32 := ⟨_, rfl⟩
                      obtain ⟨hsr_31_0, hsr_31_1, hr_31⟩ := hr_31
                      have h9R := zRe (ws' := [(w0, .inr (5, [.ref wk, .ref wl, .ref wc, .ref wp, .int wn, .int wh, .int wg])), (wl, .inl (cI, 125, .inl q_33)), (wc, .inl (cI, 3, .inl fc)), (wp, .inl (cP, 8, .inr (.inr (.inr (.inr fq)))))]) hP hD rfl
                      clear hP hD
                      obtain ⟨hP, hD⟩ := h9R
                      obtain ⟨g_34, g_35⟩ := hr_31
                      refine va_mmin hx hb (hml.trans hl.1.symm) hown (hts (.methodLink RX5 110 Lib.Math.min.name) (List.mem_of_getElem? (i := 4) rfl)) (hts _ (List.mem_of_getElem? (i := 5) rfl)) (hts _ (List.mem_of_getElem? (i := 6) rfl)) (hts _ (List.mem_of_getElem? (i := 7) rfl)) (Nat.le_of_ble_eq_true rfl) (Nat.le_of_ble_eq_true rfl) (Nat.le_of_ble_eq_true rfl) (Nat.le_of_ble_eq_true rfl) dX5_least_124 ?_
                      refine lv_topi (fun x_36 ex_36 => ?_)
                      have qx_36 := zf_min ex_36 (x1 := v_15.toInt) (y1 := r_31.toInt) rfl rfl
                      refine lv_istore (lv' := [(6, .int x_36), (8, .ref u_28), (7, .int i_85), (5, .int x_9), (4, .int 0), (0, .ref w0), (1, .int 2), (2, .int d), (3, .int sec)]) hx hb dX5_least_127 hl (by decide) rfl (fun ls hl => ?_)
                      obtain ⟨x_37, ex_37⟩ : ∃ y : Int32, y = i_85 + 1 := ⟨_, rfl⟩
                      have qx_37 : x_37.toInt = i_85.toInt + 1 := dw_inc ex_37 fc_18
                      refine lv_iinc (v := x_37) (lv' := [(7, .int x_37), (6, .int x_36), (8, .ref u_28), (5, .int x_9), (4, .int 0), (0, .ref w0), (1, .int 2), (2, .int d), (3, .int sec)]) hx hb dX5_least_129 hl (k := 2) rfl ex_37.symm (by decide) rfl (fun ls hl => ?_)
                      refine lv_goto (tgt := 85) hx hb dX5_least_132 (by decide) ?_
                      exact ih x_37 x_36 (q_33) _ _ _ (hP.sub [0, 1, 2, 3] rfl) (hD.sub [0, 1, 2, 3] (by decide) rfl) hS (lv_sub hl [0, 1, 3, 4, 5, 6, 7, 8] rfl) ⟨by omega, by omega⟩ (show zKn kq aq tq wn.toInt.toNat wh.toInt (fc 0).toInt (fc 1).toInt (fc 2).toInt wg.toInt q_33 from by exact hsr_31_0) (show (x_36 : Int32).toInt = zFi tq d.toInt sec.toInt (zPw 2 * zAt (fc 1).toInt (fc 2).toInt sec.toInt) (zLv (zLn kq aq tq wn.toInt.toNat wh.toInt (fc 0).toInt (fc 1).toInt (fc 2).toInt 1) kq aq tq (fc 0).toInt (zPw 2) wh.toInt d.toInt sec.toInt) x_37.toInt.toNat from by (have hx : x_37.toInt.toNat = i_85.toInt.toNat + 1 := (by omega); obtain ⟨⟨y1, y2, y3⟩, y4⟩ := hkku_28; have y9 : i_85.toNatClampNeg = i_85.toInt.toNat := rfl; rw [y9] at y1 y2 y3 y4; rw [hx, zFi_y ⟨y4.1, y4.2.1⟩, ← hvi_85_1]; have zr := hsr_31_1; rw [y1, y2, y3] at zr; have zr2 : r_31.toInt = (zLv (zLn kq aq tq wn.toInt.toNat wh.toInt (fc 0).toInt (fc 1).toInt (fc 2).toInt 1) kq aq tq (fc 0).toInt (zPw 2) wh.toInt d.toInt sec.toInt) i_85.toInt.toNat := zr; omega)) (show x_37.toInt ≤ wn.toInt from by omega) (dw_lo hloi_85 qx_37) (dw_hn hni_85 qx_37)
            · exact absurd c_10 (by decide)
          · have fc_7 : x_6.toInt ≤ sec.toInt := zf_nlt c_7 rfl rfl
            refine lv_iconst (v := 1) hx hb dX5_least_35 (by decide) ?_
            refine lv_goto (tgt := 40) hx hb dX5_least_36 (by decide) ?_
            refine lv_istore (lv' := [(4, .int 1), (0, .ref w0), (1, .int 2), (2, .int d), (3, .int sec)]) hx hb dX5_least_40 hl (by decide) rfl (fun ls hl => ?_)
            refine lv_iload_n hx hb dX5_least_42 rfl (lv_at hl 2 rfl) ?_
            refine lv_bipush (v := 25) hx hb dX5_least_43 (by decide) ?_
            refine lv_imul hx hb dX5_least_45 ?_
            refine lv_topi (fun y_38 ey_38 => ?_)
            obtain rfl : y_38 = 50 := ey_38.trans (by decide)
            refine lv_iload_n hx hb dX5_least_46 rfl (lv_at hl 3 rfl) ?_
            refine lv_iadd hx hb dX5_least_47 ?_
            refine lv_topi (fun x_39 ex_39 => ?_)
            have qx_39 : x_39.toInt = 50 + d.toInt := by rw [ex_39]; exact zf_add (by decide) rfl (by omega) (by omega)
            refine lv_istore (lv' := [(5, .int x_39), (4, .int 1), (0, .ref w0), (1, .int 2), (2, .int d), (3, .int sec)]) hx hb dX5_least_48 hl (by decide) rfl (fun ls hl => ?_)
            refine lv_iload hx hb dX5_least_50 (lv_at hl 1 rfl) ?_
            refine lv_if_eq (tgt := 74) hx hb dX5_least_52 (by decide) (fun c_40 => ?_) (fun c_40 => ?_)
            · exact absurd c_40 (by decide)
            · refine lv_aload_n hx hb dX5_least_55 rfl (lv_at hl 2 rfl) ?_
              refine va_get (D := D) (ci := 5) (v := .ref wl) (C := RX5) (T := TX5) (N := 7) hx hb hts hi_X5_least_5 hown hK hP 0 rfl rfl 1 (by decide) (hts (.fieldLink RX5 15 "TheLiningsInIt$Ways" "knownLeast" "[I") (List.mem_of_getElem? (i := 2) rfl)) (fun _ h9 => h9) rfl dX5_least_56 ?_
              refine lv_iload hx hb dX5_least_59 (lv_at hl 0 rfl) ?_
              refine va_iald hx hb hK hP 1 0 rfl rfl (zf_in (by omega) (by omega)) dX5_least_61 ?_
              refine lv_topi (fun x_41 ex_41 => ?_)
              refine lv_iconst (v := (-1)) hx hb dX5_least_62 (by decide) ?_
              refine lv_icmp_eq (tgt := 74) hx hb dX5_least_63 (by decide) (fun c_42 => ?_) (fun c_42 => ?_)
              · have fc_42 : x_41.toInt = (-1) := zf_eq c_42 rfl (by decide)
                refine lv_aload_n hx hb dX5_least_74 rfl (lv_at hl 2 rfl) ?_
                refine lv_iload_n hx hb dX5_least_75 rfl (lv_at hl 3 rfl) ?_
                refine lv_iload_n hx hb dX5_least_76 rfl (lv_at hl 5 rfl) ?_
                refine zc_V (As := [.int 2, .int sec]) (rest := []) ⟨hx, hb, hml, hown, hts⟩ (c_F_W_leastAtOnce_2 l D cI cJ cZ cP cS po w0 wk wl wc wp (wn) (wh) (wg) fc (sec) hy0 hy1 hy2 hy3 hy4 hy5 hy12 hy13 hp_fc) (cwV 2 hts gX5_least_X5_leastAtOnce rfl rfl rfl ⟨rfl, dh_X5_leastAtOnce⟩ ⟨Nat.le_of_ble_eq_true rfl, Nat.le_of_ble_eq_true rfl⟩) hK hN (hZ.kept hS) hP (hP.sub [0, 2] rfl) (va_recv (q := (RX5, TX5, 7)) hK hP (ci := 5) (q0 := 0) rfl rfl) rfl hl.1 rfl (Nat.le_of_ble_eq_true rfl) dX5_least_77 ⟨Nat.le_of_ble_eq_true rfl, Nat.le_of_ble_eq_true rfl⟩ (fun r_43 hr_43 => ?_)
                obtain ⟨g_44, g_45, hsr_43_0⟩ := hr_43
                refine lv_istore (lv' := [(6, .int r_43), (5, .int x_39), (4, .int 1), (0, .ref w0), (1, .int 2), (2, .int d), (3, .int sec)]) hx hb dX5_least_80 hl (by decide) rfl (fun ls hl => ?_)
                refine lv_iconst (v := 0) hx hb dX5_least_82 (by decide) ?_
                refine lv_istore (lv' := [(7, .int 0), (6, .int r_43), (5, .int x_39), (4, .int 1), (0, .ref w0), (1, .int 2), (2, .int d), (3, .int sec)]) hx hb dX5_least_83 hl (by decide) rfl (fun ls hl => ?_)
                obtain ⟨i_85, hi_85⟩ : ∃ i : Int32, i = 0 := ⟨_, rfl⟩
                replace hl : lv_has ls 9 [(7, .int i_85), (6, .int r_43), (5, .int x_39), (4, .int 1), (0, .ref w0), (1, .int 2), (2, .int d), (3, .int sec)] := by rw [hi_85]; exact lv_sub hl [0, 1, 2, 3, 4, 5, 6, 7] rfl
                have h1i_85 : i_85.toInt = 0 := by rw [hi_85]; decide
                obtain ⟨nfu, hni_85⟩ : ∃ nq9 : Nat, wn.toInt ≤ i_85.toInt + (nq9 : Int) := ⟨((wn.toInt : Int) - 0).toNat, by omega⟩
                have hloi_85 : 0 ≤ i_85.toInt := by omega
                obtain ⟨g_46, hg_46⟩ : ∃ g : Nat → Int32, g = fl := ⟨_, rfl⟩
                replace hP : va_P D vwCl [(w0, .inr (5, [.ref wk, .ref wl, .ref wc, .ref wp, .int wn, .int wh, .int wg])), (wl, .inl (cI, 125, .inl g_46)), (wc, .inl (cI, 3, .inl fc)), (wp, .inl (cP, 8, .inr (.inr (.inr (.inr fq)))))] H := by rw [hg_46]; exact hP
                replace hD : va_D (va_A [(w0, .inr (5, [.ref wk, .ref wl, .ref wc, .ref wp, .int wn, .int wh, .int wg])), (wl, .inl (cI, 125, .inl fl)), (wc, .inl (cI, 3, .inl fc)), (wp, .inl (cP, 8, .inr (.inr (.inr (.inr fq)))))] s.heap.size) [(w0, .inr (5, [.ref wk, .ref wl, .ref wc, .ref wp, .int wn, .int wh, .int wg])), (wl, .inl (cI, 125, .inl g_46)), (wc, .inl (cI, 3, .inl fc)), (wp, .inl (cP, 8, .inr (.inr (.inr (.inr fq)))))] := by rw [hg_46]; exact hD
                obtain ⟨v_47, hv_47⟩ : ∃ g : Int32, g = r_43 := ⟨_, rfl⟩
                replace hl : lv_has ls 9 [(7, .int i_85), (6, .int v_47), (5, .int x_39), (4, .int 1), (0, .ref w0), (1, .int 2), (2, .int d), (3, .int sec)] := by rw [hv_47]; exact hl
                have hbv_47 : 0 ≤ v_47.toInt ∧ v_47.toInt ≤ 14256 := by rw [hv_47]; exact ⟨by omega, by omega⟩
                have hvi_85_0 : zKn kq aq tq wn.toInt.toNat wh.toInt (fc 0).toInt (fc 1).toInt (fc 2).toInt wg.toInt g_46 := by
                  (try rw [hi_85]); (try rw [hg_46]); (try rw [hv_47]); exact hkn
                have hvi_85_1 : (v_47 : Int32).toInt = zFi tq d.toInt sec.toInt (zPw 2 * zAt (fc 1).toInt (fc 2).toInt sec.toInt) (zLv (zLn kq aq tq wn.toInt.toNat wh.toInt (fc 0).toInt (fc 1).toInt (fc 2).toInt 1) kq aq tq (fc 0).toInt (zPw 2) wh.toInt d.toInt sec.toInt) i_85.toInt.toNat := by
                  (try rw [hi_85]); (try rw [hg_46]); (try rw [hv_47]); (rw [(show ((0 : Int32).toInt.toNat) = 0 from by decide)]; exact hsr_43_0)
                have hvi_85_2 : i_85.toInt ≤ wn.toInt := by
                  (try rw [hi_85]); (try rw [hg_46]); (try rw [hv_47]); (have k0 : (0 : Int32).toInt = 0 := (by decide); omega)
                clear h1i_85 hi_85 hg_46 hv_47
                skip
                revert hni_85
                revert hloi_85
                revert hvi_85_2
                revert hvi_85_1
                revert hvi_85_0
                revert hbv_47
                revert hl
                revert hS
                revert hD
                revert hP
                revert ls
                revert locs
                revert H
                revert g_46
                revert v_47
                revert i_85
                induction nfu with
                | zero =>
                  intro i_85 v_47 g_46 H locs ls hP hD hS hl hbv_47 hvi_85_0 hvi_85_1 hvi_85_2 hloi_85 hni_85
                  have hzi_85 : wn.toInt ≤ i_85.toInt := by omega
                  refine lv_iload hx hb dX5_least_85 (lv_at hl 0 rfl) ?_
                  refine lv_aload_n hx hb dX5_least_87 rfl (lv_at hl 4 rfl) ?_
                  refine va_get (D := D) (ci := 5) (v := .int wn) (C := RX5) (T := TX5) (N := 7) hx hb hts hi_X5_least_5 hown hK hP 0 rfl rfl 4 (by decide) (hts (.fieldLink RX5 27 "TheLiningsInIt$Ways" "count" "I") (List.mem_of_getElem? (i := 3) rfl)) (fun _ h9 => h9) rfl dX5_least_88 ?_
                  refine lv_icmp_ge (tgt := 135) hx hb dX5_least_91 (by decide) (fun c_48 => ?_) (fun c_48 => ?_)
                  · have fc_48 : wn.toInt ≤ i_85.toInt := zf_le c_48 rfl rfl
                    refine lv_iload hx hb dX5_least_135 (lv_at hl 3 rfl) ?_
                    refine lv_if_eq (tgt := 149) hx hb dX5_least_137 (by decide) (fun c_49 => ?_) (fun c_49 => ?_)
                    · exact absurd c_49 (by decide)
                    · refine lv_aload_n hx hb dX5_least_140 rfl (lv_at hl 4 rfl) ?_
                      refine va_get (D := D) (ci := 5) (v := .ref wl) (C := RX5) (T := TX5) (N := 7) hx hb hts hi_X5_least_5 hown hK hP 0 rfl rfl 1 (by decide) (hts (.fieldLink RX5 15 "TheLiningsInIt$Ways" "knownLeast" "[I") (List.mem_of_getElem? (i := 2) rfl)) (fun _ h9 => h9) rfl dX5_least_141 ?_
                      refine lv_iload hx hb dX5_least_144 (lv_at hl 2 rfl) ?_
                      refine lv_iload hx hb dX5_least_146 (lv_at hl 1 rfl) ?_
                      refine va_iast hx hb hK hP hD hS 1 0 rfl rfl (zf_in (by omega) (by omega)) dX5_least_148 (fun H locs hP hD hS => ?_)
                      obtain ⟨g_50, hg_50⟩ : ∃ g : Nat → Int32, g = upd g_46 x_39.toNatClampNeg v_47 := ⟨_, rfl⟩
                      rw [← hg_50] at hP hD
                      have h9R := zRe (ws' := [(w0, .inr (5, [.ref wk, .ref wl, .ref wc, .ref wp, .int wn, .int wh, .int wg])), (wl, .inl (cI, 125, .inl g_50)), (wc, .inl (cI, 3, .inl fc)), (wp, .inl (cP, 8, .inr (.inr (.inr (.inr fq)))))]) hP hD rfl
                      clear hP hD
                      obtain ⟨hP, hD⟩ := h9R
                      refine lv_iload hx hb dX5_least_149 (lv_at hl 1 rfl) ?_
                      exact W.iret (v := v_47) hx hb hr (fun t ht hW => ⟨⟨v_47, g_50, rfl, ⟨(show zKn kq aq tq wn.toInt.toNat wh.toInt (fc 0).toInt (fc 1).toInt (fc 2).toInt wg.toInt g_50 from by (rw [hg_50]; exact zKn_u (m := 2) (d := d) (s := sec) hvi_85_0 (by omega) hgl (by omega) ⟨by omega, by omega⟩ (by omega) (by have h9 : i_85.toInt.toNat = wn.toInt.toNat := (by omega); have z := hvi_85_1; rw [h9] at z; rw [zLn_s, if_neg (by omega)]; exact z))), (show (v_47 : Int32).toInt = (zLn kq aq tq wn.toInt.toNat wh.toInt (fc 0).toInt (fc 1).toInt (fc 2).toInt 2) d.toInt sec.toInt from by (have h9 : i_85.toInt.toNat = wn.toInt.toNat := (by omega); have z := hvi_85_1; rw [h9] at z; rw [zLn_s, if_neg (by omega)]; exact z)), ⟨by omega, by omega⟩⟩, zRet ht hP hD [0, 1, 2, 3] (by decide) rfl⟩, hS.F ht⟩) hS.2.2 dX5_least_151
                  · exfalso; have fc_48 : i_85.toInt < wn.toInt := zf_nle c_48 rfl rfl; omega
                | succ nfu ih =>
                  intro i_85 v_47 g_46 H locs ls hP hD hS hl hbv_47 hvi_85_0 hvi_85_1 hvi_85_2 hloi_85 hni_85
                  refine lv_iload hx hb dX5_least_85 (lv_at hl 0 rfl) ?_
                  refine lv_aload_n hx hb dX5_least_87 rfl (lv_at hl 4 rfl) ?_
                  refine va_get (D := D) (ci := 5) (v := .int wn) (C := RX5) (T := TX5) (N := 7) hx hb hts hi_X5_least_5 hown hK hP 0 rfl rfl 4 (by decide) (hts (.fieldLink RX5 27 "TheLiningsInIt$Ways" "count" "I") (List.mem_of_getElem? (i := 3) rfl)) (fun _ h9 => h9) rfl dX5_least_88 ?_
                  refine lv_icmp_ge (tgt := 135) hx hb dX5_least_91 (by decide) (fun c_51 => ?_) (fun c_51 => ?_)
                  · have fc_51 : wn.toInt ≤ i_85.toInt := zf_le c_51 rfl rfl
                    refine lv_iload hx hb dX5_least_135 (lv_at hl 3 rfl) ?_
                    refine lv_if_eq (tgt := 149) hx hb dX5_least_137 (by decide) (fun c_52 => ?_) (fun c_52 => ?_)
                    · exact absurd c_52 (by decide)
                    · refine lv_aload_n hx hb dX5_least_140 rfl (lv_at hl 4 rfl) ?_
                      refine va_get (D := D) (ci := 5) (v := .ref wl) (C := RX5) (T := TX5) (N := 7) hx hb hts hi_X5_least_5 hown hK hP 0 rfl rfl 1 (by decide) (hts (.fieldLink RX5 15 "TheLiningsInIt$Ways" "knownLeast" "[I") (List.mem_of_getElem? (i := 2) rfl)) (fun _ h9 => h9) rfl dX5_least_141 ?_
                      refine lv_iload hx hb dX5_least_144 (lv_at hl 2 rfl) ?_
                      refine lv_iload hx hb dX5_least_146 (lv_at hl 1 rfl) ?_
                      refine va_iast hx hb hK hP hD hS 1 0 rfl rfl (zf_in (by omega) (by omega)) dX5_least_148 (fun H locs hP hD hS => ?_)
                      obtain ⟨g_53, hg_53⟩ : ∃ g : Nat → Int32, g = upd g_46 x_39.toNatClampNeg v_47 := ⟨_, rfl⟩
                      rw [← hg_53] at hP hD
                      have h9R := zRe (ws' := [(w0, .inr (5, [.ref wk, .ref wl, .ref wc, .ref wp, .int wn, .int wh, .int wg])), (wl, .inl (cI, 125, .inl g_53)), (wc, .inl (cI, 3, .inl fc)), (wp, .inl (cP, 8, .inr (.inr (.inr (.inr fq)))))]) hP hD rfl
                      clear hP hD
                      obtain ⟨hP, hD⟩ := h9R
                      refine lv_iload hx hb dX5_least_149 (lv_at hl 1 rfl) ?_
                      exact W.iret (v := v_47) hx hb hr (fun t ht hW => ⟨⟨v_47, g_53, rfl, ⟨(show zKn kq aq tq wn.toInt.toNat wh.toInt (fc 0).toInt (fc 1).toInt (fc 2).toInt wg.toInt g_53 from by (rw [hg_53]; exact zKn_u (m := 2) (d := d) (s := sec) hvi_85_0 (by omega) hgl (by omega) ⟨by omega, by omega⟩ (by omega) (by have h9 : i_85.toInt.toNat = wn.toInt.toNat := (by omega); have z := hvi_85_1; rw [h9] at z; rw [zLn_s, if_neg (by omega)]; exact z))), (show (v_47 : Int32).toInt = (zLn kq aq tq wn.toInt.toNat wh.toInt (fc 0).toInt (fc 1).toInt (fc 2).toInt 2) d.toInt sec.toInt from by (have h9 : i_85.toInt.toNat = wn.toInt.toNat := (by omega); have z := hvi_85_1; rw [h9] at z; rw [zLn_s, if_neg (by omega)]; exact z)), ⟨by omega, by omega⟩⟩, zRet ht hP hD [0, 1, 2, 3] (by decide) rfl⟩, hS.F ht⟩) hS.2.2 dX5_least_151
                  · have fc_51 : i_85.toInt < wn.toInt := zf_nle c_51 rfl rfl
                    refine lv_iload_n hx hb dX5_least_94 rfl (lv_at hl 5 rfl) ?_
                    refine lv_if_le (tgt := 135) hx hb dX5_least_95 (by decide) (fun c_54 => ?_) (fun c_54 => ?_)
                    · exact absurd c_54 (by decide)
                    · refine lv_aload_n hx hb dX5_least_98 rfl (lv_at hl 4 rfl) ?_
                      refine lv_iload hx hb dX5_least_99 (lv_at hl 0 rfl) ?_
                      refine lv_iload_n hx hb dX5_least_101 rfl (lv_at hl 6 rfl) ?_
                      refine lv_iload_n hx hb dX5_least_102 rfl (lv_at hl 7 rfl) ?_
                      refine zc_Vq (As := [.int i_85, .int d, .int sec]) (rest := []) ⟨hx, hb, hml, hown, hts⟩ (c_F_W_mayBeAt l D cI cJ cZ cP cS po w0 wk wl wc wp (wn) (wh) (wg) fq kq aq tq (tw) (i_85) (d) (sec) hy0 hy1 hy2 hy3 hy4 hy5 hjw (by omega) (by omega) (by omega) hy12 hy13) (cwV 3 hts gX5_least_X5_mayBeAt rfl rfl rfl ⟨rfl, dh_X5_mayBeAt⟩ ⟨Nat.le_of_ble_eq_true rfl, Nat.le_of_ble_eq_true rfl⟩) hK hN (hZ.kept hS) hP (hP.sub [0, 3] rfl) (va_recv (q := (RX5, TX5, 7)) hK hP (ci := 5) (q0 := 0) rfl rfl) rfl hl.1 rfl (Nat.le_of_ble_eq_true rfl) dX5_least_103 ⟨Nat.le_of_ble_eq_true rfl, Nat.le_of_ble_eq_true rfl⟩ (fun r_55 hr_55 => ?_)
                      rcases hr_55 with ⟨rfl, hn_56⟩ | ⟨rfl, hn_58, g_57⟩ | ⟨rfl, hn_60, g_59⟩ | ⟨⟨u_62, kiu_62, au_62, tu_62, rfl, huu_62, hkku_62⟩, g_61⟩
                      · refine lv_astoreN (lv' := [(8, .null), (7, .int i_85), (6, .int v_47), (5, .int x_39), (4, .int 1), (0, .ref w0), (1, .int 2), (2, .int d), (3, .int sec)]) hx hb dX5_least_106 hl (by decide) rfl (fun ls hl => ?_)
                        refine lv_aloadN hx hb dX5_least_108 (lv_at hl 0 rfl) ?_
                        refine lv_ifnullN (tgt := 129) hx hb dX5_least_110 (by decide) ?_
                        obtain ⟨x_63, ex_63⟩ : ∃ y : Int32, y = i_85 + 1 := ⟨_, rfl⟩
                        have qx_63 : x_63.toInt = i_85.toInt + 1 := dw_inc ex_63 fc_51
                        refine lv_iinc (v := x_63) (lv' := [(7, .int x_63), (8, .null), (6, .int v_47), (5, .int x_39), (4, .int 1), (0, .ref w0), (1, .int 2), (2, .int d), (3, .int sec)]) hx hb dX5_least_129 hl (k := 1) rfl ex_63.symm (by decide) rfl (fun ls hl => ?_)
                        refine lv_goto (tgt := 85) hx hb dX5_least_132 (by decide) ?_
                        exact ih x_63 v_47 (g_46) _ _ _ (hP.sub [0, 1, 2, 3] rfl) (hD.sub [0, 1, 2, 3] (by decide) rfl) hS (lv_sub hl [0, 2, 3, 4, 5, 6, 7, 8] rfl) hbv_47 (show zKn kq aq tq wn.toInt.toNat wh.toInt (fc 0).toInt (fc 1).toInt (fc 2).toInt wg.toInt g_46 from by exact hvi_85_0) (show (v_47 : Int32).toInt = zFi tq d.toInt sec.toInt (zPw 2 * zAt (fc 1).toInt (fc 2).toInt sec.toInt) (zLv (zLn kq aq tq wn.toInt.toNat wh.toInt (fc 0).toInt (fc 1).toInt (fc 2).toInt 1) kq aq tq (fc 0).toInt (zPw 2) wh.toInt d.toInt sec.toInt) x_63.toInt.toNat from by (have hx : x_63.toInt.toNat = i_85.toInt.toNat + 1 := (by omega); have y4 := hn_56; have y9 : i_85.toNatClampNeg = i_85.toInt.toNat := rfl; rw [y9] at y4; rw [hx, zFi_n (fun z => y4 ⟨z.1, z.2, Or.inl (by omega)⟩)]; exact hvi_85_1)) (show x_63.toInt ≤ wn.toInt from by omega) (dw_lo hloi_85 qx_63) (dw_hn hni_85 qx_63)
                      · exfalso; omega
                      · refine lv_astoreN (lv' := [(8, .null), (7, .int i_85), (6, .int v_47), (5, .int x_39), (4, .int 1), (0, .ref w0), (1, .int 2), (2, .int d), (3, .int sec)]) hx hb dX5_least_106 hl (by decide) rfl (fun ls hl => ?_)
                        refine lv_aloadN hx hb dX5_least_108 (lv_at hl 0 rfl) ?_
                        refine lv_ifnullN (tgt := 129) hx hb dX5_least_110 (by decide) ?_
                        obtain ⟨x_64, ex_64⟩ : ∃ y : Int32, y = i_85 + 1 := ⟨_, rfl⟩
                        have qx_64 : x_64.toInt = i_85.toInt + 1 := dw_inc ex_64 fc_51
                        refine lv_iinc (v := x_64) (lv' := [(7, .int x_64), (8, .null), (6, .int v_47), (5, .int x_39), (4, .int 1), (0, .ref w0), (1, .int 2), (2, .int d), (3, .int sec)]) hx hb dX5_least_129 hl (k := 1) rfl ex_64.symm (by decide) rfl (fun ls hl => ?_)
                        refine lv_goto (tgt := 85) hx hb dX5_least_132 (by decide) ?_
                        exact ih x_64 v_47 (g_46) _ _ _ (hP.sub [0, 1, 2, 3] rfl) (hD.sub [0, 1, 2, 3] (by decide) rfl) hS (lv_sub hl [0, 2, 3, 4, 5, 6, 7, 8] rfl) hbv_47 (show zKn kq aq tq wn.toInt.toNat wh.toInt (fc 0).toInt (fc 1).toInt (fc 2).toInt wg.toInt g_46 from by exact hvi_85_0) (show (v_47 : Int32).toInt = zFi tq d.toInt sec.toInt (zPw 2 * zAt (fc 1).toInt (fc 2).toInt sec.toInt) (zLv (zLn kq aq tq wn.toInt.toNat wh.toInt (fc 0).toInt (fc 1).toInt (fc 2).toInt 1) kq aq tq (fc 0).toInt (zPw 2) wh.toInt d.toInt sec.toInt) x_64.toInt.toNat from by (have hx : x_64.toInt.toNat = i_85.toInt.toNat + 1 := (by omega); have y4 := hn_60; have y9 : i_85.toNatClampNeg = i_85.toInt.toNat := rfl; rw [y9] at y4; rw [hx, zFi_n (fun z => y4 ⟨z.1, z.2, Or.inl (by omega)⟩)]; exact hvi_85_1)) (show x_64.toInt ≤ wn.toInt from by omega) (dw_lo hloi_85 qx_64) (dw_hn hni_85 qx_64)
                      · refine W.eq (g2 := F0 m 106 ls (.ref u_62 :: [])) rfl ?_
                        obtain ⟨hku_62, hau_62, htu_62⟩ := zPu_pr (hZ.kept hS) huu_62
                        refine lv_astore (lv' := [(8, .ref u_62), (7, .int i_85), (6, .int v_47), (5, .int x_39), (4, .int 1), (0, .ref w0), (1, .int 2), (2, .int d), (3, .int sec)]) hx hb dX5_least_106 hl (by decide) rfl (fun ls hl => ?_)
                        refine lv_aload hx hb dX5_least_108 (lv_at hl 0 rfl) ?_
                        refine lv_ifnull hx hb dX5_least_110 ?_
                        refine lv_iload hx hb dX5_least_113 (lv_at hl 2 rfl) ?_
                        refine lv_aload_n hx hb dX5_least_115 rfl (lv_at hl 5 rfl) ?_
                        refine lv_aload hx hb dX5_least_116 (lv_at hl 0 rfl) ?_
                        refine lv_iload_n hx hb dX5_least_118 rfl (lv_at hl 6 rfl) ?_
                        refine lv_iload_n hx hb dX5_least_119 rfl (lv_at hl 7 rfl) ?_
                        refine lv_iload_n hx hb dX5_least_120 rfl (lv_at hl 8 rfl) ?_
                        have tsu_62 : tu_62.toInt ≤ sec.toInt := by (obtain ⟨⟨y1, y2, y3⟩, y4⟩ := hkku_62; have z := y4.2.1; rw [y3]; exact z)
                        skip
                        refine zw_V (As := [.ref u_62, .int 2, .int d, .int sec]) (rest := [.int v_47]) (wr := []) ⟨hx, hb, hml, hown, hts⟩ (c_F_W_leastBy_2 l D cI cJ cZ cP cS po w0 wk wl wc wp (wn) (wh) (wg) fq kq aq tq (tw) g_46 fc (d) (sec) u_62 (kiu_62) (au_62) (tu_62) huu_62 ⟨by omega, by omega, by omega, by omega⟩ hy0 hy1 hy2 hy3 hy4 hy5 hjw (by first | assumption | omega) (by first | assumption | omega) (by first | assumption | omega | decide) hy10 hy11 hy12 hy13 (by omega) hp_fc H.size) (cwV 4 hts gX5_least_X5_leastBy rfl rfl rfl ⟨rfl, dh_X5_leastBy⟩ ⟨Nat.le_of_ble_eq_true rfl, Nat.le_of_ble_eq_true rfl⟩) hK hN (hZ.kept hS) hP hD hS hA [0, 1, 2, 3] [] rfl rfl (by decide) (by decide) (by decide) (va_recv (q := (RX5, TX5, 7)) hK hP (ci := 5) (q0 := 0) rfl rfl) rfl hl.1 rfl (Nat.le_of_ble_eq_true rfl) dX5_least_121 ⟨Nat.le_of_ble_eq_true rfl, Nat.le_of_ble_eq_true rfl⟩ (fun r_65 u_66 H locs hr_65 hP hD hS => ?_)
                        obtain ⟨q_67, rfl⟩ : ∃ z, z = u_66 := ⟨_, rfl⟩
                        obtain ⟨hsr_65_0, hsr_65_1, hr_65⟩ := hr_65
                        have h9R := zRe (ws' := [(w0, .inr (5, [.ref wk, .ref wl, .ref wc, .ref wp, .int wn, .int wh, .int wg])), (wl, .inl (cI, 125, .inl q_67)), (wc, .inl (cI, 3, .inl fc)), (wp, .inl (cP, 8, .inr (.inr (.inr (.inr fq)))))]) hP hD rfl
                        clear hP hD
                        obtain ⟨hP, hD⟩ := h9R
                        obtain ⟨g_68, g_69⟩ := hr_65
                        refine va_mmin hx hb (hml.trans hl.1.symm) hown (hts (.methodLink RX5 110 Lib.Math.min.name) (List.mem_of_getElem? (i := 4) rfl)) (hts _ (List.mem_of_getElem? (i := 5) rfl)) (hts _ (List.mem_of_getElem? (i := 6) rfl)) (hts _ (List.mem_of_getElem? (i := 7) rfl)) (Nat.le_of_ble_eq_true rfl) (Nat.le_of_ble_eq_true rfl) (Nat.le_of_ble_eq_true rfl) (Nat.le_of_ble_eq_true rfl) dX5_least_124 ?_
                        refine lv_topi (fun x_70 ex_70 => ?_)
                        have qx_70 := zf_min ex_70 (x1 := v_47.toInt) (y1 := r_65.toInt) rfl rfl
                        refine lv_istore (lv' := [(6, .int x_70), (8, .ref u_62), (7, .int i_85), (5, .int x_39), (4, .int 1), (0, .ref w0), (1, .int 2), (2, .int d), (3, .int sec)]) hx hb dX5_least_127 hl (by decide) rfl (fun ls hl => ?_)
                        obtain ⟨x_71, ex_71⟩ : ∃ y : Int32, y = i_85 + 1 := ⟨_, rfl⟩
                        have qx_71 : x_71.toInt = i_85.toInt + 1 := dw_inc ex_71 fc_51
                        refine lv_iinc (v := x_71) (lv' := [(7, .int x_71), (6, .int x_70), (8, .ref u_62), (5, .int x_39), (4, .int 1), (0, .ref w0), (1, .int 2), (2, .int d), (3, .int sec)]) hx hb dX5_least_129 hl (k := 2) rfl ex_71.symm (by decide) rfl (fun ls hl => ?_)
                        refine lv_goto (tgt := 85) hx hb dX5_least_132 (by decide) ?_
                        exact ih x_71 x_70 (q_67) _ _ _ (hP.sub [0, 1, 2, 3] rfl) (hD.sub [0, 1, 2, 3] (by decide) rfl) hS (lv_sub hl [0, 1, 3, 4, 5, 6, 7, 8] rfl) ⟨by omega, by omega⟩ (show zKn kq aq tq wn.toInt.toNat wh.toInt (fc 0).toInt (fc 1).toInt (fc 2).toInt wg.toInt q_67 from by exact hsr_65_0) (show (x_70 : Int32).toInt = zFi tq d.toInt sec.toInt (zPw 2 * zAt (fc 1).toInt (fc 2).toInt sec.toInt) (zLv (zLn kq aq tq wn.toInt.toNat wh.toInt (fc 0).toInt (fc 1).toInt (fc 2).toInt 1) kq aq tq (fc 0).toInt (zPw 2) wh.toInt d.toInt sec.toInt) x_71.toInt.toNat from by (have hx : x_71.toInt.toNat = i_85.toInt.toNat + 1 := (by omega); obtain ⟨⟨y1, y2, y3⟩, y4⟩ := hkku_62; have y9 : i_85.toNatClampNeg = i_85.toInt.toNat := rfl; rw [y9] at y1 y2 y3 y4; rw [hx, zFi_y ⟨y4.1, y4.2.1⟩, ← hvi_85_1]; have zr := hsr_65_1; rw [y1, y2, y3] at zr; have zr2 : r_65.toInt = (zLv (zLn kq aq tq wn.toInt.toNat wh.toInt (fc 0).toInt (fc 1).toInt (fc 2).toInt 1) kq aq tq (fc 0).toInt (zPw 2) wh.toInt d.toInt sec.toInt) i_85.toInt.toNat := zr; omega)) (show x_71.toInt ≤ wn.toInt from by omega) (dw_lo hloi_85 qx_71) (dw_hn hni_85 qx_71)
              · have fc_42 : x_41.toInt ≠ (-1) := zf_ne c_42 rfl (by decide)
                refine lv_aload_n hx hb dX5_least_66 rfl (lv_at hl 2 rfl) ?_
                refine va_get (D := D) (ci := 5) (v := .ref wl) (C := RX5) (T := TX5) (N := 7) hx hb hts hi_X5_least_5 hown hK hP 0 rfl rfl 1 (by decide) (hts (.fieldLink RX5 15 "TheLiningsInIt$Ways" "knownLeast" "[I") (List.mem_of_getElem? (i := 2) rfl)) (fun _ h9 => h9) rfl dX5_least_67 ?_
                refine lv_iload hx hb dX5_least_70 (lv_at hl 0 rfl) ?_
                refine va_iald hx hb hK hP 1 0 rfl rfl (zf_in (by omega) (by omega)) dX5_least_72 ?_
                refine lv_topi (fun y_72 ey_72 => ?_)
                obtain rfl : x_41 = y_72 := ex_41.trans ey_72.symm
                have hmx_41 : x_41.toInt = (zLn kq aq tq wn.toInt.toNat wh.toInt (fc 0).toInt (fc 1).toInt (fc 2).toInt 2) d.toInt sec.toInt := by (have zn : (fl x_39.toNatClampNeg).toInt ≠ -1 := (by rw [← ex_41]; omega); rw [ex_41]; exact zKn_at (m := 2) hkn (by decide) (by omega) ⟨by omega, by omega⟩ (by omega) zn)
                have hrx_41 := zLn_rg (K := kq) (A := aq) (T := tq) (N := wn.toInt.toNat) (h := wh.toInt) (hp_fc 0) (hp_fc 1) (hp_fc 2) 2 d.toInt sec.toInt
                rw [← hmx_41, show zPw 2 = 144 from by decide] at hrx_41
                exact W.iret (v := x_41) hx hb hr (fun t ht hW => ⟨⟨x_41, fl, rfl, ⟨(show zKn kq aq tq wn.toInt.toNat wh.toInt (fc 0).toInt (fc 1).toInt (fc 2).toInt wg.toInt fl from by exact hkn), (show (x_41 : Int32).toInt = (zLn kq aq tq wn.toInt.toNat wh.toInt (fc 0).toInt (fc 1).toInt (fc 2).toInt 2) d.toInt sec.toInt from by exact hmx_41), ⟨by omega, by omega⟩⟩, zRet ht hP hD [0, 1, 2, 3] (by decide) rfl⟩, hS.F ht⟩) hS.2.2 dX5_least_73
        · exfalso; have fc_4 : 24 < d.toInt := zf_nle c_4 rfl (by decide); omega
set_option maxHeartbeats 4000000 in
set_option maxRecDepth 100000 in
theorem c_F_W_leastBy_3 (l : Launch) (D : va_G) (cI cJ cZ cP cS : ClassId) (po : zPool) (w0 wk wl wc wp : Nat) (wn wh wg : Int32) (fq : Nat → Option Nat) (kq aq tq : Nat → Int32) (tw : Int32) (fl fc : Nat → Int32) (d sec : Int32) (u0 : Nat) (ki a_ ta : Int32) (hu_u0 : zPu po u0 ki a_ ta) (hr_u0 : zPr ki a_ ta) (hy2 : 0 ≤ wn.toInt) (hy3 : wn.toInt ≤ 8) (hy4 : 0 ≤ wh.toInt) (hy5 : wh.toInt ≤ 9) (hy6 : 0 ≤ wg.toInt) (hy7 : wg.toInt ≤ 60) (hjw : zJW po fq wn kq aq tq tw) (hkn : zKn kq aq tq wn.toInt.toNat wh.toInt (fc 0).toInt (fc 1).toInt (fc 2).toInt wg.toInt fl) (hgl : (∀ p : Nat, p < wn.toInt.toNat → (tq p).toInt ≤ wg.toInt)) (htw : tw.toInt = 1) (hy12 : 0 ≤ d.toInt) (hy13 : d.toInt ≤ 24) (hy14 : 0 ≤ sec.toInt) (hy15 : sec.toInt ≤ 300) (hy16 : ta.toInt ≤ sec.toInt) (hp_fc : zRg fc (0) 99) (hpz : Nat) : Met l yX5_leastBy wsX5_leastBy ({ frames := 7, cells := 0, slots := 0, locals := 181 }) (va_Pc [.ref w0, .ref u0, .int 3, .int d, .int sec] (zW D (zKT cI cJ cZ cP cS) po [(w0, .inr (5, [.ref wk, .ref wl, .ref wc, .ref wp, .int wn, .int wh, .int wg])), (wl, .inl (cI, 125, .inl fl)), (wc, .inl (cI, 3, .inl fc)), (wp, .inl (cP, 8, .inr (.inr (.inr (.inr fq)))))] hpz)) (va_Qi (fun (r : Int32) (fl2 : (Nat → Int32)) => (zKn kq aq tq wn.toInt.toNat wh.toInt (fc 0).toInt (fc 1).toInt (fc 2).toInt wg.toInt fl2) ∧ (r.toInt = zLb (zLn kq aq tq wn.toInt.toNat wh.toInt (fc 0).toInt (fc 1).toInt (fc 2).toInt 2) (fc 0).toInt (zPw 3) ki.toInt a_.toInt ta.toInt wh.toInt d.toInt sec.toInt) ∧ (0 ≤ r.toInt ∧ r.toInt ≤ 342144)) (zB D [(w0, .inr (5, [.ref wk, .ref wl, .ref wc, .ref wp, .int wn, .int wh, .int wg])), (wl, .inl (cI, 125, .inl fl)), (wc, .inl (cI, 3, .inl fc)), (wp, .inl (cP, 8, .inr (.inr (.inr (.inr fq)))))] hpz (fun (fl2 : Nat → Int32) => [(w0, .inr (5, [.ref wk, .ref wl, .ref wc, .ref wp, .int wn, .int wh, .int wg])), (wl, .inl (cI, 125, .inl fl2)), (wc, .inl (cI, 3, .inl fc)), (wp, .inl (cP, 8, .inr (.inr (.inr (.inr fq)))))])) (va_A [(w0, .inr (5, [.ref wk, .ref wl, .ref wc, .ref wp, .int wn, .int wh, .int wg])), (wl, .inl (cI, 125, .inl fl)), (wc, .inl (cI, 3, .inl fc)), (wp, .inl (cP, 8, .inr (.inr (.inr (.inr fq)))))] hpz)) 0 0 (va_A [(w0, .inr (5, [.ref wk, .ref wl, .ref wc, .ref wp, .int wn, .int wh, .int wg])), (wl, .inl (cI, 125, .inl fl)), (wc, .inl (cI, 3, .inl fc)), (wp, .inl (cP, 8, .inr (.inr (.inr (.inr fq)))))] hpz) := by
  refine Met.ofW (cc := cX5_leastBy) (maxL := 8) (ret := (some .int)) (by decide) rfl ?_
  intro p e s m args below meth c s₁ B hml hv
  obtain ⟨rfl, hsz, hP, hK, hD0, hN, hZ⟩ := hv
  have hx := B.exec
  have hb := B.bytes
  have hr := B.returns
  have hts := atoms_spec (ws := wsX5_leastBy) B.pre
  have hown : s.vm.findClass RX5 = some m.cls := findClass_of_methodNamed B.named
  have hlocks := B.notSynchronized
  subst hsz
  have hD := hD0.self (sz := s.heap.size)
  have hA := zA_of hD
  have hl := lv_entry ([.ref w0, .ref u0, .int 3, .int d, .int sec]) (n := 8) (Nat.le_of_ble_eq_true rfl)
  rw [lg_entry_eq]
  generalize (lg_sl ([.ref w0, .ref u0, .int 3, .int d, .int sec]) ++ List.replicate (8 - (lg_sl ([.ref w0, .ref u0, .int 3, .int d, .int sec])).length) Slot.unset).toArray = ls at hl ⊢
  replace hl : lv_has ls 8 [(0, .ref w0), (1, .ref u0), (2, .int 3), (3, .int d), (4, .int sec)] := hl
  refine zw_begin hP hD (fun H locs hP1 hS => ?_)
  clear hP
  have hP := hP1
  clear hP1
  obtain ⟨⟨p1_u0, p2_u0⟩, ⟨p3_u0, p4_u0⟩, p5_u0, p6_u0⟩ := id hr_u0
  refine lv_aload_n hx hb dX5_leastBy_0 rfl (lv_at hl 1 rfl) ?_
  refine lv_iload_n hx hb dX5_leastBy_1 rfl (lv_at hl 3 rfl) ?_
  refine lv_aload_n hx hb dX5_leastBy_2 rfl (lv_at hl 0 rfl) ?_
  refine va_get (D := D) (ci := 5) (v := .int wh) (C := RX5) (T := TX5) (N := 7) hx hb hts hi_X5_leastBy_5 hown hK hP 0 rfl rfl 5 (by decide) (hts (.fieldLink RX5 31 "TheLiningsInIt$Ways" "hurry" "I") (List.mem_of_getElem? (i := 1) rfl)) (fun _ h9 => h9) rfl dX5_leastBy_3 ?_
  refine zc_V (As := [.int d, .int wh]) (rest := []) ⟨hx, hb, hml, hown, hts⟩ (c_F_Pull_waysAt l D cI cJ cZ cP cS po (d) (wh) u0 (ki) (a_) (ta) hu_u0 ⟨by omega, by omega, by omega, by omega⟩ hy12 hy13 hy4 hy5) (cwV 2 hts gX5_leastBy_X2_waysAt rfl rfl rfl ⟨rfl, dh_X2_waysAt⟩ ⟨Nat.le_of_ble_eq_true rfl, Nat.le_of_ble_eq_true rfl⟩) hK hN (hZ.kept hS) hP zP_nil (va_recv (q := (RX2, TX2, 3)) hK (zPu_P (hZ.kept hS) hu_u0) (ci := 2) (q0 := 0) rfl rfl) rfl hl.1 rfl (Nat.le_of_ble_eq_true rfl) dX5_leastBy_6 ⟨Nat.le_of_ble_eq_true rfl, Nat.le_of_ble_eq_true rfl⟩ (fun r_1 hr_1 => ?_)
  obtain ⟨g_2, g_3, hsr_1_0⟩ := hr_1
  refine lv_istore (lv' := [(5, .int r_1), (0, .ref w0), (1, .ref u0), (2, .int 3), (3, .int d), (4, .int sec)]) hx hb dX5_leastBy_9 hl (by decide) rfl (fun ls hl => ?_)
  refine lv_iload hx hb dX5_leastBy_11 (lv_at hl 5 rfl) ?_
  refine lv_aload_n hx hb dX5_leastBy_13 rfl (lv_at hl 2 rfl) ?_
  refine va_get (D := D) (ci := 2) (v := .int ta) (C := RX2) (T := TX2) (N := 3) hx hb hts hi_X5_leastBy_2 hown hK (zPu_P (hZ.kept hS) hu_u0) 0 rfl rfl 2 (by decide) (hts (.fieldLink RX5 49 "TheLiningsInIt$Pull" "takes" "I") (List.mem_of_getElem? (i := 2) rfl)) (fun _ h9 => h9) rfl dX5_leastBy_14 ?_
  refine lv_isub hx hb dX5_leastBy_17 ?_
  refine lv_topi (fun x_4 ex_4 => ?_)
  have qx_4 : x_4.toInt = sec.toInt - ta.toInt := by rw [ex_4]; exact zf_sub rfl rfl (by omega) (by omega)
  refine lv_istore (lv' := [(6, .int x_4), (5, .int r_1), (0, .ref w0), (1, .ref u0), (2, .int 3), (3, .int d), (4, .int sec)]) hx hb dX5_leastBy_18 hl (by decide) rfl (fun ls hl => ?_)
  refine lv_aload_n hx hb dX5_leastBy_20 rfl (lv_at hl 3 rfl) ?_
  refine va_get (D := D) (ci := 2) (v := .int ki) (C := RX2) (T := TX2) (N := 3) hx hb hts hi_X5_leastBy_2 hown hK (zPu_P (hZ.kept hS) hu_u0) 0 rfl rfl 0 (by decide) (hts (.fieldLink RX5 46 "TheLiningsInIt$Pull" "kind" "I") (List.mem_of_getElem? (i := 3) rfl)) (fun _ h9 => h9) rfl dX5_leastBy_21 ?_
  refine lv_iconst (v := 5) hx hb dX5_leastBy_24 (by decide) ?_
  refine lv_icmp_ne (tgt := 43) hx hb dX5_leastBy_25 (by decide) (fun c_5 => ?_) (fun c_5 => ?_)
  · have fc_5 : ki.toInt ≠ 5 := zf_ne c_5 rfl (by decide)
    refine lv_iconst (v := 0) hx hb dX5_leastBy_43 (by decide) ?_
    refine lv_istore (lv' := [(7, .int 0), (6, .int x_4), (5, .int r_1), (0, .ref w0), (1, .ref u0), (2, .int 3), (3, .int d), (4, .int sec)]) hx hb dX5_leastBy_44 hl (by decide) rfl (fun ls hl => ?_)
    refine lv_iload hx hb dX5_leastBy_46 (lv_at hl 2 rfl) ?_
    refine lv_if_le (tgt := 73) hx hb dX5_leastBy_48 (by decide) (fun c_6 => ?_) (fun c_6 => ?_)
    · have fc_6 : r_1.toInt ≤ 0 := zf_le c_6 rfl (by decide)
      refine lv_iload hx hb dX5_leastBy_73 (lv_at hl 2 rfl) ?_
      refine lv_bipush (v := 12) hx hb dX5_leastBy_75 (by decide) ?_
      refine lv_icmp_ge (tgt := 109) hx hb dX5_leastBy_77 (by decide) (fun c_7 => ?_) (fun c_7 => ?_)
      · exfalso; have fc_7 : 12 ≤ r_1.toInt := zf_le c_7 (by decide) rfl; omega
      · have fc_7 : r_1.toInt < 12 := zf_nle c_7 (by decide) rfl
        refine lv_iload hx hb dX5_leastBy_80 (lv_at hl 0 rfl) ?_
        refine lv_bipush (v := 12) hx hb dX5_leastBy_82 (by decide) ?_
        refine lv_iload hx hb dX5_leastBy_84 (lv_at hl 2 rfl) ?_
        refine lv_isub hx hb dX5_leastBy_86 ?_
        refine lv_topi (fun x_8 ex_8 => ?_)
        have qx_8 : x_8.toInt = 12 - r_1.toInt := by rw [ex_8]; exact zf_sub (by decide) rfl (by omega) (by omega)
        refine lv_aload_n hx hb dX5_leastBy_87 rfl (lv_at hl 3 rfl) ?_
        refine lv_iload_n hx hb dX5_leastBy_88 rfl (lv_at hl 5 rfl) ?_
        refine lv_iconst (v := 1) hx hb dX5_leastBy_89 (by decide) ?_
        refine lv_isub hx hb dX5_leastBy_90 ?_
        refine lv_topi (fun y_9 ey_9 => ?_)
        obtain rfl : y_9 = 2 := ey_9.trans (by decide)
        refine lv_aload_n hx hb dX5_leastBy_91 rfl (lv_at hl 4 rfl) ?_
        refine lv_iload_n hx hb dX5_leastBy_92 rfl (lv_at hl 6 rfl) ?_
        refine lv_aload_n hx hb dX5_leastBy_93 rfl (lv_at hl 3 rfl) ?_
        refine va_get (D := D) (ci := 5) (v := .int wh) (C := RX5) (T := TX5) (N := 7) hx hb hts hi_X5_leastBy_5 hown hK hP 0 rfl rfl 5 (by decide) (hts (.fieldLink RX5 31 "TheLiningsInIt$Ways" "hurry" "I") (List.mem_of_getElem? (i := 1) rfl)) (fun _ h9 => h9) rfl dX5_leastBy_94 ?_
        refine zc_V (As := [.int d, .int wh]) (rest := [.int 2, .ref w0, .int x_8, .int 0]) ⟨hx, hb, hml, hown, hts⟩ (c_F_Pull_deeper l D cI cJ cZ cP cS po (d) (wh) u0 (ki) (a_) (ta) hu_u0 ⟨by omega, by omega, by omega, by omega⟩ hy12 hy13 hy4 hy5) (cwV 2 hts gX5_leastBy_X2_deeper rfl rfl rfl ⟨rfl, dh_X2_deeper⟩ ⟨Nat.le_of_ble_eq_true rfl, Nat.le_of_ble_eq_true rfl⟩) hK hN (hZ.kept hS) hP zP_nil (va_recv (q := (RX2, TX2, 3)) hK (zPu_P (hZ.kept hS) hu_u0) (ci := 2) (q0 := 0) rfl rfl) rfl hl.1 rfl (Nat.le_of_ble_eq_true rfl) dX5_leastBy_97 ⟨Nat.le_of_ble_eq_true rfl, Nat.le_of_ble_eq_true rfl⟩ (fun r_10 hr_10 => ?_)
        obtain ⟨g_11, g_12, hsr_10_0⟩ := hr_10
        refine lv_iload hx hb dX5_leastBy_100 (lv_at hl 1 rfl) ?_
        skip
        refine zw_V (As := [.int 2, .int r_10, .int x_4]) (rest := [.int x_8, .int 0]) (wr := []) ⟨hx, hb, hml, hown, hts⟩ (c_F_W_least_2 l D cI cJ cZ cP cS po w0 wk wl wc wp (wn) (wh) (wg) fq kq aq tq (tw) fl fc (r_10) (x_4) hy2 hy3 hy4 hy5 hy6 hy7 hjw (by first | assumption | omega) (by first | assumption | omega) (by first | assumption | omega | decide) (by omega) (by omega) (by omega) (by omega) hp_fc H.size) (cwV 3 hts gX5_leastBy_X5_least rfl rfl rfl ⟨rfl, dh_X5_least⟩ ⟨Nat.le_of_ble_eq_true rfl, Nat.le_of_ble_eq_true rfl⟩) hK hN (hZ.kept hS) hP hD hS hA [0, 1, 2, 3] [] rfl rfl (by decide) (by decide) (by decide) (va_recv (q := (RX5, TX5, 7)) hK hP (ci := 5) (q0 := 0) rfl rfl) rfl hl.1 rfl (Nat.le_of_ble_eq_true rfl) dX5_leastBy_102 ⟨Nat.le_of_ble_eq_true rfl, Nat.le_of_ble_eq_true rfl⟩ (fun r_13 u_14 H locs hr_13 hP hD hS => ?_)
        obtain ⟨q_15, rfl⟩ : ∃ z, z = u_14 := ⟨_, rfl⟩
        obtain ⟨hsr_13_0, hsr_13_1, hr_13⟩ := hr_13
        have h9R := zRe (ws' := [(w0, .inr (5, [.ref wk, .ref wl, .ref wc, .ref wp, .int wn, .int wh, .int wg])), (wl, .inl (cI, 125, .inl q_15)), (wc, .inl (cI, 3, .inl fc)), (wp, .inl (cP, 8, .inr (.inr (.inr (.inr fq)))))]) hP hD rfl
        clear hP hD
        obtain ⟨hP, hD⟩ := h9R
        obtain ⟨g_16, g_17⟩ := hr_13
        refine lv_imul hx hb dX5_leastBy_105 ?_
        refine lv_topi (fun x_18 ex_18 => ?_)
        obtain ⟨mx_18, nx_18, ox_18⟩ := zf_mulc (a := x_8) (b := r_13) (x := x_8.toInt) (y := r_13.toInt) (P := 14256) rfl rfl ⟨by omega, by omega⟩ ⟨by omega, by omega⟩ (by decide)
        rw [← ex_18] at mx_18
        refine lv_iadd hx hb dX5_leastBy_106 ?_
        refine lv_topi (fun x_19 ex_19 => ?_)
        have qx_19 : x_19.toInt = 0 + x_18.toInt := by rw [ex_19]; exact zf_add (by decide) rfl (by omega) (by omega)
        refine lv_istore (lv' := [(7, .int x_19), (6, .int x_4), (5, .int r_1), (0, .ref w0), (1, .ref u0), (2, .int 3), (3, .int d), (4, .int sec)]) hx hb dX5_leastBy_107 hl (by decide) rfl (fun ls hl => ?_)
        refine lv_iload hx hb dX5_leastBy_109 (lv_at hl 0 rfl) ?_
        exact W.iret (v := x_19) hx hb hr (fun t ht hW => ⟨⟨x_19, q_15, rfl, ⟨(show zKn kq aq tq wn.toInt.toNat wh.toInt (fc 0).toInt (fc 1).toInt (fc 2).toInt wg.toInt q_15 from by first | exact hsr_13_0 | assumption), (show (x_19 : Int32).toInt = zLb (zLn kq aq tq wn.toInt.toNat wh.toInt (fc 0).toInt (fc 1).toInt (fc 2).toInt 2) (fc 0).toInt (zPw 3) ki.toInt a_.toInt ta.toInt wh.toInt d.toInt sec.toInt from by (have zw := hsr_1_0; have E1 : r_1.toInt * (zLn kq aq tq wn.toInt.toNat wh.toInt (fc 0).toInt (fc 1).toInt (fc 2).toInt 2) (zShl ki.toInt a_.toInt d.toInt) (sec.toInt - ta.toInt) = 0 := (by rw [show r_1.toInt = 0 from by omega, Int.zero_mul]); have E2 : (12 - r_1.toInt) * (zLn kq aq tq wn.toInt.toNat wh.toInt (fc 0).toInt (fc 1).toInt (fc 2).toInt 2) (zDpr ki.toInt a_.toInt wh.toInt d.toInt) (sec.toInt - ta.toInt) = x_18.toInt := (by rw [← hsr_10_0, show sec.toInt - ta.toInt = (x_4 : Int32).toInt from by omega, ← hsr_13_1, show 12 - r_1.toInt = x_8.toInt from by omega]; omega); unfold zLb zBy1; rw [← zw, E1, E2, show zPw 3 = 1728 from by decide]; first | (rw [if_neg (by omega)]; omega) | (rw [if_pos (by omega)]; omega))), ⟨by omega, by omega⟩⟩, zRet ht hP hD [0, 1, 2, 3] (by decide) rfl⟩, hS.F ht⟩) hS.2.2 dX5_leastBy_111
    · have fc_6 : 0 < r_1.toInt := zf_nle c_6 rfl (by decide)
      refine lv_iload hx hb dX5_leastBy_51 (lv_at hl 0 rfl) ?_
      refine lv_iload hx hb dX5_leastBy_53 (lv_at hl 2 rfl) ?_
      refine lv_aload_n hx hb dX5_leastBy_55 rfl (lv_at hl 3 rfl) ?_
      refine lv_iload_n hx hb dX5_leastBy_56 rfl (lv_at hl 5 rfl) ?_
      refine lv_iconst (v := 1) hx hb dX5_leastBy_57 (by decide) ?_
      refine lv_isub hx hb dX5_leastBy_58 ?_
      refine lv_topi (fun y_20 ey_20 => ?_)
      obtain rfl : y_20 = 2 := ey_20.trans (by decide)
      refine lv_aload_n hx hb dX5_leastBy_59 rfl (lv_at hl 4 rfl) ?_
      refine lv_iload_n hx hb dX5_leastBy_60 rfl (lv_at hl 6 rfl) ?_
      refine zc_V (As := [.int d]) (rest := [.int 2, .ref w0, .int r_1, .int 0]) ⟨hx, hb, hml, hown, hts⟩ (c_F_Pull_shallower l D cI cJ cZ cP cS po (d) u0 (ki) (a_) (ta) hu_u0 ⟨by omega, by omega, by omega, by omega⟩ hy12 hy13) (cwV 1 hts gX5_leastBy_X2_shallower rfl rfl rfl ⟨rfl, dh_X2_shallower⟩ ⟨Nat.le_of_ble_eq_true rfl, Nat.le_of_ble_eq_true rfl⟩) hK hN (hZ.kept hS) hP zP_nil (va_recv (q := (RX2, TX2, 3)) hK (zPu_P (hZ.kept hS) hu_u0) (ci := 2) (q0 := 0) rfl rfl) rfl hl.1 rfl (Nat.le_of_ble_eq_true rfl) dX5_leastBy_61 ⟨Nat.le_of_ble_eq_true rfl, Nat.le_of_ble_eq_true rfl⟩ (fun r_21 hr_21 => ?_)
      obtain ⟨g_22, g_23, hsr_21_0⟩ := hr_21
      refine lv_iload hx hb dX5_leastBy_64 (lv_at hl 1 rfl) ?_
      skip
      refine zw_V (As := [.int 2, .int r_21, .int x_4]) (rest := [.int r_1, .int 0]) (wr := []) ⟨hx, hb, hml, hown, hts⟩ (c_F_W_least_2 l D cI cJ cZ cP cS po w0 wk wl wc wp (wn) (wh) (wg) fq kq aq tq (tw) fl fc (r_21) (x_4) hy2 hy3 hy4 hy5 hy6 hy7 hjw (by first | assumption | omega) (by first | assumption | omega) (by first | assumption | omega | decide) (by omega) (by omega) (by omega) (by omega) hp_fc H.size) (cwV 3 hts gX5_leastBy_X5_least rfl rfl rfl ⟨rfl, dh_X5_least⟩ ⟨Nat.le_of_ble_eq_true rfl, Nat.le_of_ble_eq_true rfl⟩) hK hN (hZ.kept hS) hP hD hS hA [0, 1, 2, 3] [] rfl rfl (by decide) (by decide) (by decide) (va_recv (q := (RX5, TX5, 7)) hK hP (ci := 5) (q0 := 0) rfl rfl) rfl hl.1 rfl (Nat.le_of_ble_eq_true rfl) dX5_leastBy_66 ⟨Nat.le_of_ble_eq_true rfl, Nat.le_of_ble_eq_true rfl⟩ (fun r_24 u_25 H locs hr_24 hP hD hS => ?_)
      obtain ⟨q_26, rfl⟩ : ∃ z, z = u_25 := ⟨_, rfl⟩
      obtain ⟨hsr_24_0, hsr_24_1, hr_24⟩ := hr_24
      have h9R := zRe (ws' := [(w0, .inr (5, [.ref wk, .ref wl, .ref wc, .ref wp, .int wn, .int wh, .int wg])), (wl, .inl (cI, 125, .inl q_26)), (wc, .inl (cI, 3, .inl fc)), (wp, .inl (cP, 8, .inr (.inr (.inr (.inr fq)))))]) hP hD rfl
      clear hP hD
      obtain ⟨hP, hD⟩ := h9R
      obtain ⟨g_27, g_28⟩ := hr_24
      refine lv_imul hx hb dX5_leastBy_69 ?_
      refine lv_topi (fun x_29 ex_29 => ?_)
      obtain ⟨mx_29, nx_29, ox_29⟩ := zf_mulc (a := r_1) (b := r_24) (x := r_1.toInt) (y := r_24.toInt) (P := 14256) rfl rfl ⟨by omega, by omega⟩ ⟨by omega, by omega⟩ (by decide)
      rw [← ex_29] at mx_29
      refine lv_iadd hx hb dX5_leastBy_70 ?_
      refine lv_topi (fun x_30 ex_30 => ?_)
      have qx_30 : x_30.toInt = 0 + x_29.toInt := by rw [ex_30]; exact zf_add (by decide) rfl (by omega) (by omega)
      refine lv_istore (lv' := [(7, .int x_30), (6, .int x_4), (5, .int r_1), (0, .ref w0), (1, .ref u0), (2, .int 3), (3, .int d), (4, .int sec)]) hx hb dX5_leastBy_71 hl (by decide) rfl (fun ls hl => ?_)
      refine lv_iload hx hb dX5_leastBy_73 (lv_at hl 2 rfl) ?_
      refine lv_bipush (v := 12) hx hb dX5_leastBy_75 (by decide) ?_
      refine lv_icmp_ge (tgt := 109) hx hb dX5_leastBy_77 (by decide) (fun c_31 => ?_) (fun c_31 => ?_)
      · have fc_31 : 12 ≤ r_1.toInt := zf_le c_31 (by decide) rfl
        refine lv_iload hx hb dX5_leastBy_109 (lv_at hl 0 rfl) ?_
        exact W.iret (v := x_30) hx hb hr (fun t ht hW => ⟨⟨x_30, q_26, rfl, ⟨(show zKn kq aq tq wn.toInt.toNat wh.toInt (fc 0).toInt (fc 1).toInt (fc 2).toInt wg.toInt q_26 from by exact hsr_24_0), (show (x_30 : Int32).toInt = zLb (zLn kq aq tq wn.toInt.toNat wh.toInt (fc 0).toInt (fc 1).toInt (fc 2).toInt 2) (fc 0).toInt (zPw 3) ki.toInt a_.toInt ta.toInt wh.toInt d.toInt sec.toInt from by (have zw := hsr_1_0; have E1 : r_1.toInt * (zLn kq aq tq wn.toInt.toNat wh.toInt (fc 0).toInt (fc 1).toInt (fc 2).toInt 2) (zShl ki.toInt a_.toInt d.toInt) (sec.toInt - ta.toInt) = x_29.toInt := (by rw [← hsr_21_0, show sec.toInt - ta.toInt = (x_4 : Int32).toInt from by omega, ← hsr_24_1]; omega); have E2 : (12 - r_1.toInt) * (zLn kq aq tq wn.toInt.toNat wh.toInt (fc 0).toInt (fc 1).toInt (fc 2).toInt 2) (zDpr ki.toInt a_.toInt wh.toInt d.toInt) (sec.toInt - ta.toInt) = 0 := (by rw [show 12 - r_1.toInt = 0 from by omega, Int.zero_mul]); unfold zLb zBy1; rw [← zw, E1, E2, show zPw 3 = 1728 from by decide]; first | (rw [if_neg (by omega)]; omega) | (rw [if_pos (by omega)]; omega))), ⟨by omega, by omega⟩⟩, zRet ht hP hD [0, 1, 2, 3] (by decide) rfl⟩, hS.F ht⟩) hS.2.2 dX5_leastBy_111
      · have fc_31 : r_1.toInt < 12 := zf_nle c_31 (by decide) rfl
        refine lv_iload hx hb dX5_leastBy_80 (lv_at hl 0 rfl) ?_
        refine lv_bipush (v := 12) hx hb dX5_leastBy_82 (by decide) ?_
        refine lv_iload hx hb dX5_leastBy_84 (lv_at hl 2 rfl) ?_
        refine lv_isub hx hb dX5_leastBy_86 ?_
        refine lv_topi (fun x_32 ex_32 => ?_)
        have qx_32 : x_32.toInt = 12 - r_1.toInt := by rw [ex_32]; exact zf_sub (by decide) rfl (by omega) (by omega)
        refine lv_aload_n hx hb dX5_leastBy_87 rfl (lv_at hl 3 rfl) ?_
        refine lv_iload_n hx hb dX5_leastBy_88 rfl (lv_at hl 5 rfl) ?_
        refine lv_iconst (v := 1) hx hb dX5_leastBy_89 (by decide) ?_
        refine lv_isub hx hb dX5_leastBy_90 ?_
        refine lv_topi (fun y_33 ey_33 => ?_)
        obtain rfl : y_33 = 2 := ey_33.trans (by decide)
        refine lv_aload_n hx hb dX5_leastBy_91 rfl (lv_at hl 4 rfl) ?_
        refine lv_iload_n hx hb dX5_leastBy_92 rfl (lv_at hl 6 rfl) ?_
        refine lv_aload_n hx hb dX5_leastBy_93 rfl (lv_at hl 3 rfl) ?_
        refine va_get (D := D) (ci := 5) (v := .int wh) (C := RX5) (T := TX5) (N := 7) hx hb hts hi_X5_leastBy_5 hown hK hP 0 rfl rfl 5 (by decide) (hts (.fieldLink RX5 31 "TheLiningsInIt$Ways" "hurry" "I") (List.mem_of_getElem? (i := 1) rfl)) (fun _ h9 => h9) rfl dX5_leastBy_94 ?_
        refine zc_V (As := [.int d, .int wh]) (rest := [.int 2, .ref w0, .int x_32, .int x_30]) ⟨hx, hb, hml, hown, hts⟩ (c_F_Pull_deeper l D cI cJ cZ cP cS po (d) (wh) u0 (ki) (a_) (ta) hu_u0 ⟨by omega, by omega, by omega, by omega⟩ hy12 hy13 hy4 hy5) (cwV 2 hts gX5_leastBy_X2_deeper rfl rfl rfl ⟨rfl, dh_X2_deeper⟩ ⟨Nat.le_of_ble_eq_true rfl, Nat.le_of_ble_eq_true rfl⟩) hK hN (hZ.kept hS) hP zP_nil (va_recv (q := (RX2, TX2, 3)) hK (zPu_P (hZ.kept hS) hu_u0) (ci := 2) (q0 := 0) rfl rfl) rfl hl.1 rfl (Nat.le_of_ble_eq_true rfl) dX5_leastBy_97 ⟨Nat.le_of_ble_eq_true rfl, Nat.le_of_ble_eq_true rfl⟩ (fun r_34 hr_34 => ?_)
        obtain ⟨g_35, g_36, hsr_34_0⟩ := hr_34
        refine lv_iload hx hb dX5_leastBy_100 (lv_at hl 1 rfl) ?_
        skip
        refine zw_V (As := [.int 2, .int r_34, .int x_4]) (rest := [.int x_32, .int x_30]) (wr := []) ⟨hx, hb, hml, hown, hts⟩ (c_F_W_least_2 l D cI cJ cZ cP cS po w0 wk wl wc wp (wn) (wh) (wg) fq kq aq tq (tw) q_26 fc (r_34) (x_4) hy2 hy3 hy4 hy5 hy6 hy7 hjw (by first | assumption | omega) (by first | assumption | omega) (by first | assumption | omega | decide) (by omega) (by omega) (by omega) (by omega) hp_fc H.size) (cwV 3 hts gX5_leastBy_X5_least rfl rfl rfl ⟨rfl, dh_X5_least⟩ ⟨Nat.le_of_ble_eq_true rfl, Nat.le_of_ble_eq_true rfl⟩) hK hN (hZ.kept hS) hP hD hS hA [0, 1, 2, 3] [] rfl rfl (by decide) (by decide) (by decide) (va_recv (q := (RX5, TX5, 7)) hK hP (ci := 5) (q0 := 0) rfl rfl) rfl hl.1 rfl (Nat.le_of_ble_eq_true rfl) dX5_leastBy_102 ⟨Nat.le_of_ble_eq_true rfl, Nat.le_of_ble_eq_true rfl⟩ (fun r_37 u_38 H locs hr_37 hP hD hS => ?_)
        obtain ⟨q_39, rfl⟩ : ∃ z, z = u_38 := ⟨_, rfl⟩
        obtain ⟨hsr_37_0, hsr_37_1, hr_37⟩ := hr_37
        have h9R := zRe (ws' := [(w0, .inr (5, [.ref wk, .ref wl, .ref wc, .ref wp, .int wn, .int wh, .int wg])), (wl, .inl (cI, 125, .inl q_39)), (wc, .inl (cI, 3, .inl fc)), (wp, .inl (cP, 8, .inr (.inr (.inr (.inr fq)))))]) hP hD rfl
        clear hP hD
        obtain ⟨hP, hD⟩ := h9R
        obtain ⟨g_40, g_41⟩ := hr_37
        refine lv_imul hx hb dX5_leastBy_105 ?_
        refine lv_topi (fun x_42 ex_42 => ?_)
        obtain ⟨mx_42, nx_42, ox_42⟩ := zf_mulc (a := x_32) (b := r_37) (x := x_32.toInt) (y := r_37.toInt) (P := 14256) rfl rfl ⟨by omega, by omega⟩ ⟨by omega, by omega⟩ (by decide)
        rw [← ex_42] at mx_42
        refine lv_iadd hx hb dX5_leastBy_106 ?_
        refine lv_topi (fun x_43 ex_43 => ?_)
        have qx_43 : x_43.toInt = x_30.toInt + x_42.toInt := by rw [ex_43]; exact zf_add rfl rfl (by omega) (by omega)
        refine lv_istore (lv' := [(7, .int x_43), (6, .int x_4), (5, .int r_1), (0, .ref w0), (1, .ref u0), (2, .int 3), (3, .int d), (4, .int sec)]) hx hb dX5_leastBy_107 hl (by decide) rfl (fun ls hl => ?_)
        refine lv_iload hx hb dX5_leastBy_109 (lv_at hl 0 rfl) ?_
        have hmx9 := zMix (w := r_1.toInt) (x := r_24.toInt) (y := r_37.toInt) (P := 14256) ⟨by omega, by omega⟩ ⟨by omega, by omega⟩ ⟨by omega, by omega⟩
        rw [show 12 - r_1.toInt = x_32.toInt from by omega] at hmx9
        exact W.iret (v := x_43) hx hb hr (fun t ht hW => ⟨⟨x_43, q_39, rfl, ⟨(show zKn kq aq tq wn.toInt.toNat wh.toInt (fc 0).toInt (fc 1).toInt (fc 2).toInt wg.toInt q_39 from by first | exact hsr_37_0 | assumption), (show (x_43 : Int32).toInt = zLb (zLn kq aq tq wn.toInt.toNat wh.toInt (fc 0).toInt (fc 1).toInt (fc 2).toInt 2) (fc 0).toInt (zPw 3) ki.toInt a_.toInt ta.toInt wh.toInt d.toInt sec.toInt from by (have zw := hsr_1_0; have E1 : r_1.toInt * (zLn kq aq tq wn.toInt.toNat wh.toInt (fc 0).toInt (fc 1).toInt (fc 2).toInt 2) (zShl ki.toInt a_.toInt d.toInt) (sec.toInt - ta.toInt) = x_29.toInt := (by rw [← hsr_21_0, show sec.toInt - ta.toInt = (x_4 : Int32).toInt from by omega, ← hsr_24_1]; omega); have E2 : (12 - r_1.toInt) * (zLn kq aq tq wn.toInt.toNat wh.toInt (fc 0).toInt (fc 1).toInt (fc 2).toInt 2) (zDpr ki.toInt a_.toInt wh.toInt d.toInt) (sec.toInt - ta.toInt) = x_42.toInt := (by rw [← hsr_34_0, show sec.toInt - ta.toInt = (x_4 : Int32).toInt from by omega, ← hsr_37_1, show 12 - r_1.toInt = x_32.toInt from by omega]; omega); unfold zLb zBy1; rw [← zw, E1, E2, show zPw 3 = 1728 from by decide]; first | (rw [if_neg (by omega)]; omega) | (rw [if_pos (by omega)]; omega))), ⟨by omega, by omega⟩⟩, zRet ht hP hD [0, 1, 2, 3] (by decide) rfl⟩, hS.F ht⟩) hS.2.2 dX5_leastBy_111
  · have fc_5 : ki.toInt = 5 := zf_eq c_5 rfl (by decide)
    obtain ⟨t_44, zt_44, yt_44⟩ := hZ.1.1
    refine va_gets hx hb zt_44 hS hown (hts (.fieldLink RX5 79 "TheLiningsInIt$Ways" "POWERS" "[I") (List.mem_of_getElem? (i := 4) rfl)) (fun _ h9 => h9) dX5_leastBy_28 ?_
    refine lv_iload_n hx hb dX5_leastBy_31 rfl (lv_at hl 4 rfl) ?_
    refine va_ti hx hb yt_44 hS (zf_in (by decide) (by decide)) (v := .int 1728) (by decide) dX5_leastBy_32 ?_
    refine lv_aload_n hx hb dX5_leastBy_33 rfl (lv_at hl 2 rfl) ?_
    refine va_get (D := D) (ci := 5) (v := .ref wc) (C := RX5) (T := TX5) (N := 7) hx hb hts hi_X5_leastBy_5 hown hK hP 0 rfl rfl 2 (by decide) (hts (.fieldLink RX5 18 "TheLiningsInIt$Ways" "costs" "[I") (List.mem_of_getElem? (i := 5) rfl)) (fun _ h9 => h9) rfl dX5_leastBy_34 ?_
    refine lv_iconst (v := 0) hx hb dX5_leastBy_37 (by decide) ?_
    refine va_iald hx hb hK hP 2 0 rfl rfl (zf_in (by decide) (by decide)) dX5_leastBy_38 ?_
    refine lv_topi (fun x_45 ex_45 => ?_)
    have bx_45 : 0 ≤ x_45.toInt ∧ x_45.toInt ≤ 99 := by rw [ex_45]; exact hp_fc _
    refine lv_imul hx hb dX5_leastBy_39 ?_
    refine lv_topi (fun x_46 ex_46 => ?_)
    have qx_46 : x_46.toInt = 1728 * x_45.toInt := by rw [ex_46]; exact zf_mul (by decide) rfl (by omega) (by omega)
    refine lv_goto (tgt := 44) hx hb dX5_leastBy_40 (by decide) ?_
    refine lv_istore (lv' := [(7, .int x_46), (6, .int x_4), (5, .int r_1), (0, .ref w0), (1, .ref u0), (2, .int 3), (3, .int d), (4, .int sec)]) hx hb dX5_leastBy_44 hl (by decide) rfl (fun ls hl => ?_)
    refine lv_iload hx hb dX5_leastBy_46 (lv_at hl 2 rfl) ?_
    refine lv_if_le (tgt := 73) hx hb dX5_leastBy_48 (by decide) (fun c_47 => ?_) (fun c_47 => ?_)
    · have fc_47 : r_1.toInt ≤ 0 := zf_le c_47 rfl (by decide)
      refine lv_iload hx hb dX5_leastBy_73 (lv_at hl 2 rfl) ?_
      refine lv_bipush (v := 12) hx hb dX5_leastBy_75 (by decide) ?_
      refine lv_icmp_ge (tgt := 109) hx hb dX5_leastBy_77 (by decide) (fun c_48 => ?_) (fun c_48 => ?_)
      · exfalso; have fc_48 : 12 ≤ r_1.toInt := zf_le c_48 (by decide) rfl; omega
      · have fc_48 : r_1.toInt < 12 := zf_nle c_48 (by decide) rfl
        refine lv_iload hx hb dX5_leastBy_80 (lv_at hl 0 rfl) ?_
        refine lv_bipush (v := 12) hx hb dX5_leastBy_82 (by decide) ?_
        refine lv_iload hx hb dX5_leastBy_84 (lv_at hl 2 rfl) ?_
        refine lv_isub hx hb dX5_leastBy_86 ?_
        refine lv_topi (fun x_49 ex_49 => ?_)
        have qx_49 : x_49.toInt = 12 - r_1.toInt := by rw [ex_49]; exact zf_sub (by decide) rfl (by omega) (by omega)
        refine lv_aload_n hx hb dX5_leastBy_87 rfl (lv_at hl 3 rfl) ?_
        refine lv_iload_n hx hb dX5_leastBy_88 rfl (lv_at hl 5 rfl) ?_
        refine lv_iconst (v := 1) hx hb dX5_leastBy_89 (by decide) ?_
        refine lv_isub hx hb dX5_leastBy_90 ?_
        refine lv_topi (fun y_50 ey_50 => ?_)
        obtain rfl : y_50 = 2 := ey_50.trans (by decide)
        refine lv_aload_n hx hb dX5_leastBy_91 rfl (lv_at hl 4 rfl) ?_
        refine lv_iload_n hx hb dX5_leastBy_92 rfl (lv_at hl 6 rfl) ?_
        refine lv_aload_n hx hb dX5_leastBy_93 rfl (lv_at hl 3 rfl) ?_
        refine va_get (D := D) (ci := 5) (v := .int wh) (C := RX5) (T := TX5) (N := 7) hx hb hts hi_X5_leastBy_5 hown hK hP 0 rfl rfl 5 (by decide) (hts (.fieldLink RX5 31 "TheLiningsInIt$Ways" "hurry" "I") (List.mem_of_getElem? (i := 1) rfl)) (fun _ h9 => h9) rfl dX5_leastBy_94 ?_
        refine zc_V (As := [.int d, .int wh]) (rest := [.int 2, .ref w0, .int x_49, .int x_46]) ⟨hx, hb, hml, hown, hts⟩ (c_F_Pull_deeper l D cI cJ cZ cP cS po (d) (wh) u0 (ki) (a_) (ta) hu_u0 ⟨by omega, by omega, by omega, by omega⟩ hy12 hy13 hy4 hy5) (cwV 2 hts gX5_leastBy_X2_deeper rfl rfl rfl ⟨rfl, dh_X2_deeper⟩ ⟨Nat.le_of_ble_eq_true rfl, Nat.le_of_ble_eq_true rfl⟩) hK hN (hZ.kept hS) hP zP_nil (va_recv (q := (RX2, TX2, 3)) hK (zPu_P (hZ.kept hS) hu_u0) (ci := 2) (q0 := 0) rfl rfl) rfl hl.1 rfl (Nat.le_of_ble_eq_true rfl) dX5_leastBy_97 ⟨Nat.le_of_ble_eq_true rfl, Nat.le_of_ble_eq_true rfl⟩ (fun r_51 hr_51 => ?_)
        obtain ⟨g_52, g_53, hsr_51_0⟩ := hr_51
        refine lv_iload hx hb dX5_leastBy_100 (lv_at hl 1 rfl) ?_
        skip
        refine zw_V (As := [.int 2, .int r_51, .int x_4]) (rest := [.int x_49, .int x_46]) (wr := []) ⟨hx, hb, hml, hown, hts⟩ (c_F_W_least_2 l D cI cJ cZ cP cS po w0 wk wl wc wp (wn) (wh) (wg) fq kq aq tq (tw) fl fc (r_51) (x_4) hy2 hy3 hy4 hy5 hy6 hy7 hjw (by first | assumption | omega) (by first | assumption | omega) (by first | assumption | omega | decide) (by omega) (by omega) (by omega) (by omega) hp_fc H.size) (cwV 3 hts gX5_leastBy_X5_least rfl rfl rfl ⟨rfl, dh_X5_least⟩ ⟨Nat.le_of_ble_eq_true rfl, Nat.le_of_ble_eq_true rfl⟩) hK hN (hZ.kept hS) hP hD hS hA [0, 1, 2, 3] [] rfl rfl (by decide) (by decide) (by decide) (va_recv (q := (RX5, TX5, 7)) hK hP (ci := 5) (q0 := 0) rfl rfl) rfl hl.1 rfl (Nat.le_of_ble_eq_true rfl) dX5_leastBy_102 ⟨Nat.le_of_ble_eq_true rfl, Nat.le_of_ble_eq_true rfl⟩ (fun r_54 u_55 H locs hr_54 hP hD hS => ?_)
        obtain ⟨q_56, rfl⟩ : ∃ z, z = u_55 := ⟨_, rfl⟩
        obtain ⟨hsr_54_0, hsr_54_1, hr_54⟩ := hr_54
        have h9R := zRe (ws' := [(w0, .inr (5, [.ref wk, .ref wl, .ref wc, .ref wp, .int wn, .int wh, .int wg])), (wl, .inl (cI, 125, .inl q_56)), (wc, .inl (cI, 3, .inl fc)), (wp, .inl (cP, 8, .inr (.inr (.inr (.inr fq)))))]) hP hD rfl
        clear hP hD
        obtain ⟨hP, hD⟩ := h9R
        obtain ⟨g_57, g_58⟩ := hr_54
        refine lv_imul hx hb dX5_leastBy_105 ?_
        refine lv_topi (fun x_59 ex_59 => ?_)
        obtain ⟨mx_59, nx_59, ox_59⟩ := zf_mulc (a := x_49) (b := r_54) (x := x_49.toInt) (y := r_54.toInt) (P := 14256) rfl rfl ⟨by omega, by omega⟩ ⟨by omega, by omega⟩ (by decide)
        rw [← ex_59] at mx_59
        refine lv_iadd hx hb dX5_leastBy_106 ?_
        refine lv_topi (fun x_60 ex_60 => ?_)
        have qx_60 : x_60.toInt = x_46.toInt + x_59.toInt := by rw [ex_60]; exact zf_add rfl rfl (by omega) (by omega)
        refine lv_istore (lv' := [(7, .int x_60), (6, .int x_4), (5, .int r_1), (0, .ref w0), (1, .ref u0), (2, .int 3), (3, .int d), (4, .int sec)]) hx hb dX5_leastBy_107 hl (by decide) rfl (fun ls hl => ?_)
        refine lv_iload hx hb dX5_leastBy_109 (lv_at hl 0 rfl) ?_
        exact W.iret (v := x_60) hx hb hr (fun t ht hW => ⟨⟨x_60, q_56, rfl, ⟨(show zKn kq aq tq wn.toInt.toNat wh.toInt (fc 0).toInt (fc 1).toInt (fc 2).toInt wg.toInt q_56 from by first | exact hsr_54_0 | assumption), (show (x_60 : Int32).toInt = zLb (zLn kq aq tq wn.toInt.toNat wh.toInt (fc 0).toInt (fc 1).toInt (fc 2).toInt 2) (fc 0).toInt (zPw 3) ki.toInt a_.toInt ta.toInt wh.toInt d.toInt sec.toInt from by (have nx_45 : (fc 0).toInt = x_45.toInt := (by rw [ex_45, show (0 : Int32).toNatClampNeg = 0 from by decide]); have zw := hsr_1_0; have E1 : r_1.toInt * (zLn kq aq tq wn.toInt.toNat wh.toInt (fc 0).toInt (fc 1).toInt (fc 2).toInt 2) (zShl ki.toInt a_.toInt d.toInt) (sec.toInt - ta.toInt) = 0 := (by rw [show r_1.toInt = 0 from by omega, Int.zero_mul]); have E2 : (12 - r_1.toInt) * (zLn kq aq tq wn.toInt.toNat wh.toInt (fc 0).toInt (fc 1).toInt (fc 2).toInt 2) (zDpr ki.toInt a_.toInt wh.toInt d.toInt) (sec.toInt - ta.toInt) = x_59.toInt := (by rw [← hsr_51_0, show sec.toInt - ta.toInt = (x_4 : Int32).toInt from by omega, ← hsr_54_1, show 12 - r_1.toInt = x_49.toInt from by omega]; omega); unfold zLb zBy1; rw [← zw, E1, E2, show zPw 3 = 1728 from by decide]; first | (rw [if_pos (by omega)]; omega) | (rw [if_neg (by omega)]; omega))), ⟨by omega, by omega⟩⟩, zRet ht hP hD [0, 1, 2, 3] (by decide) rfl⟩, hS.F ht⟩) hS.2.2 dX5_leastBy_111
    · have fc_47 : 0 < r_1.toInt := zf_nle c_47 rfl (by decide)
      refine lv_iload hx hb dX5_leastBy_51 (lv_at hl 0 rfl) ?_
      refine lv_iload hx hb dX5_leastBy_53 (lv_at hl 2 rfl) ?_
      refine lv_aload_n hx hb dX5_leastBy_55 rfl (lv_at hl 3 rfl) ?_
      refine lv_iload_n hx hb dX5_leastBy_56 rfl (lv_at hl 5 rfl) ?_
      refine lv_iconst (v := 1) hx hb dX5_leastBy_57 (by decide) ?_
      refine lv_isub hx hb dX5_leastBy_58 ?_
      refine lv_topi (fun y_61 ey_61 => ?_)
      obtain rfl : y_61 = 2 := ey_61.trans (by decide)
      refine lv_aload_n hx hb dX5_leastBy_59 rfl (lv_at hl 4 rfl) ?_
      refine lv_iload_n hx hb dX5_leastBy_60 rfl (lv_at hl 6 rfl) ?_
      refine zc_V (As := [.int d]) (rest := [.int 2, .ref w0, .int r_1, .int x_46]) ⟨hx, hb, hml, hown, hts⟩ (c_F_Pull_shallower l D cI cJ cZ cP cS po (d) u0 (ki) (a_) (ta) hu_u0 ⟨by omega, by omega, by omega, by omega⟩ hy12 hy13) (cwV 1 hts gX5_leastBy_X2_shallower rfl rfl rfl ⟨rfl, dh_X2_shallower⟩ ⟨Nat.le_of_ble_eq_true rfl, Nat.le_of_ble_eq_true rfl⟩) hK hN (hZ.kept hS) hP zP_nil (va_recv (q := (RX2, TX2, 3)) hK (zPu_P (hZ.kept hS) hu_u0) (ci := 2) (q0 := 0) rfl rfl) rfl hl.1 rfl (Nat.le_of_ble_eq_true rfl) dX5_leastBy_61 ⟨Nat.le_of_ble_eq_true rfl, Nat.le_of_ble_eq_true rfl⟩ (fun r_62 hr_62 => ?_)
      obtain ⟨g_63, g_64, hsr_62_0⟩ := hr_62
      refine lv_iload hx hb dX5_leastBy_64 (lv_at hl 1 rfl) ?_
      skip
      refine zw_V (As := [.int 2, .int r_62, .int x_4]) (rest := [.int r_1, .int x_46]) (wr := []) ⟨hx, hb, hml, hown, hts⟩ (c_F_W_least_2 l D cI cJ cZ cP cS po w0 wk wl wc wp (wn) (wh) (wg) fq kq aq tq (tw) fl fc (r_62) (x_4) hy2 hy3 hy4 hy5 hy6 hy7 hjw (by first | assumption | omega) (by first | assumption | omega) (by first | assumption | omega | decide) (by omega) (by omega) (by omega) (by omega) hp_fc H.size) (cwV 3 hts gX5_leastBy_X5_least rfl rfl rfl ⟨rfl, dh_X5_least⟩ ⟨Nat.le_of_ble_eq_true rfl, Nat.le_of_ble_eq_true rfl⟩) hK hN (hZ.kept hS) hP hD hS hA [0, 1, 2, 3] [] rfl rfl (by decide) (by decide) (by decide) (va_recv (q := (RX5, TX5, 7)) hK hP (ci := 5) (q0 := 0) rfl rfl) rfl hl.1 rfl (Nat.le_of_ble_eq_true rfl) dX5_leastBy_66 ⟨Nat.le_of_ble_eq_true rfl, Nat.le_of_ble_eq_true rfl⟩ (fun r_65 u_66 H locs hr_65 hP hD hS => ?_)
      obtain ⟨q_67, rfl⟩ : ∃ z, z = u_66 := ⟨_, rfl⟩
      obtain ⟨hsr_65_0, hsr_65_1, hr_65⟩ := hr_65
      have h9R := zRe (ws' := [(w0, .inr (5, [.ref wk, .ref wl, .ref wc, .ref wp, .int wn, .int wh, .int wg])), (wl, .inl (cI, 125, .inl q_67)), (wc, .inl (cI, 3, .inl fc)), (wp, .inl (cP, 8, .inr (.inr (.inr (.inr fq)))))]) hP hD rfl
      clear hP hD
      obtain ⟨hP, hD⟩ := h9R
      obtain ⟨g_68, g_69⟩ := hr_65
      refine lv_imul hx hb dX5_leastBy_69 ?_
      refine lv_topi (fun x_70 ex_70 => ?_)
      obtain ⟨mx_70, nx_70, ox_70⟩ := zf_mulc (a := r_1) (b := r_65) (x := r_1.toInt) (y := r_65.toInt) (P := 14256) rfl rfl ⟨by omega, by omega⟩ ⟨by omega, by omega⟩ (by decide)
      rw [← ex_70] at mx_70
      refine lv_iadd hx hb dX5_leastBy_70 ?_
      refine lv_topi (fun x_71 ex_71 => ?_)
      have qx_71 : x_71.toInt = x_46.toInt + x_70.toInt := by rw [ex_71]; exact zf_add rfl rfl (by omega) (by omega)
      refine lv_istore (lv' := [(7, .int x_71), (6, .int x_4), (5, .int r_1), (0, .ref w0), (1, .ref u0), (2, .int 3), (3, .int d), (4, .int sec)]) hx hb dX5_leastBy_71 hl (by decide) rfl (fun ls hl => ?_)
      refine lv_iload hx hb dX5_leastBy_73 (lv_at hl 2 rfl) ?_
      refine lv_bipush (v := 12) hx hb dX5_leastBy_75 (by decide) ?_
      refine lv_icmp_ge (tgt := 109) hx hb dX5_leastBy_77 (by decide) (fun c_72 => ?_) (fun c_72 => ?_)
      · have fc_72 : 12 ≤ r_1.toInt := zf_le c_72 (by decide) rfl
        refine lv_iload hx hb dX5_leastBy_109 (lv_at hl 0 rfl) ?_
        exact W.iret (v := x_71) hx hb hr (fun t ht hW => ⟨⟨x_71, q_67, rfl, ⟨(show zKn kq aq tq wn.toInt.toNat wh.toInt (fc 0).toInt (fc 1).toInt (fc 2).toInt wg.toInt q_67 from by exact hsr_65_0), (show (x_71 : Int32).toInt = zLb (zLn kq aq tq wn.toInt.toNat wh.toInt (fc 0).toInt (fc 1).toInt (fc 2).toInt 2) (fc 0).toInt (zPw 3) ki.toInt a_.toInt ta.toInt wh.toInt d.toInt sec.toInt from by (have nx_45 : (fc 0).toInt = x_45.toInt := (by rw [ex_45, show (0 : Int32).toNatClampNeg = 0 from by decide]); have zw := hsr_1_0; have E1 : r_1.toInt * (zLn kq aq tq wn.toInt.toNat wh.toInt (fc 0).toInt (fc 1).toInt (fc 2).toInt 2) (zShl ki.toInt a_.toInt d.toInt) (sec.toInt - ta.toInt) = x_70.toInt := (by rw [← hsr_62_0, show sec.toInt - ta.toInt = (x_4 : Int32).toInt from by omega, ← hsr_65_1]; omega); have E2 : (12 - r_1.toInt) * (zLn kq aq tq wn.toInt.toNat wh.toInt (fc 0).toInt (fc 1).toInt (fc 2).toInt 2) (zDpr ki.toInt a_.toInt wh.toInt d.toInt) (sec.toInt - ta.toInt) = 0 := (by rw [show 12 - r_1.toInt = 0 from by omega, Int.zero_mul]); unfold zLb zBy1; rw [← zw, E1, E2, show zPw 3 = 1728 from by decide]; first | (rw [if_pos (by omega)]; omega) | (rw [if_neg (by omega)]; omega))), ⟨by omega, by omega⟩⟩, zRet ht hP hD [0, 1, 2, 3] (by decide) rfl⟩, hS.F ht⟩) hS.2.2 dX5_leastBy_111
      · have fc_72 : r_1.toInt < 12 := zf_nle c_72 (by decide) rfl
        refine lv_iload hx hb dX5_leastBy_80 (lv_at hl 0 rfl) ?_
        refine lv_bipush (v := 12) hx hb dX5_leastBy_82 (by decide) ?_
        refine lv_iload hx hb dX5_leastBy_84 (lv_at hl 2 rfl) ?_
        refine lv_isub hx hb dX5_leastBy_86 ?_
        refine lv_topi (fun x_73 ex_73 => ?_)
        have qx_73 : x_73.toInt = 12 - r_1.toInt := by rw [ex_73]; exact zf_sub (by decide) rfl (by omega) (by omega)
        refine lv_aload_n hx hb dX5_leastBy_87 rfl (lv_at hl 3 rfl) ?_
        refine lv_iload_n hx hb dX5_leastBy_88 rfl (lv_at hl 5 rfl) ?_
        refine lv_iconst (v := 1) hx hb dX5_leastBy_89 (by decide) ?_
        refine lv_isub hx hb dX5_leastBy_90 ?_
        refine lv_topi (fun y_74 ey_74 => ?_)
        obtain rfl : y_74 = 2 := ey_74.trans (by decide)
        refine lv_aload_n hx hb dX5_leastBy_91 rfl (lv_at hl 4 rfl) ?_
        refine lv_iload_n hx hb dX5_leastBy_92 rfl (lv_at hl 6 rfl) ?_
        refine lv_aload_n hx hb dX5_leastBy_93 rfl (lv_at hl 3 rfl) ?_
        refine va_get (D := D) (ci := 5) (v := .int wh) (C := RX5) (T := TX5) (N := 7) hx hb hts hi_X5_leastBy_5 hown hK hP 0 rfl rfl 5 (by decide) (hts (.fieldLink RX5 31 "TheLiningsInIt$Ways" "hurry" "I") (List.mem_of_getElem? (i := 1) rfl)) (fun _ h9 => h9) rfl dX5_leastBy_94 ?_
        refine zc_V (As := [.int d, .int wh]) (rest := [.int 2, .ref w0, .int x_73, .int x_71]) ⟨hx, hb, hml, hown, hts⟩ (c_F_Pull_deeper l D cI cJ cZ cP cS po (d) (wh) u0 (ki) (a_) (ta) hu_u0 ⟨by omega, by omega, by omega, by omega⟩ hy12 hy13 hy4 hy5) (cwV 2 hts gX5_leastBy_X2_deeper rfl rfl rfl ⟨rfl, dh_X2_deeper⟩ ⟨Nat.le_of_ble_eq_true rfl, Nat.le_of_ble_eq_true rfl⟩) hK hN (hZ.kept hS) hP zP_nil (va_recv (q := (RX2, TX2, 3)) hK (zPu_P (hZ.kept hS) hu_u0) (ci := 2) (q0 := 0) rfl rfl) rfl hl.1 rfl (Nat.le_of_ble_eq_true rfl) dX5_leastBy_97 ⟨Nat.le_of_ble_eq_true rfl, Nat.le_of_ble_eq_true rfl⟩ (fun r_75 hr_75 => ?_)
        obtain ⟨g_76, g_77, hsr_75_0⟩ := hr_75
        refine lv_iload hx hb dX5_leastBy_100 (lv_at hl 1 rfl) ?_
        skip
        refine zw_V (As := [.int 2, .int r_75, .int x_4]) (rest := [.int x_73, .int x_71]) (wr := []) ⟨hx, hb, hml, hown, hts⟩ (c_F_W_least_2 l D cI cJ cZ cP cS po w0 wk wl wc wp (wn) (wh) (wg) fq kq aq tq (tw) q_67 fc (r_75) (x_4) hy2 hy3 hy4 hy5 hy6 hy7 hjw (by first | assumption | omega) (by first | assumption | omega) (by first | assumption | omega | decide) (by omega) (by omega) (by omega) (by omega) hp_fc H.size) (cwV 3 hts gX5_leastBy_X5_least rfl rfl rfl ⟨rfl, dh_X5_least⟩ ⟨Nat.le_of_ble_eq_true rfl, Nat.le_of_ble_eq_true rfl⟩) hK hN (hZ.kept hS) hP hD hS hA [0, 1, 2, 3] [] rfl rfl (by decide) (by decide) (by decide) (va_recv (q := (RX5, TX5, 7)) hK hP (ci := 5) (q0 := 0) rfl rfl) rfl hl.1 rfl (Nat.le_of_ble_eq_true rfl) dX5_leastBy_102 ⟨Nat.le_of_ble_eq_true rfl, Nat.le_of_ble_eq_true rfl⟩ (fun r_78 u_79 H locs hr_78 hP hD hS => ?_)
        obtain ⟨q_80, rfl⟩ : ∃ z, z = u_79 := ⟨_, rfl⟩
        obtain ⟨hsr_78_0, hsr_78_1, hr_78⟩ := hr_78
        have h9R := zRe (ws' := [(w0, .inr (5, [.ref wk, .ref wl, .ref wc, .ref wp, .int wn, .int wh, .int wg])), (wl, .inl (cI, 125, .inl q_80)), (wc, .inl (cI, 3, .inl fc)), (wp, .inl (cP, 8, .inr (.inr (.inr (.inr fq)))))]) hP hD rfl
        clear hP hD
        obtain ⟨hP, hD⟩ := h9R
        obtain ⟨g_81, g_82⟩ := hr_78
        refine lv_imul hx hb dX5_leastBy_105 ?_
        refine lv_topi (fun x_83 ex_83 => ?_)
        obtain ⟨mx_83, nx_83, ox_83⟩ := zf_mulc (a := x_73) (b := r_78) (x := x_73.toInt) (y := r_78.toInt) (P := 14256) rfl rfl ⟨by omega, by omega⟩ ⟨by omega, by omega⟩ (by decide)
        rw [← ex_83] at mx_83
        refine lv_iadd hx hb dX5_leastBy_106 ?_
        refine lv_topi (fun x_84 ex_84 => ?_)
        have qx_84 : x_84.toInt = x_71.toInt + x_83.toInt := by rw [ex_84]; exact zf_add rfl rfl (by omega) (by omega)
        refine lv_istore (lv' := [(7, .int x_84), (6, .int x_4), (5, .int r_1), (0, .ref w0), (1, .ref u0), (2, .int 3), (3, .int d), (4, .int sec)]) hx hb dX5_leastBy_107 hl (by decide) rfl (fun ls hl => ?_)
        refine lv_iload hx hb dX5_leastBy_109 (lv_at hl 0 rfl) ?_
        have hmx9 := zMix (w := r_1.toInt) (x := r_65.toInt) (y := r_78.toInt) (P := 14256) ⟨by omega, by omega⟩ ⟨by omega, by omega⟩ ⟨by omega, by omega⟩
        rw [show 12 - r_1.toInt = x_73.toInt from by omega] at hmx9
        exact W.iret (v := x_84) hx hb hr (fun t ht hW => ⟨⟨x_84, q_80, rfl, ⟨(show zKn kq aq tq wn.toInt.toNat wh.toInt (fc 0).toInt (fc 1).toInt (fc 2).toInt wg.toInt q_80 from by first | exact hsr_78_0 | assumption), (show (x_84 : Int32).toInt = zLb (zLn kq aq tq wn.toInt.toNat wh.toInt (fc 0).toInt (fc 1).toInt (fc 2).toInt 2) (fc 0).toInt (zPw 3) ki.toInt a_.toInt ta.toInt wh.toInt d.toInt sec.toInt from by (have nx_45 : (fc 0).toInt = x_45.toInt := (by rw [ex_45, show (0 : Int32).toNatClampNeg = 0 from by decide]); have zw := hsr_1_0; have E1 : r_1.toInt * (zLn kq aq tq wn.toInt.toNat wh.toInt (fc 0).toInt (fc 1).toInt (fc 2).toInt 2) (zShl ki.toInt a_.toInt d.toInt) (sec.toInt - ta.toInt) = x_70.toInt := (by rw [← hsr_62_0, show sec.toInt - ta.toInt = (x_4 : Int32).toInt from by omega, ← hsr_65_1]; omega); have E2 : (12 - r_1.toInt) * (zLn kq aq tq wn.toInt.toNat wh.toInt (fc 0).toInt (fc 1).toInt (fc 2).toInt 2) (zDpr ki.toInt a_.toInt wh.toInt d.toInt) (sec.toInt - ta.toInt) = x_83.toInt := (by rw [← hsr_75_0, show sec.toInt - ta.toInt = (x_4 : Int32).toInt from by omega, ← hsr_78_1, show 12 - r_1.toInt = x_73.toInt from by omega]; omega); unfold zLb zBy1; rw [← zw, E1, E2, show zPw 3 = 1728 from by decide]; first | (rw [if_pos (by omega)]; omega) | (rw [if_neg (by omega)]; omega))), ⟨by omega, by omega⟩⟩, zRet ht hP hD [0, 1, 2, 3] (by decide) rfl⟩, hS.F ht⟩) hS.2.2 dX5_leastBy_111
set_option maxHeartbeats 4000000 in
set_option maxRecDepth 100000 in
theorem c_F_W_least_3 (l : Launch) (D : va_G) (cI cJ cZ cP cS : ClassId) (po : zPool) (w0 wk wl wc wp : Nat) (wn wh wg : Int32) (fq : Nat → Option Nat) (kq aq tq : Nat → Int32) (tw : Int32) (fl fc : Nat → Int32) (d sec : Int32) (hy0 : 0 ≤ wn.toInt) (hy1 : wn.toInt ≤ 8) (hy2 : 0 ≤ wh.toInt) (hy3 : wh.toInt ≤ 9) (hy4 : 0 ≤ wg.toInt) (hy5 : wg.toInt ≤ 60) (hjw : zJW po fq wn kq aq tq tw) (hkn : zKn kq aq tq wn.toInt.toNat wh.toInt (fc 0).toInt (fc 1).toInt (fc 2).toInt wg.toInt fl) (hgl : (∀ p : Nat, p < wn.toInt.toNat → (tq p).toInt ≤ wg.toInt)) (htw : tw.toInt = 1) (hy10 : 0 ≤ d.toInt) (hy11 : d.toInt ≤ 24) (hy12 : 0 ≤ sec.toInt) (hy13 : sec.toInt ≤ 300) (hp_fc : zRg fc (0) 99) (hpz : Nat) : Met l yX5_least wsX5_least ({ frames := 8, cells := 0, slots := 0, locals := 208 }) (va_Pc [.ref w0, .int 3, .int d, .int sec] (zW D (zKT cI cJ cZ cP cS) po [(w0, .inr (5, [.ref wk, .ref wl, .ref wc, .ref wp, .int wn, .int wh, .int wg])), (wl, .inl (cI, 125, .inl fl)), (wc, .inl (cI, 3, .inl fc)), (wp, .inl (cP, 8, .inr (.inr (.inr (.inr fq)))))] hpz)) (va_Qi (fun (r : Int32) (fl2 : (Nat → Int32)) => (zKn kq aq tq wn.toInt.toNat wh.toInt (fc 0).toInt (fc 1).toInt (fc 2).toInt wg.toInt fl2) ∧ (r.toInt = (zLn kq aq tq wn.toInt.toNat wh.toInt (fc 0).toInt (fc 1).toInt (fc 2).toInt 3) d.toInt sec.toInt) ∧ (0 ≤ r.toInt ∧ r.toInt ≤ 171072)) (zB D [(w0, .inr (5, [.ref wk, .ref wl, .ref wc, .ref wp, .int wn, .int wh, .int wg])), (wl, .inl (cI, 125, .inl fl)), (wc, .inl (cI, 3, .inl fc)), (wp, .inl (cP, 8, .inr (.inr (.inr (.inr fq)))))] hpz (fun (fl2 : Nat → Int32) => [(w0, .inr (5, [.ref wk, .ref wl, .ref wc, .ref wp, .int wn, .int wh, .int wg])), (wl, .inl (cI, 125, .inl fl2)), (wc, .inl (cI, 3, .inl fc)), (wp, .inl (cP, 8, .inr (.inr (.inr (.inr fq)))))])) (va_A [(w0, .inr (5, [.ref wk, .ref wl, .ref wc, .ref wp, .int wn, .int wh, .int wg])), (wl, .inl (cI, 125, .inl fl)), (wc, .inl (cI, 3, .inl fc)), (wp, .inl (cP, 8, .inr (.inr (.inr (.inr fq)))))] hpz)) 0 0 (va_A [(w0, .inr (5, [.ref wk, .ref wl, .ref wc, .ref wp, .int wn, .int wh, .int wg])), (wl, .inl (cI, 125, .inl fl)), (wc, .inl (cI, 3, .inl fc)), (wp, .inl (cP, 8, .inr (.inr (.inr (.inr fq)))))] hpz) := by
  refine Met.ofW (cc := cX5_least) (maxL := 9) (ret := (some .int)) (by decide) rfl ?_
  intro p e s m args below meth c s₁ B hml hv
  obtain ⟨rfl, hsz, hP, hK, hD0, hN, hZ⟩ := hv
  have hx := B.exec
  have hb := B.bytes
  have hr := B.returns
  have hts := atoms_spec (ws := wsX5_least) B.pre
  have hown : s.vm.findClass RX5 = some m.cls := findClass_of_methodNamed B.named
  have hlocks := B.notSynchronized
  subst hsz
  have hD := hD0.self (sz := s.heap.size)
  have hA := zA_of hD
  have hl := lv_entry ([.ref w0, .int 3, .int d, .int sec]) (n := 9) (Nat.le_of_ble_eq_true rfl)
  rw [lg_entry_eq]
  generalize (lg_sl ([.ref w0, .int 3, .int d, .int sec]) ++ List.replicate (9 - (lg_sl ([.ref w0, .int 3, .int d, .int sec])).length) Slot.unset).toArray = ls at hl ⊢
  replace hl : lv_has ls 9 [(0, .ref w0), (1, .int 3), (2, .int d), (3, .int sec)] := hl
  refine zw_begin hP hD (fun H locs hP1 hS => ?_)
  clear hP
  have hP := hP1
  clear hP1
  refine lv_iload_n hx hb dX5_least_0 rfl (lv_at hl 1 rfl) ?_
  refine lv_if_lt (tgt := 20) hx hb dX5_least_1 (by decide) (fun c_1 => ?_) (fun c_1 => ?_)
  · exact absurd c_1 (by decide)
  · refine lv_iload_n hx hb dX5_least_4 rfl (lv_at hl 1 rfl) ?_
    refine lv_iconst (v := 4) hx hb dX5_least_5 (by decide) ?_
    refine lv_icmp_gt (tgt := 20) hx hb dX5_least_6 (by decide) (fun c_2 => ?_) (fun c_2 => ?_)
    · exact absurd c_2 (by decide)
    · refine lv_iload_n hx hb dX5_least_9 rfl (lv_at hl 2 rfl) ?_
      refine lv_iconst (v := 1) hx hb dX5_least_10 (by decide) ?_
      refine lv_icmp_lt (tgt := 20) hx hb dX5_least_11 (by decide) (fun c_3 => ?_) (fun c_3 => ?_)
      · have fc_3 : d.toInt < 1 := zf_lt c_3 rfl (by decide)
        refine lv_iconst (v := 0) hx hb dX5_least_20 (by decide) ?_
        exact W.iret (v := 0) hx hb hr (fun t ht hW => ⟨⟨0, fl, rfl, ⟨(show zKn kq aq tq wn.toInt.toNat wh.toInt (fc 0).toInt (fc 1).toInt (fc 2).toInt wg.toInt fl from by exact hkn), (show (0 : Int32).toInt = (zLn kq aq tq wn.toInt.toNat wh.toInt (fc 0).toInt (fc 1).toInt (fc 2).toInt 3) d.toInt sec.toInt from by (have k9 : (0 : Int32).toInt = 0 := (by decide); rw [zLn_s, if_pos (by omega)]; exact k9)), ⟨by decide, by decide⟩⟩, zRet ht hP hD [0, 1, 2, 3] (by decide) rfl⟩, hS.F ht⟩) hS.2.2 dX5_least_21
      · have fc_3 : 1 ≤ d.toInt := zf_nlt c_3 rfl (by decide)
        refine lv_iload_n hx hb dX5_least_14 rfl (lv_at hl 2 rfl) ?_
        refine lv_bipush (v := 24) hx hb dX5_least_15 (by decide) ?_
        refine lv_icmp_le (tgt := 22) hx hb dX5_least_17 (by decide) (fun c_4 => ?_) (fun c_4 => ?_)
        · have fc_4 : d.toInt ≤ 24 := zf_le c_4 rfl (by decide)
          refine lv_iload_n hx hb dX5_least_22 rfl (lv_at hl 3 rfl) ?_
          refine lv_iload_n hx hb dX5_least_23 rfl (lv_at hl 1 rfl) ?_
          refine lv_aload_n hx hb dX5_least_24 rfl (lv_at hl 0 rfl) ?_
          refine va_get (D := D) (ci := 5) (v := .int wg) (C := RX5) (T := TX5) (N := 7) hx hb hts hi_X5_least_5 hown hK hP 0 rfl rfl 6 (by decide) (hts (.fieldLink RX5 34 "TheLiningsInIt$Ways" "longest" "I") (List.mem_of_getElem? (i := 1) rfl)) (fun _ h9 => h9) rfl dX5_least_25 ?_
          refine lv_imul hx hb dX5_least_28 ?_
          refine lv_topi (fun x_5 ex_5 => ?_)
          have qx_5 : x_5.toInt = 3 * wg.toInt := by rw [ex_5]; exact zf_mul (by decide) rfl (by omega) (by omega)
          refine lv_bipush (v := 30) hx hb dX5_least_29 (by decide) ?_
          refine lv_iadd hx hb dX5_least_31 ?_
          refine lv_topi (fun x_6 ex_6 => ?_)
          have qx_6 : x_6.toInt = x_5.toInt + 30 := by rw [ex_6]; exact zf_add rfl (by decide) (by omega) (by omega)
          refine lv_icmp_lt (tgt := 39) hx hb dX5_least_32 (by decide) (fun c_7 => ?_) (fun c_7 => ?_)
          · have fc_7 : sec.toInt < x_6.toInt := zf_lt c_7 rfl rfl
            refine lv_iconst (v := 0) hx hb dX5_least_39 (by decide) ?_
            refine lv_istore (lv' := [(4, .int 0), (0, .ref w0), (1, .int 3), (2, .int d), (3, .int sec)]) hx hb dX5_least_40 hl (by decide) rfl (fun ls hl => ?_)
            refine lv_iload_n hx hb dX5_least_42 rfl (lv_at hl 2 rfl) ?_
            refine lv_bipush (v := 25) hx hb dX5_least_43 (by decide) ?_
            refine lv_imul hx hb dX5_least_45 ?_
            refine lv_topi (fun y_8 ey_8 => ?_)
            obtain rfl : y_8 = 75 := ey_8.trans (by decide)
            refine lv_iload_n hx hb dX5_least_46 rfl (lv_at hl 3 rfl) ?_
            refine lv_iadd hx hb dX5_least_47 ?_
            refine lv_topi (fun x_9 ex_9 => ?_)
            have qx_9 : x_9.toInt = 75 + d.toInt := by rw [ex_9]; exact zf_add (by decide) rfl (by omega) (by omega)
            refine lv_istore (lv' := [(5, .int x_9), (4, .int 0), (0, .ref w0), (1, .int 3), (2, .int d), (3, .int sec)]) hx hb dX5_least_48 hl (by decide) rfl (fun ls hl => ?_)
            refine lv_iload hx hb dX5_least_50 (lv_at hl 1 rfl) ?_
            refine lv_if_eq (tgt := 74) hx hb dX5_least_52 (by decide) (fun c_10 => ?_) (fun c_10 => ?_)
            · refine lv_aload_n hx hb dX5_least_74 rfl (lv_at hl 2 rfl) ?_
              refine lv_iload_n hx hb dX5_least_75 rfl (lv_at hl 3 rfl) ?_
              refine lv_iload_n hx hb dX5_least_76 rfl (lv_at hl 5 rfl) ?_
              refine zc_V (As := [.int 3, .int sec]) (rest := []) ⟨hx, hb, hml, hown, hts⟩ (c_F_W_leastAtOnce_3 l D cI cJ cZ cP cS po w0 wk wl wc wp (wn) (wh) (wg) fc (sec) hy0 hy1 hy2 hy3 hy4 hy5 hy12 hy13 hp_fc) (cwV 2 hts gX5_least_X5_leastAtOnce rfl rfl rfl ⟨rfl, dh_X5_leastAtOnce⟩ ⟨Nat.le_of_ble_eq_true rfl, Nat.le_of_ble_eq_true rfl⟩) hK hN (hZ.kept hS) hP (hP.sub [0, 2] rfl) (va_recv (q := (RX5, TX5, 7)) hK hP (ci := 5) (q0 := 0) rfl rfl) rfl hl.1 rfl (Nat.le_of_ble_eq_true rfl) dX5_least_77 ⟨Nat.le_of_ble_eq_true rfl, Nat.le_of_ble_eq_true rfl⟩ (fun r_11 hr_11 => ?_)
              obtain ⟨g_12, g_13, hsr_11_0⟩ := hr_11
              refine lv_istore (lv' := [(6, .int r_11), (5, .int x_9), (4, .int 0), (0, .ref w0), (1, .int 3), (2, .int d), (3, .int sec)]) hx hb dX5_least_80 hl (by decide) rfl (fun ls hl => ?_)
              refine lv_iconst (v := 0) hx hb dX5_least_82 (by decide) ?_
              refine lv_istore (lv' := [(7, .int 0), (6, .int r_11), (5, .int x_9), (4, .int 0), (0, .ref w0), (1, .int 3), (2, .int d), (3, .int sec)]) hx hb dX5_least_83 hl (by decide) rfl (fun ls hl => ?_)
              obtain ⟨i_85, hi_85⟩ : ∃ i : Int32, i = 0 := ⟨_, rfl⟩
              replace hl : lv_has ls 9 [(7, .int i_85), (6, .int r_11), (5, .int x_9), (4, .int 0), (0, .ref w0), (1, .int 3), (2, .int d), (3, .int sec)] := by rw [hi_85]; exact lv_sub hl [0, 1, 2, 3, 4, 5, 6, 7] rfl
              have h1i_85 : i_85.toInt = 0 := by rw [hi_85]; decide
              obtain ⟨nfu, hni_85⟩ : ∃ nq9 : Nat, wn.toInt ≤ i_85.toInt + (nq9 : Int) := ⟨((wn.toInt : Int) - 0).toNat, by omega⟩
              have hloi_85 : 0 ≤ i_85.toInt := by omega
              obtain ⟨g_14, hg_14⟩ : ∃ g : Nat → Int32, g = fl := ⟨_, rfl⟩
              replace hP : va_P D vwCl [(w0, .inr (5, [.ref wk, .ref wl, .ref wc, .ref wp, .int wn, .int wh, .int wg])), (wl, .inl (cI, 125, .inl g_14)), (wc, .inl (cI, 3, .inl fc)), (wp, .inl (cP, 8, .inr (.inr (.inr (.inr fq)))))] H := by rw [hg_14]; exact hP
              replace hD : va_D (va_A [(w0, .inr (5, [.ref wk, .ref wl, .ref wc, .ref wp, .int wn, .int wh, .int wg])), (wl, .inl (cI, 125, .inl fl)), (wc, .inl (cI, 3, .inl fc)), (wp, .inl (cP, 8, .inr (.inr (.inr (.inr fq)))))] s.heap.size) [(w0, .inr (5, [.ref wk, .ref wl, .ref wc, .ref wp, .int wn, .int wh, .int wg])), (wl, .inl (cI, 125, .inl g_14)), (wc, .inl (cI, 3, .inl fc)), (wp, .inl (cP, 8, .inr (.inr (.inr (.inr fq)))))] := by rw [hg_14]; exact hD
              obtain ⟨v_15, hv_15⟩ : ∃ g : Int32, g = r_11 := ⟨_, rfl⟩
              replace hl : lv_has ls 9 [(7, .int i_85), (6, .int v_15), (5, .int x_9), (4, .int 0), (0, .ref w0), (1, .int 3), (2, .int d), (3, .int sec)] := by rw [hv_15]; exact hl
              have hbv_15 : 0 ≤ v_15.toInt ∧ v_15.toInt ≤ 171072 := by rw [hv_15]; exact ⟨by omega, by omega⟩
              have hvi_85_0 : zKn kq aq tq wn.toInt.toNat wh.toInt (fc 0).toInt (fc 1).toInt (fc 2).toInt wg.toInt g_14 := by
                (try rw [hi_85]); (try rw [hg_14]); (try rw [hv_15]); exact hkn
              have hvi_85_1 : (v_15 : Int32).toInt = zFi tq d.toInt sec.toInt (zPw 3 * zAt (fc 1).toInt (fc 2).toInt sec.toInt) (zLv (zLn kq aq tq wn.toInt.toNat wh.toInt (fc 0).toInt (fc 1).toInt (fc 2).toInt 2) kq aq tq (fc 0).toInt (zPw 3) wh.toInt d.toInt sec.toInt) i_85.toInt.toNat := by
                (try rw [hi_85]); (try rw [hg_14]); (try rw [hv_15]); (rw [(show ((0 : Int32).toInt.toNat) = 0 from by decide)]; exact hsr_11_0)
              have hvi_85_2 : i_85.toInt ≤ wn.toInt := by
                (try rw [hi_85]); (try rw [hg_14]); (try rw [hv_15]); (have k0 : (0 : Int32).toInt = 0 := (by decide); omega)
              clear h1i_85 hi_85 hg_14 hv_15
              skip
              revert hni_85
              revert hloi_85
              revert hvi_85_2
              revert hvi_85_1
              revert hvi_85_0
              revert hbv_15
              revert hl
              revert hS
              revert hD
              revert hP
              revert ls
              revert locs
              revert H
              revert g_14
              revert v_15
              revert i_85
              induction nfu with
              | zero =>
                intro i_85 v_15 g_14 H locs ls hP hD hS hl hbv_15 hvi_85_0 hvi_85_1 hvi_85_2 hloi_85 hni_85
                have hzi_85 : wn.toInt ≤ i_85.toInt := by omega
                refine lv_iload hx hb dX5_least_85 (lv_at hl 0 rfl) ?_
                refine lv_aload_n hx hb dX5_least_87 rfl (lv_at hl 4 rfl) ?_
                refine va_get (D := D) (ci := 5) (v := .int wn) (C := RX5) (T := TX5) (N := 7) hx hb hts hi_X5_least_5 hown hK hP 0 rfl rfl 4 (by decide) (hts (.fieldLink RX5 27 "TheLiningsInIt$Ways" "count" "I") (List.mem_of_getElem? (i := 3) rfl)) (fun _ h9 => h9) rfl dX5_least_88 ?_
                refine lv_icmp_ge (tgt := 135) hx hb dX5_least_91 (by decide) (fun c_16 => ?_) (fun c_16 => ?_)
                · have fc_16 : wn.toInt ≤ i_85.toInt := zf_le c_16 rfl rfl
                  refine lv_iload hx hb dX5_least_135 (lv_at hl 3 rfl) ?_
                  refine lv_if_eq (tgt := 149) hx hb dX5_least_137 (by decide) (fun c_17 => ?_) (fun c_17 => ?_)
                  · refine lv_iload hx hb dX5_least_149 (lv_at hl 1 rfl) ?_
                    exact W.iret (v := v_15) hx hb hr (fun t ht hW => ⟨⟨v_15, g_14, rfl, ⟨(show zKn kq aq tq wn.toInt.toNat wh.toInt (fc 0).toInt (fc 1).toInt (fc 2).toInt wg.toInt g_14 from by exact hvi_85_0), (show (v_15 : Int32).toInt = (zLn kq aq tq wn.toInt.toNat wh.toInt (fc 0).toInt (fc 1).toInt (fc 2).toInt 3) d.toInt sec.toInt from by (have h9 : i_85.toInt.toNat = wn.toInt.toNat := (by omega); have z := hvi_85_1; rw [h9] at z; rw [zLn_s, if_neg (by omega)]; exact z)), ⟨by omega, by omega⟩⟩, zRet ht hP hD [0, 1, 2, 3] (by decide) rfl⟩, hS.F ht⟩) hS.2.2 dX5_least_151
                  · exact absurd c_17 (by decide)
                · exfalso; have fc_16 : i_85.toInt < wn.toInt := zf_nle c_16 rfl rfl; omega
              | succ nfu ih =>
                intro i_85 v_15 g_14 H locs ls hP hD hS hl hbv_15 hvi_85_0 hvi_85_1 hvi_85_2 hloi_85 hni_85
                refine lv_iload hx hb dX5_least_85 (lv_at hl 0 rfl) ?_
                refine lv_aload_n hx hb dX5_least_87 rfl (lv_at hl 4 rfl) ?_
                refine va_get (D := D) (ci := 5) (v := .int wn) (C := RX5) (T := TX5) (N := 7) hx hb hts hi_X5_least_5 hown hK hP 0 rfl rfl 4 (by decide) (hts (.fieldLink RX5 27 "TheLiningsInIt$Ways" "count" "I") (List.mem_of_getElem? (i := 3) rfl)) (fun _ h9 => h9) rfl dX5_least_88 ?_
                refine lv_icmp_ge (tgt := 135) hx hb dX5_least_91 (by decide) (fun c_18 => ?_) (fun c_18 => ?_)
                · have fc_18 : wn.toInt ≤ i_85.toInt := zf_le c_18 rfl rfl
                  refine lv_iload hx hb dX5_least_135 (lv_at hl 3 rfl) ?_
                  refine lv_if_eq (tgt := 149) hx hb dX5_least_137 (by decide) (fun c_19 => ?_) (fun c_19 => ?_)
                  · refine lv_iload hx hb dX5_least_149 (lv_at hl 1 rfl) ?_
                    exact W.iret (v := v_15) hx hb hr (fun t ht hW => ⟨⟨v_15, g_14, rfl, ⟨(show zKn kq aq tq wn.toInt.toNat wh.toInt (fc 0).toInt (fc 1).toInt (fc 2).toInt wg.toInt g_14 from by exact hvi_85_0), (show (v_15 : Int32).toInt = (zLn kq aq tq wn.toInt.toNat wh.toInt (fc 0).toInt (fc 1).toInt (fc 2).toInt 3) d.toInt sec.toInt from by (have h9 : i_85.toInt.toNat = wn.toInt.toNat := (by omega); have z := hvi_85_1; rw [h9] at z; rw [zLn_s, if_neg (by omega)]; exact z)), ⟨by omega, by omega⟩⟩, zRet ht hP hD [0, 1, 2, 3] (by decide) rfl⟩, hS.F ht⟩) hS.2.2 dX5_least_151
                  · exact absurd c_19 (by decide)
                · have fc_18 : i_85.toInt < wn.toInt := zf_nle c_18 rfl rfl
                  refine lv_iload_n hx hb dX5_least_94 rfl (lv_at hl 5 rfl) ?_
                  refine lv_if_le (tgt := 135) hx hb dX5_least_95 (by decide) (fun c_20 => ?_) (fun c_20 => ?_)
                  · exact absurd c_20 (by decide)
                  · refine lv_aload_n hx hb dX5_least_98 rfl (lv_at hl 4 rfl) ?_
                    refine lv_iload hx hb dX5_least_99 (lv_at hl 0 rfl) ?_
                    refine lv_iload_n hx hb dX5_least_101 rfl (lv_at hl 6 rfl) ?_
                    refine lv_iload_n hx hb dX5_least_102 rfl (lv_at hl 7 rfl) ?_
                    refine zc_Vq (As := [.int i_85, .int d, .int sec]) (rest := []) ⟨hx, hb, hml, hown, hts⟩ (c_F_W_mayBeAt l D cI cJ cZ cP cS po w0 wk wl wc wp (wn) (wh) (wg) fq kq aq tq (tw) (i_85) (d) (sec) hy0 hy1 hy2 hy3 hy4 hy5 hjw (by omega) (by omega) (by omega) hy12 hy13) (cwV 3 hts gX5_least_X5_mayBeAt rfl rfl rfl ⟨rfl, dh_X5_mayBeAt⟩ ⟨Nat.le_of_ble_eq_true rfl, Nat.le_of_ble_eq_true rfl⟩) hK hN (hZ.kept hS) hP (hP.sub [0, 3] rfl) (va_recv (q := (RX5, TX5, 7)) hK hP (ci := 5) (q0 := 0) rfl rfl) rfl hl.1 rfl (Nat.le_of_ble_eq_true rfl) dX5_least_103 ⟨Nat.le_of_ble_eq_true rfl, Nat.le_of_ble_eq_true rfl⟩ (fun r_21 hr_21 => ?_)
                    rcases hr_21 with ⟨rfl, hn_22⟩ | ⟨rfl, hn_24, g_23⟩ | ⟨rfl, hn_26, g_25⟩ | ⟨⟨u_28, kiu_28, au_28, tu_28, rfl, huu_28, hkku_28⟩, g_27⟩
                    · refine lv_astoreN (lv' := [(8, .null), (7, .int i_85), (6, .int v_15), (5, .int x_9), (4, .int 0), (0, .ref w0), (1, .int 3), (2, .int d), (3, .int sec)]) hx hb dX5_least_106 hl (by decide) rfl (fun ls hl => ?_)
                      refine lv_aloadN hx hb dX5_least_108 (lv_at hl 0 rfl) ?_
                      refine lv_ifnullN (tgt := 129) hx hb dX5_least_110 (by decide) ?_
                      obtain ⟨x_29, ex_29⟩ : ∃ y : Int32, y = i_85 + 1 := ⟨_, rfl⟩
                      have qx_29 : x_29.toInt = i_85.toInt + 1 := dw_inc ex_29 fc_18
                      refine lv_iinc (v := x_29) (lv' := [(7, .int x_29), (8, .null), (6, .int v_15), (5, .int x_9), (4, .int 0), (0, .ref w0), (1, .int 3), (2, .int d), (3, .int sec)]) hx hb dX5_least_129 hl (k := 1) rfl ex_29.symm (by decide) rfl (fun ls hl => ?_)
                      refine lv_goto (tgt := 85) hx hb dX5_least_132 (by decide) ?_
                      exact ih x_29 v_15 (g_14) _ _ _ (hP.sub [0, 1, 2, 3] rfl) (hD.sub [0, 1, 2, 3] (by decide) rfl) hS (lv_sub hl [0, 2, 3, 4, 5, 6, 7, 8] rfl) hbv_15 (show zKn kq aq tq wn.toInt.toNat wh.toInt (fc 0).toInt (fc 1).toInt (fc 2).toInt wg.toInt g_14 from by exact hvi_85_0) (show (v_15 : Int32).toInt = zFi tq d.toInt sec.toInt (zPw 3 * zAt (fc 1).toInt (fc 2).toInt sec.toInt) (zLv (zLn kq aq tq wn.toInt.toNat wh.toInt (fc 0).toInt (fc 1).toInt (fc 2).toInt 2) kq aq tq (fc 0).toInt (zPw 3) wh.toInt d.toInt sec.toInt) x_29.toInt.toNat from by (have hx : x_29.toInt.toNat = i_85.toInt.toNat + 1 := (by omega); have y4 := hn_22; have y9 : i_85.toNatClampNeg = i_85.toInt.toNat := rfl; rw [y9] at y4; rw [hx, zFi_n (fun z => y4 ⟨z.1, z.2, Or.inl (by omega)⟩)]; exact hvi_85_1)) (show x_29.toInt ≤ wn.toInt from by omega) (dw_lo hloi_85 qx_29) (dw_hn hni_85 qx_29)
                    · exfalso; omega
                    · refine lv_astoreN (lv' := [(8, .null), (7, .int i_85), (6, .int v_15), (5, .int x_9), (4, .int 0), (0, .ref w0), (1, .int 3), (2, .int d), (3, .int sec)]) hx hb dX5_least_106 hl (by decide) rfl (fun ls hl => ?_)
                      refine lv_aloadN hx hb dX5_least_108 (lv_at hl 0 rfl) ?_
                      refine lv_ifnullN (tgt := 129) hx hb dX5_least_110 (by decide) ?_
                      obtain ⟨x_30, ex_30⟩ : ∃ y : Int32, y = i_85 + 1 := ⟨_, rfl⟩
                      have qx_30 : x_30.toInt = i_85.toInt + 1 := dw_inc ex_30 fc_18
                      refine lv_iinc (v := x_30) (lv' := [(7, .int x_30), (8, .null), (6, .int v_15), (5, .int x_9), (4, .int 0), (0, .ref w0), (1, .int 3), (2, .int d), (3, .int sec)]) hx hb dX5_least_129 hl (k := 1) rfl ex_30.symm (by decide) rfl (fun ls hl => ?_)
                      refine lv_goto (tgt := 85) hx hb dX5_least_132 (by decide) ?_
                      exact ih x_30 v_15 (g_14) _ _ _ (hP.sub [0, 1, 2, 3] rfl) (hD.sub [0, 1, 2, 3] (by decide) rfl) hS (lv_sub hl [0, 2, 3, 4, 5, 6, 7, 8] rfl) hbv_15 (show zKn kq aq tq wn.toInt.toNat wh.toInt (fc 0).toInt (fc 1).toInt (fc 2).toInt wg.toInt g_14 from by exact hvi_85_0) (show (v_15 : Int32).toInt = zFi tq d.toInt sec.toInt (zPw 3 * zAt (fc 1).toInt (fc 2).toInt sec.toInt) (zLv (zLn kq aq tq wn.toInt.toNat wh.toInt (fc 0).toInt (fc 1).toInt (fc 2).toInt 2) kq aq tq (fc 0).toInt (zPw 3) wh.toInt d.toInt sec.toInt) x_30.toInt.toNat from by (have hx : x_30.toInt.toNat = i_85.toInt.toNat + 1 := (by omega); have y4 := hn_26; have y9 : i_85.toNatClampNeg = i_85.toInt.toNat := rfl; rw [y9] at y4; rw [hx, zFi_n (fun z => y4 ⟨z.1, z.2, Or.inl (by omega)⟩)]; exact hvi_85_1)) (show x_30.toInt ≤ wn.toInt from by omega) (dw_lo hloi_85 qx_30) (dw_hn hni_85 qx_30)
                    · refine W.eq (g2 := F0 m 106 ls (.ref u_28 :: [])) rfl ?_
                      obtain ⟨hku_28, hau_28, htu_28⟩ := zPu_pr (hZ.kept hS) huu_28
                      refine lv_astore (lv' := [(8, .ref u_28), (7, .int i_85), (6, .int v_15), (5, .int x_9), (4, .int 0), (0, .ref w0), (1, .int 3), (2, .int d), (3, .int sec)]) hx hb dX5_least_106 hl (by decide) rfl (fun ls hl => ?_)
                      refine lv_aload hx hb dX5_least_108 (lv_at hl 0 rfl) ?_
                      refine lv_ifnull hx hb dX5_least_110 ?_
                      refine lv_iload hx hb dX5_least_113 (lv_at hl 2 rfl) ?_
                      refine lv_aload_n hx hb dX5_least_115 rfl (lv_at hl 5 rfl) ?_
                      refine lv_aload hx hb dX5_least_116 (lv_at hl 0 rfl) ?_
                      refine lv_iload_n hx hb dX5_least_118 rfl (lv_at hl 6 rfl) ?_
                      refine lv_iload_n hx hb dX5_least_119 rfl (lv_at hl 7 rfl) ?_
                      refine lv_iload_n hx hb dX5_least_120 rfl (lv_at hl 8 rfl) ?_
                      have tsu_28 : tu_28.toInt ≤ sec.toInt := by (obtain ⟨⟨y1, y2, y3⟩, y4⟩ := hkku_28; have z := y4.2.1; rw [y3]; exact z)
                      skip
                      refine zw_V (As := [.ref u_28, .int 3, .int d, .int sec]) (rest := [.int v_15]) (wr := []) ⟨hx, hb, hml, hown, hts⟩ (c_F_W_leastBy_3 l D cI cJ cZ cP cS po w0 wk wl wc wp (wn) (wh) (wg) fq kq aq tq (tw) g_14 fc (d) (sec) u_28 (kiu_28) (au_28) (tu_28) huu_28 ⟨by omega, by omega, by omega, by omega⟩ hy0 hy1 hy2 hy3 hy4 hy5 hjw (by first | assumption | omega) (by first | assumption | omega) (by first | assumption | omega | decide) hy10 hy11 hy12 hy13 (by omega) hp_fc H.size) (cwV 4 hts gX5_least_X5_leastBy rfl rfl rfl ⟨rfl, dh_X5_leastBy⟩ ⟨Nat.le_of_ble_eq_true rfl, Nat.le_of_ble_eq_true rfl⟩) hK hN (hZ.kept hS) hP hD hS hA [0, 1, 2, 3] [] rfl rfl (by decide) (by decide) (by decide) (va_recv (q := (RX5, TX5, 7)) hK hP (ci := 5) (q0 := 0) rfl rfl) rfl hl.1 rfl (Nat.le_of_ble_eq_true rfl) dX5_least_121 ⟨Nat.le_of_ble_eq_true rfl, Nat.le_of_ble_eq_true rfl⟩ (fun r_31 u_32 H locs hr_31 hP hD hS => ?_)
                      obtain ⟨q_33, rfl⟩ : ∃ z, z = u_32 := ⟨_, rfl⟩
                      obtain ⟨hsr_31_0, hsr_31_1, hr_31⟩ := hr_31
                      have h9R := zRe (ws' := [(w0, .inr (5, [.ref wk, .ref wl, .ref wc, .ref wp, .int wn, .int wh, .int wg])), (wl, .inl (cI, 125, .inl q_33)), (wc, .inl (cI, 3, .inl fc)), (wp, .inl (cP, 8, .inr (.inr (.inr (.inr fq)))))]) hP hD rfl
                      clear hP hD
                      obtain ⟨hP, hD⟩ := h9R
                      obtain ⟨g_34, g_35⟩ := hr_31
                      refine va_mmin hx hb (hml.trans hl.1.symm) hown (hts (.methodLink RX5 110 Lib.Math.min.name) (List.mem_of_getElem? (i := 4) rfl)) (hts _ (List.mem_of_getElem? (i := 5) rfl)) (hts _ (List.mem_of_getElem? (i := 6) rfl)) (hts _ (List.mem_of_getElem? (i := 7) rfl)) (Nat.le_of_ble_eq_true rfl) (Nat.le_of_ble_eq_true rfl) (Nat.le_of_ble_eq_true rfl) (Nat.le_of_ble_eq_true rfl) dX5_least_124 ?_
                      refine lv_topi (fun x_36 ex_36 => ?_)
                      have qx_36 := zf_min ex_36 (x1 := v_15.toInt) (y1 := r_31.toInt) rfl rfl
                      refine lv_istore (lv' := [(6, .int x_36), (8, .ref u_28), (7, .int i_85), (5, .int x_9), (4, .int 0), (0, .ref w0), (1, .int 3), (2, .int d), (3, .int sec)]) hx hb dX5_least_127 hl (by decide) rfl (fun ls hl => ?_)
                      obtain ⟨x_37, ex_37⟩ : ∃ y : Int32, y = i_85 + 1 := ⟨_, rfl⟩
                      have qx_37 : x_37.toInt = i_85.toInt + 1 := dw_inc ex_37 fc_18
                      refine lv_iinc (v := x_37) (lv' := [(7, .int x_37), (6, .int x_36), (8, .ref u_28), (5, .int x_9), (4, .int 0), (0, .ref w0), (1, .int 3), (2, .int d), (3, .int sec)]) hx hb dX5_least_129 hl (k := 2) rfl ex_37.symm (by decide) rfl (fun ls hl => ?_)
                      refine lv_goto (tgt := 85) hx hb dX5_least_132 (by decide) ?_
                      exact ih x_37 x_36 (q_33) _ _ _ (hP.sub [0, 1, 2, 3] rfl) (hD.sub [0, 1, 2, 3] (by decide) rfl) hS (lv_sub hl [0, 1, 3, 4, 5, 6, 7, 8] rfl) ⟨by omega, by omega⟩ (show zKn kq aq tq wn.toInt.toNat wh.toInt (fc 0).toInt (fc 1).toInt (fc 2).toInt wg.toInt q_33 from by exact hsr_31_0) (show (x_36 : Int32).toInt = zFi tq d.toInt sec.toInt (zPw 3 * zAt (fc 1).toInt (fc 2).toInt sec.toInt) (zLv (zLn kq aq tq wn.toInt.toNat wh.toInt (fc 0).toInt (fc 1).toInt (fc 2).toInt 2) kq aq tq (fc 0).toInt (zPw 3) wh.toInt d.toInt sec.toInt) x_37.toInt.toNat from by (have hx : x_37.toInt.toNat = i_85.toInt.toNat + 1 := (by omega); obtain ⟨⟨y1, y2, y3⟩, y4⟩ := hkku_28; have y9 : i_85.toNatClampNeg = i_85.toInt.toNat := rfl; rw [y9] at y1 y2 y3 y4; rw [hx, zFi_y ⟨y4.1, y4.2.1⟩, ← hvi_85_1]; have zr := hsr_31_1; rw [y1, y2, y3] at zr; have zr2 : r_31.toInt = (zLv (zLn kq aq tq wn.toInt.toNat wh.toInt (fc 0).toInt (fc 1).toInt (fc 2).toInt 2) kq aq tq (fc 0).toInt (zPw 3) wh.toInt d.toInt sec.toInt) i_85.toInt.toNat := zr; omega)) (show x_37.toInt ≤ wn.toInt from by omega) (dw_lo hloi_85 qx_37) (dw_hn hni_85 qx_37)
            · exact absurd c_10 (by decide)
          · have fc_7 : x_6.toInt ≤ sec.toInt := zf_nlt c_7 rfl rfl
            refine lv_iconst (v := 1) hx hb dX5_least_35 (by decide) ?_
            refine lv_goto (tgt := 40) hx hb dX5_least_36 (by decide) ?_
            refine lv_istore (lv' := [(4, .int 1), (0, .ref w0), (1, .int 3), (2, .int d), (3, .int sec)]) hx hb dX5_least_40 hl (by decide) rfl (fun ls hl => ?_)
            refine lv_iload_n hx hb dX5_least_42 rfl (lv_at hl 2 rfl) ?_
            refine lv_bipush (v := 25) hx hb dX5_least_43 (by decide) ?_
            refine lv_imul hx hb dX5_least_45 ?_
            refine lv_topi (fun y_38 ey_38 => ?_)
            obtain rfl : y_38 = 75 := ey_38.trans (by decide)
            refine lv_iload_n hx hb dX5_least_46 rfl (lv_at hl 3 rfl) ?_
            refine lv_iadd hx hb dX5_least_47 ?_
            refine lv_topi (fun x_39 ex_39 => ?_)
            have qx_39 : x_39.toInt = 75 + d.toInt := by rw [ex_39]; exact zf_add (by decide) rfl (by omega) (by omega)
            refine lv_istore (lv' := [(5, .int x_39), (4, .int 1), (0, .ref w0), (1, .int 3), (2, .int d), (3, .int sec)]) hx hb dX5_least_48 hl (by decide) rfl (fun ls hl => ?_)
            refine lv_iload hx hb dX5_least_50 (lv_at hl 1 rfl) ?_
            refine lv_if_eq (tgt := 74) hx hb dX5_least_52 (by decide) (fun c_40 => ?_) (fun c_40 => ?_)
            · exact absurd c_40 (by decide)
            · refine lv_aload_n hx hb dX5_least_55 rfl (lv_at hl 2 rfl) ?_
              refine va_get (D := D) (ci := 5) (v := .ref wl) (C := RX5) (T := TX5) (N := 7) hx hb hts hi_X5_least_5 hown hK hP 0 rfl rfl 1 (by decide) (hts (.fieldLink RX5 15 "TheLiningsInIt$Ways" "knownLeast" "[I") (List.mem_of_getElem? (i := 2) rfl)) (fun _ h9 => h9) rfl dX5_least_56 ?_
              refine lv_iload hx hb dX5_least_59 (lv_at hl 0 rfl) ?_
              refine va_iald hx hb hK hP 1 0 rfl rfl (zf_in (by omega) (by omega)) dX5_least_61 ?_
              refine lv_topi (fun x_41 ex_41 => ?_)
              refine lv_iconst (v := (-1)) hx hb dX5_least_62 (by decide) ?_
              refine lv_icmp_eq (tgt := 74) hx hb dX5_least_63 (by decide) (fun c_42 => ?_) (fun c_42 => ?_)
              · have fc_42 : x_41.toInt = (-1) := zf_eq c_42 rfl (by decide)
                refine lv_aload_n hx hb dX5_least_74 rfl (lv_at hl 2 rfl) ?_
                refine lv_iload_n hx hb dX5_least_75 rfl (lv_at hl 3 rfl) ?_
                refine lv_iload_n hx hb dX5_least_76 rfl (lv_at hl 5 rfl) ?_
                refine zc_V (As := [.int 3, .int sec]) (rest := []) ⟨hx, hb, hml, hown, hts⟩ (c_F_W_leastAtOnce_3 l D cI cJ cZ cP cS po w0 wk wl wc wp (wn) (wh) (wg) fc (sec) hy0 hy1 hy2 hy3 hy4 hy5 hy12 hy13 hp_fc) (cwV 2 hts gX5_least_X5_leastAtOnce rfl rfl rfl ⟨rfl, dh_X5_leastAtOnce⟩ ⟨Nat.le_of_ble_eq_true rfl, Nat.le_of_ble_eq_true rfl⟩) hK hN (hZ.kept hS) hP (hP.sub [0, 2] rfl) (va_recv (q := (RX5, TX5, 7)) hK hP (ci := 5) (q0 := 0) rfl rfl) rfl hl.1 rfl (Nat.le_of_ble_eq_true rfl) dX5_least_77 ⟨Nat.le_of_ble_eq_true rfl, Nat.le_of_ble_eq_true rfl⟩ (fun r_43 hr_43 => ?_)
                obtain ⟨g_44, g_45, hsr_43_0⟩ := hr_43
                refine lv_istore (lv' := [(6, .int r_43), (5, .int x_39), (4, .int 1), (0, .ref w0), (1, .int 3), (2, .int d), (3, .int sec)]) hx hb dX5_least_80 hl (by decide) rfl (fun ls hl => ?_)
                refine lv_iconst (v := 0) hx hb dX5_least_82 (by decide) ?_
                refine lv_istore (lv' := [(7, .int 0), (6, .int r_43), (5, .int x_39), (4, .int 1), (0, .ref w0), (1, .int 3), (2, .int d), (3, .int sec)]) hx hb dX5_least_83 hl (by decide) rfl (fun ls hl => ?_)
                obtain ⟨i_85, hi_85⟩ : ∃ i : Int32, i = 0 := ⟨_, rfl⟩
                replace hl : lv_has ls 9 [(7, .int i_85), (6, .int r_43), (5, .int x_39), (4, .int 1), (0, .ref w0), (1, .int 3), (2, .int d), (3, .int sec)] := by rw [hi_85]; exact lv_sub hl [0, 1, 2, 3, 4, 5, 6, 7] rfl
                have h1i_85 : i_85.toInt = 0 := by rw [hi_85]; decide
                obtain ⟨nfu, hni_85⟩ : ∃ nq9 : Nat, wn.toInt ≤ i_85.toInt + (nq9 : Int) := ⟨((wn.toInt : Int) - 0).toNat, by omega⟩
                have hloi_85 : 0 ≤ i_85.toInt := by omega
                obtain ⟨g_46, hg_46⟩ : ∃ g : Nat → Int32, g = fl := ⟨_, rfl⟩
                replace hP : va_P D vwCl [(w0, .inr (5, [.ref wk, .ref wl, .ref wc, .ref wp, .int wn, .int wh, .int wg])), (wl, .inl (cI, 125, .inl g_46)), (wc, .inl (cI, 3, .inl fc)), (wp, .inl (cP, 8, .inr (.inr (.inr (.inr fq)))))] H := by rw [hg_46]; exact hP
                replace hD : va_D (va_A [(w0, .inr (5, [.ref wk, .ref wl, .ref wc, .ref wp, .int wn, .int wh, .int wg])), (wl, .inl (cI, 125, .inl fl)), (wc, .inl (cI, 3, .inl fc)), (wp, .inl (cP, 8, .inr (.inr (.inr (.inr fq)))))] s.heap.size) [(w0, .inr (5, [.ref wk, .ref wl, .ref wc, .ref wp, .int wn, .int wh, .int wg])), (wl, .inl (cI, 125, .inl g_46)), (wc, .inl (cI, 3, .inl fc)), (wp, .inl (cP, 8, .inr (.inr (.inr (.inr fq)))))] := by rw [hg_46]; exact hD
                obtain ⟨v_47, hv_47⟩ : ∃ g : Int32, g = r_43 := ⟨_, rfl⟩
                replace hl : lv_has ls 9 [(7, .int i_85), (6, .int v_47), (5, .int x_39), (4, .int 1), (0, .ref w0), (1, .int 3), (2, .int d), (3, .int sec)] := by rw [hv_47]; exact hl
                have hbv_47 : 0 ≤ v_47.toInt ∧ v_47.toInt ≤ 171072 := by rw [hv_47]; exact ⟨by omega, by omega⟩
                have hvi_85_0 : zKn kq aq tq wn.toInt.toNat wh.toInt (fc 0).toInt (fc 1).toInt (fc 2).toInt wg.toInt g_46 := by
                  (try rw [hi_85]); (try rw [hg_46]); (try rw [hv_47]); exact hkn
                have hvi_85_1 : (v_47 : Int32).toInt = zFi tq d.toInt sec.toInt (zPw 3 * zAt (fc 1).toInt (fc 2).toInt sec.toInt) (zLv (zLn kq aq tq wn.toInt.toNat wh.toInt (fc 0).toInt (fc 1).toInt (fc 2).toInt 2) kq aq tq (fc 0).toInt (zPw 3) wh.toInt d.toInt sec.toInt) i_85.toInt.toNat := by
                  (try rw [hi_85]); (try rw [hg_46]); (try rw [hv_47]); (rw [(show ((0 : Int32).toInt.toNat) = 0 from by decide)]; exact hsr_43_0)
                have hvi_85_2 : i_85.toInt ≤ wn.toInt := by
                  (try rw [hi_85]); (try rw [hg_46]); (try rw [hv_47]); (have k0 : (0 : Int32).toInt = 0 := (by decide); omega)
                clear h1i_85 hi_85 hg_46 hv_47
                skip
                revert hni_85
                revert hloi_85
                revert hvi_85_2
                revert hvi_85_1
                revert hvi_85_0
                revert hbv_47
                revert hl
                revert hS
                revert hD
                revert hP
                revert ls
                revert locs
                revert H
                revert g_46
                revert v_47
                revert i_85
                induction nfu with
                | zero =>
                  intro i_85 v_47 g_46 H locs ls hP hD hS hl hbv_47 hvi_85_0 hvi_85_1 hvi_85_2 hloi_85 hni_85
                  have hzi_85 : wn.toInt ≤ i_85.toInt := by omega
                  refine lv_iload hx hb dX5_least_85 (lv_at hl 0 rfl) ?_
                  refine lv_aload_n hx hb dX5_least_87 rfl (lv_at hl 4 rfl) ?_
                  refine va_get (D := D) (ci := 5) (v := .int wn) (C := RX5) (T := TX5) (N := 7) hx hb hts hi_X5_least_5 hown hK hP 0 rfl rfl 4 (by decide) (hts (.fieldLink RX5 27 "TheLiningsInIt$Ways" "count" "I") (List.mem_of_getElem? (i := 3) rfl)) (fun _ h9 => h9) rfl dX5_least_88 ?_
                  refine lv_icmp_ge (tgt := 135) hx hb dX5_least_91 (by decide) (fun c_48 => ?_) (fun c_48 => ?_)
                  · have fc_48 : wn.toInt ≤ i_85.toInt := zf_le c_48 rfl rfl
                    refine lv_iload hx hb dX5_least_135 (lv_at hl 3 rfl) ?_
                    refine lv_if_eq (tgt := 149) hx hb dX5_least_137 (by decide) (fun c_49 => ?_) (fun c_49 => ?_)
                    · exact absurd c_49 (by decide)
                    · refine lv_aload_n hx hb dX5_least_140 rfl (lv_at hl 4 rfl) ?_
                      refine va_get (D := D) (ci := 5) (v := .ref wl) (C := RX5) (T := TX5) (N := 7) hx hb hts hi_X5_least_5 hown hK hP 0 rfl rfl 1 (by decide) (hts (.fieldLink RX5 15 "TheLiningsInIt$Ways" "knownLeast" "[I") (List.mem_of_getElem? (i := 2) rfl)) (fun _ h9 => h9) rfl dX5_least_141 ?_
                      refine lv_iload hx hb dX5_least_144 (lv_at hl 2 rfl) ?_
                      refine lv_iload hx hb dX5_least_146 (lv_at hl 1 rfl) ?_
                      refine va_iast hx hb hK hP hD hS 1 0 rfl rfl (zf_in (by omega) (by omega)) dX5_least_148 (fun H locs hP hD hS => ?_)
                      obtain ⟨g_50, hg_50⟩ : ∃ g : Nat → Int32, g = upd g_46 x_39.toNatClampNeg v_47 := ⟨_, rfl⟩
                      rw [← hg_50] at hP hD
                      have h9R := zRe (ws' := [(w0, .inr (5, [.ref wk, .ref wl, .ref wc, .ref wp, .int wn, .int wh, .int wg])), (wl, .inl (cI, 125, .inl g_50)), (wc, .inl (cI, 3, .inl fc)), (wp, .inl (cP, 8, .inr (.inr (.inr (.inr fq)))))]) hP hD rfl
                      clear hP hD
                      obtain ⟨hP, hD⟩ := h9R
                      refine lv_iload hx hb dX5_least_149 (lv_at hl 1 rfl) ?_
                      exact W.iret (v := v_47) hx hb hr (fun t ht hW => ⟨⟨v_47, g_50, rfl, ⟨(show zKn kq aq tq wn.toInt.toNat wh.toInt (fc 0).toInt (fc 1).toInt (fc 2).toInt wg.toInt g_50 from by (rw [hg_50]; exact zKn_u (m := 3) (d := d) (s := sec) hvi_85_0 (by omega) hgl (by omega) ⟨by omega, by omega⟩ (by omega) (by have h9 : i_85.toInt.toNat = wn.toInt.toNat := (by omega); have z := hvi_85_1; rw [h9] at z; rw [zLn_s, if_neg (by omega)]; exact z))), (show (v_47 : Int32).toInt = (zLn kq aq tq wn.toInt.toNat wh.toInt (fc 0).toInt (fc 1).toInt (fc 2).toInt 3) d.toInt sec.toInt from by (have h9 : i_85.toInt.toNat = wn.toInt.toNat := (by omega); have z := hvi_85_1; rw [h9] at z; rw [zLn_s, if_neg (by omega)]; exact z)), ⟨by omega, by omega⟩⟩, zRet ht hP hD [0, 1, 2, 3] (by decide) rfl⟩, hS.F ht⟩) hS.2.2 dX5_least_151
                  · exfalso; have fc_48 : i_85.toInt < wn.toInt := zf_nle c_48 rfl rfl; omega
                | succ nfu ih =>
                  intro i_85 v_47 g_46 H locs ls hP hD hS hl hbv_47 hvi_85_0 hvi_85_1 hvi_85_2 hloi_85 hni_85
                  refine lv_iload hx hb dX5_least_85 (lv_at hl 0 rfl) ?_
                  refine lv_aload_n hx hb dX5_least_87 rfl (lv_at hl 4 rfl) ?_
                  refine va_get (D := D) (ci := 5) (v := .int wn) (C := RX5) (T := TX5) (N := 7) hx hb hts hi_X5_least_5 hown hK hP 0 rfl rfl 4 (by decide) (hts (.fieldLink RX5 27 "TheLiningsInIt$Ways" "count" "I") (List.mem_of_getElem? (i := 3) rfl)) (fun _ h9 => h9) rfl dX5_least_88 ?_
                  refine lv_icmp_ge (tgt := 135) hx hb dX5_least_91 (by decide) (fun c_51 => ?_) (fun c_51 => ?_)
                  · have fc_51 : wn.toInt ≤ i_85.toInt := zf_le c_51 rfl rfl
                    refine lv_iload hx hb dX5_least_135 (lv_at hl 3 rfl) ?_
                    refine lv_if_eq (tgt := 149) hx hb dX5_least_137 (by decide) (fun c_52 => ?_) (fun c_52 => ?_)
                    · exact absurd c_52 (by decide)
                    · refine lv_aload_n hx hb dX5_least_140 rfl (lv_at hl 4 rfl) ?_
                      refine va_get (D := D) (ci := 5) (v := .ref wl) (C := RX5) (T := TX5) (N := 7) hx hb hts hi_X5_least_5 hown hK hP 0 rfl rfl 1 (by decide) (hts (.fieldLink RX5 15 "TheLiningsInIt$Ways" "knownLeast" "[I") (List.mem_of_getElem? (i := 2) rfl)) (fun _ h9 => h9) rfl dX5_least_141 ?_
                      refine lv_iload hx hb dX5_least_144 (lv_at hl 2 rfl) ?_
                      refine lv_iload hx hb dX5_least_146 (lv_at hl 1 rfl) ?_
                      refine va_iast hx hb hK hP hD hS 1 0 rfl rfl (zf_in (by omega) (by omega)) dX5_least_148 (fun H locs hP hD hS => ?_)
                      obtain ⟨g_53, hg_53⟩ : ∃ g : Nat → Int32, g = upd g_46 x_39.toNatClampNeg v_47 := ⟨_, rfl⟩
                      rw [← hg_53] at hP hD
                      have h9R := zRe (ws' := [(w0, .inr (5, [.ref wk, .ref wl, .ref wc, .ref wp, .int wn, .int wh, .int wg])), (wl, .inl (cI, 125, .inl g_53)), (wc, .inl (cI, 3, .inl fc)), (wp, .inl (cP, 8, .inr (.inr (.inr (.inr fq)))))]) hP hD rfl
                      clear hP hD
                      obtain ⟨hP, hD⟩ := h9R
                      refine lv_iload hx hb dX5_least_149 (lv_at hl 1 rfl) ?_
                      exact W.iret (v := v_47) hx hb hr (fun t ht hW => ⟨⟨v_47, g_53, rfl, ⟨(show zKn kq aq tq wn.toInt.toNat wh.toInt (fc 0).toInt (fc 1).toInt (fc 2).toInt wg.toInt g_53 from by (rw [hg_53]; exact zKn_u (m := 3) (d := d) (s := sec) hvi_85_0 (by omega) hgl (by omega) ⟨by omega, by omega⟩ (by omega) (by have h9 : i_85.toInt.toNat = wn.toInt.toNat := (by omega); have z := hvi_85_1; rw [h9] at z; rw [zLn_s, if_neg (by omega)]; exact z))), (show (v_47 : Int32).toInt = (zLn kq aq tq wn.toInt.toNat wh.toInt (fc 0).toInt (fc 1).toInt (fc 2).toInt 3) d.toInt sec.toInt from by (have h9 : i_85.toInt.toNat = wn.toInt.toNat := (by omega); have z := hvi_85_1; rw [h9] at z; rw [zLn_s, if_neg (by omega)]; exact z)), ⟨by omega, by omega⟩⟩, zRet ht hP hD [0, 1, 2, 3] (by decide) rfl⟩, hS.F ht⟩) hS.2.2 dX5_least_151
                  · have fc_51 : i_85.toInt < wn.toInt := zf_nle c_51 rfl rfl
                    refine lv_iload_n hx hb dX5_least_94 rfl (lv_at hl 5 rfl) ?_
                    refine lv_if_le (tgt := 135) hx hb dX5_least_95 (by decide) (fun c_54 => ?_) (fun c_54 => ?_)
                    · exact absurd c_54 (by decide)
                    · refine lv_aload_n hx hb dX5_least_98 rfl (lv_at hl 4 rfl) ?_
                      refine lv_iload hx hb dX5_least_99 (lv_at hl 0 rfl) ?_
                      refine lv_iload_n hx hb dX5_least_101 rfl (lv_at hl 6 rfl) ?_
                      refine lv_iload_n hx hb dX5_least_102 rfl (lv_at hl 7 rfl) ?_
                      refine zc_Vq (As := [.int i_85, .int d, .int sec]) (rest := []) ⟨hx, hb, hml, hown, hts⟩ (c_F_W_mayBeAt l D cI cJ cZ cP cS po w0 wk wl wc wp (wn) (wh) (wg) fq kq aq tq (tw) (i_85) (d) (sec) hy0 hy1 hy2 hy3 hy4 hy5 hjw (by omega) (by omega) (by omega) hy12 hy13) (cwV 3 hts gX5_least_X5_mayBeAt rfl rfl rfl ⟨rfl, dh_X5_mayBeAt⟩ ⟨Nat.le_of_ble_eq_true rfl, Nat.le_of_ble_eq_true rfl⟩) hK hN (hZ.kept hS) hP (hP.sub [0, 3] rfl) (va_recv (q := (RX5, TX5, 7)) hK hP (ci := 5) (q0 := 0) rfl rfl) rfl hl.1 rfl (Nat.le_of_ble_eq_true rfl) dX5_least_103 ⟨Nat.le_of_ble_eq_true rfl, Nat.le_of_ble_eq_true rfl⟩ (fun r_55 hr_55 => ?_)
                      rcases hr_55 with ⟨rfl, hn_56⟩ | ⟨rfl, hn_58, g_57⟩ | ⟨rfl, hn_60, g_59⟩ | ⟨⟨u_62, kiu_62, au_62, tu_62, rfl, huu_62, hkku_62⟩, g_61⟩
                      · refine lv_astoreN (lv' := [(8, .null), (7, .int i_85), (6, .int v_47), (5, .int x_39), (4, .int 1), (0, .ref w0), (1, .int 3), (2, .int d), (3, .int sec)]) hx hb dX5_least_106 hl (by decide) rfl (fun ls hl => ?_)
                        refine lv_aloadN hx hb dX5_least_108 (lv_at hl 0 rfl) ?_
                        refine lv_ifnullN (tgt := 129) hx hb dX5_least_110 (by decide) ?_
                        obtain ⟨x_63, ex_63⟩ : ∃ y : Int32, y = i_85 + 1 := ⟨_, rfl⟩
                        have qx_63 : x_63.toInt = i_85.toInt + 1 := dw_inc ex_63 fc_51
                        refine lv_iinc (v := x_63) (lv' := [(7, .int x_63), (8, .null), (6, .int v_47), (5, .int x_39), (4, .int 1), (0, .ref w0), (1, .int 3), (2, .int d), (3, .int sec)]) hx hb dX5_least_129 hl (k := 1) rfl ex_63.symm (by decide) rfl (fun ls hl => ?_)
                        refine lv_goto (tgt := 85) hx hb dX5_least_132 (by decide) ?_
                        exact ih x_63 v_47 (g_46) _ _ _ (hP.sub [0, 1, 2, 3] rfl) (hD.sub [0, 1, 2, 3] (by decide) rfl) hS (lv_sub hl [0, 2, 3, 4, 5, 6, 7, 8] rfl) hbv_47 (show zKn kq aq tq wn.toInt.toNat wh.toInt (fc 0).toInt (fc 1).toInt (fc 2).toInt wg.toInt g_46 from by exact hvi_85_0) (show (v_47 : Int32).toInt = zFi tq d.toInt sec.toInt (zPw 3 * zAt (fc 1).toInt (fc 2).toInt sec.toInt) (zLv (zLn kq aq tq wn.toInt.toNat wh.toInt (fc 0).toInt (fc 1).toInt (fc 2).toInt 2) kq aq tq (fc 0).toInt (zPw 3) wh.toInt d.toInt sec.toInt) x_63.toInt.toNat from by (have hx : x_63.toInt.toNat = i_85.toInt.toNat + 1 := (by omega); have y4 := hn_56; have y9 : i_85.toNatClampNeg = i_85.toInt.toNat := rfl; rw [y9] at y4; rw [hx, zFi_n (fun z => y4 ⟨z.1, z.2, Or.inl (by omega)⟩)]; exact hvi_85_1)) (show x_63.toInt ≤ wn.toInt from by omega) (dw_lo hloi_85 qx_63) (dw_hn hni_85 qx_63)
                      · exfalso; omega
                      · refine lv_astoreN (lv' := [(8, .null), (7, .int i_85), (6, .int v_47), (5, .int x_39), (4, .int 1), (0, .ref w0), (1, .int 3), (2, .int d), (3, .int sec)]) hx hb dX5_least_106 hl (by decide) rfl (fun ls hl => ?_)
                        refine lv_aloadN hx hb dX5_least_108 (lv_at hl 0 rfl) ?_
                        refine lv_ifnullN (tgt := 129) hx hb dX5_least_110 (by decide) ?_
                        obtain ⟨x_64, ex_64⟩ : ∃ y : Int32, y = i_85 + 1 := ⟨_, rfl⟩
                        have qx_64 : x_64.toInt = i_85.toInt + 1 := dw_inc ex_64 fc_51
                        refine lv_iinc (v := x_64) (lv' := [(7, .int x_64), (8, .null), (6, .int v_47), (5, .int x_39), (4, .int 1), (0, .ref w0), (1, .int 3), (2, .int d), (3, .int sec)]) hx hb dX5_least_129 hl (k := 1) rfl ex_64.symm (by decide) rfl (fun ls hl => ?_)
                        refine lv_goto (tgt := 85) hx hb dX5_least_132 (by decide) ?_
                        exact ih x_64 v_47 (g_46) _ _ _ (hP.sub [0, 1, 2, 3] rfl) (hD.sub [0, 1, 2, 3] (by decide) rfl) hS (lv_sub hl [0, 2, 3, 4, 5, 6, 7, 8] rfl) hbv_47 (show zKn kq aq tq wn.toInt.toNat wh.toInt (fc 0).toInt (fc 1).toInt (fc 2).toInt wg.toInt g_46 from by exact hvi_85_0) (show (v_47 : Int32).toInt = zFi tq d.toInt sec.toInt (zPw 3 * zAt (fc 1).toInt (fc 2).toInt sec.toInt) (zLv (zLn kq aq tq wn.toInt.toNat wh.toInt (fc 0).toInt (fc 1).toInt (fc 2).toInt 2) kq aq tq (fc 0).toInt (zPw 3) wh.toInt d.toInt sec.toInt) x_64.toInt.toNat from by (have hx : x_64.toInt.toNat = i_85.toInt.toNat + 1 := (by omega); have y4 := hn_60; have y9 : i_85.toNatClampNeg = i_85.toInt.toNat := rfl; rw [y9] at y4; rw [hx, zFi_n (fun z => y4 ⟨z.1, z.2, Or.inl (by omega)⟩)]; exact hvi_85_1)) (show x_64.toInt ≤ wn.toInt from by omega) (dw_lo hloi_85 qx_64) (dw_hn hni_85 qx_64)
                      · refine W.eq (g2 := F0 m 106 ls (.ref u_62 :: [])) rfl ?_
                        obtain ⟨hku_62, hau_62, htu_62⟩ := zPu_pr (hZ.kept hS) huu_62
                        refine lv_astore (lv' := [(8, .ref u_62), (7, .int i_85), (6, .int v_47), (5, .int x_39), (4, .int 1), (0, .ref w0), (1, .int 3), (2, .int d), (3, .int sec)]) hx hb dX5_least_106 hl (by decide) rfl (fun ls hl => ?_)
                        refine lv_aload hx hb dX5_least_108 (lv_at hl 0 rfl) ?_
                        refine lv_ifnull hx hb dX5_least_110 ?_
                        refine lv_iload hx hb dX5_least_113 (lv_at hl 2 rfl) ?_
                        refine lv_aload_n hx hb dX5_least_115 rfl (lv_at hl 5 rfl) ?_
                        refine lv_aload hx hb dX5_least_116 (lv_at hl 0 rfl) ?_
                        refine lv_iload_n hx hb dX5_least_118 rfl (lv_at hl 6 rfl) ?_
                        refine lv_iload_n hx hb dX5_least_119 rfl (lv_at hl 7 rfl) ?_
                        refine lv_iload_n hx hb dX5_least_120 rfl (lv_at hl 8 rfl) ?_
                        have tsu_62 : tu_62.toInt ≤ sec.toInt := by (obtain ⟨⟨y1, y2, y3⟩, y4⟩ := hkku_62; have z := y4.2.1; rw [y3]; exact z)
                        skip
                        refine zw_V (As := [.ref u_62, .int 3, .int d, .int sec]) (rest := [.int v_47]) (wr := []) ⟨hx, hb, hml, hown, hts⟩ (c_F_W_leastBy_3 l D cI cJ cZ cP cS po w0 wk wl wc wp (wn) (wh) (wg) fq kq aq tq (tw) g_46 fc (d) (sec) u_62 (kiu_62) (au_62) (tu_62) huu_62 ⟨by omega, by omega, by omega, by omega⟩ hy0 hy1 hy2 hy3 hy4 hy5 hjw (by first | assumption | omega) (by first | assumption | omega) (by first | assumption | omega | decide) hy10 hy11 hy12 hy13 (by omega) hp_fc H.size) (cwV 4 hts gX5_least_X5_leastBy rfl rfl rfl ⟨rfl, dh_X5_leastBy⟩ ⟨Nat.le_of_ble_eq_true rfl, Nat.le_of_ble_eq_true rfl⟩) hK hN (hZ.kept hS) hP hD hS hA [0, 1, 2, 3] [] rfl rfl (by decide) (by decide) (by decide) (va_recv (q := (RX5, TX5, 7)) hK hP (ci := 5) (q0 := 0) rfl rfl) rfl hl.1 rfl (Nat.le_of_ble_eq_true rfl) dX5_least_121 ⟨Nat.le_of_ble_eq_true rfl, Nat.le_of_ble_eq_true rfl⟩ (fun r_65 u_66 H locs hr_65 hP hD hS => ?_)
                        obtain ⟨q_67, rfl⟩ : ∃ z, z = u_66 := ⟨_, rfl⟩
                        obtain ⟨hsr_65_0, hsr_65_1, hr_65⟩ := hr_65
                        have h9R := zRe (ws' := [(w0, .inr (5, [.ref wk, .ref wl, .ref wc, .ref wp, .int wn, .int wh, .int wg])), (wl, .inl (cI, 125, .inl q_67)), (wc, .inl (cI, 3, .inl fc)), (wp, .inl (cP, 8, .inr (.inr (.inr (.inr fq)))))]) hP hD rfl
                        clear hP hD
                        obtain ⟨hP, hD⟩ := h9R
                        obtain ⟨g_68, g_69⟩ := hr_65
                        refine va_mmin hx hb (hml.trans hl.1.symm) hown (hts (.methodLink RX5 110 Lib.Math.min.name) (List.mem_of_getElem? (i := 4) rfl)) (hts _ (List.mem_of_getElem? (i := 5) rfl)) (hts _ (List.mem_of_getElem? (i := 6) rfl)) (hts _ (List.mem_of_getElem? (i := 7) rfl)) (Nat.le_of_ble_eq_true rfl) (Nat.le_of_ble_eq_true rfl) (Nat.le_of_ble_eq_true rfl) (Nat.le_of_ble_eq_true rfl) dX5_least_124 ?_
                        refine lv_topi (fun x_70 ex_70 => ?_)
                        have qx_70 := zf_min ex_70 (x1 := v_47.toInt) (y1 := r_65.toInt) rfl rfl
                        refine lv_istore (lv' := [(6, .int x_70), (8, .ref u_62), (7, .int i_85), (5, .int x_39), (4, .int 1), (0, .ref w0), (1, .int 3), (2, .int d), (3, .int sec)]) hx hb dX5_least_127 hl (by decide) rfl (fun ls hl => ?_)
                        obtain ⟨x_71, ex_71⟩ : ∃ y : Int32, y = i_85 + 1 := ⟨_, rfl⟩
                        have qx_71 : x_71.toInt = i_85.toInt + 1 := dw_inc ex_71 fc_51
                        refine lv_iinc (v := x_71) (lv' := [(7, .int x_71), (6, .int x_70), (8, .ref u_62), (5, .int x_39), (4, .int 1), (0, .ref w0), (1, .int 3), (2, .int d), (3, .int sec)]) hx hb dX5_least_129 hl (k := 2) rfl ex_71.symm (by decide) rfl (fun ls hl => ?_)
                        refine lv_goto (tgt := 85) hx hb dX5_least_132 (by decide) ?_
                        exact ih x_71 x_70 (q_67) _ _ _ (hP.sub [0, 1, 2, 3] rfl) (hD.sub [0, 1, 2, 3] (by decide) rfl) hS (lv_sub hl [0, 1, 3, 4, 5, 6, 7, 8] rfl) ⟨by omega, by omega⟩ (show zKn kq aq tq wn.toInt.toNat wh.toInt (fc 0).toInt (fc 1).toInt (fc 2).toInt wg.toInt q_67 from by exact hsr_65_0) (show (x_70 : Int32).toInt = zFi tq d.toInt sec.toInt (zPw 3 * zAt (fc 1).toInt (fc 2).toInt sec.toInt) (zLv (zLn kq aq tq wn.toInt.toNat wh.toInt (fc 0).toInt (fc 1).toInt (fc 2).toInt 2) kq aq tq (fc 0).toInt (zPw 3) wh.toInt d.toInt sec.toInt) x_71.toInt.toNat from by (have hx : x_71.toInt.toNat = i_85.toInt.toNat + 1 := (by omega); obtain ⟨⟨y1, y2, y3⟩, y4⟩ := hkku_62; have y9 : i_85.toNatClampNeg = i_85.toInt.toNat := rfl; rw [y9] at y1 y2 y3 y4; rw [hx, zFi_y ⟨y4.1, y4.2.1⟩, ← hvi_85_1]; have zr := hsr_65_1; rw [y1, y2, y3] at zr; have zr2 : r_65.toInt = (zLv (zLn kq aq tq wn.toInt.toNat wh.toInt (fc 0).toInt (fc 1).toInt (fc 2).toInt 2) kq aq tq (fc 0).toInt (zPw 3) wh.toInt d.toInt sec.toInt) i_85.toInt.toNat := zr; omega)) (show x_71.toInt ≤ wn.toInt from by omega) (dw_lo hloi_85 qx_71) (dw_hn hni_85 qx_71)
              · have fc_42 : x_41.toInt ≠ (-1) := zf_ne c_42 rfl (by decide)
                refine lv_aload_n hx hb dX5_least_66 rfl (lv_at hl 2 rfl) ?_
                refine va_get (D := D) (ci := 5) (v := .ref wl) (C := RX5) (T := TX5) (N := 7) hx hb hts hi_X5_least_5 hown hK hP 0 rfl rfl 1 (by decide) (hts (.fieldLink RX5 15 "TheLiningsInIt$Ways" "knownLeast" "[I") (List.mem_of_getElem? (i := 2) rfl)) (fun _ h9 => h9) rfl dX5_least_67 ?_
                refine lv_iload hx hb dX5_least_70 (lv_at hl 0 rfl) ?_
                refine va_iald hx hb hK hP 1 0 rfl rfl (zf_in (by omega) (by omega)) dX5_least_72 ?_
                refine lv_topi (fun y_72 ey_72 => ?_)
                obtain rfl : x_41 = y_72 := ex_41.trans ey_72.symm
                have hmx_41 : x_41.toInt = (zLn kq aq tq wn.toInt.toNat wh.toInt (fc 0).toInt (fc 1).toInt (fc 2).toInt 3) d.toInt sec.toInt := by (have zn : (fl x_39.toNatClampNeg).toInt ≠ -1 := (by rw [← ex_41]; omega); rw [ex_41]; exact zKn_at (m := 3) hkn (by decide) (by omega) ⟨by omega, by omega⟩ (by omega) zn)
                have hrx_41 := zLn_rg (K := kq) (A := aq) (T := tq) (N := wn.toInt.toNat) (h := wh.toInt) (hp_fc 0) (hp_fc 1) (hp_fc 2) 3 d.toInt sec.toInt
                rw [← hmx_41, show zPw 3 = 1728 from by decide] at hrx_41
                exact W.iret (v := x_41) hx hb hr (fun t ht hW => ⟨⟨x_41, fl, rfl, ⟨(show zKn kq aq tq wn.toInt.toNat wh.toInt (fc 0).toInt (fc 1).toInt (fc 2).toInt wg.toInt fl from by exact hkn), (show (x_41 : Int32).toInt = (zLn kq aq tq wn.toInt.toNat wh.toInt (fc 0).toInt (fc 1).toInt (fc 2).toInt 3) d.toInt sec.toInt from by exact hmx_41), ⟨by omega, by omega⟩⟩, zRet ht hP hD [0, 1, 2, 3] (by decide) rfl⟩, hS.F ht⟩) hS.2.2 dX5_least_73
        · exfalso; have fc_4 : 24 < d.toInt := zf_nle c_4 rfl (by decide); omega
set_option maxHeartbeats 4000000 in
set_option maxRecDepth 100000 in
theorem c_F_W_leastBy_4 (l : Launch) (D : va_G) (cI cJ cZ cP cS : ClassId) (po : zPool) (w0 wk wl wc wp : Nat) (wn wh wg : Int32) (fq : Nat → Option Nat) (kq aq tq : Nat → Int32) (tw : Int32) (fl fc : Nat → Int32) (d sec : Int32) (u0 : Nat) (ki a_ ta : Int32) (hu_u0 : zPu po u0 ki a_ ta) (hr_u0 : zPr ki a_ ta) (hy2 : 0 ≤ wn.toInt) (hy3 : wn.toInt ≤ 8) (hy4 : 0 ≤ wh.toInt) (hy5 : wh.toInt ≤ 9) (hy6 : 0 ≤ wg.toInt) (hy7 : wg.toInt ≤ 60) (hjw : zJW po fq wn kq aq tq tw) (hkn : zKn kq aq tq wn.toInt.toNat wh.toInt (fc 0).toInt (fc 1).toInt (fc 2).toInt wg.toInt fl) (hgl : (∀ p : Nat, p < wn.toInt.toNat → (tq p).toInt ≤ wg.toInt)) (htw : tw.toInt = 1) (hy12 : 0 ≤ d.toInt) (hy13 : d.toInt ≤ 24) (hy14 : 0 ≤ sec.toInt) (hy15 : sec.toInt ≤ 300) (hy16 : ta.toInt ≤ sec.toInt) (hp_fc : zRg fc (0) 99) (hpz : Nat) : Met l yX5_leastBy wsX5_leastBy ({ frames := 9, cells := 0, slots := 0, locals := 236 }) (va_Pc [.ref w0, .ref u0, .int 4, .int d, .int sec] (zW D (zKT cI cJ cZ cP cS) po [(w0, .inr (5, [.ref wk, .ref wl, .ref wc, .ref wp, .int wn, .int wh, .int wg])), (wl, .inl (cI, 125, .inl fl)), (wc, .inl (cI, 3, .inl fc)), (wp, .inl (cP, 8, .inr (.inr (.inr (.inr fq)))))] hpz)) (va_Qi (fun (r : Int32) (fl2 : (Nat → Int32)) => (zKn kq aq tq wn.toInt.toNat wh.toInt (fc 0).toInt (fc 1).toInt (fc 2).toInt wg.toInt fl2) ∧ (r.toInt = zLb (zLn kq aq tq wn.toInt.toNat wh.toInt (fc 0).toInt (fc 1).toInt (fc 2).toInt 3) (fc 0).toInt (zPw 4) ki.toInt a_.toInt ta.toInt wh.toInt d.toInt sec.toInt) ∧ (0 ≤ r.toInt ∧ r.toInt ≤ 4105728)) (zB D [(w0, .inr (5, [.ref wk, .ref wl, .ref wc, .ref wp, .int wn, .int wh, .int wg])), (wl, .inl (cI, 125, .inl fl)), (wc, .inl (cI, 3, .inl fc)), (wp, .inl (cP, 8, .inr (.inr (.inr (.inr fq)))))] hpz (fun (fl2 : Nat → Int32) => [(w0, .inr (5, [.ref wk, .ref wl, .ref wc, .ref wp, .int wn, .int wh, .int wg])), (wl, .inl (cI, 125, .inl fl2)), (wc, .inl (cI, 3, .inl fc)), (wp, .inl (cP, 8, .inr (.inr (.inr (.inr fq)))))])) (va_A [(w0, .inr (5, [.ref wk, .ref wl, .ref wc, .ref wp, .int wn, .int wh, .int wg])), (wl, .inl (cI, 125, .inl fl)), (wc, .inl (cI, 3, .inl fc)), (wp, .inl (cP, 8, .inr (.inr (.inr (.inr fq)))))] hpz)) 0 0 (va_A [(w0, .inr (5, [.ref wk, .ref wl, .ref wc, .ref wp, .int wn, .int wh, .int wg])), (wl, .inl (cI, 125, .inl fl)), (wc, .inl (cI, 3, .inl fc)), (wp, .inl (cP, 8, .inr (.inr (.inr (.inr fq)))))] hpz) := by
  refine Met.ofW (cc := cX5_leastBy) (maxL := 8) (ret := (some .int)) (by decide) rfl ?_
  intro p e s m args below meth c s₁ B hml hv
  obtain ⟨rfl, hsz, hP, hK, hD0, hN, hZ⟩ := hv
  have hx := B.exec
  have hb := B.bytes
  have hr := B.returns
  have hts := atoms_spec (ws := wsX5_leastBy) B.pre
  have hown : s.vm.findClass RX5 = some m.cls := findClass_of_methodNamed B.named
  have hlocks := B.notSynchronized
  subst hsz
  have hD := hD0.self (sz := s.heap.size)
  have hA := zA_of hD
  have hl := lv_entry ([.ref w0, .ref u0, .int 4, .int d, .int sec]) (n := 8) (Nat.le_of_ble_eq_true rfl)
  rw [lg_entry_eq]
  generalize (lg_sl ([.ref w0, .ref u0, .int 4, .int d, .int sec]) ++ List.replicate (8 - (lg_sl ([.ref w0, .ref u0, .int 4, .int d, .int sec])).length) Slot.unset).toArray = ls at hl ⊢
  replace hl : lv_has ls 8 [(0, .ref w0), (1, .ref u0), (2, .int 4), (3, .int d), (4, .int sec)] := hl
  refine zw_begin hP hD (fun H locs hP1 hS => ?_)
  clear hP
  have hP := hP1
  clear hP1
  obtain ⟨⟨p1_u0, p2_u0⟩, ⟨p3_u0, p4_u0⟩, p5_u0, p6_u0⟩ := id hr_u0
  refine lv_aload_n hx hb dX5_leastBy_0 rfl (lv_at hl 1 rfl) ?_
  refine lv_iload_n hx hb dX5_leastBy_1 rfl (lv_at hl 3 rfl) ?_
  refine lv_aload_n hx hb dX5_leastBy_2 rfl (lv_at hl 0 rfl) ?_
  refine va_get (D := D) (ci := 5) (v := .int wh) (C := RX5) (T := TX5) (N := 7) hx hb hts hi_X5_leastBy_5 hown hK hP 0 rfl rfl 5 (by decide) (hts (.fieldLink RX5 31 "TheLiningsInIt$Ways" "hurry" "I") (List.mem_of_getElem? (i := 1) rfl)) (fun _ h9 => h9) rfl dX5_leastBy_3 ?_
  refine zc_V (As := [.int d, .int wh]) (rest := []) ⟨hx, hb, hml, hown, hts⟩ (c_F_Pull_waysAt l D cI cJ cZ cP cS po (d) (wh) u0 (ki) (a_) (ta) hu_u0 ⟨by omega, by omega, by omega, by omega⟩ hy12 hy13 hy4 hy5) (cwV 2 hts gX5_leastBy_X2_waysAt rfl rfl rfl ⟨rfl, dh_X2_waysAt⟩ ⟨Nat.le_of_ble_eq_true rfl, Nat.le_of_ble_eq_true rfl⟩) hK hN (hZ.kept hS) hP zP_nil (va_recv (q := (RX2, TX2, 3)) hK (zPu_P (hZ.kept hS) hu_u0) (ci := 2) (q0 := 0) rfl rfl) rfl hl.1 rfl (Nat.le_of_ble_eq_true rfl) dX5_leastBy_6 ⟨Nat.le_of_ble_eq_true rfl, Nat.le_of_ble_eq_true rfl⟩ (fun r_1 hr_1 => ?_)
  obtain ⟨g_2, g_3, hsr_1_0⟩ := hr_1
  refine lv_istore (lv' := [(5, .int r_1), (0, .ref w0), (1, .ref u0), (2, .int 4), (3, .int d), (4, .int sec)]) hx hb dX5_leastBy_9 hl (by decide) rfl (fun ls hl => ?_)
  refine lv_iload hx hb dX5_leastBy_11 (lv_at hl 5 rfl) ?_
  refine lv_aload_n hx hb dX5_leastBy_13 rfl (lv_at hl 2 rfl) ?_
  refine va_get (D := D) (ci := 2) (v := .int ta) (C := RX2) (T := TX2) (N := 3) hx hb hts hi_X5_leastBy_2 hown hK (zPu_P (hZ.kept hS) hu_u0) 0 rfl rfl 2 (by decide) (hts (.fieldLink RX5 49 "TheLiningsInIt$Pull" "takes" "I") (List.mem_of_getElem? (i := 2) rfl)) (fun _ h9 => h9) rfl dX5_leastBy_14 ?_
  refine lv_isub hx hb dX5_leastBy_17 ?_
  refine lv_topi (fun x_4 ex_4 => ?_)
  have qx_4 : x_4.toInt = sec.toInt - ta.toInt := by rw [ex_4]; exact zf_sub rfl rfl (by omega) (by omega)
  refine lv_istore (lv' := [(6, .int x_4), (5, .int r_1), (0, .ref w0), (1, .ref u0), (2, .int 4), (3, .int d), (4, .int sec)]) hx hb dX5_leastBy_18 hl (by decide) rfl (fun ls hl => ?_)
  refine lv_aload_n hx hb dX5_leastBy_20 rfl (lv_at hl 3 rfl) ?_
  refine va_get (D := D) (ci := 2) (v := .int ki) (C := RX2) (T := TX2) (N := 3) hx hb hts hi_X5_leastBy_2 hown hK (zPu_P (hZ.kept hS) hu_u0) 0 rfl rfl 0 (by decide) (hts (.fieldLink RX5 46 "TheLiningsInIt$Pull" "kind" "I") (List.mem_of_getElem? (i := 3) rfl)) (fun _ h9 => h9) rfl dX5_leastBy_21 ?_
  refine lv_iconst (v := 5) hx hb dX5_leastBy_24 (by decide) ?_
  refine lv_icmp_ne (tgt := 43) hx hb dX5_leastBy_25 (by decide) (fun c_5 => ?_) (fun c_5 => ?_)
  · have fc_5 : ki.toInt ≠ 5 := zf_ne c_5 rfl (by decide)
    refine lv_iconst (v := 0) hx hb dX5_leastBy_43 (by decide) ?_
    refine lv_istore (lv' := [(7, .int 0), (6, .int x_4), (5, .int r_1), (0, .ref w0), (1, .ref u0), (2, .int 4), (3, .int d), (4, .int sec)]) hx hb dX5_leastBy_44 hl (by decide) rfl (fun ls hl => ?_)
    refine lv_iload hx hb dX5_leastBy_46 (lv_at hl 2 rfl) ?_
    refine lv_if_le (tgt := 73) hx hb dX5_leastBy_48 (by decide) (fun c_6 => ?_) (fun c_6 => ?_)
    · have fc_6 : r_1.toInt ≤ 0 := zf_le c_6 rfl (by decide)
      refine lv_iload hx hb dX5_leastBy_73 (lv_at hl 2 rfl) ?_
      refine lv_bipush (v := 12) hx hb dX5_leastBy_75 (by decide) ?_
      refine lv_icmp_ge (tgt := 109) hx hb dX5_leastBy_77 (by decide) (fun c_7 => ?_) (fun c_7 => ?_)
      · exfalso; have fc_7 : 12 ≤ r_1.toInt := zf_le c_7 (by decide) rfl; omega
      · have fc_7 : r_1.toInt < 12 := zf_nle c_7 (by decide) rfl
        refine lv_iload hx hb dX5_leastBy_80 (lv_at hl 0 rfl) ?_
        refine lv_bipush (v := 12) hx hb dX5_leastBy_82 (by decide) ?_
        refine lv_iload hx hb dX5_leastBy_84 (lv_at hl 2 rfl) ?_
        refine lv_isub hx hb dX5_leastBy_86 ?_
        refine lv_topi (fun x_8 ex_8 => ?_)
        have qx_8 : x_8.toInt = 12 - r_1.toInt := by rw [ex_8]; exact zf_sub (by decide) rfl (by omega) (by omega)
        refine lv_aload_n hx hb dX5_leastBy_87 rfl (lv_at hl 3 rfl) ?_
        refine lv_iload_n hx hb dX5_leastBy_88 rfl (lv_at hl 5 rfl) ?_
        refine lv_iconst (v := 1) hx hb dX5_leastBy_89 (by decide) ?_
        refine lv_isub hx hb dX5_leastBy_90 ?_
        refine lv_topi (fun y_9 ey_9 => ?_)
        obtain rfl : y_9 = 3 := ey_9.trans (by decide)
        refine lv_aload_n hx hb dX5_leastBy_91 rfl (lv_at hl 4 rfl) ?_
        refine lv_iload_n hx hb dX5_leastBy_92 rfl (lv_at hl 6 rfl) ?_
        refine lv_aload_n hx hb dX5_leastBy_93 rfl (lv_at hl 3 rfl) ?_
        refine va_get (D := D) (ci := 5) (v := .int wh) (C := RX5) (T := TX5) (N := 7) hx hb hts hi_X5_leastBy_5 hown hK hP 0 rfl rfl 5 (by decide) (hts (.fieldLink RX5 31 "TheLiningsInIt$Ways" "hurry" "I") (List.mem_of_getElem? (i := 1) rfl)) (fun _ h9 => h9) rfl dX5_leastBy_94 ?_
        refine zc_V (As := [.int d, .int wh]) (rest := [.int 3, .ref w0, .int x_8, .int 0]) ⟨hx, hb, hml, hown, hts⟩ (c_F_Pull_deeper l D cI cJ cZ cP cS po (d) (wh) u0 (ki) (a_) (ta) hu_u0 ⟨by omega, by omega, by omega, by omega⟩ hy12 hy13 hy4 hy5) (cwV 2 hts gX5_leastBy_X2_deeper rfl rfl rfl ⟨rfl, dh_X2_deeper⟩ ⟨Nat.le_of_ble_eq_true rfl, Nat.le_of_ble_eq_true rfl⟩) hK hN (hZ.kept hS) hP zP_nil (va_recv (q := (RX2, TX2, 3)) hK (zPu_P (hZ.kept hS) hu_u0) (ci := 2) (q0 := 0) rfl rfl) rfl hl.1 rfl (Nat.le_of_ble_eq_true rfl) dX5_leastBy_97 ⟨Nat.le_of_ble_eq_true rfl, Nat.le_of_ble_eq_true rfl⟩ (fun r_10 hr_10 => ?_)
        obtain ⟨g_11, g_12, hsr_10_0⟩ := hr_10
        refine lv_iload hx hb dX5_leastBy_100 (lv_at hl 1 rfl) ?_
        skip
        refine zw_V (As := [.int 3, .int r_10, .int x_4]) (rest := [.int x_8, .int 0]) (wr := []) ⟨hx, hb, hml, hown, hts⟩ (c_F_W_least_3 l D cI cJ cZ cP cS po w0 wk wl wc wp (wn) (wh) (wg) fq kq aq tq (tw) fl fc (r_10) (x_4) hy2 hy3 hy4 hy5 hy6 hy7 hjw (by first | assumption | omega) (by first | assumption | omega) (by first | assumption | omega | decide) (by omega) (by omega) (by omega) (by omega) hp_fc H.size) (cwV 3 hts gX5_leastBy_X5_least rfl rfl rfl ⟨rfl, dh_X5_least⟩ ⟨Nat.le_of_ble_eq_true rfl, Nat.le_of_ble_eq_true rfl⟩) hK hN (hZ.kept hS) hP hD hS hA [0, 1, 2, 3] [] rfl rfl (by decide) (by decide) (by decide) (va_recv (q := (RX5, TX5, 7)) hK hP (ci := 5) (q0 := 0) rfl rfl) rfl hl.1 rfl (Nat.le_of_ble_eq_true rfl) dX5_leastBy_102 ⟨Nat.le_of_ble_eq_true rfl, Nat.le_of_ble_eq_true rfl⟩ (fun r_13 u_14 H locs hr_13 hP hD hS => ?_)
        obtain ⟨q_15, rfl⟩ : ∃ z, z = u_14 := ⟨_, rfl⟩
        obtain ⟨hsr_13_0, hsr_13_1, hr_13⟩ := hr_13
        have h9R := zRe (ws' := [(w0, .inr (5, [.ref wk, .ref wl, .ref wc, .ref wp, .int wn, .int wh, .int wg])), (wl, .inl (cI, 125, .inl q_15)), (wc, .inl (cI, 3, .inl fc)), (wp, .inl (cP, 8, .inr (.inr (.inr (.inr fq)))))]) hP hD rfl
        clear hP hD
        obtain ⟨hP, hD⟩ := h9R
        obtain ⟨g_16, g_17⟩ := hr_13
        refine lv_imul hx hb dX5_leastBy_105 ?_
        refine lv_topi (fun x_18 ex_18 => ?_)
        obtain ⟨mx_18, nx_18, ox_18⟩ := zf_mulc (a := x_8) (b := r_13) (x := x_8.toInt) (y := r_13.toInt) (P := 171072) rfl rfl ⟨by omega, by omega⟩ ⟨by omega, by omega⟩ (by decide)
        rw [← ex_18] at mx_18
        refine lv_iadd hx hb dX5_leastBy_106 ?_
        refine lv_topi (fun x_19 ex_19 => ?_)
        have qx_19 : x_19.toInt = 0 + x_18.toInt := by rw [ex_19]; exact zf_add (by decide) rfl (by omega) (by omega)
        refine lv_istore (lv' := [(7, .int x_19), (6, .int x_4), (5, .int r_1), (0, .ref w0), (1, .ref u0), (2, .int 4), (3, .int d), (4, .int sec)]) hx hb dX5_leastBy_107 hl (by decide) rfl (fun ls hl => ?_)
        refine lv_iload hx hb dX5_leastBy_109 (lv_at hl 0 rfl) ?_
        exact W.iret (v := x_19) hx hb hr (fun t ht hW => ⟨⟨x_19, q_15, rfl, ⟨(show zKn kq aq tq wn.toInt.toNat wh.toInt (fc 0).toInt (fc 1).toInt (fc 2).toInt wg.toInt q_15 from by first | exact hsr_13_0 | assumption), (show (x_19 : Int32).toInt = zLb (zLn kq aq tq wn.toInt.toNat wh.toInt (fc 0).toInt (fc 1).toInt (fc 2).toInt 3) (fc 0).toInt (zPw 4) ki.toInt a_.toInt ta.toInt wh.toInt d.toInt sec.toInt from by (have zw := hsr_1_0; have E1 : r_1.toInt * (zLn kq aq tq wn.toInt.toNat wh.toInt (fc 0).toInt (fc 1).toInt (fc 2).toInt 3) (zShl ki.toInt a_.toInt d.toInt) (sec.toInt - ta.toInt) = 0 := (by rw [show r_1.toInt = 0 from by omega, Int.zero_mul]); have E2 : (12 - r_1.toInt) * (zLn kq aq tq wn.toInt.toNat wh.toInt (fc 0).toInt (fc 1).toInt (fc 2).toInt 3) (zDpr ki.toInt a_.toInt wh.toInt d.toInt) (sec.toInt - ta.toInt) = x_18.toInt := (by rw [← hsr_10_0, show sec.toInt - ta.toInt = (x_4 : Int32).toInt from by omega, ← hsr_13_1, show 12 - r_1.toInt = x_8.toInt from by omega]; omega); unfold zLb zBy1; rw [← zw, E1, E2, show zPw 4 = 20736 from by decide]; first | (rw [if_neg (by omega)]; omega) | (rw [if_pos (by omega)]; omega))), ⟨by omega, by omega⟩⟩, zRet ht hP hD [0, 1, 2, 3] (by decide) rfl⟩, hS.F ht⟩) hS.2.2 dX5_leastBy_111
    · have fc_6 : 0 < r_1.toInt := zf_nle c_6 rfl (by decide)
      refine lv_iload hx hb dX5_leastBy_51 (lv_at hl 0 rfl) ?_
      refine lv_iload hx hb dX5_leastBy_53 (lv_at hl 2 rfl) ?_
      refine lv_aload_n hx hb dX5_leastBy_55 rfl (lv_at hl 3 rfl) ?_
      refine lv_iload_n hx hb dX5_leastBy_56 rfl (lv_at hl 5 rfl) ?_
      refine lv_iconst (v := 1) hx hb dX5_leastBy_57 (by decide) ?_
      refine lv_isub hx hb dX5_leastBy_58 ?_
      refine lv_topi (fun y_20 ey_20 => ?_)
      obtain rfl : y_20 = 3 := ey_20.trans (by decide)
      refine lv_aload_n hx hb dX5_leastBy_59 rfl (lv_at hl 4 rfl) ?_
      refine lv_iload_n hx hb dX5_leastBy_60 rfl (lv_at hl 6 rfl) ?_
      refine zc_V (As := [.int d]) (rest := [.int 3, .ref w0, .int r_1, .int 0]) ⟨hx, hb, hml, hown, hts⟩ (c_F_Pull_shallower l D cI cJ cZ cP cS po (d) u0 (ki) (a_) (ta) hu_u0 ⟨by omega, by omega, by omega, by omega⟩ hy12 hy13) (cwV 1 hts gX5_leastBy_X2_shallower rfl rfl rfl ⟨rfl, dh_X2_shallower⟩ ⟨Nat.le_of_ble_eq_true rfl, Nat.le_of_ble_eq_true rfl⟩) hK hN (hZ.kept hS) hP zP_nil (va_recv (q := (RX2, TX2, 3)) hK (zPu_P (hZ.kept hS) hu_u0) (ci := 2) (q0 := 0) rfl rfl) rfl hl.1 rfl (Nat.le_of_ble_eq_true rfl) dX5_leastBy_61 ⟨Nat.le_of_ble_eq_true rfl, Nat.le_of_ble_eq_true rfl⟩ (fun r_21 hr_21 => ?_)
      obtain ⟨g_22, g_23, hsr_21_0⟩ := hr_21
      refine lv_iload hx hb dX5_leastBy_64 (lv_at hl 1 rfl) ?_
      skip
      refine zw_V (As := [.int 3, .int r_21, .int x_4]) (rest := [.int r_1, .int 0]) (wr := []) ⟨hx, hb, hml, hown, hts⟩ (c_F_W_least_3 l D cI cJ cZ cP cS po w0 wk wl wc wp (wn) (wh) (wg) fq kq aq tq (tw) fl fc (r_21) (x_4) hy2 hy3 hy4 hy5 hy6 hy7 hjw (by first | assumption | omega) (by first | assumption | omega) (by first | assumption | omega | decide) (by omega) (by omega) (by omega) (by omega) hp_fc H.size) (cwV 3 hts gX5_leastBy_X5_least rfl rfl rfl ⟨rfl, dh_X5_least⟩ ⟨Nat.le_of_ble_eq_true rfl, Nat.le_of_ble_eq_true rfl⟩) hK hN (hZ.kept hS) hP hD hS hA [0, 1, 2, 3] [] rfl rfl (by decide) (by decide) (by decide) (va_recv (q := (RX5, TX5, 7)) hK hP (ci := 5) (q0 := 0) rfl rfl) rfl hl.1 rfl (Nat.le_of_ble_eq_true rfl) dX5_leastBy_66 ⟨Nat.le_of_ble_eq_true rfl, Nat.le_of_ble_eq_true rfl⟩ (fun r_24 u_25 H locs hr_24 hP hD hS => ?_)
      obtain ⟨q_26, rfl⟩ : ∃ z, z = u_25 := ⟨_, rfl⟩
      obtain ⟨hsr_24_0, hsr_24_1, hr_24⟩ := hr_24
      have h9R := zRe (ws' := [(w0, .inr (5, [.ref wk, .ref wl, .ref wc, .ref wp, .int wn, .int wh, .int wg])), (wl, .inl (cI, 125, .inl q_26)), (wc, .inl (cI, 3, .inl fc)), (wp, .inl (cP, 8, .inr (.inr (.inr (.inr fq)))))]) hP hD rfl
      clear hP hD
      obtain ⟨hP, hD⟩ := h9R
      obtain ⟨g_27, g_28⟩ := hr_24
      refine lv_imul hx hb dX5_leastBy_69 ?_
      refine lv_topi (fun x_29 ex_29 => ?_)
      obtain ⟨mx_29, nx_29, ox_29⟩ := zf_mulc (a := r_1) (b := r_24) (x := r_1.toInt) (y := r_24.toInt) (P := 171072) rfl rfl ⟨by omega, by omega⟩ ⟨by omega, by omega⟩ (by decide)
      rw [← ex_29] at mx_29
      refine lv_iadd hx hb dX5_leastBy_70 ?_
      refine lv_topi (fun x_30 ex_30 => ?_)
      have qx_30 : x_30.toInt = 0 + x_29.toInt := by rw [ex_30]; exact zf_add (by decide) rfl (by omega) (by omega)
      refine lv_istore (lv' := [(7, .int x_30), (6, .int x_4), (5, .int r_1), (0, .ref w0), (1, .ref u0), (2, .int 4), (3, .int d), (4, .int sec)]) hx hb dX5_leastBy_71 hl (by decide) rfl (fun ls hl => ?_)
      refine lv_iload hx hb dX5_leastBy_73 (lv_at hl 2 rfl) ?_
      refine lv_bipush (v := 12) hx hb dX5_leastBy_75 (by decide) ?_
      refine lv_icmp_ge (tgt := 109) hx hb dX5_leastBy_77 (by decide) (fun c_31 => ?_) (fun c_31 => ?_)
      · have fc_31 : 12 ≤ r_1.toInt := zf_le c_31 (by decide) rfl
        refine lv_iload hx hb dX5_leastBy_109 (lv_at hl 0 rfl) ?_
        exact W.iret (v := x_30) hx hb hr (fun t ht hW => ⟨⟨x_30, q_26, rfl, ⟨(show zKn kq aq tq wn.toInt.toNat wh.toInt (fc 0).toInt (fc 1).toInt (fc 2).toInt wg.toInt q_26 from by exact hsr_24_0), (show (x_30 : Int32).toInt = zLb (zLn kq aq tq wn.toInt.toNat wh.toInt (fc 0).toInt (fc 1).toInt (fc 2).toInt 3) (fc 0).toInt (zPw 4) ki.toInt a_.toInt ta.toInt wh.toInt d.toInt sec.toInt from by (have zw := hsr_1_0; have E1 : r_1.toInt * (zLn kq aq tq wn.toInt.toNat wh.toInt (fc 0).toInt (fc 1).toInt (fc 2).toInt 3) (zShl ki.toInt a_.toInt d.toInt) (sec.toInt - ta.toInt) = x_29.toInt := (by rw [← hsr_21_0, show sec.toInt - ta.toInt = (x_4 : Int32).toInt from by omega, ← hsr_24_1]; omega); have E2 : (12 - r_1.toInt) * (zLn kq aq tq wn.toInt.toNat wh.toInt (fc 0).toInt (fc 1).toInt (fc 2).toInt 3) (zDpr ki.toInt a_.toInt wh.toInt d.toInt) (sec.toInt - ta.toInt) = 0 := (by rw [show 12 - r_1.toInt = 0 from by omega, Int.zero_mul]); unfold zLb zBy1; rw [← zw, E1, E2, show zPw 4 = 20736 from by decide]; first | (rw [if_neg (by omega)]; omega) | (rw [if_pos (by omega)]; omega))), ⟨by omega, by omega⟩⟩, zRet ht hP hD [0, 1, 2, 3] (by decide) rfl⟩, hS.F ht⟩) hS.2.2 dX5_leastBy_111
      · have fc_31 : r_1.toInt < 12 := zf_nle c_31 (by decide) rfl
        refine lv_iload hx hb dX5_leastBy_80 (lv_at hl 0 rfl) ?_
        refine lv_bipush (v := 12) hx hb dX5_leastBy_82 (by decide) ?_
        refine lv_iload hx hb dX5_leastBy_84 (lv_at hl 2 rfl) ?_
        refine lv_isub hx hb dX5_leastBy_86 ?_
        refine lv_topi (fun x_32 ex_32 => ?_)
        have qx_32 : x_32.toInt = 12 - r_1.toInt := by rw [ex_32]; exact zf_sub (by decide) rfl (by omega) (by omega)
        refine lv_aload_n hx hb dX5_leastBy_87 rfl (lv_at hl 3 rfl) ?_
        refine lv_iload_n hx hb dX5_leastBy_88 rfl (lv_at hl 5 rfl) ?_
        refine lv_iconst (v := 1) hx hb dX5_leastBy_89 (by decide) ?_
        refine lv_isub hx hb dX5_leastBy_90 ?_
        refine lv_topi (fun y_33 ey_33 => ?_)
        obtain rfl : y_33 = 3 := ey_33.trans (by decide)
        refine lv_aload_n hx hb dX5_leastBy_91 rfl (lv_at hl 4 rfl) ?_
        refine lv_iload_n hx hb dX5_leastBy_92 rfl (lv_at hl 6 rfl) ?_
        refine lv_aload_n hx hb dX5_leastBy_93 rfl (lv_at hl 3 rfl) ?_
        refine va_get (D := D) (ci := 5) (v := .int wh) (C := RX5) (T := TX5) (N := 7) hx hb hts hi_X5_leastBy_5 hown hK hP 0 rfl rfl 5 (by decide) (hts (.fieldLink RX5 31 "TheLiningsInIt$Ways" "hurry" "I") (List.mem_of_getElem? (i := 1) rfl)) (fun _ h9 => h9) rfl dX5_leastBy_94 ?_
        refine zc_V (As := [.int d, .int wh]) (rest := [.int 3, .ref w0, .int x_32, .int x_30]) ⟨hx, hb, hml, hown, hts⟩ (c_F_Pull_deeper l D cI cJ cZ cP cS po (d) (wh) u0 (ki) (a_) (ta) hu_u0 ⟨by omega, by omega, by omega, by omega⟩ hy12 hy13 hy4 hy5) (cwV 2 hts gX5_leastBy_X2_deeper rfl rfl rfl ⟨rfl, dh_X2_deeper⟩ ⟨Nat.le_of_ble_eq_true rfl, Nat.le_of_ble_eq_true rfl⟩) hK hN (hZ.kept hS) hP zP_nil (va_recv (q := (RX2, TX2, 3)) hK (zPu_P (hZ.kept hS) hu_u0) (ci := 2) (q0 := 0) rfl rfl) rfl hl.1 rfl (Nat.le_of_ble_eq_true rfl) dX5_leastBy_97 ⟨Nat.le_of_ble_eq_true rfl, Nat.le_of_ble_eq_true rfl⟩ (fun r_34 hr_34 => ?_)
        obtain ⟨g_35, g_36, hsr_34_0⟩ := hr_34
        refine lv_iload hx hb dX5_leastBy_100 (lv_at hl 1 rfl) ?_
        skip
        refine zw_V (As := [.int 3, .int r_34, .int x_4]) (rest := [.int x_32, .int x_30]) (wr := []) ⟨hx, hb, hml, hown, hts⟩ (c_F_W_least_3 l D cI cJ cZ cP cS po w0 wk wl wc wp (wn) (wh) (wg) fq kq aq tq (tw) q_26 fc (r_34) (x_4) hy2 hy3 hy4 hy5 hy6 hy7 hjw (by first | assumption | omega) (by first | assumption | omega) (by first | assumption | omega | decide) (by omega) (by omega) (by omega) (by omega) hp_fc H.size) (cwV 3 hts gX5_leastBy_X5_least rfl rfl rfl ⟨rfl, dh_X5_least⟩ ⟨Nat.le_of_ble_eq_true rfl, Nat.le_of_ble_eq_true rfl⟩) hK hN (hZ.kept hS) hP hD hS hA [0, 1, 2, 3] [] rfl rfl (by decide) (by decide) (by decide) (va_recv (q := (RX5, TX5, 7)) hK hP (ci := 5) (q0 := 0) rfl rfl) rfl hl.1 rfl (Nat.le_of_ble_eq_true rfl) dX5_leastBy_102 ⟨Nat.le_of_ble_eq_true rfl, Nat.le_of_ble_eq_true rfl⟩ (fun r_37 u_38 H locs hr_37 hP hD hS => ?_)
        obtain ⟨q_39, rfl⟩ : ∃ z, z = u_38 := ⟨_, rfl⟩
        obtain ⟨hsr_37_0, hsr_37_1, hr_37⟩ := hr_37
        have h9R := zRe (ws' := [(w0, .inr (5, [.ref wk, .ref wl, .ref wc, .ref wp, .int wn, .int wh, .int wg])), (wl, .inl (cI, 125, .inl q_39)), (wc, .inl (cI, 3, .inl fc)), (wp, .inl (cP, 8, .inr (.inr (.inr (.inr fq)))))]) hP hD rfl
        clear hP hD
        obtain ⟨hP, hD⟩ := h9R
        obtain ⟨g_40, g_41⟩ := hr_37
        refine lv_imul hx hb dX5_leastBy_105 ?_
        refine lv_topi (fun x_42 ex_42 => ?_)
        obtain ⟨mx_42, nx_42, ox_42⟩ := zf_mulc (a := x_32) (b := r_37) (x := x_32.toInt) (y := r_37.toInt) (P := 171072) rfl rfl ⟨by omega, by omega⟩ ⟨by omega, by omega⟩ (by decide)
        rw [← ex_42] at mx_42
        refine lv_iadd hx hb dX5_leastBy_106 ?_
        refine lv_topi (fun x_43 ex_43 => ?_)
        have qx_43 : x_43.toInt = x_30.toInt + x_42.toInt := by rw [ex_43]; exact zf_add rfl rfl (by omega) (by omega)
        refine lv_istore (lv' := [(7, .int x_43), (6, .int x_4), (5, .int r_1), (0, .ref w0), (1, .ref u0), (2, .int 4), (3, .int d), (4, .int sec)]) hx hb dX5_leastBy_107 hl (by decide) rfl (fun ls hl => ?_)
        refine lv_iload hx hb dX5_leastBy_109 (lv_at hl 0 rfl) ?_
        have hmx9 := zMix (w := r_1.toInt) (x := r_24.toInt) (y := r_37.toInt) (P := 171072) ⟨by omega, by omega⟩ ⟨by omega, by omega⟩ ⟨by omega, by omega⟩
        rw [show 12 - r_1.toInt = x_32.toInt from by omega] at hmx9
        exact W.iret (v := x_43) hx hb hr (fun t ht hW => ⟨⟨x_43, q_39, rfl, ⟨(show zKn kq aq tq wn.toInt.toNat wh.toInt (fc 0).toInt (fc 1).toInt (fc 2).toInt wg.toInt q_39 from by first | exact hsr_37_0 | assumption), (show (x_43 : Int32).toInt = zLb (zLn kq aq tq wn.toInt.toNat wh.toInt (fc 0).toInt (fc 1).toInt (fc 2).toInt 3) (fc 0).toInt (zPw 4) ki.toInt a_.toInt ta.toInt wh.toInt d.toInt sec.toInt from by (have zw := hsr_1_0; have E1 : r_1.toInt * (zLn kq aq tq wn.toInt.toNat wh.toInt (fc 0).toInt (fc 1).toInt (fc 2).toInt 3) (zShl ki.toInt a_.toInt d.toInt) (sec.toInt - ta.toInt) = x_29.toInt := (by rw [← hsr_21_0, show sec.toInt - ta.toInt = (x_4 : Int32).toInt from by omega, ← hsr_24_1]; omega); have E2 : (12 - r_1.toInt) * (zLn kq aq tq wn.toInt.toNat wh.toInt (fc 0).toInt (fc 1).toInt (fc 2).toInt 3) (zDpr ki.toInt a_.toInt wh.toInt d.toInt) (sec.toInt - ta.toInt) = x_42.toInt := (by rw [← hsr_34_0, show sec.toInt - ta.toInt = (x_4 : Int32).toInt from by omega, ← hsr_37_1, show 12 - r_1.toInt = x_32.toInt from by omega]; omega); unfold zLb zBy1; rw [← zw, E1, E2, show zPw 4 = 20736 from by decide]; first | (rw [if_neg (by omega)]; omega) | (rw [if_pos (by omega)]; omega))), ⟨by omega, by omega⟩⟩, zRet ht hP hD [0, 1, 2, 3] (by decide) rfl⟩, hS.F ht⟩) hS.2.2 dX5_leastBy_111
  · have fc_5 : ki.toInt = 5 := zf_eq c_5 rfl (by decide)
    obtain ⟨t_44, zt_44, yt_44⟩ := hZ.1.1
    refine va_gets hx hb zt_44 hS hown (hts (.fieldLink RX5 79 "TheLiningsInIt$Ways" "POWERS" "[I") (List.mem_of_getElem? (i := 4) rfl)) (fun _ h9 => h9) dX5_leastBy_28 ?_
    refine lv_iload_n hx hb dX5_leastBy_31 rfl (lv_at hl 4 rfl) ?_
    refine va_ti hx hb yt_44 hS (zf_in (by decide) (by decide)) (v := .int 20736) (by decide) dX5_leastBy_32 ?_
    refine lv_aload_n hx hb dX5_leastBy_33 rfl (lv_at hl 2 rfl) ?_
    refine va_get (D := D) (ci := 5) (v := .ref wc) (C := RX5) (T := TX5) (N := 7) hx hb hts hi_X5_leastBy_5 hown hK hP 0 rfl rfl 2 (by decide) (hts (.fieldLink RX5 18 "TheLiningsInIt$Ways" "costs" "[I") (List.mem_of_getElem? (i := 5) rfl)) (fun _ h9 => h9) rfl dX5_leastBy_34 ?_
    refine lv_iconst (v := 0) hx hb dX5_leastBy_37 (by decide) ?_
    refine va_iald hx hb hK hP 2 0 rfl rfl (zf_in (by decide) (by decide)) dX5_leastBy_38 ?_
    refine lv_topi (fun x_45 ex_45 => ?_)
    have bx_45 : 0 ≤ x_45.toInt ∧ x_45.toInt ≤ 99 := by rw [ex_45]; exact hp_fc _
    refine lv_imul hx hb dX5_leastBy_39 ?_
    refine lv_topi (fun x_46 ex_46 => ?_)
    have qx_46 : x_46.toInt = 20736 * x_45.toInt := by rw [ex_46]; exact zf_mul (by decide) rfl (by omega) (by omega)
    refine lv_goto (tgt := 44) hx hb dX5_leastBy_40 (by decide) ?_
    refine lv_istore (lv' := [(7, .int x_46), (6, .int x_4), (5, .int r_1), (0, .ref w0), (1, .ref u0), (2, .int 4), (3, .int d), (4, .int sec)]) hx hb dX5_leastBy_44 hl (by decide) rfl (fun ls hl => ?_)
    refine lv_iload hx hb dX5_leastBy_46 (lv_at hl 2 rfl) ?_
    refine lv_if_le (tgt := 73) hx hb dX5_leastBy_48 (by decide) (fun c_47 => ?_) (fun c_47 => ?_)
    · have fc_47 : r_1.toInt ≤ 0 := zf_le c_47 rfl (by decide)
      refine lv_iload hx hb dX5_leastBy_73 (lv_at hl 2 rfl) ?_
      refine lv_bipush (v := 12) hx hb dX5_leastBy_75 (by decide) ?_
      refine lv_icmp_ge (tgt := 109) hx hb dX5_leastBy_77 (by decide) (fun c_48 => ?_) (fun c_48 => ?_)
      · exfalso; have fc_48 : 12 ≤ r_1.toInt := zf_le c_48 (by decide) rfl; omega
      · have fc_48 : r_1.toInt < 12 := zf_nle c_48 (by decide) rfl
        refine lv_iload hx hb dX5_leastBy_80 (lv_at hl 0 rfl) ?_
        refine lv_bipush (v := 12) hx hb dX5_leastBy_82 (by decide) ?_
        refine lv_iload hx hb dX5_leastBy_84 (lv_at hl 2 rfl) ?_
        refine lv_isub hx hb dX5_leastBy_86 ?_
        refine lv_topi (fun x_49 ex_49 => ?_)
        have qx_49 : x_49.toInt = 12 - r_1.toInt := by rw [ex_49]; exact zf_sub (by decide) rfl (by omega) (by omega)
        refine lv_aload_n hx hb dX5_leastBy_87 rfl (lv_at hl 3 rfl) ?_
        refine lv_iload_n hx hb dX5_leastBy_88 rfl (lv_at hl 5 rfl) ?_
        refine lv_iconst (v := 1) hx hb dX5_leastBy_89 (by decide) ?_
        refine lv_isub hx hb dX5_leastBy_90 ?_
        refine lv_topi (fun y_50 ey_50 => ?_)
        obtain rfl : y_50 = 3 := ey_50.trans (by decide)
        refine lv_aload_n hx hb dX5_leastBy_91 rfl (lv_at hl 4 rfl) ?_
        refine lv_iload_n hx hb dX5_leastBy_92 rfl (lv_at hl 6 rfl) ?_
        refine lv_aload_n hx hb dX5_leastBy_93 rfl (lv_at hl 3 rfl) ?_
        refine va_get (D := D) (ci := 5) (v := .int wh) (C := RX5) (T := TX5) (N := 7) hx hb hts hi_X5_leastBy_5 hown hK hP 0 rfl rfl 5 (by decide) (hts (.fieldLink RX5 31 "TheLiningsInIt$Ways" "hurry" "I") (List.mem_of_getElem? (i := 1) rfl)) (fun _ h9 => h9) rfl dX5_leastBy_94 ?_
        refine zc_V (As := [.int d, .int wh]) (rest := [.int 3, .ref w0, .int x_49, .int x_46]) ⟨hx, hb, hml, hown, hts⟩ (c_F_Pull_deeper l D cI cJ cZ cP cS po (d) (wh) u0 (ki) (a_) (ta) hu_u0 ⟨by omega, by omega, by omega, by omega⟩ hy12 hy13 hy4 hy5) (cwV 2 hts gX5_leastBy_X2_deeper rfl rfl rfl ⟨rfl, dh_X2_deeper⟩ ⟨Nat.le_of_ble_eq_true rfl, Nat.le_of_ble_eq_true rfl⟩) hK hN (hZ.kept hS) hP zP_nil (va_recv (q := (RX2, TX2, 3)) hK (zPu_P (hZ.kept hS) hu_u0) (ci := 2) (q0 := 0) rfl rfl) rfl hl.1 rfl (Nat.le_of_ble_eq_true rfl) dX5_leastBy_97 ⟨Nat.le_of_ble_eq_true rfl, Nat.le_of_ble_eq_true rfl⟩ (fun r_51 hr_51 => ?_)
        obtain ⟨g_52, g_53, hsr_51_0⟩ := hr_51
        refine lv_iload hx hb dX5_leastBy_100 (lv_at hl 1 rfl) ?_
        skip
        refine zw_V (As := [.int 3, .int r_51, .int x_4]) (rest := [.int x_49, .int x_46]) (wr := []) ⟨hx, hb, hml, hown, hts⟩ (c_F_W_least_3 l D cI cJ cZ cP cS po w0 wk wl wc wp (wn) (wh) (wg) fq kq aq tq (tw) fl fc (r_51) (x_4) hy2 hy3 hy4 hy5 hy6 hy7 hjw (by first | assumption | omega) (by first | assumption | omega) (by first | assumption | omega | decide) (by omega) (by omega) (by omega) (by omega) hp_fc H.size) (cwV 3 hts gX5_leastBy_X5_least rfl rfl rfl ⟨rfl, dh_X5_least⟩ ⟨Nat.le_of_ble_eq_true rfl, Nat.le_of_ble_eq_true rfl⟩) hK hN (hZ.kept hS) hP hD hS hA [0, 1, 2, 3] [] rfl rfl (by decide) (by decide) (by decide) (va_recv (q := (RX5, TX5, 7)) hK hP (ci := 5) (q0 := 0) rfl rfl) rfl hl.1 rfl (Nat.le_of_ble_eq_true rfl) dX5_leastBy_102 ⟨Nat.le_of_ble_eq_true rfl, Nat.le_of_ble_eq_true rfl⟩ (fun r_54 u_55 H locs hr_54 hP hD hS => ?_)
        obtain ⟨q_56, rfl⟩ : ∃ z, z = u_55 := ⟨_, rfl⟩
        obtain ⟨hsr_54_0, hsr_54_1, hr_54⟩ := hr_54
        have h9R := zRe (ws' := [(w0, .inr (5, [.ref wk, .ref wl, .ref wc, .ref wp, .int wn, .int wh, .int wg])), (wl, .inl (cI, 125, .inl q_56)), (wc, .inl (cI, 3, .inl fc)), (wp, .inl (cP, 8, .inr (.inr (.inr (.inr fq)))))]) hP hD rfl
        clear hP hD
        obtain ⟨hP, hD⟩ := h9R
        obtain ⟨g_57, g_58⟩ := hr_54
        refine lv_imul hx hb dX5_leastBy_105 ?_
        refine lv_topi (fun x_59 ex_59 => ?_)
        obtain ⟨mx_59, nx_59, ox_59⟩ := zf_mulc (a := x_49) (b := r_54) (x := x_49.toInt) (y := r_54.toInt) (P := 171072) rfl rfl ⟨by omega, by omega⟩ ⟨by omega, by omega⟩ (by decide)
        rw [← ex_59] at mx_59
        refine lv_iadd hx hb dX5_leastBy_106 ?_
        refine lv_topi (fun x_60 ex_60 => ?_)
        have qx_60 : x_60.toInt = x_46.toInt + x_59.toInt := by rw [ex_60]; exact zf_add rfl rfl (by omega) (by omega)
        refine lv_istore (lv' := [(7, .int x_60), (6, .int x_4), (5, .int r_1), (0, .ref w0), (1, .ref u0), (2, .int 4), (3, .int d), (4, .int sec)]) hx hb dX5_leastBy_107 hl (by decide) rfl (fun ls hl => ?_)
        refine lv_iload hx hb dX5_leastBy_109 (lv_at hl 0 rfl) ?_
        exact W.iret (v := x_60) hx hb hr (fun t ht hW => ⟨⟨x_60, q_56, rfl, ⟨(show zKn kq aq tq wn.toInt.toNat wh.toInt (fc 0).toInt (fc 1).toInt (fc 2).toInt wg.toInt q_56 from by first | exact hsr_54_0 | assumption), (show (x_60 : Int32).toInt = zLb (zLn kq aq tq wn.toInt.toNat wh.toInt (fc 0).toInt (fc 1).toInt (fc 2).toInt 3) (fc 0).toInt (zPw 4) ki.toInt a_.toInt ta.toInt wh.toInt d.toInt sec.toInt from by (have nx_45 : (fc 0).toInt = x_45.toInt := (by rw [ex_45, show (0 : Int32).toNatClampNeg = 0 from by decide]); have zw := hsr_1_0; have E1 : r_1.toInt * (zLn kq aq tq wn.toInt.toNat wh.toInt (fc 0).toInt (fc 1).toInt (fc 2).toInt 3) (zShl ki.toInt a_.toInt d.toInt) (sec.toInt - ta.toInt) = 0 := (by rw [show r_1.toInt = 0 from by omega, Int.zero_mul]); have E2 : (12 - r_1.toInt) * (zLn kq aq tq wn.toInt.toNat wh.toInt (fc 0).toInt (fc 1).toInt (fc 2).toInt 3) (zDpr ki.toInt a_.toInt wh.toInt d.toInt) (sec.toInt - ta.toInt) = x_59.toInt := (by rw [← hsr_51_0, show sec.toInt - ta.toInt = (x_4 : Int32).toInt from by omega, ← hsr_54_1, show 12 - r_1.toInt = x_49.toInt from by omega]; omega); unfold zLb zBy1; rw [← zw, E1, E2, show zPw 4 = 20736 from by decide]; first | (rw [if_pos (by omega)]; omega) | (rw [if_neg (by omega)]; omega))), ⟨by omega, by omega⟩⟩, zRet ht hP hD [0, 1, 2, 3] (by decide) rfl⟩, hS.F ht⟩) hS.2.2 dX5_leastBy_111
    · have fc_47 : 0 < r_1.toInt := zf_nle c_47 rfl (by decide)
      refine lv_iload hx hb dX5_leastBy_51 (lv_at hl 0 rfl) ?_
      refine lv_iload hx hb dX5_leastBy_53 (lv_at hl 2 rfl) ?_
      refine lv_aload_n hx hb dX5_leastBy_55 rfl (lv_at hl 3 rfl) ?_
      refine lv_iload_n hx hb dX5_leastBy_56 rfl (lv_at hl 5 rfl) ?_
      refine lv_iconst (v := 1) hx hb dX5_leastBy_57 (by decide) ?_
      refine lv_isub hx hb dX5_leastBy_58 ?_
      refine lv_topi (fun y_61 ey_61 => ?_)
      obtain rfl : y_61 = 3 := ey_61.trans (by decide)
      refine lv_aload_n hx hb dX5_leastBy_59 rfl (lv_at hl 4 rfl) ?_
      refine lv_iload_n hx hb dX5_leastBy_60 rfl (lv_at hl 6 rfl) ?_
      refine zc_V (As := [.int d]) (rest := [.int 3, .ref w0, .int r_1, .int x_46]) ⟨hx, hb, hml, hown, hts⟩ (c_F_Pull_shallower l D cI cJ cZ cP cS po (d) u0 (ki) (a_) (ta) hu_u0 ⟨by omega, by omega, by omega, by omega⟩ hy12 hy13) (cwV 1 hts gX5_leastBy_X2_shallower rfl rfl rfl ⟨rfl, dh_X2_shallower⟩ ⟨Nat.le_of_ble_eq_true rfl, Nat.le_of_ble_eq_true rfl⟩) hK hN (hZ.kept hS) hP zP_nil (va_recv (q := (RX2, TX2, 3)) hK (zPu_P (hZ.kept hS) hu_u0) (ci := 2) (q0 := 0) rfl rfl) rfl hl.1 rfl (Nat.le_of_ble_eq_true rfl) dX5_leastBy_61 ⟨Nat.le_of_ble_eq_true rfl, Nat.le_of_ble_eq_true rfl⟩ (fun r_62 hr_62 => ?_)
      obtain ⟨g_63, g_64, hsr_62_0⟩ := hr_62
      refine lv_iload hx hb dX5_leastBy_64 (lv_at hl 1 rfl) ?_
      skip
      refine zw_V (As := [.int 3, .int r_62, .int x_4]) (rest := [.int r_1, .int x_46]) (wr := []) ⟨hx, hb, hml, hown, hts⟩ (c_F_W_least_3 l D cI cJ cZ cP cS po w0 wk wl wc wp (wn) (wh) (wg) fq kq aq tq (tw) fl fc (r_62) (x_4) hy2 hy3 hy4 hy5 hy6 hy7 hjw (by first | assumption | omega) (by first | assumption | omega) (by first | assumption | omega | decide) (by omega) (by omega) (by omega) (by omega) hp_fc H.size) (cwV 3 hts gX5_leastBy_X5_least rfl rfl rfl ⟨rfl, dh_X5_least⟩ ⟨Nat.le_of_ble_eq_true rfl, Nat.le_of_ble_eq_true rfl⟩) hK hN (hZ.kept hS) hP hD hS hA [0, 1, 2, 3] [] rfl rfl (by decide) (by decide) (by decide) (va_recv (q := (RX5, TX5, 7)) hK hP (ci := 5) (q0 := 0) rfl rfl) rfl hl.1 rfl (Nat.le_of_ble_eq_true rfl) dX5_leastBy_66 ⟨Nat.le_of_ble_eq_true rfl, Nat.le_of_ble_eq_true rfl⟩ (fun r_65 u_66 H locs hr_65 hP hD hS => ?_)
      obtain ⟨q_67, rfl⟩ : ∃ z, z = u_66 := ⟨_, rfl⟩
      obtain ⟨hsr_65_0, hsr_65_1, hr_65⟩ := hr_65
      have h9R := zRe (ws' := [(w0, .inr (5, [.ref wk, .ref wl, .ref wc, .ref wp, .int wn, .int wh, .int wg])), (wl, .inl (cI, 125, .inl q_67)), (wc, .inl (cI, 3, .inl fc)), (wp, .inl (cP, 8, .inr (.inr (.inr (.inr fq)))))]) hP hD rfl
      clear hP hD
      obtain ⟨hP, hD⟩ := h9R
      obtain ⟨g_68, g_69⟩ := hr_65
      refine lv_imul hx hb dX5_leastBy_69 ?_
      refine lv_topi (fun x_70 ex_70 => ?_)
      obtain ⟨mx_70, nx_70, ox_70⟩ := zf_mulc (a := r_1) (b := r_65) (x := r_1.toInt) (y := r_65.toInt) (P := 171072) rfl rfl ⟨by omega, by omega⟩ ⟨by omega, by omega⟩ (by decide)
      rw [← ex_70] at mx_70
      refine lv_iadd hx hb dX5_leastBy_70 ?_
      refine lv_topi (fun x_71 ex_71 => ?_)
      have qx_71 : x_71.toInt = x_46.toInt + x_70.toInt := by rw [ex_71]; exact zf_add rfl rfl (by omega) (by omega)
      refine lv_istore (lv' := [(7, .int x_71), (6, .int x_4), (5, .int r_1), (0, .ref w0), (1, .ref u0), (2, .int 4), (3, .int d), (4, .int sec)]) hx hb dX5_leastBy_71 hl (by decide) rfl (fun ls hl => ?_)
      refine lv_iload hx hb dX5_leastBy_73 (lv_at hl 2 rfl) ?_
      refine lv_bipush (v := 12) hx hb dX5_leastBy_75 (by decide) ?_
      refine lv_icmp_ge (tgt := 109) hx hb dX5_leastBy_77 (by decide) (fun c_72 => ?_) (fun c_72 => ?_)
      · have fc_72 : 12 ≤ r_1.toInt := zf_le c_72 (by decide) rfl
        refine lv_iload hx hb dX5_leastBy_109 (lv_at hl 0 rfl) ?_
        exact W.iret (v := x_71) hx hb hr (fun t ht hW => ⟨⟨x_71, q_67, rfl, ⟨(show zKn kq aq tq wn.toInt.toNat wh.toInt (fc 0).toInt (fc 1).toInt (fc 2).toInt wg.toInt q_67 from by exact hsr_65_0), (show (x_71 : Int32).toInt = zLb (zLn kq aq tq wn.toInt.toNat wh.toInt (fc 0).toInt (fc 1).toInt (fc 2).toInt 3) (fc 0).toInt (zPw 4) ki.toInt a_.toInt ta.toInt wh.toInt d.toInt sec.toInt from by (have nx_45 : (fc 0).toInt = x_45.toInt := (by rw [ex_45, show (0 : Int32).toNatClampNeg = 0 from by decide]); have zw := hsr_1_0; have E1 : r_1.toInt * (zLn kq aq tq wn.toInt.toNat wh.toInt (fc 0).toInt (fc 1).toInt (fc 2).toInt 3) (zShl ki.toInt a_.toInt d.toInt) (sec.toInt - ta.toInt) = x_70.toInt := (by rw [← hsr_62_0, show sec.toInt - ta.toInt = (x_4 : Int32).toInt from by omega, ← hsr_65_1]; omega); have E2 : (12 - r_1.toInt) * (zLn kq aq tq wn.toInt.toNat wh.toInt (fc 0).toInt (fc 1).toInt (fc 2).toInt 3) (zDpr ki.toInt a_.toInt wh.toInt d.toInt) (sec.toInt - ta.toInt) = 0 := (by rw [show 12 - r_1.toInt = 0 from by omega, Int.zero_mul]); unfold zLb zBy1; rw [← zw, E1, E2, show zPw 4 = 20736 from by decide]; first | (rw [if_pos (by omega)]; omega) | (rw [if_neg (by omega)]; omega))), ⟨by omega, by omega⟩⟩, zRet ht hP hD [0, 1, 2, 3] (by decide) rfl⟩, hS.F ht⟩) hS.2.2 dX5_leastBy_111
      · have fc_72 : r_1.toInt < 12 := zf_nle c_72 (by decide) rfl
        refine lv_iload hx hb dX5_leastBy_80 (lv_at hl 0 rfl) ?_
        refine lv_bipush (v := 12) hx hb dX5_leastBy_82 (by decide) ?_
        refine lv_iload hx hb dX5_leastBy_84 (lv_at hl 2 rfl) ?_
        refine lv_isub hx hb dX5_leastBy_86 ?_
        refine lv_topi (fun x_73 ex_73 => ?_)
        have qx_73 : x_73.toInt = 12 - r_1.toInt := by rw [ex_73]; exact zf_sub (by decide) rfl (by omega) (by omega)
        refine lv_aload_n hx hb dX5_leastBy_87 rfl (lv_at hl 3 rfl) ?_
        refine lv_iload_n hx hb dX5_leastBy_88 rfl (lv_at hl 5 rfl) ?_
        refine lv_iconst (v := 1) hx hb dX5_leastBy_89 (by decide) ?_
        refine lv_isub hx hb dX5_leastBy_90 ?_
        refine lv_topi (fun y_74 ey_74 => ?_)
        obtain rfl : y_74 = 3 := ey_74.trans (by decide)
        refine lv_aload_n hx hb dX5_leastBy_91 rfl (lv_at hl 4 rfl) ?_
        refine lv_iload_n hx hb dX5_leastBy_92 rfl (lv_at hl 6 rfl) ?_
        refine lv_aload_n hx hb dX5_leastBy_93 rfl (lv_at hl 3 rfl) ?_
        refine va_get (D := D) (ci := 5) (v := .int wh) (C := RX5) (T := TX5) (N := 7) hx hb hts hi_X5_leastBy_5 hown hK hP 0 rfl rfl 5 (by decide) (hts (.fieldLink RX5 31 "TheLiningsInIt$Ways" "hurry" "I") (List.mem_of_getElem? (i := 1) rfl)) (fun _ h9 => h9) rfl dX5_leastBy_94 ?_
        refine zc_V (As := [.int d, .int wh]) (rest := [.int 3, .ref w0, .int x_73, .int x_71]) ⟨hx, hb, hml, hown, hts⟩ (c_F_Pull_deeper l D cI cJ cZ cP cS po (d) (wh) u0 (ki) (a_) (ta) hu_u0 ⟨by omega, by omega, by omega, by omega⟩ hy12 hy13 hy4 hy5) (cwV 2 hts gX5_leastBy_X2_deeper rfl rfl rfl ⟨rfl, dh_X2_deeper⟩ ⟨Nat.le_of_ble_eq_true rfl, Nat.le_of_ble_eq_true rfl⟩) hK hN (hZ.kept hS) hP zP_nil (va_recv (q := (RX2, TX2, 3)) hK (zPu_P (hZ.kept hS) hu_u0) (ci := 2) (q0 := 0) rfl rfl) rfl hl.1 rfl (Nat.le_of_ble_eq_true rfl) dX5_leastBy_97 ⟨Nat.le_of_ble_eq_true rfl, Nat.le_of_ble_eq_true rfl⟩ (fun r_75 hr_75 => ?_)
        obtain ⟨g_76, g_77, hsr_75_0⟩ := hr_75
        refine lv_iload hx hb dX5_leastBy_100 (lv_at hl 1 rfl) ?_
        skip
        refine zw_V (As := [.int 3, .int r_75, .int x_4]) (rest := [.int x_73, .int x_71]) (wr := []) ⟨hx, hb, hml, hown, hts⟩ (c_F_W_least_3 l D cI cJ cZ cP cS po w0 wk wl wc wp (wn) (wh) (wg) fq kq aq tq (tw) q_67 fc (r_75) (x_4) hy2 hy3 hy4 hy5 hy6 hy7 hjw (by first | assumption | omega) (by first | assumption | omega) (by first | assumption | omega | decide) (by omega) (by omega) (by omega) (by omega) hp_fc H.size) (cwV 3 hts gX5_leastBy_X5_least rfl rfl rfl ⟨rfl, dh_X5_least⟩ ⟨Nat.le_of_ble_eq_true rfl, Nat.le_of_ble_eq_true rfl⟩) hK hN (hZ.kept hS) hP hD hS hA [0, 1, 2, 3] [] rfl rfl (by decide) (by decide) (by decide) (va_recv (q := (RX5, TX5, 7)) hK hP (ci := 5) (q0 := 0) rfl rfl) rfl hl.1 rfl (Nat.le_of_ble_eq_true rfl) dX5_leastBy_102 ⟨Nat.le_of_ble_eq_true rfl, Nat.le_of_ble_eq_true rfl⟩ (fun r_78 u_79 H locs hr_78 hP hD hS => ?_)
        obtain ⟨q_80, rfl⟩ : ∃ z, z = u_79 := ⟨_, rfl⟩
        obtain ⟨hsr_78_0, hsr_78_1, hr_78⟩ := hr_78
        have h9R := zRe (ws' := [(w0, .inr (5, [.ref wk, .ref wl, .ref wc, .ref wp, .int wn, .int wh, .int wg])), (wl, .inl (cI, 125, .inl q_80)), (wc, .inl (cI, 3, .inl fc)), (wp, .inl (cP, 8, .inr (.inr (.inr (.inr fq)))))]) hP hD rfl
        clear hP hD
        obtain ⟨hP, hD⟩ := h9R
        obtain ⟨g_81, g_82⟩ := hr_78
        refine lv_imul hx hb dX5_leastBy_105 ?_
        refine lv_topi (fun x_83 ex_83 => ?_)
        obtain ⟨mx_83, nx_83, ox_83⟩ := zf_mulc (a := x_73) (b := r_78) (x := x_73.toInt) (y := r_78.toInt) (P := 171072) rfl rfl ⟨by omega, by omega⟩ ⟨by omega, by omega⟩ (by decide)
        rw [← ex_83] at mx_83
        refine lv_iadd hx hb dX5_leastBy_106 ?_
        refine lv_topi (fun x_84 ex_84 => ?_)
        have qx_84 : x_84.toInt = x_71.toInt + x_83.toInt := by rw [ex_84]; exact zf_add rfl rfl (by omega) (by omega)
        refine lv_istore (lv' := [(7, .int x_84), (6, .int x_4), (5, .int r_1), (0, .ref w0), (1, .ref u0), (2, .int 4), (3, .int d), (4, .int sec)]) hx hb dX5_leastBy_107 hl (by decide) rfl (fun ls hl => ?_)
        refine lv_iload hx hb dX5_leastBy_109 (lv_at hl 0 rfl) ?_
        have hmx9 := zMix (w := r_1.toInt) (x := r_65.toInt) (y := r_78.toInt) (P := 171072) ⟨by omega, by omega⟩ ⟨by omega, by omega⟩ ⟨by omega, by omega⟩
        rw [show 12 - r_1.toInt = x_73.toInt from by omega] at hmx9
        exact W.iret (v := x_84) hx hb hr (fun t ht hW => ⟨⟨x_84, q_80, rfl, ⟨(show zKn kq aq tq wn.toInt.toNat wh.toInt (fc 0).toInt (fc 1).toInt (fc 2).toInt wg.toInt q_80 from by first | exact hsr_78_0 | assumption), (show (x_84 : Int32).toInt = zLb (zLn kq aq tq wn.toInt.toNat wh.toInt (fc 0).toInt (fc 1).toInt (fc 2).toInt 3) (fc 0).toInt (zPw 4) ki.toInt a_.toInt ta.toInt wh.toInt d.toInt sec.toInt from by (have nx_45 : (fc 0).toInt = x_45.toInt := (by rw [ex_45, show (0 : Int32).toNatClampNeg = 0 from by decide]); have zw := hsr_1_0; have E1 : r_1.toInt * (zLn kq aq tq wn.toInt.toNat wh.toInt (fc 0).toInt (fc 1).toInt (fc 2).toInt 3) (zShl ki.toInt a_.toInt d.toInt) (sec.toInt - ta.toInt) = x_70.toInt := (by rw [← hsr_62_0, show sec.toInt - ta.toInt = (x_4 : Int32).toInt from by omega, ← hsr_65_1]; omega); have E2 : (12 - r_1.toInt) * (zLn kq aq tq wn.toInt.toNat wh.toInt (fc 0).toInt (fc 1).toInt (fc 2).toInt 3) (zDpr ki.toInt a_.toInt wh.toInt d.toInt) (sec.toInt - ta.toInt) = x_83.toInt := (by rw [← hsr_75_0, show sec.toInt - ta.toInt = (x_4 : Int32).toInt from by omega, ← hsr_78_1, show 12 - r_1.toInt = x_73.toInt from by omega]; omega); unfold zLb zBy1; rw [← zw, E1, E2, show zPw 4 = 20736 from by decide]; first | (rw [if_pos (by omega)]; omega) | (rw [if_neg (by omega)]; omega))), ⟨by omega, by omega⟩⟩, zRet ht hP hD [0, 1, 2, 3] (by decide) rfl⟩, hS.F ht⟩) hS.2.2 dX5_leastBy_111
set_option maxHeartbeats 4000000 in
set_option maxRecDepth 100000 in
theorem c_F_W_least_4 (l : Launch) (D : va_G) (cI cJ cZ cP cS : ClassId) (po : zPool) (w0 wk wl wc wp : Nat) (wn wh wg : Int32) (fq : Nat → Option Nat) (kq aq tq : Nat → Int32) (tw : Int32) (fl fc : Nat → Int32) (d sec : Int32) (hy0 : 0 ≤ wn.toInt) (hy1 : wn.toInt ≤ 8) (hy2 : 0 ≤ wh.toInt) (hy3 : wh.toInt ≤ 9) (hy4 : 0 ≤ wg.toInt) (hy5 : wg.toInt ≤ 60) (hjw : zJW po fq wn kq aq tq tw) (hkn : zKn kq aq tq wn.toInt.toNat wh.toInt (fc 0).toInt (fc 1).toInt (fc 2).toInt wg.toInt fl) (hgl : (∀ p : Nat, p < wn.toInt.toNat → (tq p).toInt ≤ wg.toInt)) (htw : tw.toInt = 1) (hy10 : 0 ≤ d.toInt) (hy11 : d.toInt ≤ 24) (hy12 : 0 ≤ sec.toInt) (hy13 : sec.toInt ≤ 300) (hp_fc : zRg fc (0) 99) (hpz : Nat) : Met l yX5_least wsX5_least ({ frames := 10, cells := 0, slots := 0, locals := 263 }) (va_Pc [.ref w0, .int 4, .int d, .int sec] (zW D (zKT cI cJ cZ cP cS) po [(w0, .inr (5, [.ref wk, .ref wl, .ref wc, .ref wp, .int wn, .int wh, .int wg])), (wl, .inl (cI, 125, .inl fl)), (wc, .inl (cI, 3, .inl fc)), (wp, .inl (cP, 8, .inr (.inr (.inr (.inr fq)))))] hpz)) (va_Qi (fun (r : Int32) (fl2 : (Nat → Int32)) => (zKn kq aq tq wn.toInt.toNat wh.toInt (fc 0).toInt (fc 1).toInt (fc 2).toInt wg.toInt fl2) ∧ (r.toInt = (zLn kq aq tq wn.toInt.toNat wh.toInt (fc 0).toInt (fc 1).toInt (fc 2).toInt 4) d.toInt sec.toInt) ∧ (0 ≤ r.toInt ∧ r.toInt ≤ 2052864)) (zB D [(w0, .inr (5, [.ref wk, .ref wl, .ref wc, .ref wp, .int wn, .int wh, .int wg])), (wl, .inl (cI, 125, .inl fl)), (wc, .inl (cI, 3, .inl fc)), (wp, .inl (cP, 8, .inr (.inr (.inr (.inr fq)))))] hpz (fun (fl2 : Nat → Int32) => [(w0, .inr (5, [.ref wk, .ref wl, .ref wc, .ref wp, .int wn, .int wh, .int wg])), (wl, .inl (cI, 125, .inl fl2)), (wc, .inl (cI, 3, .inl fc)), (wp, .inl (cP, 8, .inr (.inr (.inr (.inr fq)))))])) (va_A [(w0, .inr (5, [.ref wk, .ref wl, .ref wc, .ref wp, .int wn, .int wh, .int wg])), (wl, .inl (cI, 125, .inl fl)), (wc, .inl (cI, 3, .inl fc)), (wp, .inl (cP, 8, .inr (.inr (.inr (.inr fq)))))] hpz)) 0 0 (va_A [(w0, .inr (5, [.ref wk, .ref wl, .ref wc, .ref wp, .int wn, .int wh, .int wg])), (wl, .inl (cI, 125, .inl fl)), (wc, .inl (cI, 3, .inl fc)), (wp, .inl (cP, 8, .inr (.inr (.inr (.inr fq)))))] hpz) := by
  refine Met.ofW (cc := cX5_least) (maxL := 9) (ret := (some .int)) (by decide) rfl ?_
  intro p e s m args below meth c s₁ B hml hv
  obtain ⟨rfl, hsz, hP, hK, hD0, hN, hZ⟩ := hv
  have hx := B.exec
  have hb := B.bytes
  have hr := B.returns
  have hts := atoms_spec (ws := wsX5_least) B.pre
  have hown : s.vm.findClass RX5 = some m.cls := findClass_of_methodNamed B.named
  have hlocks := B.notSynchronized
  subst hsz
  have hD := hD0.self (sz := s.heap.size)
  have hA := zA_of hD
  have hl := lv_entry ([.ref w0, .int 4, .int d, .int sec]) (n := 9) (Nat.le_of_ble_eq_true rfl)
  rw [lg_entry_eq]
  generalize (lg_sl ([.ref w0, .int 4, .int d, .int sec]) ++ List.replicate (9 - (lg_sl ([.ref w0, .int 4, .int d, .int sec])).length) Slot.unset).toArray = ls at hl ⊢
  replace hl : lv_has ls 9 [(0, .ref w0), (1, .int 4), (2, .int d), (3, .int sec)] := hl
  refine zw_begin hP hD (fun H locs hP1 hS => ?_)
  clear hP
  have hP := hP1
  clear hP1
  refine lv_iload_n hx hb dX5_least_0 rfl (lv_at hl 1 rfl) ?_
  refine lv_if_lt (tgt := 20) hx hb dX5_least_1 (by decide) (fun c_1 => ?_) (fun c_1 => ?_)
  · exact absurd c_1 (by decide)
  · refine lv_iload_n hx hb dX5_least_4 rfl (lv_at hl 1 rfl) ?_
    refine lv_iconst (v := 4) hx hb dX5_least_5 (by decide) ?_
    refine lv_icmp_gt (tgt := 20) hx hb dX5_least_6 (by decide) (fun c_2 => ?_) (fun c_2 => ?_)
    · exact absurd c_2 (by decide)
    · refine lv_iload_n hx hb dX5_least_9 rfl (lv_at hl 2 rfl) ?_
      refine lv_iconst (v := 1) hx hb dX5_least_10 (by decide) ?_
      refine lv_icmp_lt (tgt := 20) hx hb dX5_least_11 (by decide) (fun c_3 => ?_) (fun c_3 => ?_)
      · have fc_3 : d.toInt < 1 := zf_lt c_3 rfl (by decide)
        refine lv_iconst (v := 0) hx hb dX5_least_20 (by decide) ?_
        exact W.iret (v := 0) hx hb hr (fun t ht hW => ⟨⟨0, fl, rfl, ⟨(show zKn kq aq tq wn.toInt.toNat wh.toInt (fc 0).toInt (fc 1).toInt (fc 2).toInt wg.toInt fl from by exact hkn), (show (0 : Int32).toInt = (zLn kq aq tq wn.toInt.toNat wh.toInt (fc 0).toInt (fc 1).toInt (fc 2).toInt 4) d.toInt sec.toInt from by (have k9 : (0 : Int32).toInt = 0 := (by decide); rw [zLn_s, if_pos (by omega)]; exact k9)), ⟨by decide, by decide⟩⟩, zRet ht hP hD [0, 1, 2, 3] (by decide) rfl⟩, hS.F ht⟩) hS.2.2 dX5_least_21
      · have fc_3 : 1 ≤ d.toInt := zf_nlt c_3 rfl (by decide)
        refine lv_iload_n hx hb dX5_least_14 rfl (lv_at hl 2 rfl) ?_
        refine lv_bipush (v := 24) hx hb dX5_least_15 (by decide) ?_
        refine lv_icmp_le (tgt := 22) hx hb dX5_least_17 (by decide) (fun c_4 => ?_) (fun c_4 => ?_)
        · have fc_4 : d.toInt ≤ 24 := zf_le c_4 rfl (by decide)
          refine lv_iload_n hx hb dX5_least_22 rfl (lv_at hl 3 rfl) ?_
          refine lv_iload_n hx hb dX5_least_23 rfl (lv_at hl 1 rfl) ?_
          refine lv_aload_n hx hb dX5_least_24 rfl (lv_at hl 0 rfl) ?_
          refine va_get (D := D) (ci := 5) (v := .int wg) (C := RX5) (T := TX5) (N := 7) hx hb hts hi_X5_least_5 hown hK hP 0 rfl rfl 6 (by decide) (hts (.fieldLink RX5 34 "TheLiningsInIt$Ways" "longest" "I") (List.mem_of_getElem? (i := 1) rfl)) (fun _ h9 => h9) rfl dX5_least_25 ?_
          refine lv_imul hx hb dX5_least_28 ?_
          refine lv_topi (fun x_5 ex_5 => ?_)
          have qx_5 : x_5.toInt = 4 * wg.toInt := by rw [ex_5]; exact zf_mul (by decide) rfl (by omega) (by omega)
          refine lv_bipush (v := 30) hx hb dX5_least_29 (by decide) ?_
          refine lv_iadd hx hb dX5_least_31 ?_
          refine lv_topi (fun x_6 ex_6 => ?_)
          have qx_6 : x_6.toInt = x_5.toInt + 30 := by rw [ex_6]; exact zf_add rfl (by decide) (by omega) (by omega)
          refine lv_icmp_lt (tgt := 39) hx hb dX5_least_32 (by decide) (fun c_7 => ?_) (fun c_7 => ?_)
          · have fc_7 : sec.toInt < x_6.toInt := zf_lt c_7 rfl rfl
            refine lv_iconst (v := 0) hx hb dX5_least_39 (by decide) ?_
            refine lv_istore (lv' := [(4, .int 0), (0, .ref w0), (1, .int 4), (2, .int d), (3, .int sec)]) hx hb dX5_least_40 hl (by decide) rfl (fun ls hl => ?_)
            refine lv_iload_n hx hb dX5_least_42 rfl (lv_at hl 2 rfl) ?_
            refine lv_bipush (v := 25) hx hb dX5_least_43 (by decide) ?_
            refine lv_imul hx hb dX5_least_45 ?_
            refine lv_topi (fun y_8 ey_8 => ?_)
            obtain rfl : y_8 = 100 := ey_8.trans (by decide)
            refine lv_iload_n hx hb dX5_least_46 rfl (lv_at hl 3 rfl) ?_
            refine lv_iadd hx hb dX5_least_47 ?_
            refine lv_topi (fun x_9 ex_9 => ?_)
            have qx_9 : x_9.toInt = 100 + d.toInt := by rw [ex_9]; exact zf_add (by decide) rfl (by omega) (by omega)
            refine lv_istore (lv' := [(5, .int x_9), (4, .int 0), (0, .ref w0), (1, .int 4), (2, .int d), (3, .int sec)]) hx hb dX5_least_48 hl (by decide) rfl (fun ls hl => ?_)
            refine lv_iload hx hb dX5_least_50 (lv_at hl 1 rfl) ?_
            refine lv_if_eq (tgt := 74) hx hb dX5_least_52 (by decide) (fun c_10 => ?_) (fun c_10 => ?_)
            · refine lv_aload_n hx hb dX5_least_74 rfl (lv_at hl 2 rfl) ?_
              refine lv_iload_n hx hb dX5_least_75 rfl (lv_at hl 3 rfl) ?_
              refine lv_iload_n hx hb dX5_least_76 rfl (lv_at hl 5 rfl) ?_
              refine zc_V (As := [.int 4, .int sec]) (rest := []) ⟨hx, hb, hml, hown, hts⟩ (c_F_W_leastAtOnce_4 l D cI cJ cZ cP cS po w0 wk wl wc wp (wn) (wh) (wg) fc (sec) hy0 hy1 hy2 hy3 hy4 hy5 hy12 hy13 hp_fc) (cwV 2 hts gX5_least_X5_leastAtOnce rfl rfl rfl ⟨rfl, dh_X5_leastAtOnce⟩ ⟨Nat.le_of_ble_eq_true rfl, Nat.le_of_ble_eq_true rfl⟩) hK hN (hZ.kept hS) hP (hP.sub [0, 2] rfl) (va_recv (q := (RX5, TX5, 7)) hK hP (ci := 5) (q0 := 0) rfl rfl) rfl hl.1 rfl (Nat.le_of_ble_eq_true rfl) dX5_least_77 ⟨Nat.le_of_ble_eq_true rfl, Nat.le_of_ble_eq_true rfl⟩ (fun r_11 hr_11 => ?_)
              obtain ⟨g_12, g_13, hsr_11_0⟩ := hr_11
              refine lv_istore (lv' := [(6, .int r_11), (5, .int x_9), (4, .int 0), (0, .ref w0), (1, .int 4), (2, .int d), (3, .int sec)]) hx hb dX5_least_80 hl (by decide) rfl (fun ls hl => ?_)
              refine lv_iconst (v := 0) hx hb dX5_least_82 (by decide) ?_
              refine lv_istore (lv' := [(7, .int 0), (6, .int r_11), (5, .int x_9), (4, .int 0), (0, .ref w0), (1, .int 4), (2, .int d), (3, .int sec)]) hx hb dX5_least_83 hl (by decide) rfl (fun ls hl => ?_)
              obtain ⟨i_85, hi_85⟩ : ∃ i : Int32, i = 0 := ⟨_, rfl⟩
              replace hl : lv_has ls 9 [(7, .int i_85), (6, .int r_11), (5, .int x_9), (4, .int 0), (0, .ref w0), (1, .int 4), (2, .int d), (3, .int sec)] := by rw [hi_85]; exact lv_sub hl [0, 1, 2, 3, 4, 5, 6, 7] rfl
              have h1i_85 : i_85.toInt = 0 := by rw [hi_85]; decide
              obtain ⟨nfu, hni_85⟩ : ∃ nq9 : Nat, wn.toInt ≤ i_85.toInt + (nq9 : Int) := ⟨((wn.toInt : Int) - 0).toNat, by omega⟩
              have hloi_85 : 0 ≤ i_85.toInt := by omega
              obtain ⟨g_14, hg_14⟩ : ∃ g : Nat → Int32, g = fl := ⟨_, rfl⟩
              replace hP : va_P D vwCl [(w0, .inr (5, [.ref wk, .ref wl, .ref wc, .ref wp, .int wn, .int wh, .int wg])), (wl, .inl (cI, 125, .inl g_14)), (wc, .inl (cI, 3, .inl fc)), (wp, .inl (cP, 8, .inr (.inr (.inr (.inr fq)))))] H := by rw [hg_14]; exact hP
              replace hD : va_D (va_A [(w0, .inr (5, [.ref wk, .ref wl, .ref wc, .ref wp, .int wn, .int wh, .int wg])), (wl, .inl (cI, 125, .inl fl)), (wc, .inl (cI, 3, .inl fc)), (wp, .inl (cP, 8, .inr (.inr (.inr (.inr fq)))))] s.heap.size) [(w0, .inr (5, [.ref wk, .ref wl, .ref wc, .ref wp, .int wn, .int wh, .int wg])), (wl, .inl (cI, 125, .inl g_14)), (wc, .inl (cI, 3, .inl fc)), (wp, .inl (cP, 8, .inr (.inr (.inr (.inr fq)))))] := by rw [hg_14]; exact hD
              obtain ⟨v_15, hv_15⟩ : ∃ g : Int32, g = r_11 := ⟨_, rfl⟩
              replace hl : lv_has ls 9 [(7, .int i_85), (6, .int v_15), (5, .int x_9), (4, .int 0), (0, .ref w0), (1, .int 4), (2, .int d), (3, .int sec)] := by rw [hv_15]; exact hl
              have hbv_15 : 0 ≤ v_15.toInt ∧ v_15.toInt ≤ 2052864 := by rw [hv_15]; exact ⟨by omega, by omega⟩
              have hvi_85_0 : zKn kq aq tq wn.toInt.toNat wh.toInt (fc 0).toInt (fc 1).toInt (fc 2).toInt wg.toInt g_14 := by
                (try rw [hi_85]); (try rw [hg_14]); (try rw [hv_15]); exact hkn
              have hvi_85_1 : (v_15 : Int32).toInt = zFi tq d.toInt sec.toInt (zPw 4 * zAt (fc 1).toInt (fc 2).toInt sec.toInt) (zLv (zLn kq aq tq wn.toInt.toNat wh.toInt (fc 0).toInt (fc 1).toInt (fc 2).toInt 3) kq aq tq (fc 0).toInt (zPw 4) wh.toInt d.toInt sec.toInt) i_85.toInt.toNat := by
                (try rw [hi_85]); (try rw [hg_14]); (try rw [hv_15]); (rw [(show ((0 : Int32).toInt.toNat) = 0 from by decide)]; exact hsr_11_0)
              have hvi_85_2 : i_85.toInt ≤ wn.toInt := by
                (try rw [hi_85]); (try rw [hg_14]); (try rw [hv_15]); (have k0 : (0 : Int32).toInt = 0 := (by decide); omega)
              clear h1i_85 hi_85 hg_14 hv_15
              skip
              revert hni_85
              revert hloi_85
              revert hvi_85_2
              revert hvi_85_1
              revert hvi_85_0
              revert hbv_15
              revert hl
              revert hS
              revert hD
              revert hP
              revert ls
              revert locs
              revert H
              revert g_14
              revert v_15
              revert i_85
              induction nfu with
              | zero =>
                intro i_85 v_15 g_14 H locs ls hP hD hS hl hbv_15 hvi_85_0 hvi_85_1 hvi_85_2 hloi_85 hni_85
                have hzi_85 : wn.toInt ≤ i_85.toInt := by omega
                refine lv_iload hx hb dX5_least_85 (lv_at hl 0 rfl) ?_
                refine lv_aload_n hx hb dX5_least_87 rfl (lv_at hl 4 rfl) ?_
                refine va_get (D := D) (ci := 5) (v := .int wn) (C := RX5) (T := TX5) (N := 7) hx hb hts hi_X5_least_5 hown hK hP 0 rfl rfl 4 (by decide) (hts (.fieldLink RX5 27 "TheLiningsInIt$Ways" "count" "I") (List.mem_of_getElem? (i := 3) rfl)) (fun _ h9 => h9) rfl dX5_least_88 ?_
                refine lv_icmp_ge (tgt := 135) hx hb dX5_least_91 (by decide) (fun c_16 => ?_) (fun c_16 => ?_)
                · have fc_16 : wn.toInt ≤ i_85.toInt := zf_le c_16 rfl rfl
                  refine lv_iload hx hb dX5_least_135 (lv_at hl 3 rfl) ?_
                  refine lv_if_eq (tgt := 149) hx hb dX5_least_137 (by decide) (fun c_17 => ?_) (fun c_17 => ?_)
                  · refine lv_iload hx hb dX5_least_149 (lv_at hl 1 rfl) ?_
                    exact W.iret (v := v_15) hx hb hr (fun t ht hW => ⟨⟨v_15, g_14, rfl, ⟨(show zKn kq aq tq wn.toInt.toNat wh.toInt (fc 0).toInt (fc 1).toInt (fc 2).toInt wg.toInt g_14 from by exact hvi_85_0), (show (v_15 : Int32).toInt = (zLn kq aq tq wn.toInt.toNat wh.toInt (fc 0).toInt (fc 1).toInt (fc 2).toInt 4) d.toInt sec.toInt from by (have h9 : i_85.toInt.toNat = wn.toInt.toNat := (by omega); have z := hvi_85_1; rw [h9] at z; rw [zLn_s, if_neg (by omega)]; exact z)), ⟨by omega, by omega⟩⟩, zRet ht hP hD [0, 1, 2, 3] (by decide) rfl⟩, hS.F ht⟩) hS.2.2 dX5_least_151
                  · exact absurd c_17 (by decide)
                · exfalso; have fc_16 : i_85.toInt < wn.toInt := zf_nle c_16 rfl rfl; omega
              | succ nfu ih =>
                intro i_85 v_15 g_14 H locs ls hP hD hS hl hbv_15 hvi_85_0 hvi_85_1 hvi_85_2 hloi_85 hni_85
                refine lv_iload hx hb dX5_least_85 (lv_at hl 0 rfl) ?_
                refine lv_aload_n hx hb dX5_least_87 rfl (lv_at hl 4 rfl) ?_
                refine va_get (D := D) (ci := 5) (v := .int wn) (C := RX5) (T := TX5) (N := 7) hx hb hts hi_X5_least_5 hown hK hP 0 rfl rfl 4 (by decide) (hts (.fieldLink RX5 27 "TheLiningsInIt$Ways" "count" "I") (List.mem_of_getElem? (i := 3) rfl)) (fun _ h9 => h9) rfl dX5_least_88 ?_
                refine lv_icmp_ge (tgt := 135) hx hb dX5_least_91 (by decide) (fun c_18 => ?_) (fun c_18 => ?_)
                · have fc_18 : wn.toInt ≤ i_85.toInt := zf_le c_18 rfl rfl
                  refine lv_iload hx hb dX5_least_135 (lv_at hl 3 rfl) ?_
                  refine lv_if_eq (tgt := 149) hx hb dX5_least_137 (by decide) (fun c_19 => ?_) (fun c_19 => ?_)
                  · refine lv_iload hx hb dX5_least_149 (lv_at hl 1 rfl) ?_
                    exact W.iret (v := v_15) hx hb hr (fun t ht hW => ⟨⟨v_15, g_14, rfl, ⟨(show zKn kq aq tq wn.toInt.toNat wh.toInt (fc 0).toInt (fc 1).toInt (fc 2).toInt wg.toInt g_14 from by exact hvi_85_0), (show (v_15 : Int32).toInt = (zLn kq aq tq wn.toInt.toNat wh.toInt (fc 0).toInt (fc 1).toInt (fc 2).toInt 4) d.toInt sec.toInt from by (have h9 : i_85.toInt.toNat = wn.toInt.toNat := (by omega); have z := hvi_85_1; rw [h9] at z; rw [zLn_s, if_neg (by omega)]; exact z)), ⟨by omega, by omega⟩⟩, zRet ht hP hD [0, 1, 2, 3] (by decide) rfl⟩, hS.F ht⟩) hS.2.2 dX5_least_151
                  · exact absurd c_19 (by decide)
                · have fc_18 : i_85.toInt < wn.toInt := zf_nle c_18 rfl rfl
                  refine lv_iload_n hx hb dX5_least_94 rfl (lv_at hl 5 rfl) ?_
                  refine lv_if_le (tgt := 135) hx hb dX5_least_95 (by decide) (fun c_20 => ?_) (fun c_20 => ?_)
                  · exact absurd c_20 (by decide)
                  · refine lv_aload_n hx hb dX5_least_98 rfl (lv_at hl 4 rfl) ?_
                    refine lv_iload hx hb dX5_least_99 (lv_at hl 0 rfl) ?_
                    refine lv_iload_n hx hb dX5_least_101 rfl (lv_at hl 6 rfl) ?_
                    refine lv_iload_n hx hb dX5_least_102 rfl (lv_at hl 7 rfl) ?_
                    refine zc_Vq (As := [.int i_85, .int d, .int sec]) (rest := []) ⟨hx, hb, hml, hown, hts⟩ (c_F_W_mayBeAt l D cI cJ cZ cP cS po w0 wk wl wc wp (wn) (wh) (wg) fq kq aq tq (tw) (i_85) (d) (sec) hy0 hy1 hy2 hy3 hy4 hy5 hjw (by omega) (by omega) (by omega) hy12 hy13) (cwV 3 hts gX5_least_X5_mayBeAt rfl rfl rfl ⟨rfl, dh_X5_mayBeAt⟩ ⟨Nat.le_of_ble_eq_true rfl, Nat.le_of_ble_eq_true rfl⟩) hK hN (hZ.kept hS) hP (hP.sub [0, 3] rfl) (va_recv (q := (RX5, TX5, 7)) hK hP (ci := 5) (q0 := 0) rfl rfl) rfl hl.1 rfl (Nat.le_of_ble_eq_true rfl) dX5_least_103 ⟨Nat.le_of_ble_eq_true rfl, Nat.le_of_ble_eq_true rfl⟩ (fun r_21 hr_21 => ?_)
                    rcases hr_21 with ⟨rfl, hn_22⟩ | ⟨rfl, hn_24, g_23⟩ | ⟨rfl, hn_26, g_25⟩ | ⟨⟨u_28, kiu_28, au_28, tu_28, rfl, huu_28, hkku_28⟩, g_27⟩
                    · refine lv_astoreN (lv' := [(8, .null), (7, .int i_85), (6, .int v_15), (5, .int x_9), (4, .int 0), (0, .ref w0), (1, .int 4), (2, .int d), (3, .int sec)]) hx hb dX5_least_106 hl (by decide) rfl (fun ls hl => ?_)
                      refine lv_aloadN hx hb dX5_least_108 (lv_at hl 0 rfl) ?_
                      refine lv_ifnullN (tgt := 129) hx hb dX5_least_110 (by decide) ?_
                      obtain ⟨x_29, ex_29⟩ : ∃ y : Int32, y = i_85 + 1 := ⟨_, rfl⟩
                      have qx_29 : x_29.toInt = i_85.toInt + 1 := dw_inc ex_29 fc_18
                      refine lv_iinc (v := x_29) (lv' := [(7, .int x_29), (8, .null), (6, .int v_15), (5, .int x_9), (4, .int 0), (0, .ref w0), (1, .int 4), (2, .int d), (3, .int sec)]) hx hb dX5_least_129 hl (k := 1) rfl ex_29.symm (by decide) rfl (fun ls hl => ?_)
                      refine lv_goto (tgt := 85) hx hb dX5_least_132 (by decide) ?_
                      exact ih x_29 v_15 (g_14) _ _ _ (hP.sub [0, 1, 2, 3] rfl) (hD.sub [0, 1, 2, 3] (by decide) rfl) hS (lv_sub hl [0, 2, 3, 4, 5, 6, 7, 8] rfl) hbv_15 (show zKn kq aq tq wn.toInt.toNat wh.toInt (fc 0).toInt (fc 1).toInt (fc 2).toInt wg.toInt g_14 from by exact hvi_85_0) (show (v_15 : Int32).toInt = zFi tq d.toInt sec.toInt (zPw 4 * zAt (fc 1).toInt (fc 2).toInt sec.toInt) (zLv (zLn kq aq tq wn.toInt.toNat wh.toInt (fc 0).toInt (fc 1).toInt (fc 2).toInt 3) kq aq tq (fc 0).toInt (zPw 4) wh.toInt d.toInt sec.toInt) x_29.toInt.toNat from by (have hx : x_29.toInt.toNat = i_85.toInt.toNat + 1 := (by omega); have y4 := hn_22; have y9 : i_85.toNatClampNeg = i_85.toInt.toNat := rfl; rw [y9] at y4; rw [hx, zFi_n (fun z => y4 ⟨z.1, z.2, Or.inl (by omega)⟩)]; exact hvi_85_1)) (show x_29.toInt ≤ wn.toInt from by omega) (dw_lo hloi_85 qx_29) (dw_hn hni_85 qx_29)
                    · exfalso; omega
                    · refine lv_astoreN (lv' := [(8, .null), (7, .int i_85), (6, .int v_15), (5, .int x_9), (4, .int 0), (0, .ref w0), (1, .int 4), (2, .int d), (3, .int sec)]) hx hb dX5_least_106 hl (by decide) rfl (fun ls hl => ?_)
                      refine lv_aloadN hx hb dX5_least_108 (lv_at hl 0 rfl) ?_
                      refine lv_ifnullN (tgt := 129) hx hb dX5_least_110 (by decide) ?_
                      obtain ⟨x_30, ex_30⟩ : ∃ y : Int32, y = i_85 + 1 := ⟨_, rfl⟩
                      have qx_30 : x_30.toInt = i_85.toInt + 1 := dw_inc ex_30 fc_18
                      refine lv_iinc (v := x_30) (lv' := [(7, .int x_30), (8, .null), (6, .int v_15), (5, .int x_9), (4, .int 0), (0, .ref w0), (1, .int 4), (2, .int d), (3, .int sec)]) hx hb dX5_least_129 hl (k := 1) rfl ex_30.symm (by decide) rfl (fun ls hl => ?_)
                      refine lv_goto (tgt := 85) hx hb dX5_least_132 (by decide) ?_
                      exact ih x_30 v_15 (g_14) _ _ _ (hP.sub [0, 1, 2, 3] rfl) (hD.sub [0, 1, 2, 3] (by decide) rfl) hS (lv_sub hl [0, 2, 3, 4, 5, 6, 7, 8] rfl) hbv_15 (show zKn kq aq tq wn.toInt.toNat wh.toInt (fc 0).toInt (fc 1).toInt (fc 2).toInt wg.toInt g_14 from by exact hvi_85_0) (show (v_15 : Int32).toInt = zFi tq d.toInt sec.toInt (zPw 4 * zAt (fc 1).toInt (fc 2).toInt sec.toInt) (zLv (zLn kq aq tq wn.toInt.toNat wh.toInt (fc 0).toInt (fc 1).toInt (fc 2).toInt 3) kq aq tq (fc 0).toInt (zPw 4) wh.toInt d.toInt sec.toInt) x_30.toInt.toNat from by (have hx : x_30.toInt.toNat = i_85.toInt.toNat + 1 := (by omega); have y4 := hn_26; have y9 : i_85.toNatClampNeg = i_85.toInt.toNat := rfl; rw [y9] at y4; rw [hx, zFi_n (fun z => y4 ⟨z.1, z.2, Or.inl (by omega)⟩)]; exact hvi_85_1)) (show x_30.toInt ≤ wn.toInt from by omega) (dw_lo hloi_85 qx_30) (dw_hn hni_85 qx_30)
                    · refine W.eq (g2 := F0 m 106 ls (.ref u_28 :: [])) rfl ?_
                      obtain ⟨hku_28, hau_28, htu_28⟩ := zPu_pr (hZ.kept hS) huu_28
                      refine lv_astore (lv' := [(8, .ref u_28), (7, .int i_85), (6, .int v_15), (5, .int x_9), (4, .int 0), (0, .ref w0), (1, .int 4), (2, .int d), (3, .int sec)]) hx hb dX5_least_106 hl (by decide) rfl (fun ls hl => ?_)
                      refine lv_aload hx hb dX5_least_108 (lv_at hl 0 rfl) ?_
                      refine lv_ifnull hx hb dX5_least_110 ?_
                      refine lv_iload hx hb dX5_least_113 (lv_at hl 2 rfl) ?_
                      refine lv_aload_n hx hb dX5_least_115 rfl (lv_at hl 5 rfl) ?_
                      refine lv_aload hx hb dX5_least_116 (lv_at hl 0 rfl) ?_
                      refine lv_iload_n hx hb dX5_least_118 rfl (lv_at hl 6 rfl) ?_
                      refine lv_iload_n hx hb dX5_least_119 rfl (lv_at hl 7 rfl) ?_
                      refine lv_iload_n hx hb dX5_least_120 rfl (lv_at hl 8 rfl) ?_
                      have tsu_28 : tu_28.toInt ≤ sec.toInt := by (obtain ⟨⟨y1, y2, y3⟩, y4⟩ := hkku_28; have z := y4.2.1; rw [y3]; exact z)
                      skip
                      refine zw_V (As := [.ref u_28, .int 4, .int d, .int sec]) (rest := [.int v_15]) (wr := []) ⟨hx, hb, hml, hown, hts⟩ (c_F_W_leastBy_4 l D cI cJ cZ cP cS po w0 wk wl wc wp (wn) (wh) (wg) fq kq aq tq (tw) g_14 fc (d) (sec) u_28 (kiu_28) (au_28) (tu_28) huu_28 ⟨by omega, by omega, by omega, by omega⟩ hy0 hy1 hy2 hy3 hy4 hy5 hjw (by first | assumption | omega) (by first | assumption | omega) (by first | assumption | omega | decide) hy10 hy11 hy12 hy13 (by omega) hp_fc H.size) (cwV 4 hts gX5_least_X5_leastBy rfl rfl rfl ⟨rfl, dh_X5_leastBy⟩ ⟨Nat.le_of_ble_eq_true rfl, Nat.le_of_ble_eq_true rfl⟩) hK hN (hZ.kept hS) hP hD hS hA [0, 1, 2, 3] [] rfl rfl (by decide) (by decide) (by decide) (va_recv (q := (RX5, TX5, 7)) hK hP (ci := 5) (q0 := 0) rfl rfl) rfl hl.1 rfl (Nat.le_of_ble_eq_true rfl) dX5_least_121 ⟨Nat.le_of_ble_eq_true rfl, Nat.le_of_ble_eq_true rfl⟩ (fun r_31 u_32 H locs hr_31 hP hD hS => ?_)
                      obtain ⟨q_33, rfl⟩ : ∃ z, z = u_32 := ⟨_, rfl⟩
                      obtain ⟨hsr_31_0, hsr_31_1, hr_31⟩ := hr_31
                      have h9R := zRe (ws' := [(w0, .inr (5, [.ref wk, .ref wl, .ref wc, .ref wp, .int wn, .int wh, .int wg])), (wl, .inl (cI, 125, .inl q_33)), (wc, .inl (cI, 3, .inl fc)), (wp, .inl (cP, 8, .inr (.inr (.inr (.inr fq)))))]) hP hD rfl
                      clear hP hD
                      obtain ⟨hP, hD⟩ := h9R
                      obtain ⟨g_34, g_35⟩ := hr_31
                      refine va_mmin hx hb (hml.trans hl.1.symm) hown (hts (.methodLink RX5 110 Lib.Math.min.name) (List.mem_of_getElem? (i := 4) rfl)) (hts _ (List.mem_of_getElem? (i := 5) rfl)) (hts _ (List.mem_of_getElem? (i := 6) rfl)) (hts _ (List.mem_of_getElem? (i := 7) rfl)) (Nat.le_of_ble_eq_true rfl) (Nat.le_of_ble_eq_true rfl) (Nat.le_of_ble_eq_true rfl) (Nat.le_of_ble_eq_true rfl) dX5_least_124 ?_
                      refine lv_topi (fun x_36 ex_36 => ?_)
                      have qx_36 := zf_min ex_36 (x1 := v_15.toInt) (y1 := r_31.toInt) rfl rfl
                      refine lv_istore (lv' := [(6, .int x_36), (8, .ref u_28), (7, .int i_85), (5, .int x_9), (4, .int 0), (0, .ref w0), (1, .int 4), (2, .int d), (3, .int sec)]) hx hb dX5_least_127 hl (by decide) rfl (fun ls hl => ?_)
                      obtain ⟨x_37, ex_37⟩ : ∃ y : Int32, y = i_85 + 1 := ⟨_, rfl⟩
                      have qx_37 : x_37.toInt = i_85.toInt + 1 := dw_inc ex_37 fc_18
                      refine lv_iinc (v := x_37) (lv' := [(7, .int x_37), (6, .int x_36), (8, .ref u_28), (5, .int x_9), (4, .int 0), (0, .ref w0), (1, .int 4), (2, .int d), (3, .int sec)]) hx hb dX5_least_129 hl (k := 2) rfl ex_37.symm (by decide) rfl (fun ls hl => ?_)
                      refine lv_goto (tgt := 85) hx hb dX5_least_132 (by decide) ?_
                      exact ih x_37 x_36 (q_33) _ _ _ (hP.sub [0, 1, 2, 3] rfl) (hD.sub [0, 1, 2, 3] (by decide) rfl) hS (lv_sub hl [0, 1, 3, 4, 5, 6, 7, 8] rfl) ⟨by omega, by omega⟩ (show zKn kq aq tq wn.toInt.toNat wh.toInt (fc 0).toInt (fc 1).toInt (fc 2).toInt wg.toInt q_33 from by exact hsr_31_0) (show (x_36 : Int32).toInt = zFi tq d.toInt sec.toInt (zPw 4 * zAt (fc 1).toInt (fc 2).toInt sec.toInt) (zLv (zLn kq aq tq wn.toInt.toNat wh.toInt (fc 0).toInt (fc 1).toInt (fc 2).toInt 3) kq aq tq (fc 0).toInt (zPw 4) wh.toInt d.toInt sec.toInt) x_37.toInt.toNat from by (have hx : x_37.toInt.toNat = i_85.toInt.toNat + 1 := (by omega); obtain ⟨⟨y1, y2, y3⟩, y4⟩ := hkku_28; have y9 : i_85.toNatClampNeg = i_85.toInt.toNat := rfl; rw [y9] at y1 y2 y3 y4; rw [hx, zFi_y ⟨y4.1, y4.2.1⟩, ← hvi_85_1]; have zr := hsr_31_1; rw [y1, y2, y3] at zr; have zr2 : r_31.toInt = (zLv (zLn kq aq tq wn.toInt.toNat wh.toInt (fc 0).toInt (fc 1).toInt (fc 2).toInt 3) kq aq tq (fc 0).toInt (zPw 4) wh.toInt d.toInt sec.toInt) i_85.toInt.toNat := zr; omega)) (show x_37.toInt ≤ wn.toInt from by omega) (dw_lo hloi_85 qx_37) (dw_hn hni_85 qx_37)
            · exact absurd c_10 (by decide)
          · have fc_7 : x_6.toInt ≤ sec.toInt := zf_nlt c_7 rfl rfl
            refine lv_iconst (v := 1) hx hb dX5_least_35 (by decide) ?_
            refine lv_goto (tgt := 40) hx hb dX5_least_36 (by decide) ?_
            refine lv_istore (lv' := [(4, .int 1), (0, .ref w0), (1, .int 4), (2, .int d), (3, .int sec)]) hx hb dX5_least_40 hl (by decide) rfl (fun ls hl => ?_)
            refine lv_iload_n hx hb dX5_least_42 rfl (lv_at hl 2 rfl) ?_
            refine lv_bipush (v := 25) hx hb dX5_least_43 (by decide) ?_
            refine lv_imul hx hb dX5_least_45 ?_
            refine lv_topi (fun y_38 ey_38 => ?_)
            obtain rfl : y_38 = 100 := ey_38.trans (by decide)
            refine lv_iload_n hx hb dX5_least_46 rfl (lv_at hl 3 rfl) ?_
            refine lv_iadd hx hb dX5_least_47 ?_
            refine lv_topi (fun x_39 ex_39 => ?_)
            have qx_39 : x_39.toInt = 100 + d.toInt := by rw [ex_39]; exact zf_add (by decide) rfl (by omega) (by omega)
            refine lv_istore (lv' := [(5, .int x_39), (4, .int 1), (0, .ref w0), (1, .int 4), (2, .int d), (3, .int sec)]) hx hb dX5_least_48 hl (by decide) rfl (fun ls hl => ?_)
            refine lv_iload hx hb dX5_least_50 (lv_at hl 1 rfl) ?_
            refine lv_if_eq (tgt := 74) hx hb dX5_least_52 (by decide) (fun c_40 => ?_) (fun c_40 => ?_)
            · exact absurd c_40 (by decide)
            · refine lv_aload_n hx hb dX5_least_55 rfl (lv_at hl 2 rfl) ?_
              refine va_get (D := D) (ci := 5) (v := .ref wl) (C := RX5) (T := TX5) (N := 7) hx hb hts hi_X5_least_5 hown hK hP 0 rfl rfl 1 (by decide) (hts (.fieldLink RX5 15 "TheLiningsInIt$Ways" "knownLeast" "[I") (List.mem_of_getElem? (i := 2) rfl)) (fun _ h9 => h9) rfl dX5_least_56 ?_
              refine lv_iload hx hb dX5_least_59 (lv_at hl 0 rfl) ?_
              refine va_iald hx hb hK hP 1 0 rfl rfl (zf_in (by omega) (by omega)) dX5_least_61 ?_
              refine lv_topi (fun x_41 ex_41 => ?_)
              refine lv_iconst (v := (-1)) hx hb dX5_least_62 (by decide) ?_
              refine lv_icmp_eq (tgt := 74) hx hb dX5_least_63 (by decide) (fun c_42 => ?_) (fun c_42 => ?_)
              · have fc_42 : x_41.toInt = (-1) := zf_eq c_42 rfl (by decide)
                refine lv_aload_n hx hb dX5_least_74 rfl (lv_at hl 2 rfl) ?_
                refine lv_iload_n hx hb dX5_least_75 rfl (lv_at hl 3 rfl) ?_
                refine lv_iload_n hx hb dX5_least_76 rfl (lv_at hl 5 rfl) ?_
                refine zc_V (As := [.int 4, .int sec]) (rest := []) ⟨hx, hb, hml, hown, hts⟩ (c_F_W_leastAtOnce_4 l D cI cJ cZ cP cS po w0 wk wl wc wp (wn) (wh) (wg) fc (sec) hy0 hy1 hy2 hy3 hy4 hy5 hy12 hy13 hp_fc) (cwV 2 hts gX5_least_X5_leastAtOnce rfl rfl rfl ⟨rfl, dh_X5_leastAtOnce⟩ ⟨Nat.le_of_ble_eq_true rfl, Nat.le_of_ble_eq_true rfl⟩) hK hN (hZ.kept hS) hP (hP.sub [0, 2] rfl) (va_recv (q := (RX5, TX5, 7)) hK hP (ci := 5) (q0 := 0) rfl rfl) rfl hl.1 rfl (Nat.le_of_ble_eq_true rfl) dX5_least_77 ⟨Nat.le_of_ble_eq_true rfl, Nat.le_of_ble_eq_true rfl⟩ (fun r_43 hr_43 => ?_)
                obtain ⟨g_44, g_45, hsr_43_0⟩ := hr_43
                refine lv_istore (lv' := [(6, .int r_43), (5, .int x_39), (4, .int 1), (0, .ref w0), (1, .int 4), (2, .int d), (3, .int sec)]) hx hb dX5_least_80 hl (by decide) rfl (fun ls hl => ?_)
                refine lv_iconst (v := 0) hx hb dX5_least_82 (by decide) ?_
                refine lv_istore (lv' := [(7, .int 0), (6, .int r_43), (5, .int x_39), (4, .int 1), (0, .ref w0), (1, .int 4), (2, .int d), (3, .int sec)]) hx hb dX5_least_83 hl (by decide) rfl (fun ls hl => ?_)
                obtain ⟨i_85, hi_85⟩ : ∃ i : Int32, i = 0 := ⟨_, rfl⟩
                replace hl : lv_has ls 9 [(7, .int i_85), (6, .int r_43), (5, .int x_39), (4, .int 1), (0, .ref w0), (1, .int 4), (2, .int d), (3, .int sec)] := by rw [hi_85]; exact lv_sub hl [0, 1, 2, 3, 4, 5, 6, 7] rfl
                have h1i_85 : i_85.toInt = 0 := by rw [hi_85]; decide
                obtain ⟨nfu, hni_85⟩ : ∃ nq9 : Nat, wn.toInt ≤ i_85.toInt + (nq9 : Int) := ⟨((wn.toInt : Int) - 0).toNat, by omega⟩
                have hloi_85 : 0 ≤ i_85.toInt := by omega
                obtain ⟨g_46, hg_46⟩ : ∃ g : Nat → Int32, g = fl := ⟨_, rfl⟩
                replace hP : va_P D vwCl [(w0, .inr (5, [.ref wk, .ref wl, .ref wc, .ref wp, .int wn, .int wh, .int wg])), (wl, .inl (cI, 125, .inl g_46)), (wc, .inl (cI, 3, .inl fc)), (wp, .inl (cP, 8, .inr (.inr (.inr (.inr fq)))))] H := by rw [hg_46]; exact hP
                replace hD : va_D (va_A [(w0, .inr (5, [.ref wk, .ref wl, .ref wc, .ref wp, .int wn, .int wh, .int wg])), (wl, .inl (cI, 125, .inl fl)), (wc, .inl (cI, 3, .inl fc)), (wp, .inl (cP, 8, .inr (.inr (.inr (.inr fq)))))] s.heap.size) [(w0, .inr (5, [.ref wk, .ref wl, .ref wc, .ref wp, .int wn, .int wh, .int wg])), (wl, .inl (cI, 125, .inl g_46)), (wc, .inl (cI, 3, .inl fc)), (wp, .inl (cP, 8, .inr (.inr (.inr (.inr fq)))))] := by rw [hg_46]; exact hD
                obtain ⟨v_47, hv_47⟩ : ∃ g : Int32, g = r_43 := ⟨_, rfl⟩
                replace hl : lv_has ls 9 [(7, .int i_85), (6, .int v_47), (5, .int x_39), (4, .int 1), (0, .ref w0), (1, .int 4), (2, .int d), (3, .int sec)] := by rw [hv_47]; exact hl
                have hbv_47 : 0 ≤ v_47.toInt ∧ v_47.toInt ≤ 2052864 := by rw [hv_47]; exact ⟨by omega, by omega⟩
                have hvi_85_0 : zKn kq aq tq wn.toInt.toNat wh.toInt (fc 0).toInt (fc 1).toInt (fc 2).toInt wg.toInt g_46 := by
                  (try rw [hi_85]); (try rw [hg_46]); (try rw [hv_47]); exact hkn
                have hvi_85_1 : (v_47 : Int32).toInt = zFi tq d.toInt sec.toInt (zPw 4 * zAt (fc 1).toInt (fc 2).toInt sec.toInt) (zLv (zLn kq aq tq wn.toInt.toNat wh.toInt (fc 0).toInt (fc 1).toInt (fc 2).toInt 3) kq aq tq (fc 0).toInt (zPw 4) wh.toInt d.toInt sec.toInt) i_85.toInt.toNat := by
                  (try rw [hi_85]); (try rw [hg_46]); (try rw [hv_47]); (rw [(show ((0 : Int32).toInt.toNat) = 0 from by decide)]; exact hsr_43_0)
                have hvi_85_2 : i_85.toInt ≤ wn.toInt := by
                  (try rw [hi_85]); (try rw [hg_46]); (try rw [hv_47]); (have k0 : (0 : Int32).toInt = 0 := (by decide); omega)
                clear h1i_85 hi_85 hg_46 hv_47
                skip
                revert hni_85
                revert hloi_85
                revert hvi_85_2
                revert hvi_85_1
                revert hvi_85_0
                revert hbv_47
                revert hl
                revert hS
                revert hD
                revert hP
                revert ls
                revert locs
                revert H
                revert g_46
                revert v_47
                revert i_85
                induction nfu with
                | zero =>
                  intro i_85 v_47 g_46 H locs ls hP hD hS hl hbv_47 hvi_85_0 hvi_85_1 hvi_85_2 hloi_85 hni_85
                  have hzi_85 : wn.toInt ≤ i_85.toInt := by omega
                  refine lv_iload hx hb dX5_least_85 (lv_at hl 0 rfl) ?_
                  refine lv_aload_n hx hb dX5_least_87 rfl (lv_at hl 4 rfl) ?_
                  refine va_get (D := D) (ci := 5) (v := .int wn) (C := RX5) (T := TX5) (N := 7) hx hb hts hi_X5_least_5 hown hK hP 0 rfl rfl 4 (by decide) (hts (.fieldLink RX5 27 "TheLiningsInIt$Ways" "count" "I") (List.mem_of_getElem? (i := 3) rfl)) (fun _ h9 => h9) rfl dX5_least_88 ?_
                  refine lv_icmp_ge (tgt := 135) hx hb dX5_least_91 (by decide) (fun c_48 => ?_) (fun c_48 => ?_)
                  · have fc_48 : wn.toInt ≤ i_85.toInt := zf_le c_48 rfl rfl
                    refine lv_iload hx hb dX5_least_135 (lv_at hl 3 rfl) ?_
                    refine lv_if_eq (tgt := 149) hx hb dX5_least_137 (by decide) (fun c_49 => ?_) (fun c_49 => ?_)
                    · exact absurd c_49 (by decide)
                    · refine lv_aload_n hx hb dX5_least_140 rfl (lv_at hl 4 rfl) ?_
                      refine va_get (D := D) (ci := 5) (v := .ref wl) (C := RX5) (T := TX5) (N := 7) hx hb hts hi_X5_least_5 hown hK hP 0 rfl rfl 1 (by decide) (hts (.fieldLink RX5 15 "TheLiningsInIt$Ways" "knownLeast" "[I") (List.mem_of_getElem? (i := 2) rfl)) (fun _ h9 => h9) rfl dX5_least_141 ?_
                      refine lv_iload hx hb dX5_least_144 (lv_at hl 2 rfl) ?_
                      refine lv_iload hx hb dX5_least_146 (lv_at hl 1 rfl) ?_
                      refine va_iast hx hb hK hP hD hS 1 0 rfl rfl (zf_in (by omega) (by omega)) dX5_least_148 (fun H locs hP hD hS => ?_)
                      obtain ⟨g_50, hg_50⟩ : ∃ g : Nat → Int32, g = upd g_46 x_39.toNatClampNeg v_47 := ⟨_, rfl⟩
                      rw [← hg_50] at hP hD
                      have h9R := zRe (ws' := [(w0, .inr (5, [.ref wk, .ref wl, .ref wc, .ref wp, .int wn, .int wh, .int wg])), (wl, .inl (cI, 125, .inl g_50)), (wc, .inl (cI, 3, .inl fc)), (wp, .inl (cP, 8, .inr (.inr (.inr (.inr fq)))))]) hP hD rfl
                      clear hP hD
                      obtain ⟨hP, hD⟩ := h9R
                      refine lv_iload hx hb dX5_least_149 (lv_at hl 1 rfl) ?_
                      exact W.iret (v := v_47) hx hb hr (fun t ht hW => ⟨⟨v_47, g_50, rfl, ⟨(show zKn kq aq tq wn.toInt.toNat wh.toInt (fc 0).toInt (fc 1).toInt (fc 2).toInt wg.toInt g_50 from by (rw [hg_50]; exact zKn_u (m := 4) (d := d) (s := sec) hvi_85_0 (by omega) hgl (by omega) ⟨by omega, by omega⟩ (by omega) (by have h9 : i_85.toInt.toNat = wn.toInt.toNat := (by omega); have z := hvi_85_1; rw [h9] at z; rw [zLn_s, if_neg (by omega)]; exact z))), (show (v_47 : Int32).toInt = (zLn kq aq tq wn.toInt.toNat wh.toInt (fc 0).toInt (fc 1).toInt (fc 2).toInt 4) d.toInt sec.toInt from by (have h9 : i_85.toInt.toNat = wn.toInt.toNat := (by omega); have z := hvi_85_1; rw [h9] at z; rw [zLn_s, if_neg (by omega)]; exact z)), ⟨by omega, by omega⟩⟩, zRet ht hP hD [0, 1, 2, 3] (by decide) rfl⟩, hS.F ht⟩) hS.2.2 dX5_least_151
                  · exfalso; have fc_48 : i_85.toInt < wn.toInt := zf_nle c_48 rfl rfl; omega
                | succ nfu ih =>
                  intro i_85 v_47 g_46 H locs ls hP hD hS hl hbv_47 hvi_85_0 hvi_85_1 hvi_85_2 hloi_85 hni_85
                  refine lv_iload hx hb dX5_least_85 (lv_at hl 0 rfl) ?_
                  refine lv_aload_n hx hb dX5_least_87 rfl (lv_at hl 4 rfl) ?_
                  refine va_get (D := D) (ci := 5) (v := .int wn) (C := RX5) (T := TX5) (N := 7) hx hb hts hi_X5_least_5 hown hK hP 0 rfl rfl 4 (by decide) (hts (.fieldLink RX5 27 "TheLiningsInIt$Ways" "count" "I") (List.mem_of_getElem? (i := 3) rfl)) (fun _ h9 => h9) rfl dX5_least_88 ?_
                  refine lv_icmp_ge (tgt := 135) hx hb dX5_least_91 (by decide) (fun c_51 => ?_) (fun c_51 => ?_)
                  · have fc_51 : wn.toInt ≤ i_85.toInt := zf_le c_51 rfl rfl
                    refine lv_iload hx hb dX5_least_135 (lv_at hl 3 rfl) ?_
                    refine lv_if_eq (tgt := 149) hx hb dX5_least_137 (by decide) (fun c_52 => ?_) (fun c_52 => ?_)
                    · exact absurd c_52 (by decide)
                    · refine lv_aload_n hx hb dX5_least_140 rfl (lv_at hl 4 rfl) ?_
                      refine va_get (D := D) (ci := 5) (v := .ref wl) (C := RX5) (T := TX5) (N := 7) hx hb hts hi_X5_least_5 hown hK hP 0 rfl rfl 1 (by decide) (hts (.fieldLink RX5 15 "TheLiningsInIt$Ways" "knownLeast" "[I") (List.mem_of_getElem? (i := 2) rfl)) (fun _ h9 => h9) rfl dX5_least_141 ?_
                      refine lv_iload hx hb dX5_least_144 (lv_at hl 2 rfl) ?_
                      refine lv_iload hx hb dX5_least_146 (lv_at hl 1 rfl) ?_
                      refine va_iast hx hb hK hP hD hS 1 0 rfl rfl (zf_in (by omega) (by omega)) dX5_least_148 (fun H locs hP hD hS => ?_)
                      obtain ⟨g_53, hg_53⟩ : ∃ g : Nat → Int32, g = upd g_46 x_39.toNatClampNeg v_47 := ⟨_, rfl⟩
                      rw [← hg_53] at hP hD
                      have h9R := zRe (ws' := [(w0, .inr (5, [.ref wk, .ref wl, .ref wc, .ref wp, .int wn, .int wh, .int wg])), (wl, .inl (cI, 125, .inl g_53)), (wc, .inl (cI, 3, .inl fc)), (wp, .inl (cP, 8, .inr (.inr (.inr (.inr fq)))))]) hP hD rfl
                      clear hP hD
                      obtain ⟨hP, hD⟩ := h9R
                      refine lv_iload hx hb dX5_least_149 (lv_at hl 1 rfl) ?_
                      exact W.iret (v := v_47) hx hb hr (fun t ht hW => ⟨⟨v_47, g_53, rfl, ⟨(show zKn kq aq tq wn.toInt.toNat wh.toInt (fc 0).toInt (fc 1).toInt (fc 2).toInt wg.toInt g_53 from by (rw [hg_53]; exact zKn_u (m := 4) (d := d) (s := sec) hvi_85_0 (by omega) hgl (by omega) ⟨by omega, by omega⟩ (by omega) (by have h9 : i_85.toInt.toNat = wn.toInt.toNat := (by omega); have z := hvi_85_1; rw [h9] at z; rw [zLn_s, if_neg (by omega)]; exact z))), (show (v_47 : Int32).toInt = (zLn kq aq tq wn.toInt.toNat wh.toInt (fc 0).toInt (fc 1).toInt (fc 2).toInt 4) d.toInt sec.toInt from by (have h9 : i_85.toInt.toNat = wn.toInt.toNat := (by omega); have z := hvi_85_1; rw [h9] at z; rw [zLn_s, if_neg (by omega)]; exact z)), ⟨by omega, by omega⟩⟩, zRet ht hP hD [0, 1, 2, 3] (by decide) rfl⟩, hS.F ht⟩) hS.2.2 dX5_least_151
                  · have fc_51 : i_85.toInt < wn.toInt := zf_nle c_51 rfl rfl
                    refine lv_iload_n hx hb dX5_least_94 rfl (lv_at hl 5 rfl) ?_
                    refine lv_if_le (tgt := 135) hx hb dX5_least_95 (by decide) (fun c_54 => ?_) (fun c_54 => ?_)
                    · exact absurd c_54 (by decide)
                    · refine lv_aload_n hx hb dX5_least_98 rfl (lv_at hl 4 rfl) ?_
                      refine lv_iload hx hb dX5_least_99 (lv_at hl 0 rfl) ?_
                      refine lv_iload_n hx hb dX5_least_101 rfl (lv_at hl 6 rfl) ?_
                      refine lv_iload_n hx hb dX5_least_102 rfl (lv_at hl 7 rfl) ?_
                      refine zc_Vq (As := [.int i_85, .int d, .int sec]) (rest := []) ⟨hx, hb, hml, hown, hts⟩ (c_F_W_mayBeAt l D cI cJ cZ cP cS po w0 wk wl wc wp (wn) (wh) (wg) fq kq aq tq (tw) (i_85) (d) (sec) hy0 hy1 hy2 hy3 hy4 hy5 hjw (by omega) (by omega) (by omega) hy12 hy13) (cwV 3 hts gX5_least_X5_mayBeAt rfl rfl rfl ⟨rfl, dh_X5_mayBeAt⟩ ⟨Nat.le_of_ble_eq_true rfl, Nat.le_of_ble_eq_true rfl⟩) hK hN (hZ.kept hS) hP (hP.sub [0, 3] rfl) (va_recv (q := (RX5, TX5, 7)) hK hP (ci := 5) (q0 := 0) rfl rfl) rfl hl.1 rfl (Nat.le_of_ble_eq_true rfl) dX5_least_103 ⟨Nat.le_of_ble_eq_true rfl, Nat.le_of_ble_eq_true rfl⟩ (fun r_55 hr_55 => ?_)
                      rcases hr_55 with ⟨rfl, hn_56⟩ | ⟨rfl, hn_58, g_57⟩ | ⟨rfl, hn_60, g_59⟩ | ⟨⟨u_62, kiu_62, au_62, tu_62, rfl, huu_62, hkku_62⟩, g_61⟩
                      · refine lv_astoreN (lv' := [(8, .null), (7, .int i_85), (6, .int v_47), (5, .int x_39), (4, .int 1), (0, .ref w0), (1, .int 4), (2, .int d), (3, .int sec)]) hx hb dX5_least_106 hl (by decide) rfl (fun ls hl => ?_)
                        refine lv_aloadN hx hb dX5_least_108 (lv_at hl 0 rfl) ?_
                        refine lv_ifnullN (tgt := 129) hx hb dX5_least_110 (by decide) ?_
                        obtain ⟨x_63, ex_63⟩ : ∃ y : Int32, y = i_85 + 1 := ⟨_, rfl⟩
                        have qx_63 : x_63.toInt = i_85.toInt + 1 := dw_inc ex_63 fc_51
                        refine lv_iinc (v := x_63) (lv' := [(7, .int x_63), (8, .null), (6, .int v_47), (5, .int x_39), (4, .int 1), (0, .ref w0), (1, .int 4), (2, .int d), (3, .int sec)]) hx hb dX5_least_129 hl (k := 1) rfl ex_63.symm (by decide) rfl (fun ls hl => ?_)
                        refine lv_goto (tgt := 85) hx hb dX5_least_132 (by decide) ?_
                        exact ih x_63 v_47 (g_46) _ _ _ (hP.sub [0, 1, 2, 3] rfl) (hD.sub [0, 1, 2, 3] (by decide) rfl) hS (lv_sub hl [0, 2, 3, 4, 5, 6, 7, 8] rfl) hbv_47 (show zKn kq aq tq wn.toInt.toNat wh.toInt (fc 0).toInt (fc 1).toInt (fc 2).toInt wg.toInt g_46 from by exact hvi_85_0) (show (v_47 : Int32).toInt = zFi tq d.toInt sec.toInt (zPw 4 * zAt (fc 1).toInt (fc 2).toInt sec.toInt) (zLv (zLn kq aq tq wn.toInt.toNat wh.toInt (fc 0).toInt (fc 1).toInt (fc 2).toInt 3) kq aq tq (fc 0).toInt (zPw 4) wh.toInt d.toInt sec.toInt) x_63.toInt.toNat from by (have hx : x_63.toInt.toNat = i_85.toInt.toNat + 1 := (by omega); have y4 := hn_56; have y9 : i_85.toNatClampNeg = i_85.toInt.toNat := rfl; rw [y9] at y4; rw [hx, zFi_n (fun z => y4 ⟨z.1, z.2, Or.inl (by omega)⟩)]; exact hvi_85_1)) (show x_63.toInt ≤ wn.toInt from by omega) (dw_lo hloi_85 qx_63) (dw_hn hni_85 qx_63)
                      · exfalso; omega
                      · refine lv_astoreN (lv' := [(8, .null), (7, .int i_85), (6, .int v_47), (5, .int x_39), (4, .int 1), (0, .ref w0), (1, .int 4), (2, .int d), (3, .int sec)]) hx hb dX5_least_106 hl (by decide) rfl (fun ls hl => ?_)
                        refine lv_aloadN hx hb dX5_least_108 (lv_at hl 0 rfl) ?_
                        refine lv_ifnullN (tgt := 129) hx hb dX5_least_110 (by decide) ?_
                        obtain ⟨x_64, ex_64⟩ : ∃ y : Int32, y = i_85 + 1 := ⟨_, rfl⟩
                        have qx_64 : x_64.toInt = i_85.toInt + 1 := dw_inc ex_64 fc_51
                        refine lv_iinc (v := x_64) (lv' := [(7, .int x_64), (8, .null), (6, .int v_47), (5, .int x_39), (4, .int 1), (0, .ref w0), (1, .int 4), (2, .int d), (3, .int sec)]) hx hb dX5_least_129 hl (k := 1) rfl ex_64.symm (by decide) rfl (fun ls hl => ?_)
                        refine lv_goto (tgt := 85) hx hb dX5_least_132 (by decide) ?_
                        exact ih x_64 v_47 (g_46) _ _ _ (hP.sub [0, 1, 2, 3] rfl) (hD.sub [0, 1, 2, 3] (by decide) rfl) hS (lv_sub hl [0, 2, 3, 4, 5, 6, 7, 8] rfl) hbv_47 (show zKn kq aq tq wn.toInt.toNat wh.toInt (fc 0).toInt (fc 1).toInt (fc 2).toInt wg.toInt g_46 from by exact hvi_85_0) (show (v_47 : Int32).toInt = zFi tq d.toInt sec.toInt (zPw 4 * zAt (fc 1).toInt (fc 2).toInt sec.toInt) (zLv (zLn kq aq tq wn.toInt.toNat wh.toInt (fc 0).toInt (fc 1).toInt (fc 2).toInt 3) kq aq tq (fc 0).toInt (zPw 4) wh.toInt d.toInt sec.toInt) x_64.toInt.toNat from by (have hx : x_64.toInt.toNat = i_85.toInt.toNat + 1 := (by omega); have y4 := hn_60; have y9 : i_85.toNatClampNeg = i_85.toInt.toNat := rfl; rw [y9] at y4; rw [hx, zFi_n (fun z => y4 ⟨z.1, z.2, Or.inl (by omega)⟩)]; exact hvi_85_1)) (show x_64.toInt ≤ wn.toInt from by omega) (dw_lo hloi_85 qx_64) (dw_hn hni_85 qx_64)
                      · refine W.eq (g2 := F0 m 106 ls (.ref u_62 :: [])) rfl ?_
                        obtain ⟨hku_62, hau_62, htu_62⟩ := zPu_pr (hZ.kept hS) huu_62
                        refine lv_astore (lv' := [(8, .ref u_62), (7, .int i_85), (6, .int v_47), (5, .int x_39), (4, .int 1), (0, .ref w0), (1, .int 4), (2, .int d), (3, .int sec)]) hx hb dX5_least_106 hl (by decide) rfl (fun ls hl => ?_)
                        refine lv_aload hx hb dX5_least_108 (lv_at hl 0 rfl) ?_
                        refine lv_ifnull hx hb dX5_least_110 ?_
                        refine lv_iload hx hb dX5_least_113 (lv_at hl 2 rfl) ?_
                        refine lv_aload_n hx hb dX5_least_115 rfl (lv_at hl 5 rfl) ?_
                        refine lv_aload hx hb dX5_least_116 (lv_at hl 0 rfl) ?_
                        refine lv_iload_n hx hb dX5_least_118 rfl (lv_at hl 6 rfl) ?_
                        refine lv_iload_n hx hb dX5_least_119 rfl (lv_at hl 7 rfl) ?_
                        refine lv_iload_n hx hb dX5_least_120 rfl (lv_at hl 8 rfl) ?_
                        have tsu_62 : tu_62.toInt ≤ sec.toInt := by (obtain ⟨⟨y1, y2, y3⟩, y4⟩ := hkku_62; have z := y4.2.1; rw [y3]; exact z)
                        skip
                        refine zw_V (As := [.ref u_62, .int 4, .int d, .int sec]) (rest := [.int v_47]) (wr := []) ⟨hx, hb, hml, hown, hts⟩ (c_F_W_leastBy_4 l D cI cJ cZ cP cS po w0 wk wl wc wp (wn) (wh) (wg) fq kq aq tq (tw) g_46 fc (d) (sec) u_62 (kiu_62) (au_62) (tu_62) huu_62 ⟨by omega, by omega, by omega, by omega⟩ hy0 hy1 hy2 hy3 hy4 hy5 hjw (by first | assumption | omega) (by first | assumption | omega) (by first | assumption | omega | decide) hy10 hy11 hy12 hy13 (by omega) hp_fc H.size) (cwV 4 hts gX5_least_X5_leastBy rfl rfl rfl ⟨rfl, dh_X5_leastBy⟩ ⟨Nat.le_of_ble_eq_true rfl, Nat.le_of_ble_eq_true rfl⟩) hK hN (hZ.kept hS) hP hD hS hA [0, 1, 2, 3] [] rfl rfl (by decide) (by decide) (by decide) (va_recv (q := (RX5, TX5, 7)) hK hP (ci := 5) (q0 := 0) rfl rfl) rfl hl.1 rfl (Nat.le_of_ble_eq_true rfl) dX5_least_121 ⟨Nat.le_of_ble_eq_true rfl, Nat.le_of_ble_eq_true rfl⟩ (fun r_65 u_66 H locs hr_65 hP hD hS => ?_)
                        obtain ⟨q_67, rfl⟩ : ∃ z, z = u_66 := ⟨_, rfl⟩
                        obtain ⟨hsr_65_0, hsr_65_1, hr_65⟩ := hr_65
                        have h9R := zRe (ws' := [(w0, .inr (5, [.ref wk, .ref wl, .ref wc, .ref wp, .int wn, .int wh, .int wg])), (wl, .inl (cI, 125, .inl q_67)), (wc, .inl (cI, 3, .inl fc)), (wp, .inl (cP, 8, .inr (.inr (.inr (.inr fq)))))]) hP hD rfl
                        clear hP hD
                        obtain ⟨hP, hD⟩ := h9R
                        obtain ⟨g_68, g_69⟩ := hr_65
                        refine va_mmin hx hb (hml.trans hl.1.symm) hown (hts (.methodLink RX5 110 Lib.Math.min.name) (List.mem_of_getElem? (i := 4) rfl)) (hts _ (List.mem_of_getElem? (i := 5) rfl)) (hts _ (List.mem_of_getElem? (i := 6) rfl)) (hts _ (List.mem_of_getElem? (i := 7) rfl)) (Nat.le_of_ble_eq_true rfl) (Nat.le_of_ble_eq_true rfl) (Nat.le_of_ble_eq_true rfl) (Nat.le_of_ble_eq_true rfl) dX5_least_124 ?_
                        refine lv_topi (fun x_70 ex_70 => ?_)
                        have qx_70 := zf_min ex_70 (x1 := v_47.toInt) (y1 := r_65.toInt) rfl rfl
                        refine lv_istore (lv' := [(6, .int x_70), (8, .ref u_62), (7, .int i_85), (5, .int x_39), (4, .int 1), (0, .ref w0), (1, .int 4), (2, .int d), (3, .int sec)]) hx hb dX5_least_127 hl (by decide) rfl (fun ls hl => ?_)
                        obtain ⟨x_71, ex_71⟩ : ∃ y : Int32, y = i_85 + 1 := ⟨_, rfl⟩
                        have qx_71 : x_71.toInt = i_85.toInt + 1 := dw_inc ex_71 fc_51
                        refine lv_iinc (v := x_71) (lv' := [(7, .int x_71), (6, .int x_70), (8, .ref u_62), (5, .int x_39), (4, .int 1), (0, .ref w0), (1, .int 4), (2, .int d), (3, .int sec)]) hx hb dX5_least_129 hl (k := 2) rfl ex_71.symm (by decide) rfl (fun ls hl => ?_)
                        refine lv_goto (tgt := 85) hx hb dX5_least_132 (by decide) ?_
                        exact ih x_71 x_70 (q_67) _ _ _ (hP.sub [0, 1, 2, 3] rfl) (hD.sub [0, 1, 2, 3] (by decide) rfl) hS (lv_sub hl [0, 1, 3, 4, 5, 6, 7, 8] rfl) ⟨by omega, by omega⟩ (show zKn kq aq tq wn.toInt.toNat wh.toInt (fc 0).toInt (fc 1).toInt (fc 2).toInt wg.toInt q_67 from by exact hsr_65_0) (show (x_70 : Int32).toInt = zFi tq d.toInt sec.toInt (zPw 4 * zAt (fc 1).toInt (fc 2).toInt sec.toInt) (zLv (zLn kq aq tq wn.toInt.toNat wh.toInt (fc 0).toInt (fc 1).toInt (fc 2).toInt 3) kq aq tq (fc 0).toInt (zPw 4) wh.toInt d.toInt sec.toInt) x_71.toInt.toNat from by (have hx : x_71.toInt.toNat = i_85.toInt.toNat + 1 := (by omega); obtain ⟨⟨y1, y2, y3⟩, y4⟩ := hkku_62; have y9 : i_85.toNatClampNeg = i_85.toInt.toNat := rfl; rw [y9] at y1 y2 y3 y4; rw [hx, zFi_y ⟨y4.1, y4.2.1⟩, ← hvi_85_1]; have zr := hsr_65_1; rw [y1, y2, y3] at zr; have zr2 : r_65.toInt = (zLv (zLn kq aq tq wn.toInt.toNat wh.toInt (fc 0).toInt (fc 1).toInt (fc 2).toInt 3) kq aq tq (fc 0).toInt (zPw 4) wh.toInt d.toInt sec.toInt) i_85.toInt.toNat := zr; omega)) (show x_71.toInt ≤ wn.toInt from by omega) (dw_lo hloi_85 qx_71) (dw_hn hni_85 qx_71)
              · have fc_42 : x_41.toInt ≠ (-1) := zf_ne c_42 rfl (by decide)
                refine lv_aload_n hx hb dX5_least_66 rfl (lv_at hl 2 rfl) ?_
                refine va_get (D := D) (ci := 5) (v := .ref wl) (C := RX5) (T := TX5) (N := 7) hx hb hts hi_X5_least_5 hown hK hP 0 rfl rfl 1 (by decide) (hts (.fieldLink RX5 15 "TheLiningsInIt$Ways" "knownLeast" "[I") (List.mem_of_getElem? (i := 2) rfl)) (fun _ h9 => h9) rfl dX5_least_67 ?_
                refine lv_iload hx hb dX5_least_70 (lv_at hl 0 rfl) ?_
                refine va_iald hx hb hK hP 1 0 rfl rfl (zf_in (by omega) (by omega)) dX5_least_72 ?_
                refine lv_topi (fun y_72 ey_72 => ?_)
                obtain rfl : x_41 = y_72 := ex_41.trans ey_72.symm
                have hmx_41 : x_41.toInt = (zLn kq aq tq wn.toInt.toNat wh.toInt (fc 0).toInt (fc 1).toInt (fc 2).toInt 4) d.toInt sec.toInt := by (have zn : (fl x_39.toNatClampNeg).toInt ≠ -1 := (by rw [← ex_41]; omega); rw [ex_41]; exact zKn_at (m := 4) hkn (by decide) (by omega) ⟨by omega, by omega⟩ (by omega) zn)
                have hrx_41 := zLn_rg (K := kq) (A := aq) (T := tq) (N := wn.toInt.toNat) (h := wh.toInt) (hp_fc 0) (hp_fc 1) (hp_fc 2) 4 d.toInt sec.toInt
                rw [← hmx_41, show zPw 4 = 20736 from by decide] at hrx_41
                exact W.iret (v := x_41) hx hb hr (fun t ht hW => ⟨⟨x_41, fl, rfl, ⟨(show zKn kq aq tq wn.toInt.toNat wh.toInt (fc 0).toInt (fc 1).toInt (fc 2).toInt wg.toInt fl from by exact hkn), (show (x_41 : Int32).toInt = (zLn kq aq tq wn.toInt.toNat wh.toInt (fc 0).toInt (fc 1).toInt (fc 2).toInt 4) d.toInt sec.toInt from by exact hmx_41), ⟨by omega, by omega⟩⟩, zRet ht hP hD [0, 1, 2, 3] (by decide) rfl⟩, hS.F ht⟩) hS.2.2 dX5_least_73
        · exfalso; have fc_4 : 24 < d.toInt := zf_nle c_4 rfl (by decide); omega

