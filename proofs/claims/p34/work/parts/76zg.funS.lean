set_option maxHeartbeats 4000000 in
set_option maxRecDepth 100000 in
theorem c_F_Pull_step (l : Launch) (D : va_G) (cI cJ cZ cP cS : ClassId) (po : zPool)  (u0 : Nat) (ki a_ ta : Int32) (hu_u0 : zPu po u0 ki a_ ta) (hr_u0 : zPr ki a_ ta) : Met l yX2_step wsX2_step ({ frames := 0, cells := 0, slots := 0, locals := 0 }) (va_Pc [.ref u0] (zR D (zKT cI cJ cZ cP cS) po [])) (vp_Si (fun r => 1 ≤ r.toInt ∧ r.toInt ≤ 5 ∧ (r.toInt = zStp ki.toInt a_.toInt))) 0 0 (fun _ => False) := by
  refine Met.ofW (cc := cX2_step) (maxL := 1) (ret := (some .int)) (by decide) rfl ?_
  intro p e s m args below meth c s₁ B hml hv
  obtain ⟨rfl, hP, hK, hN, hZ⟩ := hv
  have hx := B.exec
  have hb := B.bytes
  have hr := B.returns
  have hts := atoms_spec (ws := wsX2_step) B.pre
  have hown : s.vm.findClass RX2 = some m.cls := findClass_of_methodNamed B.named
  have hlocks := B.notSynchronized
  have hl := lv_entry ([.ref u0]) (n := 1) (Nat.le_of_ble_eq_true rfl)
  rw [lg_entry_eq]
  generalize (lg_sl ([.ref u0]) ++ List.replicate (1 - (lg_sl ([.ref u0])).length) Slot.unset).toArray = ls at hl ⊢
  replace hl : lv_has ls 1 [(0, .ref u0)] := hl
  obtain ⟨⟨p1_u0, p2_u0⟩, ⟨p3_u0, p4_u0⟩, p5_u0, p6_u0⟩ := id hr_u0
  refine lv_aload_n hx hb dX2_step_0 rfl (lv_at hl 0 rfl) ?_
  refine va_get (D := D) (ci := 2) (v := .int ki) (C := RX2) (T := TX2) (N := 3) hx hb hts hi_X2_step_2 hown hK (zPu_P hZ hu_u0) 0 rfl rfl 0 (by decide) (hts (.fieldLink RX2 9 "TheLiningsInIt$Pull" "kind" "I") (List.mem_of_getElem? (i := 1) rfl)) (fun _ h9 => h9) rfl dX2_step_1 ?_
  have hsp : ki = 0 ∨ ki = 1 ∨ ki = 2 ∨ ki = 3 ∨ ki = 4 ∨ ki = 5 ∨ ki = 6 := by
    rcases (show ki.toInt = 0 ∨ ki.toInt = 1 ∨ ki.toInt = 2 ∨ ki.toInt = 3 ∨ ki.toInt = 4 ∨ ki.toInt = 5 ∨ ki.toInt = 6 by omega) with h9 | h9 | h9 | h9 | h9 | h9 | h9
    · refine Or.inl ?_; exact zf_val h9 (by decide)
    · refine Or.inr (Or.inl ?_); exact zf_val h9 (by decide)
    · refine Or.inr (Or.inr (Or.inl ?_)); exact zf_val h9 (by decide)
    · refine Or.inr (Or.inr (Or.inr (Or.inl ?_))); exact zf_val h9 (by decide)
    · refine Or.inr (Or.inr (Or.inr (Or.inr (Or.inl ?_)))); exact zf_val h9 (by decide)
    · refine Or.inr (Or.inr (Or.inr (Or.inr (Or.inr (Or.inl ?_))))); exact zf_val h9 (by decide)
    · refine Or.inr (Or.inr (Or.inr (Or.inr (Or.inr (Or.inr (?_)))))); exact zf_val h9 (by decide)
  rcases hsp with rfl | rfl | rfl | rfl | rfl | rfl | rfl
  · have kc0 : (0 : Int32).toInt = 0 := by decide
    refine lv_tableOut (tgt := 53) hx hb dX2_step_4 (by decide) (by decide) ?_
    refine lv_iconst (v := 1) hx hb dX2_step_53 (by decide) ?_
    exact W.iret (v := 1) hx hb hr (fun t ht hW => ⟨1, rfl, ⟨by decide, by decide, (show (1 : Int32).toInt = zStp (0 : Int32).toInt a_.toInt from by (have k0 : (0 : Int32).toInt = 0 := (by decide); have k1 : (1 : Int32).toInt = 1 := (by decide); unfold zStp; (repeat (first | rw [if_pos (by omega)] | rw [if_neg (by omega)])) <;> first | rfl | omega))⟩, ht⟩) (fun q hq => by cases hq) dX2_step_54
  · have kc1 : (1 : Int32).toInt = 1 := by decide
    refine lv_tableOut (tgt := 53) hx hb dX2_step_4 (by decide) (by decide) ?_
    refine lv_iconst (v := 1) hx hb dX2_step_53 (by decide) ?_
    exact W.iret (v := 1) hx hb hr (fun t ht hW => ⟨1, rfl, ⟨by decide, by decide, (show (1 : Int32).toInt = zStp (1 : Int32).toInt a_.toInt from by (have k1 : (1 : Int32).toInt = 1 := (by decide); unfold zStp; (repeat (first | rw [if_pos (by omega)] | rw [if_neg (by omega)])) <;> first | rfl | omega))⟩, ht⟩) (fun q hq => by cases hq) dX2_step_54
  · have kc2 : (2 : Int32).toInt = 2 := by decide
    refine lv_tableIn (tgt := 40) hx hb dX2_step_4 (by decide) (by decide) rfl (by decide) ?_
    refine lv_iconst (v := 2) hx hb dX2_step_40 (by decide) ?_
    refine lv_aload_n hx hb dX2_step_41 rfl (lv_at hl 0 rfl) ?_
    refine va_get (D := D) (ci := 2) (v := .int a_) (C := RX2) (T := TX2) (N := 3) hx hb hts hi_X2_step_2 hown hK (zPu_P hZ hu_u0) 0 rfl rfl 1 (by decide) (hts (.fieldLink RX2 15 "TheLiningsInIt$Pull" "a" "I") (List.mem_of_getElem? (i := 2) rfl)) (fun _ h9 => h9) rfl dX2_step_42 ?_
    refine lv_iconst (v := 3) hx hb dX2_step_45 (by decide) ?_
    refine lv_idiv hx hb dX2_step_46 (by decide) ?_
    refine lv_topi (fun x_1 ex_1 => ?_)
    have qx_1 : x_1.toInt = a_.toInt / 3 := by rw [ex_1]; exact zf_div rfl (by decide) (by omega) (by omega)
    refine lv_iadd hx hb dX2_step_47 ?_
    refine lv_topi (fun x_2 ex_2 => ?_)
    have qx_2 : x_2.toInt = 2 + x_1.toInt := by rw [ex_2]; exact zf_add (by decide) rfl (by omega) (by omega)
    exact W.iret (v := x_2) hx hb hr (fun t ht hW => ⟨x_2, rfl, ⟨by omega, by omega, (show (x_2 : Int32).toInt = zStp (2 : Int32).toInt a_.toInt from by (have k2 : (2 : Int32).toInt = 2 := (by decide); unfold zStp; (repeat (first | rw [if_pos (by omega)] | rw [if_neg (by omega)])) <;> first | rfl | omega))⟩, ht⟩) (fun q hq => by cases hq) dX2_step_48
  · have kc3 : (3 : Int32).toInt = 3 := by decide
    refine lv_tableIn (tgt := 53) hx hb dX2_step_4 (by decide) (by decide) rfl (by decide) ?_
    refine lv_iconst (v := 1) hx hb dX2_step_53 (by decide) ?_
    exact W.iret (v := 1) hx hb hr (fun t ht hW => ⟨1, rfl, ⟨by decide, by decide, (show (1 : Int32).toInt = zStp (3 : Int32).toInt a_.toInt from by (have k1 : (1 : Int32).toInt = 1 := (by decide); have k3 : (3 : Int32).toInt = 3 := (by decide); unfold zStp; (repeat (first | rw [if_pos (by omega)] | rw [if_neg (by omega)])) <;> first | rfl | omega))⟩, ht⟩) (fun q hq => by cases hq) dX2_step_54
  · have kc4 : (4 : Int32).toInt = 4 := by decide
    refine lv_tableIn (tgt := 49) hx hb dX2_step_4 (by decide) (by decide) rfl (by decide) ?_
    refine lv_iconst (v := 2) hx hb dX2_step_49 (by decide) ?_
    exact W.iret (v := 2) hx hb hr (fun t ht hW => ⟨2, rfl, ⟨by decide, by decide, (show (2 : Int32).toInt = zStp (4 : Int32).toInt a_.toInt from by (have k2 : (2 : Int32).toInt = 2 := (by decide); have k4 : (4 : Int32).toInt = 4 := (by decide); unfold zStp; (repeat (first | rw [if_pos (by omega)] | rw [if_neg (by omega)])) <;> first | rfl | omega))⟩, ht⟩) (fun q hq => by cases hq) dX2_step_50
  · have kc5 : (5 : Int32).toInt = 5 := by decide
    refine lv_tableIn (tgt := 51) hx hb dX2_step_4 (by decide) (by decide) rfl (by decide) ?_
    refine lv_iconst (v := 4) hx hb dX2_step_51 (by decide) ?_
    exact W.iret (v := 4) hx hb hr (fun t ht hW => ⟨4, rfl, ⟨by decide, by decide, (show (4 : Int32).toInt = zStp (5 : Int32).toInt a_.toInt from by (have k4 : (4 : Int32).toInt = 4 := (by decide); have k5 : (5 : Int32).toInt = 5 := (by decide); unfold zStp; (repeat (first | rw [if_pos (by omega)] | rw [if_neg (by omega)])) <;> first | rfl | omega))⟩, ht⟩) (fun q hq => by cases hq) dX2_step_52
  · have kc6 : (6 : Int32).toInt = 6 := by decide
    refine lv_tableIn (tgt := 49) hx hb dX2_step_4 (by decide) (by decide) rfl (by decide) ?_
    refine lv_iconst (v := 2) hx hb dX2_step_49 (by decide) ?_
    exact W.iret (v := 2) hx hb hr (fun t ht hW => ⟨2, rfl, ⟨by decide, by decide, (show (2 : Int32).toInt = zStp (6 : Int32).toInt a_.toInt from by (have k2 : (2 : Int32).toInt = 2 := (by decide); have k6 : (6 : Int32).toInt = 6 := (by decide); unfold zStp; (repeat (first | rw [if_pos (by omega)] | rw [if_neg (by omega)])) <;> first | rfl | omega))⟩, ht⟩) (fun q hq => by cases hq) dX2_step_50
set_option maxHeartbeats 4000000 in
set_option maxRecDepth 100000 in
theorem c_F_Pull_calm (l : Launch) (D : va_G) (cI cJ cZ cP cS : ClassId) (po : zPool) (d : Int32) (u0 : Nat) (ki a_ ta : Int32) (hu_u0 : zPu po u0 ki a_ ta) (hr_u0 : zPr ki a_ ta) (hy2 : 0 ≤ d.toInt) (hy3 : d.toInt ≤ 24) : Met l yX2_calmWaysAt wsX2_calmWaysAt ({ frames := 0, cells := 0, slots := 0, locals := 0 }) (va_Pc [.ref u0, .int d] (zR D (zKT cI cJ cZ cP cS) po [])) (vp_Si (fun r => 0 ≤ r.toInt ∧ r.toInt ≤ 12 ∧ ((ki.toInt ≠ 5 → r.toInt = zWb ki.toInt a_.toInt d.toInt)))) 0 0 (fun _ => False) := by
  refine Met.ofW (cc := cX2_calmWaysAt) (maxL := 2) (ret := (some .int)) (by decide) rfl ?_
  intro p e s m args below meth c s₁ B hml hv
  obtain ⟨rfl, hP, hK, hN, hZ⟩ := hv
  have hx := B.exec
  have hb := B.bytes
  have hr := B.returns
  have hts := atoms_spec (ws := wsX2_calmWaysAt) B.pre
  have hown : s.vm.findClass RX2 = some m.cls := findClass_of_methodNamed B.named
  have hlocks := B.notSynchronized
  have hl := lv_entry ([.ref u0, .int d]) (n := 2) (Nat.le_of_ble_eq_true rfl)
  rw [lg_entry_eq]
  generalize (lg_sl ([.ref u0, .int d]) ++ List.replicate (2 - (lg_sl ([.ref u0, .int d])).length) Slot.unset).toArray = ls at hl ⊢
  replace hl : lv_has ls 2 [(0, .ref u0), (1, .int d)] := hl
  obtain ⟨⟨p1_u0, p2_u0⟩, ⟨p3_u0, p4_u0⟩, p5_u0, p6_u0⟩ := id hr_u0
  refine lv_aload_n hx hb dX2_calmWaysAt_0 rfl (lv_at hl 0 rfl) ?_
  refine va_get (D := D) (ci := 2) (v := .int ki) (C := RX2) (T := TX2) (N := 3) hx hb hts hi_X2_calmWaysAt_2 hown hK (zPu_P hZ hu_u0) 0 rfl rfl 0 (by decide) (hts (.fieldLink RX2 9 "TheLiningsInIt$Pull" "kind" "I") (List.mem_of_getElem? (i := 1) rfl)) (fun _ h9 => h9) rfl dX2_calmWaysAt_1 ?_
  have hsp : ki = 0 ∨ ki = 1 ∨ ki = 2 ∨ ki = 3 ∨ ki = 4 ∨ ki = 5 ∨ ki = 6 := by
    rcases (show ki.toInt = 0 ∨ ki.toInt = 1 ∨ ki.toInt = 2 ∨ ki.toInt = 3 ∨ ki.toInt = 4 ∨ ki.toInt = 5 ∨ ki.toInt = 6 by omega) with h9 | h9 | h9 | h9 | h9 | h9 | h9
    · refine Or.inl ?_; exact zf_val h9 (by decide)
    · refine Or.inr (Or.inl ?_); exact zf_val h9 (by decide)
    · refine Or.inr (Or.inr (Or.inl ?_)); exact zf_val h9 (by decide)
    · refine Or.inr (Or.inr (Or.inr (Or.inl ?_))); exact zf_val h9 (by decide)
    · refine Or.inr (Or.inr (Or.inr (Or.inr (Or.inl ?_)))); exact zf_val h9 (by decide)
    · refine Or.inr (Or.inr (Or.inr (Or.inr (Or.inr (Or.inl ?_))))); exact zf_val h9 (by decide)
    · refine Or.inr (Or.inr (Or.inr (Or.inr (Or.inr (Or.inr (?_)))))); exact zf_val h9 (by decide)
  rcases hsp with rfl | rfl | rfl | rfl | rfl | rfl | rfl
  · have kc0 : (0 : Int32).toInt = 0 := by decide
    refine lv_tableOut (tgt := 95) hx hb dX2_calmWaysAt_4 (by decide) (by decide) ?_
    refine lv_bipush (v := 6) hx hb dX2_calmWaysAt_95 (by decide) ?_
    refine lv_iload_n hx hb dX2_calmWaysAt_97 rfl (lv_at hl 1 rfl) ?_
    refine lv_iconst (v := 4) hx hb dX2_calmWaysAt_98 (by decide) ?_
    refine lv_idiv hx hb dX2_calmWaysAt_99 (by decide) ?_
    refine lv_topi (fun x_1 ex_1 => ?_)
    have qx_1 : x_1.toInt = d.toInt / 4 := by rw [ex_1]; exact zf_div rfl (by decide) (by omega) (by omega)
    refine lv_isub hx hb dX2_calmWaysAt_100 ?_
    refine lv_topi (fun x_2 ex_2 => ?_)
    have qx_2 : x_2.toInt = 6 - x_1.toInt := by rw [ex_2]; exact zf_sub (by decide) rfl (by omega) (by omega)
    exact W.iret (v := x_2) hx hb hr (fun t ht hW => ⟨x_2, rfl, ⟨by omega, by omega, (show ((0 : Int32).toInt ≠ 5 → (x_2 : Int32).toInt = zWb (0 : Int32).toInt a_.toInt d.toInt) from by (have k0 : (0 : Int32).toInt = 0 := (by decide); intro _; unfold zWb; (repeat (first | rw [if_pos (by omega)] | rw [if_neg (by omega)])) <;> first | rfl | omega))⟩, ht⟩) (fun q hq => by cases hq) dX2_calmWaysAt_101
  · have kc1 : (1 : Int32).toInt = 1 := by decide
    refine lv_tableIn (tgt := 44) hx hb dX2_calmWaysAt_4 (by decide) (by decide) rfl (by decide) ?_
    refine lv_bipush (v := 8) hx hb dX2_calmWaysAt_44 (by decide) ?_
    refine lv_iload_n hx hb dX2_calmWaysAt_46 rfl (lv_at hl 1 rfl) ?_
    refine lv_iconst (v := 4) hx hb dX2_calmWaysAt_47 (by decide) ?_
    refine lv_idiv hx hb dX2_calmWaysAt_48 (by decide) ?_
    refine lv_topi (fun x_3 ex_3 => ?_)
    have qx_3 : x_3.toInt = d.toInt / 4 := by rw [ex_3]; exact zf_div rfl (by decide) (by omega) (by omega)
    refine lv_isub hx hb dX2_calmWaysAt_49 ?_
    refine lv_topi (fun x_4 ex_4 => ?_)
    have qx_4 : x_4.toInt = 8 - x_3.toInt := by rw [ex_4]; exact zf_sub (by decide) rfl (by omega) (by omega)
    exact W.iret (v := x_4) hx hb hr (fun t ht hW => ⟨x_4, rfl, ⟨by omega, by omega, (show ((1 : Int32).toInt ≠ 5 → (x_4 : Int32).toInt = zWb (1 : Int32).toInt a_.toInt d.toInt) from by (have k1 : (1 : Int32).toInt = 1 := (by decide); intro _; unfold zWb; (repeat (first | rw [if_pos (by omega)] | rw [if_neg (by omega)])) <;> first | rfl | omega))⟩, ht⟩) (fun q hq => by cases hq) dX2_calmWaysAt_50
  · have kc2 : (2 : Int32).toInt = 2 := by decide
    refine lv_tableIn (tgt := 65) hx hb dX2_calmWaysAt_4 (by decide) (by decide) rfl (by decide) ?_
    refine lv_bipush (v := 6) hx hb dX2_calmWaysAt_65 (by decide) ?_
    refine lv_iload_n hx hb dX2_calmWaysAt_67 rfl (lv_at hl 1 rfl) ?_
    refine lv_iconst (v := 4) hx hb dX2_calmWaysAt_68 (by decide) ?_
    refine lv_idiv hx hb dX2_calmWaysAt_69 (by decide) ?_
    refine lv_topi (fun x_5 ex_5 => ?_)
    have qx_5 : x_5.toInt = d.toInt / 4 := by rw [ex_5]; exact zf_div rfl (by decide) (by omega) (by omega)
    refine lv_isub hx hb dX2_calmWaysAt_70 ?_
    refine lv_topi (fun x_6 ex_6 => ?_)
    have qx_6 : x_6.toInt = 6 - x_5.toInt := by rw [ex_6]; exact zf_sub (by decide) rfl (by omega) (by omega)
    refine lv_aload_n hx hb dX2_calmWaysAt_71 rfl (lv_at hl 0 rfl) ?_
    refine va_get (D := D) (ci := 2) (v := .int a_) (C := RX2) (T := TX2) (N := 3) hx hb hts hi_X2_calmWaysAt_2 hown hK (zPu_P hZ hu_u0) 0 rfl rfl 1 (by decide) (hts (.fieldLink RX2 15 "TheLiningsInIt$Pull" "a" "I") (List.mem_of_getElem? (i := 2) rfl)) (fun _ h9 => h9) rfl dX2_calmWaysAt_72 ?_
    refine lv_iconst (v := 3) hx hb dX2_calmWaysAt_75 (by decide) ?_
    refine lv_idiv hx hb dX2_calmWaysAt_76 (by decide) ?_
    refine lv_topi (fun x_7 ex_7 => ?_)
    have qx_7 : x_7.toInt = a_.toInt / 3 := by rw [ex_7]; exact zf_div rfl (by decide) (by omega) (by omega)
    refine lv_iadd hx hb dX2_calmWaysAt_77 ?_
    refine lv_topi (fun x_8 ex_8 => ?_)
    have qx_8 : x_8.toInt = x_6.toInt + x_7.toInt := by rw [ex_8]; exact zf_add rfl rfl (by omega) (by omega)
    exact W.iret (v := x_8) hx hb hr (fun t ht hW => ⟨x_8, rfl, ⟨by omega, by omega, (show ((2 : Int32).toInt ≠ 5 → (x_8 : Int32).toInt = zWb (2 : Int32).toInt a_.toInt d.toInt) from by (have k2 : (2 : Int32).toInt = 2 := (by decide); intro _; unfold zWb; (repeat (first | rw [if_pos (by omega)] | rw [if_neg (by omega)])) <;> first | rfl | omega))⟩, ht⟩) (fun q hq => by cases hq) dX2_calmWaysAt_78
  · have kc3 : (3 : Int32).toInt = 3 := by decide
    refine lv_tableIn (tgt := 51) hx hb dX2_calmWaysAt_4 (by decide) (by decide) rfl (by decide) ?_
    refine lv_bipush (v := 8) hx hb dX2_calmWaysAt_51 (by decide) ?_
    refine lv_iload_n hx hb dX2_calmWaysAt_53 rfl (lv_at hl 1 rfl) ?_
    refine lv_iconst (v := 4) hx hb dX2_calmWaysAt_54 (by decide) ?_
    refine lv_idiv hx hb dX2_calmWaysAt_55 (by decide) ?_
    refine lv_topi (fun x_9 ex_9 => ?_)
    have qx_9 : x_9.toInt = d.toInt / 4 := by rw [ex_9]; exact zf_div rfl (by decide) (by omega) (by omega)
    refine lv_isub hx hb dX2_calmWaysAt_56 ?_
    refine lv_topi (fun x_10 ex_10 => ?_)
    have qx_10 : x_10.toInt = 8 - x_9.toInt := by rw [ex_10]; exact zf_sub (by decide) rfl (by omega) (by omega)
    refine lv_aload_n hx hb dX2_calmWaysAt_57 rfl (lv_at hl 0 rfl) ?_
    refine va_get (D := D) (ci := 2) (v := .int a_) (C := RX2) (T := TX2) (N := 3) hx hb hts hi_X2_calmWaysAt_2 hown hK (zPu_P hZ hu_u0) 0 rfl rfl 1 (by decide) (hts (.fieldLink RX2 15 "TheLiningsInIt$Pull" "a" "I") (List.mem_of_getElem? (i := 2) rfl)) (fun _ h9 => h9) rfl dX2_calmWaysAt_58 ?_
    refine lv_iconst (v := 2) hx hb dX2_calmWaysAt_61 (by decide) ?_
    refine lv_idiv hx hb dX2_calmWaysAt_62 (by decide) ?_
    refine lv_topi (fun x_11 ex_11 => ?_)
    have qx_11 : x_11.toInt = a_.toInt / 2 := by rw [ex_11]; exact zf_div rfl (by decide) (by omega) (by omega)
    refine lv_iadd hx hb dX2_calmWaysAt_63 ?_
    refine lv_topi (fun x_12 ex_12 => ?_)
    have qx_12 : x_12.toInt = x_10.toInt + x_11.toInt := by rw [ex_12]; exact zf_add rfl rfl (by omega) (by omega)
    exact W.iret (v := x_12) hx hb hr (fun t ht hW => ⟨x_12, rfl, ⟨by omega, by omega, (show ((3 : Int32).toInt ≠ 5 → (x_12 : Int32).toInt = zWb (3 : Int32).toInt a_.toInt d.toInt) from by (have k3 : (3 : Int32).toInt = 3 := (by decide); intro _; unfold zWb; (repeat (first | rw [if_pos (by omega)] | rw [if_neg (by omega)])) <;> first | rfl | omega))⟩, ht⟩) (fun q hq => by cases hq) dX2_calmWaysAt_64
  · have kc4 : (4 : Int32).toInt = 4 := by decide
    refine lv_tableIn (tgt := 79) hx hb dX2_calmWaysAt_4 (by decide) (by decide) rfl (by decide) ?_
    refine lv_bipush (v := 8) hx hb dX2_calmWaysAt_79 (by decide) ?_
    refine lv_iload_n hx hb dX2_calmWaysAt_81 rfl (lv_at hl 1 rfl) ?_
    refine lv_bipush (v := 6) hx hb dX2_calmWaysAt_82 (by decide) ?_
    refine lv_idiv hx hb dX2_calmWaysAt_84 (by decide) ?_
    refine lv_topi (fun x_13 ex_13 => ?_)
    have qx_13 : x_13.toInt = d.toInt / 6 := by rw [ex_13]; exact zf_div rfl (by decide) (by omega) (by omega)
    refine lv_isub hx hb dX2_calmWaysAt_85 ?_
    refine lv_topi (fun x_14 ex_14 => ?_)
    have qx_14 : x_14.toInt = 8 - x_13.toInt := by rw [ex_14]; exact zf_sub (by decide) rfl (by omega) (by omega)
    exact W.iret (v := x_14) hx hb hr (fun t ht hW => ⟨x_14, rfl, ⟨by omega, by omega, (show ((4 : Int32).toInt ≠ 5 → (x_14 : Int32).toInt = zWb (4 : Int32).toInt a_.toInt d.toInt) from by (have k4 : (4 : Int32).toInt = 4 := (by decide); intro _; unfold zWb; (repeat (first | rw [if_pos (by omega)] | rw [if_neg (by omega)])) <;> first | rfl | omega))⟩, ht⟩) (fun q hq => by cases hq) dX2_calmWaysAt_86
  · have kc5 : (5 : Int32).toInt = 5 := by decide
    refine lv_tableIn (tgt := 95) hx hb dX2_calmWaysAt_4 (by decide) (by decide) rfl (by decide) ?_
    refine lv_bipush (v := 6) hx hb dX2_calmWaysAt_95 (by decide) ?_
    refine lv_iload_n hx hb dX2_calmWaysAt_97 rfl (lv_at hl 1 rfl) ?_
    refine lv_iconst (v := 4) hx hb dX2_calmWaysAt_98 (by decide) ?_
    refine lv_idiv hx hb dX2_calmWaysAt_99 (by decide) ?_
    refine lv_topi (fun x_15 ex_15 => ?_)
    have qx_15 : x_15.toInt = d.toInt / 4 := by rw [ex_15]; exact zf_div rfl (by decide) (by omega) (by omega)
    refine lv_isub hx hb dX2_calmWaysAt_100 ?_
    refine lv_topi (fun x_16 ex_16 => ?_)
    have qx_16 : x_16.toInt = 6 - x_15.toInt := by rw [ex_16]; exact zf_sub (by decide) rfl (by omega) (by omega)
    exact W.iret (v := x_16) hx hb hr (fun t ht hW => ⟨x_16, rfl, ⟨by omega, by omega, (show ((5 : Int32).toInt ≠ 5 → (x_16 : Int32).toInt = zWb (5 : Int32).toInt a_.toInt d.toInt) from by (have k5 : (5 : Int32).toInt = 5 := (by decide); intro _; unfold zWb; (repeat (first | rw [if_pos (by omega)] | rw [if_neg (by omega)])) <;> first | rfl | omega))⟩, ht⟩) (fun q hq => by cases hq) dX2_calmWaysAt_101
  · have kc6 : (6 : Int32).toInt = 6 := by decide
    refine lv_tableIn (tgt := 87) hx hb dX2_calmWaysAt_4 (by decide) (by decide) rfl (by decide) ?_
    refine lv_bipush (v := 10) hx hb dX2_calmWaysAt_87 (by decide) ?_
    refine lv_iload_n hx hb dX2_calmWaysAt_89 rfl (lv_at hl 1 rfl) ?_
    refine lv_bipush (v := 6) hx hb dX2_calmWaysAt_90 (by decide) ?_
    refine lv_idiv hx hb dX2_calmWaysAt_92 (by decide) ?_
    refine lv_topi (fun x_17 ex_17 => ?_)
    have qx_17 : x_17.toInt = d.toInt / 6 := by rw [ex_17]; exact zf_div rfl (by decide) (by omega) (by omega)
    refine lv_isub hx hb dX2_calmWaysAt_93 ?_
    refine lv_topi (fun x_18 ex_18 => ?_)
    have qx_18 : x_18.toInt = 10 - x_17.toInt := by rw [ex_18]; exact zf_sub (by decide) rfl (by omega) (by omega)
    exact W.iret (v := x_18) hx hb hr (fun t ht hW => ⟨x_18, rfl, ⟨by omega, by omega, (show ((6 : Int32).toInt ≠ 5 → (x_18 : Int32).toInt = zWb (6 : Int32).toInt a_.toInt d.toInt) from by (have k6 : (6 : Int32).toInt = 6 := (by decide); intro _; unfold zWb; (repeat (first | rw [if_pos (by omega)] | rw [if_neg (by omega)])) <;> first | rfl | omega))⟩, ht⟩) (fun q hq => by cases hq) dX2_calmWaysAt_94
set_option maxHeartbeats 4000000 in
set_option maxRecDepth 100000 in
theorem c_F_Pull_waysAt (l : Launch) (D : va_G) (cI cJ cZ cP cS : ClassId) (po : zPool) (d h : Int32) (u0 : Nat) (ki a_ ta : Int32) (hu_u0 : zPu po u0 ki a_ ta) (hr_u0 : zPr ki a_ ta) (hy2 : 0 ≤ d.toInt) (hy3 : d.toInt ≤ 24) (hy4 : 0 ≤ h.toInt) (hy5 : h.toInt ≤ 9) : Met l yX2_waysAt wsX2_waysAt ({ frames := 1, cells := 0, slots := 0, locals := 21 }) (va_Pc [.ref u0, .int d, .int h] (zR D (zKT cI cJ cZ cP cS) po [])) (vp_Si (fun r => 0 ≤ r.toInt ∧ r.toInt ≤ 12 ∧ (r.toInt = zWy ki.toInt a_.toInt h.toInt d.toInt))) 0 0 (fun _ => False) := by
  refine Met.ofW (cc := cX2_waysAt) (maxL := 3) (ret := (some .int)) (by decide) rfl ?_
  intro p e s m args below meth c s₁ B hml hv
  obtain ⟨rfl, hP, hK, hN, hZ⟩ := hv
  have hx := B.exec
  have hb := B.bytes
  have hr := B.returns
  have hts := atoms_spec (ws := wsX2_waysAt) B.pre
  have hown : s.vm.findClass RX2 = some m.cls := findClass_of_methodNamed B.named
  have hlocks := B.notSynchronized
  have hl := lv_entry ([.ref u0, .int d, .int h]) (n := 3) (Nat.le_of_ble_eq_true rfl)
  rw [lg_entry_eq]
  generalize (lg_sl ([.ref u0, .int d, .int h]) ++ List.replicate (3 - (lg_sl ([.ref u0, .int d, .int h])).length) Slot.unset).toArray = ls at hl ⊢
  replace hl : lv_has ls 3 [(0, .ref u0), (1, .int d), (2, .int h)] := hl
  obtain ⟨⟨p1_u0, p2_u0⟩, ⟨p3_u0, p4_u0⟩, p5_u0, p6_u0⟩ := id hr_u0
  refine lv_aload_n hx hb dX2_waysAt_0 rfl (lv_at hl 0 rfl) ?_
  refine va_get (D := D) (ci := 2) (v := .int ki) (C := RX2) (T := TX2) (N := 3) hx hb hts hi_X2_waysAt_2 hown hK (zPu_P hZ hu_u0) 0 rfl rfl 0 (by decide) (hts (.fieldLink RX2 9 "TheLiningsInIt$Pull" "kind" "I") (List.mem_of_getElem? (i := 1) rfl)) (fun _ h9 => h9) rfl dX2_waysAt_1 ?_
  refine lv_iconst (v := 5) hx hb dX2_waysAt_4 (by decide) ?_
  refine lv_icmp_ne (tgt := 11) hx hb dX2_waysAt_5 (by decide) (fun c_1 => ?_) (fun c_1 => ?_)
  · have fc_1 : ki.toInt ≠ 5 := zf_ne c_1 rfl (by decide)
    refine lv_iconst (v := 0) hx hb dX2_waysAt_11 (by decide) ?_
    refine lv_bipush (v := 12) hx hb dX2_waysAt_12 (by decide) ?_
    refine lv_aload_n hx hb dX2_waysAt_14 rfl (lv_at hl 0 rfl) ?_
    refine lv_iload_n hx hb dX2_waysAt_15 rfl (lv_at hl 1 rfl) ?_
    refine zc_V (As := [.int d]) (rest := [.int 12, .int 0]) ⟨hx, hb, hml, hown, hts⟩ (c_F_Pull_calm l D cI cJ cZ cP cS po (d) u0 (ki) (a_) (ta) hu_u0 ⟨by omega, by omega, by omega, by omega⟩ hy2 hy3) (cwV 1 hts gX2_waysAt_X2_calmWaysAt rfl rfl rfl ⟨rfl, dh_X2_calmWaysAt⟩ ⟨Nat.le_of_ble_eq_true rfl, Nat.le_of_ble_eq_true rfl⟩) hK hN hZ hP zP_nil (va_recv (q := (RX2, TX2, 3)) hK (zPu_P hZ hu_u0) (ci := 2) (q0 := 0) rfl rfl) rfl hl.1 rfl (Nat.le_of_ble_eq_true rfl) dX2_waysAt_16 ⟨Nat.le_of_ble_eq_true rfl, Nat.le_of_ble_eq_true rfl⟩ (fun r_2 hr_2 => ?_)
    obtain ⟨g_3, g_4, hsr_2_0⟩ := hr_2
    refine lv_iload_n hx hb dX2_waysAt_19 rfl (lv_at hl 2 rfl) ?_
    refine lv_iconst (v := 3) hx hb dX2_waysAt_20 (by decide) ?_
    refine lv_idiv hx hb dX2_waysAt_21 (by decide) ?_
    refine lv_topi (fun x_5 ex_5 => ?_)
    have qx_5 : x_5.toInt = h.toInt / 3 := by rw [ex_5]; exact zf_div rfl (by decide) (by omega) (by omega)
    refine lv_isub hx hb dX2_waysAt_22 ?_
    refine lv_topi (fun x_6 ex_6 => ?_)
    have qx_6 : x_6.toInt = r_2.toInt - x_5.toInt := by rw [ex_6]; exact zf_sub rfl rfl (by omega) (by omega)
    refine va_mmin hx hb (hml.trans hl.1.symm) hown (hts (.methodLink RX2 33 Lib.Math.min.name) (List.mem_of_getElem? (i := 2) rfl)) (hts _ (List.mem_of_getElem? (i := 3) rfl)) (hts _ (List.mem_of_getElem? (i := 4) rfl)) (hts _ (List.mem_of_getElem? (i := 5) rfl)) (Nat.le_of_ble_eq_true rfl) (Nat.le_of_ble_eq_true rfl) (Nat.le_of_ble_eq_true rfl) (Nat.le_of_ble_eq_true rfl) dX2_waysAt_23 ?_
    refine lv_topi (fun x_7 ex_7 => ?_)
    have qx_7 := zf_min ex_7 (x1 := 12) (y1 := x_6.toInt) (by decide) rfl
    refine va_mmax hx hb (hml.trans hl.1.symm) hown (hts (.methodLink RX2 39 Lib.Math.max.name) (List.mem_of_getElem? (i := 6) rfl)) (hts _ (List.mem_of_getElem? (i := 7) rfl)) (hts _ (List.mem_of_getElem? (i := 4) rfl)) (hts _ (List.mem_of_getElem? (i := 8) rfl)) (Nat.le_of_ble_eq_true rfl) (Nat.le_of_ble_eq_true rfl) (Nat.le_of_ble_eq_true rfl) (Nat.le_of_ble_eq_true rfl) dX2_waysAt_26 ?_
    refine lv_topi (fun x_8 ex_8 => ?_)
    have qx_8 := zf_max ex_8 (x1 := 0) (y1 := x_7.toInt) (by decide) rfl
    exact W.iret (v := x_8) hx hb hr (fun t ht hW => ⟨x_8, rfl, ⟨by omega, by omega, (show (x_8 : Int32).toInt = zWy ki.toInt a_.toInt h.toInt d.toInt from by (have zc := hsr_2_0 (by omega); unfold zWy; rw [if_neg (by omega), ← zc]; omega))⟩, ht⟩) (fun q hq => by cases hq) dX2_waysAt_29
  · have fc_1 : ki.toInt = 5 := zf_eq c_1 rfl (by decide)
    refine lv_bipush (v := 12) hx hb dX2_waysAt_8 (by decide) ?_
    exact W.iret (v := 12) hx hb hr (fun t ht hW => ⟨12, rfl, ⟨by decide, by decide, (show (12 : Int32).toInt = zWy ki.toInt a_.toInt h.toInt d.toInt from by (have k12 : (12 : Int32).toInt = 12 := (by decide); unfold zWy; rw [if_pos (by omega)]; omega))⟩, ht⟩) (fun q hq => by cases hq) dX2_waysAt_10
set_option maxHeartbeats 4000000 in
set_option maxRecDepth 100000 in
theorem c_F_Pull_shallower (l : Launch) (D : va_G) (cI cJ cZ cP cS : ClassId) (po : zPool) (d : Int32) (u0 : Nat) (ki a_ ta : Int32) (hu_u0 : zPu po u0 ki a_ ta) (hr_u0 : zPr ki a_ ta) (hy2 : 0 ≤ d.toInt) (hy3 : d.toInt ≤ 24) : Met l yX2_shallower wsX2_shallower ({ frames := 1, cells := 0, slots := 0, locals := 21 }) (va_Pc [.ref u0, .int d] (zR D (zKT cI cJ cZ cP cS) po [])) (vp_Si (fun r => 0 ≤ r.toInt ∧ r.toInt ≤ 24 ∧ (r.toInt = zShl ki.toInt a_.toInt d.toInt))) 0 0 (fun _ => False) := by
  refine Met.ofW (cc := cX2_shallower) (maxL := 2) (ret := (some .int)) (by decide) rfl ?_
  intro p e s m args below meth c s₁ B hml hv
  obtain ⟨rfl, hP, hK, hN, hZ⟩ := hv
  have hx := B.exec
  have hb := B.bytes
  have hr := B.returns
  have hts := atoms_spec (ws := wsX2_shallower) B.pre
  have hown : s.vm.findClass RX2 = some m.cls := findClass_of_methodNamed B.named
  have hlocks := B.notSynchronized
  have hl := lv_entry ([.ref u0, .int d]) (n := 2) (Nat.le_of_ble_eq_true rfl)
  rw [lg_entry_eq]
  generalize (lg_sl ([.ref u0, .int d]) ++ List.replicate (2 - (lg_sl ([.ref u0, .int d])).length) Slot.unset).toArray = ls at hl ⊢
  replace hl : lv_has ls 2 [(0, .ref u0), (1, .int d)] := hl
  obtain ⟨⟨p1_u0, p2_u0⟩, ⟨p3_u0, p4_u0⟩, p5_u0, p6_u0⟩ := id hr_u0
  refine lv_iconst (v := 0) hx hb dX2_shallower_0 (by decide) ?_
  refine lv_iload_n hx hb dX2_shallower_1 rfl (lv_at hl 1 rfl) ?_
  refine lv_aload_n hx hb dX2_shallower_2 rfl (lv_at hl 0 rfl) ?_
  refine zc_V (As := []) (rest := [.int d, .int 0]) ⟨hx, hb, hml, hown, hts⟩ (c_F_Pull_step l D cI cJ cZ cP cS po u0 (ki) (a_) (ta) hu_u0 ⟨by omega, by omega, by omega, by omega⟩) (cwV 0 hts gX2_shallower_X2_step rfl rfl rfl ⟨rfl, dh_X2_step⟩ ⟨Nat.le_of_ble_eq_true rfl, Nat.le_of_ble_eq_true rfl⟩) hK hN hZ hP zP_nil (va_recv (q := (RX2, TX2, 3)) hK (zPu_P hZ hu_u0) (ci := 2) (q0 := 0) rfl rfl) rfl hl.1 rfl (Nat.le_of_ble_eq_true rfl) dX2_shallower_3 ⟨Nat.le_of_ble_eq_true rfl, Nat.le_of_ble_eq_true rfl⟩ (fun r_1 hr_1 => ?_)
  obtain ⟨g_2, g_3, hsr_1_0⟩ := hr_1
  refine lv_isub hx hb dX2_shallower_6 ?_
  refine lv_topi (fun x_4 ex_4 => ?_)
  have qx_4 : x_4.toInt = d.toInt - r_1.toInt := by rw [ex_4]; exact zf_sub rfl rfl (by omega) (by omega)
  refine va_mmax hx hb (hml.trans hl.1.symm) hown (hts (.methodLink RX2 39 Lib.Math.max.name) (List.mem_of_getElem? (i := 1) rfl)) (hts _ (List.mem_of_getElem? (i := 2) rfl)) (hts _ (List.mem_of_getElem? (i := 3) rfl)) (hts _ (List.mem_of_getElem? (i := 4) rfl)) (Nat.le_of_ble_eq_true rfl) (Nat.le_of_ble_eq_true rfl) (Nat.le_of_ble_eq_true rfl) (Nat.le_of_ble_eq_true rfl) dX2_shallower_7 ?_
  refine lv_topi (fun x_5 ex_5 => ?_)
  have qx_5 := zf_max ex_5 (x1 := 0) (y1 := x_4.toInt) (by decide) rfl
  exact W.iret (v := x_5) hx hb hr (fun t ht hW => ⟨x_5, rfl, ⟨by omega, by omega, (show (x_5 : Int32).toInt = zShl ki.toInt a_.toInt d.toInt from by (have zs := hsr_1_0; unfold zShl; rw [← zs]; omega))⟩, ht⟩) (fun q hq => by cases hq) dX2_shallower_10
set_option maxHeartbeats 4000000 in
set_option maxRecDepth 100000 in
theorem c_F_Pull_deeper (l : Launch) (D : va_G) (cI cJ cZ cP cS : ClassId) (po : zPool) (d h : Int32) (u0 : Nat) (ki a_ ta : Int32) (hu_u0 : zPu po u0 ki a_ ta) (hr_u0 : zPr ki a_ ta) (hy2 : 0 ≤ d.toInt) (hy3 : d.toInt ≤ 24) (hy4 : 0 ≤ h.toInt) (hy5 : h.toInt ≤ 9) : Met l yX2_deeper wsX2_deeper ({ frames := 1, cells := 0, slots := 0, locals := 21 }) (va_Pc [.ref u0, .int d, .int h] (zR D (zKT cI cJ cZ cP cS) po [])) (vp_Si (fun r => 0 ≤ r.toInt ∧ r.toInt ≤ 24 ∧ (r.toInt = zDpr ki.toInt a_.toInt h.toInt d.toInt))) 0 0 (fun _ => False) := by
  refine Met.ofW (cc := cX2_deeper) (maxL := 4) (ret := (some .int)) (by decide) rfl ?_
  intro p e s m args below meth c s₁ B hml hv
  obtain ⟨rfl, hP, hK, hN, hZ⟩ := hv
  have hx := B.exec
  have hb := B.bytes
  have hr := B.returns
  have hts := atoms_spec (ws := wsX2_deeper) B.pre
  have hown : s.vm.findClass RX2 = some m.cls := findClass_of_methodNamed B.named
  have hlocks := B.notSynchronized
  have hl := lv_entry ([.ref u0, .int d, .int h]) (n := 4) (Nat.le_of_ble_eq_true rfl)
  rw [lg_entry_eq]
  generalize (lg_sl ([.ref u0, .int d, .int h]) ++ List.replicate (4 - (lg_sl ([.ref u0, .int d, .int h])).length) Slot.unset).toArray = ls at hl ⊢
  replace hl : lv_has ls 4 [(0, .ref u0), (1, .int d), (2, .int h)] := hl
  obtain ⟨⟨p1_u0, p2_u0⟩, ⟨p3_u0, p4_u0⟩, p5_u0, p6_u0⟩ := id hr_u0
  refine lv_aload_n hx hb dX2_deeper_0 rfl (lv_at hl 0 rfl) ?_
  refine va_get (D := D) (ci := 2) (v := .int ki) (C := RX2) (T := TX2) (N := 3) hx hb hts hi_X2_deeper_2 hown hK (zPu_P hZ hu_u0) 0 rfl rfl 0 (by decide) (hts (.fieldLink RX2 9 "TheLiningsInIt$Pull" "kind" "I") (List.mem_of_getElem? (i := 1) rfl)) (fun _ h9 => h9) rfl dX2_deeper_1 ?_
  refine lv_iconst (v := 5) hx hb dX2_deeper_4 (by decide) ?_
  refine lv_icmp_ne (tgt := 10) hx hb dX2_deeper_5 (by decide) (fun c_1 => ?_) (fun c_1 => ?_)
  · have fc_1 : ki.toInt ≠ 5 := zf_ne c_1 rfl (by decide)
    refine lv_aload_n hx hb dX2_deeper_10 rfl (lv_at hl 0 rfl) ?_
    refine va_get (D := D) (ci := 2) (v := .int ki) (C := RX2) (T := TX2) (N := 3) hx hb hts hi_X2_deeper_2 hown hK (zPu_P hZ hu_u0) 0 rfl rfl 0 (by decide) (hts (.fieldLink RX2 9 "TheLiningsInIt$Pull" "kind" "I") (List.mem_of_getElem? (i := 1) rfl)) (fun _ h9 => h9) rfl dX2_deeper_11 ?_
    refine lv_iconst (v := 2) hx hb dX2_deeper_14 (by decide) ?_
    refine lv_icmp_ne (tgt := 29) hx hb dX2_deeper_15 (by decide) (fun c_2 => ?_) (fun c_2 => ?_)
    · have fc_2 : ki.toInt ≠ 2 := zf_ne c_2 rfl (by decide)
      refine lv_iconst (v := 0) hx hb dX2_deeper_29 (by decide) ?_
      refine lv_istore_n (lv' := [(3, .int 0), (0, .ref u0), (1, .int d), (2, .int h)]) hx hb dX2_deeper_30 rfl hl (by decide) rfl (fun ls hl => ?_)
      refine lv_iload_n hx hb dX2_deeper_31 rfl (lv_at hl 3 rfl) ?_
      refine lv_bipush (v := 6) hx hb dX2_deeper_32 (by decide) ?_
      refine lv_icmp_lt (tgt := 40) hx hb dX2_deeper_34 (by decide) (fun c_3 => ?_) (fun c_3 => ?_)
      · have fc_3 : h.toInt < 6 := zf_lt c_3 rfl (by decide)
        refine lv_bipush (v := 24) hx hb dX2_deeper_40 (by decide) ?_
        refine lv_iload_n hx hb dX2_deeper_42 rfl (lv_at hl 2 rfl) ?_
        refine lv_iload_n hx hb dX2_deeper_43 rfl (lv_at hl 0 rfl) ?_
        refine lv_iadd hx hb dX2_deeper_44 ?_
        refine lv_topi (fun y_4 ey_4 => ?_)
        obtain rfl : d = y_4 := (ey_4.trans (Int32.add_zero d)).symm
        refine va_mmin hx hb (hml.trans hl.1.symm) hown (hts (.methodLink RX2 33 Lib.Math.min.name) (List.mem_of_getElem? (i := 3) rfl)) (hts _ (List.mem_of_getElem? (i := 4) rfl)) (hts _ (List.mem_of_getElem? (i := 5) rfl)) (hts _ (List.mem_of_getElem? (i := 6) rfl)) (Nat.le_of_ble_eq_true rfl) (Nat.le_of_ble_eq_true rfl) (Nat.le_of_ble_eq_true rfl) (Nat.le_of_ble_eq_true rfl) dX2_deeper_45 ?_
        refine lv_topi (fun x_5 ex_5 => ?_)
        have qx_5 := zf_min ex_5 (x1 := 24) (y1 := d.toInt) (by decide) rfl
        exact W.iret (v := x_5) hx hb hr (fun t ht hW => ⟨x_5, rfl, ⟨by omega, by omega, (show (x_5 : Int32).toInt = zDpr ki.toInt a_.toInt h.toInt d.toInt from by (unfold zDpr; (repeat (first | rw [if_pos (by omega)] | rw [if_neg (by omega)])) <;> first | rfl | omega))⟩, ht⟩) (fun q hq => by cases hq) dX2_deeper_48
      · have fc_3 : 6 ≤ h.toInt := zf_nlt c_3 rfl (by decide)
        refine lv_iinc (v := 1) (lv' := [(3, .int 1), (0, .ref u0), (1, .int d), (2, .int h)]) hx hb dX2_deeper_37 hl (k := 0) rfl (by decide) (by decide) rfl (fun ls hl => ?_)
        refine lv_bipush (v := 24) hx hb dX2_deeper_40 (by decide) ?_
        refine lv_iload_n hx hb dX2_deeper_42 rfl (lv_at hl 2 rfl) ?_
        refine lv_iload_n hx hb dX2_deeper_43 rfl (lv_at hl 0 rfl) ?_
        refine lv_iadd hx hb dX2_deeper_44 ?_
        refine lv_topi (fun x_6 ex_6 => ?_)
        have qx_6 : x_6.toInt = d.toInt + 1 := by rw [ex_6]; exact zf_add rfl (by decide) (by omega) (by omega)
        refine va_mmin hx hb (hml.trans hl.1.symm) hown (hts (.methodLink RX2 33 Lib.Math.min.name) (List.mem_of_getElem? (i := 3) rfl)) (hts _ (List.mem_of_getElem? (i := 4) rfl)) (hts _ (List.mem_of_getElem? (i := 5) rfl)) (hts _ (List.mem_of_getElem? (i := 6) rfl)) (Nat.le_of_ble_eq_true rfl) (Nat.le_of_ble_eq_true rfl) (Nat.le_of_ble_eq_true rfl) (Nat.le_of_ble_eq_true rfl) dX2_deeper_45 ?_
        refine lv_topi (fun x_7 ex_7 => ?_)
        have qx_7 := zf_min ex_7 (x1 := 24) (y1 := x_6.toInt) (by decide) rfl
        exact W.iret (v := x_7) hx hb hr (fun t ht hW => ⟨x_7, rfl, ⟨by omega, by omega, (show (x_7 : Int32).toInt = zDpr ki.toInt a_.toInt h.toInt d.toInt from by (unfold zDpr; (repeat (first | rw [if_pos (by omega)] | rw [if_neg (by omega)])) <;> first | rfl | omega))⟩, ht⟩) (fun q hq => by cases hq) dX2_deeper_48
    · have fc_2 : ki.toInt = 2 := zf_eq c_2 rfl (by decide)
      refine lv_iconst (v := 1) hx hb dX2_deeper_18 (by decide) ?_
      refine lv_aload_n hx hb dX2_deeper_19 rfl (lv_at hl 0 rfl) ?_
      refine va_get (D := D) (ci := 2) (v := .int a_) (C := RX2) (T := TX2) (N := 3) hx hb hts hi_X2_deeper_2 hown hK (zPu_P hZ hu_u0) 0 rfl rfl 1 (by decide) (hts (.fieldLink RX2 15 "TheLiningsInIt$Pull" "a" "I") (List.mem_of_getElem? (i := 2) rfl)) (fun _ h9 => h9) rfl dX2_deeper_20 ?_
      refine lv_iconst (v := 3) hx hb dX2_deeper_23 (by decide) ?_
      refine lv_idiv hx hb dX2_deeper_24 (by decide) ?_
      refine lv_topi (fun x_8 ex_8 => ?_)
      have qx_8 : x_8.toInt = a_.toInt / 3 := by rw [ex_8]; exact zf_div rfl (by decide) (by omega) (by omega)
      refine lv_iadd hx hb dX2_deeper_25 ?_
      refine lv_topi (fun x_9 ex_9 => ?_)
      have qx_9 : x_9.toInt = 1 + x_8.toInt := by rw [ex_9]; exact zf_add (by decide) rfl (by omega) (by omega)
      refine lv_goto (tgt := 30) hx hb dX2_deeper_26 (by decide) ?_
      refine lv_istore_n (lv' := [(3, .int x_9), (0, .ref u0), (1, .int d), (2, .int h)]) hx hb dX2_deeper_30 rfl hl (by decide) rfl (fun ls hl => ?_)
      refine lv_iload_n hx hb dX2_deeper_31 rfl (lv_at hl 3 rfl) ?_
      refine lv_bipush (v := 6) hx hb dX2_deeper_32 (by decide) ?_
      refine lv_icmp_lt (tgt := 40) hx hb dX2_deeper_34 (by decide) (fun c_10 => ?_) (fun c_10 => ?_)
      · have fc_10 : h.toInt < 6 := zf_lt c_10 rfl (by decide)
        refine lv_bipush (v := 24) hx hb dX2_deeper_40 (by decide) ?_
        refine lv_iload_n hx hb dX2_deeper_42 rfl (lv_at hl 2 rfl) ?_
        refine lv_iload_n hx hb dX2_deeper_43 rfl (lv_at hl 0 rfl) ?_
        refine lv_iadd hx hb dX2_deeper_44 ?_
        refine lv_topi (fun x_11 ex_11 => ?_)
        have qx_11 : x_11.toInt = d.toInt + x_9.toInt := by rw [ex_11]; exact zf_add rfl rfl (by omega) (by omega)
        refine va_mmin hx hb (hml.trans hl.1.symm) hown (hts (.methodLink RX2 33 Lib.Math.min.name) (List.mem_of_getElem? (i := 3) rfl)) (hts _ (List.mem_of_getElem? (i := 4) rfl)) (hts _ (List.mem_of_getElem? (i := 5) rfl)) (hts _ (List.mem_of_getElem? (i := 6) rfl)) (Nat.le_of_ble_eq_true rfl) (Nat.le_of_ble_eq_true rfl) (Nat.le_of_ble_eq_true rfl) (Nat.le_of_ble_eq_true rfl) dX2_deeper_45 ?_
        refine lv_topi (fun x_12 ex_12 => ?_)
        have qx_12 := zf_min ex_12 (x1 := 24) (y1 := x_11.toInt) (by decide) rfl
        exact W.iret (v := x_12) hx hb hr (fun t ht hW => ⟨x_12, rfl, ⟨by omega, by omega, (show (x_12 : Int32).toInt = zDpr ki.toInt a_.toInt h.toInt d.toInt from by (unfold zDpr; (repeat (first | rw [if_pos (by omega)] | rw [if_neg (by omega)])) <;> first | rfl | omega))⟩, ht⟩) (fun q hq => by cases hq) dX2_deeper_48
      · have fc_10 : 6 ≤ h.toInt := zf_nlt c_10 rfl (by decide)
        obtain ⟨x_13, ex_13⟩ : ∃ y : Int32, y = x_9 + 1 := ⟨_, rfl⟩
        have qx_13 : x_13.toInt = x_9.toInt + 1 := by rw [ex_13]; exact zf_add rfl (by decide) (by omega) (by omega)
        refine lv_iinc (v := x_13) (lv' := [(3, .int x_13), (0, .ref u0), (1, .int d), (2, .int h)]) hx hb dX2_deeper_37 hl (k := 0) rfl ex_13.symm (by decide) rfl (fun ls hl => ?_)
        refine lv_bipush (v := 24) hx hb dX2_deeper_40 (by decide) ?_
        refine lv_iload_n hx hb dX2_deeper_42 rfl (lv_at hl 2 rfl) ?_
        refine lv_iload_n hx hb dX2_deeper_43 rfl (lv_at hl 0 rfl) ?_
        refine lv_iadd hx hb dX2_deeper_44 ?_
        refine lv_topi (fun x_14 ex_14 => ?_)
        have qx_14 : x_14.toInt = d.toInt + x_13.toInt := by rw [ex_14]; exact zf_add rfl rfl (by omega) (by omega)
        refine va_mmin hx hb (hml.trans hl.1.symm) hown (hts (.methodLink RX2 33 Lib.Math.min.name) (List.mem_of_getElem? (i := 3) rfl)) (hts _ (List.mem_of_getElem? (i := 4) rfl)) (hts _ (List.mem_of_getElem? (i := 5) rfl)) (hts _ (List.mem_of_getElem? (i := 6) rfl)) (Nat.le_of_ble_eq_true rfl) (Nat.le_of_ble_eq_true rfl) (Nat.le_of_ble_eq_true rfl) (Nat.le_of_ble_eq_true rfl) dX2_deeper_45 ?_
        refine lv_topi (fun x_15 ex_15 => ?_)
        have qx_15 := zf_min ex_15 (x1 := 24) (y1 := x_14.toInt) (by decide) rfl
        exact W.iret (v := x_15) hx hb hr (fun t ht hW => ⟨x_15, rfl, ⟨by omega, by omega, (show (x_15 : Int32).toInt = zDpr ki.toInt a_.toInt h.toInt d.toInt from by (unfold zDpr; (repeat (first | rw [if_pos (by omega)] | rw [if_neg (by omega)])) <;> first | rfl | omega))⟩, ht⟩) (fun q hq => by cases hq) dX2_deeper_48
  · have fc_1 : ki.toInt = 5 := zf_eq c_1 rfl (by decide)
    refine lv_iload_n hx hb dX2_deeper_8 rfl (lv_at hl 1 rfl) ?_
    exact W.iret (v := d) hx hb hr (fun t ht hW => ⟨d, rfl, ⟨by omega, by omega, (show (d : Int32).toInt = zDpr ki.toInt a_.toInt h.toInt d.toInt from by (unfold zDpr; (repeat (first | rw [if_pos (by omega)] | rw [if_neg (by omega)])) <;> first | rfl | omega))⟩, ht⟩) (fun q hq => by cases hq) dX2_deeper_9
set_option maxHeartbeats 4000000 in
set_option maxRecDepth 100000 in
theorem c_F_Pull_isOf (l : Launch) (D : va_G) (cI cJ cZ cP cS : ClassId) (po : zPool) (w : Int32) (u0 : Nat) (ki a_ ta : Int32) (hu_u0 : zPu po u0 ki a_ ta) (hr_u0 : zPr ki a_ ta) : Met l yX2_isOf wsX2_isOf ({ frames := 1, cells := 0, slots := 0, locals := 22 }) (va_Pc [.ref u0, .int w] (zR D (zKT cI cJ cZ cP cS) po [])) (vp_Si (fun r => 0 ≤ r.toInt ∧ r.toInt ≤ 1 ∧ ((r.toInt = 1 ↔ zIsOf ki.toInt w.toInt)))) 0 0 (fun _ => False) := by
  refine Met.ofW (cc := cX2_isOf) (maxL := 4) (ret := (some .boolean)) (by decide) rfl ?_
  intro p e s m args below meth c s₁ B hml hv
  obtain ⟨rfl, hP, hK, hN, hZ⟩ := hv
  have hx := B.exec
  have hb := B.bytes
  have hr := B.returns
  have hts := atoms_spec (ws := wsX2_isOf) B.pre
  have hown : s.vm.findClass RX2 = some m.cls := findClass_of_methodNamed B.named
  have hlocks := B.notSynchronized
  have hl := lv_entry ([.ref u0, .int w]) (n := 4) (Nat.le_of_ble_eq_true rfl)
  rw [lg_entry_eq]
  generalize (lg_sl ([.ref u0, .int w]) ++ List.replicate (4 - (lg_sl ([.ref u0, .int w])).length) Slot.unset).toArray = ls at hl ⊢
  replace hl : lv_has ls 4 [(0, .ref u0), (1, .int w)] := hl
  obtain ⟨⟨p1_u0, p2_u0⟩, ⟨p3_u0, p4_u0⟩, p5_u0, p6_u0⟩ := id hr_u0
  have hsp : ki = 0 ∨ ki = 1 ∨ ki = 2 ∨ ki = 3 ∨ ki = 4 ∨ ki = 5 ∨ ki = 6 := by
    rcases (show ki.toInt = 0 ∨ ki.toInt = 1 ∨ ki.toInt = 2 ∨ ki.toInt = 3 ∨ ki.toInt = 4 ∨ ki.toInt = 5 ∨ ki.toInt = 6 by omega) with h9 | h9 | h9 | h9 | h9 | h9 | h9
    · refine Or.inl ?_; exact zf_val h9 (by decide)
    · refine Or.inr (Or.inl ?_); exact zf_val h9 (by decide)
    · refine Or.inr (Or.inr (Or.inl ?_)); exact zf_val h9 (by decide)
    · refine Or.inr (Or.inr (Or.inr (Or.inl ?_))); exact zf_val h9 (by decide)
    · refine Or.inr (Or.inr (Or.inr (Or.inr (Or.inl ?_)))); exact zf_val h9 (by decide)
    · refine Or.inr (Or.inr (Or.inr (Or.inr (Or.inr (Or.inl ?_))))); exact zf_val h9 (by decide)
    · refine Or.inr (Or.inr (Or.inr (Or.inr (Or.inr (Or.inr (?_)))))); exact zf_val h9 (by decide)
  rcases hsp with rfl | rfl | rfl | rfl | rfl | rfl | rfl
  · refine lv_aload_n hx hb dX2_isOf_0 rfl (lv_at hl 0 rfl) ?_
    refine va_get (D := D) (ci := 2) (v := .int 0) (C := RX2) (T := TX2) (N := 3) hx hb hts hi_X2_isOf_2 hown hK (zPu_P hZ hu_u0) 0 rfl rfl 0 (by decide) (hts (.fieldLink RX2 9 "TheLiningsInIt$Pull" "kind" "I") (List.mem_of_getElem? (i := 1) rfl)) (fun _ h9 => h9) rfl dX2_isOf_1 ?_
    refine lv_istore_n (lv' := [(2, .int 0), (0, .ref u0), (1, .int w)]) hx hb dX2_isOf_4 rfl hl (by decide) rfl (fun ls hl => ?_)
    refine lv_iconst (v := 0) hx hb dX2_isOf_5 (by decide) ?_
    refine lv_istore_n (lv' := [(3, .int 0), (2, .int 0), (0, .ref u0), (1, .int w)]) hx hb dX2_isOf_6 rfl hl (by decide) rfl (fun ls hl => ?_)
    refine lv_iload_n hx hb dX2_isOf_7 rfl (lv_at hl 0 rfl) ?_
    refine lv_bipush (v := 7) hx hb dX2_isOf_8 (by decide) ?_
    refine lv_icmp_ge (tgt := 42) hx hb dX2_isOf_10 (by decide) (fun c_1 => ?_) (fun c_1 => ?_)
    · exact absurd c_1 (by decide)
    · refine lv_iload_n hx hb dX2_isOf_13 rfl (lv_at hl 1 rfl) ?_
      refine lv_iconst (v := 0) hx hb dX2_isOf_14 (by decide) ?_
      refine lv_bipush (v := 6) hx hb dX2_isOf_15 (by decide) ?_
      have kc0 : (0 : Int32).toInt = 0 := by decide
      have kc6 : (6 : Int32).toInt = 6 := by decide
      refine zc_SN (As := [.int 0, .int 0, .int 6]) (rest := []) ⟨hx, hb, hml, hown, hts⟩ (c_within l D cI cJ cZ cP cS po (0) (0) (6) ) ⟨(va_cnB 3 hts gX2_isOf_X7_within_n21 rfl rfl rfl (hN.1 (RX2, 21, yX7_within) (List.mem_of_getElem? (i := 7) rfl)) (hts _ (List.mem_of_getElem? (i := 3) rfl)) dh_X7_within ⟨Nat.le_of_ble_eq_true rfl, Nat.le_of_ble_eq_true rfl⟩), (hts _ (List.mem_of_getElem? (i := 2) rfl)), trivial⟩ hK hN hZ rfl hl.1 rfl (Nat.le_of_ble_eq_true rfl) dX2_isOf_17 ⟨Nat.le_of_ble_eq_true rfl, Nat.le_of_ble_eq_true rfl⟩ (fun r_2 hr_2 => ?_)
      rcases hr_2 with ⟨rfl, g_3⟩ | ⟨rfl, g_4, g_5⟩ | ⟨rfl, g_6, g_7⟩
      · exfalso; omega
      · exfalso; omega
      · refine lv_if_eq (tgt := 42) hx hb dX2_isOf_20 (by decide) (fun c_8 => ?_) (fun c_8 => ?_)
        · exact absurd c_8 (by decide)
        · refine lv_iload_n hx hb dX2_isOf_23 rfl (lv_at hl 1 rfl) ?_
          refine lv_iload_n hx hb dX2_isOf_24 rfl (lv_at hl 3 rfl) ?_
          refine lv_icmp_ne (tgt := 30) hx hb dX2_isOf_25 (by decide) (fun c_9 => ?_) (fun c_9 => ?_)
          · have fc_9 : 0 ≠ w.toInt := zf_ne c_9 (by decide) rfl
            obtain ⟨t_10, zt_10, yt_10⟩ := hZ.1.2
            refine va_getsN hx hb zt_10 va_S.rf hown (va_Nw.use rfl (hN.2.1 (RX2, 25) (List.mem_of_getElem? (i := 0) rfl))) (fun _ h9 => h9) dX2_isOf_30 ?_
            refine lv_iload_n hx hb dX2_isOf_33 rfl (lv_at hl 1 rfl) ?_
            refine va_ti hx hb yt_10 va_S.rf (zf_in (by decide) (by decide)) (v := .int (-1)) (by decide) dX2_isOf_34 ?_
            refine lv_istore_n (lv' := [(2, .int (-1)), (3, .int 0), (0, .ref u0), (1, .int w)]) hx hb dX2_isOf_35 rfl hl (by decide) rfl (fun ls hl => ?_)
            refine lv_iinc (v := 1) (lv' := [(3, .int 1), (2, .int (-1)), (0, .ref u0), (1, .int w)]) hx hb dX2_isOf_36 hl (k := 1) rfl (by decide) (by decide) rfl (fun ls hl => ?_)
            refine lv_goto (tgt := 7) hx hb dX2_isOf_39 (by decide) ?_
            refine lv_iload_n hx hb dX2_isOf_7 rfl (lv_at hl 0 rfl) ?_
            refine lv_bipush (v := 7) hx hb dX2_isOf_8 (by decide) ?_
            refine lv_icmp_ge (tgt := 42) hx hb dX2_isOf_10 (by decide) (fun c_11 => ?_) (fun c_11 => ?_)
            · exact absurd c_11 (by decide)
            · refine lv_iload_n hx hb dX2_isOf_13 rfl (lv_at hl 1 rfl) ?_
              refine lv_iconst (v := 0) hx hb dX2_isOf_14 (by decide) ?_
              refine lv_bipush (v := 6) hx hb dX2_isOf_15 (by decide) ?_
              have kcm1 : ((-1) : Int32).toInt = (-1) := by decide
              refine zc_SN (As := [.int (-1), .int 0, .int 6]) (rest := []) ⟨hx, hb, hml, hown, hts⟩ (c_within l D cI cJ cZ cP cS po ((-1)) (0) (6) ) ⟨(va_cnB 3 hts gX2_isOf_X7_within_n21 rfl rfl rfl (hN.1 (RX2, 21, yX7_within) (List.mem_of_getElem? (i := 7) rfl)) (hts _ (List.mem_of_getElem? (i := 3) rfl)) dh_X7_within ⟨Nat.le_of_ble_eq_true rfl, Nat.le_of_ble_eq_true rfl⟩), (hts _ (List.mem_of_getElem? (i := 2) rfl)), trivial⟩ hK hN hZ rfl hl.1 rfl (Nat.le_of_ble_eq_true rfl) dX2_isOf_17 ⟨Nat.le_of_ble_eq_true rfl, Nat.le_of_ble_eq_true rfl⟩ (fun r_12 hr_12 => ?_)
              rcases hr_12 with ⟨rfl, g_13⟩ | ⟨rfl, g_14, g_15⟩ | ⟨rfl, g_16, g_17⟩
              · refine lv_if_eq (tgt := 42) hx hb dX2_isOf_20 (by decide) (fun c_18 => ?_) (fun c_18 => ?_)
                · refine lv_iconst (v := 0) hx hb dX2_isOf_42 (by decide) ?_
                  exact W.zret (v := 0) hx hb hr (by decide) (fun t ht hW => ⟨0, rfl, ⟨by decide, by decide, (show ((0 : Int32).toInt = 1 ↔ zIsOf (0 : Int32).toInt w.toInt) from by (have k0 : (0 : Int32).toInt = 0 := (by decide); unfold zIsOf; omega))⟩, ht⟩) (fun q hq => by cases hq) dX2_isOf_43
                · exact absurd c_18 (by decide)
              · exfalso; omega
              · exfalso; omega
          · have fc_9 : 0 = w.toInt := zf_eq c_9 (by decide) rfl
            refine lv_iconst (v := 1) hx hb dX2_isOf_28 (by decide) ?_
            exact W.zret (v := 1) hx hb hr (by decide) (fun t ht hW => ⟨1, rfl, ⟨by decide, by decide, (show ((1 : Int32).toInt = 1 ↔ zIsOf (0 : Int32).toInt w.toInt) from by (have k0 : (0 : Int32).toInt = 0 := (by decide); have k1 : (1 : Int32).toInt = 1 := (by decide); unfold zIsOf; omega))⟩, ht⟩) (fun q hq => by cases hq) dX2_isOf_29
  · refine lv_aload_n hx hb dX2_isOf_0 rfl (lv_at hl 0 rfl) ?_
    refine va_get (D := D) (ci := 2) (v := .int 1) (C := RX2) (T := TX2) (N := 3) hx hb hts hi_X2_isOf_2 hown hK (zPu_P hZ hu_u0) 0 rfl rfl 0 (by decide) (hts (.fieldLink RX2 9 "TheLiningsInIt$Pull" "kind" "I") (List.mem_of_getElem? (i := 1) rfl)) (fun _ h9 => h9) rfl dX2_isOf_1 ?_
    refine lv_istore_n (lv' := [(2, .int 1), (0, .ref u0), (1, .int w)]) hx hb dX2_isOf_4 rfl hl (by decide) rfl (fun ls hl => ?_)
    refine lv_iconst (v := 0) hx hb dX2_isOf_5 (by decide) ?_
    refine lv_istore_n (lv' := [(3, .int 0), (2, .int 1), (0, .ref u0), (1, .int w)]) hx hb dX2_isOf_6 rfl hl (by decide) rfl (fun ls hl => ?_)
    refine lv_iload_n hx hb dX2_isOf_7 rfl (lv_at hl 0 rfl) ?_
    refine lv_bipush (v := 7) hx hb dX2_isOf_8 (by decide) ?_
    refine lv_icmp_ge (tgt := 42) hx hb dX2_isOf_10 (by decide) (fun c_19 => ?_) (fun c_19 => ?_)
    · exact absurd c_19 (by decide)
    · refine lv_iload_n hx hb dX2_isOf_13 rfl (lv_at hl 1 rfl) ?_
      refine lv_iconst (v := 0) hx hb dX2_isOf_14 (by decide) ?_
      refine lv_bipush (v := 6) hx hb dX2_isOf_15 (by decide) ?_
      have kc1 : (1 : Int32).toInt = 1 := by decide
      have kc0 : (0 : Int32).toInt = 0 := by decide
      have kc6 : (6 : Int32).toInt = 6 := by decide
      refine zc_SN (As := [.int 1, .int 0, .int 6]) (rest := []) ⟨hx, hb, hml, hown, hts⟩ (c_within l D cI cJ cZ cP cS po (1) (0) (6) ) ⟨(va_cnB 3 hts gX2_isOf_X7_within_n21 rfl rfl rfl (hN.1 (RX2, 21, yX7_within) (List.mem_of_getElem? (i := 7) rfl)) (hts _ (List.mem_of_getElem? (i := 3) rfl)) dh_X7_within ⟨Nat.le_of_ble_eq_true rfl, Nat.le_of_ble_eq_true rfl⟩), (hts _ (List.mem_of_getElem? (i := 2) rfl)), trivial⟩ hK hN hZ rfl hl.1 rfl (Nat.le_of_ble_eq_true rfl) dX2_isOf_17 ⟨Nat.le_of_ble_eq_true rfl, Nat.le_of_ble_eq_true rfl⟩ (fun r_20 hr_20 => ?_)
      rcases hr_20 with ⟨rfl, g_21⟩ | ⟨rfl, g_22, g_23⟩ | ⟨rfl, g_24, g_25⟩
      · exfalso; omega
      · exfalso; omega
      · refine lv_if_eq (tgt := 42) hx hb dX2_isOf_20 (by decide) (fun c_26 => ?_) (fun c_26 => ?_)
        · exact absurd c_26 (by decide)
        · refine lv_iload_n hx hb dX2_isOf_23 rfl (lv_at hl 1 rfl) ?_
          refine lv_iload_n hx hb dX2_isOf_24 rfl (lv_at hl 3 rfl) ?_
          refine lv_icmp_ne (tgt := 30) hx hb dX2_isOf_25 (by decide) (fun c_27 => ?_) (fun c_27 => ?_)
          · have fc_27 : 1 ≠ w.toInt := zf_ne c_27 (by decide) rfl
            obtain ⟨t_28, zt_28, yt_28⟩ := hZ.1.2
            refine va_getsN hx hb zt_28 va_S.rf hown (va_Nw.use rfl (hN.2.1 (RX2, 25) (List.mem_of_getElem? (i := 0) rfl))) (fun _ h9 => h9) dX2_isOf_30 ?_
            refine lv_iload_n hx hb dX2_isOf_33 rfl (lv_at hl 1 rfl) ?_
            refine va_ti hx hb yt_28 va_S.rf (zf_in (by decide) (by decide)) (v := .int 0) (by decide) dX2_isOf_34 ?_
            refine lv_istore_n (lv' := [(2, .int 0), (3, .int 0), (0, .ref u0), (1, .int w)]) hx hb dX2_isOf_35 rfl hl (by decide) rfl (fun ls hl => ?_)
            refine lv_iinc (v := 1) (lv' := [(3, .int 1), (2, .int 0), (0, .ref u0), (1, .int w)]) hx hb dX2_isOf_36 hl (k := 1) rfl (by decide) (by decide) rfl (fun ls hl => ?_)
            refine lv_goto (tgt := 7) hx hb dX2_isOf_39 (by decide) ?_
            refine lv_iload_n hx hb dX2_isOf_7 rfl (lv_at hl 0 rfl) ?_
            refine lv_bipush (v := 7) hx hb dX2_isOf_8 (by decide) ?_
            refine lv_icmp_ge (tgt := 42) hx hb dX2_isOf_10 (by decide) (fun c_29 => ?_) (fun c_29 => ?_)
            · exact absurd c_29 (by decide)
            · refine lv_iload_n hx hb dX2_isOf_13 rfl (lv_at hl 1 rfl) ?_
              refine lv_iconst (v := 0) hx hb dX2_isOf_14 (by decide) ?_
              refine lv_bipush (v := 6) hx hb dX2_isOf_15 (by decide) ?_
              refine zc_SN (As := [.int 0, .int 0, .int 6]) (rest := []) ⟨hx, hb, hml, hown, hts⟩ (c_within l D cI cJ cZ cP cS po (0) (0) (6) ) ⟨(va_cnB 3 hts gX2_isOf_X7_within_n21 rfl rfl rfl (hN.1 (RX2, 21, yX7_within) (List.mem_of_getElem? (i := 7) rfl)) (hts _ (List.mem_of_getElem? (i := 3) rfl)) dh_X7_within ⟨Nat.le_of_ble_eq_true rfl, Nat.le_of_ble_eq_true rfl⟩), (hts _ (List.mem_of_getElem? (i := 2) rfl)), trivial⟩ hK hN hZ rfl hl.1 rfl (Nat.le_of_ble_eq_true rfl) dX2_isOf_17 ⟨Nat.le_of_ble_eq_true rfl, Nat.le_of_ble_eq_true rfl⟩ (fun r_30 hr_30 => ?_)
              rcases hr_30 with ⟨rfl, g_31⟩ | ⟨rfl, g_32, g_33⟩ | ⟨rfl, g_34, g_35⟩
              · exfalso; omega
              · exfalso; omega
              · refine lv_if_eq (tgt := 42) hx hb dX2_isOf_20 (by decide) (fun c_36 => ?_) (fun c_36 => ?_)
                · exact absurd c_36 (by decide)
                · refine lv_iload_n hx hb dX2_isOf_23 rfl (lv_at hl 1 rfl) ?_
                  refine lv_iload_n hx hb dX2_isOf_24 rfl (lv_at hl 3 rfl) ?_
                  refine lv_icmp_ne (tgt := 30) hx hb dX2_isOf_25 (by decide) (fun c_37 => ?_) (fun c_37 => ?_)
                  · have fc_37 : 0 ≠ w.toInt := zf_ne c_37 (by decide) rfl
                    obtain ⟨t_38, zt_38, yt_38⟩ := hZ.1.2
                    refine va_getsN hx hb zt_38 va_S.rf hown (va_Nw.use rfl (hN.2.1 (RX2, 25) (List.mem_of_getElem? (i := 0) rfl))) (fun _ h9 => h9) dX2_isOf_30 ?_
                    refine lv_iload_n hx hb dX2_isOf_33 rfl (lv_at hl 1 rfl) ?_
                    refine va_ti hx hb yt_38 va_S.rf (zf_in (by decide) (by decide)) (v := .int (-1)) (by decide) dX2_isOf_34 ?_
                    refine lv_istore_n (lv' := [(2, .int (-1)), (3, .int 1), (0, .ref u0), (1, .int w)]) hx hb dX2_isOf_35 rfl hl (by decide) rfl (fun ls hl => ?_)
                    refine lv_iinc (v := 2) (lv' := [(3, .int 2), (2, .int (-1)), (0, .ref u0), (1, .int w)]) hx hb dX2_isOf_36 hl (k := 1) rfl (by decide) (by decide) rfl (fun ls hl => ?_)
                    refine lv_goto (tgt := 7) hx hb dX2_isOf_39 (by decide) ?_
                    refine lv_iload_n hx hb dX2_isOf_7 rfl (lv_at hl 0 rfl) ?_
                    refine lv_bipush (v := 7) hx hb dX2_isOf_8 (by decide) ?_
                    refine lv_icmp_ge (tgt := 42) hx hb dX2_isOf_10 (by decide) (fun c_39 => ?_) (fun c_39 => ?_)
                    · exact absurd c_39 (by decide)
                    · refine lv_iload_n hx hb dX2_isOf_13 rfl (lv_at hl 1 rfl) ?_
                      refine lv_iconst (v := 0) hx hb dX2_isOf_14 (by decide) ?_
                      refine lv_bipush (v := 6) hx hb dX2_isOf_15 (by decide) ?_
                      have kcm1 : ((-1) : Int32).toInt = (-1) := by decide
                      refine zc_SN (As := [.int (-1), .int 0, .int 6]) (rest := []) ⟨hx, hb, hml, hown, hts⟩ (c_within l D cI cJ cZ cP cS po ((-1)) (0) (6) ) ⟨(va_cnB 3 hts gX2_isOf_X7_within_n21 rfl rfl rfl (hN.1 (RX2, 21, yX7_within) (List.mem_of_getElem? (i := 7) rfl)) (hts _ (List.mem_of_getElem? (i := 3) rfl)) dh_X7_within ⟨Nat.le_of_ble_eq_true rfl, Nat.le_of_ble_eq_true rfl⟩), (hts _ (List.mem_of_getElem? (i := 2) rfl)), trivial⟩ hK hN hZ rfl hl.1 rfl (Nat.le_of_ble_eq_true rfl) dX2_isOf_17 ⟨Nat.le_of_ble_eq_true rfl, Nat.le_of_ble_eq_true rfl⟩ (fun r_40 hr_40 => ?_)
                      rcases hr_40 with ⟨rfl, g_41⟩ | ⟨rfl, g_42, g_43⟩ | ⟨rfl, g_44, g_45⟩
                      · refine lv_if_eq (tgt := 42) hx hb dX2_isOf_20 (by decide) (fun c_46 => ?_) (fun c_46 => ?_)
                        · refine lv_iconst (v := 0) hx hb dX2_isOf_42 (by decide) ?_
                          exact W.zret (v := 0) hx hb hr (by decide) (fun t ht hW => ⟨0, rfl, ⟨by decide, by decide, (show ((0 : Int32).toInt = 1 ↔ zIsOf (1 : Int32).toInt w.toInt) from by (have k0 : (0 : Int32).toInt = 0 := (by decide); have k1 : (1 : Int32).toInt = 1 := (by decide); unfold zIsOf; omega))⟩, ht⟩) (fun q hq => by cases hq) dX2_isOf_43
                        · exact absurd c_46 (by decide)
                      · exfalso; omega
                      · exfalso; omega
                  · have fc_37 : 0 = w.toInt := zf_eq c_37 (by decide) rfl
                    refine lv_iconst (v := 1) hx hb dX2_isOf_28 (by decide) ?_
                    exact W.zret (v := 1) hx hb hr (by decide) (fun t ht hW => ⟨1, rfl, ⟨by decide, by decide, (show ((1 : Int32).toInt = 1 ↔ zIsOf (1 : Int32).toInt w.toInt) from by (have k1 : (1 : Int32).toInt = 1 := (by decide); unfold zIsOf; omega))⟩, ht⟩) (fun q hq => by cases hq) dX2_isOf_29
          · have fc_27 : 1 = w.toInt := zf_eq c_27 (by decide) rfl
            refine lv_iconst (v := 1) hx hb dX2_isOf_28 (by decide) ?_
            exact W.zret (v := 1) hx hb hr (by decide) (fun t ht hW => ⟨1, rfl, ⟨by decide, by decide, (show ((1 : Int32).toInt = 1 ↔ zIsOf (1 : Int32).toInt w.toInt) from by (have k1 : (1 : Int32).toInt = 1 := (by decide); unfold zIsOf; omega))⟩, ht⟩) (fun q hq => by cases hq) dX2_isOf_29
  · refine lv_aload_n hx hb dX2_isOf_0 rfl (lv_at hl 0 rfl) ?_
    refine va_get (D := D) (ci := 2) (v := .int 2) (C := RX2) (T := TX2) (N := 3) hx hb hts hi_X2_isOf_2 hown hK (zPu_P hZ hu_u0) 0 rfl rfl 0 (by decide) (hts (.fieldLink RX2 9 "TheLiningsInIt$Pull" "kind" "I") (List.mem_of_getElem? (i := 1) rfl)) (fun _ h9 => h9) rfl dX2_isOf_1 ?_
    refine lv_istore_n (lv' := [(2, .int 2), (0, .ref u0), (1, .int w)]) hx hb dX2_isOf_4 rfl hl (by decide) rfl (fun ls hl => ?_)
    refine lv_iconst (v := 0) hx hb dX2_isOf_5 (by decide) ?_
    refine lv_istore_n (lv' := [(3, .int 0), (2, .int 2), (0, .ref u0), (1, .int w)]) hx hb dX2_isOf_6 rfl hl (by decide) rfl (fun ls hl => ?_)
    refine lv_iload_n hx hb dX2_isOf_7 rfl (lv_at hl 0 rfl) ?_
    refine lv_bipush (v := 7) hx hb dX2_isOf_8 (by decide) ?_
    refine lv_icmp_ge (tgt := 42) hx hb dX2_isOf_10 (by decide) (fun c_47 => ?_) (fun c_47 => ?_)
    · exact absurd c_47 (by decide)
    · refine lv_iload_n hx hb dX2_isOf_13 rfl (lv_at hl 1 rfl) ?_
      refine lv_iconst (v := 0) hx hb dX2_isOf_14 (by decide) ?_
      refine lv_bipush (v := 6) hx hb dX2_isOf_15 (by decide) ?_
      have kc2 : (2 : Int32).toInt = 2 := by decide
      have kc0 : (0 : Int32).toInt = 0 := by decide
      have kc6 : (6 : Int32).toInt = 6 := by decide
      refine zc_SN (As := [.int 2, .int 0, .int 6]) (rest := []) ⟨hx, hb, hml, hown, hts⟩ (c_within l D cI cJ cZ cP cS po (2) (0) (6) ) ⟨(va_cnB 3 hts gX2_isOf_X7_within_n21 rfl rfl rfl (hN.1 (RX2, 21, yX7_within) (List.mem_of_getElem? (i := 7) rfl)) (hts _ (List.mem_of_getElem? (i := 3) rfl)) dh_X7_within ⟨Nat.le_of_ble_eq_true rfl, Nat.le_of_ble_eq_true rfl⟩), (hts _ (List.mem_of_getElem? (i := 2) rfl)), trivial⟩ hK hN hZ rfl hl.1 rfl (Nat.le_of_ble_eq_true rfl) dX2_isOf_17 ⟨Nat.le_of_ble_eq_true rfl, Nat.le_of_ble_eq_true rfl⟩ (fun r_48 hr_48 => ?_)
      rcases hr_48 with ⟨rfl, g_49⟩ | ⟨rfl, g_50, g_51⟩ | ⟨rfl, g_52, g_53⟩
      · exfalso; omega
      · exfalso; omega
      · refine lv_if_eq (tgt := 42) hx hb dX2_isOf_20 (by decide) (fun c_54 => ?_) (fun c_54 => ?_)
        · exact absurd c_54 (by decide)
        · refine lv_iload_n hx hb dX2_isOf_23 rfl (lv_at hl 1 rfl) ?_
          refine lv_iload_n hx hb dX2_isOf_24 rfl (lv_at hl 3 rfl) ?_
          refine lv_icmp_ne (tgt := 30) hx hb dX2_isOf_25 (by decide) (fun c_55 => ?_) (fun c_55 => ?_)
          · have fc_55 : 2 ≠ w.toInt := zf_ne c_55 (by decide) rfl
            obtain ⟨t_56, zt_56, yt_56⟩ := hZ.1.2
            refine va_getsN hx hb zt_56 va_S.rf hown (va_Nw.use rfl (hN.2.1 (RX2, 25) (List.mem_of_getElem? (i := 0) rfl))) (fun _ h9 => h9) dX2_isOf_30 ?_
            refine lv_iload_n hx hb dX2_isOf_33 rfl (lv_at hl 1 rfl) ?_
            refine va_ti hx hb yt_56 va_S.rf (zf_in (by decide) (by decide)) (v := .int 0) (by decide) dX2_isOf_34 ?_
            refine lv_istore_n (lv' := [(2, .int 0), (3, .int 0), (0, .ref u0), (1, .int w)]) hx hb dX2_isOf_35 rfl hl (by decide) rfl (fun ls hl => ?_)
            refine lv_iinc (v := 1) (lv' := [(3, .int 1), (2, .int 0), (0, .ref u0), (1, .int w)]) hx hb dX2_isOf_36 hl (k := 1) rfl (by decide) (by decide) rfl (fun ls hl => ?_)
            refine lv_goto (tgt := 7) hx hb dX2_isOf_39 (by decide) ?_
            refine lv_iload_n hx hb dX2_isOf_7 rfl (lv_at hl 0 rfl) ?_
            refine lv_bipush (v := 7) hx hb dX2_isOf_8 (by decide) ?_
            refine lv_icmp_ge (tgt := 42) hx hb dX2_isOf_10 (by decide) (fun c_57 => ?_) (fun c_57 => ?_)
            · exact absurd c_57 (by decide)
            · refine lv_iload_n hx hb dX2_isOf_13 rfl (lv_at hl 1 rfl) ?_
              refine lv_iconst (v := 0) hx hb dX2_isOf_14 (by decide) ?_
              refine lv_bipush (v := 6) hx hb dX2_isOf_15 (by decide) ?_
              refine zc_SN (As := [.int 0, .int 0, .int 6]) (rest := []) ⟨hx, hb, hml, hown, hts⟩ (c_within l D cI cJ cZ cP cS po (0) (0) (6) ) ⟨(va_cnB 3 hts gX2_isOf_X7_within_n21 rfl rfl rfl (hN.1 (RX2, 21, yX7_within) (List.mem_of_getElem? (i := 7) rfl)) (hts _ (List.mem_of_getElem? (i := 3) rfl)) dh_X7_within ⟨Nat.le_of_ble_eq_true rfl, Nat.le_of_ble_eq_true rfl⟩), (hts _ (List.mem_of_getElem? (i := 2) rfl)), trivial⟩ hK hN hZ rfl hl.1 rfl (Nat.le_of_ble_eq_true rfl) dX2_isOf_17 ⟨Nat.le_of_ble_eq_true rfl, Nat.le_of_ble_eq_true rfl⟩ (fun r_58 hr_58 => ?_)
              rcases hr_58 with ⟨rfl, g_59⟩ | ⟨rfl, g_60, g_61⟩ | ⟨rfl, g_62, g_63⟩
              · exfalso; omega
              · exfalso; omega
              · refine lv_if_eq (tgt := 42) hx hb dX2_isOf_20 (by decide) (fun c_64 => ?_) (fun c_64 => ?_)
                · exact absurd c_64 (by decide)
                · refine lv_iload_n hx hb dX2_isOf_23 rfl (lv_at hl 1 rfl) ?_
                  refine lv_iload_n hx hb dX2_isOf_24 rfl (lv_at hl 3 rfl) ?_
                  refine lv_icmp_ne (tgt := 30) hx hb dX2_isOf_25 (by decide) (fun c_65 => ?_) (fun c_65 => ?_)
                  · have fc_65 : 0 ≠ w.toInt := zf_ne c_65 (by decide) rfl
                    obtain ⟨t_66, zt_66, yt_66⟩ := hZ.1.2
                    refine va_getsN hx hb zt_66 va_S.rf hown (va_Nw.use rfl (hN.2.1 (RX2, 25) (List.mem_of_getElem? (i := 0) rfl))) (fun _ h9 => h9) dX2_isOf_30 ?_
                    refine lv_iload_n hx hb dX2_isOf_33 rfl (lv_at hl 1 rfl) ?_
                    refine va_ti hx hb yt_66 va_S.rf (zf_in (by decide) (by decide)) (v := .int (-1)) (by decide) dX2_isOf_34 ?_
                    refine lv_istore_n (lv' := [(2, .int (-1)), (3, .int 1), (0, .ref u0), (1, .int w)]) hx hb dX2_isOf_35 rfl hl (by decide) rfl (fun ls hl => ?_)
                    refine lv_iinc (v := 2) (lv' := [(3, .int 2), (2, .int (-1)), (0, .ref u0), (1, .int w)]) hx hb dX2_isOf_36 hl (k := 1) rfl (by decide) (by decide) rfl (fun ls hl => ?_)
                    refine lv_goto (tgt := 7) hx hb dX2_isOf_39 (by decide) ?_
                    refine lv_iload_n hx hb dX2_isOf_7 rfl (lv_at hl 0 rfl) ?_
                    refine lv_bipush (v := 7) hx hb dX2_isOf_8 (by decide) ?_
                    refine lv_icmp_ge (tgt := 42) hx hb dX2_isOf_10 (by decide) (fun c_67 => ?_) (fun c_67 => ?_)
                    · exact absurd c_67 (by decide)
                    · refine lv_iload_n hx hb dX2_isOf_13 rfl (lv_at hl 1 rfl) ?_
                      refine lv_iconst (v := 0) hx hb dX2_isOf_14 (by decide) ?_
                      refine lv_bipush (v := 6) hx hb dX2_isOf_15 (by decide) ?_
                      have kcm1 : ((-1) : Int32).toInt = (-1) := by decide
                      refine zc_SN (As := [.int (-1), .int 0, .int 6]) (rest := []) ⟨hx, hb, hml, hown, hts⟩ (c_within l D cI cJ cZ cP cS po ((-1)) (0) (6) ) ⟨(va_cnB 3 hts gX2_isOf_X7_within_n21 rfl rfl rfl (hN.1 (RX2, 21, yX7_within) (List.mem_of_getElem? (i := 7) rfl)) (hts _ (List.mem_of_getElem? (i := 3) rfl)) dh_X7_within ⟨Nat.le_of_ble_eq_true rfl, Nat.le_of_ble_eq_true rfl⟩), (hts _ (List.mem_of_getElem? (i := 2) rfl)), trivial⟩ hK hN hZ rfl hl.1 rfl (Nat.le_of_ble_eq_true rfl) dX2_isOf_17 ⟨Nat.le_of_ble_eq_true rfl, Nat.le_of_ble_eq_true rfl⟩ (fun r_68 hr_68 => ?_)
                      rcases hr_68 with ⟨rfl, g_69⟩ | ⟨rfl, g_70, g_71⟩ | ⟨rfl, g_72, g_73⟩
                      · refine lv_if_eq (tgt := 42) hx hb dX2_isOf_20 (by decide) (fun c_74 => ?_) (fun c_74 => ?_)
                        · refine lv_iconst (v := 0) hx hb dX2_isOf_42 (by decide) ?_
                          exact W.zret (v := 0) hx hb hr (by decide) (fun t ht hW => ⟨0, rfl, ⟨by decide, by decide, (show ((0 : Int32).toInt = 1 ↔ zIsOf (2 : Int32).toInt w.toInt) from by (have k0 : (0 : Int32).toInt = 0 := (by decide); have k2 : (2 : Int32).toInt = 2 := (by decide); unfold zIsOf; omega))⟩, ht⟩) (fun q hq => by cases hq) dX2_isOf_43
                        · exact absurd c_74 (by decide)
                      · exfalso; omega
                      · exfalso; omega
                  · have fc_65 : 0 = w.toInt := zf_eq c_65 (by decide) rfl
                    refine lv_iconst (v := 1) hx hb dX2_isOf_28 (by decide) ?_
                    exact W.zret (v := 1) hx hb hr (by decide) (fun t ht hW => ⟨1, rfl, ⟨by decide, by decide, (show ((1 : Int32).toInt = 1 ↔ zIsOf (2 : Int32).toInt w.toInt) from by (have k1 : (1 : Int32).toInt = 1 := (by decide); have k2 : (2 : Int32).toInt = 2 := (by decide); unfold zIsOf; omega))⟩, ht⟩) (fun q hq => by cases hq) dX2_isOf_29
          · have fc_55 : 2 = w.toInt := zf_eq c_55 (by decide) rfl
            refine lv_iconst (v := 1) hx hb dX2_isOf_28 (by decide) ?_
            exact W.zret (v := 1) hx hb hr (by decide) (fun t ht hW => ⟨1, rfl, ⟨by decide, by decide, (show ((1 : Int32).toInt = 1 ↔ zIsOf (2 : Int32).toInt w.toInt) from by (have k1 : (1 : Int32).toInt = 1 := (by decide); have k2 : (2 : Int32).toInt = 2 := (by decide); unfold zIsOf; omega))⟩, ht⟩) (fun q hq => by cases hq) dX2_isOf_29
  · refine lv_aload_n hx hb dX2_isOf_0 rfl (lv_at hl 0 rfl) ?_
    refine va_get (D := D) (ci := 2) (v := .int 3) (C := RX2) (T := TX2) (N := 3) hx hb hts hi_X2_isOf_2 hown hK (zPu_P hZ hu_u0) 0 rfl rfl 0 (by decide) (hts (.fieldLink RX2 9 "TheLiningsInIt$Pull" "kind" "I") (List.mem_of_getElem? (i := 1) rfl)) (fun _ h9 => h9) rfl dX2_isOf_1 ?_
    refine lv_istore_n (lv' := [(2, .int 3), (0, .ref u0), (1, .int w)]) hx hb dX2_isOf_4 rfl hl (by decide) rfl (fun ls hl => ?_)
    refine lv_iconst (v := 0) hx hb dX2_isOf_5 (by decide) ?_
    refine lv_istore_n (lv' := [(3, .int 0), (2, .int 3), (0, .ref u0), (1, .int w)]) hx hb dX2_isOf_6 rfl hl (by decide) rfl (fun ls hl => ?_)
    refine lv_iload_n hx hb dX2_isOf_7 rfl (lv_at hl 0 rfl) ?_
    refine lv_bipush (v := 7) hx hb dX2_isOf_8 (by decide) ?_
    refine lv_icmp_ge (tgt := 42) hx hb dX2_isOf_10 (by decide) (fun c_75 => ?_) (fun c_75 => ?_)
    · exact absurd c_75 (by decide)
    · refine lv_iload_n hx hb dX2_isOf_13 rfl (lv_at hl 1 rfl) ?_
      refine lv_iconst (v := 0) hx hb dX2_isOf_14 (by decide) ?_
      refine lv_bipush (v := 6) hx hb dX2_isOf_15 (by decide) ?_
      have kc3 : (3 : Int32).toInt = 3 := by decide
      have kc0 : (0 : Int32).toInt = 0 := by decide
      have kc6 : (6 : Int32).toInt = 6 := by decide
      refine zc_SN (As := [.int 3, .int 0, .int 6]) (rest := []) ⟨hx, hb, hml, hown, hts⟩ (c_within l D cI cJ cZ cP cS po (3) (0) (6) ) ⟨(va_cnB 3 hts gX2_isOf_X7_within_n21 rfl rfl rfl (hN.1 (RX2, 21, yX7_within) (List.mem_of_getElem? (i := 7) rfl)) (hts _ (List.mem_of_getElem? (i := 3) rfl)) dh_X7_within ⟨Nat.le_of_ble_eq_true rfl, Nat.le_of_ble_eq_true rfl⟩), (hts _ (List.mem_of_getElem? (i := 2) rfl)), trivial⟩ hK hN hZ rfl hl.1 rfl (Nat.le_of_ble_eq_true rfl) dX2_isOf_17 ⟨Nat.le_of_ble_eq_true rfl, Nat.le_of_ble_eq_true rfl⟩ (fun r_76 hr_76 => ?_)
      rcases hr_76 with ⟨rfl, g_77⟩ | ⟨rfl, g_78, g_79⟩ | ⟨rfl, g_80, g_81⟩
      · exfalso; omega
      · exfalso; omega
      · refine lv_if_eq (tgt := 42) hx hb dX2_isOf_20 (by decide) (fun c_82 => ?_) (fun c_82 => ?_)
        · exact absurd c_82 (by decide)
        · refine lv_iload_n hx hb dX2_isOf_23 rfl (lv_at hl 1 rfl) ?_
          refine lv_iload_n hx hb dX2_isOf_24 rfl (lv_at hl 3 rfl) ?_
          refine lv_icmp_ne (tgt := 30) hx hb dX2_isOf_25 (by decide) (fun c_83 => ?_) (fun c_83 => ?_)
          · have fc_83 : 3 ≠ w.toInt := zf_ne c_83 (by decide) rfl
            obtain ⟨t_84, zt_84, yt_84⟩ := hZ.1.2
            refine va_getsN hx hb zt_84 va_S.rf hown (va_Nw.use rfl (hN.2.1 (RX2, 25) (List.mem_of_getElem? (i := 0) rfl))) (fun _ h9 => h9) dX2_isOf_30 ?_
            refine lv_iload_n hx hb dX2_isOf_33 rfl (lv_at hl 1 rfl) ?_
            refine va_ti hx hb yt_84 va_S.rf (zf_in (by decide) (by decide)) (v := .int 1) (by decide) dX2_isOf_34 ?_
            refine lv_istore_n (lv' := [(2, .int 1), (3, .int 0), (0, .ref u0), (1, .int w)]) hx hb dX2_isOf_35 rfl hl (by decide) rfl (fun ls hl => ?_)
            refine lv_iinc (v := 1) (lv' := [(3, .int 1), (2, .int 1), (0, .ref u0), (1, .int w)]) hx hb dX2_isOf_36 hl (k := 1) rfl (by decide) (by decide) rfl (fun ls hl => ?_)
            refine lv_goto (tgt := 7) hx hb dX2_isOf_39 (by decide) ?_
            refine lv_iload_n hx hb dX2_isOf_7 rfl (lv_at hl 0 rfl) ?_
            refine lv_bipush (v := 7) hx hb dX2_isOf_8 (by decide) ?_
            refine lv_icmp_ge (tgt := 42) hx hb dX2_isOf_10 (by decide) (fun c_85 => ?_) (fun c_85 => ?_)
            · exact absurd c_85 (by decide)
            · refine lv_iload_n hx hb dX2_isOf_13 rfl (lv_at hl 1 rfl) ?_
              refine lv_iconst (v := 0) hx hb dX2_isOf_14 (by decide) ?_
              refine lv_bipush (v := 6) hx hb dX2_isOf_15 (by decide) ?_
              have kc1 : (1 : Int32).toInt = 1 := by decide
              refine zc_SN (As := [.int 1, .int 0, .int 6]) (rest := []) ⟨hx, hb, hml, hown, hts⟩ (c_within l D cI cJ cZ cP cS po (1) (0) (6) ) ⟨(va_cnB 3 hts gX2_isOf_X7_within_n21 rfl rfl rfl (hN.1 (RX2, 21, yX7_within) (List.mem_of_getElem? (i := 7) rfl)) (hts _ (List.mem_of_getElem? (i := 3) rfl)) dh_X7_within ⟨Nat.le_of_ble_eq_true rfl, Nat.le_of_ble_eq_true rfl⟩), (hts _ (List.mem_of_getElem? (i := 2) rfl)), trivial⟩ hK hN hZ rfl hl.1 rfl (Nat.le_of_ble_eq_true rfl) dX2_isOf_17 ⟨Nat.le_of_ble_eq_true rfl, Nat.le_of_ble_eq_true rfl⟩ (fun r_86 hr_86 => ?_)
              rcases hr_86 with ⟨rfl, g_87⟩ | ⟨rfl, g_88, g_89⟩ | ⟨rfl, g_90, g_91⟩
              · exfalso; omega
              · exfalso; omega
              · refine lv_if_eq (tgt := 42) hx hb dX2_isOf_20 (by decide) (fun c_92 => ?_) (fun c_92 => ?_)
                · exact absurd c_92 (by decide)
                · refine lv_iload_n hx hb dX2_isOf_23 rfl (lv_at hl 1 rfl) ?_
                  refine lv_iload_n hx hb dX2_isOf_24 rfl (lv_at hl 3 rfl) ?_
                  refine lv_icmp_ne (tgt := 30) hx hb dX2_isOf_25 (by decide) (fun c_93 => ?_) (fun c_93 => ?_)
                  · have fc_93 : 1 ≠ w.toInt := zf_ne c_93 (by decide) rfl
                    obtain ⟨t_94, zt_94, yt_94⟩ := hZ.1.2
                    refine va_getsN hx hb zt_94 va_S.rf hown (va_Nw.use rfl (hN.2.1 (RX2, 25) (List.mem_of_getElem? (i := 0) rfl))) (fun _ h9 => h9) dX2_isOf_30 ?_
                    refine lv_iload_n hx hb dX2_isOf_33 rfl (lv_at hl 1 rfl) ?_
                    refine va_ti hx hb yt_94 va_S.rf (zf_in (by decide) (by decide)) (v := .int 0) (by decide) dX2_isOf_34 ?_
                    refine lv_istore_n (lv' := [(2, .int 0), (3, .int 1), (0, .ref u0), (1, .int w)]) hx hb dX2_isOf_35 rfl hl (by decide) rfl (fun ls hl => ?_)
                    refine lv_iinc (v := 2) (lv' := [(3, .int 2), (2, .int 0), (0, .ref u0), (1, .int w)]) hx hb dX2_isOf_36 hl (k := 1) rfl (by decide) (by decide) rfl (fun ls hl => ?_)
                    refine lv_goto (tgt := 7) hx hb dX2_isOf_39 (by decide) ?_
                    refine lv_iload_n hx hb dX2_isOf_7 rfl (lv_at hl 0 rfl) ?_
                    refine lv_bipush (v := 7) hx hb dX2_isOf_8 (by decide) ?_
                    refine lv_icmp_ge (tgt := 42) hx hb dX2_isOf_10 (by decide) (fun c_95 => ?_) (fun c_95 => ?_)
                    · exact absurd c_95 (by decide)
                    · refine lv_iload_n hx hb dX2_isOf_13 rfl (lv_at hl 1 rfl) ?_
                      refine lv_iconst (v := 0) hx hb dX2_isOf_14 (by decide) ?_
                      refine lv_bipush (v := 6) hx hb dX2_isOf_15 (by decide) ?_
                      refine zc_SN (As := [.int 0, .int 0, .int 6]) (rest := []) ⟨hx, hb, hml, hown, hts⟩ (c_within l D cI cJ cZ cP cS po (0) (0) (6) ) ⟨(va_cnB 3 hts gX2_isOf_X7_within_n21 rfl rfl rfl (hN.1 (RX2, 21, yX7_within) (List.mem_of_getElem? (i := 7) rfl)) (hts _ (List.mem_of_getElem? (i := 3) rfl)) dh_X7_within ⟨Nat.le_of_ble_eq_true rfl, Nat.le_of_ble_eq_true rfl⟩), (hts _ (List.mem_of_getElem? (i := 2) rfl)), trivial⟩ hK hN hZ rfl hl.1 rfl (Nat.le_of_ble_eq_true rfl) dX2_isOf_17 ⟨Nat.le_of_ble_eq_true rfl, Nat.le_of_ble_eq_true rfl⟩ (fun r_96 hr_96 => ?_)
                      rcases hr_96 with ⟨rfl, g_97⟩ | ⟨rfl, g_98, g_99⟩ | ⟨rfl, g_100, g_101⟩
                      · exfalso; omega
                      · exfalso; omega
                      · refine lv_if_eq (tgt := 42) hx hb dX2_isOf_20 (by decide) (fun c_102 => ?_) (fun c_102 => ?_)
                        · exact absurd c_102 (by decide)
                        · refine lv_iload_n hx hb dX2_isOf_23 rfl (lv_at hl 1 rfl) ?_
                          refine lv_iload_n hx hb dX2_isOf_24 rfl (lv_at hl 3 rfl) ?_
                          refine lv_icmp_ne (tgt := 30) hx hb dX2_isOf_25 (by decide) (fun c_103 => ?_) (fun c_103 => ?_)
                          · have fc_103 : 0 ≠ w.toInt := zf_ne c_103 (by decide) rfl
                            obtain ⟨t_104, zt_104, yt_104⟩ := hZ.1.2
                            refine va_getsN hx hb zt_104 va_S.rf hown (va_Nw.use rfl (hN.2.1 (RX2, 25) (List.mem_of_getElem? (i := 0) rfl))) (fun _ h9 => h9) dX2_isOf_30 ?_
                            refine lv_iload_n hx hb dX2_isOf_33 rfl (lv_at hl 1 rfl) ?_
                            refine va_ti hx hb yt_104 va_S.rf (zf_in (by decide) (by decide)) (v := .int (-1)) (by decide) dX2_isOf_34 ?_
                            refine lv_istore_n (lv' := [(2, .int (-1)), (3, .int 2), (0, .ref u0), (1, .int w)]) hx hb dX2_isOf_35 rfl hl (by decide) rfl (fun ls hl => ?_)
                            refine lv_iinc (v := 3) (lv' := [(3, .int 3), (2, .int (-1)), (0, .ref u0), (1, .int w)]) hx hb dX2_isOf_36 hl (k := 1) rfl (by decide) (by decide) rfl (fun ls hl => ?_)
                            refine lv_goto (tgt := 7) hx hb dX2_isOf_39 (by decide) ?_
                            refine lv_iload_n hx hb dX2_isOf_7 rfl (lv_at hl 0 rfl) ?_
                            refine lv_bipush (v := 7) hx hb dX2_isOf_8 (by decide) ?_
                            refine lv_icmp_ge (tgt := 42) hx hb dX2_isOf_10 (by decide) (fun c_105 => ?_) (fun c_105 => ?_)
                            · exact absurd c_105 (by decide)
                            · refine lv_iload_n hx hb dX2_isOf_13 rfl (lv_at hl 1 rfl) ?_
                              refine lv_iconst (v := 0) hx hb dX2_isOf_14 (by decide) ?_
                              refine lv_bipush (v := 6) hx hb dX2_isOf_15 (by decide) ?_
                              have kcm1 : ((-1) : Int32).toInt = (-1) := by decide
                              refine zc_SN (As := [.int (-1), .int 0, .int 6]) (rest := []) ⟨hx, hb, hml, hown, hts⟩ (c_within l D cI cJ cZ cP cS po ((-1)) (0) (6) ) ⟨(va_cnB 3 hts gX2_isOf_X7_within_n21 rfl rfl rfl (hN.1 (RX2, 21, yX7_within) (List.mem_of_getElem? (i := 7) rfl)) (hts _ (List.mem_of_getElem? (i := 3) rfl)) dh_X7_within ⟨Nat.le_of_ble_eq_true rfl, Nat.le_of_ble_eq_true rfl⟩), (hts _ (List.mem_of_getElem? (i := 2) rfl)), trivial⟩ hK hN hZ rfl hl.1 rfl (Nat.le_of_ble_eq_true rfl) dX2_isOf_17 ⟨Nat.le_of_ble_eq_true rfl, Nat.le_of_ble_eq_true rfl⟩ (fun r_106 hr_106 => ?_)
                              rcases hr_106 with ⟨rfl, g_107⟩ | ⟨rfl, g_108, g_109⟩ | ⟨rfl, g_110, g_111⟩
                              · refine lv_if_eq (tgt := 42) hx hb dX2_isOf_20 (by decide) (fun c_112 => ?_) (fun c_112 => ?_)
                                · refine lv_iconst (v := 0) hx hb dX2_isOf_42 (by decide) ?_
                                  exact W.zret (v := 0) hx hb hr (by decide) (fun t ht hW => ⟨0, rfl, ⟨by decide, by decide, (show ((0 : Int32).toInt = 1 ↔ zIsOf (3 : Int32).toInt w.toInt) from by (have k0 : (0 : Int32).toInt = 0 := (by decide); have k3 : (3 : Int32).toInt = 3 := (by decide); unfold zIsOf; omega))⟩, ht⟩) (fun q hq => by cases hq) dX2_isOf_43
                                · exact absurd c_112 (by decide)
                              · exfalso; omega
                              · exfalso; omega
                          · have fc_103 : 0 = w.toInt := zf_eq c_103 (by decide) rfl
                            refine lv_iconst (v := 1) hx hb dX2_isOf_28 (by decide) ?_
                            exact W.zret (v := 1) hx hb hr (by decide) (fun t ht hW => ⟨1, rfl, ⟨by decide, by decide, (show ((1 : Int32).toInt = 1 ↔ zIsOf (3 : Int32).toInt w.toInt) from by (have k1 : (1 : Int32).toInt = 1 := (by decide); have k3 : (3 : Int32).toInt = 3 := (by decide); unfold zIsOf; omega))⟩, ht⟩) (fun q hq => by cases hq) dX2_isOf_29
                  · have fc_93 : 1 = w.toInt := zf_eq c_93 (by decide) rfl
                    refine lv_iconst (v := 1) hx hb dX2_isOf_28 (by decide) ?_
                    exact W.zret (v := 1) hx hb hr (by decide) (fun t ht hW => ⟨1, rfl, ⟨by decide, by decide, (show ((1 : Int32).toInt = 1 ↔ zIsOf (3 : Int32).toInt w.toInt) from by (have k1 : (1 : Int32).toInt = 1 := (by decide); have k3 : (3 : Int32).toInt = 3 := (by decide); unfold zIsOf; omega))⟩, ht⟩) (fun q hq => by cases hq) dX2_isOf_29
          · have fc_83 : 3 = w.toInt := zf_eq c_83 (by decide) rfl
            refine lv_iconst (v := 1) hx hb dX2_isOf_28 (by decide) ?_
            exact W.zret (v := 1) hx hb hr (by decide) (fun t ht hW => ⟨1, rfl, ⟨by decide, by decide, (show ((1 : Int32).toInt = 1 ↔ zIsOf (3 : Int32).toInt w.toInt) from by (have k1 : (1 : Int32).toInt = 1 := (by decide); have k3 : (3 : Int32).toInt = 3 := (by decide); unfold zIsOf; omega))⟩, ht⟩) (fun q hq => by cases hq) dX2_isOf_29
  · refine lv_aload_n hx hb dX2_isOf_0 rfl (lv_at hl 0 rfl) ?_
    refine va_get (D := D) (ci := 2) (v := .int 4) (C := RX2) (T := TX2) (N := 3) hx hb hts hi_X2_isOf_2 hown hK (zPu_P hZ hu_u0) 0 rfl rfl 0 (by decide) (hts (.fieldLink RX2 9 "TheLiningsInIt$Pull" "kind" "I") (List.mem_of_getElem? (i := 1) rfl)) (fun _ h9 => h9) rfl dX2_isOf_1 ?_
    refine lv_istore_n (lv' := [(2, .int 4), (0, .ref u0), (1, .int w)]) hx hb dX2_isOf_4 rfl hl (by decide) rfl (fun ls hl => ?_)
    refine lv_iconst (v := 0) hx hb dX2_isOf_5 (by decide) ?_
    refine lv_istore_n (lv' := [(3, .int 0), (2, .int 4), (0, .ref u0), (1, .int w)]) hx hb dX2_isOf_6 rfl hl (by decide) rfl (fun ls hl => ?_)
    refine lv_iload_n hx hb dX2_isOf_7 rfl (lv_at hl 0 rfl) ?_
    refine lv_bipush (v := 7) hx hb dX2_isOf_8 (by decide) ?_
    refine lv_icmp_ge (tgt := 42) hx hb dX2_isOf_10 (by decide) (fun c_113 => ?_) (fun c_113 => ?_)
    · exact absurd c_113 (by decide)
    · refine lv_iload_n hx hb dX2_isOf_13 rfl (lv_at hl 1 rfl) ?_
      refine lv_iconst (v := 0) hx hb dX2_isOf_14 (by decide) ?_
      refine lv_bipush (v := 6) hx hb dX2_isOf_15 (by decide) ?_
      have kc4 : (4 : Int32).toInt = 4 := by decide
      have kc0 : (0 : Int32).toInt = 0 := by decide
      have kc6 : (6 : Int32).toInt = 6 := by decide
      refine zc_SN (As := [.int 4, .int 0, .int 6]) (rest := []) ⟨hx, hb, hml, hown, hts⟩ (c_within l D cI cJ cZ cP cS po (4) (0) (6) ) ⟨(va_cnB 3 hts gX2_isOf_X7_within_n21 rfl rfl rfl (hN.1 (RX2, 21, yX7_within) (List.mem_of_getElem? (i := 7) rfl)) (hts _ (List.mem_of_getElem? (i := 3) rfl)) dh_X7_within ⟨Nat.le_of_ble_eq_true rfl, Nat.le_of_ble_eq_true rfl⟩), (hts _ (List.mem_of_getElem? (i := 2) rfl)), trivial⟩ hK hN hZ rfl hl.1 rfl (Nat.le_of_ble_eq_true rfl) dX2_isOf_17 ⟨Nat.le_of_ble_eq_true rfl, Nat.le_of_ble_eq_true rfl⟩ (fun r_114 hr_114 => ?_)
      rcases hr_114 with ⟨rfl, g_115⟩ | ⟨rfl, g_116, g_117⟩ | ⟨rfl, g_118, g_119⟩
      · exfalso; omega
      · exfalso; omega
      · refine lv_if_eq (tgt := 42) hx hb dX2_isOf_20 (by decide) (fun c_120 => ?_) (fun c_120 => ?_)
        · exact absurd c_120 (by decide)
        · refine lv_iload_n hx hb dX2_isOf_23 rfl (lv_at hl 1 rfl) ?_
          refine lv_iload_n hx hb dX2_isOf_24 rfl (lv_at hl 3 rfl) ?_
          refine lv_icmp_ne (tgt := 30) hx hb dX2_isOf_25 (by decide) (fun c_121 => ?_) (fun c_121 => ?_)
          · have fc_121 : 4 ≠ w.toInt := zf_ne c_121 (by decide) rfl
            obtain ⟨t_122, zt_122, yt_122⟩ := hZ.1.2
            refine va_getsN hx hb zt_122 va_S.rf hown (va_Nw.use rfl (hN.2.1 (RX2, 25) (List.mem_of_getElem? (i := 0) rfl))) (fun _ h9 => h9) dX2_isOf_30 ?_
            refine lv_iload_n hx hb dX2_isOf_33 rfl (lv_at hl 1 rfl) ?_
            refine va_ti hx hb yt_122 va_S.rf (zf_in (by decide) (by decide)) (v := .int 0) (by decide) dX2_isOf_34 ?_
            refine lv_istore_n (lv' := [(2, .int 0), (3, .int 0), (0, .ref u0), (1, .int w)]) hx hb dX2_isOf_35 rfl hl (by decide) rfl (fun ls hl => ?_)
            refine lv_iinc (v := 1) (lv' := [(3, .int 1), (2, .int 0), (0, .ref u0), (1, .int w)]) hx hb dX2_isOf_36 hl (k := 1) rfl (by decide) (by decide) rfl (fun ls hl => ?_)
            refine lv_goto (tgt := 7) hx hb dX2_isOf_39 (by decide) ?_
            refine lv_iload_n hx hb dX2_isOf_7 rfl (lv_at hl 0 rfl) ?_
            refine lv_bipush (v := 7) hx hb dX2_isOf_8 (by decide) ?_
            refine lv_icmp_ge (tgt := 42) hx hb dX2_isOf_10 (by decide) (fun c_123 => ?_) (fun c_123 => ?_)
            · exact absurd c_123 (by decide)
            · refine lv_iload_n hx hb dX2_isOf_13 rfl (lv_at hl 1 rfl) ?_
              refine lv_iconst (v := 0) hx hb dX2_isOf_14 (by decide) ?_
              refine lv_bipush (v := 6) hx hb dX2_isOf_15 (by decide) ?_
              refine zc_SN (As := [.int 0, .int 0, .int 6]) (rest := []) ⟨hx, hb, hml, hown, hts⟩ (c_within l D cI cJ cZ cP cS po (0) (0) (6) ) ⟨(va_cnB 3 hts gX2_isOf_X7_within_n21 rfl rfl rfl (hN.1 (RX2, 21, yX7_within) (List.mem_of_getElem? (i := 7) rfl)) (hts _ (List.mem_of_getElem? (i := 3) rfl)) dh_X7_within ⟨Nat.le_of_ble_eq_true rfl, Nat.le_of_ble_eq_true rfl⟩), (hts _ (List.mem_of_getElem? (i := 2) rfl)), trivial⟩ hK hN hZ rfl hl.1 rfl (Nat.le_of_ble_eq_true rfl) dX2_isOf_17 ⟨Nat.le_of_ble_eq_true rfl, Nat.le_of_ble_eq_true rfl⟩ (fun r_124 hr_124 => ?_)
              rcases hr_124 with ⟨rfl, g_125⟩ | ⟨rfl, g_126, g_127⟩ | ⟨rfl, g_128, g_129⟩
              · exfalso; omega
              · exfalso; omega
              · refine lv_if_eq (tgt := 42) hx hb dX2_isOf_20 (by decide) (fun c_130 => ?_) (fun c_130 => ?_)
                · exact absurd c_130 (by decide)
                · refine lv_iload_n hx hb dX2_isOf_23 rfl (lv_at hl 1 rfl) ?_
                  refine lv_iload_n hx hb dX2_isOf_24 rfl (lv_at hl 3 rfl) ?_
                  refine lv_icmp_ne (tgt := 30) hx hb dX2_isOf_25 (by decide) (fun c_131 => ?_) (fun c_131 => ?_)
                  · have fc_131 : 0 ≠ w.toInt := zf_ne c_131 (by decide) rfl
                    obtain ⟨t_132, zt_132, yt_132⟩ := hZ.1.2
                    refine va_getsN hx hb zt_132 va_S.rf hown (va_Nw.use rfl (hN.2.1 (RX2, 25) (List.mem_of_getElem? (i := 0) rfl))) (fun _ h9 => h9) dX2_isOf_30 ?_
                    refine lv_iload_n hx hb dX2_isOf_33 rfl (lv_at hl 1 rfl) ?_
                    refine va_ti hx hb yt_132 va_S.rf (zf_in (by decide) (by decide)) (v := .int (-1)) (by decide) dX2_isOf_34 ?_
                    refine lv_istore_n (lv' := [(2, .int (-1)), (3, .int 1), (0, .ref u0), (1, .int w)]) hx hb dX2_isOf_35 rfl hl (by decide) rfl (fun ls hl => ?_)
                    refine lv_iinc (v := 2) (lv' := [(3, .int 2), (2, .int (-1)), (0, .ref u0), (1, .int w)]) hx hb dX2_isOf_36 hl (k := 1) rfl (by decide) (by decide) rfl (fun ls hl => ?_)
                    refine lv_goto (tgt := 7) hx hb dX2_isOf_39 (by decide) ?_
                    refine lv_iload_n hx hb dX2_isOf_7 rfl (lv_at hl 0 rfl) ?_
                    refine lv_bipush (v := 7) hx hb dX2_isOf_8 (by decide) ?_
                    refine lv_icmp_ge (tgt := 42) hx hb dX2_isOf_10 (by decide) (fun c_133 => ?_) (fun c_133 => ?_)
                    · exact absurd c_133 (by decide)
                    · refine lv_iload_n hx hb dX2_isOf_13 rfl (lv_at hl 1 rfl) ?_
                      refine lv_iconst (v := 0) hx hb dX2_isOf_14 (by decide) ?_
                      refine lv_bipush (v := 6) hx hb dX2_isOf_15 (by decide) ?_
                      have kcm1 : ((-1) : Int32).toInt = (-1) := by decide
                      refine zc_SN (As := [.int (-1), .int 0, .int 6]) (rest := []) ⟨hx, hb, hml, hown, hts⟩ (c_within l D cI cJ cZ cP cS po ((-1)) (0) (6) ) ⟨(va_cnB 3 hts gX2_isOf_X7_within_n21 rfl rfl rfl (hN.1 (RX2, 21, yX7_within) (List.mem_of_getElem? (i := 7) rfl)) (hts _ (List.mem_of_getElem? (i := 3) rfl)) dh_X7_within ⟨Nat.le_of_ble_eq_true rfl, Nat.le_of_ble_eq_true rfl⟩), (hts _ (List.mem_of_getElem? (i := 2) rfl)), trivial⟩ hK hN hZ rfl hl.1 rfl (Nat.le_of_ble_eq_true rfl) dX2_isOf_17 ⟨Nat.le_of_ble_eq_true rfl, Nat.le_of_ble_eq_true rfl⟩ (fun r_134 hr_134 => ?_)
                      rcases hr_134 with ⟨rfl, g_135⟩ | ⟨rfl, g_136, g_137⟩ | ⟨rfl, g_138, g_139⟩
                      · refine lv_if_eq (tgt := 42) hx hb dX2_isOf_20 (by decide) (fun c_140 => ?_) (fun c_140 => ?_)
                        · refine lv_iconst (v := 0) hx hb dX2_isOf_42 (by decide) ?_
                          exact W.zret (v := 0) hx hb hr (by decide) (fun t ht hW => ⟨0, rfl, ⟨by decide, by decide, (show ((0 : Int32).toInt = 1 ↔ zIsOf (4 : Int32).toInt w.toInt) from by (have k0 : (0 : Int32).toInt = 0 := (by decide); have k4 : (4 : Int32).toInt = 4 := (by decide); unfold zIsOf; omega))⟩, ht⟩) (fun q hq => by cases hq) dX2_isOf_43
                        · exact absurd c_140 (by decide)
                      · exfalso; omega
                      · exfalso; omega
                  · have fc_131 : 0 = w.toInt := zf_eq c_131 (by decide) rfl
                    refine lv_iconst (v := 1) hx hb dX2_isOf_28 (by decide) ?_
                    exact W.zret (v := 1) hx hb hr (by decide) (fun t ht hW => ⟨1, rfl, ⟨by decide, by decide, (show ((1 : Int32).toInt = 1 ↔ zIsOf (4 : Int32).toInt w.toInt) from by (have k1 : (1 : Int32).toInt = 1 := (by decide); have k4 : (4 : Int32).toInt = 4 := (by decide); unfold zIsOf; omega))⟩, ht⟩) (fun q hq => by cases hq) dX2_isOf_29
          · have fc_121 : 4 = w.toInt := zf_eq c_121 (by decide) rfl
            refine lv_iconst (v := 1) hx hb dX2_isOf_28 (by decide) ?_
            exact W.zret (v := 1) hx hb hr (by decide) (fun t ht hW => ⟨1, rfl, ⟨by decide, by decide, (show ((1 : Int32).toInt = 1 ↔ zIsOf (4 : Int32).toInt w.toInt) from by (have k1 : (1 : Int32).toInt = 1 := (by decide); have k4 : (4 : Int32).toInt = 4 := (by decide); unfold zIsOf; omega))⟩, ht⟩) (fun q hq => by cases hq) dX2_isOf_29
  · refine lv_aload_n hx hb dX2_isOf_0 rfl (lv_at hl 0 rfl) ?_
    refine va_get (D := D) (ci := 2) (v := .int 5) (C := RX2) (T := TX2) (N := 3) hx hb hts hi_X2_isOf_2 hown hK (zPu_P hZ hu_u0) 0 rfl rfl 0 (by decide) (hts (.fieldLink RX2 9 "TheLiningsInIt$Pull" "kind" "I") (List.mem_of_getElem? (i := 1) rfl)) (fun _ h9 => h9) rfl dX2_isOf_1 ?_
    refine lv_istore_n (lv' := [(2, .int 5), (0, .ref u0), (1, .int w)]) hx hb dX2_isOf_4 rfl hl (by decide) rfl (fun ls hl => ?_)
    refine lv_iconst (v := 0) hx hb dX2_isOf_5 (by decide) ?_
    refine lv_istore_n (lv' := [(3, .int 0), (2, .int 5), (0, .ref u0), (1, .int w)]) hx hb dX2_isOf_6 rfl hl (by decide) rfl (fun ls hl => ?_)
    refine lv_iload_n hx hb dX2_isOf_7 rfl (lv_at hl 0 rfl) ?_
    refine lv_bipush (v := 7) hx hb dX2_isOf_8 (by decide) ?_
    refine lv_icmp_ge (tgt := 42) hx hb dX2_isOf_10 (by decide) (fun c_141 => ?_) (fun c_141 => ?_)
    · exact absurd c_141 (by decide)
    · refine lv_iload_n hx hb dX2_isOf_13 rfl (lv_at hl 1 rfl) ?_
      refine lv_iconst (v := 0) hx hb dX2_isOf_14 (by decide) ?_
      refine lv_bipush (v := 6) hx hb dX2_isOf_15 (by decide) ?_
      have kc5 : (5 : Int32).toInt = 5 := by decide
      have kc0 : (0 : Int32).toInt = 0 := by decide
      have kc6 : (6 : Int32).toInt = 6 := by decide
      refine zc_SN (As := [.int 5, .int 0, .int 6]) (rest := []) ⟨hx, hb, hml, hown, hts⟩ (c_within l D cI cJ cZ cP cS po (5) (0) (6) ) ⟨(va_cnB 3 hts gX2_isOf_X7_within_n21 rfl rfl rfl (hN.1 (RX2, 21, yX7_within) (List.mem_of_getElem? (i := 7) rfl)) (hts _ (List.mem_of_getElem? (i := 3) rfl)) dh_X7_within ⟨Nat.le_of_ble_eq_true rfl, Nat.le_of_ble_eq_true rfl⟩), (hts _ (List.mem_of_getElem? (i := 2) rfl)), trivial⟩ hK hN hZ rfl hl.1 rfl (Nat.le_of_ble_eq_true rfl) dX2_isOf_17 ⟨Nat.le_of_ble_eq_true rfl, Nat.le_of_ble_eq_true rfl⟩ (fun r_142 hr_142 => ?_)
      rcases hr_142 with ⟨rfl, g_143⟩ | ⟨rfl, g_144, g_145⟩ | ⟨rfl, g_146, g_147⟩
      · exfalso; omega
      · exfalso; omega
      · refine lv_if_eq (tgt := 42) hx hb dX2_isOf_20 (by decide) (fun c_148 => ?_) (fun c_148 => ?_)
        · exact absurd c_148 (by decide)
        · refine lv_iload_n hx hb dX2_isOf_23 rfl (lv_at hl 1 rfl) ?_
          refine lv_iload_n hx hb dX2_isOf_24 rfl (lv_at hl 3 rfl) ?_
          refine lv_icmp_ne (tgt := 30) hx hb dX2_isOf_25 (by decide) (fun c_149 => ?_) (fun c_149 => ?_)
          · have fc_149 : 5 ≠ w.toInt := zf_ne c_149 (by decide) rfl
            obtain ⟨t_150, zt_150, yt_150⟩ := hZ.1.2
            refine va_getsN hx hb zt_150 va_S.rf hown (va_Nw.use rfl (hN.2.1 (RX2, 25) (List.mem_of_getElem? (i := 0) rfl))) (fun _ h9 => h9) dX2_isOf_30 ?_
            refine lv_iload_n hx hb dX2_isOf_33 rfl (lv_at hl 1 rfl) ?_
            refine va_ti hx hb yt_150 va_S.rf (zf_in (by decide) (by decide)) (v := .int 2) (by decide) dX2_isOf_34 ?_
            refine lv_istore_n (lv' := [(2, .int 2), (3, .int 0), (0, .ref u0), (1, .int w)]) hx hb dX2_isOf_35 rfl hl (by decide) rfl (fun ls hl => ?_)
            refine lv_iinc (v := 1) (lv' := [(3, .int 1), (2, .int 2), (0, .ref u0), (1, .int w)]) hx hb dX2_isOf_36 hl (k := 1) rfl (by decide) (by decide) rfl (fun ls hl => ?_)
            refine lv_goto (tgt := 7) hx hb dX2_isOf_39 (by decide) ?_
            refine lv_iload_n hx hb dX2_isOf_7 rfl (lv_at hl 0 rfl) ?_
            refine lv_bipush (v := 7) hx hb dX2_isOf_8 (by decide) ?_
            refine lv_icmp_ge (tgt := 42) hx hb dX2_isOf_10 (by decide) (fun c_151 => ?_) (fun c_151 => ?_)
            · exact absurd c_151 (by decide)
            · refine lv_iload_n hx hb dX2_isOf_13 rfl (lv_at hl 1 rfl) ?_
              refine lv_iconst (v := 0) hx hb dX2_isOf_14 (by decide) ?_
              refine lv_bipush (v := 6) hx hb dX2_isOf_15 (by decide) ?_
              have kc2 : (2 : Int32).toInt = 2 := by decide
              refine zc_SN (As := [.int 2, .int 0, .int 6]) (rest := []) ⟨hx, hb, hml, hown, hts⟩ (c_within l D cI cJ cZ cP cS po (2) (0) (6) ) ⟨(va_cnB 3 hts gX2_isOf_X7_within_n21 rfl rfl rfl (hN.1 (RX2, 21, yX7_within) (List.mem_of_getElem? (i := 7) rfl)) (hts _ (List.mem_of_getElem? (i := 3) rfl)) dh_X7_within ⟨Nat.le_of_ble_eq_true rfl, Nat.le_of_ble_eq_true rfl⟩), (hts _ (List.mem_of_getElem? (i := 2) rfl)), trivial⟩ hK hN hZ rfl hl.1 rfl (Nat.le_of_ble_eq_true rfl) dX2_isOf_17 ⟨Nat.le_of_ble_eq_true rfl, Nat.le_of_ble_eq_true rfl⟩ (fun r_152 hr_152 => ?_)
              rcases hr_152 with ⟨rfl, g_153⟩ | ⟨rfl, g_154, g_155⟩ | ⟨rfl, g_156, g_157⟩
              · exfalso; omega
              · exfalso; omega
              · refine lv_if_eq (tgt := 42) hx hb dX2_isOf_20 (by decide) (fun c_158 => ?_) (fun c_158 => ?_)
                · exact absurd c_158 (by decide)
                · refine lv_iload_n hx hb dX2_isOf_23 rfl (lv_at hl 1 rfl) ?_
                  refine lv_iload_n hx hb dX2_isOf_24 rfl (lv_at hl 3 rfl) ?_
                  refine lv_icmp_ne (tgt := 30) hx hb dX2_isOf_25 (by decide) (fun c_159 => ?_) (fun c_159 => ?_)
                  · have fc_159 : 2 ≠ w.toInt := zf_ne c_159 (by decide) rfl
                    obtain ⟨t_160, zt_160, yt_160⟩ := hZ.1.2
                    refine va_getsN hx hb zt_160 va_S.rf hown (va_Nw.use rfl (hN.2.1 (RX2, 25) (List.mem_of_getElem? (i := 0) rfl))) (fun _ h9 => h9) dX2_isOf_30 ?_
                    refine lv_iload_n hx hb dX2_isOf_33 rfl (lv_at hl 1 rfl) ?_
                    refine va_ti hx hb yt_160 va_S.rf (zf_in (by decide) (by decide)) (v := .int 0) (by decide) dX2_isOf_34 ?_
                    refine lv_istore_n (lv' := [(2, .int 0), (3, .int 1), (0, .ref u0), (1, .int w)]) hx hb dX2_isOf_35 rfl hl (by decide) rfl (fun ls hl => ?_)
                    refine lv_iinc (v := 2) (lv' := [(3, .int 2), (2, .int 0), (0, .ref u0), (1, .int w)]) hx hb dX2_isOf_36 hl (k := 1) rfl (by decide) (by decide) rfl (fun ls hl => ?_)
                    refine lv_goto (tgt := 7) hx hb dX2_isOf_39 (by decide) ?_
                    refine lv_iload_n hx hb dX2_isOf_7 rfl (lv_at hl 0 rfl) ?_
                    refine lv_bipush (v := 7) hx hb dX2_isOf_8 (by decide) ?_
                    refine lv_icmp_ge (tgt := 42) hx hb dX2_isOf_10 (by decide) (fun c_161 => ?_) (fun c_161 => ?_)
                    · exact absurd c_161 (by decide)
                    · refine lv_iload_n hx hb dX2_isOf_13 rfl (lv_at hl 1 rfl) ?_
                      refine lv_iconst (v := 0) hx hb dX2_isOf_14 (by decide) ?_
                      refine lv_bipush (v := 6) hx hb dX2_isOf_15 (by decide) ?_
                      refine zc_SN (As := [.int 0, .int 0, .int 6]) (rest := []) ⟨hx, hb, hml, hown, hts⟩ (c_within l D cI cJ cZ cP cS po (0) (0) (6) ) ⟨(va_cnB 3 hts gX2_isOf_X7_within_n21 rfl rfl rfl (hN.1 (RX2, 21, yX7_within) (List.mem_of_getElem? (i := 7) rfl)) (hts _ (List.mem_of_getElem? (i := 3) rfl)) dh_X7_within ⟨Nat.le_of_ble_eq_true rfl, Nat.le_of_ble_eq_true rfl⟩), (hts _ (List.mem_of_getElem? (i := 2) rfl)), trivial⟩ hK hN hZ rfl hl.1 rfl (Nat.le_of_ble_eq_true rfl) dX2_isOf_17 ⟨Nat.le_of_ble_eq_true rfl, Nat.le_of_ble_eq_true rfl⟩ (fun r_162 hr_162 => ?_)
                      rcases hr_162 with ⟨rfl, g_163⟩ | ⟨rfl, g_164, g_165⟩ | ⟨rfl, g_166, g_167⟩
                      · exfalso; omega
                      · exfalso; omega
                      · refine lv_if_eq (tgt := 42) hx hb dX2_isOf_20 (by decide) (fun c_168 => ?_) (fun c_168 => ?_)
                        · exact absurd c_168 (by decide)
                        · refine lv_iload_n hx hb dX2_isOf_23 rfl (lv_at hl 1 rfl) ?_
                          refine lv_iload_n hx hb dX2_isOf_24 rfl (lv_at hl 3 rfl) ?_
                          refine lv_icmp_ne (tgt := 30) hx hb dX2_isOf_25 (by decide) (fun c_169 => ?_) (fun c_169 => ?_)
                          · have fc_169 : 0 ≠ w.toInt := zf_ne c_169 (by decide) rfl
                            obtain ⟨t_170, zt_170, yt_170⟩ := hZ.1.2
                            refine va_getsN hx hb zt_170 va_S.rf hown (va_Nw.use rfl (hN.2.1 (RX2, 25) (List.mem_of_getElem? (i := 0) rfl))) (fun _ h9 => h9) dX2_isOf_30 ?_
                            refine lv_iload_n hx hb dX2_isOf_33 rfl (lv_at hl 1 rfl) ?_
                            refine va_ti hx hb yt_170 va_S.rf (zf_in (by decide) (by decide)) (v := .int (-1)) (by decide) dX2_isOf_34 ?_
                            refine lv_istore_n (lv' := [(2, .int (-1)), (3, .int 2), (0, .ref u0), (1, .int w)]) hx hb dX2_isOf_35 rfl hl (by decide) rfl (fun ls hl => ?_)
                            refine lv_iinc (v := 3) (lv' := [(3, .int 3), (2, .int (-1)), (0, .ref u0), (1, .int w)]) hx hb dX2_isOf_36 hl (k := 1) rfl (by decide) (by decide) rfl (fun ls hl => ?_)
                            refine lv_goto (tgt := 7) hx hb dX2_isOf_39 (by decide) ?_
                            refine lv_iload_n hx hb dX2_isOf_7 rfl (lv_at hl 0 rfl) ?_
                            refine lv_bipush (v := 7) hx hb dX2_isOf_8 (by decide) ?_
                            refine lv_icmp_ge (tgt := 42) hx hb dX2_isOf_10 (by decide) (fun c_171 => ?_) (fun c_171 => ?_)
                            · exact absurd c_171 (by decide)
                            · refine lv_iload_n hx hb dX2_isOf_13 rfl (lv_at hl 1 rfl) ?_
                              refine lv_iconst (v := 0) hx hb dX2_isOf_14 (by decide) ?_
                              refine lv_bipush (v := 6) hx hb dX2_isOf_15 (by decide) ?_
                              have kcm1 : ((-1) : Int32).toInt = (-1) := by decide
                              refine zc_SN (As := [.int (-1), .int 0, .int 6]) (rest := []) ⟨hx, hb, hml, hown, hts⟩ (c_within l D cI cJ cZ cP cS po ((-1)) (0) (6) ) ⟨(va_cnB 3 hts gX2_isOf_X7_within_n21 rfl rfl rfl (hN.1 (RX2, 21, yX7_within) (List.mem_of_getElem? (i := 7) rfl)) (hts _ (List.mem_of_getElem? (i := 3) rfl)) dh_X7_within ⟨Nat.le_of_ble_eq_true rfl, Nat.le_of_ble_eq_true rfl⟩), (hts _ (List.mem_of_getElem? (i := 2) rfl)), trivial⟩ hK hN hZ rfl hl.1 rfl (Nat.le_of_ble_eq_true rfl) dX2_isOf_17 ⟨Nat.le_of_ble_eq_true rfl, Nat.le_of_ble_eq_true rfl⟩ (fun r_172 hr_172 => ?_)
                              rcases hr_172 with ⟨rfl, g_173⟩ | ⟨rfl, g_174, g_175⟩ | ⟨rfl, g_176, g_177⟩
                              · refine lv_if_eq (tgt := 42) hx hb dX2_isOf_20 (by decide) (fun c_178 => ?_) (fun c_178 => ?_)
                                · refine lv_iconst (v := 0) hx hb dX2_isOf_42 (by decide) ?_
                                  exact W.zret (v := 0) hx hb hr (by decide) (fun t ht hW => ⟨0, rfl, ⟨by decide, by decide, (show ((0 : Int32).toInt = 1 ↔ zIsOf (5 : Int32).toInt w.toInt) from by (have k0 : (0 : Int32).toInt = 0 := (by decide); have k5 : (5 : Int32).toInt = 5 := (by decide); unfold zIsOf; omega))⟩, ht⟩) (fun q hq => by cases hq) dX2_isOf_43
                                · exact absurd c_178 (by decide)
                              · exfalso; omega
                              · exfalso; omega
                          · have fc_169 : 0 = w.toInt := zf_eq c_169 (by decide) rfl
                            refine lv_iconst (v := 1) hx hb dX2_isOf_28 (by decide) ?_
                            exact W.zret (v := 1) hx hb hr (by decide) (fun t ht hW => ⟨1, rfl, ⟨by decide, by decide, (show ((1 : Int32).toInt = 1 ↔ zIsOf (5 : Int32).toInt w.toInt) from by (have k1 : (1 : Int32).toInt = 1 := (by decide); have k5 : (5 : Int32).toInt = 5 := (by decide); unfold zIsOf; omega))⟩, ht⟩) (fun q hq => by cases hq) dX2_isOf_29
                  · have fc_159 : 2 = w.toInt := zf_eq c_159 (by decide) rfl
                    refine lv_iconst (v := 1) hx hb dX2_isOf_28 (by decide) ?_
                    exact W.zret (v := 1) hx hb hr (by decide) (fun t ht hW => ⟨1, rfl, ⟨by decide, by decide, (show ((1 : Int32).toInt = 1 ↔ zIsOf (5 : Int32).toInt w.toInt) from by (have k1 : (1 : Int32).toInt = 1 := (by decide); have k5 : (5 : Int32).toInt = 5 := (by decide); unfold zIsOf; omega))⟩, ht⟩) (fun q hq => by cases hq) dX2_isOf_29
          · have fc_149 : 5 = w.toInt := zf_eq c_149 (by decide) rfl
            refine lv_iconst (v := 1) hx hb dX2_isOf_28 (by decide) ?_
            exact W.zret (v := 1) hx hb hr (by decide) (fun t ht hW => ⟨1, rfl, ⟨by decide, by decide, (show ((1 : Int32).toInt = 1 ↔ zIsOf (5 : Int32).toInt w.toInt) from by (have k1 : (1 : Int32).toInt = 1 := (by decide); have k5 : (5 : Int32).toInt = 5 := (by decide); unfold zIsOf; omega))⟩, ht⟩) (fun q hq => by cases hq) dX2_isOf_29
  · refine lv_aload_n hx hb dX2_isOf_0 rfl (lv_at hl 0 rfl) ?_
    refine va_get (D := D) (ci := 2) (v := .int 6) (C := RX2) (T := TX2) (N := 3) hx hb hts hi_X2_isOf_2 hown hK (zPu_P hZ hu_u0) 0 rfl rfl 0 (by decide) (hts (.fieldLink RX2 9 "TheLiningsInIt$Pull" "kind" "I") (List.mem_of_getElem? (i := 1) rfl)) (fun _ h9 => h9) rfl dX2_isOf_1 ?_
    refine lv_istore_n (lv' := [(2, .int 6), (0, .ref u0), (1, .int w)]) hx hb dX2_isOf_4 rfl hl (by decide) rfl (fun ls hl => ?_)
    refine lv_iconst (v := 0) hx hb dX2_isOf_5 (by decide) ?_
    refine lv_istore_n (lv' := [(3, .int 0), (2, .int 6), (0, .ref u0), (1, .int w)]) hx hb dX2_isOf_6 rfl hl (by decide) rfl (fun ls hl => ?_)
    refine lv_iload_n hx hb dX2_isOf_7 rfl (lv_at hl 0 rfl) ?_
    refine lv_bipush (v := 7) hx hb dX2_isOf_8 (by decide) ?_
    refine lv_icmp_ge (tgt := 42) hx hb dX2_isOf_10 (by decide) (fun c_179 => ?_) (fun c_179 => ?_)
    · exact absurd c_179 (by decide)
    · refine lv_iload_n hx hb dX2_isOf_13 rfl (lv_at hl 1 rfl) ?_
      refine lv_iconst (v := 0) hx hb dX2_isOf_14 (by decide) ?_
      refine lv_bipush (v := 6) hx hb dX2_isOf_15 (by decide) ?_
      have kc6 : (6 : Int32).toInt = 6 := by decide
      have kc0 : (0 : Int32).toInt = 0 := by decide
      refine zc_SN (As := [.int 6, .int 0, .int 6]) (rest := []) ⟨hx, hb, hml, hown, hts⟩ (c_within l D cI cJ cZ cP cS po (6) (0) (6) ) ⟨(va_cnB 3 hts gX2_isOf_X7_within_n21 rfl rfl rfl (hN.1 (RX2, 21, yX7_within) (List.mem_of_getElem? (i := 7) rfl)) (hts _ (List.mem_of_getElem? (i := 3) rfl)) dh_X7_within ⟨Nat.le_of_ble_eq_true rfl, Nat.le_of_ble_eq_true rfl⟩), (hts _ (List.mem_of_getElem? (i := 2) rfl)), trivial⟩ hK hN hZ rfl hl.1 rfl (Nat.le_of_ble_eq_true rfl) dX2_isOf_17 ⟨Nat.le_of_ble_eq_true rfl, Nat.le_of_ble_eq_true rfl⟩ (fun r_180 hr_180 => ?_)
      rcases hr_180 with ⟨rfl, g_181⟩ | ⟨rfl, g_182, g_183⟩ | ⟨rfl, g_184, g_185⟩
      · exfalso; omega
      · exfalso; omega
      · refine lv_if_eq (tgt := 42) hx hb dX2_isOf_20 (by decide) (fun c_186 => ?_) (fun c_186 => ?_)
        · exact absurd c_186 (by decide)
        · refine lv_iload_n hx hb dX2_isOf_23 rfl (lv_at hl 1 rfl) ?_
          refine lv_iload_n hx hb dX2_isOf_24 rfl (lv_at hl 3 rfl) ?_
          refine lv_icmp_ne (tgt := 30) hx hb dX2_isOf_25 (by decide) (fun c_187 => ?_) (fun c_187 => ?_)
          · have fc_187 : 6 ≠ w.toInt := zf_ne c_187 (by decide) rfl
            obtain ⟨t_188, zt_188, yt_188⟩ := hZ.1.2
            refine va_getsN hx hb zt_188 va_S.rf hown (va_Nw.use rfl (hN.2.1 (RX2, 25) (List.mem_of_getElem? (i := 0) rfl))) (fun _ h9 => h9) dX2_isOf_30 ?_
            refine lv_iload_n hx hb dX2_isOf_33 rfl (lv_at hl 1 rfl) ?_
            refine va_ti hx hb yt_188 va_S.rf (zf_in (by decide) (by decide)) (v := .int 4) (by decide) dX2_isOf_34 ?_
            refine lv_istore_n (lv' := [(2, .int 4), (3, .int 0), (0, .ref u0), (1, .int w)]) hx hb dX2_isOf_35 rfl hl (by decide) rfl (fun ls hl => ?_)
            refine lv_iinc (v := 1) (lv' := [(3, .int 1), (2, .int 4), (0, .ref u0), (1, .int w)]) hx hb dX2_isOf_36 hl (k := 1) rfl (by decide) (by decide) rfl (fun ls hl => ?_)
            refine lv_goto (tgt := 7) hx hb dX2_isOf_39 (by decide) ?_
            refine lv_iload_n hx hb dX2_isOf_7 rfl (lv_at hl 0 rfl) ?_
            refine lv_bipush (v := 7) hx hb dX2_isOf_8 (by decide) ?_
            refine lv_icmp_ge (tgt := 42) hx hb dX2_isOf_10 (by decide) (fun c_189 => ?_) (fun c_189 => ?_)
            · exact absurd c_189 (by decide)
            · refine lv_iload_n hx hb dX2_isOf_13 rfl (lv_at hl 1 rfl) ?_
              refine lv_iconst (v := 0) hx hb dX2_isOf_14 (by decide) ?_
              refine lv_bipush (v := 6) hx hb dX2_isOf_15 (by decide) ?_
              have kc4 : (4 : Int32).toInt = 4 := by decide
              refine zc_SN (As := [.int 4, .int 0, .int 6]) (rest := []) ⟨hx, hb, hml, hown, hts⟩ (c_within l D cI cJ cZ cP cS po (4) (0) (6) ) ⟨(va_cnB 3 hts gX2_isOf_X7_within_n21 rfl rfl rfl (hN.1 (RX2, 21, yX7_within) (List.mem_of_getElem? (i := 7) rfl)) (hts _ (List.mem_of_getElem? (i := 3) rfl)) dh_X7_within ⟨Nat.le_of_ble_eq_true rfl, Nat.le_of_ble_eq_true rfl⟩), (hts _ (List.mem_of_getElem? (i := 2) rfl)), trivial⟩ hK hN hZ rfl hl.1 rfl (Nat.le_of_ble_eq_true rfl) dX2_isOf_17 ⟨Nat.le_of_ble_eq_true rfl, Nat.le_of_ble_eq_true rfl⟩ (fun r_190 hr_190 => ?_)
              rcases hr_190 with ⟨rfl, g_191⟩ | ⟨rfl, g_192, g_193⟩ | ⟨rfl, g_194, g_195⟩
              · exfalso; omega
              · exfalso; omega
              · refine lv_if_eq (tgt := 42) hx hb dX2_isOf_20 (by decide) (fun c_196 => ?_) (fun c_196 => ?_)
                · exact absurd c_196 (by decide)
                · refine lv_iload_n hx hb dX2_isOf_23 rfl (lv_at hl 1 rfl) ?_
                  refine lv_iload_n hx hb dX2_isOf_24 rfl (lv_at hl 3 rfl) ?_
                  refine lv_icmp_ne (tgt := 30) hx hb dX2_isOf_25 (by decide) (fun c_197 => ?_) (fun c_197 => ?_)
                  · have fc_197 : 4 ≠ w.toInt := zf_ne c_197 (by decide) rfl
                    obtain ⟨t_198, zt_198, yt_198⟩ := hZ.1.2
                    refine va_getsN hx hb zt_198 va_S.rf hown (va_Nw.use rfl (hN.2.1 (RX2, 25) (List.mem_of_getElem? (i := 0) rfl))) (fun _ h9 => h9) dX2_isOf_30 ?_
                    refine lv_iload_n hx hb dX2_isOf_33 rfl (lv_at hl 1 rfl) ?_
                    refine va_ti hx hb yt_198 va_S.rf (zf_in (by decide) (by decide)) (v := .int 0) (by decide) dX2_isOf_34 ?_
                    refine lv_istore_n (lv' := [(2, .int 0), (3, .int 1), (0, .ref u0), (1, .int w)]) hx hb dX2_isOf_35 rfl hl (by decide) rfl (fun ls hl => ?_)
                    refine lv_iinc (v := 2) (lv' := [(3, .int 2), (2, .int 0), (0, .ref u0), (1, .int w)]) hx hb dX2_isOf_36 hl (k := 1) rfl (by decide) (by decide) rfl (fun ls hl => ?_)
                    refine lv_goto (tgt := 7) hx hb dX2_isOf_39 (by decide) ?_
                    refine lv_iload_n hx hb dX2_isOf_7 rfl (lv_at hl 0 rfl) ?_
                    refine lv_bipush (v := 7) hx hb dX2_isOf_8 (by decide) ?_
                    refine lv_icmp_ge (tgt := 42) hx hb dX2_isOf_10 (by decide) (fun c_199 => ?_) (fun c_199 => ?_)
                    · exact absurd c_199 (by decide)
                    · refine lv_iload_n hx hb dX2_isOf_13 rfl (lv_at hl 1 rfl) ?_
                      refine lv_iconst (v := 0) hx hb dX2_isOf_14 (by decide) ?_
                      refine lv_bipush (v := 6) hx hb dX2_isOf_15 (by decide) ?_
                      refine zc_SN (As := [.int 0, .int 0, .int 6]) (rest := []) ⟨hx, hb, hml, hown, hts⟩ (c_within l D cI cJ cZ cP cS po (0) (0) (6) ) ⟨(va_cnB 3 hts gX2_isOf_X7_within_n21 rfl rfl rfl (hN.1 (RX2, 21, yX7_within) (List.mem_of_getElem? (i := 7) rfl)) (hts _ (List.mem_of_getElem? (i := 3) rfl)) dh_X7_within ⟨Nat.le_of_ble_eq_true rfl, Nat.le_of_ble_eq_true rfl⟩), (hts _ (List.mem_of_getElem? (i := 2) rfl)), trivial⟩ hK hN hZ rfl hl.1 rfl (Nat.le_of_ble_eq_true rfl) dX2_isOf_17 ⟨Nat.le_of_ble_eq_true rfl, Nat.le_of_ble_eq_true rfl⟩ (fun r_200 hr_200 => ?_)
                      rcases hr_200 with ⟨rfl, g_201⟩ | ⟨rfl, g_202, g_203⟩ | ⟨rfl, g_204, g_205⟩
                      · exfalso; omega
                      · exfalso; omega
                      · refine lv_if_eq (tgt := 42) hx hb dX2_isOf_20 (by decide) (fun c_206 => ?_) (fun c_206 => ?_)
                        · exact absurd c_206 (by decide)
                        · refine lv_iload_n hx hb dX2_isOf_23 rfl (lv_at hl 1 rfl) ?_
                          refine lv_iload_n hx hb dX2_isOf_24 rfl (lv_at hl 3 rfl) ?_
                          refine lv_icmp_ne (tgt := 30) hx hb dX2_isOf_25 (by decide) (fun c_207 => ?_) (fun c_207 => ?_)
                          · have fc_207 : 0 ≠ w.toInt := zf_ne c_207 (by decide) rfl
                            obtain ⟨t_208, zt_208, yt_208⟩ := hZ.1.2
                            refine va_getsN hx hb zt_208 va_S.rf hown (va_Nw.use rfl (hN.2.1 (RX2, 25) (List.mem_of_getElem? (i := 0) rfl))) (fun _ h9 => h9) dX2_isOf_30 ?_
                            refine lv_iload_n hx hb dX2_isOf_33 rfl (lv_at hl 1 rfl) ?_
                            refine va_ti hx hb yt_208 va_S.rf (zf_in (by decide) (by decide)) (v := .int (-1)) (by decide) dX2_isOf_34 ?_
                            refine lv_istore_n (lv' := [(2, .int (-1)), (3, .int 2), (0, .ref u0), (1, .int w)]) hx hb dX2_isOf_35 rfl hl (by decide) rfl (fun ls hl => ?_)
                            refine lv_iinc (v := 3) (lv' := [(3, .int 3), (2, .int (-1)), (0, .ref u0), (1, .int w)]) hx hb dX2_isOf_36 hl (k := 1) rfl (by decide) (by decide) rfl (fun ls hl => ?_)
                            refine lv_goto (tgt := 7) hx hb dX2_isOf_39 (by decide) ?_
                            refine lv_iload_n hx hb dX2_isOf_7 rfl (lv_at hl 0 rfl) ?_
                            refine lv_bipush (v := 7) hx hb dX2_isOf_8 (by decide) ?_
                            refine lv_icmp_ge (tgt := 42) hx hb dX2_isOf_10 (by decide) (fun c_209 => ?_) (fun c_209 => ?_)
                            · exact absurd c_209 (by decide)
                            · refine lv_iload_n hx hb dX2_isOf_13 rfl (lv_at hl 1 rfl) ?_
                              refine lv_iconst (v := 0) hx hb dX2_isOf_14 (by decide) ?_
                              refine lv_bipush (v := 6) hx hb dX2_isOf_15 (by decide) ?_
                              have kcm1 : ((-1) : Int32).toInt = (-1) := by decide
                              refine zc_SN (As := [.int (-1), .int 0, .int 6]) (rest := []) ⟨hx, hb, hml, hown, hts⟩ (c_within l D cI cJ cZ cP cS po ((-1)) (0) (6) ) ⟨(va_cnB 3 hts gX2_isOf_X7_within_n21 rfl rfl rfl (hN.1 (RX2, 21, yX7_within) (List.mem_of_getElem? (i := 7) rfl)) (hts _ (List.mem_of_getElem? (i := 3) rfl)) dh_X7_within ⟨Nat.le_of_ble_eq_true rfl, Nat.le_of_ble_eq_true rfl⟩), (hts _ (List.mem_of_getElem? (i := 2) rfl)), trivial⟩ hK hN hZ rfl hl.1 rfl (Nat.le_of_ble_eq_true rfl) dX2_isOf_17 ⟨Nat.le_of_ble_eq_true rfl, Nat.le_of_ble_eq_true rfl⟩ (fun r_210 hr_210 => ?_)
                              rcases hr_210 with ⟨rfl, g_211⟩ | ⟨rfl, g_212, g_213⟩ | ⟨rfl, g_214, g_215⟩
                              · refine lv_if_eq (tgt := 42) hx hb dX2_isOf_20 (by decide) (fun c_216 => ?_) (fun c_216 => ?_)
                                · refine lv_iconst (v := 0) hx hb dX2_isOf_42 (by decide) ?_
                                  exact W.zret (v := 0) hx hb hr (by decide) (fun t ht hW => ⟨0, rfl, ⟨by decide, by decide, (show ((0 : Int32).toInt = 1 ↔ zIsOf (6 : Int32).toInt w.toInt) from by (have k0 : (0 : Int32).toInt = 0 := (by decide); have k6 : (6 : Int32).toInt = 6 := (by decide); unfold zIsOf; omega))⟩, ht⟩) (fun q hq => by cases hq) dX2_isOf_43
                                · exact absurd c_216 (by decide)
                              · exfalso; omega
                              · exfalso; omega
                          · have fc_207 : 0 = w.toInt := zf_eq c_207 (by decide) rfl
                            refine lv_iconst (v := 1) hx hb dX2_isOf_28 (by decide) ?_
                            exact W.zret (v := 1) hx hb hr (by decide) (fun t ht hW => ⟨1, rfl, ⟨by decide, by decide, (show ((1 : Int32).toInt = 1 ↔ zIsOf (6 : Int32).toInt w.toInt) from by (have k1 : (1 : Int32).toInt = 1 := (by decide); have k6 : (6 : Int32).toInt = 6 := (by decide); unfold zIsOf; omega))⟩, ht⟩) (fun q hq => by cases hq) dX2_isOf_29
                  · have fc_197 : 4 = w.toInt := zf_eq c_197 (by decide) rfl
                    refine lv_iconst (v := 1) hx hb dX2_isOf_28 (by decide) ?_
                    exact W.zret (v := 1) hx hb hr (by decide) (fun t ht hW => ⟨1, rfl, ⟨by decide, by decide, (show ((1 : Int32).toInt = 1 ↔ zIsOf (6 : Int32).toInt w.toInt) from by (have k1 : (1 : Int32).toInt = 1 := (by decide); have k6 : (6 : Int32).toInt = 6 := (by decide); unfold zIsOf; omega))⟩, ht⟩) (fun q hq => by cases hq) dX2_isOf_29
          · have fc_187 : 6 = w.toInt := zf_eq c_187 (by decide) rfl
            refine lv_iconst (v := 1) hx hb dX2_isOf_28 (by decide) ?_
            exact W.zret (v := 1) hx hb hr (by decide) (fun t ht hW => ⟨1, rfl, ⟨by decide, by decide, (show ((1 : Int32).toInt = 1 ↔ zIsOf (6 : Int32).toInt w.toInt) from by (have k1 : (1 : Int32).toInt = 1 := (by decide); have k6 : (6 : Int32).toInt = 6 := (by decide); unfold zIsOf; omega))⟩, ht⟩) (fun q hq => by cases hq) dX2_isOf_29
set_option maxHeartbeats 4000000 in
set_option maxRecDepth 100000 in
theorem c_F_Sh_tellsWithin (l : Launch) (D : va_G) (cI cJ cZ cP cS : ClassId) (po : zPool) (h0 e0 : Nat) (he si : Int32) (fe : Nat → Int64) (n lo hi : Int32) (hy0 : (-1) ≤ he.toInt) (hy1 : he.toInt ≤ 103) (hy2 : 0 ≤ si.toInt) (hy3 : si.toInt ≤ 160) (hy4 : 0 ≤ n.toInt) (hy5 : n.toInt ≤ 160) (hy6 : n.toInt ≤ si.toInt) : Met l yX4_tellsWithin wsX4_tellsWithin ({ frames := 2, cells := 0, slots := 0, locals := 43 }) (va_Pc [.ref h0, .int n, .int lo, .int hi] (zR D (zKT cI cJ cZ cP cS) po [(h0, .inr (4, [.ref e0, .int he, .int si])), (e0, .inl (cJ, 160, .inr (.inl fe)))])) (vp_Si (fun r => 0 ≤ r.toInt ∧ r.toInt ≤ 1 ∧ ((r.toInt = 1 → ∀ j : Int, 0 ≤ j → j < n.toInt → lo.toInt ≤ zTl fe j ∧ zTl fe j ≤ hi.toInt) ∧ (r.toInt = 0 → ¬ ∀ j : Int, 0 ≤ j → j < n.toInt → lo.toInt ≤ zTl fe j ∧ zTl fe j ≤ hi.toInt)))) 0 0 (fun _ => False) := by
  refine Met.ofW (cc := cX4_tellsWithin) (maxL := 5) (ret := (some .boolean)) (by decide) rfl ?_
  intro p e s m args below meth c s₁ B hml hv
  obtain ⟨rfl, hP, hK, hN, hZ⟩ := hv
  have hx := B.exec
  have hb := B.bytes
  have hr := B.returns
  have hts := atoms_spec (ws := wsX4_tellsWithin) B.pre
  have hown : s.vm.findClass RX4 = some m.cls := findClass_of_methodNamed B.named
  have hlocks := B.notSynchronized
  have hl := lv_entry ([.ref h0, .int n, .int lo, .int hi]) (n := 5) (Nat.le_of_ble_eq_true rfl)
  rw [lg_entry_eq]
  generalize (lg_sl ([.ref h0, .int n, .int lo, .int hi]) ++ List.replicate (5 - (lg_sl ([.ref h0, .int n, .int lo, .int hi])).length) Slot.unset).toArray = ls at hl ⊢
  replace hl : lv_has ls 5 [(0, .ref h0), (1, .int n), (2, .int lo), (3, .int hi)] := hl
  refine lv_iconst (v := 0) hx hb dX4_tellsWithin_0 (by decide) ?_
  refine lv_istore (lv' := [(4, .int 0), (0, .ref h0), (1, .int n), (2, .int lo), (3, .int hi)]) hx hb dX4_tellsWithin_1 hl (by decide) rfl (fun ls hl => ?_)
  obtain ⟨i_3, hi_3⟩ : ∃ i : Int32, i = 0 := ⟨_, rfl⟩
  replace hl : lv_has ls 5 [(4, .int i_3), (0, .ref h0), (1, .int n), (2, .int lo), (3, .int hi)] := by rw [hi_3]; exact lv_sub hl [0, 1, 2, 3, 4] rfl
  have h1i_3 : i_3.toInt = 0 := by rw [hi_3]; decide
  obtain ⟨nfu, hni_3⟩ : ∃ nq9 : Nat, n.toInt ≤ i_3.toInt + (nq9 : Int) := ⟨((n.toInt : Int) - 0).toNat, by omega⟩
  have hloi_3 : 0 ≤ i_3.toInt := by omega
  have hvi_3_0 : (∀ j : Int, 0 ≤ j → j < i_3.toInt → lo.toInt ≤ zTl fe j ∧ zTl fe j ≤ hi.toInt) := by
    (try rw [hi_3]); (intro j h1 h2; exfalso; have k0 : (0 : Int32).toInt = 0 := (by decide); omega)
  clear h1i_3 hi_3
  revert hni_3
  revert hloi_3
  revert hvi_3_0
  revert hl
  revert ls
  revert i_3
  induction nfu with
  | zero =>
    intro i_3 ls hl hvi_3_0 hloi_3 hni_3
    have hzi_3 : n.toInt ≤ i_3.toInt := by omega
    refine lv_iload hx hb dX4_tellsWithin_3 (lv_at hl 0 rfl) ?_
    refine lv_iload_n hx hb dX4_tellsWithin_5 rfl (lv_at hl 2 rfl) ?_
    refine lv_icmp_ge (tgt := 31) hx hb dX4_tellsWithin_6 (by decide) (fun c_1 => ?_) (fun c_1 => ?_)
    · have fc_1 : n.toInt ≤ i_3.toInt := zf_le c_1 rfl rfl
      refine lv_iconst (v := 1) hx hb dX4_tellsWithin_31 (by decide) ?_
      exact W.zret (v := 1) hx hb hr (by decide) (fun t ht hW => ⟨1, rfl, ⟨by decide, by decide, (show ((1 : Int32).toInt = 1 → ∀ j : Int, 0 ≤ j → j < n.toInt → lo.toInt ≤ zTl fe j ∧ zTl fe j ≤ hi.toInt) ∧ ((1 : Int32).toInt = 0 → ¬ ∀ j : Int, 0 ≤ j → j < n.toInt → lo.toInt ≤ zTl fe j ∧ zTl fe j ≤ hi.toInt) from by (exact ⟨fun _ => fun j h1 h2 => hvi_3_0 j h1 (by omega), fun h => absurd h (by decide)⟩))⟩, ht⟩) (fun q hq => by cases hq) dX4_tellsWithin_32
    · exfalso; have fc_1 : i_3.toInt < n.toInt := zf_nle c_1 rfl rfl; omega
  | succ nfu ih =>
    intro i_3 ls hl hvi_3_0 hloi_3 hni_3
    refine lv_iload hx hb dX4_tellsWithin_3 (lv_at hl 0 rfl) ?_
    refine lv_iload_n hx hb dX4_tellsWithin_5 rfl (lv_at hl 2 rfl) ?_
    refine lv_icmp_ge (tgt := 31) hx hb dX4_tellsWithin_6 (by decide) (fun c_2 => ?_) (fun c_2 => ?_)
    · have fc_2 : n.toInt ≤ i_3.toInt := zf_le c_2 rfl rfl
      refine lv_iconst (v := 1) hx hb dX4_tellsWithin_31 (by decide) ?_
      exact W.zret (v := 1) hx hb hr (by decide) (fun t ht hW => ⟨1, rfl, ⟨by decide, by decide, (show ((1 : Int32).toInt = 1 → ∀ j : Int, 0 ≤ j → j < n.toInt → lo.toInt ≤ zTl fe j ∧ zTl fe j ≤ hi.toInt) ∧ ((1 : Int32).toInt = 0 → ¬ ∀ j : Int, 0 ≤ j → j < n.toInt → lo.toInt ≤ zTl fe j ∧ zTl fe j ≤ hi.toInt) from by (exact ⟨fun _ => fun j h1 h2 => hvi_3_0 j h1 (by omega), fun h => absurd h (by decide)⟩))⟩, ht⟩) (fun q hq => by cases hq) dX4_tellsWithin_32
    · have fc_2 : i_3.toInt < n.toInt := zf_nle c_2 rfl rfl
      refine lv_aload_n hx hb dX4_tellsWithin_9 rfl (lv_at hl 1 rfl) ?_
      refine lv_iload hx hb dX4_tellsWithin_10 (lv_at hl 0 rfl) ?_
      refine zc_V (As := [.int i_3]) (rest := []) ⟨hx, hb, hml, hown, hts⟩ (c_F_Sh_tells l D cI cJ cZ cP cS po h0 e0 (he) (si) fe (i_3) hy0 hy1 hy2 hy3) (cwV 1 hts gX4_tellsWithin_X4_tells rfl rfl rfl ⟨rfl, dh_X4_tells⟩ ⟨Nat.le_of_ble_eq_true rfl, Nat.le_of_ble_eq_true rfl⟩) hK hN hZ hP (hP.sub [0, 1] rfl) (va_recv (q := (RX4, TX4, 3)) hK hP (ci := 4) (q0 := 0) rfl rfl) rfl hl.1 rfl (Nat.le_of_ble_eq_true rfl) dX4_tellsWithin_12 ⟨Nat.le_of_ble_eq_true rfl, Nat.le_of_ble_eq_true rfl⟩ (fun r_3 hr_3 => ?_)
      have hsr_3_0 := hr_3
      refine lv_iload_n hx hb dX4_tellsWithin_15 rfl (lv_at hl 3 rfl) ?_
      refine lv_iload_n hx hb dX4_tellsWithin_16 rfl (lv_at hl 4 rfl) ?_
      refine zc_SN (As := [.int r_3, .int lo, .int hi]) (rest := []) ⟨hx, hb, hml, hown, hts⟩ (c_within l D cI cJ cZ cP cS po (r_3) (lo) (hi) ) ⟨(va_cnB 3 hts gX4_tellsWithin_X7_within_n44 rfl rfl rfl (hN.1 (RX4, 44, yX7_within) (List.mem_of_getElem? (i := 12) rfl)) (hts _ (List.mem_of_getElem? (i := 13) rfl)) dh_X7_within ⟨Nat.le_of_ble_eq_true rfl, Nat.le_of_ble_eq_true rfl⟩), (hts _ (List.mem_of_getElem? (i := 12) rfl)), trivial⟩ hK hN hZ rfl hl.1 rfl (Nat.le_of_ble_eq_true rfl) dX4_tellsWithin_17 ⟨Nat.le_of_ble_eq_true rfl, Nat.le_of_ble_eq_true rfl⟩ (fun r_4 hr_4 => ?_)
      rcases hr_4 with ⟨rfl, g_5⟩ | ⟨rfl, g_6, g_7⟩ | ⟨rfl, g_8, g_9⟩
      · refine lv_if_ne (tgt := 25) hx hb dX4_tellsWithin_20 (by decide) (fun c_10 => ?_) (fun c_10 => ?_)
        · exact absurd c_10 (by decide)
        · refine lv_iconst (v := 0) hx hb dX4_tellsWithin_23 (by decide) ?_
          exact W.zret (v := 0) hx hb hr (by decide) (fun t ht hW => ⟨0, rfl, ⟨by decide, by decide, (show ((0 : Int32).toInt = 1 → ∀ j : Int, 0 ≤ j → j < n.toInt → lo.toInt ≤ zTl fe j ∧ zTl fe j ≤ hi.toInt) ∧ ((0 : Int32).toInt = 0 → ¬ ∀ j : Int, 0 ≤ j → j < n.toInt → lo.toInt ≤ zTl fe j ∧ zTl fe j ≤ hi.toInt) from by (exact ⟨fun h => absurd h (by decide), fun _ => fun q => by (have z := hsr_3_0 (by omega) (by omega); have z2 := q i_3.toInt (by omega) (by omega); unfold zTl at z2; rw [show i_3.toInt.toNat = i_3.toNatClampNeg from rfl, ← z] at z2; omega)⟩))⟩, ht⟩) (fun q hq => by cases hq) dX4_tellsWithin_24
      · refine lv_if_ne (tgt := 25) hx hb dX4_tellsWithin_20 (by decide) (fun c_11 => ?_) (fun c_11 => ?_)
        · exact absurd c_11 (by decide)
        · refine lv_iconst (v := 0) hx hb dX4_tellsWithin_23 (by decide) ?_
          exact W.zret (v := 0) hx hb hr (by decide) (fun t ht hW => ⟨0, rfl, ⟨by decide, by decide, (show ((0 : Int32).toInt = 1 → ∀ j : Int, 0 ≤ j → j < n.toInt → lo.toInt ≤ zTl fe j ∧ zTl fe j ≤ hi.toInt) ∧ ((0 : Int32).toInt = 0 → ¬ ∀ j : Int, 0 ≤ j → j < n.toInt → lo.toInt ≤ zTl fe j ∧ zTl fe j ≤ hi.toInt) from by (exact ⟨fun h => absurd h (by decide), fun _ => fun q => by (have z := hsr_3_0 (by omega) (by omega); have z2 := q i_3.toInt (by omega) (by omega); unfold zTl at z2; rw [show i_3.toInt.toNat = i_3.toNatClampNeg from rfl, ← z] at z2; omega)⟩))⟩, ht⟩) (fun q hq => by cases hq) dX4_tellsWithin_24
      · refine lv_if_ne (tgt := 25) hx hb dX4_tellsWithin_20 (by decide) (fun c_12 => ?_) (fun c_12 => ?_)
        · obtain ⟨x_13, ex_13⟩ : ∃ y : Int32, y = i_3 + 1 := ⟨_, rfl⟩
          have qx_13 : x_13.toInt = i_3.toInt + 1 := dw_inc ex_13 fc_2
          refine lv_iinc (v := x_13) (lv' := [(4, .int x_13), (0, .ref h0), (1, .int n), (2, .int lo), (3, .int hi)]) hx hb dX4_tellsWithin_25 hl (k := 0) rfl ex_13.symm (by decide) rfl (fun ls hl => ?_)
          refine lv_goto (tgt := 3) hx hb dX4_tellsWithin_28 (by decide) ?_
          exact ih x_13 _ (lv_sub hl [0, 1, 2, 3, 4] rfl) (show (∀ j : Int, 0 ≤ j → j < x_13.toInt → lo.toInt ≤ zTl fe j ∧ zTl fe j ≤ hi.toInt) from by (intro j h1 h2; rcases (show j < i_3.toInt ∨ j = i_3.toInt by omega) with h3 | h3; (exact hvi_3_0 j h1 h3); (have z := hsr_3_0 (by omega) (by omega); subst h3; unfold zTl; rw [show i_3.toInt.toNat = i_3.toNatClampNeg from rfl, ← z]; omega))) (dw_lo hloi_3 qx_13) (dw_hn hni_3 qx_13)
        · exact absurd c_12 (by decide)
set_option maxHeartbeats 4000000 in
set_option maxRecDepth 100000 in
theorem c_F_Sh_noBelief (l : Launch) (D : va_G) (cI cJ cZ cP cS : ClassId) (po : zPool) (h0 e0 : Nat) (he si : Int32) (fe : Nat → Int64) (hy0 : (-1) ≤ he.toInt) (hy1 : he.toInt ≤ 103) (hy2 : 0 ≤ si.toInt) (hy3 : si.toInt ≤ 160) : Met l yX4_noBelief wsX4_noBelief ({ frames := 3, cells := 0, slots := 0, locals := 67 }) (va_Pc [.ref h0] (zR D (zKT cI cJ cZ cP cS) po [(h0, .inr (4, [.ref e0, .int he, .int si])), (e0, .inl (cJ, 160, .inr (.inl fe)))])) (vp_Si (fun r => 0 ≤ r.toInt ∧ r.toInt ≤ 6 ∧ (zBelR he.toInt si.toInt fe r.toInt))) 0 0 (fun _ => False) := by
  refine Met.ofW (cc := cX4_noBelief) (maxL := 2) (ret := (some .int)) (by decide) rfl ?_
  intro p e s m args below meth c s₁ B hml hv
  obtain ⟨rfl, hP, hK, hN, hZ⟩ := hv
  have hx := B.exec
  have hb := B.bytes
  have hr := B.returns
  have hts := atoms_spec (ws := wsX4_noBelief) B.pre
  have hown : s.vm.findClass RX4 = some m.cls := findClass_of_methodNamed B.named
  have hlocks := B.notSynchronized
  have hl := lv_entry ([.ref h0]) (n := 2) (Nat.le_of_ble_eq_true rfl)
  rw [lg_entry_eq]
  generalize (lg_sl ([.ref h0]) ++ List.replicate (2 - (lg_sl ([.ref h0])).length) Slot.unset).toArray = ls at hl ⊢
  replace hl : lv_has ls 2 [(0, .ref h0)] := hl
  refine lv_aload_n hx hb dX4_noBelief_0 rfl (lv_at hl 0 rfl) ?_
  refine zc_V (As := []) (rest := []) ⟨hx, hb, hml, hown, hts⟩ (c_Sh_noRow l D cI cJ cZ cP cS po h0 e0 (he) (si) hy0 hy1 hy2 hy3) (cwV 0 hts gX4_noBelief_X4_noRow rfl rfl rfl ⟨rfl, dh_X4_noRow⟩ ⟨Nat.le_of_ble_eq_true rfl, Nat.le_of_ble_eq_true rfl⟩) hK hN hZ hP (hP.sub [0] rfl) (va_recv (q := (RX4, TX4, 3)) hK hP (ci := 4) (q0 := 0) rfl rfl) rfl hl.1 rfl (Nat.le_of_ble_eq_true rfl) dX4_noBelief_1 ⟨Nat.le_of_ble_eq_true rfl, Nat.le_of_ble_eq_true rfl⟩ (fun r_1 hr_1 => ?_)
  rcases hr_1 with ⟨rfl, g_2, g_3⟩ | ⟨rfl, g_4, g_5⟩ | ⟨rfl, g_6⟩
  · refine lv_istore_n (lv' := [(1, .int 2), (0, .ref h0)]) hx hb dX4_noBelief_4 rfl hl (by decide) rfl (fun ls hl => ?_)
    refine lv_iload_n hx hb dX4_noBelief_5 rfl (lv_at hl 0 rfl) ?_
    refine lv_if_eq (tgt := 11) hx hb dX4_noBelief_6 (by decide) (fun c_7 => ?_) (fun c_7 => ?_)
    · exact absurd c_7 (by decide)
    · refine lv_iload_n hx hb dX4_noBelief_9 rfl (lv_at hl 0 rfl) ?_
      exact W.iret (v := 2) hx hb hr (fun t ht hW => ⟨2, rfl, ⟨by decide, by decide, (show zBelR he.toInt si.toInt fe (2 : Int32).toInt from by (have k9 : (2 : Int32).toInt = 2 := (by decide); exact Or.inr (Or.inl ⟨by omega, by omega, by omega⟩)))⟩, ht⟩) (fun q hq => by cases hq) dX4_noBelief_10
  · refine lv_istore_n (lv' := [(1, .int 3), (0, .ref h0)]) hx hb dX4_noBelief_4 rfl hl (by decide) rfl (fun ls hl => ?_)
    refine lv_iload_n hx hb dX4_noBelief_5 rfl (lv_at hl 0 rfl) ?_
    refine lv_if_eq (tgt := 11) hx hb dX4_noBelief_6 (by decide) (fun c_8 => ?_) (fun c_8 => ?_)
    · exact absurd c_8 (by decide)
    · refine lv_iload_n hx hb dX4_noBelief_9 rfl (lv_at hl 0 rfl) ?_
      exact W.iret (v := 3) hx hb hr (fun t ht hW => ⟨3, rfl, ⟨by decide, by decide, (show zBelR he.toInt si.toInt fe (3 : Int32).toInt from by (have k9 : (3 : Int32).toInt = 3 := (by decide); exact Or.inl ⟨by omega, by omega⟩))⟩, ht⟩) (fun q hq => by cases hq) dX4_noBelief_10
  · refine lv_istore_n (lv' := [(1, .int 0), (0, .ref h0)]) hx hb dX4_noBelief_4 rfl hl (by decide) rfl (fun ls hl => ?_)
    refine lv_iload_n hx hb dX4_noBelief_5 rfl (lv_at hl 0 rfl) ?_
    refine lv_if_eq (tgt := 11) hx hb dX4_noBelief_6 (by decide) (fun c_9 => ?_) (fun c_9 => ?_)
    · refine lv_aload_n hx hb dX4_noBelief_11 rfl (lv_at hl 1 rfl) ?_
      refine va_get (D := D) (ci := 4) (v := .int si) (C := RX4) (T := TX4) (N := 3) hx hb hts hi_X4_noBelief_4 hown hK hP 0 rfl rfl 2 (by decide) (hts (.fieldLink RX4 19 "TheLiningsInIt$Shelf" "size" "I") (List.mem_of_getElem? (i := 1) rfl)) (fun _ h9 => h9) rfl dX4_noBelief_12 ?_
      refine lv_bipush (v := 25) hx hb dX4_noBelief_15 (by decide) ?_
      refine lv_icmp_ge (tgt := 22) hx hb dX4_noBelief_17 (by decide) (fun c_10 => ?_) (fun c_10 => ?_)
      · have fc_10 : 25 ≤ si.toInt := zf_le c_10 (by decide) rfl
        refine lv_aload_n hx hb dX4_noBelief_22 rfl (lv_at hl 1 rfl) ?_
        refine lv_bipush (v := 25) hx hb dX4_noBelief_23 (by decide) ?_
        refine lv_iconst (v := 0) hx hb dX4_noBelief_25 (by decide) ?_
        refine lv_bipush (v := 99) hx hb dX4_noBelief_26 (by decide) ?_
        have kc25 : (25 : Int32).toInt = 25 := by decide
        have kc0 : (0 : Int32).toInt = 0 := by decide
        have kc99 : (99 : Int32).toInt = 99 := by decide
        refine zc_V (As := [.int 25, .int 0, .int 99]) (rest := []) ⟨hx, hb, hml, hown, hts⟩ (c_F_Sh_tellsWithin l D cI cJ cZ cP cS po h0 e0 (he) (si) fe (25) (0) (99) hy0 hy1 hy2 hy3 (by omega) (by omega) (by omega)) (cwV 3 hts gX4_noBelief_X4_tellsWithin rfl rfl rfl ⟨rfl, dh_X4_tellsWithin⟩ ⟨Nat.le_of_ble_eq_true rfl, Nat.le_of_ble_eq_true rfl⟩) hK hN hZ hP (hP.sub [0, 1] rfl) (va_recv (q := (RX4, TX4, 3)) hK hP (ci := 4) (q0 := 0) rfl rfl) rfl hl.1 rfl (Nat.le_of_ble_eq_true rfl) dX4_noBelief_28 ⟨Nat.le_of_ble_eq_true rfl, Nat.le_of_ble_eq_true rfl⟩ (fun r_11 hr_11 => ?_)
        obtain ⟨g_12, g_13, hsr_11_0⟩ := hr_11
        refine lv_if_eq (tgt := 38) hx hb dX4_noBelief_31 (by decide) (fun c_14 => ?_) (fun c_14 => ?_)
        · have fc_14 : r_11.toInt = 0 := zf_eq c_14 rfl (by decide)
          refine lv_bipush (v := 6) hx hb dX4_noBelief_38 (by decide) ?_
          exact W.iret (v := 6) hx hb hr (fun t ht hW => ⟨6, rfl, ⟨by decide, by decide, (show zBelR he.toInt si.toInt fe (6 : Int32).toInt from by (have k9 : (6 : Int32).toInt = 6 := (by decide); have k25 : (25 : Int32).toInt = 25 := (by decide); have k99 : (99 : Int32).toInt = 99 := (by decide); have k0 : (0 : Int32).toInt = 0 := (by decide); exact Or.inr (Or.inr (Or.inr (Or.inl ⟨by omega, by omega, fun q => hsr_11_0.2 (by omega) (fun j h1 h2 => by (have z := q j.toNat (by omega); rw [show ((j.toNat : Nat) : Int) = j from by omega] at z; omega)), by omega⟩)))))⟩, ht⟩) (fun q hq => by cases hq) dX4_noBelief_40
        · have fc_14 : r_11.toInt ≠ 0 := zf_ne c_14 rfl (by decide)
          refine lv_iconst (v := 0) hx hb dX4_noBelief_34 (by decide) ?_
          refine lv_goto (tgt := 40) hx hb dX4_noBelief_35 (by decide) ?_
          exact W.iret (v := 0) hx hb hr (fun t ht hW => ⟨0, rfl, ⟨by decide, by decide, (show zBelR he.toInt si.toInt fe (0 : Int32).toInt from by (have k9 : (0 : Int32).toInt = 0 := (by decide); have k25 : (25 : Int32).toInt = 25 := (by decide); have k99 : (99 : Int32).toInt = 99 := (by decide); have k0 : (0 : Int32).toInt = 0 := (by decide); exact Or.inr (Or.inr (Or.inr (Or.inr ⟨by omega, by omega, fun i hi => (by have z := hsr_11_0.1 (by omega) (i : Int) (by omega) (by omega); omega), by omega⟩)))))⟩, ht⟩) (fun q hq => by cases hq) dX4_noBelief_40
      · have fc_10 : si.toInt < 25 := zf_nle c_10 (by decide) rfl
        refine lv_iconst (v := 5) hx hb dX4_noBelief_20 (by decide) ?_
        exact W.iret (v := 5) hx hb hr (fun t ht hW => ⟨5, rfl, ⟨by decide, by decide, (show zBelR he.toInt si.toInt fe (5 : Int32).toInt from by (have k9 : (5 : Int32).toInt = 5 := (by decide); exact Or.inr (Or.inr (Or.inl ⟨by omega, by omega, by omega⟩))))⟩, ht⟩) (fun q hq => by cases hq) dX4_noBelief_21
    · exact absurd c_9 (by decide)
set_option maxHeartbeats 4000000 in
set_option maxRecDepth 100000 in
theorem c_F_X_says (l : Launch) (D : va_G) (cI cJ cZ cP cS : ClassId) (po : zPool) (x0 xs j0 k0 w0 rd mv xr : Nat) (im lf : Int32) (fr : Nat → Int32) (fh : Nat → Option Nat) (s_ : Int32) (h0 e0 : Nat) (he si : Int32) (j0 jp jc z0 zl zs : Nat) (cn de tr se hu sd : Int32) (fp : Nat → Option Nat) (kf af tf : Nat → Int32) (k : Int32) (hy0 : 0 ≤ im.toInt) (hy1 : im.toInt ≤ 1) (hy2 : (-1) ≤ lf.toInt) (hy3 : lf.toInt ≤ 160) (hy4 : (-1) ≤ he.toInt) (hy5 : he.toInt ≤ 103) (hy6 : 0 ≤ si.toInt) (hy7 : si.toInt ≤ 160) (hfs : 0 ≤ s_.toInt → s_.toInt ≤ 7 → fh s_.toNatClampNeg = some h0) (hy9 : 0 ≤ cn.toInt) (hy10 : cn.toInt ≤ 8) (hy11 : 0 ≤ de.toInt) (hy12 : de.toInt ≤ 24) (hy13 : 0 ≤ hu.toInt) (hy14 : hu.toInt ≤ 9) (hjp : zJP po fp cn kf af tf) (hpz : Nat) : Met l yX7_says wsX7_says ({ frames := 2, cells := 0, slots := 0, locals := 45 }) (va_Pc [.ref x0, .int s_, .int k] (zW D (zKT cI cJ cZ cP cS) po [(x0, .inr (7, [.ref xs, .ref j0, .ref k0, .ref w0, .ref rd, .ref mv, .ref xr, .int im, .int lf])), (xr, .inl (cI, 8, .inl fr)), (xs, .inl (cS, 8, .inr (.inr (.inr (.inr fh))))), (h0, .inr (4, [.ref e0, .int he, .int si])), (j0, .inr (0, [.ref z0, .ref jp, .ref jc, .int cn, .int de, .int tr, .int se, .int hu, .int sd])), (jp, .inl (cP, 8, .inr (.inr (.inr (.inr fp)))))] hpz)) (va_Qi (fun (r : Int32) (fr2 : (Nat → Int32)) => (((s_.toInt < 0 ∨ 7 < s_.toInt ∨ k.toInt < 0 ∨ 6 < k.toInt) ∧ r.toInt = -1) ∨ ((0 ≤ s_.toInt ∧ s_.toInt ≤ 7) ∧ (0 ≤ k.toInt ∧ k.toInt ≤ 6) ∧ ((he.toInt = -1 ∧ r.toInt = -3) ∨ (100 ≤ he.toInt ∧ r.toInt = -2) ∨ (cn.toInt ≤ he.toInt ∧ r.toInt = -2) ∨ ((0 ≤ he.toInt ∧ he.toInt < cn.toInt) ∧ r.toInt = zSy (kf he.toNatClampNeg).toInt (af he.toNatClampNeg).toInt (tf he.toNatClampNeg).toInt hu.toInt k.toInt)))) ∧ (True)) (zB D [(x0, .inr (7, [.ref xs, .ref j0, .ref k0, .ref w0, .ref rd, .ref mv, .ref xr, .int im, .int lf])), (xr, .inl (cI, 8, .inl fr)), (xs, .inl (cS, 8, .inr (.inr (.inr (.inr fh))))), (h0, .inr (4, [.ref e0, .int he, .int si])), (j0, .inr (0, [.ref z0, .ref jp, .ref jc, .int cn, .int de, .int tr, .int se, .int hu, .int sd])), (jp, .inl (cP, 8, .inr (.inr (.inr (.inr fp)))))] hpz (fun (fr2 : Nat → Int32) => [(x0, .inr (7, [.ref xs, .ref j0, .ref k0, .ref w0, .ref rd, .ref mv, .ref xr, .int im, .int lf])), (xr, .inl (cI, 8, .inl fr2)), (xs, .inl (cS, 8, .inr (.inr (.inr (.inr fh))))), (h0, .inr (4, [.ref e0, .int he, .int si])), (j0, .inr (0, [.ref z0, .ref jp, .ref jc, .int cn, .int de, .int tr, .int se, .int hu, .int sd])), (jp, .inl (cP, 8, .inr (.inr (.inr (.inr fp)))))])) (va_A [(x0, .inr (7, [.ref xs, .ref j0, .ref k0, .ref w0, .ref rd, .ref mv, .ref xr, .int im, .int lf])), (xr, .inl (cI, 8, .inl fr)), (xs, .inl (cS, 8, .inr (.inr (.inr (.inr fh))))), (h0, .inr (4, [.ref e0, .int he, .int si])), (j0, .inr (0, [.ref z0, .ref jp, .ref jc, .int cn, .int de, .int tr, .int se, .int hu, .int sd])), (jp, .inl (cP, 8, .inr (.inr (.inr (.inr fp)))))] hpz)) 0 0 (va_A [(x0, .inr (7, [.ref xs, .ref j0, .ref k0, .ref w0, .ref rd, .ref mv, .ref xr, .int im, .int lf])), (xr, .inl (cI, 8, .inl fr)), (xs, .inl (cS, 8, .inr (.inr (.inr (.inr fh))))), (h0, .inr (4, [.ref e0, .int he, .int si])), (j0, .inr (0, [.ref z0, .ref jp, .ref jc, .int cn, .int de, .int tr, .int se, .int hu, .int sd])), (jp, .inl (cP, 8, .inr (.inr (.inr (.inr fp)))))] hpz) := by
  refine Met.ofW (cc := cX7_says) (maxL := 5) (ret := (some .int)) (by decide) rfl ?_
  intro p e s m args below meth c s₁ B hml hv
  obtain ⟨rfl, hsz, hP, hK, hD0, hN, hZ⟩ := hv
  have hx := B.exec
  have hb := B.bytes
  have hr := B.returns
  have hts := atoms_spec (ws := wsX7_says) B.pre
  have hown : s.vm.findClass RX7 = some m.cls := findClass_of_methodNamed B.named
  have hlocks := B.notSynchronized
  subst hsz
  have hD := hD0.self (sz := s.heap.size)
  have hA := zA_of hD
  have hl := lv_entry ([.ref x0, .int s_, .int k]) (n := 5) (Nat.le_of_ble_eq_true rfl)
  rw [lg_entry_eq]
  generalize (lg_sl ([.ref x0, .int s_, .int k]) ++ List.replicate (5 - (lg_sl ([.ref x0, .int s_, .int k])).length) Slot.unset).toArray = ls at hl ⊢
  replace hl : lv_has ls 5 [(0, .ref x0), (1, .int s_), (2, .int k)] := hl
  refine zw_begin hP hD (fun H locs hP1 hS => ?_)
  clear hP
  have hP := hP1
  clear hP1
  refine lv_aload_n hx hb dX7_says_0 rfl (lv_at hl 0 rfl) ?_
  refine lv_iload_n hx hb dX7_says_1 rfl (lv_at hl 1 rfl) ?_
  refine zc_Vq (As := [.int s_]) (rest := []) ⟨hx, hb, hml, hown, hts⟩ (c_X_shelfAt l D cI cJ cZ cP cS po x0 xs j0 k0 w0 rd mv xr (im) (lf) ((fun _ => 0)) fh (s_) hy0 hy1 hy2 hy3) (cwV 1 hts gX7_says_X7_shelfAt rfl rfl rfl ⟨rfl, dh_X7_shelfAt⟩ ⟨Nat.le_of_ble_eq_true rfl, Nat.le_of_ble_eq_true rfl⟩) hK hN (hZ.kept hS) hP (hP.sub [0, 2] rfl) (va_recv (q := (RX7, TX7, 9)) hK hP (ci := 7) (q0 := 0) rfl rfl) rfl hl.1 rfl (Nat.le_of_ble_eq_true rfl) dX7_says_2 ⟨Nat.le_of_ble_eq_true rfl, Nat.le_of_ble_eq_true rfl⟩ (fun r_1 hr_1 => ?_)
  rcases hr_1 with ⟨rfl, g_2⟩ | ⟨rfl, g_3, g_4⟩ | ⟨rfl, g_5, g_6⟩
  · refine lv_astore_nN (lv' := [(3, .null), (0, .ref x0), (1, .int s_), (2, .int k)]) hx hb dX7_says_5 rfl hl (by decide) rfl (fun ls hl => ?_)
    refine lv_aload_nN hx hb dX7_says_6 rfl (lv_at hl 0 rfl) ?_
    refine lv_ifnullN (tgt := 20) hx hb dX7_says_7 (by decide) ?_
    refine lv_aload_n hx hb dX7_says_20 rfl (lv_at hl 1 rfl) ?_
    refine lv_iconst (v := 1) hx hb dX7_says_21 (by decide) ?_
    skip
    refine zw_V (As := [.int 1]) (rest := []) (wr := [(xs, .inl (cS, 8, .inr (.inr (.inr (.inr fh))))), (h0, .inr (4, [.ref e0, .int he, .int si])), (j0, .inr (0, [.ref z0, .ref jp, .ref jc, .int cn, .int de, .int tr, .int se, .int hu, .int sd])), (jp, .inl (cP, 8, .inr (.inr (.inr (.inr fp)))))]) ⟨hx, hb, hml, hown, hts⟩ (c_X_refuse_1 l D cI cJ cZ cP cS po x0 xs j0 k0 w0 rd mv xr (im) (lf) fr hy0 hy1 hy2 hy3 H.size) (cwV 1 hts gX7_says_X7_refuse rfl rfl rfl ⟨rfl, dh_X7_refuse⟩ ⟨Nat.le_of_ble_eq_true rfl, Nat.le_of_ble_eq_true rfl⟩) hK hN (hZ.kept hS) hP hD hS hA [0, 1] [2, 3, 4, 5] rfl rfl (by decide) (by decide) (by decide) (va_recv (q := (RX7, TX7, 9)) hK hP (ci := 7) (q0 := 0) rfl rfl) rfl hl.1 rfl (Nat.le_of_ble_eq_true rfl) dX7_says_22 ⟨Nat.le_of_ble_eq_true rfl, Nat.le_of_ble_eq_true rfl⟩ (fun r_7 u_8 H locs hr_7 hP hD hS => ?_)
    obtain ⟨q_9, rfl⟩ : ∃ z, z = u_8 := ⟨_, rfl⟩
    have h9R := zRe (ws' := [(xs, .inl (cS, 8, .inr (.inr (.inr (.inr fh))))), (h0, .inr (4, [.ref e0, .int he, .int si])), (j0, .inr (0, [.ref z0, .ref jp, .ref jc, .int cn, .int de, .int tr, .int se, .int hu, .int sd])), (jp, .inl (cP, 8, .inr (.inr (.inr (.inr fp))))), (x0, .inr (7, [.ref xs, .ref j0, .ref k0, .ref w0, .ref rd, .ref mv, .ref xr, .int im, .int lf])), (xr, .inl (cI, 8, .inl q_9))]) hP hD rfl
    clear hP hD
    obtain ⟨hP, hD⟩ := h9R
    obtain rfl := hr_7
    exact W.iret (v := (-1)) hx hb hr (fun t ht hW => ⟨⟨(-1), q_9, rfl, ⟨(show ((s_.toInt < 0 ∨ 7 < s_.toInt ∨ k.toInt < 0 ∨ 6 < k.toInt) ∧ ((-1) : Int32).toInt = -1) ∨ ((0 ≤ s_.toInt ∧ s_.toInt ≤ 7) ∧ (0 ≤ k.toInt ∧ k.toInt ≤ 6) ∧ ((he.toInt = -1 ∧ ((-1) : Int32).toInt = -3) ∨ (100 ≤ he.toInt ∧ ((-1) : Int32).toInt = -2) ∨ (cn.toInt ≤ he.toInt ∧ ((-1) : Int32).toInt = -2) ∨ ((0 ≤ he.toInt ∧ he.toInt < cn.toInt) ∧ ((-1) : Int32).toInt = zSy (kf he.toNatClampNeg).toInt (af he.toNatClampNeg).toInt (tf he.toNatClampNeg).toInt hu.toInt k.toInt))) from by (have k1m : ((-1) : Int32).toInt = -1 := (by decide); omega)), trivial⟩, zRet ht hP hD [4, 5, 0, 1, 2, 3] (by decide) rfl⟩, hS.F ht⟩) hS.2.2 dX7_says_25
  · refine lv_astore_nN (lv' := [(3, .null), (0, .ref x0), (1, .int s_), (2, .int k)]) hx hb dX7_says_5 rfl hl (by decide) rfl (fun ls hl => ?_)
    refine lv_aload_nN hx hb dX7_says_6 rfl (lv_at hl 0 rfl) ?_
    refine lv_ifnullN (tgt := 20) hx hb dX7_says_7 (by decide) ?_
    refine lv_aload_n hx hb dX7_says_20 rfl (lv_at hl 1 rfl) ?_
    refine lv_iconst (v := 1) hx hb dX7_says_21 (by decide) ?_
    skip
    refine zw_V (As := [.int 1]) (rest := []) (wr := [(xs, .inl (cS, 8, .inr (.inr (.inr (.inr fh))))), (h0, .inr (4, [.ref e0, .int he, .int si])), (j0, .inr (0, [.ref z0, .ref jp, .ref jc, .int cn, .int de, .int tr, .int se, .int hu, .int sd])), (jp, .inl (cP, 8, .inr (.inr (.inr (.inr fp)))))]) ⟨hx, hb, hml, hown, hts⟩ (c_X_refuse_1 l D cI cJ cZ cP cS po x0 xs j0 k0 w0 rd mv xr (im) (lf) fr hy0 hy1 hy2 hy3 H.size) (cwV 1 hts gX7_says_X7_refuse rfl rfl rfl ⟨rfl, dh_X7_refuse⟩ ⟨Nat.le_of_ble_eq_true rfl, Nat.le_of_ble_eq_true rfl⟩) hK hN (hZ.kept hS) hP hD hS hA [0, 1] [2, 3, 4, 5] rfl rfl (by decide) (by decide) (by decide) (va_recv (q := (RX7, TX7, 9)) hK hP (ci := 7) (q0 := 0) rfl rfl) rfl hl.1 rfl (Nat.le_of_ble_eq_true rfl) dX7_says_22 ⟨Nat.le_of_ble_eq_true rfl, Nat.le_of_ble_eq_true rfl⟩ (fun r_10 u_11 H locs hr_10 hP hD hS => ?_)
    obtain ⟨q_12, rfl⟩ : ∃ z, z = u_11 := ⟨_, rfl⟩
    have h9R := zRe (ws' := [(xs, .inl (cS, 8, .inr (.inr (.inr (.inr fh))))), (h0, .inr (4, [.ref e0, .int he, .int si])), (j0, .inr (0, [.ref z0, .ref jp, .ref jc, .int cn, .int de, .int tr, .int se, .int hu, .int sd])), (jp, .inl (cP, 8, .inr (.inr (.inr (.inr fp))))), (x0, .inr (7, [.ref xs, .ref j0, .ref k0, .ref w0, .ref rd, .ref mv, .ref xr, .int im, .int lf])), (xr, .inl (cI, 8, .inl q_12))]) hP hD rfl
    clear hP hD
    obtain ⟨hP, hD⟩ := h9R
    obtain rfl := hr_10
    exact W.iret (v := (-1)) hx hb hr (fun t ht hW => ⟨⟨(-1), q_12, rfl, ⟨(show ((s_.toInt < 0 ∨ 7 < s_.toInt ∨ k.toInt < 0 ∨ 6 < k.toInt) ∧ ((-1) : Int32).toInt = -1) ∨ ((0 ≤ s_.toInt ∧ s_.toInt ≤ 7) ∧ (0 ≤ k.toInt ∧ k.toInt ≤ 6) ∧ ((he.toInt = -1 ∧ ((-1) : Int32).toInt = -3) ∨ (100 ≤ he.toInt ∧ ((-1) : Int32).toInt = -2) ∨ (cn.toInt ≤ he.toInt ∧ ((-1) : Int32).toInt = -2) ∨ ((0 ≤ he.toInt ∧ he.toInt < cn.toInt) ∧ ((-1) : Int32).toInt = zSy (kf he.toNatClampNeg).toInt (af he.toNatClampNeg).toInt (tf he.toNatClampNeg).toInt hu.toInt k.toInt))) from by (have k1m : ((-1) : Int32).toInt = -1 := (by decide); omega)), trivial⟩, zRet ht hP hD [4, 5, 0, 1, 2, 3] (by decide) rfl⟩, hS.F ht⟩) hS.2.2 dX7_says_25
  · rw [hfs (by omega) (by omega)]
    refine W.eq (g2 := F0 m 5 ls (.ref h0 :: [])) rfl ?_
    refine lv_astore_n (lv' := [(3, .ref h0), (0, .ref x0), (1, .int s_), (2, .int k)]) hx hb dX7_says_5 rfl hl (by decide) rfl (fun ls hl => ?_)
    refine lv_aload_n hx hb dX7_says_6 rfl (lv_at hl 0 rfl) ?_
    refine lv_ifnull hx hb dX7_says_7 ?_
    refine lv_iload_n hx hb dX7_says_10 rfl (lv_at hl 3 rfl) ?_
    refine lv_iconst (v := 0) hx hb dX7_says_11 (by decide) ?_
    refine lv_bipush (v := 6) hx hb dX7_says_12 (by decide) ?_
    have kc0 : (0 : Int32).toInt = 0 := by decide
    have kc6 : (6 : Int32).toInt = 6 := by decide
    refine zc_S (As := [.int k, .int 0, .int 6]) (rest := []) ⟨hx, hb, hml, hown, hts⟩ (c_within l D cI cJ cZ cP cS po (k) (0) (6) ) (va_cwS 3 hts gX7_says_X7_within rfl rfl rfl dh_X7_within ⟨Nat.le_of_ble_eq_true rfl, Nat.le_of_ble_eq_true rfl⟩) hK hN (hZ.kept hS) rfl hl.1 rfl (Nat.le_of_ble_eq_true rfl) dX7_says_14 ⟨Nat.le_of_ble_eq_true rfl, Nat.le_of_ble_eq_true rfl⟩ (fun r_13 hr_13 => ?_)
    rcases hr_13 with ⟨rfl, g_14⟩ | ⟨rfl, g_15, g_16⟩ | ⟨rfl, g_17, g_18⟩
    · refine lv_if_ne (tgt := 26) hx hb dX7_says_17 (by decide) (fun c_19 => ?_) (fun c_19 => ?_)
      · exact absurd c_19 (by decide)
      · refine lv_aload_n hx hb dX7_says_20 rfl (lv_at hl 1 rfl) ?_
        refine lv_iconst (v := 1) hx hb dX7_says_21 (by decide) ?_
        skip
        refine zw_V (As := [.int 1]) (rest := []) (wr := [(xs, .inl (cS, 8, .inr (.inr (.inr (.inr fh))))), (h0, .inr (4, [.ref e0, .int he, .int si])), (j0, .inr (0, [.ref z0, .ref jp, .ref jc, .int cn, .int de, .int tr, .int se, .int hu, .int sd])), (jp, .inl (cP, 8, .inr (.inr (.inr (.inr fp)))))]) ⟨hx, hb, hml, hown, hts⟩ (c_X_refuse_1 l D cI cJ cZ cP cS po x0 xs j0 k0 w0 rd mv xr (im) (lf) fr hy0 hy1 hy2 hy3 H.size) (cwV 1 hts gX7_says_X7_refuse rfl rfl rfl ⟨rfl, dh_X7_refuse⟩ ⟨Nat.le_of_ble_eq_true rfl, Nat.le_of_ble_eq_true rfl⟩) hK hN (hZ.kept hS) hP hD hS hA [0, 1] [2, 3, 4, 5] rfl rfl (by decide) (by decide) (by decide) (va_recv (q := (RX7, TX7, 9)) hK hP (ci := 7) (q0 := 0) rfl rfl) rfl hl.1 rfl (Nat.le_of_ble_eq_true rfl) dX7_says_22 ⟨Nat.le_of_ble_eq_true rfl, Nat.le_of_ble_eq_true rfl⟩ (fun r_20 u_21 H locs hr_20 hP hD hS => ?_)
        obtain ⟨q_22, rfl⟩ : ∃ z, z = u_21 := ⟨_, rfl⟩
        have h9R := zRe (ws' := [(xs, .inl (cS, 8, .inr (.inr (.inr (.inr fh))))), (h0, .inr (4, [.ref e0, .int he, .int si])), (j0, .inr (0, [.ref z0, .ref jp, .ref jc, .int cn, .int de, .int tr, .int se, .int hu, .int sd])), (jp, .inl (cP, 8, .inr (.inr (.inr (.inr fp))))), (x0, .inr (7, [.ref xs, .ref j0, .ref k0, .ref w0, .ref rd, .ref mv, .ref xr, .int im, .int lf])), (xr, .inl (cI, 8, .inl q_22))]) hP hD rfl
        clear hP hD
        obtain ⟨hP, hD⟩ := h9R
        obtain rfl := hr_20
        exact W.iret (v := (-1)) hx hb hr (fun t ht hW => ⟨⟨(-1), q_22, rfl, ⟨(show ((s_.toInt < 0 ∨ 7 < s_.toInt ∨ k.toInt < 0 ∨ 6 < k.toInt) ∧ ((-1) : Int32).toInt = -1) ∨ ((0 ≤ s_.toInt ∧ s_.toInt ≤ 7) ∧ (0 ≤ k.toInt ∧ k.toInt ≤ 6) ∧ ((he.toInt = -1 ∧ ((-1) : Int32).toInt = -3) ∨ (100 ≤ he.toInt ∧ ((-1) : Int32).toInt = -2) ∨ (cn.toInt ≤ he.toInt ∧ ((-1) : Int32).toInt = -2) ∨ ((0 ≤ he.toInt ∧ he.toInt < cn.toInt) ∧ ((-1) : Int32).toInt = zSy (kf he.toNatClampNeg).toInt (af he.toNatClampNeg).toInt (tf he.toNatClampNeg).toInt hu.toInt k.toInt))) from by (have k1m : ((-1) : Int32).toInt = -1 := (by decide); omega)), trivial⟩, zRet ht hP hD [4, 5, 0, 1, 2, 3] (by decide) rfl⟩, hS.F ht⟩) hS.2.2 dX7_says_25
    · refine lv_if_ne (tgt := 26) hx hb dX7_says_17 (by decide) (fun c_23 => ?_) (fun c_23 => ?_)
      · exact absurd c_23 (by decide)
      · refine lv_aload_n hx hb dX7_says_20 rfl (lv_at hl 1 rfl) ?_
        refine lv_iconst (v := 1) hx hb dX7_says_21 (by decide) ?_
        skip
        refine zw_V (As := [.int 1]) (rest := []) (wr := [(xs, .inl (cS, 8, .inr (.inr (.inr (.inr fh))))), (h0, .inr (4, [.ref e0, .int he, .int si])), (j0, .inr (0, [.ref z0, .ref jp, .ref jc, .int cn, .int de, .int tr, .int se, .int hu, .int sd])), (jp, .inl (cP, 8, .inr (.inr (.inr (.inr fp)))))]) ⟨hx, hb, hml, hown, hts⟩ (c_X_refuse_1 l D cI cJ cZ cP cS po x0 xs j0 k0 w0 rd mv xr (im) (lf) fr hy0 hy1 hy2 hy3 H.size) (cwV 1 hts gX7_says_X7_refuse rfl rfl rfl ⟨rfl, dh_X7_refuse⟩ ⟨Nat.le_of_ble_eq_true rfl, Nat.le_of_ble_eq_true rfl⟩) hK hN (hZ.kept hS) hP hD hS hA [0, 1] [2, 3, 4, 5] rfl rfl (by decide) (by decide) (by decide) (va_recv (q := (RX7, TX7, 9)) hK hP (ci := 7) (q0 := 0) rfl rfl) rfl hl.1 rfl (Nat.le_of_ble_eq_true rfl) dX7_says_22 ⟨Nat.le_of_ble_eq_true rfl, Nat.le_of_ble_eq_true rfl⟩ (fun r_24 u_25 H locs hr_24 hP hD hS => ?_)
        obtain ⟨q_26, rfl⟩ : ∃ z, z = u_25 := ⟨_, rfl⟩
        have h9R := zRe (ws' := [(xs, .inl (cS, 8, .inr (.inr (.inr (.inr fh))))), (h0, .inr (4, [.ref e0, .int he, .int si])), (j0, .inr (0, [.ref z0, .ref jp, .ref jc, .int cn, .int de, .int tr, .int se, .int hu, .int sd])), (jp, .inl (cP, 8, .inr (.inr (.inr (.inr fp))))), (x0, .inr (7, [.ref xs, .ref j0, .ref k0, .ref w0, .ref rd, .ref mv, .ref xr, .int im, .int lf])), (xr, .inl (cI, 8, .inl q_26))]) hP hD rfl
        clear hP hD
        obtain ⟨hP, hD⟩ := h9R
        obtain rfl := hr_24
        exact W.iret (v := (-1)) hx hb hr (fun t ht hW => ⟨⟨(-1), q_26, rfl, ⟨(show ((s_.toInt < 0 ∨ 7 < s_.toInt ∨ k.toInt < 0 ∨ 6 < k.toInt) ∧ ((-1) : Int32).toInt = -1) ∨ ((0 ≤ s_.toInt ∧ s_.toInt ≤ 7) ∧ (0 ≤ k.toInt ∧ k.toInt ≤ 6) ∧ ((he.toInt = -1 ∧ ((-1) : Int32).toInt = -3) ∨ (100 ≤ he.toInt ∧ ((-1) : Int32).toInt = -2) ∨ (cn.toInt ≤ he.toInt ∧ ((-1) : Int32).toInt = -2) ∨ ((0 ≤ he.toInt ∧ he.toInt < cn.toInt) ∧ ((-1) : Int32).toInt = zSy (kf he.toNatClampNeg).toInt (af he.toNatClampNeg).toInt (tf he.toNatClampNeg).toInt hu.toInt k.toInt))) from by (have k1m : ((-1) : Int32).toInt = -1 := (by decide); omega)), trivial⟩, zRet ht hP hD [4, 5, 0, 1, 2, 3] (by decide) rfl⟩, hS.F ht⟩) hS.2.2 dX7_says_25
    · refine lv_if_ne (tgt := 26) hx hb dX7_says_17 (by decide) (fun c_27 => ?_) (fun c_27 => ?_)
      · refine lv_aload_n hx hb dX7_says_26 rfl (lv_at hl 0 rfl) ?_
        refine va_get (D := D) (ci := 4) (v := .int he) (C := RX4) (T := TX4) (N := 3) hx hb hts hi_X7_says_4 hown hK hP 3 rfl rfl 1 (by decide) (hts (.fieldLink RX7 87 "TheLiningsInIt$Shelf" "held" "I") (List.mem_of_getElem? (i := 1) rfl)) (fun _ h9 => h9) rfl dX7_says_27 ?_
        refine lv_iconst (v := (-1)) hx hb dX7_says_30 (by decide) ?_
        refine lv_icmp_ne (tgt := 40) hx hb dX7_says_31 (by decide) (fun c_28 => ?_) (fun c_28 => ?_)
        · have fc_28 : he.toInt ≠ (-1) := zf_ne c_28 rfl (by decide)
          refine lv_aload_n hx hb dX7_says_40 rfl (lv_at hl 1 rfl) ?_
          refine va_get (D := D) (ci := 7) (v := .ref j0) (C := RX7) (T := TX7) (N := 9) hx hb hts hi_X7_says_7 hown hK hP 0 rfl rfl 1 (by decide) (hts (.fieldLink RX7 18 "TheLiningsInIt" "now" "LTheLiningsInIt$Jacket;") (List.mem_of_getElem? (i := 2) rfl)) (fun _ h9 => h9) rfl dX7_says_41 ?_
          refine lv_aload_n hx hb dX7_says_44 rfl (lv_at hl 0 rfl) ?_
          refine va_get (D := D) (ci := 4) (v := .int he) (C := RX4) (T := TX4) (N := 3) hx hb hts hi_X7_says_4 hown hK hP 3 rfl rfl 1 (by decide) (hts (.fieldLink RX7 87 "TheLiningsInIt$Shelf" "held" "I") (List.mem_of_getElem? (i := 1) rfl)) (fun _ h9 => h9) rfl dX7_says_45 ?_
          refine zc_Vq (As := [.int he]) (rest := []) ⟨hx, hb, hml, hown, hts⟩ (c_F_J_pullAt l D cI cJ cZ cP cS po j0 jp jc z0 0 0 (cn) (de) (tr) (se) (hu) (sd) fp kf af tf (he) hy9 hy10 hy11 hy12 hy13 hy14 hjp) (cwV 1 hts gX7_says_X0_pullAt rfl rfl rfl ⟨rfl, dh_X0_pullAt⟩ ⟨Nat.le_of_ble_eq_true rfl, Nat.le_of_ble_eq_true rfl⟩) hK hN (hZ.kept hS) hP (hP.sub [4, 5] rfl) (va_recv (q := (RX0, TX0, 9)) hK hP (ci := 0) (q0 := 4) rfl rfl) rfl hl.1 rfl (Nat.le_of_ble_eq_true rfl) dX7_says_48 ⟨Nat.le_of_ble_eq_true rfl, Nat.le_of_ble_eq_true rfl⟩ (fun r_29 hr_29 => ?_)
          rcases hr_29 with ⟨rfl, g_30⟩ | ⟨rfl, g_31, g_32⟩ | ⟨⟨u_34, kiu_34, au_34, tu_34, rfl, huu_34, hkku_34⟩, g_33⟩
          · exfalso; omega
          · refine lv_astoreN (lv' := [(4, .null), (3, .ref h0), (0, .ref x0), (1, .int s_), (2, .int k)]) hx hb dX7_says_51 hl (by decide) rfl (fun ls hl => ?_)
            refine lv_aloadN hx hb dX7_says_53 (lv_at hl 0 rfl) ?_
            refine lv_ifnullN (tgt := 67) hx hb dX7_says_55 (by decide) ?_
            refine lv_aload_n hx hb dX7_says_67 rfl (lv_at hl 2 rfl) ?_
            refine lv_iconst (v := 2) hx hb dX7_says_68 (by decide) ?_
            skip
            refine zw_V (As := [.int 2]) (rest := []) (wr := [(xs, .inl (cS, 8, .inr (.inr (.inr (.inr fh))))), (h0, .inr (4, [.ref e0, .int he, .int si])), (j0, .inr (0, [.ref z0, .ref jp, .ref jc, .int cn, .int de, .int tr, .int se, .int hu, .int sd])), (jp, .inl (cP, 8, .inr (.inr (.inr (.inr fp)))))]) ⟨hx, hb, hml, hown, hts⟩ (c_X_refuse_2 l D cI cJ cZ cP cS po x0 xs j0 k0 w0 rd mv xr (im) (lf) fr hy0 hy1 hy2 hy3 H.size) (cwV 1 hts gX7_says_X7_refuse rfl rfl rfl ⟨rfl, dh_X7_refuse⟩ ⟨Nat.le_of_ble_eq_true rfl, Nat.le_of_ble_eq_true rfl⟩) hK hN (hZ.kept hS) hP hD hS hA [0, 1] [2, 3, 4, 5] rfl rfl (by decide) (by decide) (by decide) (va_recv (q := (RX7, TX7, 9)) hK hP (ci := 7) (q0 := 0) rfl rfl) rfl hl.1 rfl (Nat.le_of_ble_eq_true rfl) dX7_says_69 ⟨Nat.le_of_ble_eq_true rfl, Nat.le_of_ble_eq_true rfl⟩ (fun r_35 u_36 H locs hr_35 hP hD hS => ?_)
            obtain ⟨q_37, rfl⟩ : ∃ z, z = u_36 := ⟨_, rfl⟩
            have h9R := zRe (ws' := [(xs, .inl (cS, 8, .inr (.inr (.inr (.inr fh))))), (h0, .inr (4, [.ref e0, .int he, .int si])), (j0, .inr (0, [.ref z0, .ref jp, .ref jc, .int cn, .int de, .int tr, .int se, .int hu, .int sd])), (jp, .inl (cP, 8, .inr (.inr (.inr (.inr fp))))), (x0, .inr (7, [.ref xs, .ref j0, .ref k0, .ref w0, .ref rd, .ref mv, .ref xr, .int im, .int lf])), (xr, .inl (cI, 8, .inl q_37))]) hP hD rfl
            clear hP hD
            obtain ⟨hP, hD⟩ := h9R
            obtain rfl := hr_35
            exact W.iret (v := (-2)) hx hb hr (fun t ht hW => ⟨⟨(-2), q_37, rfl, ⟨(show ((s_.toInt < 0 ∨ 7 < s_.toInt ∨ k.toInt < 0 ∨ 6 < k.toInt) ∧ ((-2) : Int32).toInt = -1) ∨ ((0 ≤ s_.toInt ∧ s_.toInt ≤ 7) ∧ (0 ≤ k.toInt ∧ k.toInt ≤ 6) ∧ ((he.toInt = -1 ∧ ((-2) : Int32).toInt = -3) ∨ (100 ≤ he.toInt ∧ ((-2) : Int32).toInt = -2) ∨ (cn.toInt ≤ he.toInt ∧ ((-2) : Int32).toInt = -2) ∨ ((0 ≤ he.toInt ∧ he.toInt < cn.toInt) ∧ ((-2) : Int32).toInt = zSy (kf he.toNatClampNeg).toInt (af he.toNatClampNeg).toInt (tf he.toNatClampNeg).toInt hu.toInt k.toInt))) from by (have k2m : ((-2) : Int32).toInt = -2 := (by decide); omega)), trivial⟩, zRet ht hP hD [4, 5, 0, 1, 2, 3] (by decide) rfl⟩, hS.F ht⟩) hS.2.2 dX7_says_72
          · refine W.eq (g2 := F0 m 51 ls (.ref u_34 :: [])) rfl ?_
            obtain ⟨hku_34, hau_34, htu_34⟩ := zPu_pr (hZ.kept hS) huu_34
            refine lv_astore (lv' := [(4, .ref u_34), (3, .ref h0), (0, .ref x0), (1, .int s_), (2, .int k)]) hx hb dX7_says_51 hl (by decide) rfl (fun ls hl => ?_)
            refine lv_aload hx hb dX7_says_53 (lv_at hl 0 rfl) ?_
            refine lv_ifnull hx hb dX7_says_55 ?_
            refine lv_aload hx hb dX7_says_58 (lv_at hl 0 rfl) ?_
            refine lv_iload_n hx hb dX7_says_60 rfl (lv_at hl 4 rfl) ?_
            refine zc_V (As := [.int k]) (rest := []) ⟨hx, hb, hml, hown, hts⟩ (c_F_Pull_isOf l D cI cJ cZ cP cS po (k) u_34 (kiu_34) (au_34) (tu_34) huu_34 ⟨by omega, by omega, by omega, by omega⟩) (cwV 1 hts gX7_says_X2_isOf rfl rfl rfl ⟨rfl, dh_X2_isOf⟩ ⟨Nat.le_of_ble_eq_true rfl, Nat.le_of_ble_eq_true rfl⟩) hK hN (hZ.kept hS) hP zP_nil (va_recv (q := (RX2, TX2, 3)) hK (zPu_P (hZ.kept hS) huu_34) (ci := 2) (q0 := 0) rfl rfl) rfl hl.1 rfl (Nat.le_of_ble_eq_true rfl) dX7_says_61 ⟨Nat.le_of_ble_eq_true rfl, Nat.le_of_ble_eq_true rfl⟩ (fun r_38 hr_38 => ?_)
            obtain ⟨g_39, g_40, hsr_38_0⟩ := hr_38
            refine lv_if_ne (tgt := 73) hx hb dX7_says_64 (by decide) (fun c_41 => ?_) (fun c_41 => ?_)
            · have fc_41 : r_38.toInt ≠ 0 := zf_ne c_41 rfl (by decide)
              refine lv_iload_n hx hb dX7_says_73 rfl (lv_at hl 4 rfl) ?_
              have hsp : k = 0 ∨ k = 1 ∨ k = 2 ∨ k = 3 ∨ k = 4 ∨ k = 5 ∨ k = 6 := by
                rcases (show k.toInt = 0 ∨ k.toInt = 1 ∨ k.toInt = 2 ∨ k.toInt = 3 ∨ k.toInt = 4 ∨ k.toInt = 5 ∨ k.toInt = 6 by omega) with h9 | h9 | h9 | h9 | h9 | h9 | h9
                · refine Or.inl ?_; exact zf_val h9 (by decide)
                · refine Or.inr (Or.inl ?_); exact zf_val h9 (by decide)
                · refine Or.inr (Or.inr (Or.inl ?_)); exact zf_val h9 (by decide)
                · refine Or.inr (Or.inr (Or.inr (Or.inl ?_))); exact zf_val h9 (by decide)
                · refine Or.inr (Or.inr (Or.inr (Or.inr (Or.inl ?_)))); exact zf_val h9 (by decide)
                · refine Or.inr (Or.inr (Or.inr (Or.inr (Or.inr (Or.inl ?_))))); exact zf_val h9 (by decide)
                · refine Or.inr (Or.inr (Or.inr (Or.inr (Or.inr (Or.inr (?_)))))); exact zf_val h9 (by decide)
              rcases hsp with rfl | rfl | rfl | rfl | rfl | rfl | rfl
              · refine lv_tableIn (tgt := 112) hx hb dX7_says_74 (by decide) (by decide) rfl (by decide) ?_
                refine lv_aload hx hb dX7_says_112 (lv_at hl 0 rfl) ?_
                refine va_get (D := D) (ci := 2) (v := .int tu_34) (C := RX2) (T := TX2) (N := 3) hx hb hts hi_X7_says_2 hown hK (zPu_P (hZ.kept hS) huu_34) 0 rfl rfl 2 (by decide) (hts (.fieldLink RX7 110 "TheLiningsInIt$Pull" "takes" "I") (List.mem_of_getElem? (i := 3) rfl)) (fun _ h9 => h9) rfl dX7_says_114 ?_
                exact W.iret (v := tu_34) hx hb hr (fun t ht hW => ⟨⟨tu_34, fr, rfl, ⟨(show ((s_.toInt < 0 ∨ 7 < s_.toInt ∨ (0 : Int32).toInt < 0 ∨ 6 < (0 : Int32).toInt) ∧ (tu_34 : Int32).toInt = -1) ∨ ((0 ≤ s_.toInt ∧ s_.toInt ≤ 7) ∧ (0 ≤ (0 : Int32).toInt ∧ (0 : Int32).toInt ≤ 6) ∧ ((he.toInt = -1 ∧ (tu_34 : Int32).toInt = -3) ∨ (100 ≤ he.toInt ∧ (tu_34 : Int32).toInt = -2) ∨ (cn.toInt ≤ he.toInt ∧ (tu_34 : Int32).toInt = -2) ∨ ((0 ≤ he.toInt ∧ he.toInt < cn.toInt) ∧ (tu_34 : Int32).toInt = zSy (kf he.toNatClampNeg).toInt (af he.toNatClampNeg).toInt (tf he.toNatClampNeg).toInt hu.toInt (0 : Int32).toInt))) from by (obtain ⟨⟨y1, y2, y3⟩, y4, y5⟩ := hkku_34; have k0 : (0 : Int32).toInt = 0 := (by decide); refine Or.inr ⟨by omega, by omega, Or.inr (Or.inr (Or.inr ⟨by omega, ?_⟩))⟩; rw [← y1, ← y2, ← y3, zSy_yes (hsr_38_0.mp (by omega))]; (repeat (first | rw [if_pos (by omega)] | rw [if_neg (by omega)])); first | done | rfl | omega)), trivial⟩, zRet ht hP hD [0, 1, 2, 3, 4, 5] (by decide) rfl⟩, hS.F ht⟩) hS.2.2 dX7_says_117
              · have kc1 : (1 : Int32).toInt = 1 := by decide
                refine lv_tableIn (tgt := 139) hx hb dX7_says_74 (by decide) (by decide) rfl (by decide) ?_
                refine lv_aload hx hb dX7_says_139 (lv_at hl 0 rfl) ?_
                refine lv_bipush (v := 8) hx hb dX7_says_141 (by decide) ?_
                refine lv_aload_n hx hb dX7_says_143 rfl (lv_at hl 2 rfl) ?_
                refine va_get (D := D) (ci := 7) (v := .ref j0) (C := RX7) (T := TX7) (N := 9) hx hb hts hi_X7_says_7 hown hK hP 0 rfl rfl 1 (by decide) (hts (.fieldLink RX7 18 "TheLiningsInIt" "now" "LTheLiningsInIt$Jacket;") (List.mem_of_getElem? (i := 2) rfl)) (fun _ h9 => h9) rfl dX7_says_144 ?_
                refine va_get (D := D) (ci := 0) (v := .int hu) (C := RX0) (T := TX0) (N := 9) hx hb hts hi_X7_says_0 hown hK hP 4 rfl rfl 7 (by decide) (hts (.fieldLink RX7 116 "TheLiningsInIt$Jacket" "hurry" "I") (List.mem_of_getElem? (i := 4) rfl)) (fun _ h9 => h9) rfl dX7_says_147 ?_
                have kc8 : (8 : Int32).toInt = 8 := by decide
                refine zc_V (As := [.int 8, .int hu]) (rest := []) ⟨hx, hb, hml, hown, hts⟩ (c_F_Pull_waysAt l D cI cJ cZ cP cS po (8) (hu) u_34 (kiu_34) (au_34) (tu_34) huu_34 ⟨by omega, by omega, by omega, by omega⟩ (by omega) (by omega) hy13 hy14) (cwV 2 hts gX7_says_X2_waysAt rfl rfl rfl ⟨rfl, dh_X2_waysAt⟩ ⟨Nat.le_of_ble_eq_true rfl, Nat.le_of_ble_eq_true rfl⟩) hK hN (hZ.kept hS) hP zP_nil (va_recv (q := (RX2, TX2, 3)) hK (zPu_P (hZ.kept hS) huu_34) (ci := 2) (q0 := 0) rfl rfl) rfl hl.1 rfl (Nat.le_of_ble_eq_true rfl) dX7_says_150 ⟨Nat.le_of_ble_eq_true rfl, Nat.le_of_ble_eq_true rfl⟩ (fun r_42 hr_42 => ?_)
                obtain ⟨g_43, g_44, hsr_42_0⟩ := hr_42
                exact W.iret (v := r_42) hx hb hr (fun t ht hW => ⟨⟨r_42, fr, rfl, ⟨(show ((s_.toInt < 0 ∨ 7 < s_.toInt ∨ (1 : Int32).toInt < 0 ∨ 6 < (1 : Int32).toInt) ∧ (r_42 : Int32).toInt = -1) ∨ ((0 ≤ s_.toInt ∧ s_.toInt ≤ 7) ∧ (0 ≤ (1 : Int32).toInt ∧ (1 : Int32).toInt ≤ 6) ∧ ((he.toInt = -1 ∧ (r_42 : Int32).toInt = -3) ∨ (100 ≤ he.toInt ∧ (r_42 : Int32).toInt = -2) ∨ (cn.toInt ≤ he.toInt ∧ (r_42 : Int32).toInt = -2) ∨ ((0 ≤ he.toInt ∧ he.toInt < cn.toInt) ∧ (r_42 : Int32).toInt = zSy (kf he.toNatClampNeg).toInt (af he.toNatClampNeg).toInt (tf he.toNatClampNeg).toInt hu.toInt (1 : Int32).toInt))) from by (obtain ⟨⟨y1, y2, y3⟩, y4, y5⟩ := hkku_34; have k1 : (1 : Int32).toInt = 1 := (by decide); refine Or.inr ⟨by omega, by omega, Or.inr (Or.inr (Or.inr ⟨by omega, ?_⟩))⟩; rw [← y1, ← y2, ← y3, zSy_yes (hsr_38_0.mp (by omega))]; (repeat (first | rw [if_pos (by omega)] | rw [if_neg (by omega)])); first | done | exact hsr_42_0 | omega)), trivial⟩, zRet ht hP hD [0, 1, 2, 3, 4, 5] (by decide) rfl⟩, hS.F ht⟩) hS.2.2 dX7_says_153
              · have kc2 : (2 : Int32).toInt = 2 := by decide
                refine lv_tableIn (tgt := 118) hx hb dX7_says_74 (by decide) (by decide) rfl (by decide) ?_
                refine lv_aload hx hb dX7_says_118 (lv_at hl 0 rfl) ?_
                refine zc_V (As := []) (rest := []) ⟨hx, hb, hml, hown, hts⟩ (c_F_Pull_step l D cI cJ cZ cP cS po u_34 (kiu_34) (au_34) (tu_34) huu_34 ⟨by omega, by omega, by omega, by omega⟩) (cwV 0 hts gX7_says_X2_step rfl rfl rfl ⟨rfl, dh_X2_step⟩ ⟨Nat.le_of_ble_eq_true rfl, Nat.le_of_ble_eq_true rfl⟩) hK hN (hZ.kept hS) hP zP_nil (va_recv (q := (RX2, TX2, 3)) hK (zPu_P (hZ.kept hS) huu_34) (ci := 2) (q0 := 0) rfl rfl) rfl hl.1 rfl (Nat.le_of_ble_eq_true rfl) dX7_says_120 ⟨Nat.le_of_ble_eq_true rfl, Nat.le_of_ble_eq_true rfl⟩ (fun r_45 hr_45 => ?_)
                obtain ⟨g_46, g_47, hsr_45_0⟩ := hr_45
                exact W.iret (v := r_45) hx hb hr (fun t ht hW => ⟨⟨r_45, fr, rfl, ⟨(show ((s_.toInt < 0 ∨ 7 < s_.toInt ∨ (2 : Int32).toInt < 0 ∨ 6 < (2 : Int32).toInt) ∧ (r_45 : Int32).toInt = -1) ∨ ((0 ≤ s_.toInt ∧ s_.toInt ≤ 7) ∧ (0 ≤ (2 : Int32).toInt ∧ (2 : Int32).toInt ≤ 6) ∧ ((he.toInt = -1 ∧ (r_45 : Int32).toInt = -3) ∨ (100 ≤ he.toInt ∧ (r_45 : Int32).toInt = -2) ∨ (cn.toInt ≤ he.toInt ∧ (r_45 : Int32).toInt = -2) ∨ ((0 ≤ he.toInt ∧ he.toInt < cn.toInt) ∧ (r_45 : Int32).toInt = zSy (kf he.toNatClampNeg).toInt (af he.toNatClampNeg).toInt (tf he.toNatClampNeg).toInt hu.toInt (2 : Int32).toInt))) from by (obtain ⟨⟨y1, y2, y3⟩, y4, y5⟩ := hkku_34; have k2 : (2 : Int32).toInt = 2 := (by decide); refine Or.inr ⟨by omega, by omega, Or.inr (Or.inr (Or.inr ⟨by omega, ?_⟩))⟩; rw [← y1, ← y2, ← y3, zSy_yes (hsr_38_0.mp (by omega))]; (repeat (first | rw [if_pos (by omega)] | rw [if_neg (by omega)])); first | done | exact hsr_45_0 | omega)), trivial⟩, zRet ht hP hD [0, 1, 2, 3, 4, 5] (by decide) rfl⟩, hS.F ht⟩) hS.2.2 dX7_says_123
              · have kc3 : (3 : Int32).toInt = 3 := by decide
                refine lv_tableIn (tgt := 139) hx hb dX7_says_74 (by decide) (by decide) rfl (by decide) ?_
                refine lv_aload hx hb dX7_says_139 (lv_at hl 0 rfl) ?_
                refine lv_bipush (v := 8) hx hb dX7_says_141 (by decide) ?_
                refine lv_aload_n hx hb dX7_says_143 rfl (lv_at hl 2 rfl) ?_
                refine va_get (D := D) (ci := 7) (v := .ref j0) (C := RX7) (T := TX7) (N := 9) hx hb hts hi_X7_says_7 hown hK hP 0 rfl rfl 1 (by decide) (hts (.fieldLink RX7 18 "TheLiningsInIt" "now" "LTheLiningsInIt$Jacket;") (List.mem_of_getElem? (i := 2) rfl)) (fun _ h9 => h9) rfl dX7_says_144 ?_
                refine va_get (D := D) (ci := 0) (v := .int hu) (C := RX0) (T := TX0) (N := 9) hx hb hts hi_X7_says_0 hown hK hP 4 rfl rfl 7 (by decide) (hts (.fieldLink RX7 116 "TheLiningsInIt$Jacket" "hurry" "I") (List.mem_of_getElem? (i := 4) rfl)) (fun _ h9 => h9) rfl dX7_says_147 ?_
                have kc8 : (8 : Int32).toInt = 8 := by decide
                refine zc_V (As := [.int 8, .int hu]) (rest := []) ⟨hx, hb, hml, hown, hts⟩ (c_F_Pull_waysAt l D cI cJ cZ cP cS po (8) (hu) u_34 (kiu_34) (au_34) (tu_34) huu_34 ⟨by omega, by omega, by omega, by omega⟩ (by omega) (by omega) hy13 hy14) (cwV 2 hts gX7_says_X2_waysAt rfl rfl rfl ⟨rfl, dh_X2_waysAt⟩ ⟨Nat.le_of_ble_eq_true rfl, Nat.le_of_ble_eq_true rfl⟩) hK hN (hZ.kept hS) hP zP_nil (va_recv (q := (RX2, TX2, 3)) hK (zPu_P (hZ.kept hS) huu_34) (ci := 2) (q0 := 0) rfl rfl) rfl hl.1 rfl (Nat.le_of_ble_eq_true rfl) dX7_says_150 ⟨Nat.le_of_ble_eq_true rfl, Nat.le_of_ble_eq_true rfl⟩ (fun r_48 hr_48 => ?_)
                obtain ⟨g_49, g_50, hsr_48_0⟩ := hr_48
                exact W.iret (v := r_48) hx hb hr (fun t ht hW => ⟨⟨r_48, fr, rfl, ⟨(show ((s_.toInt < 0 ∨ 7 < s_.toInt ∨ (3 : Int32).toInt < 0 ∨ 6 < (3 : Int32).toInt) ∧ (r_48 : Int32).toInt = -1) ∨ ((0 ≤ s_.toInt ∧ s_.toInt ≤ 7) ∧ (0 ≤ (3 : Int32).toInt ∧ (3 : Int32).toInt ≤ 6) ∧ ((he.toInt = -1 ∧ (r_48 : Int32).toInt = -3) ∨ (100 ≤ he.toInt ∧ (r_48 : Int32).toInt = -2) ∨ (cn.toInt ≤ he.toInt ∧ (r_48 : Int32).toInt = -2) ∨ ((0 ≤ he.toInt ∧ he.toInt < cn.toInt) ∧ (r_48 : Int32).toInt = zSy (kf he.toNatClampNeg).toInt (af he.toNatClampNeg).toInt (tf he.toNatClampNeg).toInt hu.toInt (3 : Int32).toInt))) from by (obtain ⟨⟨y1, y2, y3⟩, y4, y5⟩ := hkku_34; have k3 : (3 : Int32).toInt = 3 := (by decide); refine Or.inr ⟨by omega, by omega, Or.inr (Or.inr (Or.inr ⟨by omega, ?_⟩))⟩; rw [← y1, ← y2, ← y3, zSy_yes (hsr_38_0.mp (by omega))]; (repeat (first | rw [if_pos (by omega)] | rw [if_neg (by omega)])); first | done | exact hsr_48_0 | omega)), trivial⟩, zRet ht hP hD [0, 1, 2, 3, 4, 5] (by decide) rfl⟩, hS.F ht⟩) hS.2.2 dX7_says_153
              · have kc4 : (4 : Int32).toInt = 4 := by decide
                refine lv_tableIn (tgt := 124) hx hb dX7_says_74 (by decide) (by decide) rfl (by decide) ?_
                refine lv_aload hx hb dX7_says_124 (lv_at hl 0 rfl) ?_
                refine lv_bipush (v := 12) hx hb dX7_says_126 (by decide) ?_
                refine lv_aload_n hx hb dX7_says_128 rfl (lv_at hl 2 rfl) ?_
                refine va_get (D := D) (ci := 7) (v := .ref j0) (C := RX7) (T := TX7) (N := 9) hx hb hts hi_X7_says_7 hown hK hP 0 rfl rfl 1 (by decide) (hts (.fieldLink RX7 18 "TheLiningsInIt" "now" "LTheLiningsInIt$Jacket;") (List.mem_of_getElem? (i := 2) rfl)) (fun _ h9 => h9) rfl dX7_says_129 ?_
                refine va_get (D := D) (ci := 0) (v := .int hu) (C := RX0) (T := TX0) (N := 9) hx hb hts hi_X7_says_0 hown hK hP 4 rfl rfl 7 (by decide) (hts (.fieldLink RX7 116 "TheLiningsInIt$Jacket" "hurry" "I") (List.mem_of_getElem? (i := 4) rfl)) (fun _ h9 => h9) rfl dX7_says_132 ?_
                have kc12 : (12 : Int32).toInt = 12 := by decide
                refine zc_V (As := [.int 12, .int hu]) (rest := []) ⟨hx, hb, hml, hown, hts⟩ (c_F_Pull_waysAt l D cI cJ cZ cP cS po (12) (hu) u_34 (kiu_34) (au_34) (tu_34) huu_34 ⟨by omega, by omega, by omega, by omega⟩ (by omega) (by omega) hy13 hy14) (cwV 2 hts gX7_says_X2_waysAt rfl rfl rfl ⟨rfl, dh_X2_waysAt⟩ ⟨Nat.le_of_ble_eq_true rfl, Nat.le_of_ble_eq_true rfl⟩) hK hN (hZ.kept hS) hP zP_nil (va_recv (q := (RX2, TX2, 3)) hK (zPu_P (hZ.kept hS) huu_34) (ci := 2) (q0 := 0) rfl rfl) rfl hl.1 rfl (Nat.le_of_ble_eq_true rfl) dX7_says_135 ⟨Nat.le_of_ble_eq_true rfl, Nat.le_of_ble_eq_true rfl⟩ (fun r_51 hr_51 => ?_)
                obtain ⟨g_52, g_53, hsr_51_0⟩ := hr_51
                exact W.iret (v := r_51) hx hb hr (fun t ht hW => ⟨⟨r_51, fr, rfl, ⟨(show ((s_.toInt < 0 ∨ 7 < s_.toInt ∨ (4 : Int32).toInt < 0 ∨ 6 < (4 : Int32).toInt) ∧ (r_51 : Int32).toInt = -1) ∨ ((0 ≤ s_.toInt ∧ s_.toInt ≤ 7) ∧ (0 ≤ (4 : Int32).toInt ∧ (4 : Int32).toInt ≤ 6) ∧ ((he.toInt = -1 ∧ (r_51 : Int32).toInt = -3) ∨ (100 ≤ he.toInt ∧ (r_51 : Int32).toInt = -2) ∨ (cn.toInt ≤ he.toInt ∧ (r_51 : Int32).toInt = -2) ∨ ((0 ≤ he.toInt ∧ he.toInt < cn.toInt) ∧ (r_51 : Int32).toInt = zSy (kf he.toNatClampNeg).toInt (af he.toNatClampNeg).toInt (tf he.toNatClampNeg).toInt hu.toInt (4 : Int32).toInt))) from by (obtain ⟨⟨y1, y2, y3⟩, y4, y5⟩ := hkku_34; have k4 : (4 : Int32).toInt = 4 := (by decide); refine Or.inr ⟨by omega, by omega, Or.inr (Or.inr (Or.inr ⟨by omega, ?_⟩))⟩; rw [← y1, ← y2, ← y3, zSy_yes (hsr_38_0.mp (by omega))]; (repeat (first | rw [if_pos (by omega)] | rw [if_neg (by omega)])); first | done | exact hsr_51_0 | omega)), trivial⟩, zRet ht hP hD [0, 1, 2, 3, 4, 5] (by decide) rfl⟩, hS.F ht⟩) hS.2.2 dX7_says_138
              · have kc5 : (5 : Int32).toInt = 5 := by decide
                refine lv_tableIn (tgt := 118) hx hb dX7_says_74 (by decide) (by decide) rfl (by decide) ?_
                refine lv_aload hx hb dX7_says_118 (lv_at hl 0 rfl) ?_
                refine zc_V (As := []) (rest := []) ⟨hx, hb, hml, hown, hts⟩ (c_F_Pull_step l D cI cJ cZ cP cS po u_34 (kiu_34) (au_34) (tu_34) huu_34 ⟨by omega, by omega, by omega, by omega⟩) (cwV 0 hts gX7_says_X2_step rfl rfl rfl ⟨rfl, dh_X2_step⟩ ⟨Nat.le_of_ble_eq_true rfl, Nat.le_of_ble_eq_true rfl⟩) hK hN (hZ.kept hS) hP zP_nil (va_recv (q := (RX2, TX2, 3)) hK (zPu_P (hZ.kept hS) huu_34) (ci := 2) (q0 := 0) rfl rfl) rfl hl.1 rfl (Nat.le_of_ble_eq_true rfl) dX7_says_120 ⟨Nat.le_of_ble_eq_true rfl, Nat.le_of_ble_eq_true rfl⟩ (fun r_54 hr_54 => ?_)
                obtain ⟨g_55, g_56, hsr_54_0⟩ := hr_54
                exact W.iret (v := r_54) hx hb hr (fun t ht hW => ⟨⟨r_54, fr, rfl, ⟨(show ((s_.toInt < 0 ∨ 7 < s_.toInt ∨ (5 : Int32).toInt < 0 ∨ 6 < (5 : Int32).toInt) ∧ (r_54 : Int32).toInt = -1) ∨ ((0 ≤ s_.toInt ∧ s_.toInt ≤ 7) ∧ (0 ≤ (5 : Int32).toInt ∧ (5 : Int32).toInt ≤ 6) ∧ ((he.toInt = -1 ∧ (r_54 : Int32).toInt = -3) ∨ (100 ≤ he.toInt ∧ (r_54 : Int32).toInt = -2) ∨ (cn.toInt ≤ he.toInt ∧ (r_54 : Int32).toInt = -2) ∨ ((0 ≤ he.toInt ∧ he.toInt < cn.toInt) ∧ (r_54 : Int32).toInt = zSy (kf he.toNatClampNeg).toInt (af he.toNatClampNeg).toInt (tf he.toNatClampNeg).toInt hu.toInt (5 : Int32).toInt))) from by (obtain ⟨⟨y1, y2, y3⟩, y4, y5⟩ := hkku_34; have k5 : (5 : Int32).toInt = 5 := (by decide); refine Or.inr ⟨by omega, by omega, Or.inr (Or.inr (Or.inr ⟨by omega, ?_⟩))⟩; rw [← y1, ← y2, ← y3, zSy_yes (hsr_38_0.mp (by omega))]; (repeat (first | rw [if_pos (by omega)] | rw [if_neg (by omega)])); first | done | exact hsr_54_0 | omega)), trivial⟩, zRet ht hP hD [0, 1, 2, 3, 4, 5] (by decide) rfl⟩, hS.F ht⟩) hS.2.2 dX7_says_123
              · refine lv_tableOut (tgt := 139) hx hb dX7_says_74 (by decide) (by decide) ?_
                refine lv_aload hx hb dX7_says_139 (lv_at hl 0 rfl) ?_
                refine lv_bipush (v := 8) hx hb dX7_says_141 (by decide) ?_
                refine lv_aload_n hx hb dX7_says_143 rfl (lv_at hl 2 rfl) ?_
                refine va_get (D := D) (ci := 7) (v := .ref j0) (C := RX7) (T := TX7) (N := 9) hx hb hts hi_X7_says_7 hown hK hP 0 rfl rfl 1 (by decide) (hts (.fieldLink RX7 18 "TheLiningsInIt" "now" "LTheLiningsInIt$Jacket;") (List.mem_of_getElem? (i := 2) rfl)) (fun _ h9 => h9) rfl dX7_says_144 ?_
                refine va_get (D := D) (ci := 0) (v := .int hu) (C := RX0) (T := TX0) (N := 9) hx hb hts hi_X7_says_0 hown hK hP 4 rfl rfl 7 (by decide) (hts (.fieldLink RX7 116 "TheLiningsInIt$Jacket" "hurry" "I") (List.mem_of_getElem? (i := 4) rfl)) (fun _ h9 => h9) rfl dX7_says_147 ?_
                have kc8 : (8 : Int32).toInt = 8 := by decide
                refine zc_V (As := [.int 8, .int hu]) (rest := []) ⟨hx, hb, hml, hown, hts⟩ (c_F_Pull_waysAt l D cI cJ cZ cP cS po (8) (hu) u_34 (kiu_34) (au_34) (tu_34) huu_34 ⟨by omega, by omega, by omega, by omega⟩ (by omega) (by omega) hy13 hy14) (cwV 2 hts gX7_says_X2_waysAt rfl rfl rfl ⟨rfl, dh_X2_waysAt⟩ ⟨Nat.le_of_ble_eq_true rfl, Nat.le_of_ble_eq_true rfl⟩) hK hN (hZ.kept hS) hP zP_nil (va_recv (q := (RX2, TX2, 3)) hK (zPu_P (hZ.kept hS) huu_34) (ci := 2) (q0 := 0) rfl rfl) rfl hl.1 rfl (Nat.le_of_ble_eq_true rfl) dX7_says_150 ⟨Nat.le_of_ble_eq_true rfl, Nat.le_of_ble_eq_true rfl⟩ (fun r_57 hr_57 => ?_)
                obtain ⟨g_58, g_59, hsr_57_0⟩ := hr_57
                exact W.iret (v := r_57) hx hb hr (fun t ht hW => ⟨⟨r_57, fr, rfl, ⟨(show ((s_.toInt < 0 ∨ 7 < s_.toInt ∨ (6 : Int32).toInt < 0 ∨ 6 < (6 : Int32).toInt) ∧ (r_57 : Int32).toInt = -1) ∨ ((0 ≤ s_.toInt ∧ s_.toInt ≤ 7) ∧ (0 ≤ (6 : Int32).toInt ∧ (6 : Int32).toInt ≤ 6) ∧ ((he.toInt = -1 ∧ (r_57 : Int32).toInt = -3) ∨ (100 ≤ he.toInt ∧ (r_57 : Int32).toInt = -2) ∨ (cn.toInt ≤ he.toInt ∧ (r_57 : Int32).toInt = -2) ∨ ((0 ≤ he.toInt ∧ he.toInt < cn.toInt) ∧ (r_57 : Int32).toInt = zSy (kf he.toNatClampNeg).toInt (af he.toNatClampNeg).toInt (tf he.toNatClampNeg).toInt hu.toInt (6 : Int32).toInt))) from by (obtain ⟨⟨y1, y2, y3⟩, y4, y5⟩ := hkku_34; have k6 : (6 : Int32).toInt = 6 := (by decide); refine Or.inr ⟨by omega, by omega, Or.inr (Or.inr (Or.inr ⟨by omega, ?_⟩))⟩; rw [← y1, ← y2, ← y3, zSy_yes (hsr_38_0.mp (by omega))]; (repeat (first | rw [if_pos (by omega)] | rw [if_neg (by omega)])); first | done | exact hsr_57_0 | omega)), trivial⟩, zRet ht hP hD [0, 1, 2, 3, 4, 5] (by decide) rfl⟩, hS.F ht⟩) hS.2.2 dX7_says_153
            · have fc_41 : r_38.toInt = 0 := zf_eq c_41 rfl (by decide)
              refine lv_aload_n hx hb dX7_says_67 rfl (lv_at hl 2 rfl) ?_
              refine lv_iconst (v := 2) hx hb dX7_says_68 (by decide) ?_
              skip
              refine zw_V (As := [.int 2]) (rest := []) (wr := [(xs, .inl (cS, 8, .inr (.inr (.inr (.inr fh))))), (h0, .inr (4, [.ref e0, .int he, .int si])), (j0, .inr (0, [.ref z0, .ref jp, .ref jc, .int cn, .int de, .int tr, .int se, .int hu, .int sd])), (jp, .inl (cP, 8, .inr (.inr (.inr (.inr fp)))))]) ⟨hx, hb, hml, hown, hts⟩ (c_X_refuse_2 l D cI cJ cZ cP cS po x0 xs j0 k0 w0 rd mv xr (im) (lf) fr hy0 hy1 hy2 hy3 H.size) (cwV 1 hts gX7_says_X7_refuse rfl rfl rfl ⟨rfl, dh_X7_refuse⟩ ⟨Nat.le_of_ble_eq_true rfl, Nat.le_of_ble_eq_true rfl⟩) hK hN (hZ.kept hS) hP hD hS hA [0, 1] [2, 3, 4, 5] rfl rfl (by decide) (by decide) (by decide) (va_recv (q := (RX7, TX7, 9)) hK hP (ci := 7) (q0 := 0) rfl rfl) rfl hl.1 rfl (Nat.le_of_ble_eq_true rfl) dX7_says_69 ⟨Nat.le_of_ble_eq_true rfl, Nat.le_of_ble_eq_true rfl⟩ (fun r_60 u_61 H locs hr_60 hP hD hS => ?_)
              obtain ⟨q_62, rfl⟩ : ∃ z, z = u_61 := ⟨_, rfl⟩
              have h9R := zRe (ws' := [(xs, .inl (cS, 8, .inr (.inr (.inr (.inr fh))))), (h0, .inr (4, [.ref e0, .int he, .int si])), (j0, .inr (0, [.ref z0, .ref jp, .ref jc, .int cn, .int de, .int tr, .int se, .int hu, .int sd])), (jp, .inl (cP, 8, .inr (.inr (.inr (.inr fp))))), (x0, .inr (7, [.ref xs, .ref j0, .ref k0, .ref w0, .ref rd, .ref mv, .ref xr, .int im, .int lf])), (xr, .inl (cI, 8, .inl q_62))]) hP hD rfl
              clear hP hD
              obtain ⟨hP, hD⟩ := h9R
              obtain rfl := hr_60
              exact W.iret (v := (-2)) hx hb hr (fun t ht hW => ⟨⟨(-2), q_62, rfl, ⟨(show ((s_.toInt < 0 ∨ 7 < s_.toInt ∨ k.toInt < 0 ∨ 6 < k.toInt) ∧ ((-2) : Int32).toInt = -1) ∨ ((0 ≤ s_.toInt ∧ s_.toInt ≤ 7) ∧ (0 ≤ k.toInt ∧ k.toInt ≤ 6) ∧ ((he.toInt = -1 ∧ ((-2) : Int32).toInt = -3) ∨ (100 ≤ he.toInt ∧ ((-2) : Int32).toInt = -2) ∨ (cn.toInt ≤ he.toInt ∧ ((-2) : Int32).toInt = -2) ∨ ((0 ≤ he.toInt ∧ he.toInt < cn.toInt) ∧ ((-2) : Int32).toInt = zSy (kf he.toNatClampNeg).toInt (af he.toNatClampNeg).toInt (tf he.toNatClampNeg).toInt hu.toInt k.toInt))) from by (obtain ⟨⟨y1, y2, y3⟩, y4, y5⟩ := hkku_34; have k2m : ((-2) : Int32).toInt = -2 := (by decide); refine Or.inr ⟨by omega, by omega, Or.inr (Or.inr (Or.inr ⟨by omega, ?_⟩))⟩; rw [← y1, ← y2, ← y3, zSy_no (fun z => by (have z2 := hsr_38_0.mpr z; omega))]; omega)), trivial⟩, zRet ht hP hD [4, 5, 0, 1, 2, 3] (by decide) rfl⟩, hS.F ht⟩) hS.2.2 dX7_says_72
        · have fc_28 : he.toInt = (-1) := zf_eq c_28 rfl (by decide)
          refine lv_aload_n hx hb dX7_says_34 rfl (lv_at hl 1 rfl) ?_
          refine lv_iconst (v := 3) hx hb dX7_says_35 (by decide) ?_
          skip
          refine zw_V (As := [.int 3]) (rest := []) (wr := [(xs, .inl (cS, 8, .inr (.inr (.inr (.inr fh))))), (h0, .inr (4, [.ref e0, .int he, .int si])), (j0, .inr (0, [.ref z0, .ref jp, .ref jc, .int cn, .int de, .int tr, .int se, .int hu, .int sd])), (jp, .inl (cP, 8, .inr (.inr (.inr (.inr fp)))))]) ⟨hx, hb, hml, hown, hts⟩ (c_X_refuse_3 l D cI cJ cZ cP cS po x0 xs j0 k0 w0 rd mv xr (im) (lf) fr hy0 hy1 hy2 hy3 H.size) (cwV 1 hts gX7_says_X7_refuse rfl rfl rfl ⟨rfl, dh_X7_refuse⟩ ⟨Nat.le_of_ble_eq_true rfl, Nat.le_of_ble_eq_true rfl⟩) hK hN (hZ.kept hS) hP hD hS hA [0, 1] [2, 3, 4, 5] rfl rfl (by decide) (by decide) (by decide) (va_recv (q := (RX7, TX7, 9)) hK hP (ci := 7) (q0 := 0) rfl rfl) rfl hl.1 rfl (Nat.le_of_ble_eq_true rfl) dX7_says_36 ⟨Nat.le_of_ble_eq_true rfl, Nat.le_of_ble_eq_true rfl⟩ (fun r_63 u_64 H locs hr_63 hP hD hS => ?_)
          obtain ⟨q_65, rfl⟩ : ∃ z, z = u_64 := ⟨_, rfl⟩
          have h9R := zRe (ws' := [(xs, .inl (cS, 8, .inr (.inr (.inr (.inr fh))))), (h0, .inr (4, [.ref e0, .int he, .int si])), (j0, .inr (0, [.ref z0, .ref jp, .ref jc, .int cn, .int de, .int tr, .int se, .int hu, .int sd])), (jp, .inl (cP, 8, .inr (.inr (.inr (.inr fp))))), (x0, .inr (7, [.ref xs, .ref j0, .ref k0, .ref w0, .ref rd, .ref mv, .ref xr, .int im, .int lf])), (xr, .inl (cI, 8, .inl q_65))]) hP hD rfl
          clear hP hD
          obtain ⟨hP, hD⟩ := h9R
          obtain rfl := hr_63
          exact W.iret (v := (-3)) hx hb hr (fun t ht hW => ⟨⟨(-3), q_65, rfl, ⟨(show ((s_.toInt < 0 ∨ 7 < s_.toInt ∨ k.toInt < 0 ∨ 6 < k.toInt) ∧ ((-3) : Int32).toInt = -1) ∨ ((0 ≤ s_.toInt ∧ s_.toInt ≤ 7) ∧ (0 ≤ k.toInt ∧ k.toInt ≤ 6) ∧ ((he.toInt = -1 ∧ ((-3) : Int32).toInt = -3) ∨ (100 ≤ he.toInt ∧ ((-3) : Int32).toInt = -2) ∨ (cn.toInt ≤ he.toInt ∧ ((-3) : Int32).toInt = -2) ∨ ((0 ≤ he.toInt ∧ he.toInt < cn.toInt) ∧ ((-3) : Int32).toInt = zSy (kf he.toNatClampNeg).toInt (af he.toNatClampNeg).toInt (tf he.toNatClampNeg).toInt hu.toInt k.toInt))) from by (have k3m : ((-3) : Int32).toInt = -3 := (by decide); omega)), trivial⟩, zRet ht hP hD [4, 5, 0, 1, 2, 3] (by decide) rfl⟩, hS.F ht⟩) hS.2.2 dX7_says_39
      · exact absurd c_27 (by decide)
set_option maxHeartbeats 4000000 in
set_option maxRecDepth 100000 in
theorem c_F_X_frees (l : Launch) (D : va_G) (cI cJ cZ cP cS : ClassId) (po : zPool) (x0 xs j0 k0 w0 rd mv xr : Nat) (im lf : Int32) (fr : Nat → Int32) (j0 jp jc z0 zl zs : Nat) (cn de tr se hu sd : Int32) (fp : Nat → Option Nat) (kf af tf : Nat → Int32) (p_ d w : Int32) (hy0 : 0 ≤ im.toInt) (hy1 : im.toInt ≤ 1) (hy2 : (-1) ≤ lf.toInt) (hy3 : lf.toInt ≤ 160) (hy4 : 0 ≤ cn.toInt) (hy5 : cn.toInt ≤ 8) (hy6 : 0 ≤ de.toInt) (hy7 : de.toInt ≤ 24) (hy8 : 0 ≤ hu.toInt) (hy9 : hu.toInt ≤ 9) (hjp : zJP po fp cn kf af tf) (hpz : Nat) : Met l yX7_frees wsX7_frees ({ frames := 2, cells := 0, slots := 0, locals := 44 }) (va_Pc [.ref x0, .int p_, .int d, .int w] (zW D (zKT cI cJ cZ cP cS) po [(x0, .inr (7, [.ref xs, .ref j0, .ref k0, .ref w0, .ref rd, .ref mv, .ref xr, .int im, .int lf])), (xr, .inl (cI, 8, .inl fr)), (j0, .inr (0, [.ref z0, .ref jp, .ref jc, .int cn, .int de, .int tr, .int se, .int hu, .int sd])), (jp, .inl (cP, 8, .inr (.inr (.inr (.inr fp)))))] hpz)) (va_Qi (fun (r : Int32) (fr2 : (Nat → Int32)) => (((p_.toInt < 0 ∨ cn.toInt ≤ p_.toInt) ∧ r.toInt = -1) ∨ ((0 ≤ p_.toInt ∧ p_.toInt < cn.toInt) ∧ (((w.toInt < 0 ∨ 2 < w.toInt) ∧ r.toInt = -5) ∨ ((0 ≤ w.toInt ∧ w.toInt ≤ 2) ∧ (((d.toInt < 1 ∨ 24 < d.toInt) ∧ r.toInt = -6) ∨ ((1 ≤ d.toInt ∧ d.toInt ≤ 24) ∧ r.toInt = (if w.toInt = 0 then zWy (kf p_.toNatClampNeg).toInt (af p_.toNatClampNeg).toInt hu.toInt d.toInt else if w.toInt = 1 then zShl (kf p_.toNatClampNeg).toInt (af p_.toNatClampNeg).toInt d.toInt else zDpr (kf p_.toNatClampNeg).toInt (af p_.toNatClampNeg).toInt hu.toInt d.toInt))))))) ∧ (True)) (zB D [(x0, .inr (7, [.ref xs, .ref j0, .ref k0, .ref w0, .ref rd, .ref mv, .ref xr, .int im, .int lf])), (xr, .inl (cI, 8, .inl fr)), (j0, .inr (0, [.ref z0, .ref jp, .ref jc, .int cn, .int de, .int tr, .int se, .int hu, .int sd])), (jp, .inl (cP, 8, .inr (.inr (.inr (.inr fp)))))] hpz (fun (fr2 : Nat → Int32) => [(x0, .inr (7, [.ref xs, .ref j0, .ref k0, .ref w0, .ref rd, .ref mv, .ref xr, .int im, .int lf])), (xr, .inl (cI, 8, .inl fr2)), (j0, .inr (0, [.ref z0, .ref jp, .ref jc, .int cn, .int de, .int tr, .int se, .int hu, .int sd])), (jp, .inl (cP, 8, .inr (.inr (.inr (.inr fp)))))])) (va_A [(x0, .inr (7, [.ref xs, .ref j0, .ref k0, .ref w0, .ref rd, .ref mv, .ref xr, .int im, .int lf])), (xr, .inl (cI, 8, .inl fr)), (j0, .inr (0, [.ref z0, .ref jp, .ref jc, .int cn, .int de, .int tr, .int se, .int hu, .int sd])), (jp, .inl (cP, 8, .inr (.inr (.inr (.inr fp)))))] hpz)) 0 0 (va_A [(x0, .inr (7, [.ref xs, .ref j0, .ref k0, .ref w0, .ref rd, .ref mv, .ref xr, .int im, .int lf])), (xr, .inl (cI, 8, .inl fr)), (j0, .inr (0, [.ref z0, .ref jp, .ref jc, .int cn, .int de, .int tr, .int se, .int hu, .int sd])), (jp, .inl (cP, 8, .inr (.inr (.inr (.inr fp)))))] hpz) := by
  refine Met.ofW (cc := cX7_frees) (maxL := 5) (ret := (some .int)) (by decide) rfl ?_
  intro p e s m args below meth c s₁ B hml hv
  obtain ⟨rfl, hsz, hP, hK, hD0, hN, hZ⟩ := hv
  have hx := B.exec
  have hb := B.bytes
  have hr := B.returns
  have hts := atoms_spec (ws := wsX7_frees) B.pre
  have hown : s.vm.findClass RX7 = some m.cls := findClass_of_methodNamed B.named
  have hlocks := B.notSynchronized
  subst hsz
  have hD := hD0.self (sz := s.heap.size)
  have hA := zA_of hD
  have hl := lv_entry ([.ref x0, .int p_, .int d, .int w]) (n := 5) (Nat.le_of_ble_eq_true rfl)
  rw [lg_entry_eq]
  generalize (lg_sl ([.ref x0, .int p_, .int d, .int w]) ++ List.replicate (5 - (lg_sl ([.ref x0, .int p_, .int d, .int w])).length) Slot.unset).toArray = ls at hl ⊢
  replace hl : lv_has ls 5 [(0, .ref x0), (1, .int p_), (2, .int d), (3, .int w)] := hl
  refine zw_begin hP hD (fun H locs hP1 hS => ?_)
  clear hP
  have hP := hP1
  clear hP1
  refine lv_aload_n hx hb dX7_frees_0 rfl (lv_at hl 0 rfl) ?_
  refine va_get (D := D) (ci := 7) (v := .ref j0) (C := RX7) (T := TX7) (N := 9) hx hb hts hi_X7_frees_7 hown hK hP 0 rfl rfl 1 (by decide) (hts (.fieldLink RX7 18 "TheLiningsInIt" "now" "LTheLiningsInIt$Jacket;") (List.mem_of_getElem? (i := 1) rfl)) (fun _ h9 => h9) rfl dX7_frees_1 ?_
  refine lv_iload_n hx hb dX7_frees_4 rfl (lv_at hl 1 rfl) ?_
  refine zc_Vq (As := [.int p_]) (rest := []) ⟨hx, hb, hml, hown, hts⟩ (c_F_J_pullAt l D cI cJ cZ cP cS po j0 jp jc z0 0 0 (cn) (de) (tr) (se) (hu) (sd) fp kf af tf (p_) hy4 hy5 hy6 hy7 hy8 hy9 hjp) (cwV 1 hts gX7_frees_X0_pullAt rfl rfl rfl ⟨rfl, dh_X0_pullAt⟩ ⟨Nat.le_of_ble_eq_true rfl, Nat.le_of_ble_eq_true rfl⟩) hK hN (hZ.kept hS) hP (hP.sub [2, 3] rfl) (va_recv (q := (RX0, TX0, 9)) hK hP (ci := 0) (q0 := 2) rfl rfl) rfl hl.1 rfl (Nat.le_of_ble_eq_true rfl) dX7_frees_5 ⟨Nat.le_of_ble_eq_true rfl, Nat.le_of_ble_eq_true rfl⟩ (fun r_1 hr_1 => ?_)
  rcases hr_1 with ⟨rfl, g_2⟩ | ⟨rfl, g_3, g_4⟩ | ⟨⟨u_6, kiu_6, au_6, tu_6, rfl, huu_6, hkku_6⟩, g_5⟩
  · refine lv_astoreN (lv' := [(4, .null), (0, .ref x0), (1, .int p_), (2, .int d), (3, .int w)]) hx hb dX7_frees_8 hl (by decide) rfl (fun ls hl => ?_)
    refine lv_aloadN hx hb dX7_frees_10 (lv_at hl 0 rfl) ?_
    refine lv_ifnonnullN hx hb dX7_frees_12 ?_
    refine lv_aload_n hx hb dX7_frees_15 rfl (lv_at hl 1 rfl) ?_
    refine lv_iconst (v := 1) hx hb dX7_frees_16 (by decide) ?_
    skip
    refine zw_V (As := [.int 1]) (rest := []) (wr := [(j0, .inr (0, [.ref z0, .ref jp, .ref jc, .int cn, .int de, .int tr, .int se, .int hu, .int sd])), (jp, .inl (cP, 8, .inr (.inr (.inr (.inr fp)))))]) ⟨hx, hb, hml, hown, hts⟩ (c_X_refuse_1 l D cI cJ cZ cP cS po x0 xs j0 k0 w0 rd mv xr (im) (lf) fr hy0 hy1 hy2 hy3 H.size) (cwV 1 hts gX7_frees_X7_refuse rfl rfl rfl ⟨rfl, dh_X7_refuse⟩ ⟨Nat.le_of_ble_eq_true rfl, Nat.le_of_ble_eq_true rfl⟩) hK hN (hZ.kept hS) hP hD hS hA [0, 1] [2, 3] rfl rfl (by decide) (by decide) (by decide) (va_recv (q := (RX7, TX7, 9)) hK hP (ci := 7) (q0 := 0) rfl rfl) rfl hl.1 rfl (Nat.le_of_ble_eq_true rfl) dX7_frees_17 ⟨Nat.le_of_ble_eq_true rfl, Nat.le_of_ble_eq_true rfl⟩ (fun r_7 u_8 H locs hr_7 hP hD hS => ?_)
    obtain ⟨q_9, rfl⟩ : ∃ z, z = u_8 := ⟨_, rfl⟩
    have h9R := zRe (ws' := [(j0, .inr (0, [.ref z0, .ref jp, .ref jc, .int cn, .int de, .int tr, .int se, .int hu, .int sd])), (jp, .inl (cP, 8, .inr (.inr (.inr (.inr fp))))), (x0, .inr (7, [.ref xs, .ref j0, .ref k0, .ref w0, .ref rd, .ref mv, .ref xr, .int im, .int lf])), (xr, .inl (cI, 8, .inl q_9))]) hP hD rfl
    clear hP hD
    obtain ⟨hP, hD⟩ := h9R
    obtain rfl := hr_7
    exact W.iret (v := (-1)) hx hb hr (fun t ht hW => ⟨⟨(-1), q_9, rfl, ⟨(show ((p_.toInt < 0 ∨ cn.toInt ≤ p_.toInt) ∧ ((-1) : Int32).toInt = -1) ∨ ((0 ≤ p_.toInt ∧ p_.toInt < cn.toInt) ∧ (((w.toInt < 0 ∨ 2 < w.toInt) ∧ ((-1) : Int32).toInt = -5) ∨ ((0 ≤ w.toInt ∧ w.toInt ≤ 2) ∧ (((d.toInt < 1 ∨ 24 < d.toInt) ∧ ((-1) : Int32).toInt = -6) ∨ ((1 ≤ d.toInt ∧ d.toInt ≤ 24) ∧ ((-1) : Int32).toInt = (if w.toInt = 0 then zWy (kf p_.toNatClampNeg).toInt (af p_.toNatClampNeg).toInt hu.toInt d.toInt else if w.toInt = 1 then zShl (kf p_.toNatClampNeg).toInt (af p_.toNatClampNeg).toInt d.toInt else zDpr (kf p_.toNatClampNeg).toInt (af p_.toNatClampNeg).toInt hu.toInt d.toInt)))))) from by (have k1m : ((-1) : Int32).toInt = -1 := (by decide); omega)), trivial⟩, zRet ht hP hD [2, 3, 0, 1] (by decide) rfl⟩, hS.F ht⟩) hS.2.2 dX7_frees_20
  · refine lv_astoreN (lv' := [(4, .null), (0, .ref x0), (1, .int p_), (2, .int d), (3, .int w)]) hx hb dX7_frees_8 hl (by decide) rfl (fun ls hl => ?_)
    refine lv_aloadN hx hb dX7_frees_10 (lv_at hl 0 rfl) ?_
    refine lv_ifnonnullN hx hb dX7_frees_12 ?_
    refine lv_aload_n hx hb dX7_frees_15 rfl (lv_at hl 1 rfl) ?_
    refine lv_iconst (v := 1) hx hb dX7_frees_16 (by decide) ?_
    skip
    refine zw_V (As := [.int 1]) (rest := []) (wr := [(j0, .inr (0, [.ref z0, .ref jp, .ref jc, .int cn, .int de, .int tr, .int se, .int hu, .int sd])), (jp, .inl (cP, 8, .inr (.inr (.inr (.inr fp)))))]) ⟨hx, hb, hml, hown, hts⟩ (c_X_refuse_1 l D cI cJ cZ cP cS po x0 xs j0 k0 w0 rd mv xr (im) (lf) fr hy0 hy1 hy2 hy3 H.size) (cwV 1 hts gX7_frees_X7_refuse rfl rfl rfl ⟨rfl, dh_X7_refuse⟩ ⟨Nat.le_of_ble_eq_true rfl, Nat.le_of_ble_eq_true rfl⟩) hK hN (hZ.kept hS) hP hD hS hA [0, 1] [2, 3] rfl rfl (by decide) (by decide) (by decide) (va_recv (q := (RX7, TX7, 9)) hK hP (ci := 7) (q0 := 0) rfl rfl) rfl hl.1 rfl (Nat.le_of_ble_eq_true rfl) dX7_frees_17 ⟨Nat.le_of_ble_eq_true rfl, Nat.le_of_ble_eq_true rfl⟩ (fun r_10 u_11 H locs hr_10 hP hD hS => ?_)
    obtain ⟨q_12, rfl⟩ : ∃ z, z = u_11 := ⟨_, rfl⟩
    have h9R := zRe (ws' := [(j0, .inr (0, [.ref z0, .ref jp, .ref jc, .int cn, .int de, .int tr, .int se, .int hu, .int sd])), (jp, .inl (cP, 8, .inr (.inr (.inr (.inr fp))))), (x0, .inr (7, [.ref xs, .ref j0, .ref k0, .ref w0, .ref rd, .ref mv, .ref xr, .int im, .int lf])), (xr, .inl (cI, 8, .inl q_12))]) hP hD rfl
    clear hP hD
    obtain ⟨hP, hD⟩ := h9R
    obtain rfl := hr_10
    exact W.iret (v := (-1)) hx hb hr (fun t ht hW => ⟨⟨(-1), q_12, rfl, ⟨(show ((p_.toInt < 0 ∨ cn.toInt ≤ p_.toInt) ∧ ((-1) : Int32).toInt = -1) ∨ ((0 ≤ p_.toInt ∧ p_.toInt < cn.toInt) ∧ (((w.toInt < 0 ∨ 2 < w.toInt) ∧ ((-1) : Int32).toInt = -5) ∨ ((0 ≤ w.toInt ∧ w.toInt ≤ 2) ∧ (((d.toInt < 1 ∨ 24 < d.toInt) ∧ ((-1) : Int32).toInt = -6) ∨ ((1 ≤ d.toInt ∧ d.toInt ≤ 24) ∧ ((-1) : Int32).toInt = (if w.toInt = 0 then zWy (kf p_.toNatClampNeg).toInt (af p_.toNatClampNeg).toInt hu.toInt d.toInt else if w.toInt = 1 then zShl (kf p_.toNatClampNeg).toInt (af p_.toNatClampNeg).toInt d.toInt else zDpr (kf p_.toNatClampNeg).toInt (af p_.toNatClampNeg).toInt hu.toInt d.toInt)))))) from by (have k1m : ((-1) : Int32).toInt = -1 := (by decide); omega)), trivial⟩, zRet ht hP hD [2, 3, 0, 1] (by decide) rfl⟩, hS.F ht⟩) hS.2.2 dX7_frees_20
  · refine W.eq (g2 := F0 m 8 ls (.ref u_6 :: [])) rfl ?_
    obtain ⟨hku_6, hau_6, htu_6⟩ := zPu_pr (hZ.kept hS) huu_6
    refine lv_astore (lv' := [(4, .ref u_6), (0, .ref x0), (1, .int p_), (2, .int d), (3, .int w)]) hx hb dX7_frees_8 hl (by decide) rfl (fun ls hl => ?_)
    refine lv_aload hx hb dX7_frees_10 (lv_at hl 0 rfl) ?_
    refine lv_ifnonnull (tgt := 21) hx hb dX7_frees_12 (by decide) ?_
    refine lv_iload_n hx hb dX7_frees_21 rfl (lv_at hl 4 rfl) ?_
    refine lv_iconst (v := 0) hx hb dX7_frees_22 (by decide) ?_
    refine lv_iconst (v := 2) hx hb dX7_frees_23 (by decide) ?_
    have kc0 : (0 : Int32).toInt = 0 := by decide
    have kc2 : (2 : Int32).toInt = 2 := by decide
    refine zc_S (As := [.int w, .int 0, .int 2]) (rest := []) ⟨hx, hb, hml, hown, hts⟩ (c_within l D cI cJ cZ cP cS po (w) (0) (2) ) (va_cwS 3 hts gX7_frees_X7_within rfl rfl rfl dh_X7_within ⟨Nat.le_of_ble_eq_true rfl, Nat.le_of_ble_eq_true rfl⟩) hK hN (hZ.kept hS) rfl hl.1 rfl (Nat.le_of_ble_eq_true rfl) dX7_frees_24 ⟨Nat.le_of_ble_eq_true rfl, Nat.le_of_ble_eq_true rfl⟩ (fun r_13 hr_13 => ?_)
    rcases hr_13 with ⟨rfl, g_14⟩ | ⟨rfl, g_15, g_16⟩ | ⟨rfl, g_17, g_18⟩
    · refine lv_if_ne (tgt := 36) hx hb dX7_frees_27 (by decide) (fun c_19 => ?_) (fun c_19 => ?_)
      · exact absurd c_19 (by decide)
      · refine lv_aload_n hx hb dX7_frees_30 rfl (lv_at hl 1 rfl) ?_
        refine lv_iconst (v := 5) hx hb dX7_frees_31 (by decide) ?_
        skip
        refine zw_V (As := [.int 5]) (rest := []) (wr := [(j0, .inr (0, [.ref z0, .ref jp, .ref jc, .int cn, .int de, .int tr, .int se, .int hu, .int sd])), (jp, .inl (cP, 8, .inr (.inr (.inr (.inr fp)))))]) ⟨hx, hb, hml, hown, hts⟩ (c_X_refuse_5 l D cI cJ cZ cP cS po x0 xs j0 k0 w0 rd mv xr (im) (lf) fr hy0 hy1 hy2 hy3 H.size) (cwV 1 hts gX7_frees_X7_refuse rfl rfl rfl ⟨rfl, dh_X7_refuse⟩ ⟨Nat.le_of_ble_eq_true rfl, Nat.le_of_ble_eq_true rfl⟩) hK hN (hZ.kept hS) hP hD hS hA [0, 1] [2, 3] rfl rfl (by decide) (by decide) (by decide) (va_recv (q := (RX7, TX7, 9)) hK hP (ci := 7) (q0 := 0) rfl rfl) rfl hl.1 rfl (Nat.le_of_ble_eq_true rfl) dX7_frees_32 ⟨Nat.le_of_ble_eq_true rfl, Nat.le_of_ble_eq_true rfl⟩ (fun r_20 u_21 H locs hr_20 hP hD hS => ?_)
        obtain ⟨q_22, rfl⟩ : ∃ z, z = u_21 := ⟨_, rfl⟩
        have h9R := zRe (ws' := [(j0, .inr (0, [.ref z0, .ref jp, .ref jc, .int cn, .int de, .int tr, .int se, .int hu, .int sd])), (jp, .inl (cP, 8, .inr (.inr (.inr (.inr fp))))), (x0, .inr (7, [.ref xs, .ref j0, .ref k0, .ref w0, .ref rd, .ref mv, .ref xr, .int im, .int lf])), (xr, .inl (cI, 8, .inl q_22))]) hP hD rfl
        clear hP hD
        obtain ⟨hP, hD⟩ := h9R
        obtain rfl := hr_20
        exact W.iret (v := (-5)) hx hb hr (fun t ht hW => ⟨⟨(-5), q_22, rfl, ⟨(show ((p_.toInt < 0 ∨ cn.toInt ≤ p_.toInt) ∧ ((-5) : Int32).toInt = -1) ∨ ((0 ≤ p_.toInt ∧ p_.toInt < cn.toInt) ∧ (((w.toInt < 0 ∨ 2 < w.toInt) ∧ ((-5) : Int32).toInt = -5) ∨ ((0 ≤ w.toInt ∧ w.toInt ≤ 2) ∧ (((d.toInt < 1 ∨ 24 < d.toInt) ∧ ((-5) : Int32).toInt = -6) ∨ ((1 ≤ d.toInt ∧ d.toInt ≤ 24) ∧ ((-5) : Int32).toInt = (if w.toInt = 0 then zWy (kf p_.toNatClampNeg).toInt (af p_.toNatClampNeg).toInt hu.toInt d.toInt else if w.toInt = 1 then zShl (kf p_.toNatClampNeg).toInt (af p_.toNatClampNeg).toInt d.toInt else zDpr (kf p_.toNatClampNeg).toInt (af p_.toNatClampNeg).toInt hu.toInt d.toInt)))))) from by (obtain ⟨⟨y1, y2, y3⟩, y4, y5⟩ := hkku_6; have k5m : ((-5) : Int32).toInt = -5 := (by decide); omega)), trivial⟩, zRet ht hP hD [2, 3, 0, 1] (by decide) rfl⟩, hS.F ht⟩) hS.2.2 dX7_frees_35
    · refine lv_if_ne (tgt := 36) hx hb dX7_frees_27 (by decide) (fun c_23 => ?_) (fun c_23 => ?_)
      · exact absurd c_23 (by decide)
      · refine lv_aload_n hx hb dX7_frees_30 rfl (lv_at hl 1 rfl) ?_
        refine lv_iconst (v := 5) hx hb dX7_frees_31 (by decide) ?_
        skip
        refine zw_V (As := [.int 5]) (rest := []) (wr := [(j0, .inr (0, [.ref z0, .ref jp, .ref jc, .int cn, .int de, .int tr, .int se, .int hu, .int sd])), (jp, .inl (cP, 8, .inr (.inr (.inr (.inr fp)))))]) ⟨hx, hb, hml, hown, hts⟩ (c_X_refuse_5 l D cI cJ cZ cP cS po x0 xs j0 k0 w0 rd mv xr (im) (lf) fr hy0 hy1 hy2 hy3 H.size) (cwV 1 hts gX7_frees_X7_refuse rfl rfl rfl ⟨rfl, dh_X7_refuse⟩ ⟨Nat.le_of_ble_eq_true rfl, Nat.le_of_ble_eq_true rfl⟩) hK hN (hZ.kept hS) hP hD hS hA [0, 1] [2, 3] rfl rfl (by decide) (by decide) (by decide) (va_recv (q := (RX7, TX7, 9)) hK hP (ci := 7) (q0 := 0) rfl rfl) rfl hl.1 rfl (Nat.le_of_ble_eq_true rfl) dX7_frees_32 ⟨Nat.le_of_ble_eq_true rfl, Nat.le_of_ble_eq_true rfl⟩ (fun r_24 u_25 H locs hr_24 hP hD hS => ?_)
        obtain ⟨q_26, rfl⟩ : ∃ z, z = u_25 := ⟨_, rfl⟩
        have h9R := zRe (ws' := [(j0, .inr (0, [.ref z0, .ref jp, .ref jc, .int cn, .int de, .int tr, .int se, .int hu, .int sd])), (jp, .inl (cP, 8, .inr (.inr (.inr (.inr fp))))), (x0, .inr (7, [.ref xs, .ref j0, .ref k0, .ref w0, .ref rd, .ref mv, .ref xr, .int im, .int lf])), (xr, .inl (cI, 8, .inl q_26))]) hP hD rfl
        clear hP hD
        obtain ⟨hP, hD⟩ := h9R
        obtain rfl := hr_24
        exact W.iret (v := (-5)) hx hb hr (fun t ht hW => ⟨⟨(-5), q_26, rfl, ⟨(show ((p_.toInt < 0 ∨ cn.toInt ≤ p_.toInt) ∧ ((-5) : Int32).toInt = -1) ∨ ((0 ≤ p_.toInt ∧ p_.toInt < cn.toInt) ∧ (((w.toInt < 0 ∨ 2 < w.toInt) ∧ ((-5) : Int32).toInt = -5) ∨ ((0 ≤ w.toInt ∧ w.toInt ≤ 2) ∧ (((d.toInt < 1 ∨ 24 < d.toInt) ∧ ((-5) : Int32).toInt = -6) ∨ ((1 ≤ d.toInt ∧ d.toInt ≤ 24) ∧ ((-5) : Int32).toInt = (if w.toInt = 0 then zWy (kf p_.toNatClampNeg).toInt (af p_.toNatClampNeg).toInt hu.toInt d.toInt else if w.toInt = 1 then zShl (kf p_.toNatClampNeg).toInt (af p_.toNatClampNeg).toInt d.toInt else zDpr (kf p_.toNatClampNeg).toInt (af p_.toNatClampNeg).toInt hu.toInt d.toInt)))))) from by (obtain ⟨⟨y1, y2, y3⟩, y4, y5⟩ := hkku_6; have k5m : ((-5) : Int32).toInt = -5 := (by decide); omega)), trivial⟩, zRet ht hP hD [2, 3, 0, 1] (by decide) rfl⟩, hS.F ht⟩) hS.2.2 dX7_frees_35
    · refine lv_if_ne (tgt := 36) hx hb dX7_frees_27 (by decide) (fun c_27 => ?_) (fun c_27 => ?_)
      · refine lv_iload_n hx hb dX7_frees_36 rfl (lv_at hl 3 rfl) ?_
        refine lv_iconst (v := 1) hx hb dX7_frees_37 (by decide) ?_
        refine lv_bipush (v := 24) hx hb dX7_frees_38 (by decide) ?_
        have kc1 : (1 : Int32).toInt = 1 := by decide
        have kc24 : (24 : Int32).toInt = 24 := by decide
        refine zc_S (As := [.int d, .int 1, .int 24]) (rest := []) ⟨hx, hb, hml, hown, hts⟩ (c_within l D cI cJ cZ cP cS po (d) (1) (24) ) (va_cwS 3 hts gX7_frees_X7_within rfl rfl rfl dh_X7_within ⟨Nat.le_of_ble_eq_true rfl, Nat.le_of_ble_eq_true rfl⟩) hK hN (hZ.kept hS) rfl hl.1 rfl (Nat.le_of_ble_eq_true rfl) dX7_frees_40 ⟨Nat.le_of_ble_eq_true rfl, Nat.le_of_ble_eq_true rfl⟩ (fun r_28 hr_28 => ?_)
        rcases hr_28 with ⟨rfl, g_29⟩ | ⟨rfl, g_30, g_31⟩ | ⟨rfl, g_32, g_33⟩
        · refine lv_if_ne (tgt := 53) hx hb dX7_frees_43 (by decide) (fun c_34 => ?_) (fun c_34 => ?_)
          · exact absurd c_34 (by decide)
          · refine lv_aload_n hx hb dX7_frees_46 rfl (lv_at hl 1 rfl) ?_
            refine lv_bipush (v := 6) hx hb dX7_frees_47 (by decide) ?_
            skip
            refine zw_V (As := [.int 6]) (rest := []) (wr := [(j0, .inr (0, [.ref z0, .ref jp, .ref jc, .int cn, .int de, .int tr, .int se, .int hu, .int sd])), (jp, .inl (cP, 8, .inr (.inr (.inr (.inr fp)))))]) ⟨hx, hb, hml, hown, hts⟩ (c_X_refuse_6 l D cI cJ cZ cP cS po x0 xs j0 k0 w0 rd mv xr (im) (lf) fr hy0 hy1 hy2 hy3 H.size) (cwV 1 hts gX7_frees_X7_refuse rfl rfl rfl ⟨rfl, dh_X7_refuse⟩ ⟨Nat.le_of_ble_eq_true rfl, Nat.le_of_ble_eq_true rfl⟩) hK hN (hZ.kept hS) hP hD hS hA [0, 1] [2, 3] rfl rfl (by decide) (by decide) (by decide) (va_recv (q := (RX7, TX7, 9)) hK hP (ci := 7) (q0 := 0) rfl rfl) rfl hl.1 rfl (Nat.le_of_ble_eq_true rfl) dX7_frees_49 ⟨Nat.le_of_ble_eq_true rfl, Nat.le_of_ble_eq_true rfl⟩ (fun r_35 u_36 H locs hr_35 hP hD hS => ?_)
            obtain ⟨q_37, rfl⟩ : ∃ z, z = u_36 := ⟨_, rfl⟩
            have h9R := zRe (ws' := [(j0, .inr (0, [.ref z0, .ref jp, .ref jc, .int cn, .int de, .int tr, .int se, .int hu, .int sd])), (jp, .inl (cP, 8, .inr (.inr (.inr (.inr fp))))), (x0, .inr (7, [.ref xs, .ref j0, .ref k0, .ref w0, .ref rd, .ref mv, .ref xr, .int im, .int lf])), (xr, .inl (cI, 8, .inl q_37))]) hP hD rfl
            clear hP hD
            obtain ⟨hP, hD⟩ := h9R
            obtain rfl := hr_35
            exact W.iret (v := (-6)) hx hb hr (fun t ht hW => ⟨⟨(-6), q_37, rfl, ⟨(show ((p_.toInt < 0 ∨ cn.toInt ≤ p_.toInt) ∧ ((-6) : Int32).toInt = -1) ∨ ((0 ≤ p_.toInt ∧ p_.toInt < cn.toInt) ∧ (((w.toInt < 0 ∨ 2 < w.toInt) ∧ ((-6) : Int32).toInt = -5) ∨ ((0 ≤ w.toInt ∧ w.toInt ≤ 2) ∧ (((d.toInt < 1 ∨ 24 < d.toInt) ∧ ((-6) : Int32).toInt = -6) ∨ ((1 ≤ d.toInt ∧ d.toInt ≤ 24) ∧ ((-6) : Int32).toInt = (if w.toInt = 0 then zWy (kf p_.toNatClampNeg).toInt (af p_.toNatClampNeg).toInt hu.toInt d.toInt else if w.toInt = 1 then zShl (kf p_.toNatClampNeg).toInt (af p_.toNatClampNeg).toInt d.toInt else zDpr (kf p_.toNatClampNeg).toInt (af p_.toNatClampNeg).toInt hu.toInt d.toInt)))))) from by (obtain ⟨⟨y1, y2, y3⟩, y4, y5⟩ := hkku_6; have k6m : ((-6) : Int32).toInt = -6 := (by decide); omega)), trivial⟩, zRet ht hP hD [2, 3, 0, 1] (by decide) rfl⟩, hS.F ht⟩) hS.2.2 dX7_frees_52
        · refine lv_if_ne (tgt := 53) hx hb dX7_frees_43 (by decide) (fun c_38 => ?_) (fun c_38 => ?_)
          · exact absurd c_38 (by decide)
          · refine lv_aload_n hx hb dX7_frees_46 rfl (lv_at hl 1 rfl) ?_
            refine lv_bipush (v := 6) hx hb dX7_frees_47 (by decide) ?_
            skip
            refine zw_V (As := [.int 6]) (rest := []) (wr := [(j0, .inr (0, [.ref z0, .ref jp, .ref jc, .int cn, .int de, .int tr, .int se, .int hu, .int sd])), (jp, .inl (cP, 8, .inr (.inr (.inr (.inr fp)))))]) ⟨hx, hb, hml, hown, hts⟩ (c_X_refuse_6 l D cI cJ cZ cP cS po x0 xs j0 k0 w0 rd mv xr (im) (lf) fr hy0 hy1 hy2 hy3 H.size) (cwV 1 hts gX7_frees_X7_refuse rfl rfl rfl ⟨rfl, dh_X7_refuse⟩ ⟨Nat.le_of_ble_eq_true rfl, Nat.le_of_ble_eq_true rfl⟩) hK hN (hZ.kept hS) hP hD hS hA [0, 1] [2, 3] rfl rfl (by decide) (by decide) (by decide) (va_recv (q := (RX7, TX7, 9)) hK hP (ci := 7) (q0 := 0) rfl rfl) rfl hl.1 rfl (Nat.le_of_ble_eq_true rfl) dX7_frees_49 ⟨Nat.le_of_ble_eq_true rfl, Nat.le_of_ble_eq_true rfl⟩ (fun r_39 u_40 H locs hr_39 hP hD hS => ?_)
            obtain ⟨q_41, rfl⟩ : ∃ z, z = u_40 := ⟨_, rfl⟩
            have h9R := zRe (ws' := [(j0, .inr (0, [.ref z0, .ref jp, .ref jc, .int cn, .int de, .int tr, .int se, .int hu, .int sd])), (jp, .inl (cP, 8, .inr (.inr (.inr (.inr fp))))), (x0, .inr (7, [.ref xs, .ref j0, .ref k0, .ref w0, .ref rd, .ref mv, .ref xr, .int im, .int lf])), (xr, .inl (cI, 8, .inl q_41))]) hP hD rfl
            clear hP hD
            obtain ⟨hP, hD⟩ := h9R
            obtain rfl := hr_39
            exact W.iret (v := (-6)) hx hb hr (fun t ht hW => ⟨⟨(-6), q_41, rfl, ⟨(show ((p_.toInt < 0 ∨ cn.toInt ≤ p_.toInt) ∧ ((-6) : Int32).toInt = -1) ∨ ((0 ≤ p_.toInt ∧ p_.toInt < cn.toInt) ∧ (((w.toInt < 0 ∨ 2 < w.toInt) ∧ ((-6) : Int32).toInt = -5) ∨ ((0 ≤ w.toInt ∧ w.toInt ≤ 2) ∧ (((d.toInt < 1 ∨ 24 < d.toInt) ∧ ((-6) : Int32).toInt = -6) ∨ ((1 ≤ d.toInt ∧ d.toInt ≤ 24) ∧ ((-6) : Int32).toInt = (if w.toInt = 0 then zWy (kf p_.toNatClampNeg).toInt (af p_.toNatClampNeg).toInt hu.toInt d.toInt else if w.toInt = 1 then zShl (kf p_.toNatClampNeg).toInt (af p_.toNatClampNeg).toInt d.toInt else zDpr (kf p_.toNatClampNeg).toInt (af p_.toNatClampNeg).toInt hu.toInt d.toInt)))))) from by (obtain ⟨⟨y1, y2, y3⟩, y4, y5⟩ := hkku_6; have k6m : ((-6) : Int32).toInt = -6 := (by decide); omega)), trivial⟩, zRet ht hP hD [2, 3, 0, 1] (by decide) rfl⟩, hS.F ht⟩) hS.2.2 dX7_frees_52
        · refine lv_if_ne (tgt := 53) hx hb dX7_frees_43 (by decide) (fun c_42 => ?_) (fun c_42 => ?_)
          · refine lv_iload_n hx hb dX7_frees_53 rfl (lv_at hl 4 rfl) ?_
            refine lv_if_ne (tgt := 71) hx hb dX7_frees_54 (by decide) (fun c_43 => ?_) (fun c_43 => ?_)
            · have fc_43 : w.toInt ≠ 0 := zf_ne c_43 rfl (by decide)
              refine lv_iload_n hx hb dX7_frees_71 rfl (lv_at hl 4 rfl) ?_
              refine lv_iconst (v := 1) hx hb dX7_frees_72 (by decide) ?_
              refine lv_icmp_ne (tgt := 85) hx hb dX7_frees_73 (by decide) (fun c_44 => ?_) (fun c_44 => ?_)
              · have fc_44 : w.toInt ≠ 1 := zf_ne c_44 rfl (by decide)
                refine lv_aload hx hb dX7_frees_85 (lv_at hl 0 rfl) ?_
                refine lv_iload_n hx hb dX7_frees_87 rfl (lv_at hl 3 rfl) ?_
                refine lv_aload_n hx hb dX7_frees_88 rfl (lv_at hl 1 rfl) ?_
                refine va_get (D := D) (ci := 7) (v := .ref j0) (C := RX7) (T := TX7) (N := 9) hx hb hts hi_X7_frees_7 hown hK hP 0 rfl rfl 1 (by decide) (hts (.fieldLink RX7 18 "TheLiningsInIt" "now" "LTheLiningsInIt$Jacket;") (List.mem_of_getElem? (i := 1) rfl)) (fun _ h9 => h9) rfl dX7_frees_89 ?_
                refine va_get (D := D) (ci := 0) (v := .int hu) (C := RX0) (T := TX0) (N := 9) hx hb hts hi_X7_frees_0 hown hK hP 2 rfl rfl 7 (by decide) (hts (.fieldLink RX7 116 "TheLiningsInIt$Jacket" "hurry" "I") (List.mem_of_getElem? (i := 2) rfl)) (fun _ h9 => h9) rfl dX7_frees_92 ?_
                refine zc_V (As := [.int d, .int hu]) (rest := []) ⟨hx, hb, hml, hown, hts⟩ (c_F_Pull_deeper l D cI cJ cZ cP cS po (d) (hu) u_6 (kiu_6) (au_6) (tu_6) huu_6 ⟨by omega, by omega, by omega, by omega⟩ (by omega) (by omega) hy8 hy9) (cwV 2 hts gX7_frees_X2_deeper rfl rfl rfl ⟨rfl, dh_X2_deeper⟩ ⟨Nat.le_of_ble_eq_true rfl, Nat.le_of_ble_eq_true rfl⟩) hK hN (hZ.kept hS) hP zP_nil (va_recv (q := (RX2, TX2, 3)) hK (zPu_P (hZ.kept hS) huu_6) (ci := 2) (q0 := 0) rfl rfl) rfl hl.1 rfl (Nat.le_of_ble_eq_true rfl) dX7_frees_95 ⟨Nat.le_of_ble_eq_true rfl, Nat.le_of_ble_eq_true rfl⟩ (fun r_45 hr_45 => ?_)
                obtain ⟨g_46, g_47, hsr_45_0⟩ := hr_45
                exact W.iret (v := r_45) hx hb hr (fun t ht hW => ⟨⟨r_45, fr, rfl, ⟨(show ((p_.toInt < 0 ∨ cn.toInt ≤ p_.toInt) ∧ (r_45 : Int32).toInt = -1) ∨ ((0 ≤ p_.toInt ∧ p_.toInt < cn.toInt) ∧ (((w.toInt < 0 ∨ 2 < w.toInt) ∧ (r_45 : Int32).toInt = -5) ∨ ((0 ≤ w.toInt ∧ w.toInt ≤ 2) ∧ (((d.toInt < 1 ∨ 24 < d.toInt) ∧ (r_45 : Int32).toInt = -6) ∨ ((1 ≤ d.toInt ∧ d.toInt ≤ 24) ∧ (r_45 : Int32).toInt = (if w.toInt = 0 then zWy (kf p_.toNatClampNeg).toInt (af p_.toNatClampNeg).toInt hu.toInt d.toInt else if w.toInt = 1 then zShl (kf p_.toNatClampNeg).toInt (af p_.toNatClampNeg).toInt d.toInt else zDpr (kf p_.toNatClampNeg).toInt (af p_.toNatClampNeg).toInt hu.toInt d.toInt)))))) from by (obtain ⟨⟨y1, y2, y3⟩, y4, y5⟩ := hkku_6; refine Or.inr ⟨by omega, Or.inr ⟨by omega, Or.inr ⟨by omega, ?_⟩⟩⟩; rw [← y1, ← y2]; (repeat (first | rw [if_pos (by omega)] | rw [if_neg (by omega)])); exact hsr_45_0)), trivial⟩, zRet ht hP hD [0, 1, 2, 3] (by decide) rfl⟩, hS.F ht⟩) hS.2.2 dX7_frees_98
              · have fc_44 : w.toInt = 1 := zf_eq c_44 rfl (by decide)
                refine lv_aload hx hb dX7_frees_76 (lv_at hl 0 rfl) ?_
                refine lv_iload_n hx hb dX7_frees_78 rfl (lv_at hl 3 rfl) ?_
                refine zc_V (As := [.int d]) (rest := []) ⟨hx, hb, hml, hown, hts⟩ (c_F_Pull_shallower l D cI cJ cZ cP cS po (d) u_6 (kiu_6) (au_6) (tu_6) huu_6 ⟨by omega, by omega, by omega, by omega⟩ (by omega) (by omega)) (cwV 1 hts gX7_frees_X2_shallower rfl rfl rfl ⟨rfl, dh_X2_shallower⟩ ⟨Nat.le_of_ble_eq_true rfl, Nat.le_of_ble_eq_true rfl⟩) hK hN (hZ.kept hS) hP zP_nil (va_recv (q := (RX2, TX2, 3)) hK (zPu_P (hZ.kept hS) huu_6) (ci := 2) (q0 := 0) rfl rfl) rfl hl.1 rfl (Nat.le_of_ble_eq_true rfl) dX7_frees_79 ⟨Nat.le_of_ble_eq_true rfl, Nat.le_of_ble_eq_true rfl⟩ (fun r_48 hr_48 => ?_)
                obtain ⟨g_49, g_50, hsr_48_0⟩ := hr_48
                refine lv_goto (tgt := 98) hx hb dX7_frees_82 (by decide) ?_
                exact W.iret (v := r_48) hx hb hr (fun t ht hW => ⟨⟨r_48, fr, rfl, ⟨(show ((p_.toInt < 0 ∨ cn.toInt ≤ p_.toInt) ∧ (r_48 : Int32).toInt = -1) ∨ ((0 ≤ p_.toInt ∧ p_.toInt < cn.toInt) ∧ (((w.toInt < 0 ∨ 2 < w.toInt) ∧ (r_48 : Int32).toInt = -5) ∨ ((0 ≤ w.toInt ∧ w.toInt ≤ 2) ∧ (((d.toInt < 1 ∨ 24 < d.toInt) ∧ (r_48 : Int32).toInt = -6) ∨ ((1 ≤ d.toInt ∧ d.toInt ≤ 24) ∧ (r_48 : Int32).toInt = (if w.toInt = 0 then zWy (kf p_.toNatClampNeg).toInt (af p_.toNatClampNeg).toInt hu.toInt d.toInt else if w.toInt = 1 then zShl (kf p_.toNatClampNeg).toInt (af p_.toNatClampNeg).toInt d.toInt else zDpr (kf p_.toNatClampNeg).toInt (af p_.toNatClampNeg).toInt hu.toInt d.toInt)))))) from by (obtain ⟨⟨y1, y2, y3⟩, y4, y5⟩ := hkku_6; refine Or.inr ⟨by omega, Or.inr ⟨by omega, Or.inr ⟨by omega, ?_⟩⟩⟩; rw [← y1, ← y2]; (repeat (first | rw [if_pos (by omega)] | rw [if_neg (by omega)])); exact hsr_48_0)), trivial⟩, zRet ht hP hD [0, 1, 2, 3] (by decide) rfl⟩, hS.F ht⟩) hS.2.2 dX7_frees_98
            · have fc_43 : w.toInt = 0 := zf_eq c_43 rfl (by decide)
              refine lv_aload hx hb dX7_frees_57 (lv_at hl 0 rfl) ?_
              refine lv_iload_n hx hb dX7_frees_59 rfl (lv_at hl 3 rfl) ?_
              refine lv_aload_n hx hb dX7_frees_60 rfl (lv_at hl 1 rfl) ?_
              refine va_get (D := D) (ci := 7) (v := .ref j0) (C := RX7) (T := TX7) (N := 9) hx hb hts hi_X7_frees_7 hown hK hP 0 rfl rfl 1 (by decide) (hts (.fieldLink RX7 18 "TheLiningsInIt" "now" "LTheLiningsInIt$Jacket;") (List.mem_of_getElem? (i := 1) rfl)) (fun _ h9 => h9) rfl dX7_frees_61 ?_
              refine va_get (D := D) (ci := 0) (v := .int hu) (C := RX0) (T := TX0) (N := 9) hx hb hts hi_X7_frees_0 hown hK hP 2 rfl rfl 7 (by decide) (hts (.fieldLink RX7 116 "TheLiningsInIt$Jacket" "hurry" "I") (List.mem_of_getElem? (i := 2) rfl)) (fun _ h9 => h9) rfl dX7_frees_64 ?_
              refine zc_V (As := [.int d, .int hu]) (rest := []) ⟨hx, hb, hml, hown, hts⟩ (c_F_Pull_waysAt l D cI cJ cZ cP cS po (d) (hu) u_6 (kiu_6) (au_6) (tu_6) huu_6 ⟨by omega, by omega, by omega, by omega⟩ (by omega) (by omega) hy8 hy9) (cwV 2 hts gX7_frees_X2_waysAt rfl rfl rfl ⟨rfl, dh_X2_waysAt⟩ ⟨Nat.le_of_ble_eq_true rfl, Nat.le_of_ble_eq_true rfl⟩) hK hN (hZ.kept hS) hP zP_nil (va_recv (q := (RX2, TX2, 3)) hK (zPu_P (hZ.kept hS) huu_6) (ci := 2) (q0 := 0) rfl rfl) rfl hl.1 rfl (Nat.le_of_ble_eq_true rfl) dX7_frees_67 ⟨Nat.le_of_ble_eq_true rfl, Nat.le_of_ble_eq_true rfl⟩ (fun r_51 hr_51 => ?_)
              obtain ⟨g_52, g_53, hsr_51_0⟩ := hr_51
              exact W.iret (v := r_51) hx hb hr (fun t ht hW => ⟨⟨r_51, fr, rfl, ⟨(show ((p_.toInt < 0 ∨ cn.toInt ≤ p_.toInt) ∧ (r_51 : Int32).toInt = -1) ∨ ((0 ≤ p_.toInt ∧ p_.toInt < cn.toInt) ∧ (((w.toInt < 0 ∨ 2 < w.toInt) ∧ (r_51 : Int32).toInt = -5) ∨ ((0 ≤ w.toInt ∧ w.toInt ≤ 2) ∧ (((d.toInt < 1 ∨ 24 < d.toInt) ∧ (r_51 : Int32).toInt = -6) ∨ ((1 ≤ d.toInt ∧ d.toInt ≤ 24) ∧ (r_51 : Int32).toInt = (if w.toInt = 0 then zWy (kf p_.toNatClampNeg).toInt (af p_.toNatClampNeg).toInt hu.toInt d.toInt else if w.toInt = 1 then zShl (kf p_.toNatClampNeg).toInt (af p_.toNatClampNeg).toInt d.toInt else zDpr (kf p_.toNatClampNeg).toInt (af p_.toNatClampNeg).toInt hu.toInt d.toInt)))))) from by (obtain ⟨⟨y1, y2, y3⟩, y4, y5⟩ := hkku_6; refine Or.inr ⟨by omega, Or.inr ⟨by omega, Or.inr ⟨by omega, ?_⟩⟩⟩; rw [← y1, ← y2]; (repeat (first | rw [if_pos (by omega)] | rw [if_neg (by omega)])); exact hsr_51_0)), trivial⟩, zRet ht hP hD [0, 1, 2, 3] (by decide) rfl⟩, hS.F ht⟩) hS.2.2 dX7_frees_70
          · exact absurd c_42 (by decide)
      · exact absurd c_27 (by decide)
set_option maxHeartbeats 4000000 in
set_option maxRecDepth 100000 in
theorem c_F_X_freedWeight (l : Launch) (D : va_G) (cI cJ cZ cP cS : ClassId) (po : zPool) (x0 xs j0 k0 w0 rd mv xr : Nat) (im lf : Int32) (fr : Nat → Int32) (j0 jp jc z0 zl zs : Nat) (cn de tr se hu sd : Int32) (h0 e0 : Nat) (he si : Int32) (fe : Nat → Int64) (u0 : Nat) (ki a_ ta : Int32) (hu_u0 : zPu po u0 ki a_ ta) (hr_u0 : zPr ki a_ ta) (hy2 : 0 ≤ im.toInt) (hy3 : im.toInt ≤ 1) (hy4 : (-1) ≤ lf.toInt) (hy5 : lf.toInt ≤ 160) (hy6 : 0 ≤ cn.toInt) (hy7 : cn.toInt ≤ 8) (hy8 : 0 ≤ de.toInt) (hy9 : de.toInt ≤ 24) (hy10 : 0 ≤ hu.toInt) (hy11 : hu.toInt ≤ 9) (hy12 : (-1) ≤ he.toInt) (hy13 : he.toInt ≤ 103) (hy14 : 0 ≤ si.toInt) (hy15 : si.toInt ≤ 160) (hbel : zBel fe) (hy17 : 25 ≤ si.toInt) : Met l yX7_freedWeight wsX7_freedWeight ({ frames := 2, cells := 0, slots := 0, locals := 43 }) (va_Pc [.ref x0, .ref h0, .ref u0] (zR D (zKT cI cJ cZ cP cS) po [(x0, .inr (7, [.ref xs, .ref j0, .ref k0, .ref w0, .ref rd, .ref mv, .ref xr, .int im, .int lf])), (j0, .inr (0, [.ref z0, .ref jp, .ref jc, .int cn, .int de, .int tr, .int se, .int hu, .int sd])), (h0, .inr (4, [.ref e0, .int he, .int si])), (e0, .inl (cJ, 160, .inr (.inl fe)))])) (vp_Si (fun r => 0 ≤ r.toInt ∧ r.toInt ≤ 29700 ∧ (r.toInt = zFd fe ki.toInt a_.toInt hu.toInt 24))) 0 0 (fun _ => False) := by
  refine Met.ofW (cc := cX7_freedWeight) (maxL := 5) (ret := (some .int)) (by decide) rfl ?_
  intro p e s m args below meth c s₁ B hml hv
  obtain ⟨rfl, hP, hK, hN, hZ⟩ := hv
  have hx := B.exec
  have hb := B.bytes
  have hr := B.returns
  have hts := atoms_spec (ws := wsX7_freedWeight) B.pre
  have hown : s.vm.findClass RX7 = some m.cls := findClass_of_methodNamed B.named
  have hlocks := B.notSynchronized
  have hl := lv_entry ([.ref x0, .ref h0, .ref u0]) (n := 5) (Nat.le_of_ble_eq_true rfl)
  rw [lg_entry_eq]
  generalize (lg_sl ([.ref x0, .ref h0, .ref u0]) ++ List.replicate (5 - (lg_sl ([.ref x0, .ref h0, .ref u0])).length) Slot.unset).toArray = ls at hl ⊢
  replace hl : lv_has ls 5 [(0, .ref x0), (1, .ref h0), (2, .ref u0)] := hl
  obtain ⟨⟨p1_u0, p2_u0⟩, ⟨p3_u0, p4_u0⟩, p5_u0, p6_u0⟩ := id hr_u0
  refine lv_aload_n hx hb dX7_freedWeight_0 rfl (lv_at hl 1 rfl) ?_
  refine lv_iconst (v := 0) hx hb dX7_freedWeight_1 (by decide) ?_
  have kc0 : (0 : Int32).toInt = 0 := by decide
  refine zc_V (As := [.int 0]) (rest := []) ⟨hx, hb, hml, hown, hts⟩ (c_F_Sh_tells l D cI cJ cZ cP cS po h0 e0 (he) (si) fe (0) hy12 hy13 hy14 hy15) (cwV 1 hts gX7_freedWeight_X4_tells rfl rfl rfl ⟨rfl, dh_X4_tells⟩ ⟨Nat.le_of_ble_eq_true rfl, Nat.le_of_ble_eq_true rfl⟩) hK hN hZ hP (hP.sub [2, 3] rfl) (va_recv (q := (RX4, TX4, 3)) hK hP (ci := 4) (q0 := 2) rfl rfl) rfl hl.1 rfl (Nat.le_of_ble_eq_true rfl) dX7_freedWeight_2 ⟨Nat.le_of_ble_eq_true rfl, Nat.le_of_ble_eq_true rfl⟩ (fun r_1 hr_1 => ?_)
  have hsr_1_0 := hr_1
  have wr_1 := zTl_b hbel hsr_1_0 (by omega) (by have k0 : (0 : Int32).toInt = 0 := (by decide); omega) (by have k0 : (0 : Int32).toInt = 0 := (by decide); omega)
  refine lv_bipush (v := 12) hx hb dX7_freedWeight_5 (by decide) ?_
  refine lv_imul hx hb dX7_freedWeight_7 ?_
  refine lv_topi (fun x_2 ex_2 => ?_)
  have qx_2 : x_2.toInt = r_1.toInt * 12 := by rw [ex_2]; exact zf_mul rfl (by decide) (by omega) (by omega)
  refine lv_istore_n (lv' := [(3, .int x_2), (0, .ref x0), (1, .ref h0), (2, .ref u0)]) hx hb dX7_freedWeight_8 rfl hl (by decide) rfl (fun ls hl => ?_)
  refine lv_iconst (v := 1) hx hb dX7_freedWeight_9 (by decide) ?_
  refine lv_istore (lv' := [(4, .int 1), (3, .int x_2), (0, .ref x0), (1, .ref h0), (2, .ref u0)]) hx hb dX7_freedWeight_10 hl (by decide) rfl (fun ls hl => ?_)
  obtain ⟨i_12, hi_12⟩ : ∃ i : Int32, i = 1 := ⟨_, rfl⟩
  replace hl : lv_has ls 5 [(4, .int i_12), (3, .int x_2), (0, .ref x0), (1, .ref h0), (2, .ref u0)] := by rw [hi_12]; exact lv_sub hl [0, 1, 2, 3, 4] rfl
  have h1i_12 : i_12.toInt = 1 := by rw [hi_12]; decide
  obtain ⟨nfu, hni_12⟩ : ∃ nq9 : Nat, 25 ≤ i_12.toInt + (nq9 : Int) := ⟨((25 : Int) - 1).toNat, by omega⟩
  have hloi_12 : 1 ≤ i_12.toInt := by omega
  obtain ⟨v_3, hv_3⟩ : ∃ g : Int32, g = x_2 := ⟨_, rfl⟩
  replace hl : lv_has ls 5 [(4, .int i_12), (3, .int v_3), (0, .ref x0), (1, .ref h0), (2, .ref u0)] := by rw [hv_3]; exact hl
  have hbv_3 : 0 ≤ v_3.toInt ∧ v_3.toInt ≤ 29700 := by rw [hv_3]; exact ⟨by omega, by omega⟩
  have hvi_12_0 : (v_3 : Int32).toInt = zFd fe ki.toInt a_.toInt hu.toInt (i_12.toInt - 1).toNat := by
    (try rw [hi_12]); (try rw [hv_3]); (have k1 : (1 : Int32).toInt = 1 := (by decide); rw [show ((1 : Int32).toInt - 1).toNat = 0 from by decide]; show _ = 12 * zTl fe 0; have z := wr_1.1; rw [show ((0 : Int32).toInt) = 0 from by decide] at z; omega)
  have hvi_12_1 : (v_3 : Int32).toInt ≤ 1188 * i_12.toInt ∧ i_12.toInt ≤ 25 := by
    (try rw [hi_12]); (try rw [hv_3]); (have k1 : (1 : Int32).toInt = 1 := (by decide); omega)
  clear h1i_12 hi_12 hv_3
  revert hni_12
  revert hloi_12
  revert hvi_12_1
  revert hvi_12_0
  revert hbv_3
  revert hl
  revert ls
  revert v_3
  revert i_12
  induction nfu with
  | zero =>
    intro i_12 v_3 ls hl hbv_3 hvi_12_0 hvi_12_1 hloi_12 hni_12
    have hzi_12 : 25 ≤ i_12.toInt := by omega
    refine lv_iload hx hb dX7_freedWeight_12 (lv_at hl 0 rfl) ?_
    refine lv_bipush (v := 24) hx hb dX7_freedWeight_14 (by decide) ?_
    refine lv_icmp_gt (tgt := 48) hx hb dX7_freedWeight_16 (by decide) (fun c_4 => ?_) (fun c_4 => ?_)
    · have fc_4 : 24 < i_12.toInt := zf_lt c_4 (by decide) rfl
      refine lv_iload_n hx hb dX7_freedWeight_48 rfl (lv_at hl 1 rfl) ?_
      exact W.iret (v := v_3) hx hb hr (fun t ht hW => ⟨v_3, rfl, ⟨by omega, by omega, (show (v_3 : Int32).toInt = zFd fe ki.toInt a_.toInt hu.toInt 24 from by (have h9 : (i_12.toInt - 1).toNat = 24 := (by omega); have z := hvi_12_0; rw [h9] at z; exact z))⟩, ht⟩) (fun q hq => by cases hq) dX7_freedWeight_49
    · exfalso; have fc_4 : i_12.toInt ≤ 24 := zf_nlt c_4 (by decide) rfl; omega
  | succ nfu ih =>
    intro i_12 v_3 ls hl hbv_3 hvi_12_0 hvi_12_1 hloi_12 hni_12
    refine lv_iload hx hb dX7_freedWeight_12 (lv_at hl 0 rfl) ?_
    refine lv_bipush (v := 24) hx hb dX7_freedWeight_14 (by decide) ?_
    refine lv_icmp_gt (tgt := 48) hx hb dX7_freedWeight_16 (by decide) (fun c_5 => ?_) (fun c_5 => ?_)
    · have fc_5 : 24 < i_12.toInt := zf_lt c_5 (by decide) rfl
      refine lv_iload_n hx hb dX7_freedWeight_48 rfl (lv_at hl 1 rfl) ?_
      exact W.iret (v := v_3) hx hb hr (fun t ht hW => ⟨v_3, rfl, ⟨by omega, by omega, (show (v_3 : Int32).toInt = zFd fe ki.toInt a_.toInt hu.toInt 24 from by (have h9 : (i_12.toInt - 1).toNat = 24 := (by omega); have z := hvi_12_0; rw [h9] at z; exact z))⟩, ht⟩) (fun q hq => by cases hq) dX7_freedWeight_49
    · have fc_5 : i_12.toInt ≤ 24 := zf_nlt c_5 (by decide) rfl
      refine lv_iload_n hx hb dX7_freedWeight_19 rfl (lv_at hl 1 rfl) ?_
      refine lv_aload_n hx hb dX7_freedWeight_20 rfl (lv_at hl 3 rfl) ?_
      refine lv_iload hx hb dX7_freedWeight_21 (lv_at hl 0 rfl) ?_
      refine zc_V (As := [.int i_12]) (rest := [.int v_3]) ⟨hx, hb, hml, hown, hts⟩ (c_F_Sh_tells l D cI cJ cZ cP cS po h0 e0 (he) (si) fe (i_12) hy12 hy13 hy14 hy15) (cwV 1 hts gX7_freedWeight_X4_tells rfl rfl rfl ⟨rfl, dh_X4_tells⟩ ⟨Nat.le_of_ble_eq_true rfl, Nat.le_of_ble_eq_true rfl⟩) hK hN hZ hP (hP.sub [2, 3] rfl) (va_recv (q := (RX4, TX4, 3)) hK hP (ci := 4) (q0 := 2) rfl rfl) rfl hl.1 rfl (Nat.le_of_ble_eq_true rfl) dX7_freedWeight_23 ⟨Nat.le_of_ble_eq_true rfl, Nat.le_of_ble_eq_true rfl⟩ (fun r_6 hr_6 => ?_)
      have hsr_6_0 := hr_6
      have wr_6 := zTl_b hbel hsr_6_0 (by omega) (by have k0 : (0 : Int32).toInt = 0 := (by decide); omega) (by have k0 : (0 : Int32).toInt = 0 := (by decide); omega)
      refine lv_aload_n hx hb dX7_freedWeight_26 rfl (lv_at hl 4 rfl) ?_
      refine lv_iload hx hb dX7_freedWeight_27 (lv_at hl 0 rfl) ?_
      refine lv_aload_n hx hb dX7_freedWeight_29 rfl (lv_at hl 2 rfl) ?_
      refine va_get (D := D) (ci := 7) (v := .ref j0) (C := RX7) (T := TX7) (N := 9) hx hb hts hi_X7_freedWeight_7 hown hK hP 0 rfl rfl 1 (by decide) (hts (.fieldLink RX7 18 "TheLiningsInIt" "now" "LTheLiningsInIt$Jacket;") (List.mem_of_getElem? (i := 1) rfl)) (fun _ h9 => h9) rfl dX7_freedWeight_30 ?_
      refine va_get (D := D) (ci := 0) (v := .int hu) (C := RX0) (T := TX0) (N := 9) hx hb hts hi_X7_freedWeight_0 hown hK hP 1 rfl rfl 7 (by decide) (hts (.fieldLink RX7 116 "TheLiningsInIt$Jacket" "hurry" "I") (List.mem_of_getElem? (i := 2) rfl)) (fun _ h9 => h9) rfl dX7_freedWeight_33 ?_
      refine zc_V (As := [.int i_12, .int hu]) (rest := [.int r_6, .int v_3]) ⟨hx, hb, hml, hown, hts⟩ (c_F_Pull_waysAt l D cI cJ cZ cP cS po (i_12) (hu) u0 (ki) (a_) (ta) hu_u0 ⟨by omega, by omega, by omega, by omega⟩ (by omega) (by omega) hy10 hy11) (cwV 2 hts gX7_freedWeight_X2_waysAt rfl rfl rfl ⟨rfl, dh_X2_waysAt⟩ ⟨Nat.le_of_ble_eq_true rfl, Nat.le_of_ble_eq_true rfl⟩) hK hN hZ hP zP_nil (va_recv (q := (RX2, TX2, 3)) hK (zPu_P hZ hu_u0) (ci := 2) (q0 := 0) rfl rfl) rfl hl.1 rfl (Nat.le_of_ble_eq_true rfl) dX7_freedWeight_36 ⟨Nat.le_of_ble_eq_true rfl, Nat.le_of_ble_eq_true rfl⟩ (fun r_7 hr_7 => ?_)
      obtain ⟨g_8, g_9, hsr_7_0⟩ := hr_7
      refine lv_imul hx hb dX7_freedWeight_39 ?_
      refine lv_topi (fun x_10 ex_10 => ?_)
      obtain ⟨mx_10, nx_10, ox_10⟩ := zf_mulr (a := r_6) (b := r_7) (m := r_6.toInt * r_7.toInt) rfl rfl ⟨by omega, by omega⟩ ⟨by omega, by omega⟩ rfl
      rw [← ex_10] at mx_10
      refine lv_iadd hx hb dX7_freedWeight_40 ?_
      refine lv_topi (fun x_11 ex_11 => ?_)
      have qx_11 : x_11.toInt = v_3.toInt + x_10.toInt := by rw [ex_11]; exact zf_add rfl rfl (by omega) (by omega)
      refine lv_istore_n (lv' := [(3, .int x_11), (4, .int i_12), (0, .ref x0), (1, .ref h0), (2, .ref u0)]) hx hb dX7_freedWeight_41 rfl hl (by decide) rfl (fun ls hl => ?_)
      obtain ⟨x_12, ex_12⟩ : ∃ y : Int32, y = i_12 + 1 := ⟨_, rfl⟩
      have qx_12 : x_12.toInt = i_12.toInt + 1 := by rw [ex_12]; exact zf_add rfl (by decide) (by omega) (by omega)
      refine lv_iinc (v := x_12) (lv' := [(4, .int x_12), (3, .int x_11), (0, .ref x0), (1, .ref h0), (2, .ref u0)]) hx hb dX7_freedWeight_42 hl (k := 1) rfl ex_12.symm (by decide) rfl (fun ls hl => ?_)
      refine lv_goto (tgt := 12) hx hb dX7_freedWeight_45 (by decide) ?_
      exact ih x_12 x_11 _ (lv_sub hl [0, 1, 2, 3, 4] rfl) ⟨by omega, by omega⟩ (show (x_11 : Int32).toInt = zFd fe ki.toInt a_.toInt hu.toInt (x_12.toInt - 1).toNat from by (rw [show (x_12.toInt - 1).toNat = (i_12.toInt - 1).toNat + 1 from by omega, zFd_s, show (((i_12.toInt - 1).toNat : Nat) : Int) + 1 = i_12.toInt from by omega, ← hvi_12_0, ← wr_6.1, ← hsr_7_0]; omega)) (show (x_11 : Int32).toInt ≤ 1188 * x_12.toInt ∧ x_12.toInt ≤ 25 from by exact ⟨by omega, by omega⟩) (dw_lo hloi_12 qx_12) (dw_hn hni_12 qx_12)
set_option maxHeartbeats 4000000 in
set_option maxRecDepth 100000 in
theorem c_F_X_freed (l : Launch) (D : va_G) (cI cJ cZ cP cS : ClassId) (po : zPool) (x0 xs j0 k0 w0 rd mv xr : Nat) (im lf : Int32) (fr : Nat → Int32) (fh : Nat → Option Nat) (s_ : Int32) (h0 e0 : Nat) (he si : Int32) (fe : Nat → Int64) (j0 jp jc z0 zl zs : Nat) (cn de tr se hu sd : Int32) (fp : Nat → Option Nat) (kf af tf : Nat → Int32) (p_ : Int32) (hy0 : 0 ≤ im.toInt) (hy1 : im.toInt ≤ 1) (hy2 : (-1) ≤ lf.toInt) (hy3 : lf.toInt ≤ 160) (hy4 : (-1) ≤ he.toInt) (hy5 : he.toInt ≤ 103) (hy6 : 0 ≤ si.toInt) (hy7 : si.toInt ≤ 160) (hfs : 0 ≤ s_.toInt → s_.toInt ≤ 7 → fh s_.toNatClampNeg = some h0) (hy9 : 0 ≤ cn.toInt) (hy10 : cn.toInt ≤ 8) (hy11 : 0 ≤ de.toInt) (hy12 : de.toInt ≤ 24) (hy13 : 0 ≤ hu.toInt) (hy14 : hu.toInt ≤ 9) (hjp : zJP po fp cn kf af tf) (hpz : Nat) : Met l yX7_freed wsX7_freed ({ frames := 4, cells := 0, slots := 0, locals := 88 }) (va_Pc [.ref x0, .int s_, .int p_] (zW D (zKT cI cJ cZ cP cS) po [(x0, .inr (7, [.ref xs, .ref j0, .ref k0, .ref w0, .ref rd, .ref mv, .ref xr, .int im, .int lf])), (xr, .inl (cI, 8, .inl fr)), (xs, .inl (cS, 8, .inr (.inr (.inr (.inr fh))))), (h0, .inr (4, [.ref e0, .int he, .int si])), (e0, .inl (cJ, 160, .inr (.inl fe))), (j0, .inr (0, [.ref z0, .ref jp, .ref jc, .int cn, .int de, .int tr, .int se, .int hu, .int sd])), (jp, .inl (cP, 8, .inr (.inr (.inr (.inr fp)))))] hpz)) (va_Qi (fun (r : Int32) (fr2 : (Nat → Int32)) => (((s_.toInt < 0 ∨ 7 < s_.toInt ∨ p_.toInt < 0 ∨ cn.toInt ≤ p_.toInt) ∧ r.toInt = -1) ∨ ((0 ≤ s_.toInt ∧ s_.toInt ≤ 7) ∧ (0 ≤ p_.toInt ∧ p_.toInt < cn.toInt) ∧ ∃ q : Int, zBelR he.toInt si.toInt fe q ∧ ((q ≠ 0 ∧ r.toInt = -q) ∨ (q = 0 ∧ r.toInt = zFd fe (kf p_.toNatClampNeg).toInt (af p_.toNatClampNeg).toInt hu.toInt 24)))) ∧ (True)) (zB D [(x0, .inr (7, [.ref xs, .ref j0, .ref k0, .ref w0, .ref rd, .ref mv, .ref xr, .int im, .int lf])), (xr, .inl (cI, 8, .inl fr)), (xs, .inl (cS, 8, .inr (.inr (.inr (.inr fh))))), (h0, .inr (4, [.ref e0, .int he, .int si])), (e0, .inl (cJ, 160, .inr (.inl fe))), (j0, .inr (0, [.ref z0, .ref jp, .ref jc, .int cn, .int de, .int tr, .int se, .int hu, .int sd])), (jp, .inl (cP, 8, .inr (.inr (.inr (.inr fp)))))] hpz (fun (fr2 : Nat → Int32) => [(x0, .inr (7, [.ref xs, .ref j0, .ref k0, .ref w0, .ref rd, .ref mv, .ref xr, .int im, .int lf])), (xr, .inl (cI, 8, .inl fr2)), (xs, .inl (cS, 8, .inr (.inr (.inr (.inr fh))))), (h0, .inr (4, [.ref e0, .int he, .int si])), (e0, .inl (cJ, 160, .inr (.inl fe))), (j0, .inr (0, [.ref z0, .ref jp, .ref jc, .int cn, .int de, .int tr, .int se, .int hu, .int sd])), (jp, .inl (cP, 8, .inr (.inr (.inr (.inr fp)))))])) (va_A [(x0, .inr (7, [.ref xs, .ref j0, .ref k0, .ref w0, .ref rd, .ref mv, .ref xr, .int im, .int lf])), (xr, .inl (cI, 8, .inl fr)), (xs, .inl (cS, 8, .inr (.inr (.inr (.inr fh))))), (h0, .inr (4, [.ref e0, .int he, .int si])), (e0, .inl (cJ, 160, .inr (.inl fe))), (j0, .inr (0, [.ref z0, .ref jp, .ref jc, .int cn, .int de, .int tr, .int se, .int hu, .int sd])), (jp, .inl (cP, 8, .inr (.inr (.inr (.inr fp)))))] hpz)) 0 0 (va_A [(x0, .inr (7, [.ref xs, .ref j0, .ref k0, .ref w0, .ref rd, .ref mv, .ref xr, .int im, .int lf])), (xr, .inl (cI, 8, .inl fr)), (xs, .inl (cS, 8, .inr (.inr (.inr (.inr fh))))), (h0, .inr (4, [.ref e0, .int he, .int si])), (e0, .inl (cJ, 160, .inr (.inl fe))), (j0, .inr (0, [.ref z0, .ref jp, .ref jc, .int cn, .int de, .int tr, .int se, .int hu, .int sd])), (jp, .inl (cP, 8, .inr (.inr (.inr (.inr fp)))))] hpz) := by
  refine Met.ofW (cc := cX7_freed) (maxL := 6) (ret := (some .int)) (by decide) rfl ?_
  intro p e s m args below meth c s₁ B hml hv
  obtain ⟨rfl, hsz, hP, hK, hD0, hN, hZ⟩ := hv
  have hx := B.exec
  have hb := B.bytes
  have hr := B.returns
  have hts := atoms_spec (ws := wsX7_freed) B.pre
  have hown : s.vm.findClass RX7 = some m.cls := findClass_of_methodNamed B.named
  have hlocks := B.notSynchronized
  subst hsz
  have hD := hD0.self (sz := s.heap.size)
  have hA := zA_of hD
  have hl := lv_entry ([.ref x0, .int s_, .int p_]) (n := 6) (Nat.le_of_ble_eq_true rfl)
  rw [lg_entry_eq]
  generalize (lg_sl ([.ref x0, .int s_, .int p_]) ++ List.replicate (6 - (lg_sl ([.ref x0, .int s_, .int p_])).length) Slot.unset).toArray = ls at hl ⊢
  replace hl : lv_has ls 6 [(0, .ref x0), (1, .int s_), (2, .int p_)] := hl
  refine zw_begin hP hD (fun H locs hP1 hS => ?_)
  clear hP
  have hP := hP1
  clear hP1
  refine lv_aload_n hx hb dX7_freed_0 rfl (lv_at hl 0 rfl) ?_
  refine lv_iload_n hx hb dX7_freed_1 rfl (lv_at hl 1 rfl) ?_
  refine zc_Vq (As := [.int s_]) (rest := []) ⟨hx, hb, hml, hown, hts⟩ (c_X_shelfAt l D cI cJ cZ cP cS po x0 xs j0 k0 w0 rd mv xr (im) (lf) ((fun _ => 0)) fh (s_) hy0 hy1 hy2 hy3) (cwV 1 hts gX7_freed_X7_shelfAt rfl rfl rfl ⟨rfl, dh_X7_shelfAt⟩ ⟨Nat.le_of_ble_eq_true rfl, Nat.le_of_ble_eq_true rfl⟩) hK hN (hZ.kept hS) hP (hP.sub [0, 2] rfl) (va_recv (q := (RX7, TX7, 9)) hK hP (ci := 7) (q0 := 0) rfl rfl) rfl hl.1 rfl (Nat.le_of_ble_eq_true rfl) dX7_freed_2 ⟨Nat.le_of_ble_eq_true rfl, Nat.le_of_ble_eq_true rfl⟩ (fun r_1 hr_1 => ?_)
  rcases hr_1 with ⟨rfl, g_2⟩ | ⟨rfl, g_3, g_4⟩ | ⟨rfl, g_5, g_6⟩
  · refine lv_astore_nN (lv' := [(3, .null), (0, .ref x0), (1, .int s_), (2, .int p_)]) hx hb dX7_freed_5 rfl hl (by decide) rfl (fun ls hl => ?_)
    refine lv_aload_n hx hb dX7_freed_6 rfl (lv_at hl 1 rfl) ?_
    refine va_get (D := D) (ci := 7) (v := .ref j0) (C := RX7) (T := TX7) (N := 9) hx hb hts hi_X7_freed_7 hown hK hP 0 rfl rfl 1 (by decide) (hts (.fieldLink RX7 18 "TheLiningsInIt" "now" "LTheLiningsInIt$Jacket;") (List.mem_of_getElem? (i := 1) rfl)) (fun _ h9 => h9) rfl dX7_freed_7 ?_
    refine lv_iload_n hx hb dX7_freed_10 rfl (lv_at hl 3 rfl) ?_
    refine zc_Vq (As := [.int p_]) (rest := []) ⟨hx, hb, hml, hown, hts⟩ (c_F_J_pullAt l D cI cJ cZ cP cS po j0 jp jc z0 0 0 (cn) (de) (tr) (se) (hu) (sd) fp kf af tf (p_) hy9 hy10 hy11 hy12 hy13 hy14 hjp) (cwV 1 hts gX7_freed_X0_pullAt rfl rfl rfl ⟨rfl, dh_X0_pullAt⟩ ⟨Nat.le_of_ble_eq_true rfl, Nat.le_of_ble_eq_true rfl⟩) hK hN (hZ.kept hS) hP (hP.sub [5, 6] rfl) (va_recv (q := (RX0, TX0, 9)) hK hP (ci := 0) (q0 := 5) rfl rfl) rfl hl.1 rfl (Nat.le_of_ble_eq_true rfl) dX7_freed_11 ⟨Nat.le_of_ble_eq_true rfl, Nat.le_of_ble_eq_true rfl⟩ (fun r_7 hr_7 => ?_)
    rcases hr_7 with ⟨rfl, g_8⟩ | ⟨rfl, g_9, g_10⟩ | ⟨⟨u_12, kiu_12, au_12, tu_12, rfl, huu_12, hkku_12⟩, g_11⟩
    · refine lv_astoreN (lv' := [(4, .null), (3, .null), (0, .ref x0), (1, .int s_), (2, .int p_)]) hx hb dX7_freed_14 hl (by decide) rfl (fun ls hl => ?_)
      refine lv_aload_nN hx hb dX7_freed_16 rfl (lv_at hl 1 rfl) ?_
      refine lv_ifnullN (tgt := 25) hx hb dX7_freed_17 (by decide) ?_
      refine lv_aload_n hx hb dX7_freed_25 rfl (lv_at hl 2 rfl) ?_
      refine lv_iconst (v := 1) hx hb dX7_freed_26 (by decide) ?_
      skip
      refine zw_V (As := [.int 1]) (rest := []) (wr := [(xs, .inl (cS, 8, .inr (.inr (.inr (.inr fh))))), (h0, .inr (4, [.ref e0, .int he, .int si])), (e0, .inl (cJ, 160, .inr (.inl fe))), (j0, .inr (0, [.ref z0, .ref jp, .ref jc, .int cn, .int de, .int tr, .int se, .int hu, .int sd])), (jp, .inl (cP, 8, .inr (.inr (.inr (.inr fp)))))]) ⟨hx, hb, hml, hown, hts⟩ (c_X_refuse_1 l D cI cJ cZ cP cS po x0 xs j0 k0 w0 rd mv xr (im) (lf) fr hy0 hy1 hy2 hy3 H.size) (cwV 1 hts gX7_freed_X7_refuse rfl rfl rfl ⟨rfl, dh_X7_refuse⟩ ⟨Nat.le_of_ble_eq_true rfl, Nat.le_of_ble_eq_true rfl⟩) hK hN (hZ.kept hS) hP hD hS hA [0, 1] [2, 3, 4, 5, 6] rfl rfl (by decide) (by decide) (by decide) (va_recv (q := (RX7, TX7, 9)) hK hP (ci := 7) (q0 := 0) rfl rfl) rfl hl.1 rfl (Nat.le_of_ble_eq_true rfl) dX7_freed_27 ⟨Nat.le_of_ble_eq_true rfl, Nat.le_of_ble_eq_true rfl⟩ (fun r_13 u_14 H locs hr_13 hP hD hS => ?_)
      obtain ⟨q_15, rfl⟩ : ∃ z, z = u_14 := ⟨_, rfl⟩
      have h9R := zRe (ws' := [(xs, .inl (cS, 8, .inr (.inr (.inr (.inr fh))))), (h0, .inr (4, [.ref e0, .int he, .int si])), (e0, .inl (cJ, 160, .inr (.inl fe))), (j0, .inr (0, [.ref z0, .ref jp, .ref jc, .int cn, .int de, .int tr, .int se, .int hu, .int sd])), (jp, .inl (cP, 8, .inr (.inr (.inr (.inr fp))))), (x0, .inr (7, [.ref xs, .ref j0, .ref k0, .ref w0, .ref rd, .ref mv, .ref xr, .int im, .int lf])), (xr, .inl (cI, 8, .inl q_15))]) hP hD rfl
      clear hP hD
      obtain ⟨hP, hD⟩ := h9R
      obtain rfl := hr_13
      exact W.iret (v := (-1)) hx hb hr (fun t ht hW => ⟨⟨(-1), q_15, rfl, ⟨(show ((s_.toInt < 0 ∨ 7 < s_.toInt ∨ p_.toInt < 0 ∨ cn.toInt ≤ p_.toInt) ∧ ((-1) : Int32).toInt = -1) ∨ ((0 ≤ s_.toInt ∧ s_.toInt ≤ 7) ∧ (0 ≤ p_.toInt ∧ p_.toInt < cn.toInt) ∧ ∃ q : Int, zBelR he.toInt si.toInt fe q ∧ ((q ≠ 0 ∧ ((-1) : Int32).toInt = -q) ∨ (q = 0 ∧ ((-1) : Int32).toInt = zFd fe (kf p_.toNatClampNeg).toInt (af p_.toNatClampNeg).toInt hu.toInt 24))) from by (have k1m : ((-1) : Int32).toInt = -1 := (by decide); exact Or.inl (by omega))), trivial⟩, zRet ht hP hD [5, 6, 0, 1, 2, 3, 4] (by decide) rfl⟩, hS.F ht⟩) hS.2.2 dX7_freed_30
    · refine lv_astoreN (lv' := [(4, .null), (3, .null), (0, .ref x0), (1, .int s_), (2, .int p_)]) hx hb dX7_freed_14 hl (by decide) rfl (fun ls hl => ?_)
      refine lv_aload_nN hx hb dX7_freed_16 rfl (lv_at hl 1 rfl) ?_
      refine lv_ifnullN (tgt := 25) hx hb dX7_freed_17 (by decide) ?_
      refine lv_aload_n hx hb dX7_freed_25 rfl (lv_at hl 2 rfl) ?_
      refine lv_iconst (v := 1) hx hb dX7_freed_26 (by decide) ?_
      skip
      refine zw_V (As := [.int 1]) (rest := []) (wr := [(xs, .inl (cS, 8, .inr (.inr (.inr (.inr fh))))), (h0, .inr (4, [.ref e0, .int he, .int si])), (e0, .inl (cJ, 160, .inr (.inl fe))), (j0, .inr (0, [.ref z0, .ref jp, .ref jc, .int cn, .int de, .int tr, .int se, .int hu, .int sd])), (jp, .inl (cP, 8, .inr (.inr (.inr (.inr fp)))))]) ⟨hx, hb, hml, hown, hts⟩ (c_X_refuse_1 l D cI cJ cZ cP cS po x0 xs j0 k0 w0 rd mv xr (im) (lf) fr hy0 hy1 hy2 hy3 H.size) (cwV 1 hts gX7_freed_X7_refuse rfl rfl rfl ⟨rfl, dh_X7_refuse⟩ ⟨Nat.le_of_ble_eq_true rfl, Nat.le_of_ble_eq_true rfl⟩) hK hN (hZ.kept hS) hP hD hS hA [0, 1] [2, 3, 4, 5, 6] rfl rfl (by decide) (by decide) (by decide) (va_recv (q := (RX7, TX7, 9)) hK hP (ci := 7) (q0 := 0) rfl rfl) rfl hl.1 rfl (Nat.le_of_ble_eq_true rfl) dX7_freed_27 ⟨Nat.le_of_ble_eq_true rfl, Nat.le_of_ble_eq_true rfl⟩ (fun r_16 u_17 H locs hr_16 hP hD hS => ?_)
      obtain ⟨q_18, rfl⟩ : ∃ z, z = u_17 := ⟨_, rfl⟩
      have h9R := zRe (ws' := [(xs, .inl (cS, 8, .inr (.inr (.inr (.inr fh))))), (h0, .inr (4, [.ref e0, .int he, .int si])), (e0, .inl (cJ, 160, .inr (.inl fe))), (j0, .inr (0, [.ref z0, .ref jp, .ref jc, .int cn, .int de, .int tr, .int se, .int hu, .int sd])), (jp, .inl (cP, 8, .inr (.inr (.inr (.inr fp))))), (x0, .inr (7, [.ref xs, .ref j0, .ref k0, .ref w0, .ref rd, .ref mv, .ref xr, .int im, .int lf])), (xr, .inl (cI, 8, .inl q_18))]) hP hD rfl
      clear hP hD
      obtain ⟨hP, hD⟩ := h9R
      obtain rfl := hr_16
      exact W.iret (v := (-1)) hx hb hr (fun t ht hW => ⟨⟨(-1), q_18, rfl, ⟨(show ((s_.toInt < 0 ∨ 7 < s_.toInt ∨ p_.toInt < 0 ∨ cn.toInt ≤ p_.toInt) ∧ ((-1) : Int32).toInt = -1) ∨ ((0 ≤ s_.toInt ∧ s_.toInt ≤ 7) ∧ (0 ≤ p_.toInt ∧ p_.toInt < cn.toInt) ∧ ∃ q : Int, zBelR he.toInt si.toInt fe q ∧ ((q ≠ 0 ∧ ((-1) : Int32).toInt = -q) ∨ (q = 0 ∧ ((-1) : Int32).toInt = zFd fe (kf p_.toNatClampNeg).toInt (af p_.toNatClampNeg).toInt hu.toInt 24))) from by (have k1m : ((-1) : Int32).toInt = -1 := (by decide); exact Or.inl (by omega))), trivial⟩, zRet ht hP hD [5, 6, 0, 1, 2, 3, 4] (by decide) rfl⟩, hS.F ht⟩) hS.2.2 dX7_freed_30
    · refine W.eq (g2 := F0 m 14 ls (.ref u_12 :: [])) rfl ?_
      obtain ⟨hku_12, hau_12, htu_12⟩ := zPu_pr (hZ.kept hS) huu_12
      refine lv_astore (lv' := [(4, .ref u_12), (3, .null), (0, .ref x0), (1, .int s_), (2, .int p_)]) hx hb dX7_freed_14 hl (by decide) rfl (fun ls hl => ?_)
      refine lv_aload_nN hx hb dX7_freed_16 rfl (lv_at hl 1 rfl) ?_
      refine lv_ifnullN (tgt := 25) hx hb dX7_freed_17 (by decide) ?_
      refine lv_aload_n hx hb dX7_freed_25 rfl (lv_at hl 2 rfl) ?_
      refine lv_iconst (v := 1) hx hb dX7_freed_26 (by decide) ?_
      skip
      refine zw_V (As := [.int 1]) (rest := []) (wr := [(xs, .inl (cS, 8, .inr (.inr (.inr (.inr fh))))), (h0, .inr (4, [.ref e0, .int he, .int si])), (e0, .inl (cJ, 160, .inr (.inl fe))), (j0, .inr (0, [.ref z0, .ref jp, .ref jc, .int cn, .int de, .int tr, .int se, .int hu, .int sd])), (jp, .inl (cP, 8, .inr (.inr (.inr (.inr fp)))))]) ⟨hx, hb, hml, hown, hts⟩ (c_X_refuse_1 l D cI cJ cZ cP cS po x0 xs j0 k0 w0 rd mv xr (im) (lf) fr hy0 hy1 hy2 hy3 H.size) (cwV 1 hts gX7_freed_X7_refuse rfl rfl rfl ⟨rfl, dh_X7_refuse⟩ ⟨Nat.le_of_ble_eq_true rfl, Nat.le_of_ble_eq_true rfl⟩) hK hN (hZ.kept hS) hP hD hS hA [0, 1] [2, 3, 4, 5, 6] rfl rfl (by decide) (by decide) (by decide) (va_recv (q := (RX7, TX7, 9)) hK hP (ci := 7) (q0 := 0) rfl rfl) rfl hl.1 rfl (Nat.le_of_ble_eq_true rfl) dX7_freed_27 ⟨Nat.le_of_ble_eq_true rfl, Nat.le_of_ble_eq_true rfl⟩ (fun r_19 u_20 H locs hr_19 hP hD hS => ?_)
      obtain ⟨q_21, rfl⟩ : ∃ z, z = u_20 := ⟨_, rfl⟩
      have h9R := zRe (ws' := [(xs, .inl (cS, 8, .inr (.inr (.inr (.inr fh))))), (h0, .inr (4, [.ref e0, .int he, .int si])), (e0, .inl (cJ, 160, .inr (.inl fe))), (j0, .inr (0, [.ref z0, .ref jp, .ref jc, .int cn, .int de, .int tr, .int se, .int hu, .int sd])), (jp, .inl (cP, 8, .inr (.inr (.inr (.inr fp))))), (x0, .inr (7, [.ref xs, .ref j0, .ref k0, .ref w0, .ref rd, .ref mv, .ref xr, .int im, .int lf])), (xr, .inl (cI, 8, .inl q_21))]) hP hD rfl
      clear hP hD
      obtain ⟨hP, hD⟩ := h9R
      obtain rfl := hr_19
      exact W.iret (v := (-1)) hx hb hr (fun t ht hW => ⟨⟨(-1), q_21, rfl, ⟨(show ((s_.toInt < 0 ∨ 7 < s_.toInt ∨ p_.toInt < 0 ∨ cn.toInt ≤ p_.toInt) ∧ ((-1) : Int32).toInt = -1) ∨ ((0 ≤ s_.toInt ∧ s_.toInt ≤ 7) ∧ (0 ≤ p_.toInt ∧ p_.toInt < cn.toInt) ∧ ∃ q : Int, zBelR he.toInt si.toInt fe q ∧ ((q ≠ 0 ∧ ((-1) : Int32).toInt = -q) ∨ (q = 0 ∧ ((-1) : Int32).toInt = zFd fe (kf p_.toNatClampNeg).toInt (af p_.toNatClampNeg).toInt hu.toInt 24))) from by (obtain ⟨-, y4, y5⟩ := hkku_12; have k1m : ((-1) : Int32).toInt = -1 := (by decide); exact Or.inl (by omega))), trivial⟩, zRet ht hP hD [5, 6, 0, 1, 2, 3, 4] (by decide) rfl⟩, hS.F ht⟩) hS.2.2 dX7_freed_30
  · refine lv_astore_nN (lv' := [(3, .null), (0, .ref x0), (1, .int s_), (2, .int p_)]) hx hb dX7_freed_5 rfl hl (by decide) rfl (fun ls hl => ?_)
    refine lv_aload_n hx hb dX7_freed_6 rfl (lv_at hl 1 rfl) ?_
    refine va_get (D := D) (ci := 7) (v := .ref j0) (C := RX7) (T := TX7) (N := 9) hx hb hts hi_X7_freed_7 hown hK hP 0 rfl rfl 1 (by decide) (hts (.fieldLink RX7 18 "TheLiningsInIt" "now" "LTheLiningsInIt$Jacket;") (List.mem_of_getElem? (i := 1) rfl)) (fun _ h9 => h9) rfl dX7_freed_7 ?_
    refine lv_iload_n hx hb dX7_freed_10 rfl (lv_at hl 3 rfl) ?_
    refine zc_Vq (As := [.int p_]) (rest := []) ⟨hx, hb, hml, hown, hts⟩ (c_F_J_pullAt l D cI cJ cZ cP cS po j0 jp jc z0 0 0 (cn) (de) (tr) (se) (hu) (sd) fp kf af tf (p_) hy9 hy10 hy11 hy12 hy13 hy14 hjp) (cwV 1 hts gX7_freed_X0_pullAt rfl rfl rfl ⟨rfl, dh_X0_pullAt⟩ ⟨Nat.le_of_ble_eq_true rfl, Nat.le_of_ble_eq_true rfl⟩) hK hN (hZ.kept hS) hP (hP.sub [5, 6] rfl) (va_recv (q := (RX0, TX0, 9)) hK hP (ci := 0) (q0 := 5) rfl rfl) rfl hl.1 rfl (Nat.le_of_ble_eq_true rfl) dX7_freed_11 ⟨Nat.le_of_ble_eq_true rfl, Nat.le_of_ble_eq_true rfl⟩ (fun r_22 hr_22 => ?_)
    rcases hr_22 with ⟨rfl, g_23⟩ | ⟨rfl, g_24, g_25⟩ | ⟨⟨u_27, kiu_27, au_27, tu_27, rfl, huu_27, hkku_27⟩, g_26⟩
    · refine lv_astoreN (lv' := [(4, .null), (3, .null), (0, .ref x0), (1, .int s_), (2, .int p_)]) hx hb dX7_freed_14 hl (by decide) rfl (fun ls hl => ?_)
      refine lv_aload_nN hx hb dX7_freed_16 rfl (lv_at hl 1 rfl) ?_
      refine lv_ifnullN (tgt := 25) hx hb dX7_freed_17 (by decide) ?_
      refine lv_aload_n hx hb dX7_freed_25 rfl (lv_at hl 2 rfl) ?_
      refine lv_iconst (v := 1) hx hb dX7_freed_26 (by decide) ?_
      skip
      refine zw_V (As := [.int 1]) (rest := []) (wr := [(xs, .inl (cS, 8, .inr (.inr (.inr (.inr fh))))), (h0, .inr (4, [.ref e0, .int he, .int si])), (e0, .inl (cJ, 160, .inr (.inl fe))), (j0, .inr (0, [.ref z0, .ref jp, .ref jc, .int cn, .int de, .int tr, .int se, .int hu, .int sd])), (jp, .inl (cP, 8, .inr (.inr (.inr (.inr fp)))))]) ⟨hx, hb, hml, hown, hts⟩ (c_X_refuse_1 l D cI cJ cZ cP cS po x0 xs j0 k0 w0 rd mv xr (im) (lf) fr hy0 hy1 hy2 hy3 H.size) (cwV 1 hts gX7_freed_X7_refuse rfl rfl rfl ⟨rfl, dh_X7_refuse⟩ ⟨Nat.le_of_ble_eq_true rfl, Nat.le_of_ble_eq_true rfl⟩) hK hN (hZ.kept hS) hP hD hS hA [0, 1] [2, 3, 4, 5, 6] rfl rfl (by decide) (by decide) (by decide) (va_recv (q := (RX7, TX7, 9)) hK hP (ci := 7) (q0 := 0) rfl rfl) rfl hl.1 rfl (Nat.le_of_ble_eq_true rfl) dX7_freed_27 ⟨Nat.le_of_ble_eq_true rfl, Nat.le_of_ble_eq_true rfl⟩ (fun r_28 u_29 H locs hr_28 hP hD hS => ?_)
      obtain ⟨q_30, rfl⟩ : ∃ z, z = u_29 := ⟨_, rfl⟩
      have h9R := zRe (ws' := [(xs, .inl (cS, 8, .inr (.inr (.inr (.inr fh))))), (h0, .inr (4, [.ref e0, .int he, .int si])), (e0, .inl (cJ, 160, .inr (.inl fe))), (j0, .inr (0, [.ref z0, .ref jp, .ref jc, .int cn, .int de, .int tr, .int se, .int hu, .int sd])), (jp, .inl (cP, 8, .inr (.inr (.inr (.inr fp))))), (x0, .inr (7, [.ref xs, .ref j0, .ref k0, .ref w0, .ref rd, .ref mv, .ref xr, .int im, .int lf])), (xr, .inl (cI, 8, .inl q_30))]) hP hD rfl
      clear hP hD
      obtain ⟨hP, hD⟩ := h9R
      obtain rfl := hr_28
      exact W.iret (v := (-1)) hx hb hr (fun t ht hW => ⟨⟨(-1), q_30, rfl, ⟨(show ((s_.toInt < 0 ∨ 7 < s_.toInt ∨ p_.toInt < 0 ∨ cn.toInt ≤ p_.toInt) ∧ ((-1) : Int32).toInt = -1) ∨ ((0 ≤ s_.toInt ∧ s_.toInt ≤ 7) ∧ (0 ≤ p_.toInt ∧ p_.toInt < cn.toInt) ∧ ∃ q : Int, zBelR he.toInt si.toInt fe q ∧ ((q ≠ 0 ∧ ((-1) : Int32).toInt = -q) ∨ (q = 0 ∧ ((-1) : Int32).toInt = zFd fe (kf p_.toNatClampNeg).toInt (af p_.toNatClampNeg).toInt hu.toInt 24))) from by (have k1m : ((-1) : Int32).toInt = -1 := (by decide); exact Or.inl (by omega))), trivial⟩, zRet ht hP hD [5, 6, 0, 1, 2, 3, 4] (by decide) rfl⟩, hS.F ht⟩) hS.2.2 dX7_freed_30
    · refine lv_astoreN (lv' := [(4, .null), (3, .null), (0, .ref x0), (1, .int s_), (2, .int p_)]) hx hb dX7_freed_14 hl (by decide) rfl (fun ls hl => ?_)
      refine lv_aload_nN hx hb dX7_freed_16 rfl (lv_at hl 1 rfl) ?_
      refine lv_ifnullN (tgt := 25) hx hb dX7_freed_17 (by decide) ?_
      refine lv_aload_n hx hb dX7_freed_25 rfl (lv_at hl 2 rfl) ?_
      refine lv_iconst (v := 1) hx hb dX7_freed_26 (by decide) ?_
      skip
      refine zw_V (As := [.int 1]) (rest := []) (wr := [(xs, .inl (cS, 8, .inr (.inr (.inr (.inr fh))))), (h0, .inr (4, [.ref e0, .int he, .int si])), (e0, .inl (cJ, 160, .inr (.inl fe))), (j0, .inr (0, [.ref z0, .ref jp, .ref jc, .int cn, .int de, .int tr, .int se, .int hu, .int sd])), (jp, .inl (cP, 8, .inr (.inr (.inr (.inr fp)))))]) ⟨hx, hb, hml, hown, hts⟩ (c_X_refuse_1 l D cI cJ cZ cP cS po x0 xs j0 k0 w0 rd mv xr (im) (lf) fr hy0 hy1 hy2 hy3 H.size) (cwV 1 hts gX7_freed_X7_refuse rfl rfl rfl ⟨rfl, dh_X7_refuse⟩ ⟨Nat.le_of_ble_eq_true rfl, Nat.le_of_ble_eq_true rfl⟩) hK hN (hZ.kept hS) hP hD hS hA [0, 1] [2, 3, 4, 5, 6] rfl rfl (by decide) (by decide) (by decide) (va_recv (q := (RX7, TX7, 9)) hK hP (ci := 7) (q0 := 0) rfl rfl) rfl hl.1 rfl (Nat.le_of_ble_eq_true rfl) dX7_freed_27 ⟨Nat.le_of_ble_eq_true rfl, Nat.le_of_ble_eq_true rfl⟩ (fun r_31 u_32 H locs hr_31 hP hD hS => ?_)
      obtain ⟨q_33, rfl⟩ : ∃ z, z = u_32 := ⟨_, rfl⟩
      have h9R := zRe (ws' := [(xs, .inl (cS, 8, .inr (.inr (.inr (.inr fh))))), (h0, .inr (4, [.ref e0, .int he, .int si])), (e0, .inl (cJ, 160, .inr (.inl fe))), (j0, .inr (0, [.ref z0, .ref jp, .ref jc, .int cn, .int de, .int tr, .int se, .int hu, .int sd])), (jp, .inl (cP, 8, .inr (.inr (.inr (.inr fp))))), (x0, .inr (7, [.ref xs, .ref j0, .ref k0, .ref w0, .ref rd, .ref mv, .ref xr, .int im, .int lf])), (xr, .inl (cI, 8, .inl q_33))]) hP hD rfl
      clear hP hD
      obtain ⟨hP, hD⟩ := h9R
      obtain rfl := hr_31
      exact W.iret (v := (-1)) hx hb hr (fun t ht hW => ⟨⟨(-1), q_33, rfl, ⟨(show ((s_.toInt < 0 ∨ 7 < s_.toInt ∨ p_.toInt < 0 ∨ cn.toInt ≤ p_.toInt) ∧ ((-1) : Int32).toInt = -1) ∨ ((0 ≤ s_.toInt ∧ s_.toInt ≤ 7) ∧ (0 ≤ p_.toInt ∧ p_.toInt < cn.toInt) ∧ ∃ q : Int, zBelR he.toInt si.toInt fe q ∧ ((q ≠ 0 ∧ ((-1) : Int32).toInt = -q) ∨ (q = 0 ∧ ((-1) : Int32).toInt = zFd fe (kf p_.toNatClampNeg).toInt (af p_.toNatClampNeg).toInt hu.toInt 24))) from by (have k1m : ((-1) : Int32).toInt = -1 := (by decide); exact Or.inl (by omega))), trivial⟩, zRet ht hP hD [5, 6, 0, 1, 2, 3, 4] (by decide) rfl⟩, hS.F ht⟩) hS.2.2 dX7_freed_30
    · refine W.eq (g2 := F0 m 14 ls (.ref u_27 :: [])) rfl ?_
      obtain ⟨hku_27, hau_27, htu_27⟩ := zPu_pr (hZ.kept hS) huu_27
      refine lv_astore (lv' := [(4, .ref u_27), (3, .null), (0, .ref x0), (1, .int s_), (2, .int p_)]) hx hb dX7_freed_14 hl (by decide) rfl (fun ls hl => ?_)
      refine lv_aload_nN hx hb dX7_freed_16 rfl (lv_at hl 1 rfl) ?_
      refine lv_ifnullN (tgt := 25) hx hb dX7_freed_17 (by decide) ?_
      refine lv_aload_n hx hb dX7_freed_25 rfl (lv_at hl 2 rfl) ?_
      refine lv_iconst (v := 1) hx hb dX7_freed_26 (by decide) ?_
      skip
      refine zw_V (As := [.int 1]) (rest := []) (wr := [(xs, .inl (cS, 8, .inr (.inr (.inr (.inr fh))))), (h0, .inr (4, [.ref e0, .int he, .int si])), (e0, .inl (cJ, 160, .inr (.inl fe))), (j0, .inr (0, [.ref z0, .ref jp, .ref jc, .int cn, .int de, .int tr, .int se, .int hu, .int sd])), (jp, .inl (cP, 8, .inr (.inr (.inr (.inr fp)))))]) ⟨hx, hb, hml, hown, hts⟩ (c_X_refuse_1 l D cI cJ cZ cP cS po x0 xs j0 k0 w0 rd mv xr (im) (lf) fr hy0 hy1 hy2 hy3 H.size) (cwV 1 hts gX7_freed_X7_refuse rfl rfl rfl ⟨rfl, dh_X7_refuse⟩ ⟨Nat.le_of_ble_eq_true rfl, Nat.le_of_ble_eq_true rfl⟩) hK hN (hZ.kept hS) hP hD hS hA [0, 1] [2, 3, 4, 5, 6] rfl rfl (by decide) (by decide) (by decide) (va_recv (q := (RX7, TX7, 9)) hK hP (ci := 7) (q0 := 0) rfl rfl) rfl hl.1 rfl (Nat.le_of_ble_eq_true rfl) dX7_freed_27 ⟨Nat.le_of_ble_eq_true rfl, Nat.le_of_ble_eq_true rfl⟩ (fun r_34 u_35 H locs hr_34 hP hD hS => ?_)
      obtain ⟨q_36, rfl⟩ : ∃ z, z = u_35 := ⟨_, rfl⟩
      have h9R := zRe (ws' := [(xs, .inl (cS, 8, .inr (.inr (.inr (.inr fh))))), (h0, .inr (4, [.ref e0, .int he, .int si])), (e0, .inl (cJ, 160, .inr (.inl fe))), (j0, .inr (0, [.ref z0, .ref jp, .ref jc, .int cn, .int de, .int tr, .int se, .int hu, .int sd])), (jp, .inl (cP, 8, .inr (.inr (.inr (.inr fp))))), (x0, .inr (7, [.ref xs, .ref j0, .ref k0, .ref w0, .ref rd, .ref mv, .ref xr, .int im, .int lf])), (xr, .inl (cI, 8, .inl q_36))]) hP hD rfl
      clear hP hD
      obtain ⟨hP, hD⟩ := h9R
      obtain rfl := hr_34
      exact W.iret (v := (-1)) hx hb hr (fun t ht hW => ⟨⟨(-1), q_36, rfl, ⟨(show ((s_.toInt < 0 ∨ 7 < s_.toInt ∨ p_.toInt < 0 ∨ cn.toInt ≤ p_.toInt) ∧ ((-1) : Int32).toInt = -1) ∨ ((0 ≤ s_.toInt ∧ s_.toInt ≤ 7) ∧ (0 ≤ p_.toInt ∧ p_.toInt < cn.toInt) ∧ ∃ q : Int, zBelR he.toInt si.toInt fe q ∧ ((q ≠ 0 ∧ ((-1) : Int32).toInt = -q) ∨ (q = 0 ∧ ((-1) : Int32).toInt = zFd fe (kf p_.toNatClampNeg).toInt (af p_.toNatClampNeg).toInt hu.toInt 24))) from by (obtain ⟨-, y4, y5⟩ := hkku_27; have k1m : ((-1) : Int32).toInt = -1 := (by decide); exact Or.inl (by omega))), trivial⟩, zRet ht hP hD [5, 6, 0, 1, 2, 3, 4] (by decide) rfl⟩, hS.F ht⟩) hS.2.2 dX7_freed_30
  · rw [hfs (by omega) (by omega)]
    refine W.eq (g2 := F0 m 5 ls (.ref h0 :: [])) rfl ?_
    refine lv_astore_n (lv' := [(3, .ref h0), (0, .ref x0), (1, .int s_), (2, .int p_)]) hx hb dX7_freed_5 rfl hl (by decide) rfl (fun ls hl => ?_)
    refine lv_aload_n hx hb dX7_freed_6 rfl (lv_at hl 1 rfl) ?_
    refine va_get (D := D) (ci := 7) (v := .ref j0) (C := RX7) (T := TX7) (N := 9) hx hb hts hi_X7_freed_7 hown hK hP 0 rfl rfl 1 (by decide) (hts (.fieldLink RX7 18 "TheLiningsInIt" "now" "LTheLiningsInIt$Jacket;") (List.mem_of_getElem? (i := 1) rfl)) (fun _ h9 => h9) rfl dX7_freed_7 ?_
    refine lv_iload_n hx hb dX7_freed_10 rfl (lv_at hl 3 rfl) ?_
    refine zc_Vq (As := [.int p_]) (rest := []) ⟨hx, hb, hml, hown, hts⟩ (c_F_J_pullAt l D cI cJ cZ cP cS po j0 jp jc z0 0 0 (cn) (de) (tr) (se) (hu) (sd) fp kf af tf (p_) hy9 hy10 hy11 hy12 hy13 hy14 hjp) (cwV 1 hts gX7_freed_X0_pullAt rfl rfl rfl ⟨rfl, dh_X0_pullAt⟩ ⟨Nat.le_of_ble_eq_true rfl, Nat.le_of_ble_eq_true rfl⟩) hK hN (hZ.kept hS) hP (hP.sub [5, 6] rfl) (va_recv (q := (RX0, TX0, 9)) hK hP (ci := 0) (q0 := 5) rfl rfl) rfl hl.1 rfl (Nat.le_of_ble_eq_true rfl) dX7_freed_11 ⟨Nat.le_of_ble_eq_true rfl, Nat.le_of_ble_eq_true rfl⟩ (fun r_37 hr_37 => ?_)
    rcases hr_37 with ⟨rfl, g_38⟩ | ⟨rfl, g_39, g_40⟩ | ⟨⟨u_42, kiu_42, au_42, tu_42, rfl, huu_42, hkku_42⟩, g_41⟩
    · refine lv_astoreN (lv' := [(4, .null), (3, .ref h0), (0, .ref x0), (1, .int s_), (2, .int p_)]) hx hb dX7_freed_14 hl (by decide) rfl (fun ls hl => ?_)
      refine lv_aload_n hx hb dX7_freed_16 rfl (lv_at hl 1 rfl) ?_
      refine lv_ifnull hx hb dX7_freed_17 ?_
      refine lv_aloadN hx hb dX7_freed_20 (lv_at hl 0 rfl) ?_
      refine lv_ifnonnullN hx hb dX7_freed_22 ?_
      refine lv_aload_n hx hb dX7_freed_25 rfl (lv_at hl 2 rfl) ?_
      refine lv_iconst (v := 1) hx hb dX7_freed_26 (by decide) ?_
      skip
      refine zw_V (As := [.int 1]) (rest := []) (wr := [(xs, .inl (cS, 8, .inr (.inr (.inr (.inr fh))))), (h0, .inr (4, [.ref e0, .int he, .int si])), (e0, .inl (cJ, 160, .inr (.inl fe))), (j0, .inr (0, [.ref z0, .ref jp, .ref jc, .int cn, .int de, .int tr, .int se, .int hu, .int sd])), (jp, .inl (cP, 8, .inr (.inr (.inr (.inr fp)))))]) ⟨hx, hb, hml, hown, hts⟩ (c_X_refuse_1 l D cI cJ cZ cP cS po x0 xs j0 k0 w0 rd mv xr (im) (lf) fr hy0 hy1 hy2 hy3 H.size) (cwV 1 hts gX7_freed_X7_refuse rfl rfl rfl ⟨rfl, dh_X7_refuse⟩ ⟨Nat.le_of_ble_eq_true rfl, Nat.le_of_ble_eq_true rfl⟩) hK hN (hZ.kept hS) hP hD hS hA [0, 1] [2, 3, 4, 5, 6] rfl rfl (by decide) (by decide) (by decide) (va_recv (q := (RX7, TX7, 9)) hK hP (ci := 7) (q0 := 0) rfl rfl) rfl hl.1 rfl (Nat.le_of_ble_eq_true rfl) dX7_freed_27 ⟨Nat.le_of_ble_eq_true rfl, Nat.le_of_ble_eq_true rfl⟩ (fun r_43 u_44 H locs hr_43 hP hD hS => ?_)
      obtain ⟨q_45, rfl⟩ : ∃ z, z = u_44 := ⟨_, rfl⟩
      have h9R := zRe (ws' := [(xs, .inl (cS, 8, .inr (.inr (.inr (.inr fh))))), (h0, .inr (4, [.ref e0, .int he, .int si])), (e0, .inl (cJ, 160, .inr (.inl fe))), (j0, .inr (0, [.ref z0, .ref jp, .ref jc, .int cn, .int de, .int tr, .int se, .int hu, .int sd])), (jp, .inl (cP, 8, .inr (.inr (.inr (.inr fp))))), (x0, .inr (7, [.ref xs, .ref j0, .ref k0, .ref w0, .ref rd, .ref mv, .ref xr, .int im, .int lf])), (xr, .inl (cI, 8, .inl q_45))]) hP hD rfl
      clear hP hD
      obtain ⟨hP, hD⟩ := h9R
      obtain rfl := hr_43
      exact W.iret (v := (-1)) hx hb hr (fun t ht hW => ⟨⟨(-1), q_45, rfl, ⟨(show ((s_.toInt < 0 ∨ 7 < s_.toInt ∨ p_.toInt < 0 ∨ cn.toInt ≤ p_.toInt) ∧ ((-1) : Int32).toInt = -1) ∨ ((0 ≤ s_.toInt ∧ s_.toInt ≤ 7) ∧ (0 ≤ p_.toInt ∧ p_.toInt < cn.toInt) ∧ ∃ q : Int, zBelR he.toInt si.toInt fe q ∧ ((q ≠ 0 ∧ ((-1) : Int32).toInt = -q) ∨ (q = 0 ∧ ((-1) : Int32).toInt = zFd fe (kf p_.toNatClampNeg).toInt (af p_.toNatClampNeg).toInt hu.toInt 24))) from by (have k1m : ((-1) : Int32).toInt = -1 := (by decide); exact Or.inl (by omega))), trivial⟩, zRet ht hP hD [5, 6, 0, 1, 2, 3, 4] (by decide) rfl⟩, hS.F ht⟩) hS.2.2 dX7_freed_30
    · refine lv_astoreN (lv' := [(4, .null), (3, .ref h0), (0, .ref x0), (1, .int s_), (2, .int p_)]) hx hb dX7_freed_14 hl (by decide) rfl (fun ls hl => ?_)
      refine lv_aload_n hx hb dX7_freed_16 rfl (lv_at hl 1 rfl) ?_
      refine lv_ifnull hx hb dX7_freed_17 ?_
      refine lv_aloadN hx hb dX7_freed_20 (lv_at hl 0 rfl) ?_
      refine lv_ifnonnullN hx hb dX7_freed_22 ?_
      refine lv_aload_n hx hb dX7_freed_25 rfl (lv_at hl 2 rfl) ?_
      refine lv_iconst (v := 1) hx hb dX7_freed_26 (by decide) ?_
      skip
      refine zw_V (As := [.int 1]) (rest := []) (wr := [(xs, .inl (cS, 8, .inr (.inr (.inr (.inr fh))))), (h0, .inr (4, [.ref e0, .int he, .int si])), (e0, .inl (cJ, 160, .inr (.inl fe))), (j0, .inr (0, [.ref z0, .ref jp, .ref jc, .int cn, .int de, .int tr, .int se, .int hu, .int sd])), (jp, .inl (cP, 8, .inr (.inr (.inr (.inr fp)))))]) ⟨hx, hb, hml, hown, hts⟩ (c_X_refuse_1 l D cI cJ cZ cP cS po x0 xs j0 k0 w0 rd mv xr (im) (lf) fr hy0 hy1 hy2 hy3 H.size) (cwV 1 hts gX7_freed_X7_refuse rfl rfl rfl ⟨rfl, dh_X7_refuse⟩ ⟨Nat.le_of_ble_eq_true rfl, Nat.le_of_ble_eq_true rfl⟩) hK hN (hZ.kept hS) hP hD hS hA [0, 1] [2, 3, 4, 5, 6] rfl rfl (by decide) (by decide) (by decide) (va_recv (q := (RX7, TX7, 9)) hK hP (ci := 7) (q0 := 0) rfl rfl) rfl hl.1 rfl (Nat.le_of_ble_eq_true rfl) dX7_freed_27 ⟨Nat.le_of_ble_eq_true rfl, Nat.le_of_ble_eq_true rfl⟩ (fun r_46 u_47 H locs hr_46 hP hD hS => ?_)
      obtain ⟨q_48, rfl⟩ : ∃ z, z = u_47 := ⟨_, rfl⟩
      have h9R := zRe (ws' := [(xs, .inl (cS, 8, .inr (.inr (.inr (.inr fh))))), (h0, .inr (4, [.ref e0, .int he, .int si])), (e0, .inl (cJ, 160, .inr (.inl fe))), (j0, .inr (0, [.ref z0, .ref jp, .ref jc, .int cn, .int de, .int tr, .int se, .int hu, .int sd])), (jp, .inl (cP, 8, .inr (.inr (.inr (.inr fp))))), (x0, .inr (7, [.ref xs, .ref j0, .ref k0, .ref w0, .ref rd, .ref mv, .ref xr, .int im, .int lf])), (xr, .inl (cI, 8, .inl q_48))]) hP hD rfl
      clear hP hD
      obtain ⟨hP, hD⟩ := h9R
      obtain rfl := hr_46
      exact W.iret (v := (-1)) hx hb hr (fun t ht hW => ⟨⟨(-1), q_48, rfl, ⟨(show ((s_.toInt < 0 ∨ 7 < s_.toInt ∨ p_.toInt < 0 ∨ cn.toInt ≤ p_.toInt) ∧ ((-1) : Int32).toInt = -1) ∨ ((0 ≤ s_.toInt ∧ s_.toInt ≤ 7) ∧ (0 ≤ p_.toInt ∧ p_.toInt < cn.toInt) ∧ ∃ q : Int, zBelR he.toInt si.toInt fe q ∧ ((q ≠ 0 ∧ ((-1) : Int32).toInt = -q) ∨ (q = 0 ∧ ((-1) : Int32).toInt = zFd fe (kf p_.toNatClampNeg).toInt (af p_.toNatClampNeg).toInt hu.toInt 24))) from by (have k1m : ((-1) : Int32).toInt = -1 := (by decide); exact Or.inl (by omega))), trivial⟩, zRet ht hP hD [5, 6, 0, 1, 2, 3, 4] (by decide) rfl⟩, hS.F ht⟩) hS.2.2 dX7_freed_30
    · refine W.eq (g2 := F0 m 14 ls (.ref u_42 :: [])) rfl ?_
      obtain ⟨hku_42, hau_42, htu_42⟩ := zPu_pr (hZ.kept hS) huu_42
      refine lv_astore (lv' := [(4, .ref u_42), (3, .ref h0), (0, .ref x0), (1, .int s_), (2, .int p_)]) hx hb dX7_freed_14 hl (by decide) rfl (fun ls hl => ?_)
      refine lv_aload_n hx hb dX7_freed_16 rfl (lv_at hl 1 rfl) ?_
      refine lv_ifnull hx hb dX7_freed_17 ?_
      refine lv_aload hx hb dX7_freed_20 (lv_at hl 0 rfl) ?_
      refine lv_ifnonnull (tgt := 31) hx hb dX7_freed_22 (by decide) ?_
      refine lv_aload_n hx hb dX7_freed_31 rfl (lv_at hl 1 rfl) ?_
      refine zc_V (As := []) (rest := []) ⟨hx, hb, hml, hown, hts⟩ (c_F_Sh_noBelief l D cI cJ cZ cP cS po h0 e0 (he) (si) fe hy4 hy5 hy6 hy7) (cwV 0 hts gX7_freed_X4_noBelief rfl rfl rfl ⟨rfl, dh_X4_noBelief⟩ ⟨Nat.le_of_ble_eq_true rfl, Nat.le_of_ble_eq_true rfl⟩) hK hN (hZ.kept hS) hP (hP.sub [3, 4] rfl) (va_recv (q := (RX4, TX4, 3)) hK hP (ci := 4) (q0 := 3) rfl rfl) rfl hl.1 rfl (Nat.le_of_ble_eq_true rfl) dX7_freed_32 ⟨Nat.le_of_ble_eq_true rfl, Nat.le_of_ble_eq_true rfl⟩ (fun r_49 hr_49 => ?_)
      obtain ⟨g_50, g_51, hsr_49_0⟩ := hr_49
      refine lv_istore (lv' := [(5, .int r_49), (4, .ref u_42), (3, .ref h0), (0, .ref x0), (1, .int s_), (2, .int p_)]) hx hb dX7_freed_35 hl (by decide) rfl (fun ls hl => ?_)
      refine lv_iload hx hb dX7_freed_37 (lv_at hl 0 rfl) ?_
      refine lv_if_eq (tgt := 49) hx hb dX7_freed_39 (by decide) (fun c_52 => ?_) (fun c_52 => ?_)
      · have fc_52 : r_49.toInt = 0 := zf_eq c_52 rfl (by decide)
        have h25 : 25 ≤ si.toInt := by (have z := hsr_49_0; unfold zBelR at z; omega)
        refine lv_aload_n hx hb dX7_freed_49 rfl (lv_at hl 3 rfl) ?_
        refine lv_aload_n hx hb dX7_freed_50 rfl (lv_at hl 2 rfl) ?_
        refine lv_aload hx hb dX7_freed_51 (lv_at hl 1 rfl) ?_
        refine zc_V (As := [.ref h0, .ref u_42]) (rest := []) ⟨hx, hb, hml, hown, hts⟩ (c_F_X_freedWeight l D cI cJ cZ cP cS po x0 xs j0 k0 w0 rd mv xr (im) (lf) ((fun _ => 0)) j0 jp jc z0 0 0 (cn) (de) (tr) (se) (hu) (sd) h0 e0 (he) (si) fe u_42 (kiu_42) (au_42) (tu_42) huu_42 ⟨by omega, by omega, by omega, by omega⟩ hy0 hy1 hy2 hy3 hy9 hy10 hy11 hy12 hy13 hy14 hy4 hy5 hy6 hy7 (by have z := hsr_49_0; unfold zBelR at z; rcases z with z | z | z | z | z <;> first | exact z.2.2.1 | (exfalso; omega)) (by omega)) (cwV 2 hts gX7_freed_X7_freedWeight rfl rfl rfl ⟨rfl, dh_X7_freedWeight⟩ ⟨Nat.le_of_ble_eq_true rfl, Nat.le_of_ble_eq_true rfl⟩) hK hN (hZ.kept hS) hP (hP.sub [0, 5, 3, 4] rfl) (va_recv (q := (RX7, TX7, 9)) hK hP (ci := 7) (q0 := 0) rfl rfl) rfl hl.1 rfl (Nat.le_of_ble_eq_true rfl) dX7_freed_53 ⟨Nat.le_of_ble_eq_true rfl, Nat.le_of_ble_eq_true rfl⟩ (fun r_53 hr_53 => ?_)
        obtain ⟨g_54, g_55, hsr_53_0⟩ := hr_53
        exact W.iret (v := r_53) hx hb hr (fun t ht hW => ⟨⟨r_53, fr, rfl, ⟨(show ((s_.toInt < 0 ∨ 7 < s_.toInt ∨ p_.toInt < 0 ∨ cn.toInt ≤ p_.toInt) ∧ (r_53 : Int32).toInt = -1) ∨ ((0 ≤ s_.toInt ∧ s_.toInt ≤ 7) ∧ (0 ≤ p_.toInt ∧ p_.toInt < cn.toInt) ∧ ∃ q : Int, zBelR he.toInt si.toInt fe q ∧ ((q ≠ 0 ∧ (r_53 : Int32).toInt = -q) ∨ (q = 0 ∧ (r_53 : Int32).toInt = zFd fe (kf p_.toNatClampNeg).toInt (af p_.toNatClampNeg).toInt hu.toInt 24))) from by (obtain ⟨⟨y1, y2, y3⟩, y4, y5⟩ := hkku_42; refine Or.inr ⟨by omega, by omega, _, hsr_49_0, Or.inr ⟨by omega, ?_⟩⟩; rw [← y1, ← y2]; exact hsr_53_0)), trivial⟩, zRet ht hP hD [0, 1, 2, 3, 4, 5, 6] (by decide) rfl⟩, hS.F ht⟩) hS.2.2 dX7_freed_56
      · have fc_52 : r_49.toInt ≠ 0 := zf_ne c_52 rfl (by decide)
        refine lv_aload_n hx hb dX7_freed_42 rfl (lv_at hl 3 rfl) ?_
        refine lv_iload hx hb dX7_freed_43 (lv_at hl 0 rfl) ?_
        skip
        refine zw_V (As := [.int r_49]) (rest := []) (wr := [(xs, .inl (cS, 8, .inr (.inr (.inr (.inr fh))))), (h0, .inr (4, [.ref e0, .int he, .int si])), (e0, .inl (cJ, 160, .inr (.inl fe))), (j0, .inr (0, [.ref z0, .ref jp, .ref jc, .int cn, .int de, .int tr, .int se, .int hu, .int sd])), (jp, .inl (cP, 8, .inr (.inr (.inr (.inr fp)))))]) ⟨hx, hb, hml, hown, hts⟩ (c_X_refuse l D cI cJ cZ cP cS po x0 xs j0 k0 w0 rd mv xr (im) (lf) fr (r_49) hy0 hy1 hy2 hy3 (by omega) (by omega) H.size) (cwV 1 hts gX7_freed_X7_refuse rfl rfl rfl ⟨rfl, dh_X7_refuse⟩ ⟨Nat.le_of_ble_eq_true rfl, Nat.le_of_ble_eq_true rfl⟩) hK hN (hZ.kept hS) hP hD hS hA [0, 1] [2, 3, 4, 5, 6] rfl rfl (by decide) (by decide) (by decide) (va_recv (q := (RX7, TX7, 9)) hK hP (ci := 7) (q0 := 0) rfl rfl) rfl hl.1 rfl (Nat.le_of_ble_eq_true rfl) dX7_freed_45 ⟨Nat.le_of_ble_eq_true rfl, Nat.le_of_ble_eq_true rfl⟩ (fun r_56 u_57 H locs hr_56 hP hD hS => ?_)
        obtain ⟨q_58, rfl⟩ : ∃ z, z = u_57 := ⟨_, rfl⟩
        obtain ⟨hsr_56_0, hr_56⟩ := hr_56
        have h9R := zRe (ws' := [(xs, .inl (cS, 8, .inr (.inr (.inr (.inr fh))))), (h0, .inr (4, [.ref e0, .int he, .int si])), (e0, .inl (cJ, 160, .inr (.inl fe))), (j0, .inr (0, [.ref z0, .ref jp, .ref jc, .int cn, .int de, .int tr, .int se, .int hu, .int sd])), (jp, .inl (cP, 8, .inr (.inr (.inr (.inr fp))))), (x0, .inr (7, [.ref xs, .ref j0, .ref k0, .ref w0, .ref rd, .ref mv, .ref xr, .int im, .int lf])), (xr, .inl (cI, 8, .inl q_58))]) hP hD rfl
        clear hP hD
        obtain ⟨hP, hD⟩ := h9R
        obtain ⟨g_59, g_60⟩ := hr_56
        exact W.iret (v := r_56) hx hb hr (fun t ht hW => ⟨⟨r_56, q_58, rfl, ⟨(show ((s_.toInt < 0 ∨ 7 < s_.toInt ∨ p_.toInt < 0 ∨ cn.toInt ≤ p_.toInt) ∧ (r_56 : Int32).toInt = -1) ∨ ((0 ≤ s_.toInt ∧ s_.toInt ≤ 7) ∧ (0 ≤ p_.toInt ∧ p_.toInt < cn.toInt) ∧ ∃ q : Int, zBelR he.toInt si.toInt fe q ∧ ((q ≠ 0 ∧ (r_56 : Int32).toInt = -q) ∨ (q = 0 ∧ (r_56 : Int32).toInt = zFd fe (kf p_.toNatClampNeg).toInt (af p_.toNatClampNeg).toInt hu.toInt 24))) from by (obtain ⟨⟨y1, y2, y3⟩, y4, y5⟩ := hkku_42; exact Or.inr ⟨by omega, by omega, _, hsr_49_0, Or.inl ⟨by omega, by omega⟩⟩)), trivial⟩, zRet ht hP hD [5, 6, 0, 1, 2, 3, 4] (by decide) rfl⟩, hS.F ht⟩) hS.2.2 dX7_freed_48
set_option maxHeartbeats 4000000 in
set_option maxRecDepth 100000 in
theorem c_F_X_best (l : Launch) (D : va_G) (cI cJ cZ cP cS : ClassId) (po : zPool) (x0 xs j0 k0 w0 rd mv xr : Nat) (im lf : Int32) (fr : Nat → Int32) (fh : Nat → Option Nat) (s_ : Int32) (h0 e0 : Nat) (he si : Int32) (fe : Nat → Int64) (j0 jp jc z0 zl zs : Nat) (cn de tr se hu sd : Int32) (fp : Nat → Option Nat) (kf af tf : Nat → Int32) (hy0 : 0 ≤ im.toInt) (hy1 : im.toInt ≤ 1) (hy2 : (-1) ≤ lf.toInt) (hy3 : lf.toInt ≤ 160) (hy4 : (-1) ≤ he.toInt) (hy5 : he.toInt ≤ 103) (hy6 : 0 ≤ si.toInt) (hy7 : si.toInt ≤ 160) (hfs : 0 ≤ s_.toInt → s_.toInt ≤ 7 → fh s_.toNatClampNeg = some h0) (hy9 : 0 ≤ cn.toInt) (hy10 : cn.toInt ≤ 8) (hy11 : 0 ≤ de.toInt) (hy12 : de.toInt ≤ 24) (hy13 : 0 ≤ hu.toInt) (hy14 : hu.toInt ≤ 9) (hjp : zJP po fp cn kf af tf) (hpz : Nat) : Met l yX7_best wsX7_best ({ frames := 4, cells := 0, slots := 0, locals := 88 }) (va_Pc [.ref x0, .int s_] (zW D (zKT cI cJ cZ cP cS) po [(x0, .inr (7, [.ref xs, .ref j0, .ref k0, .ref w0, .ref rd, .ref mv, .ref xr, .int im, .int lf])), (xr, .inl (cI, 8, .inl fr)), (xs, .inl (cS, 8, .inr (.inr (.inr (.inr fh))))), (h0, .inr (4, [.ref e0, .int he, .int si])), (e0, .inl (cJ, 160, .inr (.inl fe))), (j0, .inr (0, [.ref z0, .ref jp, .ref jc, .int cn, .int de, .int tr, .int se, .int hu, .int sd])), (jp, .inl (cP, 8, .inr (.inr (.inr (.inr fp)))))] hpz)) (va_Qi (fun (r : Int32) (fr2 : (Nat → Int32)) => (((s_.toInt < 0 ∨ 7 < s_.toInt) ∧ r.toInt = -11) ∨ ((0 ≤ s_.toInt ∧ s_.toInt ≤ 7) ∧ ∃ q : Int, zBelR he.toInt si.toInt fe q ∧ ((q ≠ 0 ∧ r.toInt = -q - 10) ∨ (q = 0 ∧ zBst fe kf af hu.toInt cn.toInt.toNat r.toInt)))) ∧ (True)) (zB D [(x0, .inr (7, [.ref xs, .ref j0, .ref k0, .ref w0, .ref rd, .ref mv, .ref xr, .int im, .int lf])), (xr, .inl (cI, 8, .inl fr)), (xs, .inl (cS, 8, .inr (.inr (.inr (.inr fh))))), (h0, .inr (4, [.ref e0, .int he, .int si])), (e0, .inl (cJ, 160, .inr (.inl fe))), (j0, .inr (0, [.ref z0, .ref jp, .ref jc, .int cn, .int de, .int tr, .int se, .int hu, .int sd])), (jp, .inl (cP, 8, .inr (.inr (.inr (.inr fp)))))] hpz (fun (fr2 : Nat → Int32) => [(x0, .inr (7, [.ref xs, .ref j0, .ref k0, .ref w0, .ref rd, .ref mv, .ref xr, .int im, .int lf])), (xr, .inl (cI, 8, .inl fr2)), (xs, .inl (cS, 8, .inr (.inr (.inr (.inr fh))))), (h0, .inr (4, [.ref e0, .int he, .int si])), (e0, .inl (cJ, 160, .inr (.inl fe))), (j0, .inr (0, [.ref z0, .ref jp, .ref jc, .int cn, .int de, .int tr, .int se, .int hu, .int sd])), (jp, .inl (cP, 8, .inr (.inr (.inr (.inr fp)))))])) (va_A [(x0, .inr (7, [.ref xs, .ref j0, .ref k0, .ref w0, .ref rd, .ref mv, .ref xr, .int im, .int lf])), (xr, .inl (cI, 8, .inl fr)), (xs, .inl (cS, 8, .inr (.inr (.inr (.inr fh))))), (h0, .inr (4, [.ref e0, .int he, .int si])), (e0, .inl (cJ, 160, .inr (.inl fe))), (j0, .inr (0, [.ref z0, .ref jp, .ref jc, .int cn, .int de, .int tr, .int se, .int hu, .int sd])), (jp, .inl (cP, 8, .inr (.inr (.inr (.inr fp)))))] hpz)) 0 0 (va_A [(x0, .inr (7, [.ref xs, .ref j0, .ref k0, .ref w0, .ref rd, .ref mv, .ref xr, .int im, .int lf])), (xr, .inl (cI, 8, .inl fr)), (xs, .inl (cS, 8, .inr (.inr (.inr (.inr fh))))), (h0, .inr (4, [.ref e0, .int he, .int si])), (e0, .inl (cJ, 160, .inr (.inl fe))), (j0, .inr (0, [.ref z0, .ref jp, .ref jc, .int cn, .int de, .int tr, .int se, .int hu, .int sd])), (jp, .inl (cP, 8, .inr (.inr (.inr (.inr fp)))))] hpz) := by
  refine Met.ofW (cc := cX7_best) (maxL := 9) (ret := (some .int)) (by decide) rfl ?_
  intro p e s m args below meth c s₁ B hml hv
  obtain ⟨rfl, hsz, hP, hK, hD0, hN, hZ⟩ := hv
  have hx := B.exec
  have hb := B.bytes
  have hr := B.returns
  have hts := atoms_spec (ws := wsX7_best) B.pre
  have hown : s.vm.findClass RX7 = some m.cls := findClass_of_methodNamed B.named
  have hlocks := B.notSynchronized
  subst hsz
  have hD := hD0.self (sz := s.heap.size)
  have hA := zA_of hD
  have hl := lv_entry ([.ref x0, .int s_]) (n := 9) (Nat.le_of_ble_eq_true rfl)
  rw [lg_entry_eq]
  generalize (lg_sl ([.ref x0, .int s_]) ++ List.replicate (9 - (lg_sl ([.ref x0, .int s_])).length) Slot.unset).toArray = ls at hl ⊢
  replace hl : lv_has ls 9 [(0, .ref x0), (1, .int s_)] := hl
  refine zw_begin hP hD (fun H locs hP1 hS => ?_)
  clear hP
  have hP := hP1
  clear hP1
  refine lv_aload_n hx hb dX7_best_0 rfl (lv_at hl 0 rfl) ?_
  refine lv_iload_n hx hb dX7_best_1 rfl (lv_at hl 1 rfl) ?_
  refine zc_Vq (As := [.int s_]) (rest := []) ⟨hx, hb, hml, hown, hts⟩ (c_X_shelfAt l D cI cJ cZ cP cS po x0 xs j0 k0 w0 rd mv xr (im) (lf) ((fun _ => 0)) fh (s_) hy0 hy1 hy2 hy3) (cwV 1 hts gX7_best_X7_shelfAt rfl rfl rfl ⟨rfl, dh_X7_shelfAt⟩ ⟨Nat.le_of_ble_eq_true rfl, Nat.le_of_ble_eq_true rfl⟩) hK hN (hZ.kept hS) hP (hP.sub [0, 2] rfl) (va_recv (q := (RX7, TX7, 9)) hK hP (ci := 7) (q0 := 0) rfl rfl) rfl hl.1 rfl (Nat.le_of_ble_eq_true rfl) dX7_best_2 ⟨Nat.le_of_ble_eq_true rfl, Nat.le_of_ble_eq_true rfl⟩ (fun r_1 hr_1 => ?_)
  rcases hr_1 with ⟨rfl, g_2⟩ | ⟨rfl, g_3, g_4⟩ | ⟨rfl, g_5, g_6⟩
  · refine lv_astore_nN (lv' := [(2, .null), (0, .ref x0), (1, .int s_)]) hx hb dX7_best_5 rfl hl (by decide) rfl (fun ls hl => ?_)
    refine lv_aload_nN hx hb dX7_best_6 rfl (lv_at hl 0 rfl) ?_
    refine lv_ifnonnullN hx hb dX7_best_7 ?_
    refine lv_aload_n hx hb dX7_best_10 rfl (lv_at hl 1 rfl) ?_
    refine lv_iconst (v := 1) hx hb dX7_best_11 (by decide) ?_
    skip
    refine zw_V (As := [.int 1]) (rest := []) (wr := [(xs, .inl (cS, 8, .inr (.inr (.inr (.inr fh))))), (h0, .inr (4, [.ref e0, .int he, .int si])), (e0, .inl (cJ, 160, .inr (.inl fe))), (j0, .inr (0, [.ref z0, .ref jp, .ref jc, .int cn, .int de, .int tr, .int se, .int hu, .int sd])), (jp, .inl (cP, 8, .inr (.inr (.inr (.inr fp)))))]) ⟨hx, hb, hml, hown, hts⟩ (c_X_refuseLower_1 l D cI cJ cZ cP cS po x0 xs j0 k0 w0 rd mv xr (im) (lf) fr hy0 hy1 hy2 hy3 H.size) (cwV 1 hts gX7_best_X7_refuseLower rfl rfl rfl ⟨rfl, dh_X7_refuseLower⟩ ⟨Nat.le_of_ble_eq_true rfl, Nat.le_of_ble_eq_true rfl⟩) hK hN (hZ.kept hS) hP hD hS hA [0, 1] [2, 3, 4, 5, 6] rfl rfl (by decide) (by decide) (by decide) (va_recv (q := (RX7, TX7, 9)) hK hP (ci := 7) (q0 := 0) rfl rfl) rfl hl.1 rfl (Nat.le_of_ble_eq_true rfl) dX7_best_12 ⟨Nat.le_of_ble_eq_true rfl, Nat.le_of_ble_eq_true rfl⟩ (fun r_7 u_8 H locs hr_7 hP hD hS => ?_)
    obtain ⟨q_9, rfl⟩ : ∃ z, z = u_8 := ⟨_, rfl⟩
    have h9R := zRe (ws' := [(xs, .inl (cS, 8, .inr (.inr (.inr (.inr fh))))), (h0, .inr (4, [.ref e0, .int he, .int si])), (e0, .inl (cJ, 160, .inr (.inl fe))), (j0, .inr (0, [.ref z0, .ref jp, .ref jc, .int cn, .int de, .int tr, .int se, .int hu, .int sd])), (jp, .inl (cP, 8, .inr (.inr (.inr (.inr fp))))), (x0, .inr (7, [.ref xs, .ref j0, .ref k0, .ref w0, .ref rd, .ref mv, .ref xr, .int im, .int lf])), (xr, .inl (cI, 8, .inl q_9))]) hP hD rfl
    clear hP hD
    obtain ⟨hP, hD⟩ := h9R
    obtain rfl := hr_7
    exact W.iret (v := (-11)) hx hb hr (fun t ht hW => ⟨⟨(-11), q_9, rfl, ⟨(show ((s_.toInt < 0 ∨ 7 < s_.toInt) ∧ ((-11) : Int32).toInt = -11) ∨ ((0 ≤ s_.toInt ∧ s_.toInt ≤ 7) ∧ ∃ q : Int, zBelR he.toInt si.toInt fe q ∧ ((q ≠ 0 ∧ ((-11) : Int32).toInt = -q - 10) ∨ (q = 0 ∧ zBst fe kf af hu.toInt cn.toInt.toNat ((-11) : Int32).toInt))) from by (have k9 : ((-11) : Int32).toInt = -11 := (by decide); exact Or.inl (by omega))), trivial⟩, zRet ht hP hD [5, 6, 0, 1, 2, 3, 4] (by decide) rfl⟩, hS.F ht⟩) hS.2.2 dX7_best_15
  · refine lv_astore_nN (lv' := [(2, .null), (0, .ref x0), (1, .int s_)]) hx hb dX7_best_5 rfl hl (by decide) rfl (fun ls hl => ?_)
    refine lv_aload_nN hx hb dX7_best_6 rfl (lv_at hl 0 rfl) ?_
    refine lv_ifnonnullN hx hb dX7_best_7 ?_
    refine lv_aload_n hx hb dX7_best_10 rfl (lv_at hl 1 rfl) ?_
    refine lv_iconst (v := 1) hx hb dX7_best_11 (by decide) ?_
    skip
    refine zw_V (As := [.int 1]) (rest := []) (wr := [(xs, .inl (cS, 8, .inr (.inr (.inr (.inr fh))))), (h0, .inr (4, [.ref e0, .int he, .int si])), (e0, .inl (cJ, 160, .inr (.inl fe))), (j0, .inr (0, [.ref z0, .ref jp, .ref jc, .int cn, .int de, .int tr, .int se, .int hu, .int sd])), (jp, .inl (cP, 8, .inr (.inr (.inr (.inr fp)))))]) ⟨hx, hb, hml, hown, hts⟩ (c_X_refuseLower_1 l D cI cJ cZ cP cS po x0 xs j0 k0 w0 rd mv xr (im) (lf) fr hy0 hy1 hy2 hy3 H.size) (cwV 1 hts gX7_best_X7_refuseLower rfl rfl rfl ⟨rfl, dh_X7_refuseLower⟩ ⟨Nat.le_of_ble_eq_true rfl, Nat.le_of_ble_eq_true rfl⟩) hK hN (hZ.kept hS) hP hD hS hA [0, 1] [2, 3, 4, 5, 6] rfl rfl (by decide) (by decide) (by decide) (va_recv (q := (RX7, TX7, 9)) hK hP (ci := 7) (q0 := 0) rfl rfl) rfl hl.1 rfl (Nat.le_of_ble_eq_true rfl) dX7_best_12 ⟨Nat.le_of_ble_eq_true rfl, Nat.le_of_ble_eq_true rfl⟩ (fun r_10 u_11 H locs hr_10 hP hD hS => ?_)
    obtain ⟨q_12, rfl⟩ : ∃ z, z = u_11 := ⟨_, rfl⟩
    have h9R := zRe (ws' := [(xs, .inl (cS, 8, .inr (.inr (.inr (.inr fh))))), (h0, .inr (4, [.ref e0, .int he, .int si])), (e0, .inl (cJ, 160, .inr (.inl fe))), (j0, .inr (0, [.ref z0, .ref jp, .ref jc, .int cn, .int de, .int tr, .int se, .int hu, .int sd])), (jp, .inl (cP, 8, .inr (.inr (.inr (.inr fp))))), (x0, .inr (7, [.ref xs, .ref j0, .ref k0, .ref w0, .ref rd, .ref mv, .ref xr, .int im, .int lf])), (xr, .inl (cI, 8, .inl q_12))]) hP hD rfl
    clear hP hD
    obtain ⟨hP, hD⟩ := h9R
    obtain rfl := hr_10
    exact W.iret (v := (-11)) hx hb hr (fun t ht hW => ⟨⟨(-11), q_12, rfl, ⟨(show ((s_.toInt < 0 ∨ 7 < s_.toInt) ∧ ((-11) : Int32).toInt = -11) ∨ ((0 ≤ s_.toInt ∧ s_.toInt ≤ 7) ∧ ∃ q : Int, zBelR he.toInt si.toInt fe q ∧ ((q ≠ 0 ∧ ((-11) : Int32).toInt = -q - 10) ∨ (q = 0 ∧ zBst fe kf af hu.toInt cn.toInt.toNat ((-11) : Int32).toInt))) from by (have k9 : ((-11) : Int32).toInt = -11 := (by decide); exact Or.inl (by omega))), trivial⟩, zRet ht hP hD [5, 6, 0, 1, 2, 3, 4] (by decide) rfl⟩, hS.F ht⟩) hS.2.2 dX7_best_15
  · rw [hfs (by omega) (by omega)]
    refine W.eq (g2 := F0 m 5 ls (.ref h0 :: [])) rfl ?_
    refine lv_astore_n (lv' := [(2, .ref h0), (0, .ref x0), (1, .int s_)]) hx hb dX7_best_5 rfl hl (by decide) rfl (fun ls hl => ?_)
    refine lv_aload_n hx hb dX7_best_6 rfl (lv_at hl 0 rfl) ?_
    refine lv_ifnonnull (tgt := 16) hx hb dX7_best_7 (by decide) ?_
    refine lv_aload_n hx hb dX7_best_16 rfl (lv_at hl 0 rfl) ?_
    refine zc_V (As := []) (rest := []) ⟨hx, hb, hml, hown, hts⟩ (c_F_Sh_noBelief l D cI cJ cZ cP cS po h0 e0 (he) (si) fe hy4 hy5 hy6 hy7) (cwV 0 hts gX7_best_X4_noBelief rfl rfl rfl ⟨rfl, dh_X4_noBelief⟩ ⟨Nat.le_of_ble_eq_true rfl, Nat.le_of_ble_eq_true rfl⟩) hK hN (hZ.kept hS) hP (hP.sub [3, 4] rfl) (va_recv (q := (RX4, TX4, 3)) hK hP (ci := 4) (q0 := 3) rfl rfl) rfl hl.1 rfl (Nat.le_of_ble_eq_true rfl) dX7_best_17 ⟨Nat.le_of_ble_eq_true rfl, Nat.le_of_ble_eq_true rfl⟩ (fun r_13 hr_13 => ?_)
    obtain ⟨g_14, g_15, hsr_13_0⟩ := hr_13
    refine lv_istore_n (lv' := [(3, .int r_13), (2, .ref h0), (0, .ref x0), (1, .int s_)]) hx hb dX7_best_20 rfl hl (by decide) rfl (fun ls hl => ?_)
    refine lv_iload_n hx hb dX7_best_21 rfl (lv_at hl 0 rfl) ?_
    refine lv_if_eq (tgt := 31) hx hb dX7_best_22 (by decide) (fun c_16 => ?_) (fun c_16 => ?_)
    · have fc_16 : r_13.toInt = 0 := zf_eq c_16 rfl (by decide)
      have h25 : 25 ≤ si.toInt := by (have z := hsr_13_0; unfold zBelR at z; omega)
      refine lv_iconst (v := (-1)) hx hb dX7_best_31 (by decide) ?_
      refine lv_istore (lv' := [(4, .int (-1)), (3, .int r_13), (2, .ref h0), (0, .ref x0), (1, .int s_)]) hx hb dX7_best_32 hl (by decide) rfl (fun ls hl => ?_)
      refine lv_iconst (v := (-1)) hx hb dX7_best_34 (by decide) ?_
      refine lv_istore (lv' := [(5, .int (-1)), (4, .int (-1)), (3, .int r_13), (2, .ref h0), (0, .ref x0), (1, .int s_)]) hx hb dX7_best_35 hl (by decide) rfl (fun ls hl => ?_)
      refine lv_iconst (v := 0) hx hb dX7_best_37 (by decide) ?_
      refine lv_istore (lv' := [(6, .int 0), (5, .int (-1)), (4, .int (-1)), (3, .int r_13), (2, .ref h0), (0, .ref x0), (1, .int s_)]) hx hb dX7_best_38 hl (by decide) rfl (fun ls hl => ?_)
      obtain ⟨i_40, hi_40⟩ : ∃ i : Int32, i = 0 := ⟨_, rfl⟩
      replace hl : lv_has ls 9 [(6, .int i_40), (5, .int (-1)), (4, .int (-1)), (3, .int r_13), (2, .ref h0), (0, .ref x0), (1, .int s_)] := by rw [hi_40]; exact lv_sub hl [0, 1, 2, 3, 4, 5, 6] rfl
      have h1i_40 : i_40.toInt = 0 := by rw [hi_40]; decide
      obtain ⟨nfu, hni_40⟩ : ∃ nq9 : Nat, cn.toInt ≤ i_40.toInt + (nq9 : Int) := ⟨((cn.toInt : Int) - 0).toNat, by omega⟩
      have hloi_40 : 0 ≤ i_40.toInt := by omega
      obtain ⟨v_17, hv_17⟩ : ∃ g : Int32, g = (-1) := ⟨_, rfl⟩
      obtain ⟨v_18, hv_18⟩ : ∃ g : Int32, g = (-1) := ⟨_, rfl⟩
      replace hl : lv_has ls 9 [(6, .int i_40), (5, .int v_18), (4, .int v_17), (3, .int r_13), (2, .ref h0), (0, .ref x0), (1, .int s_)] := by rw [hv_17, hv_18]; exact hl
      have hbv_17 : -1 ≤ v_17.toInt ∧ v_17.toInt ≤ 7 := by rw [hv_17]; exact ⟨by decide, by decide⟩
      have hbv_18 : -1 ≤ v_18.toInt ∧ v_18.toInt ≤ 29700 := by rw [hv_18]; exact ⟨by decide, by decide⟩
      have hvi_40_0 : zBst fe kf af hu.toInt i_40.toInt.toNat (v_17 : Int32).toInt := by
        (try rw [hi_40]); (try rw [hv_17]); (try rw [hv_18]); (rw [(show ((0 : Int32).toInt.toNat) = 0 from by decide)]; exact Or.inl ⟨rfl, by decide⟩)
      have hvi_40_1 : ((i_40.toInt = 0 ∧ (v_17 : Int32).toInt = -1 ∧ (v_18 : Int32).toInt = -1) ∨ (0 ≤ (v_17 : Int32).toInt ∧ (v_18 : Int32).toInt = zFd fe (kf (v_17 : Int32).toInt.toNat).toInt (af (v_17 : Int32).toInt.toNat).toInt hu.toInt 24)) := by
        (try rw [hi_40]); (try rw [hv_17]); (try rw [hv_18]); (exact Or.inl ⟨by decide, by decide, by decide⟩)
      have hvi_40_2 : ((v_17 : Int32).toInt < i_40.toInt ∧ i_40.toInt ≤ cn.toInt) := by
        (try rw [hi_40]); (try rw [hv_17]); (try rw [hv_18]); (have k0 : (0 : Int32).toInt = 0 := (by decide); have km : ((-1) : Int32).toInt = -1 := (by decide); omega)
      clear h1i_40 hi_40 hv_17 hv_18
      skip
      revert hni_40
      revert hloi_40
      revert hvi_40_2
      revert hvi_40_1
      revert hvi_40_0
      revert hbv_18
      revert hbv_17
      revert hl
      revert hS
      revert hD
      revert hP
      revert ls
      revert locs
      revert H
      revert v_18
      revert v_17
      revert i_40
      induction nfu with
      | zero =>
        intro i_40 v_17 v_18 H locs ls hP hD hS hl hbv_17 hbv_18 hvi_40_0 hvi_40_1 hvi_40_2 hloi_40 hni_40
        have hzi_40 : cn.toInt ≤ i_40.toInt := by omega
        refine lv_iload hx hb dX7_best_40 (lv_at hl 0 rfl) ?_
        refine lv_aload_n hx hb dX7_best_42 rfl (lv_at hl 5 rfl) ?_
        refine va_get (D := D) (ci := 7) (v := .ref j0) (C := RX7) (T := TX7) (N := 9) hx hb hts hi_X7_best_7 hown hK hP 0 rfl rfl 1 (by decide) (hts (.fieldLink RX7 18 "TheLiningsInIt" "now" "LTheLiningsInIt$Jacket;") (List.mem_of_getElem? (i := 1) rfl)) (fun _ h9 => h9) rfl dX7_best_43 ?_
        refine va_get (D := D) (ci := 0) (v := .int cn) (C := RX0) (T := TX0) (N := 9) hx hb hts hi_X7_best_0 hown hK hP 5 rfl rfl 3 (by decide) (hts (.fieldLink RX7 123 "TheLiningsInIt$Jacket" "pullCount" "I") (List.mem_of_getElem? (i := 2) rfl)) (fun _ h9 => h9) rfl dX7_best_46 ?_
        refine lv_icmp_ge (tgt := 102) hx hb dX7_best_49 (by decide) (fun c_19 => ?_) (fun c_19 => ?_)
        · have fc_19 : cn.toInt ≤ i_40.toInt := zf_le c_19 rfl rfl
          refine lv_iload hx hb dX7_best_102 (lv_at hl 2 rfl) ?_
          exact W.iret (v := v_17) hx hb hr (fun t ht hW => ⟨⟨v_17, fr, rfl, ⟨(show ((s_.toInt < 0 ∨ 7 < s_.toInt) ∧ (v_17 : Int32).toInt = -11) ∨ ((0 ≤ s_.toInt ∧ s_.toInt ≤ 7) ∧ ∃ q : Int, zBelR he.toInt si.toInt fe q ∧ ((q ≠ 0 ∧ (v_17 : Int32).toInt = -q - 10) ∨ (q = 0 ∧ zBst fe kf af hu.toInt cn.toInt.toNat (v_17 : Int32).toInt))) from by (have h9 : i_40.toInt.toNat = cn.toInt.toNat := (by omega); have z := hvi_40_0; rw [h9] at z; exact Or.inr ⟨by omega, _, hsr_13_0, Or.inr ⟨by omega, z⟩⟩)), trivial⟩, zRet ht hP hD [0, 1, 2, 3, 4, 5, 6] (by decide) rfl⟩, hS.F ht⟩) hS.2.2 dX7_best_104
        · exfalso; have fc_19 : i_40.toInt < cn.toInt := zf_nle c_19 rfl rfl; omega
      | succ nfu ih =>
        intro i_40 v_17 v_18 H locs ls hP hD hS hl hbv_17 hbv_18 hvi_40_0 hvi_40_1 hvi_40_2 hloi_40 hni_40
        refine lv_iload hx hb dX7_best_40 (lv_at hl 0 rfl) ?_
        refine lv_aload_n hx hb dX7_best_42 rfl (lv_at hl 5 rfl) ?_
        refine va_get (D := D) (ci := 7) (v := .ref j0) (C := RX7) (T := TX7) (N := 9) hx hb hts hi_X7_best_7 hown hK hP 0 rfl rfl 1 (by decide) (hts (.fieldLink RX7 18 "TheLiningsInIt" "now" "LTheLiningsInIt$Jacket;") (List.mem_of_getElem? (i := 1) rfl)) (fun _ h9 => h9) rfl dX7_best_43 ?_
        refine va_get (D := D) (ci := 0) (v := .int cn) (C := RX0) (T := TX0) (N := 9) hx hb hts hi_X7_best_0 hown hK hP 5 rfl rfl 3 (by decide) (hts (.fieldLink RX7 123 "TheLiningsInIt$Jacket" "pullCount" "I") (List.mem_of_getElem? (i := 2) rfl)) (fun _ h9 => h9) rfl dX7_best_46 ?_
        refine lv_icmp_ge (tgt := 102) hx hb dX7_best_49 (by decide) (fun c_20 => ?_) (fun c_20 => ?_)
        · have fc_20 : cn.toInt ≤ i_40.toInt := zf_le c_20 rfl rfl
          refine lv_iload hx hb dX7_best_102 (lv_at hl 2 rfl) ?_
          exact W.iret (v := v_17) hx hb hr (fun t ht hW => ⟨⟨v_17, fr, rfl, ⟨(show ((s_.toInt < 0 ∨ 7 < s_.toInt) ∧ (v_17 : Int32).toInt = -11) ∨ ((0 ≤ s_.toInt ∧ s_.toInt ≤ 7) ∧ ∃ q : Int, zBelR he.toInt si.toInt fe q ∧ ((q ≠ 0 ∧ (v_17 : Int32).toInt = -q - 10) ∨ (q = 0 ∧ zBst fe kf af hu.toInt cn.toInt.toNat (v_17 : Int32).toInt))) from by (have h9 : i_40.toInt.toNat = cn.toInt.toNat := (by omega); have z := hvi_40_0; rw [h9] at z; exact Or.inr ⟨by omega, _, hsr_13_0, Or.inr ⟨by omega, z⟩⟩)), trivial⟩, zRet ht hP hD [0, 1, 2, 3, 4, 5, 6] (by decide) rfl⟩, hS.F ht⟩) hS.2.2 dX7_best_104
        · have fc_20 : i_40.toInt < cn.toInt := zf_nle c_20 rfl rfl
          refine lv_aload_n hx hb dX7_best_52 rfl (lv_at hl 5 rfl) ?_
          refine va_get (D := D) (ci := 7) (v := .ref j0) (C := RX7) (T := TX7) (N := 9) hx hb hts hi_X7_best_7 hown hK hP 0 rfl rfl 1 (by decide) (hts (.fieldLink RX7 18 "TheLiningsInIt" "now" "LTheLiningsInIt$Jacket;") (List.mem_of_getElem? (i := 1) rfl)) (fun _ h9 => h9) rfl dX7_best_53 ?_
          refine lv_iload hx hb dX7_best_56 (lv_at hl 0 rfl) ?_
          refine zc_Vq (As := [.int i_40]) (rest := []) ⟨hx, hb, hml, hown, hts⟩ (c_F_J_pullAt l D cI cJ cZ cP cS po j0 jp jc z0 0 0 (cn) (de) (tr) (se) (hu) (sd) fp kf af tf (i_40) hy9 hy10 hy11 hy12 hy13 hy14 hjp) (cwV 1 hts gX7_best_X0_pullAt rfl rfl rfl ⟨rfl, dh_X0_pullAt⟩ ⟨Nat.le_of_ble_eq_true rfl, Nat.le_of_ble_eq_true rfl⟩) hK hN (hZ.kept hS) hP (hP.sub [5, 6] rfl) (va_recv (q := (RX0, TX0, 9)) hK hP (ci := 0) (q0 := 5) rfl rfl) rfl hl.1 rfl (Nat.le_of_ble_eq_true rfl) dX7_best_58 ⟨Nat.le_of_ble_eq_true rfl, Nat.le_of_ble_eq_true rfl⟩ (fun r_21 hr_21 => ?_)
          rcases hr_21 with ⟨rfl, g_22⟩ | ⟨rfl, g_23, g_24⟩ | ⟨⟨u_26, kiu_26, au_26, tu_26, rfl, huu_26, hkku_26⟩, g_25⟩
          · exfalso; omega
          · exfalso; omega
          · refine W.eq (g2 := F0 m 61 ls (.ref u_26 :: [])) rfl ?_
            obtain ⟨hku_26, hau_26, htu_26⟩ := zPu_pr (hZ.kept hS) huu_26
            refine lv_astore (lv' := [(7, .ref u_26), (6, .int i_40), (5, .int v_18), (4, .int v_17), (3, .int r_13), (2, .ref h0), (0, .ref x0), (1, .int s_)]) hx hb dX7_best_61 hl (by decide) rfl (fun ls hl => ?_)
            refine lv_aload hx hb dX7_best_63 (lv_at hl 0 rfl) ?_
            refine lv_ifnonnull (tgt := 72) hx hb dX7_best_65 (by decide) ?_
            refine lv_aload_n hx hb dX7_best_72 rfl (lv_at hl 6 rfl) ?_
            refine lv_aload_n hx hb dX7_best_73 rfl (lv_at hl 5 rfl) ?_
            refine lv_aload hx hb dX7_best_74 (lv_at hl 0 rfl) ?_
            refine zc_V (As := [.ref h0, .ref u_26]) (rest := []) ⟨hx, hb, hml, hown, hts⟩ (c_F_X_freedWeight l D cI cJ cZ cP cS po x0 xs j0 k0 w0 rd mv xr (im) (lf) ((fun _ => 0)) j0 jp jc z0 0 0 (cn) (de) (tr) (se) (hu) (sd) h0 e0 (he) (si) fe u_26 (kiu_26) (au_26) (tu_26) huu_26 ⟨by omega, by omega, by omega, by omega⟩ hy0 hy1 hy2 hy3 hy9 hy10 hy11 hy12 hy13 hy14 hy4 hy5 hy6 hy7 (by have z := hsr_13_0; unfold zBelR at z; rcases z with z | z | z | z | z <;> first | exact z.2.2.1 | (exfalso; omega)) (by omega)) (cwV 2 hts gX7_best_X7_freedWeight rfl rfl rfl ⟨rfl, dh_X7_freedWeight⟩ ⟨Nat.le_of_ble_eq_true rfl, Nat.le_of_ble_eq_true rfl⟩) hK hN (hZ.kept hS) hP (hP.sub [0, 5, 3, 4] rfl) (va_recv (q := (RX7, TX7, 9)) hK hP (ci := 7) (q0 := 0) rfl rfl) rfl hl.1 rfl (Nat.le_of_ble_eq_true rfl) dX7_best_76 ⟨Nat.le_of_ble_eq_true rfl, Nat.le_of_ble_eq_true rfl⟩ (fun r_27 hr_27 => ?_)
            obtain ⟨g_28, g_29, hsr_27_0⟩ := hr_27
            refine lv_istore (lv' := [(8, .int r_27), (7, .ref u_26), (6, .int i_40), (5, .int v_18), (4, .int v_17), (3, .int r_13), (2, .ref h0), (0, .ref x0), (1, .int s_)]) hx hb dX7_best_79 hl (by decide) rfl (fun ls hl => ?_)
            refine lv_iload hx hb dX7_best_81 (lv_at hl 0 rfl) ?_
            refine lv_iload hx hb dX7_best_83 (lv_at hl 3 rfl) ?_
            refine lv_icmp_le (tgt := 96) hx hb dX7_best_85 (by decide) (fun c_30 => ?_) (fun c_30 => ?_)
            · have fc_30 : r_27.toInt ≤ v_18.toInt := zf_le c_30 rfl rfl
              obtain ⟨x_31, ex_31⟩ : ∃ y : Int32, y = i_40 + 1 := ⟨_, rfl⟩
              have qx_31 : x_31.toInt = i_40.toInt + 1 := dw_inc ex_31 fc_20
              refine lv_iinc (v := x_31) (lv' := [(6, .int x_31), (8, .int r_27), (7, .ref u_26), (5, .int v_18), (4, .int v_17), (3, .int r_13), (2, .ref h0), (0, .ref x0), (1, .int s_)]) hx hb dX7_best_96 hl (k := 2) rfl ex_31.symm (by decide) rfl (fun ls hl => ?_)
              refine lv_goto (tgt := 40) hx hb dX7_best_99 (by decide) ?_
              exact ih x_31 v_17 v_18 _ _ _ (hP.sub [0, 1, 2, 3, 4, 5, 6] rfl) (hD.sub [0, 1, 2, 3, 4, 5, 6] (by decide) rfl) hS (lv_sub hl [0, 3, 4, 5, 6, 7, 8] rfl) hbv_17 hbv_18 (show zBst fe kf af hu.toInt x_31.toInt.toNat (v_17 : Int32).toInt from by (obtain ⟨⟨y1, y2, y3⟩, y4, y5⟩ := hkku_26; have y9 : i_40.toNatClampNeg = i_40.toInt.toNat := rfl; rw [y9] at y1 y2; have yr := hsr_27_0; rw [y1, y2] at yr; rw [show x_31.toInt.toNat = i_40.toInt.toNat + 1 from by omega]; obtain ⟨z1, z2⟩ := zBst_S hvi_40_0; have z3 := hvi_40_1; first | (have z4 := z1 (by rcases z3 with z3 | ⟨z3, z5⟩; (exact Or.inl (by omega)); (exact Or.inr ⟨v_17.toInt.toNat, by omega, by omega, by omega⟩)); rw [show ((i_40.toInt.toNat : Nat) : Int) = i_40.toInt from by omega] at z4; exact z4) | (exact z2 (by rcases z3 with z3 | ⟨z3, z5⟩; (exfalso; omega); (exact ⟨v_17.toInt.toNat, by omega, by omega, by omega⟩))))) (show ((x_31.toInt = 0 ∧ (v_17 : Int32).toInt = -1 ∧ (v_18 : Int32).toInt = -1) ∨ (0 ≤ (v_17 : Int32).toInt ∧ (v_18 : Int32).toInt = zFd fe (kf (v_17 : Int32).toInt.toNat).toInt (af (v_17 : Int32).toInt.toNat).toInt hu.toInt 24)) from by (obtain ⟨⟨y1, y2, y3⟩, y4, y5⟩ := hkku_26; have y9 : i_40.toNatClampNeg = i_40.toInt.toNat := rfl; rw [y9] at y1 y2; have yr := hsr_27_0; rw [y1, y2] at yr; have z3 := hvi_40_1; first | (refine Or.inr ⟨by omega, ?_⟩; omega) | (rcases z3 with z3 | z3; (exfalso; omega); (exact Or.inr ⟨by omega, z3.2⟩)))) (show ((v_17 : Int32).toInt < x_31.toInt ∧ x_31.toInt ≤ cn.toInt) from by exact ⟨by omega, by omega⟩) (dw_lo hloi_40 qx_31) (dw_hn hni_40 qx_31)
            · have fc_30 : v_18.toInt < r_27.toInt := zf_nle c_30 rfl rfl
              refine lv_iload hx hb dX7_best_88 (lv_at hl 0 rfl) ?_
              refine lv_istore (lv' := [(5, .int r_27), (8, .int r_27), (7, .ref u_26), (6, .int i_40), (4, .int v_17), (3, .int r_13), (2, .ref h0), (0, .ref x0), (1, .int s_)]) hx hb dX7_best_90 hl (by decide) rfl (fun ls hl => ?_)
              refine lv_iload hx hb dX7_best_92 (lv_at hl 3 rfl) ?_
              refine lv_istore (lv' := [(4, .int i_40), (5, .int r_27), (8, .int r_27), (7, .ref u_26), (6, .int i_40), (3, .int r_13), (2, .ref h0), (0, .ref x0), (1, .int s_)]) hx hb dX7_best_94 hl (by decide) rfl (fun ls hl => ?_)
              obtain ⟨x_32, ex_32⟩ : ∃ y : Int32, y = i_40 + 1 := ⟨_, rfl⟩
              have qx_32 : x_32.toInt = i_40.toInt + 1 := dw_inc ex_32 fc_20
              refine lv_iinc (v := x_32) (lv' := [(6, .int x_32), (4, .int i_40), (5, .int r_27), (8, .int r_27), (7, .ref u_26), (3, .int r_13), (2, .ref h0), (0, .ref x0), (1, .int s_)]) hx hb dX7_best_96 hl (k := 4) rfl ex_32.symm (by decide) rfl (fun ls hl => ?_)
              refine lv_goto (tgt := 40) hx hb dX7_best_99 (by decide) ?_
              exact ih x_32 i_40 r_27 _ _ _ (hP.sub [0, 1, 2, 3, 4, 5, 6] rfl) (hD.sub [0, 1, 2, 3, 4, 5, 6] (by decide) rfl) hS (lv_sub hl [0, 2, 1, 5, 6, 7, 8] rfl) ⟨by omega, by omega⟩ ⟨by omega, by omega⟩ (show zBst fe kf af hu.toInt x_32.toInt.toNat (i_40 : Int32).toInt from by (obtain ⟨⟨y1, y2, y3⟩, y4, y5⟩ := hkku_26; have y9 : i_40.toNatClampNeg = i_40.toInt.toNat := rfl; rw [y9] at y1 y2; have yr := hsr_27_0; rw [y1, y2] at yr; rw [show x_32.toInt.toNat = i_40.toInt.toNat + 1 from by omega]; obtain ⟨z1, z2⟩ := zBst_S hvi_40_0; have z3 := hvi_40_1; first | (have z4 := z1 (by rcases z3 with z3 | ⟨z3, z5⟩; (exact Or.inl (by omega)); (exact Or.inr ⟨v_17.toInt.toNat, by omega, by omega, by omega⟩)); rw [show ((i_40.toInt.toNat : Nat) : Int) = i_40.toInt from by omega] at z4; exact z4) | (exact z2 (by rcases z3 with z3 | ⟨z3, z5⟩; (exfalso; omega); (exact ⟨v_17.toInt.toNat, by omega, by omega, by omega⟩))))) (show ((x_32.toInt = 0 ∧ (i_40 : Int32).toInt = -1 ∧ (r_27 : Int32).toInt = -1) ∨ (0 ≤ (i_40 : Int32).toInt ∧ (r_27 : Int32).toInt = zFd fe (kf (i_40 : Int32).toInt.toNat).toInt (af (i_40 : Int32).toInt.toNat).toInt hu.toInt 24)) from by (obtain ⟨⟨y1, y2, y3⟩, y4, y5⟩ := hkku_26; have y9 : i_40.toNatClampNeg = i_40.toInt.toNat := rfl; rw [y9] at y1 y2; have yr := hsr_27_0; rw [y1, y2] at yr; have z3 := hvi_40_1; first | (refine Or.inr ⟨by omega, ?_⟩; omega) | (rcases z3 with z3 | z3; (exfalso; omega); (exact Or.inr ⟨by omega, z3.2⟩)))) (show ((i_40 : Int32).toInt < x_32.toInt ∧ x_32.toInt ≤ cn.toInt) from by exact ⟨by omega, by omega⟩) (dw_lo hloi_40 qx_32) (dw_hn hni_40 qx_32)
    · have fc_16 : r_13.toInt ≠ 0 := zf_ne c_16 rfl (by decide)
      refine lv_aload_n hx hb dX7_best_25 rfl (lv_at hl 2 rfl) ?_
      refine lv_iload_n hx hb dX7_best_26 rfl (lv_at hl 0 rfl) ?_
      skip
      refine zw_V (As := [.int r_13]) (rest := []) (wr := [(xs, .inl (cS, 8, .inr (.inr (.inr (.inr fh))))), (h0, .inr (4, [.ref e0, .int he, .int si])), (e0, .inl (cJ, 160, .inr (.inl fe))), (j0, .inr (0, [.ref z0, .ref jp, .ref jc, .int cn, .int de, .int tr, .int se, .int hu, .int sd])), (jp, .inl (cP, 8, .inr (.inr (.inr (.inr fp)))))]) ⟨hx, hb, hml, hown, hts⟩ (c_X_refuseLower l D cI cJ cZ cP cS po x0 xs j0 k0 w0 rd mv xr (im) (lf) fr (r_13) hy0 hy1 hy2 hy3 (by omega) (by omega) H.size) (cwV 1 hts gX7_best_X7_refuseLower rfl rfl rfl ⟨rfl, dh_X7_refuseLower⟩ ⟨Nat.le_of_ble_eq_true rfl, Nat.le_of_ble_eq_true rfl⟩) hK hN (hZ.kept hS) hP hD hS hA [0, 1] [2, 3, 4, 5, 6] rfl rfl (by decide) (by decide) (by decide) (va_recv (q := (RX7, TX7, 9)) hK hP (ci := 7) (q0 := 0) rfl rfl) rfl hl.1 rfl (Nat.le_of_ble_eq_true rfl) dX7_best_27 ⟨Nat.le_of_ble_eq_true rfl, Nat.le_of_ble_eq_true rfl⟩ (fun r_33 u_34 H locs hr_33 hP hD hS => ?_)
      obtain ⟨q_35, rfl⟩ : ∃ z, z = u_34 := ⟨_, rfl⟩
      obtain ⟨hsr_33_0, hr_33⟩ := hr_33
      have h9R := zRe (ws' := [(xs, .inl (cS, 8, .inr (.inr (.inr (.inr fh))))), (h0, .inr (4, [.ref e0, .int he, .int si])), (e0, .inl (cJ, 160, .inr (.inl fe))), (j0, .inr (0, [.ref z0, .ref jp, .ref jc, .int cn, .int de, .int tr, .int se, .int hu, .int sd])), (jp, .inl (cP, 8, .inr (.inr (.inr (.inr fp))))), (x0, .inr (7, [.ref xs, .ref j0, .ref k0, .ref w0, .ref rd, .ref mv, .ref xr, .int im, .int lf])), (xr, .inl (cI, 8, .inl q_35))]) hP hD rfl
      clear hP hD
      obtain ⟨hP, hD⟩ := h9R
      obtain ⟨g_36, g_37⟩ := hr_33
      exact W.iret (v := r_33) hx hb hr (fun t ht hW => ⟨⟨r_33, q_35, rfl, ⟨(show ((s_.toInt < 0 ∨ 7 < s_.toInt) ∧ (r_33 : Int32).toInt = -11) ∨ ((0 ≤ s_.toInt ∧ s_.toInt ≤ 7) ∧ ∃ q : Int, zBelR he.toInt si.toInt fe q ∧ ((q ≠ 0 ∧ (r_33 : Int32).toInt = -q - 10) ∨ (q = 0 ∧ zBst fe kf af hu.toInt cn.toInt.toNat (r_33 : Int32).toInt))) from by (exact Or.inr ⟨by omega, _, hsr_13_0, Or.inl ⟨by omega, by omega⟩⟩)), trivial⟩, zRet ht hP hD [5, 6, 0, 1, 2, 3, 4] (by decide) rfl⟩, hS.F ht⟩) hS.2.2 dX7_best_30
set_option maxHeartbeats 4000000 in
set_option maxRecDepth 100000 in
theorem c_F_X_behind (l : Launch) (D : va_G) (cI cJ cZ cP cS : ClassId) (po : zPool) (x0 xs j0 k0 w0 rd mv xr : Nat) (im lf : Int32) (fr : Nat → Int32) (fh : Nat → Option Nat) (s_ : Int32) (h0 e0 : Nat) (he si : Int32) (fe : Nat → Int64) (j0 jp jc z0 zl zs : Nat) (cn de tr se hu sd : Int32) (fp : Nat → Option Nat) (kf af tf : Nat → Int32) (p_ d : Int32) (hy0 : 0 ≤ im.toInt) (hy1 : im.toInt ≤ 1) (hy2 : (-1) ≤ lf.toInt) (hy3 : lf.toInt ≤ 160) (hy4 : (-1) ≤ he.toInt) (hy5 : he.toInt ≤ 103) (hy6 : 0 ≤ si.toInt) (hy7 : si.toInt ≤ 160) (hfs : 0 ≤ s_.toInt → s_.toInt ≤ 7 → fh s_.toNatClampNeg = some h0) (hy9 : 0 ≤ cn.toInt) (hy10 : cn.toInt ≤ 8) (hy11 : 0 ≤ de.toInt) (hy12 : de.toInt ≤ 24) (hy13 : 0 ≤ hu.toInt) (hy14 : hu.toInt ≤ 9) (hjp : zJP po fp cn kf af tf) (hpz : Nat) : Met l yX7_behind wsX7_behind ({ frames := 4, cells := 0, slots := 0, locals := 88 }) (va_Pc [.ref x0, .int s_, .int p_, .int d] (zW D (zKT cI cJ cZ cP cS) po [(x0, .inr (7, [.ref xs, .ref j0, .ref k0, .ref w0, .ref rd, .ref mv, .ref xr, .int im, .int lf])), (xr, .inl (cI, 8, .inl fr)), (xs, .inl (cS, 8, .inr (.inr (.inr (.inr fh))))), (h0, .inr (4, [.ref e0, .int he, .int si])), (e0, .inl (cJ, 160, .inr (.inl fe))), (j0, .inr (0, [.ref z0, .ref jp, .ref jc, .int cn, .int de, .int tr, .int se, .int hu, .int sd])), (jp, .inl (cP, 8, .inr (.inr (.inr (.inr fp)))))] hpz)) (va_Qi (fun (r : Int32) (fr2 : (Nat → Int32)) => (((s_.toInt < 0 ∨ 7 < s_.toInt ∨ p_.toInt < 0 ∨ cn.toInt ≤ p_.toInt) ∧ r.toInt = -1) ∨ ((0 ≤ s_.toInt ∧ s_.toInt ≤ 7) ∧ (0 ≤ p_.toInt ∧ p_.toInt < cn.toInt) ∧ ∃ q : Int, zBelR he.toInt si.toInt fe q ∧ ((q ≠ 0 ∧ r.toInt = -q) ∨ (q = 0 ∧ (((d.toInt < 0 ∨ 24 < d.toInt) ∧ r.toInt = -6) ∨ ((0 ≤ d.toInt ∧ d.toInt ≤ 24) ∧ r.toInt = zBh fe (kf p_.toNatClampNeg).toInt (af p_.toNatClampNeg).toInt hu.toInt d.toInt 24)))))) ∧ (True)) (zB D [(x0, .inr (7, [.ref xs, .ref j0, .ref k0, .ref w0, .ref rd, .ref mv, .ref xr, .int im, .int lf])), (xr, .inl (cI, 8, .inl fr)), (xs, .inl (cS, 8, .inr (.inr (.inr (.inr fh))))), (h0, .inr (4, [.ref e0, .int he, .int si])), (e0, .inl (cJ, 160, .inr (.inl fe))), (j0, .inr (0, [.ref z0, .ref jp, .ref jc, .int cn, .int de, .int tr, .int se, .int hu, .int sd])), (jp, .inl (cP, 8, .inr (.inr (.inr (.inr fp)))))] hpz (fun (fr2 : Nat → Int32) => [(x0, .inr (7, [.ref xs, .ref j0, .ref k0, .ref w0, .ref rd, .ref mv, .ref xr, .int im, .int lf])), (xr, .inl (cI, 8, .inl fr2)), (xs, .inl (cS, 8, .inr (.inr (.inr (.inr fh))))), (h0, .inr (4, [.ref e0, .int he, .int si])), (e0, .inl (cJ, 160, .inr (.inl fe))), (j0, .inr (0, [.ref z0, .ref jp, .ref jc, .int cn, .int de, .int tr, .int se, .int hu, .int sd])), (jp, .inl (cP, 8, .inr (.inr (.inr (.inr fp)))))])) (va_A [(x0, .inr (7, [.ref xs, .ref j0, .ref k0, .ref w0, .ref rd, .ref mv, .ref xr, .int im, .int lf])), (xr, .inl (cI, 8, .inl fr)), (xs, .inl (cS, 8, .inr (.inr (.inr (.inr fh))))), (h0, .inr (4, [.ref e0, .int he, .int si])), (e0, .inl (cJ, 160, .inr (.inl fe))), (j0, .inr (0, [.ref z0, .ref jp, .ref jc, .int cn, .int de, .int tr, .int se, .int hu, .int sd])), (jp, .inl (cP, 8, .inr (.inr (.inr (.inr fp)))))] hpz)) 0 0 (va_A [(x0, .inr (7, [.ref xs, .ref j0, .ref k0, .ref w0, .ref rd, .ref mv, .ref xr, .int im, .int lf])), (xr, .inl (cI, 8, .inl fr)), (xs, .inl (cS, 8, .inr (.inr (.inr (.inr fh))))), (h0, .inr (4, [.ref e0, .int he, .int si])), (e0, .inl (cJ, 160, .inr (.inl fe))), (j0, .inr (0, [.ref z0, .ref jp, .ref jc, .int cn, .int de, .int tr, .int se, .int hu, .int sd])), (jp, .inl (cP, 8, .inr (.inr (.inr (.inr fp)))))] hpz) := by
  refine Met.ofW (cc := cX7_behind) (maxL := 10) (ret := (some .int)) (by decide) rfl ?_
  intro p e s m args below meth c s₁ B hml hv
  obtain ⟨rfl, hsz, hP, hK, hD0, hN, hZ⟩ := hv
  have hx := B.exec
  have hb := B.bytes
  have hr := B.returns
  have hts := atoms_spec (ws := wsX7_behind) B.pre
  have hown : s.vm.findClass RX7 = some m.cls := findClass_of_methodNamed B.named
  have hlocks := B.notSynchronized
  subst hsz
  have hD := hD0.self (sz := s.heap.size)
  have hA := zA_of hD
  have hl := lv_entry ([.ref x0, .int s_, .int p_, .int d]) (n := 10) (Nat.le_of_ble_eq_true rfl)
  rw [lg_entry_eq]
  generalize (lg_sl ([.ref x0, .int s_, .int p_, .int d]) ++ List.replicate (10 - (lg_sl ([.ref x0, .int s_, .int p_, .int d])).length) Slot.unset).toArray = ls at hl ⊢
  replace hl : lv_has ls 10 [(0, .ref x0), (1, .int s_), (2, .int p_), (3, .int d)] := hl
  refine zw_begin hP hD (fun H locs hP1 hS => ?_)
  clear hP
  have hP := hP1
  clear hP1
  refine lv_aload_n hx hb dX7_behind_0 rfl (lv_at hl 0 rfl) ?_
  refine lv_iload_n hx hb dX7_behind_1 rfl (lv_at hl 1 rfl) ?_
  refine zc_Vq (As := [.int s_]) (rest := []) ⟨hx, hb, hml, hown, hts⟩ (c_X_shelfAt l D cI cJ cZ cP cS po x0 xs j0 k0 w0 rd mv xr (im) (lf) ((fun _ => 0)) fh (s_) hy0 hy1 hy2 hy3) (cwV 1 hts gX7_behind_X7_shelfAt rfl rfl rfl ⟨rfl, dh_X7_shelfAt⟩ ⟨Nat.le_of_ble_eq_true rfl, Nat.le_of_ble_eq_true rfl⟩) hK hN (hZ.kept hS) hP (hP.sub [0, 2] rfl) (va_recv (q := (RX7, TX7, 9)) hK hP (ci := 7) (q0 := 0) rfl rfl) rfl hl.1 rfl (Nat.le_of_ble_eq_true rfl) dX7_behind_2 ⟨Nat.le_of_ble_eq_true rfl, Nat.le_of_ble_eq_true rfl⟩ (fun r_1 hr_1 => ?_)
  rcases hr_1 with ⟨rfl, g_2⟩ | ⟨rfl, g_3, g_4⟩ | ⟨rfl, g_5, g_6⟩
  · refine lv_astoreN (lv' := [(4, .null), (0, .ref x0), (1, .int s_), (2, .int p_), (3, .int d)]) hx hb dX7_behind_5 hl (by decide) rfl (fun ls hl => ?_)
    refine lv_aload_n hx hb dX7_behind_7 rfl (lv_at hl 1 rfl) ?_
    refine va_get (D := D) (ci := 7) (v := .ref j0) (C := RX7) (T := TX7) (N := 9) hx hb hts hi_X7_behind_7 hown hK hP 0 rfl rfl 1 (by decide) (hts (.fieldLink RX7 18 "TheLiningsInIt" "now" "LTheLiningsInIt$Jacket;") (List.mem_of_getElem? (i := 1) rfl)) (fun _ h9 => h9) rfl dX7_behind_8 ?_
    refine lv_iload_n hx hb dX7_behind_11 rfl (lv_at hl 3 rfl) ?_
    refine zc_Vq (As := [.int p_]) (rest := []) ⟨hx, hb, hml, hown, hts⟩ (c_F_J_pullAt l D cI cJ cZ cP cS po j0 jp jc z0 0 0 (cn) (de) (tr) (se) (hu) (sd) fp kf af tf (p_) hy9 hy10 hy11 hy12 hy13 hy14 hjp) (cwV 1 hts gX7_behind_X0_pullAt rfl rfl rfl ⟨rfl, dh_X0_pullAt⟩ ⟨Nat.le_of_ble_eq_true rfl, Nat.le_of_ble_eq_true rfl⟩) hK hN (hZ.kept hS) hP (hP.sub [5, 6] rfl) (va_recv (q := (RX0, TX0, 9)) hK hP (ci := 0) (q0 := 5) rfl rfl) rfl hl.1 rfl (Nat.le_of_ble_eq_true rfl) dX7_behind_12 ⟨Nat.le_of_ble_eq_true rfl, Nat.le_of_ble_eq_true rfl⟩ (fun r_7 hr_7 => ?_)
    rcases hr_7 with ⟨rfl, g_8⟩ | ⟨rfl, g_9, g_10⟩ | ⟨⟨u_12, kiu_12, au_12, tu_12, rfl, huu_12, hkku_12⟩, g_11⟩
    · refine lv_astoreN (lv' := [(5, .null), (4, .null), (0, .ref x0), (1, .int s_), (2, .int p_), (3, .int d)]) hx hb dX7_behind_15 hl (by decide) rfl (fun ls hl => ?_)
      refine lv_aloadN hx hb dX7_behind_17 (lv_at hl 1 rfl) ?_
      refine lv_ifnullN (tgt := 27) hx hb dX7_behind_19 (by decide) ?_
      refine lv_aload_n hx hb dX7_behind_27 rfl (lv_at hl 2 rfl) ?_
      refine lv_iconst (v := 1) hx hb dX7_behind_28 (by decide) ?_
      skip
      refine zw_V (As := [.int 1]) (rest := []) (wr := [(xs, .inl (cS, 8, .inr (.inr (.inr (.inr fh))))), (h0, .inr (4, [.ref e0, .int he, .int si])), (e0, .inl (cJ, 160, .inr (.inl fe))), (j0, .inr (0, [.ref z0, .ref jp, .ref jc, .int cn, .int de, .int tr, .int se, .int hu, .int sd])), (jp, .inl (cP, 8, .inr (.inr (.inr (.inr fp)))))]) ⟨hx, hb, hml, hown, hts⟩ (c_X_refuse_1 l D cI cJ cZ cP cS po x0 xs j0 k0 w0 rd mv xr (im) (lf) fr hy0 hy1 hy2 hy3 H.size) (cwV 1 hts gX7_behind_X7_refuse rfl rfl rfl ⟨rfl, dh_X7_refuse⟩ ⟨Nat.le_of_ble_eq_true rfl, Nat.le_of_ble_eq_true rfl⟩) hK hN (hZ.kept hS) hP hD hS hA [0, 1] [2, 3, 4, 5, 6] rfl rfl (by decide) (by decide) (by decide) (va_recv (q := (RX7, TX7, 9)) hK hP (ci := 7) (q0 := 0) rfl rfl) rfl hl.1 rfl (Nat.le_of_ble_eq_true rfl) dX7_behind_29 ⟨Nat.le_of_ble_eq_true rfl, Nat.le_of_ble_eq_true rfl⟩ (fun r_13 u_14 H locs hr_13 hP hD hS => ?_)
      obtain ⟨q_15, rfl⟩ : ∃ z, z = u_14 := ⟨_, rfl⟩
      have h9R := zRe (ws' := [(xs, .inl (cS, 8, .inr (.inr (.inr (.inr fh))))), (h0, .inr (4, [.ref e0, .int he, .int si])), (e0, .inl (cJ, 160, .inr (.inl fe))), (j0, .inr (0, [.ref z0, .ref jp, .ref jc, .int cn, .int de, .int tr, .int se, .int hu, .int sd])), (jp, .inl (cP, 8, .inr (.inr (.inr (.inr fp))))), (x0, .inr (7, [.ref xs, .ref j0, .ref k0, .ref w0, .ref rd, .ref mv, .ref xr, .int im, .int lf])), (xr, .inl (cI, 8, .inl q_15))]) hP hD rfl
      clear hP hD
      obtain ⟨hP, hD⟩ := h9R
      obtain rfl := hr_13
      exact W.iret (v := (-1)) hx hb hr (fun t ht hW => ⟨⟨(-1), q_15, rfl, ⟨(show ((s_.toInt < 0 ∨ 7 < s_.toInt ∨ p_.toInt < 0 ∨ cn.toInt ≤ p_.toInt) ∧ ((-1) : Int32).toInt = -1) ∨ ((0 ≤ s_.toInt ∧ s_.toInt ≤ 7) ∧ (0 ≤ p_.toInt ∧ p_.toInt < cn.toInt) ∧ ∃ q : Int, zBelR he.toInt si.toInt fe q ∧ ((q ≠ 0 ∧ ((-1) : Int32).toInt = -q) ∨ (q = 0 ∧ (((d.toInt < 0 ∨ 24 < d.toInt) ∧ ((-1) : Int32).toInt = -6) ∨ ((0 ≤ d.toInt ∧ d.toInt ≤ 24) ∧ ((-1) : Int32).toInt = zBh fe (kf p_.toNatClampNeg).toInt (af p_.toNatClampNeg).toInt hu.toInt d.toInt 24))))) from by (have k1m : ((-1) : Int32).toInt = -1 := (by decide); exact Or.inl (by omega))), trivial⟩, zRet ht hP hD [5, 6, 0, 1, 2, 3, 4] (by decide) rfl⟩, hS.F ht⟩) hS.2.2 dX7_behind_32
    · refine lv_astoreN (lv' := [(5, .null), (4, .null), (0, .ref x0), (1, .int s_), (2, .int p_), (3, .int d)]) hx hb dX7_behind_15 hl (by decide) rfl (fun ls hl => ?_)
      refine lv_aloadN hx hb dX7_behind_17 (lv_at hl 1 rfl) ?_
      refine lv_ifnullN (tgt := 27) hx hb dX7_behind_19 (by decide) ?_
      refine lv_aload_n hx hb dX7_behind_27 rfl (lv_at hl 2 rfl) ?_
      refine lv_iconst (v := 1) hx hb dX7_behind_28 (by decide) ?_
      skip
      refine zw_V (As := [.int 1]) (rest := []) (wr := [(xs, .inl (cS, 8, .inr (.inr (.inr (.inr fh))))), (h0, .inr (4, [.ref e0, .int he, .int si])), (e0, .inl (cJ, 160, .inr (.inl fe))), (j0, .inr (0, [.ref z0, .ref jp, .ref jc, .int cn, .int de, .int tr, .int se, .int hu, .int sd])), (jp, .inl (cP, 8, .inr (.inr (.inr (.inr fp)))))]) ⟨hx, hb, hml, hown, hts⟩ (c_X_refuse_1 l D cI cJ cZ cP cS po x0 xs j0 k0 w0 rd mv xr (im) (lf) fr hy0 hy1 hy2 hy3 H.size) (cwV 1 hts gX7_behind_X7_refuse rfl rfl rfl ⟨rfl, dh_X7_refuse⟩ ⟨Nat.le_of_ble_eq_true rfl, Nat.le_of_ble_eq_true rfl⟩) hK hN (hZ.kept hS) hP hD hS hA [0, 1] [2, 3, 4, 5, 6] rfl rfl (by decide) (by decide) (by decide) (va_recv (q := (RX7, TX7, 9)) hK hP (ci := 7) (q0 := 0) rfl rfl) rfl hl.1 rfl (Nat.le_of_ble_eq_true rfl) dX7_behind_29 ⟨Nat.le_of_ble_eq_true rfl, Nat.le_of_ble_eq_true rfl⟩ (fun r_16 u_17 H locs hr_16 hP hD hS => ?_)
      obtain ⟨q_18, rfl⟩ : ∃ z, z = u_17 := ⟨_, rfl⟩
      have h9R := zRe (ws' := [(xs, .inl (cS, 8, .inr (.inr (.inr (.inr fh))))), (h0, .inr (4, [.ref e0, .int he, .int si])), (e0, .inl (cJ, 160, .inr (.inl fe))), (j0, .inr (0, [.ref z0, .ref jp, .ref jc, .int cn, .int de, .int tr, .int se, .int hu, .int sd])), (jp, .inl (cP, 8, .inr (.inr (.inr (.inr fp))))), (x0, .inr (7, [.ref xs, .ref j0, .ref k0, .ref w0, .ref rd, .ref mv, .ref xr, .int im, .int lf])), (xr, .inl (cI, 8, .inl q_18))]) hP hD rfl
      clear hP hD
      obtain ⟨hP, hD⟩ := h9R
      obtain rfl := hr_16
      exact W.iret (v := (-1)) hx hb hr (fun t ht hW => ⟨⟨(-1), q_18, rfl, ⟨(show ((s_.toInt < 0 ∨ 7 < s_.toInt ∨ p_.toInt < 0 ∨ cn.toInt ≤ p_.toInt) ∧ ((-1) : Int32).toInt = -1) ∨ ((0 ≤ s_.toInt ∧ s_.toInt ≤ 7) ∧ (0 ≤ p_.toInt ∧ p_.toInt < cn.toInt) ∧ ∃ q : Int, zBelR he.toInt si.toInt fe q ∧ ((q ≠ 0 ∧ ((-1) : Int32).toInt = -q) ∨ (q = 0 ∧ (((d.toInt < 0 ∨ 24 < d.toInt) ∧ ((-1) : Int32).toInt = -6) ∨ ((0 ≤ d.toInt ∧ d.toInt ≤ 24) ∧ ((-1) : Int32).toInt = zBh fe (kf p_.toNatClampNeg).toInt (af p_.toNatClampNeg).toInt hu.toInt d.toInt 24))))) from by (have k1m : ((-1) : Int32).toInt = -1 := (by decide); exact Or.inl (by omega))), trivial⟩, zRet ht hP hD [5, 6, 0, 1, 2, 3, 4] (by decide) rfl⟩, hS.F ht⟩) hS.2.2 dX7_behind_32
    · refine W.eq (g2 := F0 m 15 ls (.ref u_12 :: [])) rfl ?_
      obtain ⟨hku_12, hau_12, htu_12⟩ := zPu_pr (hZ.kept hS) huu_12
      refine lv_astore (lv' := [(5, .ref u_12), (4, .null), (0, .ref x0), (1, .int s_), (2, .int p_), (3, .int d)]) hx hb dX7_behind_15 hl (by decide) rfl (fun ls hl => ?_)
      refine lv_aloadN hx hb dX7_behind_17 (lv_at hl 1 rfl) ?_
      refine lv_ifnullN (tgt := 27) hx hb dX7_behind_19 (by decide) ?_
      refine lv_aload_n hx hb dX7_behind_27 rfl (lv_at hl 2 rfl) ?_
      refine lv_iconst (v := 1) hx hb dX7_behind_28 (by decide) ?_
      skip
      refine zw_V (As := [.int 1]) (rest := []) (wr := [(xs, .inl (cS, 8, .inr (.inr (.inr (.inr fh))))), (h0, .inr (4, [.ref e0, .int he, .int si])), (e0, .inl (cJ, 160, .inr (.inl fe))), (j0, .inr (0, [.ref z0, .ref jp, .ref jc, .int cn, .int de, .int tr, .int se, .int hu, .int sd])), (jp, .inl (cP, 8, .inr (.inr (.inr (.inr fp)))))]) ⟨hx, hb, hml, hown, hts⟩ (c_X_refuse_1 l D cI cJ cZ cP cS po x0 xs j0 k0 w0 rd mv xr (im) (lf) fr hy0 hy1 hy2 hy3 H.size) (cwV 1 hts gX7_behind_X7_refuse rfl rfl rfl ⟨rfl, dh_X7_refuse⟩ ⟨Nat.le_of_ble_eq_true rfl, Nat.le_of_ble_eq_true rfl⟩) hK hN (hZ.kept hS) hP hD hS hA [0, 1] [2, 3, 4, 5, 6] rfl rfl (by decide) (by decide) (by decide) (va_recv (q := (RX7, TX7, 9)) hK hP (ci := 7) (q0 := 0) rfl rfl) rfl hl.1 rfl (Nat.le_of_ble_eq_true rfl) dX7_behind_29 ⟨Nat.le_of_ble_eq_true rfl, Nat.le_of_ble_eq_true rfl⟩ (fun r_19 u_20 H locs hr_19 hP hD hS => ?_)
      obtain ⟨q_21, rfl⟩ : ∃ z, z = u_20 := ⟨_, rfl⟩
      have h9R := zRe (ws' := [(xs, .inl (cS, 8, .inr (.inr (.inr (.inr fh))))), (h0, .inr (4, [.ref e0, .int he, .int si])), (e0, .inl (cJ, 160, .inr (.inl fe))), (j0, .inr (0, [.ref z0, .ref jp, .ref jc, .int cn, .int de, .int tr, .int se, .int hu, .int sd])), (jp, .inl (cP, 8, .inr (.inr (.inr (.inr fp))))), (x0, .inr (7, [.ref xs, .ref j0, .ref k0, .ref w0, .ref rd, .ref mv, .ref xr, .int im, .int lf])), (xr, .inl (cI, 8, .inl q_21))]) hP hD rfl
      clear hP hD
      obtain ⟨hP, hD⟩ := h9R
      obtain rfl := hr_19
      exact W.iret (v := (-1)) hx hb hr (fun t ht hW => ⟨⟨(-1), q_21, rfl, ⟨(show ((s_.toInt < 0 ∨ 7 < s_.toInt ∨ p_.toInt < 0 ∨ cn.toInt ≤ p_.toInt) ∧ ((-1) : Int32).toInt = -1) ∨ ((0 ≤ s_.toInt ∧ s_.toInt ≤ 7) ∧ (0 ≤ p_.toInt ∧ p_.toInt < cn.toInt) ∧ ∃ q : Int, zBelR he.toInt si.toInt fe q ∧ ((q ≠ 0 ∧ ((-1) : Int32).toInt = -q) ∨ (q = 0 ∧ (((d.toInt < 0 ∨ 24 < d.toInt) ∧ ((-1) : Int32).toInt = -6) ∨ ((0 ≤ d.toInt ∧ d.toInt ≤ 24) ∧ ((-1) : Int32).toInt = zBh fe (kf p_.toNatClampNeg).toInt (af p_.toNatClampNeg).toInt hu.toInt d.toInt 24))))) from by (obtain ⟨-, y4, y5⟩ := hkku_12; have k1m : ((-1) : Int32).toInt = -1 := (by decide); exact Or.inl (by omega))), trivial⟩, zRet ht hP hD [5, 6, 0, 1, 2, 3, 4] (by decide) rfl⟩, hS.F ht⟩) hS.2.2 dX7_behind_32
  · refine lv_astoreN (lv' := [(4, .null), (0, .ref x0), (1, .int s_), (2, .int p_), (3, .int d)]) hx hb dX7_behind_5 hl (by decide) rfl (fun ls hl => ?_)
    refine lv_aload_n hx hb dX7_behind_7 rfl (lv_at hl 1 rfl) ?_
    refine va_get (D := D) (ci := 7) (v := .ref j0) (C := RX7) (T := TX7) (N := 9) hx hb hts hi_X7_behind_7 hown hK hP 0 rfl rfl 1 (by decide) (hts (.fieldLink RX7 18 "TheLiningsInIt" "now" "LTheLiningsInIt$Jacket;") (List.mem_of_getElem? (i := 1) rfl)) (fun _ h9 => h9) rfl dX7_behind_8 ?_
    refine lv_iload_n hx hb dX7_behind_11 rfl (lv_at hl 3 rfl) ?_
    refine zc_Vq (As := [.int p_]) (rest := []) ⟨hx, hb, hml, hown, hts⟩ (c_F_J_pullAt l D cI cJ cZ cP cS po j0 jp jc z0 0 0 (cn) (de) (tr) (se) (hu) (sd) fp kf af tf (p_) hy9 hy10 hy11 hy12 hy13 hy14 hjp) (cwV 1 hts gX7_behind_X0_pullAt rfl rfl rfl ⟨rfl, dh_X0_pullAt⟩ ⟨Nat.le_of_ble_eq_true rfl, Nat.le_of_ble_eq_true rfl⟩) hK hN (hZ.kept hS) hP (hP.sub [5, 6] rfl) (va_recv (q := (RX0, TX0, 9)) hK hP (ci := 0) (q0 := 5) rfl rfl) rfl hl.1 rfl (Nat.le_of_ble_eq_true rfl) dX7_behind_12 ⟨Nat.le_of_ble_eq_true rfl, Nat.le_of_ble_eq_true rfl⟩ (fun r_22 hr_22 => ?_)
    rcases hr_22 with ⟨rfl, g_23⟩ | ⟨rfl, g_24, g_25⟩ | ⟨⟨u_27, kiu_27, au_27, tu_27, rfl, huu_27, hkku_27⟩, g_26⟩
    · refine lv_astoreN (lv' := [(5, .null), (4, .null), (0, .ref x0), (1, .int s_), (2, .int p_), (3, .int d)]) hx hb dX7_behind_15 hl (by decide) rfl (fun ls hl => ?_)
      refine lv_aloadN hx hb dX7_behind_17 (lv_at hl 1 rfl) ?_
      refine lv_ifnullN (tgt := 27) hx hb dX7_behind_19 (by decide) ?_
      refine lv_aload_n hx hb dX7_behind_27 rfl (lv_at hl 2 rfl) ?_
      refine lv_iconst (v := 1) hx hb dX7_behind_28 (by decide) ?_
      skip
      refine zw_V (As := [.int 1]) (rest := []) (wr := [(xs, .inl (cS, 8, .inr (.inr (.inr (.inr fh))))), (h0, .inr (4, [.ref e0, .int he, .int si])), (e0, .inl (cJ, 160, .inr (.inl fe))), (j0, .inr (0, [.ref z0, .ref jp, .ref jc, .int cn, .int de, .int tr, .int se, .int hu, .int sd])), (jp, .inl (cP, 8, .inr (.inr (.inr (.inr fp)))))]) ⟨hx, hb, hml, hown, hts⟩ (c_X_refuse_1 l D cI cJ cZ cP cS po x0 xs j0 k0 w0 rd mv xr (im) (lf) fr hy0 hy1 hy2 hy3 H.size) (cwV 1 hts gX7_behind_X7_refuse rfl rfl rfl ⟨rfl, dh_X7_refuse⟩ ⟨Nat.le_of_ble_eq_true rfl, Nat.le_of_ble_eq_true rfl⟩) hK hN (hZ.kept hS) hP hD hS hA [0, 1] [2, 3, 4, 5, 6] rfl rfl (by decide) (by decide) (by decide) (va_recv (q := (RX7, TX7, 9)) hK hP (ci := 7) (q0 := 0) rfl rfl) rfl hl.1 rfl (Nat.le_of_ble_eq_true rfl) dX7_behind_29 ⟨Nat.le_of_ble_eq_true rfl, Nat.le_of_ble_eq_true rfl⟩ (fun r_28 u_29 H locs hr_28 hP hD hS => ?_)
      obtain ⟨q_30, rfl⟩ : ∃ z, z = u_29 := ⟨_, rfl⟩
      have h9R := zRe (ws' := [(xs, .inl (cS, 8, .inr (.inr (.inr (.inr fh))))), (h0, .inr (4, [.ref e0, .int he, .int si])), (e0, .inl (cJ, 160, .inr (.inl fe))), (j0, .inr (0, [.ref z0, .ref jp, .ref jc, .int cn, .int de, .int tr, .int se, .int hu, .int sd])), (jp, .inl (cP, 8, .inr (.inr (.inr (.inr fp))))), (x0, .inr (7, [.ref xs, .ref j0, .ref k0, .ref w0, .ref rd, .ref mv, .ref xr, .int im, .int lf])), (xr, .inl (cI, 8, .inl q_30))]) hP hD rfl
      clear hP hD
      obtain ⟨hP, hD⟩ := h9R
      obtain rfl := hr_28
      exact W.iret (v := (-1)) hx hb hr (fun t ht hW => ⟨⟨(-1), q_30, rfl, ⟨(show ((s_.toInt < 0 ∨ 7 < s_.toInt ∨ p_.toInt < 0 ∨ cn.toInt ≤ p_.toInt) ∧ ((-1) : Int32).toInt = -1) ∨ ((0 ≤ s_.toInt ∧ s_.toInt ≤ 7) ∧ (0 ≤ p_.toInt ∧ p_.toInt < cn.toInt) ∧ ∃ q : Int, zBelR he.toInt si.toInt fe q ∧ ((q ≠ 0 ∧ ((-1) : Int32).toInt = -q) ∨ (q = 0 ∧ (((d.toInt < 0 ∨ 24 < d.toInt) ∧ ((-1) : Int32).toInt = -6) ∨ ((0 ≤ d.toInt ∧ d.toInt ≤ 24) ∧ ((-1) : Int32).toInt = zBh fe (kf p_.toNatClampNeg).toInt (af p_.toNatClampNeg).toInt hu.toInt d.toInt 24))))) from by (have k1m : ((-1) : Int32).toInt = -1 := (by decide); exact Or.inl (by omega))), trivial⟩, zRet ht hP hD [5, 6, 0, 1, 2, 3, 4] (by decide) rfl⟩, hS.F ht⟩) hS.2.2 dX7_behind_32
    · refine lv_astoreN (lv' := [(5, .null), (4, .null), (0, .ref x0), (1, .int s_), (2, .int p_), (3, .int d)]) hx hb dX7_behind_15 hl (by decide) rfl (fun ls hl => ?_)
      refine lv_aloadN hx hb dX7_behind_17 (lv_at hl 1 rfl) ?_
      refine lv_ifnullN (tgt := 27) hx hb dX7_behind_19 (by decide) ?_
      refine lv_aload_n hx hb dX7_behind_27 rfl (lv_at hl 2 rfl) ?_
      refine lv_iconst (v := 1) hx hb dX7_behind_28 (by decide) ?_
      skip
      refine zw_V (As := [.int 1]) (rest := []) (wr := [(xs, .inl (cS, 8, .inr (.inr (.inr (.inr fh))))), (h0, .inr (4, [.ref e0, .int he, .int si])), (e0, .inl (cJ, 160, .inr (.inl fe))), (j0, .inr (0, [.ref z0, .ref jp, .ref jc, .int cn, .int de, .int tr, .int se, .int hu, .int sd])), (jp, .inl (cP, 8, .inr (.inr (.inr (.inr fp)))))]) ⟨hx, hb, hml, hown, hts⟩ (c_X_refuse_1 l D cI cJ cZ cP cS po x0 xs j0 k0 w0 rd mv xr (im) (lf) fr hy0 hy1 hy2 hy3 H.size) (cwV 1 hts gX7_behind_X7_refuse rfl rfl rfl ⟨rfl, dh_X7_refuse⟩ ⟨Nat.le_of_ble_eq_true rfl, Nat.le_of_ble_eq_true rfl⟩) hK hN (hZ.kept hS) hP hD hS hA [0, 1] [2, 3, 4, 5, 6] rfl rfl (by decide) (by decide) (by decide) (va_recv (q := (RX7, TX7, 9)) hK hP (ci := 7) (q0 := 0) rfl rfl) rfl hl.1 rfl (Nat.le_of_ble_eq_true rfl) dX7_behind_29 ⟨Nat.le_of_ble_eq_true rfl, Nat.le_of_ble_eq_true rfl⟩ (fun r_31 u_32 H locs hr_31 hP hD hS => ?_)
      obtain ⟨q_33, rfl⟩ : ∃ z, z = u_32 := ⟨_, rfl⟩
      have h9R := zRe (ws' := [(xs, .inl (cS, 8, .inr (.inr (.inr (.inr fh))))), (h0, .inr (4, [.ref e0, .int he, .int si])), (e0, .inl (cJ, 160, .inr (.inl fe))), (j0, .inr (0, [.ref z0, .ref jp, .ref jc, .int cn, .int de, .int tr, .int se, .int hu, .int sd])), (jp, .inl (cP, 8, .inr (.inr (.inr (.inr fp))))), (x0, .inr (7, [.ref xs, .ref j0, .ref k0, .ref w0, .ref rd, .ref mv, .ref xr, .int im, .int lf])), (xr, .inl (cI, 8, .inl q_33))]) hP hD rfl
      clear hP hD
      obtain ⟨hP, hD⟩ := h9R
      obtain rfl := hr_31
      exact W.iret (v := (-1)) hx hb hr (fun t ht hW => ⟨⟨(-1), q_33, rfl, ⟨(show ((s_.toInt < 0 ∨ 7 < s_.toInt ∨ p_.toInt < 0 ∨ cn.toInt ≤ p_.toInt) ∧ ((-1) : Int32).toInt = -1) ∨ ((0 ≤ s_.toInt ∧ s_.toInt ≤ 7) ∧ (0 ≤ p_.toInt ∧ p_.toInt < cn.toInt) ∧ ∃ q : Int, zBelR he.toInt si.toInt fe q ∧ ((q ≠ 0 ∧ ((-1) : Int32).toInt = -q) ∨ (q = 0 ∧ (((d.toInt < 0 ∨ 24 < d.toInt) ∧ ((-1) : Int32).toInt = -6) ∨ ((0 ≤ d.toInt ∧ d.toInt ≤ 24) ∧ ((-1) : Int32).toInt = zBh fe (kf p_.toNatClampNeg).toInt (af p_.toNatClampNeg).toInt hu.toInt d.toInt 24))))) from by (have k1m : ((-1) : Int32).toInt = -1 := (by decide); exact Or.inl (by omega))), trivial⟩, zRet ht hP hD [5, 6, 0, 1, 2, 3, 4] (by decide) rfl⟩, hS.F ht⟩) hS.2.2 dX7_behind_32
    · refine W.eq (g2 := F0 m 15 ls (.ref u_27 :: [])) rfl ?_
      obtain ⟨hku_27, hau_27, htu_27⟩ := zPu_pr (hZ.kept hS) huu_27
      refine lv_astore (lv' := [(5, .ref u_27), (4, .null), (0, .ref x0), (1, .int s_), (2, .int p_), (3, .int d)]) hx hb dX7_behind_15 hl (by decide) rfl (fun ls hl => ?_)
      refine lv_aloadN hx hb dX7_behind_17 (lv_at hl 1 rfl) ?_
      refine lv_ifnullN (tgt := 27) hx hb dX7_behind_19 (by decide) ?_
      refine lv_aload_n hx hb dX7_behind_27 rfl (lv_at hl 2 rfl) ?_
      refine lv_iconst (v := 1) hx hb dX7_behind_28 (by decide) ?_
      skip
      refine zw_V (As := [.int 1]) (rest := []) (wr := [(xs, .inl (cS, 8, .inr (.inr (.inr (.inr fh))))), (h0, .inr (4, [.ref e0, .int he, .int si])), (e0, .inl (cJ, 160, .inr (.inl fe))), (j0, .inr (0, [.ref z0, .ref jp, .ref jc, .int cn, .int de, .int tr, .int se, .int hu, .int sd])), (jp, .inl (cP, 8, .inr (.inr (.inr (.inr fp)))))]) ⟨hx, hb, hml, hown, hts⟩ (c_X_refuse_1 l D cI cJ cZ cP cS po x0 xs j0 k0 w0 rd mv xr (im) (lf) fr hy0 hy1 hy2 hy3 H.size) (cwV 1 hts gX7_behind_X7_refuse rfl rfl rfl ⟨rfl, dh_X7_refuse⟩ ⟨Nat.le_of_ble_eq_true rfl, Nat.le_of_ble_eq_true rfl⟩) hK hN (hZ.kept hS) hP hD hS hA [0, 1] [2, 3, 4, 5, 6] rfl rfl (by decide) (by decide) (by decide) (va_recv (q := (RX7, TX7, 9)) hK hP (ci := 7) (q0 := 0) rfl rfl) rfl hl.1 rfl (Nat.le_of_ble_eq_true rfl) dX7_behind_29 ⟨Nat.le_of_ble_eq_true rfl, Nat.le_of_ble_eq_true rfl⟩ (fun r_34 u_35 H locs hr_34 hP hD hS => ?_)
      obtain ⟨q_36, rfl⟩ : ∃ z, z = u_35 := ⟨_, rfl⟩
      have h9R := zRe (ws' := [(xs, .inl (cS, 8, .inr (.inr (.inr (.inr fh))))), (h0, .inr (4, [.ref e0, .int he, .int si])), (e0, .inl (cJ, 160, .inr (.inl fe))), (j0, .inr (0, [.ref z0, .ref jp, .ref jc, .int cn, .int de, .int tr, .int se, .int hu, .int sd])), (jp, .inl (cP, 8, .inr (.inr (.inr (.inr fp))))), (x0, .inr (7, [.ref xs, .ref j0, .ref k0, .ref w0, .ref rd, .ref mv, .ref xr, .int im, .int lf])), (xr, .inl (cI, 8, .inl q_36))]) hP hD rfl
      clear hP hD
      obtain ⟨hP, hD⟩ := h9R
      obtain rfl := hr_34
      exact W.iret (v := (-1)) hx hb hr (fun t ht hW => ⟨⟨(-1), q_36, rfl, ⟨(show ((s_.toInt < 0 ∨ 7 < s_.toInt ∨ p_.toInt < 0 ∨ cn.toInt ≤ p_.toInt) ∧ ((-1) : Int32).toInt = -1) ∨ ((0 ≤ s_.toInt ∧ s_.toInt ≤ 7) ∧ (0 ≤ p_.toInt ∧ p_.toInt < cn.toInt) ∧ ∃ q : Int, zBelR he.toInt si.toInt fe q ∧ ((q ≠ 0 ∧ ((-1) : Int32).toInt = -q) ∨ (q = 0 ∧ (((d.toInt < 0 ∨ 24 < d.toInt) ∧ ((-1) : Int32).toInt = -6) ∨ ((0 ≤ d.toInt ∧ d.toInt ≤ 24) ∧ ((-1) : Int32).toInt = zBh fe (kf p_.toNatClampNeg).toInt (af p_.toNatClampNeg).toInt hu.toInt d.toInt 24))))) from by (obtain ⟨-, y4, y5⟩ := hkku_27; have k1m : ((-1) : Int32).toInt = -1 := (by decide); exact Or.inl (by omega))), trivial⟩, zRet ht hP hD [5, 6, 0, 1, 2, 3, 4] (by decide) rfl⟩, hS.F ht⟩) hS.2.2 dX7_behind_32
  · rw [hfs (by omega) (by omega)]
    refine W.eq (g2 := F0 m 5 ls (.ref h0 :: [])) rfl ?_
    refine lv_astore (lv' := [(4, .ref h0), (0, .ref x0), (1, .int s_), (2, .int p_), (3, .int d)]) hx hb dX7_behind_5 hl (by decide) rfl (fun ls hl => ?_)
    refine lv_aload_n hx hb dX7_behind_7 rfl (lv_at hl 1 rfl) ?_
    refine va_get (D := D) (ci := 7) (v := .ref j0) (C := RX7) (T := TX7) (N := 9) hx hb hts hi_X7_behind_7 hown hK hP 0 rfl rfl 1 (by decide) (hts (.fieldLink RX7 18 "TheLiningsInIt" "now" "LTheLiningsInIt$Jacket;") (List.mem_of_getElem? (i := 1) rfl)) (fun _ h9 => h9) rfl dX7_behind_8 ?_
    refine lv_iload_n hx hb dX7_behind_11 rfl (lv_at hl 3 rfl) ?_
    refine zc_Vq (As := [.int p_]) (rest := []) ⟨hx, hb, hml, hown, hts⟩ (c_F_J_pullAt l D cI cJ cZ cP cS po j0 jp jc z0 0 0 (cn) (de) (tr) (se) (hu) (sd) fp kf af tf (p_) hy9 hy10 hy11 hy12 hy13 hy14 hjp) (cwV 1 hts gX7_behind_X0_pullAt rfl rfl rfl ⟨rfl, dh_X0_pullAt⟩ ⟨Nat.le_of_ble_eq_true rfl, Nat.le_of_ble_eq_true rfl⟩) hK hN (hZ.kept hS) hP (hP.sub [5, 6] rfl) (va_recv (q := (RX0, TX0, 9)) hK hP (ci := 0) (q0 := 5) rfl rfl) rfl hl.1 rfl (Nat.le_of_ble_eq_true rfl) dX7_behind_12 ⟨Nat.le_of_ble_eq_true rfl, Nat.le_of_ble_eq_true rfl⟩ (fun r_37 hr_37 => ?_)
    rcases hr_37 with ⟨rfl, g_38⟩ | ⟨rfl, g_39, g_40⟩ | ⟨⟨u_42, kiu_42, au_42, tu_42, rfl, huu_42, hkku_42⟩, g_41⟩
    · refine lv_astoreN (lv' := [(5, .null), (4, .ref h0), (0, .ref x0), (1, .int s_), (2, .int p_), (3, .int d)]) hx hb dX7_behind_15 hl (by decide) rfl (fun ls hl => ?_)
      refine lv_aload hx hb dX7_behind_17 (lv_at hl 1 rfl) ?_
      refine lv_ifnull hx hb dX7_behind_19 ?_
      refine lv_aloadN hx hb dX7_behind_22 (lv_at hl 0 rfl) ?_
      refine lv_ifnonnullN hx hb dX7_behind_24 ?_
      refine lv_aload_n hx hb dX7_behind_27 rfl (lv_at hl 2 rfl) ?_
      refine lv_iconst (v := 1) hx hb dX7_behind_28 (by decide) ?_
      skip
      refine zw_V (As := [.int 1]) (rest := []) (wr := [(xs, .inl (cS, 8, .inr (.inr (.inr (.inr fh))))), (h0, .inr (4, [.ref e0, .int he, .int si])), (e0, .inl (cJ, 160, .inr (.inl fe))), (j0, .inr (0, [.ref z0, .ref jp, .ref jc, .int cn, .int de, .int tr, .int se, .int hu, .int sd])), (jp, .inl (cP, 8, .inr (.inr (.inr (.inr fp)))))]) ⟨hx, hb, hml, hown, hts⟩ (c_X_refuse_1 l D cI cJ cZ cP cS po x0 xs j0 k0 w0 rd mv xr (im) (lf) fr hy0 hy1 hy2 hy3 H.size) (cwV 1 hts gX7_behind_X7_refuse rfl rfl rfl ⟨rfl, dh_X7_refuse⟩ ⟨Nat.le_of_ble_eq_true rfl, Nat.le_of_ble_eq_true rfl⟩) hK hN (hZ.kept hS) hP hD hS hA [0, 1] [2, 3, 4, 5, 6] rfl rfl (by decide) (by decide) (by decide) (va_recv (q := (RX7, TX7, 9)) hK hP (ci := 7) (q0 := 0) rfl rfl) rfl hl.1 rfl (Nat.le_of_ble_eq_true rfl) dX7_behind_29 ⟨Nat.le_of_ble_eq_true rfl, Nat.le_of_ble_eq_true rfl⟩ (fun r_43 u_44 H locs hr_43 hP hD hS => ?_)
      obtain ⟨q_45, rfl⟩ : ∃ z, z = u_44 := ⟨_, rfl⟩
      have h9R := zRe (ws' := [(xs, .inl (cS, 8, .inr (.inr (.inr (.inr fh))))), (h0, .inr (4, [.ref e0, .int he, .int si])), (e0, .inl (cJ, 160, .inr (.inl fe))), (j0, .inr (0, [.ref z0, .ref jp, .ref jc, .int cn, .int de, .int tr, .int se, .int hu, .int sd])), (jp, .inl (cP, 8, .inr (.inr (.inr (.inr fp))))), (x0, .inr (7, [.ref xs, .ref j0, .ref k0, .ref w0, .ref rd, .ref mv, .ref xr, .int im, .int lf])), (xr, .inl (cI, 8, .inl q_45))]) hP hD rfl
      clear hP hD
      obtain ⟨hP, hD⟩ := h9R
      obtain rfl := hr_43
      exact W.iret (v := (-1)) hx hb hr (fun t ht hW => ⟨⟨(-1), q_45, rfl, ⟨(show ((s_.toInt < 0 ∨ 7 < s_.toInt ∨ p_.toInt < 0 ∨ cn.toInt ≤ p_.toInt) ∧ ((-1) : Int32).toInt = -1) ∨ ((0 ≤ s_.toInt ∧ s_.toInt ≤ 7) ∧ (0 ≤ p_.toInt ∧ p_.toInt < cn.toInt) ∧ ∃ q : Int, zBelR he.toInt si.toInt fe q ∧ ((q ≠ 0 ∧ ((-1) : Int32).toInt = -q) ∨ (q = 0 ∧ (((d.toInt < 0 ∨ 24 < d.toInt) ∧ ((-1) : Int32).toInt = -6) ∨ ((0 ≤ d.toInt ∧ d.toInt ≤ 24) ∧ ((-1) : Int32).toInt = zBh fe (kf p_.toNatClampNeg).toInt (af p_.toNatClampNeg).toInt hu.toInt d.toInt 24))))) from by (have k1m : ((-1) : Int32).toInt = -1 := (by decide); exact Or.inl (by omega))), trivial⟩, zRet ht hP hD [5, 6, 0, 1, 2, 3, 4] (by decide) rfl⟩, hS.F ht⟩) hS.2.2 dX7_behind_32
    · refine lv_astoreN (lv' := [(5, .null), (4, .ref h0), (0, .ref x0), (1, .int s_), (2, .int p_), (3, .int d)]) hx hb dX7_behind_15 hl (by decide) rfl (fun ls hl => ?_)
      refine lv_aload hx hb dX7_behind_17 (lv_at hl 1 rfl) ?_
      refine lv_ifnull hx hb dX7_behind_19 ?_
      refine lv_aloadN hx hb dX7_behind_22 (lv_at hl 0 rfl) ?_
      refine lv_ifnonnullN hx hb dX7_behind_24 ?_
      refine lv_aload_n hx hb dX7_behind_27 rfl (lv_at hl 2 rfl) ?_
      refine lv_iconst (v := 1) hx hb dX7_behind_28 (by decide) ?_
      skip
      refine zw_V (As := [.int 1]) (rest := []) (wr := [(xs, .inl (cS, 8, .inr (.inr (.inr (.inr fh))))), (h0, .inr (4, [.ref e0, .int he, .int si])), (e0, .inl (cJ, 160, .inr (.inl fe))), (j0, .inr (0, [.ref z0, .ref jp, .ref jc, .int cn, .int de, .int tr, .int se, .int hu, .int sd])), (jp, .inl (cP, 8, .inr (.inr (.inr (.inr fp)))))]) ⟨hx, hb, hml, hown, hts⟩ (c_X_refuse_1 l D cI cJ cZ cP cS po x0 xs j0 k0 w0 rd mv xr (im) (lf) fr hy0 hy1 hy2 hy3 H.size) (cwV 1 hts gX7_behind_X7_refuse rfl rfl rfl ⟨rfl, dh_X7_refuse⟩ ⟨Nat.le_of_ble_eq_true rfl, Nat.le_of_ble_eq_true rfl⟩) hK hN (hZ.kept hS) hP hD hS hA [0, 1] [2, 3, 4, 5, 6] rfl rfl (by decide) (by decide) (by decide) (va_recv (q := (RX7, TX7, 9)) hK hP (ci := 7) (q0 := 0) rfl rfl) rfl hl.1 rfl (Nat.le_of_ble_eq_true rfl) dX7_behind_29 ⟨Nat.le_of_ble_eq_true rfl, Nat.le_of_ble_eq_true rfl⟩ (fun r_46 u_47 H locs hr_46 hP hD hS => ?_)
      obtain ⟨q_48, rfl⟩ : ∃ z, z = u_47 := ⟨_, rfl⟩
      have h9R := zRe (ws' := [(xs, .inl (cS, 8, .inr (.inr (.inr (.inr fh))))), (h0, .inr (4, [.ref e0, .int he, .int si])), (e0, .inl (cJ, 160, .inr (.inl fe))), (j0, .inr (0, [.ref z0, .ref jp, .ref jc, .int cn, .int de, .int tr, .int se, .int hu, .int sd])), (jp, .inl (cP, 8, .inr (.inr (.inr (.inr fp))))), (x0, .inr (7, [.ref xs, .ref j0, .ref k0, .ref w0, .ref rd, .ref mv, .ref xr, .int im, .int lf])), (xr, .inl (cI, 8, .inl q_48))]) hP hD rfl
      clear hP hD
      obtain ⟨hP, hD⟩ := h9R
      obtain rfl := hr_46
      exact W.iret (v := (-1)) hx hb hr (fun t ht hW => ⟨⟨(-1), q_48, rfl, ⟨(show ((s_.toInt < 0 ∨ 7 < s_.toInt ∨ p_.toInt < 0 ∨ cn.toInt ≤ p_.toInt) ∧ ((-1) : Int32).toInt = -1) ∨ ((0 ≤ s_.toInt ∧ s_.toInt ≤ 7) ∧ (0 ≤ p_.toInt ∧ p_.toInt < cn.toInt) ∧ ∃ q : Int, zBelR he.toInt si.toInt fe q ∧ ((q ≠ 0 ∧ ((-1) : Int32).toInt = -q) ∨ (q = 0 ∧ (((d.toInt < 0 ∨ 24 < d.toInt) ∧ ((-1) : Int32).toInt = -6) ∨ ((0 ≤ d.toInt ∧ d.toInt ≤ 24) ∧ ((-1) : Int32).toInt = zBh fe (kf p_.toNatClampNeg).toInt (af p_.toNatClampNeg).toInt hu.toInt d.toInt 24))))) from by (have k1m : ((-1) : Int32).toInt = -1 := (by decide); exact Or.inl (by omega))), trivial⟩, zRet ht hP hD [5, 6, 0, 1, 2, 3, 4] (by decide) rfl⟩, hS.F ht⟩) hS.2.2 dX7_behind_32
    · refine W.eq (g2 := F0 m 15 ls (.ref u_42 :: [])) rfl ?_
      obtain ⟨hku_42, hau_42, htu_42⟩ := zPu_pr (hZ.kept hS) huu_42
      refine lv_astore (lv' := [(5, .ref u_42), (4, .ref h0), (0, .ref x0), (1, .int s_), (2, .int p_), (3, .int d)]) hx hb dX7_behind_15 hl (by decide) rfl (fun ls hl => ?_)
      refine lv_aload hx hb dX7_behind_17 (lv_at hl 1 rfl) ?_
      refine lv_ifnull hx hb dX7_behind_19 ?_
      refine lv_aload hx hb dX7_behind_22 (lv_at hl 0 rfl) ?_
      refine lv_ifnonnull (tgt := 33) hx hb dX7_behind_24 (by decide) ?_
      refine lv_aload hx hb dX7_behind_33 (lv_at hl 1 rfl) ?_
      refine zc_V (As := []) (rest := []) ⟨hx, hb, hml, hown, hts⟩ (c_F_Sh_noBelief l D cI cJ cZ cP cS po h0 e0 (he) (si) fe hy4 hy5 hy6 hy7) (cwV 0 hts gX7_behind_X4_noBelief rfl rfl rfl ⟨rfl, dh_X4_noBelief⟩ ⟨Nat.le_of_ble_eq_true rfl, Nat.le_of_ble_eq_true rfl⟩) hK hN (hZ.kept hS) hP (hP.sub [3, 4] rfl) (va_recv (q := (RX4, TX4, 3)) hK hP (ci := 4) (q0 := 3) rfl rfl) rfl hl.1 rfl (Nat.le_of_ble_eq_true rfl) dX7_behind_35 ⟨Nat.le_of_ble_eq_true rfl, Nat.le_of_ble_eq_true rfl⟩ (fun r_49 hr_49 => ?_)
      obtain ⟨g_50, g_51, hsr_49_0⟩ := hr_49
      refine lv_istore (lv' := [(6, .int r_49), (5, .ref u_42), (4, .ref h0), (0, .ref x0), (1, .int s_), (2, .int p_), (3, .int d)]) hx hb dX7_behind_38 hl (by decide) rfl (fun ls hl => ?_)
      refine lv_iload hx hb dX7_behind_40 (lv_at hl 0 rfl) ?_
      refine lv_if_eq (tgt := 52) hx hb dX7_behind_42 (by decide) (fun c_52 => ?_) (fun c_52 => ?_)
      · have fc_52 : r_49.toInt = 0 := zf_eq c_52 rfl (by decide)
        refine lv_iload_n hx hb dX7_behind_52 rfl (lv_at hl 6 rfl) ?_
        refine lv_iconst (v := 0) hx hb dX7_behind_53 (by decide) ?_
        refine lv_bipush (v := 24) hx hb dX7_behind_54 (by decide) ?_
        have kc0 : (0 : Int32).toInt = 0 := by decide
        have kc24 : (24 : Int32).toInt = 24 := by decide
        refine zc_S (As := [.int d, .int 0, .int 24]) (rest := []) ⟨hx, hb, hml, hown, hts⟩ (c_within l D cI cJ cZ cP cS po (d) (0) (24) ) (va_cwS 3 hts gX7_behind_X7_within rfl rfl rfl dh_X7_within ⟨Nat.le_of_ble_eq_true rfl, Nat.le_of_ble_eq_true rfl⟩) hK hN (hZ.kept hS) rfl hl.1 rfl (Nat.le_of_ble_eq_true rfl) dX7_behind_56 ⟨Nat.le_of_ble_eq_true rfl, Nat.le_of_ble_eq_true rfl⟩ (fun r_53 hr_53 => ?_)
        rcases hr_53 with ⟨rfl, g_54⟩ | ⟨rfl, g_55, g_56⟩ | ⟨rfl, g_57, g_58⟩
        · refine lv_if_ne (tgt := 69) hx hb dX7_behind_59 (by decide) (fun c_59 => ?_) (fun c_59 => ?_)
          · exact absurd c_59 (by decide)
          · refine lv_aload_n hx hb dX7_behind_62 rfl (lv_at hl 3 rfl) ?_
            refine lv_bipush (v := 6) hx hb dX7_behind_63 (by decide) ?_
            skip
            refine zw_V (As := [.int 6]) (rest := []) (wr := [(xs, .inl (cS, 8, .inr (.inr (.inr (.inr fh))))), (h0, .inr (4, [.ref e0, .int he, .int si])), (e0, .inl (cJ, 160, .inr (.inl fe))), (j0, .inr (0, [.ref z0, .ref jp, .ref jc, .int cn, .int de, .int tr, .int se, .int hu, .int sd])), (jp, .inl (cP, 8, .inr (.inr (.inr (.inr fp)))))]) ⟨hx, hb, hml, hown, hts⟩ (c_X_refuse_6 l D cI cJ cZ cP cS po x0 xs j0 k0 w0 rd mv xr (im) (lf) fr hy0 hy1 hy2 hy3 H.size) (cwV 1 hts gX7_behind_X7_refuse rfl rfl rfl ⟨rfl, dh_X7_refuse⟩ ⟨Nat.le_of_ble_eq_true rfl, Nat.le_of_ble_eq_true rfl⟩) hK hN (hZ.kept hS) hP hD hS hA [0, 1] [2, 3, 4, 5, 6] rfl rfl (by decide) (by decide) (by decide) (va_recv (q := (RX7, TX7, 9)) hK hP (ci := 7) (q0 := 0) rfl rfl) rfl hl.1 rfl (Nat.le_of_ble_eq_true rfl) dX7_behind_65 ⟨Nat.le_of_ble_eq_true rfl, Nat.le_of_ble_eq_true rfl⟩ (fun r_60 u_61 H locs hr_60 hP hD hS => ?_)
            obtain ⟨q_62, rfl⟩ : ∃ z, z = u_61 := ⟨_, rfl⟩
            have h9R := zRe (ws' := [(xs, .inl (cS, 8, .inr (.inr (.inr (.inr fh))))), (h0, .inr (4, [.ref e0, .int he, .int si])), (e0, .inl (cJ, 160, .inr (.inl fe))), (j0, .inr (0, [.ref z0, .ref jp, .ref jc, .int cn, .int de, .int tr, .int se, .int hu, .int sd])), (jp, .inl (cP, 8, .inr (.inr (.inr (.inr fp))))), (x0, .inr (7, [.ref xs, .ref j0, .ref k0, .ref w0, .ref rd, .ref mv, .ref xr, .int im, .int lf])), (xr, .inl (cI, 8, .inl q_62))]) hP hD rfl
            clear hP hD
            obtain ⟨hP, hD⟩ := h9R
            obtain rfl := hr_60
            exact W.iret (v := (-6)) hx hb hr (fun t ht hW => ⟨⟨(-6), q_62, rfl, ⟨(show ((s_.toInt < 0 ∨ 7 < s_.toInt ∨ p_.toInt < 0 ∨ cn.toInt ≤ p_.toInt) ∧ ((-6) : Int32).toInt = -1) ∨ ((0 ≤ s_.toInt ∧ s_.toInt ≤ 7) ∧ (0 ≤ p_.toInt ∧ p_.toInt < cn.toInt) ∧ ∃ q : Int, zBelR he.toInt si.toInt fe q ∧ ((q ≠ 0 ∧ ((-6) : Int32).toInt = -q) ∨ (q = 0 ∧ (((d.toInt < 0 ∨ 24 < d.toInt) ∧ ((-6) : Int32).toInt = -6) ∨ ((0 ≤ d.toInt ∧ d.toInt ≤ 24) ∧ ((-6) : Int32).toInt = zBh fe (kf p_.toNatClampNeg).toInt (af p_.toNatClampNeg).toInt hu.toInt d.toInt 24))))) from by (obtain ⟨⟨y1, y2, y3⟩, y4, y5⟩ := hkku_42; have k6m : ((-6) : Int32).toInt = -6 := (by decide); first | exact Or.inr ⟨by omega, by omega, _, hsr_49_0, Or.inl ⟨by omega, by omega⟩⟩ | exact Or.inr ⟨by omega, by omega, _, hsr_49_0, Or.inr ⟨by omega, Or.inl ⟨by omega, by omega⟩⟩⟩)), trivial⟩, zRet ht hP hD [5, 6, 0, 1, 2, 3, 4] (by decide) rfl⟩, hS.F ht⟩) hS.2.2 dX7_behind_68
        · refine lv_if_ne (tgt := 69) hx hb dX7_behind_59 (by decide) (fun c_63 => ?_) (fun c_63 => ?_)
          · exact absurd c_63 (by decide)
          · refine lv_aload_n hx hb dX7_behind_62 rfl (lv_at hl 3 rfl) ?_
            refine lv_bipush (v := 6) hx hb dX7_behind_63 (by decide) ?_
            skip
            refine zw_V (As := [.int 6]) (rest := []) (wr := [(xs, .inl (cS, 8, .inr (.inr (.inr (.inr fh))))), (h0, .inr (4, [.ref e0, .int he, .int si])), (e0, .inl (cJ, 160, .inr (.inl fe))), (j0, .inr (0, [.ref z0, .ref jp, .ref jc, .int cn, .int de, .int tr, .int se, .int hu, .int sd])), (jp, .inl (cP, 8, .inr (.inr (.inr (.inr fp)))))]) ⟨hx, hb, hml, hown, hts⟩ (c_X_refuse_6 l D cI cJ cZ cP cS po x0 xs j0 k0 w0 rd mv xr (im) (lf) fr hy0 hy1 hy2 hy3 H.size) (cwV 1 hts gX7_behind_X7_refuse rfl rfl rfl ⟨rfl, dh_X7_refuse⟩ ⟨Nat.le_of_ble_eq_true rfl, Nat.le_of_ble_eq_true rfl⟩) hK hN (hZ.kept hS) hP hD hS hA [0, 1] [2, 3, 4, 5, 6] rfl rfl (by decide) (by decide) (by decide) (va_recv (q := (RX7, TX7, 9)) hK hP (ci := 7) (q0 := 0) rfl rfl) rfl hl.1 rfl (Nat.le_of_ble_eq_true rfl) dX7_behind_65 ⟨Nat.le_of_ble_eq_true rfl, Nat.le_of_ble_eq_true rfl⟩ (fun r_64 u_65 H locs hr_64 hP hD hS => ?_)
            obtain ⟨q_66, rfl⟩ : ∃ z, z = u_65 := ⟨_, rfl⟩
            have h9R := zRe (ws' := [(xs, .inl (cS, 8, .inr (.inr (.inr (.inr fh))))), (h0, .inr (4, [.ref e0, .int he, .int si])), (e0, .inl (cJ, 160, .inr (.inl fe))), (j0, .inr (0, [.ref z0, .ref jp, .ref jc, .int cn, .int de, .int tr, .int se, .int hu, .int sd])), (jp, .inl (cP, 8, .inr (.inr (.inr (.inr fp))))), (x0, .inr (7, [.ref xs, .ref j0, .ref k0, .ref w0, .ref rd, .ref mv, .ref xr, .int im, .int lf])), (xr, .inl (cI, 8, .inl q_66))]) hP hD rfl
            clear hP hD
            obtain ⟨hP, hD⟩ := h9R
            obtain rfl := hr_64
            exact W.iret (v := (-6)) hx hb hr (fun t ht hW => ⟨⟨(-6), q_66, rfl, ⟨(show ((s_.toInt < 0 ∨ 7 < s_.toInt ∨ p_.toInt < 0 ∨ cn.toInt ≤ p_.toInt) ∧ ((-6) : Int32).toInt = -1) ∨ ((0 ≤ s_.toInt ∧ s_.toInt ≤ 7) ∧ (0 ≤ p_.toInt ∧ p_.toInt < cn.toInt) ∧ ∃ q : Int, zBelR he.toInt si.toInt fe q ∧ ((q ≠ 0 ∧ ((-6) : Int32).toInt = -q) ∨ (q = 0 ∧ (((d.toInt < 0 ∨ 24 < d.toInt) ∧ ((-6) : Int32).toInt = -6) ∨ ((0 ≤ d.toInt ∧ d.toInt ≤ 24) ∧ ((-6) : Int32).toInt = zBh fe (kf p_.toNatClampNeg).toInt (af p_.toNatClampNeg).toInt hu.toInt d.toInt 24))))) from by (obtain ⟨⟨y1, y2, y3⟩, y4, y5⟩ := hkku_42; have k6m : ((-6) : Int32).toInt = -6 := (by decide); first | exact Or.inr ⟨by omega, by omega, _, hsr_49_0, Or.inl ⟨by omega, by omega⟩⟩ | exact Or.inr ⟨by omega, by omega, _, hsr_49_0, Or.inr ⟨by omega, Or.inl ⟨by omega, by omega⟩⟩⟩)), trivial⟩, zRet ht hP hD [5, 6, 0, 1, 2, 3, 4] (by decide) rfl⟩, hS.F ht⟩) hS.2.2 dX7_behind_68
        · refine lv_if_ne (tgt := 69) hx hb dX7_behind_59 (by decide) (fun c_67 => ?_) (fun c_67 => ?_)
          · have h25 : 25 ≤ si.toInt := by (have z := hsr_49_0; unfold zBelR at z; omega)
            have hbel : zBel fe := by (have z := hsr_49_0; unfold zBelR at z; rcases z with z | z | z | z | z <;> first | exact z.2.2.1 | (exfalso; omega))
            obtain ⟨ya1, ya2⟩ : kiu_42.toInt = kiu_42.toInt ∧ au_42.toInt = au_42.toInt := ⟨rfl, rfl⟩
            refine lv_iload_n hx hb dX7_behind_69 rfl (lv_at hl 6 rfl) ?_
            refine lv_if_ne (tgt := 85) hx hb dX7_behind_70 (by decide) (fun c_68 => ?_) (fun c_68 => ?_)
            · have fc_68 : d.toInt ≠ 0 := zf_ne c_68 rfl (by decide)
              refine lv_iconst (v := 0) hx hb dX7_behind_85 (by decide) ?_
              refine lv_istore (lv' := [(7, .int 0), (6, .int r_49), (5, .ref u_42), (4, .ref h0), (0, .ref x0), (1, .int s_), (2, .int p_), (3, .int d)]) hx hb dX7_behind_86 hl (by decide) rfl (fun ls hl => ?_)
              refine lv_iconst (v := 1) hx hb dX7_behind_88 (by decide) ?_
              refine lv_istore (lv' := [(8, .int 1), (7, .int 0), (6, .int r_49), (5, .ref u_42), (4, .ref h0), (0, .ref x0), (1, .int s_), (2, .int p_), (3, .int d)]) hx hb dX7_behind_89 hl (by decide) rfl (fun ls hl => ?_)
              obtain ⟨i_91, hi_91⟩ : ∃ i : Int32, i = 1 := ⟨_, rfl⟩
              replace hl : lv_has ls 10 [(8, .int i_91), (7, .int 0), (6, .int r_49), (5, .ref u_42), (4, .ref h0), (0, .ref x0), (1, .int s_), (2, .int p_), (3, .int d)] := by rw [hi_91]; exact lv_sub hl [0, 1, 2, 3, 4, 5, 6, 7, 8] rfl
              have h1i_91 : i_91.toInt = 1 := by rw [hi_91]; decide
              obtain ⟨nfu, hni_91⟩ : ∃ nq9 : Nat, 25 ≤ i_91.toInt + (nq9 : Int) := ⟨((25 : Int) - 1).toNat, by omega⟩
              have hloi_91 : 1 ≤ i_91.toInt := by omega
              obtain ⟨v_69, hv_69⟩ : ∃ g : Int32, g = 0 := ⟨_, rfl⟩
              replace hl : lv_has ls 10 [(8, .int i_91), (7, .int v_69), (6, .int r_49), (5, .ref u_42), (4, .ref h0), (0, .ref x0), (1, .int s_), (2, .int p_), (3, .int d)] := by rw [hv_69]; exact hl
              have hbv_69 : 0 ≤ v_69.toInt ∧ v_69.toInt ≤ 59400 := by rw [hv_69]; exact ⟨by decide, by decide⟩
              have hvi_91_0 : (v_69 : Int32).toInt = zBh fe kiu_42.toInt au_42.toInt hu.toInt d.toInt (i_91.toInt - 1).toNat := by
                (try rw [hi_91]); (try rw [hv_69]); (rw [show ((1 : Int32).toInt - 1).toNat = 0 from by decide]; show _ = (if d.toInt = 0 then 12 * zTl fe 0 else 0); have k0 : (0 : Int32).toInt = 0 := (by decide); rw [if_neg (by omega)]; exact k0)
              have hvi_91_1 : (v_69 : Int32).toInt ≤ 2376 * i_91.toInt ∧ i_91.toInt ≤ 25 := by
                (try rw [hi_91]); (try rw [hv_69]); (have k1 : (1 : Int32).toInt = 1 := (by decide); have k0 : (0 : Int32).toInt = 0 := (by decide); omega)
              clear h1i_91 hi_91 hv_69
              skip
              revert hni_91
              revert hloi_91
              revert hvi_91_1
              revert hvi_91_0
              revert hbv_69
              revert hl
              revert hS
              revert hD
              revert hP
              revert ls
              revert locs
              revert H
              revert v_69
              revert i_91
              induction nfu with
              | zero =>
                intro i_91 v_69 H locs ls hP hD hS hl hbv_69 hvi_91_0 hvi_91_1 hloi_91 hni_91
                have hzi_91 : 25 ≤ i_91.toInt := by omega
                refine lv_iload hx hb dX7_behind_91 (lv_at hl 0 rfl) ?_
                refine lv_bipush (v := 24) hx hb dX7_behind_93 (by decide) ?_
                refine lv_icmp_gt (tgt := 182) hx hb dX7_behind_95 (by decide) (fun c_70 => ?_) (fun c_70 => ?_)
                · have fc_70 : 24 < i_91.toInt := zf_lt c_70 (by decide) rfl
                  refine lv_iload hx hb dX7_behind_182 (lv_at hl 1 rfl) ?_
                  exact W.iret (v := v_69) hx hb hr (fun t ht hW => ⟨⟨v_69, fr, rfl, ⟨(show ((s_.toInt < 0 ∨ 7 < s_.toInt ∨ p_.toInt < 0 ∨ cn.toInt ≤ p_.toInt) ∧ (v_69 : Int32).toInt = -1) ∨ ((0 ≤ s_.toInt ∧ s_.toInt ≤ 7) ∧ (0 ≤ p_.toInt ∧ p_.toInt < cn.toInt) ∧ ∃ q : Int, zBelR he.toInt si.toInt fe q ∧ ((q ≠ 0 ∧ (v_69 : Int32).toInt = -q) ∨ (q = 0 ∧ (((d.toInt < 0 ∨ 24 < d.toInt) ∧ (v_69 : Int32).toInt = -6) ∨ ((0 ≤ d.toInt ∧ d.toInt ≤ 24) ∧ (v_69 : Int32).toInt = zBh fe (kf p_.toNatClampNeg).toInt (af p_.toNatClampNeg).toInt hu.toInt d.toInt 24))))) from by (obtain ⟨⟨y1, y2, y3⟩, y4, y5⟩ := hkku_42; have h9 : (i_91.toInt - 1).toNat = 24 := (by omega); have z := hvi_91_0; rw [h9] at z; refine Or.inr ⟨by omega, by omega, _, hsr_49_0, Or.inr ⟨by omega, Or.inr ⟨by omega, ?_⟩⟩⟩; rw [← y1, ← y2]; exact z)), trivial⟩, zRet ht hP hD [0, 1, 2, 3, 4, 5, 6] (by decide) rfl⟩, hS.F ht⟩) hS.2.2 dX7_behind_184
                · exfalso; have fc_70 : i_91.toInt ≤ 24 := zf_nlt c_70 (by decide) rfl; omega
              | succ nfu ih =>
                intro i_91 v_69 H locs ls hP hD hS hl hbv_69 hvi_91_0 hvi_91_1 hloi_91 hni_91
                refine lv_iload hx hb dX7_behind_91 (lv_at hl 0 rfl) ?_
                refine lv_bipush (v := 24) hx hb dX7_behind_93 (by decide) ?_
                refine lv_icmp_gt (tgt := 182) hx hb dX7_behind_95 (by decide) (fun c_71 => ?_) (fun c_71 => ?_)
                · have fc_71 : 24 < i_91.toInt := zf_lt c_71 (by decide) rfl
                  refine lv_iload hx hb dX7_behind_182 (lv_at hl 1 rfl) ?_
                  exact W.iret (v := v_69) hx hb hr (fun t ht hW => ⟨⟨v_69, fr, rfl, ⟨(show ((s_.toInt < 0 ∨ 7 < s_.toInt ∨ p_.toInt < 0 ∨ cn.toInt ≤ p_.toInt) ∧ (v_69 : Int32).toInt = -1) ∨ ((0 ≤ s_.toInt ∧ s_.toInt ≤ 7) ∧ (0 ≤ p_.toInt ∧ p_.toInt < cn.toInt) ∧ ∃ q : Int, zBelR he.toInt si.toInt fe q ∧ ((q ≠ 0 ∧ (v_69 : Int32).toInt = -q) ∨ (q = 0 ∧ (((d.toInt < 0 ∨ 24 < d.toInt) ∧ (v_69 : Int32).toInt = -6) ∨ ((0 ≤ d.toInt ∧ d.toInt ≤ 24) ∧ (v_69 : Int32).toInt = zBh fe (kf p_.toNatClampNeg).toInt (af p_.toNatClampNeg).toInt hu.toInt d.toInt 24))))) from by (obtain ⟨⟨y1, y2, y3⟩, y4, y5⟩ := hkku_42; have h9 : (i_91.toInt - 1).toNat = 24 := (by omega); have z := hvi_91_0; rw [h9] at z; refine Or.inr ⟨by omega, by omega, _, hsr_49_0, Or.inr ⟨by omega, Or.inr ⟨by omega, ?_⟩⟩⟩; rw [← y1, ← y2]; exact z)), trivial⟩, zRet ht hP hD [0, 1, 2, 3, 4, 5, 6] (by decide) rfl⟩, hS.F ht⟩) hS.2.2 dX7_behind_184
                · have fc_71 : i_91.toInt ≤ 24 := zf_nlt c_71 (by decide) rfl
                  refine lv_aload hx hb dX7_behind_98 (lv_at hl 3 rfl) ?_
                  refine lv_iload hx hb dX7_behind_100 (lv_at hl 0 rfl) ?_
                  refine lv_aload_n hx hb dX7_behind_102 rfl (lv_at hl 5 rfl) ?_
                  refine va_get (D := D) (ci := 7) (v := .ref j0) (C := RX7) (T := TX7) (N := 9) hx hb hts hi_X7_behind_7 hown hK hP 0 rfl rfl 1 (by decide) (hts (.fieldLink RX7 18 "TheLiningsInIt" "now" "LTheLiningsInIt$Jacket;") (List.mem_of_getElem? (i := 1) rfl)) (fun _ h9 => h9) rfl dX7_behind_103 ?_
                  refine va_get (D := D) (ci := 0) (v := .int hu) (C := RX0) (T := TX0) (N := 9) hx hb hts hi_X7_behind_0 hown hK hP 5 rfl rfl 7 (by decide) (hts (.fieldLink RX7 116 "TheLiningsInIt$Jacket" "hurry" "I") (List.mem_of_getElem? (i := 2) rfl)) (fun _ h9 => h9) rfl dX7_behind_106 ?_
                  refine zc_V (As := [.int i_91, .int hu]) (rest := []) ⟨hx, hb, hml, hown, hts⟩ (c_F_Pull_waysAt l D cI cJ cZ cP cS po (i_91) (hu) u_42 (kiu_42) (au_42) (tu_42) huu_42 ⟨by omega, by omega, by omega, by omega⟩ (by omega) (by omega) hy13 hy14) (cwV 2 hts gX7_behind_X2_waysAt rfl rfl rfl ⟨rfl, dh_X2_waysAt⟩ ⟨Nat.le_of_ble_eq_true rfl, Nat.le_of_ble_eq_true rfl⟩) hK hN (hZ.kept hS) hP zP_nil (va_recv (q := (RX2, TX2, 3)) hK (zPu_P (hZ.kept hS) huu_42) (ci := 2) (q0 := 0) rfl rfl) rfl hl.1 rfl (Nat.le_of_ble_eq_true rfl) dX7_behind_109 ⟨Nat.le_of_ble_eq_true rfl, Nat.le_of_ble_eq_true rfl⟩ (fun r_72 hr_72 => ?_)
                  obtain ⟨g_73, g_74, hsr_72_0⟩ := hr_72
                  refine lv_istore (lv' := [(9, .int r_72), (8, .int i_91), (7, .int v_69), (6, .int r_49), (5, .ref u_42), (4, .ref h0), (0, .ref x0), (1, .int s_), (2, .int p_), (3, .int d)]) hx hb dX7_behind_112 hl (by decide) rfl (fun ls hl => ?_)
                  refine lv_aload hx hb dX7_behind_114 (lv_at hl 4 rfl) ?_
                  refine lv_iload hx hb dX7_behind_116 (lv_at hl 1 rfl) ?_
                  refine zc_V (As := [.int i_91]) (rest := []) ⟨hx, hb, hml, hown, hts⟩ (c_F_Pull_shallower l D cI cJ cZ cP cS po (i_91) u_42 (kiu_42) (au_42) (tu_42) huu_42 ⟨by omega, by omega, by omega, by omega⟩ (by omega) (by omega)) (cwV 1 hts gX7_behind_X2_shallower rfl rfl rfl ⟨rfl, dh_X2_shallower⟩ ⟨Nat.le_of_ble_eq_true rfl, Nat.le_of_ble_eq_true rfl⟩) hK hN (hZ.kept hS) hP zP_nil (va_recv (q := (RX2, TX2, 3)) hK (zPu_P (hZ.kept hS) huu_42) (ci := 2) (q0 := 0) rfl rfl) rfl hl.1 rfl (Nat.le_of_ble_eq_true rfl) dX7_behind_118 ⟨Nat.le_of_ble_eq_true rfl, Nat.le_of_ble_eq_true rfl⟩ (fun r_75 hr_75 => ?_)
                  obtain ⟨g_76, g_77, hsr_75_0⟩ := hr_75
                  refine lv_iload_n hx hb dX7_behind_121 rfl (lv_at hl 9 rfl) ?_
                  refine lv_icmp_ne (tgt := 140) hx hb dX7_behind_122 (by decide) (fun c_78 => ?_) (fun c_78 => ?_)
                  · have fc_78 : r_75.toInt ≠ d.toInt := zf_ne c_78 rfl rfl
                    refine lv_aload hx hb dX7_behind_140 (lv_at hl 4 rfl) ?_
                    refine lv_iload hx hb dX7_behind_142 (lv_at hl 1 rfl) ?_
                    refine lv_aload_n hx hb dX7_behind_144 rfl (lv_at hl 6 rfl) ?_
                    refine va_get (D := D) (ci := 7) (v := .ref j0) (C := RX7) (T := TX7) (N := 9) hx hb hts hi_X7_behind_7 hown hK hP 0 rfl rfl 1 (by decide) (hts (.fieldLink RX7 18 "TheLiningsInIt" "now" "LTheLiningsInIt$Jacket;") (List.mem_of_getElem? (i := 1) rfl)) (fun _ h9 => h9) rfl dX7_behind_145 ?_
                    refine va_get (D := D) (ci := 0) (v := .int hu) (C := RX0) (T := TX0) (N := 9) hx hb hts hi_X7_behind_0 hown hK hP 5 rfl rfl 7 (by decide) (hts (.fieldLink RX7 116 "TheLiningsInIt$Jacket" "hurry" "I") (List.mem_of_getElem? (i := 2) rfl)) (fun _ h9 => h9) rfl dX7_behind_148 ?_
                    refine zc_V (As := [.int i_91, .int hu]) (rest := []) ⟨hx, hb, hml, hown, hts⟩ (c_F_Pull_deeper l D cI cJ cZ cP cS po (i_91) (hu) u_42 (kiu_42) (au_42) (tu_42) huu_42 ⟨by omega, by omega, by omega, by omega⟩ (by omega) (by omega) hy13 hy14) (cwV 2 hts gX7_behind_X2_deeper rfl rfl rfl ⟨rfl, dh_X2_deeper⟩ ⟨Nat.le_of_ble_eq_true rfl, Nat.le_of_ble_eq_true rfl⟩) hK hN (hZ.kept hS) hP zP_nil (va_recv (q := (RX2, TX2, 3)) hK (zPu_P (hZ.kept hS) huu_42) (ci := 2) (q0 := 0) rfl rfl) rfl hl.1 rfl (Nat.le_of_ble_eq_true rfl) dX7_behind_151 ⟨Nat.le_of_ble_eq_true rfl, Nat.le_of_ble_eq_true rfl⟩ (fun r_79 hr_79 => ?_)
                    obtain ⟨g_80, g_81, hsr_79_0⟩ := hr_79
                    refine lv_iload_n hx hb dX7_behind_154 rfl (lv_at hl 9 rfl) ?_
                    refine lv_icmp_ne (tgt := 176) hx hb dX7_behind_155 (by decide) (fun c_82 => ?_) (fun c_82 => ?_)
                    · have fc_82 : r_79.toInt ≠ d.toInt := zf_ne c_82 rfl rfl
                      obtain ⟨x_83, ex_83⟩ : ∃ y : Int32, y = i_91 + 1 := ⟨_, rfl⟩
                      have qx_83 : x_83.toInt = i_91.toInt + 1 := by rw [ex_83]; exact zf_add rfl (by decide) (by omega) (by omega)
                      refine lv_iinc (v := x_83) (lv' := [(8, .int x_83), (9, .int r_72), (7, .int v_69), (6, .int r_49), (5, .ref u_42), (4, .ref h0), (0, .ref x0), (1, .int s_), (2, .int p_), (3, .int d)]) hx hb dX7_behind_176 hl (k := 1) rfl ex_83.symm (by decide) rfl (fun ls hl => ?_)
                      refine lv_goto (tgt := 91) hx hb dX7_behind_179 (by decide) ?_
                      exact ih x_83 v_69 _ _ _ (hP.sub [0, 1, 2, 3, 4, 5, 6] rfl) (hD.sub [0, 1, 2, 3, 4, 5, 6] (by decide) rfl) hS (lv_sub hl [0, 2, 3, 4, 5, 6, 7, 8, 9] rfl) hbv_69 (show (v_69 : Int32).toInt = zBh fe kiu_42.toInt au_42.toInt hu.toInt d.toInt (x_83.toInt - 1).toNat from by (rw [show (x_83.toInt - 1).toNat = (i_91.toInt - 1).toNat + 1 from by omega, zBh_s, show (((i_91.toInt - 1).toNat : Nat) : Int) + 1 = i_91.toInt from by omega, ← hvi_91_0, ← hsr_72_0, ← hsr_75_0, ← hsr_79_0]; first | (rw [if_neg (by omega), if_neg (by omega)]; omega) | (rw [if_pos (by omega), if_neg (by omega)]; omega) | (rw [if_neg (by omega), if_pos (by omega)]; omega) | (rw [if_pos (by omega), if_pos (by omega)]; omega))) (show (v_69 : Int32).toInt ≤ 2376 * x_83.toInt ∧ x_83.toInt ≤ 25 from by exact ⟨by omega, by omega⟩) (dw_lo hloi_91 qx_83) (dw_hn hni_91 qx_83)
                    · have fc_82 : r_79.toInt = d.toInt := zf_eq c_82 rfl rfl
                      refine lv_iload hx hb dX7_behind_158 (lv_at hl 2 rfl) ?_
                      refine lv_aload hx hb dX7_behind_160 (lv_at hl 5 rfl) ?_
                      refine lv_iload hx hb dX7_behind_162 (lv_at hl 1 rfl) ?_
                      refine zc_V (As := [.int i_91]) (rest := [.int v_69]) ⟨hx, hb, hml, hown, hts⟩ (c_F_Sh_tells l D cI cJ cZ cP cS po h0 e0 (he) (si) fe (i_91) hy4 hy5 hy6 hy7) (cwV 1 hts gX7_behind_X4_tells rfl rfl rfl ⟨rfl, dh_X4_tells⟩ ⟨Nat.le_of_ble_eq_true rfl, Nat.le_of_ble_eq_true rfl⟩) hK hN (hZ.kept hS) hP (hP.sub [3, 4] rfl) (va_recv (q := (RX4, TX4, 3)) hK hP (ci := 4) (q0 := 3) rfl rfl) rfl hl.1 rfl (Nat.le_of_ble_eq_true rfl) dX7_behind_164 ⟨Nat.le_of_ble_eq_true rfl, Nat.le_of_ble_eq_true rfl⟩ (fun r_84 hr_84 => ?_)
                      have hsr_84_0 := hr_84
                      have wr_84 := zTl_b hbel hsr_84_0 (by omega) (by have k0 : (0 : Int32).toInt = 0 := (by decide); omega) (by have k0 : (0 : Int32).toInt = 0 := (by decide); omega)
                      refine lv_bipush (v := 12) hx hb dX7_behind_167 (by decide) ?_
                      refine lv_iload hx hb dX7_behind_169 (lv_at hl 0 rfl) ?_
                      refine lv_isub hx hb dX7_behind_171 ?_
                      refine lv_topi (fun x_85 ex_85 => ?_)
                      have qx_85 : x_85.toInt = 12 - r_72.toInt := by rw [ex_85]; exact zf_sub (by decide) rfl (by omega) (by omega)
                      refine lv_imul hx hb dX7_behind_172 ?_
                      refine lv_topi (fun x_86 ex_86 => ?_)
                      obtain ⟨mx_86, nx_86, ox_86⟩ := zf_mulr (a := r_84) (b := x_85) (m := r_84.toInt * x_85.toInt) rfl rfl ⟨by omega, by omega⟩ ⟨by omega, by omega⟩ rfl
                      rw [← ex_86] at mx_86
                      refine lv_iadd hx hb dX7_behind_173 ?_
                      refine lv_topi (fun x_87 ex_87 => ?_)
                      have qx_87 : x_87.toInt = v_69.toInt + x_86.toInt := by rw [ex_87]; exact zf_add rfl rfl (by omega) (by omega)
                      refine lv_istore (lv' := [(7, .int x_87), (9, .int r_72), (8, .int i_91), (6, .int r_49), (5, .ref u_42), (4, .ref h0), (0, .ref x0), (1, .int s_), (2, .int p_), (3, .int d)]) hx hb dX7_behind_174 hl (by decide) rfl (fun ls hl => ?_)
                      obtain ⟨x_88, ex_88⟩ : ∃ y : Int32, y = i_91 + 1 := ⟨_, rfl⟩
                      have qx_88 : x_88.toInt = i_91.toInt + 1 := by rw [ex_88]; exact zf_add rfl (by decide) (by omega) (by omega)
                      refine lv_iinc (v := x_88) (lv' := [(8, .int x_88), (7, .int x_87), (9, .int r_72), (6, .int r_49), (5, .ref u_42), (4, .ref h0), (0, .ref x0), (1, .int s_), (2, .int p_), (3, .int d)]) hx hb dX7_behind_176 hl (k := 2) rfl ex_88.symm (by decide) rfl (fun ls hl => ?_)
                      refine lv_goto (tgt := 91) hx hb dX7_behind_179 (by decide) ?_
                      exact ih x_88 x_87 _ _ _ (hP.sub [0, 1, 2, 3, 4, 5, 6] rfl) (hD.sub [0, 1, 2, 3, 4, 5, 6] (by decide) rfl) hS (lv_sub hl [0, 1, 3, 4, 5, 6, 7, 8, 9] rfl) ⟨by omega, by omega⟩ (show (x_87 : Int32).toInt = zBh fe kiu_42.toInt au_42.toInt hu.toInt d.toInt (x_88.toInt - 1).toNat from by (rw [show (x_88.toInt - 1).toNat = (i_91.toInt - 1).toNat + 1 from by omega, zBh_s, show (((i_91.toInt - 1).toNat : Nat) : Int) + 1 = i_91.toInt from by omega, ← hvi_91_0, ← hsr_72_0, ← hsr_75_0, ← hsr_79_0]; have Mx_86 := mx_86; rw [wr_84.1, qx_85] at Mx_86; first | (rw [if_neg (by omega), if_pos (by omega)]; omega) | (rw [if_pos (by omega), if_pos (by omega)]; omega) | (rw [if_neg (by omega), if_neg (by omega)]; omega) | (rw [if_pos (by omega), if_neg (by omega)]; omega))) (show (x_87 : Int32).toInt ≤ 2376 * x_88.toInt ∧ x_88.toInt ≤ 25 from by exact ⟨by omega, by omega⟩) (dw_lo hloi_91 qx_88) (dw_hn hni_91 qx_88)
                  · have fc_78 : r_75.toInt = d.toInt := zf_eq c_78 rfl rfl
                    refine lv_iload hx hb dX7_behind_125 (lv_at hl 2 rfl) ?_
                    refine lv_aload hx hb dX7_behind_127 (lv_at hl 5 rfl) ?_
                    refine lv_iload hx hb dX7_behind_129 (lv_at hl 1 rfl) ?_
                    refine zc_V (As := [.int i_91]) (rest := [.int v_69]) ⟨hx, hb, hml, hown, hts⟩ (c_F_Sh_tells l D cI cJ cZ cP cS po h0 e0 (he) (si) fe (i_91) hy4 hy5 hy6 hy7) (cwV 1 hts gX7_behind_X4_tells rfl rfl rfl ⟨rfl, dh_X4_tells⟩ ⟨Nat.le_of_ble_eq_true rfl, Nat.le_of_ble_eq_true rfl⟩) hK hN (hZ.kept hS) hP (hP.sub [3, 4] rfl) (va_recv (q := (RX4, TX4, 3)) hK hP (ci := 4) (q0 := 3) rfl rfl) rfl hl.1 rfl (Nat.le_of_ble_eq_true rfl) dX7_behind_131 ⟨Nat.le_of_ble_eq_true rfl, Nat.le_of_ble_eq_true rfl⟩ (fun r_89 hr_89 => ?_)
                    have hsr_89_0 := hr_89
                    have wr_89 := zTl_b hbel hsr_89_0 (by omega) (by have k0 : (0 : Int32).toInt = 0 := (by decide); omega) (by have k0 : (0 : Int32).toInt = 0 := (by decide); omega)
                    refine lv_iload hx hb dX7_behind_134 (lv_at hl 0 rfl) ?_
                    refine lv_imul hx hb dX7_behind_136 ?_
                    refine lv_topi (fun x_90 ex_90 => ?_)
                    obtain ⟨mx_90, nx_90, ox_90⟩ := zf_mulr (a := r_89) (b := r_72) (m := r_89.toInt * r_72.toInt) rfl rfl ⟨by omega, by omega⟩ ⟨by omega, by omega⟩ rfl
                    rw [← ex_90] at mx_90
                    refine lv_iadd hx hb dX7_behind_137 ?_
                    refine lv_topi (fun x_91 ex_91 => ?_)
                    have qx_91 : x_91.toInt = v_69.toInt + x_90.toInt := by rw [ex_91]; exact zf_add rfl rfl (by omega) (by omega)
                    refine lv_istore (lv' := [(7, .int x_91), (9, .int r_72), (8, .int i_91), (6, .int r_49), (5, .ref u_42), (4, .ref h0), (0, .ref x0), (1, .int s_), (2, .int p_), (3, .int d)]) hx hb dX7_behind_138 hl (by decide) rfl (fun ls hl => ?_)
                    refine lv_aload hx hb dX7_behind_140 (lv_at hl 4 rfl) ?_
                    refine lv_iload hx hb dX7_behind_142 (lv_at hl 2 rfl) ?_
                    refine lv_aload_n hx hb dX7_behind_144 rfl (lv_at hl 6 rfl) ?_
                    refine va_get (D := D) (ci := 7) (v := .ref j0) (C := RX7) (T := TX7) (N := 9) hx hb hts hi_X7_behind_7 hown hK hP 0 rfl rfl 1 (by decide) (hts (.fieldLink RX7 18 "TheLiningsInIt" "now" "LTheLiningsInIt$Jacket;") (List.mem_of_getElem? (i := 1) rfl)) (fun _ h9 => h9) rfl dX7_behind_145 ?_
                    refine va_get (D := D) (ci := 0) (v := .int hu) (C := RX0) (T := TX0) (N := 9) hx hb hts hi_X7_behind_0 hown hK hP 5 rfl rfl 7 (by decide) (hts (.fieldLink RX7 116 "TheLiningsInIt$Jacket" "hurry" "I") (List.mem_of_getElem? (i := 2) rfl)) (fun _ h9 => h9) rfl dX7_behind_148 ?_
                    refine zc_V (As := [.int i_91, .int hu]) (rest := []) ⟨hx, hb, hml, hown, hts⟩ (c_F_Pull_deeper l D cI cJ cZ cP cS po (i_91) (hu) u_42 (kiu_42) (au_42) (tu_42) huu_42 ⟨by omega, by omega, by omega, by omega⟩ (by omega) (by omega) hy13 hy14) (cwV 2 hts gX7_behind_X2_deeper rfl rfl rfl ⟨rfl, dh_X2_deeper⟩ ⟨Nat.le_of_ble_eq_true rfl, Nat.le_of_ble_eq_true rfl⟩) hK hN (hZ.kept hS) hP zP_nil (va_recv (q := (RX2, TX2, 3)) hK (zPu_P (hZ.kept hS) huu_42) (ci := 2) (q0 := 0) rfl rfl) rfl hl.1 rfl (Nat.le_of_ble_eq_true rfl) dX7_behind_151 ⟨Nat.le_of_ble_eq_true rfl, Nat.le_of_ble_eq_true rfl⟩ (fun r_92 hr_92 => ?_)
                    obtain ⟨g_93, g_94, hsr_92_0⟩ := hr_92
                    refine lv_iload_n hx hb dX7_behind_154 rfl (lv_at hl 9 rfl) ?_
                    refine lv_icmp_ne (tgt := 176) hx hb dX7_behind_155 (by decide) (fun c_95 => ?_) (fun c_95 => ?_)
                    · have fc_95 : r_92.toInt ≠ d.toInt := zf_ne c_95 rfl rfl
                      obtain ⟨x_96, ex_96⟩ : ∃ y : Int32, y = i_91 + 1 := ⟨_, rfl⟩
                      have qx_96 : x_96.toInt = i_91.toInt + 1 := by rw [ex_96]; exact zf_add rfl (by decide) (by omega) (by omega)
                      refine lv_iinc (v := x_96) (lv' := [(8, .int x_96), (7, .int x_91), (9, .int r_72), (6, .int r_49), (5, .ref u_42), (4, .ref h0), (0, .ref x0), (1, .int s_), (2, .int p_), (3, .int d)]) hx hb dX7_behind_176 hl (k := 2) rfl ex_96.symm (by decide) rfl (fun ls hl => ?_)
                      refine lv_goto (tgt := 91) hx hb dX7_behind_179 (by decide) ?_
                      exact ih x_96 x_91 _ _ _ (hP.sub [0, 1, 2, 3, 4, 5, 6] rfl) (hD.sub [0, 1, 2, 3, 4, 5, 6] (by decide) rfl) hS (lv_sub hl [0, 1, 3, 4, 5, 6, 7, 8, 9] rfl) ⟨by omega, by omega⟩ (show (x_91 : Int32).toInt = zBh fe kiu_42.toInt au_42.toInt hu.toInt d.toInt (x_96.toInt - 1).toNat from by (rw [show (x_96.toInt - 1).toNat = (i_91.toInt - 1).toNat + 1 from by omega, zBh_s, show (((i_91.toInt - 1).toNat : Nat) : Int) + 1 = i_91.toInt from by omega, ← hvi_91_0, ← hsr_72_0, ← hsr_75_0, ← hsr_92_0]; have Mx_90 := mx_90; rw [wr_89.1] at Mx_90; first | (rw [if_pos (by omega), if_neg (by omega)]; omega) | (rw [if_pos (by omega), if_pos (by omega)]; omega) | (rw [if_neg (by omega), if_neg (by omega)]; omega) | (rw [if_neg (by omega), if_pos (by omega)]; omega))) (show (x_91 : Int32).toInt ≤ 2376 * x_96.toInt ∧ x_96.toInt ≤ 25 from by exact ⟨by omega, by omega⟩) (dw_lo hloi_91 qx_96) (dw_hn hni_91 qx_96)
                    · have fc_95 : r_92.toInt = d.toInt := zf_eq c_95 rfl rfl
                      refine lv_iload hx hb dX7_behind_158 (lv_at hl 0 rfl) ?_
                      refine lv_aload hx hb dX7_behind_160 (lv_at hl 5 rfl) ?_
                      refine lv_iload hx hb dX7_behind_162 (lv_at hl 2 rfl) ?_
                      refine zc_V (As := [.int i_91]) (rest := [.int x_91]) ⟨hx, hb, hml, hown, hts⟩ (c_F_Sh_tells l D cI cJ cZ cP cS po h0 e0 (he) (si) fe (i_91) hy4 hy5 hy6 hy7) (cwV 1 hts gX7_behind_X4_tells rfl rfl rfl ⟨rfl, dh_X4_tells⟩ ⟨Nat.le_of_ble_eq_true rfl, Nat.le_of_ble_eq_true rfl⟩) hK hN (hZ.kept hS) hP (hP.sub [3, 4] rfl) (va_recv (q := (RX4, TX4, 3)) hK hP (ci := 4) (q0 := 3) rfl rfl) rfl hl.1 rfl (Nat.le_of_ble_eq_true rfl) dX7_behind_164 ⟨Nat.le_of_ble_eq_true rfl, Nat.le_of_ble_eq_true rfl⟩ (fun r_97 hr_97 => ?_)
                      have hsr_97_0 := hr_97
                      have wr_97 := zTl_b hbel hsr_97_0 (by omega) (by have k0 : (0 : Int32).toInt = 0 := (by decide); omega) (by have k0 : (0 : Int32).toInt = 0 := (by decide); omega)
                      refine lv_bipush (v := 12) hx hb dX7_behind_167 (by decide) ?_
                      refine lv_iload hx hb dX7_behind_169 (lv_at hl 1 rfl) ?_
                      refine lv_isub hx hb dX7_behind_171 ?_
                      refine lv_topi (fun x_98 ex_98 => ?_)
                      have qx_98 : x_98.toInt = 12 - r_72.toInt := by rw [ex_98]; exact zf_sub (by decide) rfl (by omega) (by omega)
                      refine lv_imul hx hb dX7_behind_172 ?_
                      refine lv_topi (fun x_99 ex_99 => ?_)
                      obtain ⟨mx_99, nx_99, ox_99⟩ := zf_mulr (a := r_97) (b := x_98) (m := r_97.toInt * x_98.toInt) rfl rfl ⟨by omega, by omega⟩ ⟨by omega, by omega⟩ rfl
                      rw [← ex_99] at mx_99
                      refine lv_iadd hx hb dX7_behind_173 ?_
                      refine lv_topi (fun x_100 ex_100 => ?_)
                      have qx_100 : x_100.toInt = x_91.toInt + x_99.toInt := by rw [ex_100]; exact zf_add rfl rfl (by omega) (by omega)
                      refine lv_istore (lv' := [(7, .int x_100), (9, .int r_72), (8, .int i_91), (6, .int r_49), (5, .ref u_42), (4, .ref h0), (0, .ref x0), (1, .int s_), (2, .int p_), (3, .int d)]) hx hb dX7_behind_174 hl (by decide) rfl (fun ls hl => ?_)
                      obtain ⟨x_101, ex_101⟩ : ∃ y : Int32, y = i_91 + 1 := ⟨_, rfl⟩
                      have qx_101 : x_101.toInt = i_91.toInt + 1 := by rw [ex_101]; exact zf_add rfl (by decide) (by omega) (by omega)
                      refine lv_iinc (v := x_101) (lv' := [(8, .int x_101), (7, .int x_100), (9, .int r_72), (6, .int r_49), (5, .ref u_42), (4, .ref h0), (0, .ref x0), (1, .int s_), (2, .int p_), (3, .int d)]) hx hb dX7_behind_176 hl (k := 2) rfl ex_101.symm (by decide) rfl (fun ls hl => ?_)
                      refine lv_goto (tgt := 91) hx hb dX7_behind_179 (by decide) ?_
                      exact ih x_101 x_100 _ _ _ (hP.sub [0, 1, 2, 3, 4, 5, 6] rfl) (hD.sub [0, 1, 2, 3, 4, 5, 6] (by decide) rfl) hS (lv_sub hl [0, 1, 3, 4, 5, 6, 7, 8, 9] rfl) ⟨by omega, by omega⟩ (show (x_100 : Int32).toInt = zBh fe kiu_42.toInt au_42.toInt hu.toInt d.toInt (x_101.toInt - 1).toNat from by (rw [show (x_101.toInt - 1).toNat = (i_91.toInt - 1).toNat + 1 from by omega, zBh_s, show (((i_91.toInt - 1).toNat : Nat) : Int) + 1 = i_91.toInt from by omega, ← hvi_91_0, ← hsr_72_0, ← hsr_75_0, ← hsr_92_0]; have Mx_90 := mx_90; rw [wr_89.1] at Mx_90; have Mx_99 := mx_99; rw [wr_97.1, qx_98] at Mx_99; first | (rw [if_pos (by omega), if_pos (by omega)]; omega) | (rw [if_pos (by omega), if_neg (by omega)]; omega) | (rw [if_neg (by omega), if_pos (by omega)]; omega) | (rw [if_neg (by omega), if_neg (by omega)]; omega))) (show (x_100 : Int32).toInt ≤ 2376 * x_101.toInt ∧ x_101.toInt ≤ 25 from by exact ⟨by omega, by omega⟩) (dw_lo hloi_91 qx_101) (dw_hn hni_91 qx_101)
            · have fc_68 : d.toInt = 0 := zf_eq c_68 rfl (by decide)
              refine lv_aload hx hb dX7_behind_73 (lv_at hl 2 rfl) ?_
              refine lv_iconst (v := 0) hx hb dX7_behind_75 (by decide) ?_
              refine zc_V (As := [.int 0]) (rest := []) ⟨hx, hb, hml, hown, hts⟩ (c_F_Sh_tells l D cI cJ cZ cP cS po h0 e0 (he) (si) fe (0) hy4 hy5 hy6 hy7) (cwV 1 hts gX7_behind_X4_tells rfl rfl rfl ⟨rfl, dh_X4_tells⟩ ⟨Nat.le_of_ble_eq_true rfl, Nat.le_of_ble_eq_true rfl⟩) hK hN (hZ.kept hS) hP (hP.sub [3, 4] rfl) (va_recv (q := (RX4, TX4, 3)) hK hP (ci := 4) (q0 := 3) rfl rfl) rfl hl.1 rfl (Nat.le_of_ble_eq_true rfl) dX7_behind_76 ⟨Nat.le_of_ble_eq_true rfl, Nat.le_of_ble_eq_true rfl⟩ (fun r_102 hr_102 => ?_)
              have hsr_102_0 := hr_102
              have wr_102 := zTl_b hbel hsr_102_0 (by omega) (by have k0 : (0 : Int32).toInt = 0 := (by decide); omega) (by have k0 : (0 : Int32).toInt = 0 := (by decide); omega)
              refine lv_bipush (v := 12) hx hb dX7_behind_79 (by decide) ?_
              refine lv_imul hx hb dX7_behind_81 ?_
              refine lv_topi (fun x_103 ex_103 => ?_)
              have qx_103 : x_103.toInt = r_102.toInt * 12 := by rw [ex_103]; exact zf_mul rfl (by decide) (by omega) (by omega)
              refine lv_goto (tgt := 86) hx hb dX7_behind_82 (by decide) ?_
              refine lv_istore (lv' := [(7, .int x_103), (6, .int r_49), (5, .ref u_42), (4, .ref h0), (0, .ref x0), (1, .int s_), (2, .int p_), (3, .int d)]) hx hb dX7_behind_86 hl (by decide) rfl (fun ls hl => ?_)
              refine lv_iconst (v := 1) hx hb dX7_behind_88 (by decide) ?_
              refine lv_istore (lv' := [(8, .int 1), (7, .int x_103), (6, .int r_49), (5, .ref u_42), (4, .ref h0), (0, .ref x0), (1, .int s_), (2, .int p_), (3, .int d)]) hx hb dX7_behind_89 hl (by decide) rfl (fun ls hl => ?_)
              obtain ⟨i_91, hi_91⟩ : ∃ i : Int32, i = 1 := ⟨_, rfl⟩
              replace hl : lv_has ls 10 [(8, .int i_91), (7, .int x_103), (6, .int r_49), (5, .ref u_42), (4, .ref h0), (0, .ref x0), (1, .int s_), (2, .int p_), (3, .int d)] := by rw [hi_91]; exact lv_sub hl [0, 1, 2, 3, 4, 5, 6, 7, 8] rfl
              have h1i_91 : i_91.toInt = 1 := by rw [hi_91]; decide
              obtain ⟨nfu, hni_91⟩ : ∃ nq9 : Nat, 25 ≤ i_91.toInt + (nq9 : Int) := ⟨((25 : Int) - 1).toNat, by omega⟩
              have hloi_91 : 1 ≤ i_91.toInt := by omega
              obtain ⟨v_104, hv_104⟩ : ∃ g : Int32, g = x_103 := ⟨_, rfl⟩
              replace hl : lv_has ls 10 [(8, .int i_91), (7, .int v_104), (6, .int r_49), (5, .ref u_42), (4, .ref h0), (0, .ref x0), (1, .int s_), (2, .int p_), (3, .int d)] := by rw [hv_104]; exact hl
              have hbv_104 : 0 ≤ v_104.toInt ∧ v_104.toInt ≤ 59400 := by rw [hv_104]; exact ⟨by omega, by omega⟩
              have hvi_91_0 : (v_104 : Int32).toInt = zBh fe kiu_42.toInt au_42.toInt hu.toInt d.toInt (i_91.toInt - 1).toNat := by
                (try rw [hi_91]); (try rw [hv_104]); (rw [show ((1 : Int32).toInt - 1).toNat = 0 from by decide]; show _ = (if d.toInt = 0 then 12 * zTl fe 0 else 0); have z := wr_102.1; rw [show ((0 : Int32).toInt) = 0 from by decide] at z; rw [if_pos (by omega), ← z]; omega)
              have hvi_91_1 : (v_104 : Int32).toInt ≤ 2376 * i_91.toInt ∧ i_91.toInt ≤ 25 := by
                (try rw [hi_91]); (try rw [hv_104]); (have k1 : (1 : Int32).toInt = 1 := (by decide); have k0 : (0 : Int32).toInt = 0 := (by decide); omega)
              clear h1i_91 hi_91 hv_104
              skip
              revert hni_91
              revert hloi_91
              revert hvi_91_1
              revert hvi_91_0
              revert hbv_104
              revert hl
              revert hS
              revert hD
              revert hP
              revert ls
              revert locs
              revert H
              revert v_104
              revert i_91
              induction nfu with
              | zero =>
                intro i_91 v_104 H locs ls hP hD hS hl hbv_104 hvi_91_0 hvi_91_1 hloi_91 hni_91
                have hzi_91 : 25 ≤ i_91.toInt := by omega
                refine lv_iload hx hb dX7_behind_91 (lv_at hl 0 rfl) ?_
                refine lv_bipush (v := 24) hx hb dX7_behind_93 (by decide) ?_
                refine lv_icmp_gt (tgt := 182) hx hb dX7_behind_95 (by decide) (fun c_105 => ?_) (fun c_105 => ?_)
                · have fc_105 : 24 < i_91.toInt := zf_lt c_105 (by decide) rfl
                  refine lv_iload hx hb dX7_behind_182 (lv_at hl 1 rfl) ?_
                  exact W.iret (v := v_104) hx hb hr (fun t ht hW => ⟨⟨v_104, fr, rfl, ⟨(show ((s_.toInt < 0 ∨ 7 < s_.toInt ∨ p_.toInt < 0 ∨ cn.toInt ≤ p_.toInt) ∧ (v_104 : Int32).toInt = -1) ∨ ((0 ≤ s_.toInt ∧ s_.toInt ≤ 7) ∧ (0 ≤ p_.toInt ∧ p_.toInt < cn.toInt) ∧ ∃ q : Int, zBelR he.toInt si.toInt fe q ∧ ((q ≠ 0 ∧ (v_104 : Int32).toInt = -q) ∨ (q = 0 ∧ (((d.toInt < 0 ∨ 24 < d.toInt) ∧ (v_104 : Int32).toInt = -6) ∨ ((0 ≤ d.toInt ∧ d.toInt ≤ 24) ∧ (v_104 : Int32).toInt = zBh fe (kf p_.toNatClampNeg).toInt (af p_.toNatClampNeg).toInt hu.toInt d.toInt 24))))) from by (obtain ⟨⟨y1, y2, y3⟩, y4, y5⟩ := hkku_42; have h9 : (i_91.toInt - 1).toNat = 24 := (by omega); have z := hvi_91_0; rw [h9] at z; refine Or.inr ⟨by omega, by omega, _, hsr_49_0, Or.inr ⟨by omega, Or.inr ⟨by omega, ?_⟩⟩⟩; rw [← y1, ← y2]; exact z)), trivial⟩, zRet ht hP hD [0, 1, 2, 3, 4, 5, 6] (by decide) rfl⟩, hS.F ht⟩) hS.2.2 dX7_behind_184
                · exfalso; have fc_105 : i_91.toInt ≤ 24 := zf_nlt c_105 (by decide) rfl; omega
              | succ nfu ih =>
                intro i_91 v_104 H locs ls hP hD hS hl hbv_104 hvi_91_0 hvi_91_1 hloi_91 hni_91
                refine lv_iload hx hb dX7_behind_91 (lv_at hl 0 rfl) ?_
                refine lv_bipush (v := 24) hx hb dX7_behind_93 (by decide) ?_
                refine lv_icmp_gt (tgt := 182) hx hb dX7_behind_95 (by decide) (fun c_106 => ?_) (fun c_106 => ?_)
                · have fc_106 : 24 < i_91.toInt := zf_lt c_106 (by decide) rfl
                  refine lv_iload hx hb dX7_behind_182 (lv_at hl 1 rfl) ?_
                  exact W.iret (v := v_104) hx hb hr (fun t ht hW => ⟨⟨v_104, fr, rfl, ⟨(show ((s_.toInt < 0 ∨ 7 < s_.toInt ∨ p_.toInt < 0 ∨ cn.toInt ≤ p_.toInt) ∧ (v_104 : Int32).toInt = -1) ∨ ((0 ≤ s_.toInt ∧ s_.toInt ≤ 7) ∧ (0 ≤ p_.toInt ∧ p_.toInt < cn.toInt) ∧ ∃ q : Int, zBelR he.toInt si.toInt fe q ∧ ((q ≠ 0 ∧ (v_104 : Int32).toInt = -q) ∨ (q = 0 ∧ (((d.toInt < 0 ∨ 24 < d.toInt) ∧ (v_104 : Int32).toInt = -6) ∨ ((0 ≤ d.toInt ∧ d.toInt ≤ 24) ∧ (v_104 : Int32).toInt = zBh fe (kf p_.toNatClampNeg).toInt (af p_.toNatClampNeg).toInt hu.toInt d.toInt 24))))) from by (obtain ⟨⟨y1, y2, y3⟩, y4, y5⟩ := hkku_42; have h9 : (i_91.toInt - 1).toNat = 24 := (by omega); have z := hvi_91_0; rw [h9] at z; refine Or.inr ⟨by omega, by omega, _, hsr_49_0, Or.inr ⟨by omega, Or.inr ⟨by omega, ?_⟩⟩⟩; rw [← y1, ← y2]; exact z)), trivial⟩, zRet ht hP hD [0, 1, 2, 3, 4, 5, 6] (by decide) rfl⟩, hS.F ht⟩) hS.2.2 dX7_behind_184
                · have fc_106 : i_91.toInt ≤ 24 := zf_nlt c_106 (by decide) rfl
                  refine lv_aload hx hb dX7_behind_98 (lv_at hl 3 rfl) ?_
                  refine lv_iload hx hb dX7_behind_100 (lv_at hl 0 rfl) ?_
                  refine lv_aload_n hx hb dX7_behind_102 rfl (lv_at hl 5 rfl) ?_
                  refine va_get (D := D) (ci := 7) (v := .ref j0) (C := RX7) (T := TX7) (N := 9) hx hb hts hi_X7_behind_7 hown hK hP 0 rfl rfl 1 (by decide) (hts (.fieldLink RX7 18 "TheLiningsInIt" "now" "LTheLiningsInIt$Jacket;") (List.mem_of_getElem? (i := 1) rfl)) (fun _ h9 => h9) rfl dX7_behind_103 ?_
                  refine va_get (D := D) (ci := 0) (v := .int hu) (C := RX0) (T := TX0) (N := 9) hx hb hts hi_X7_behind_0 hown hK hP 5 rfl rfl 7 (by decide) (hts (.fieldLink RX7 116 "TheLiningsInIt$Jacket" "hurry" "I") (List.mem_of_getElem? (i := 2) rfl)) (fun _ h9 => h9) rfl dX7_behind_106 ?_
                  refine zc_V (As := [.int i_91, .int hu]) (rest := []) ⟨hx, hb, hml, hown, hts⟩ (c_F_Pull_waysAt l D cI cJ cZ cP cS po (i_91) (hu) u_42 (kiu_42) (au_42) (tu_42) huu_42 ⟨by omega, by omega, by omega, by omega⟩ (by omega) (by omega) hy13 hy14) (cwV 2 hts gX7_behind_X2_waysAt rfl rfl rfl ⟨rfl, dh_X2_waysAt⟩ ⟨Nat.le_of_ble_eq_true rfl, Nat.le_of_ble_eq_true rfl⟩) hK hN (hZ.kept hS) hP zP_nil (va_recv (q := (RX2, TX2, 3)) hK (zPu_P (hZ.kept hS) huu_42) (ci := 2) (q0 := 0) rfl rfl) rfl hl.1 rfl (Nat.le_of_ble_eq_true rfl) dX7_behind_109 ⟨Nat.le_of_ble_eq_true rfl, Nat.le_of_ble_eq_true rfl⟩ (fun r_107 hr_107 => ?_)
                  obtain ⟨g_108, g_109, hsr_107_0⟩ := hr_107
                  refine lv_istore (lv' := [(9, .int r_107), (8, .int i_91), (7, .int v_104), (6, .int r_49), (5, .ref u_42), (4, .ref h0), (0, .ref x0), (1, .int s_), (2, .int p_), (3, .int d)]) hx hb dX7_behind_112 hl (by decide) rfl (fun ls hl => ?_)
                  refine lv_aload hx hb dX7_behind_114 (lv_at hl 4 rfl) ?_
                  refine lv_iload hx hb dX7_behind_116 (lv_at hl 1 rfl) ?_
                  refine zc_V (As := [.int i_91]) (rest := []) ⟨hx, hb, hml, hown, hts⟩ (c_F_Pull_shallower l D cI cJ cZ cP cS po (i_91) u_42 (kiu_42) (au_42) (tu_42) huu_42 ⟨by omega, by omega, by omega, by omega⟩ (by omega) (by omega)) (cwV 1 hts gX7_behind_X2_shallower rfl rfl rfl ⟨rfl, dh_X2_shallower⟩ ⟨Nat.le_of_ble_eq_true rfl, Nat.le_of_ble_eq_true rfl⟩) hK hN (hZ.kept hS) hP zP_nil (va_recv (q := (RX2, TX2, 3)) hK (zPu_P (hZ.kept hS) huu_42) (ci := 2) (q0 := 0) rfl rfl) rfl hl.1 rfl (Nat.le_of_ble_eq_true rfl) dX7_behind_118 ⟨Nat.le_of_ble_eq_true rfl, Nat.le_of_ble_eq_true rfl⟩ (fun r_110 hr_110 => ?_)
                  obtain ⟨g_111, g_112, hsr_110_0⟩ := hr_110
                  refine lv_iload_n hx hb dX7_behind_121 rfl (lv_at hl 9 rfl) ?_
                  refine lv_icmp_ne (tgt := 140) hx hb dX7_behind_122 (by decide) (fun c_113 => ?_) (fun c_113 => ?_)
                  · have fc_113 : r_110.toInt ≠ d.toInt := zf_ne c_113 rfl rfl
                    refine lv_aload hx hb dX7_behind_140 (lv_at hl 4 rfl) ?_
                    refine lv_iload hx hb dX7_behind_142 (lv_at hl 1 rfl) ?_
                    refine lv_aload_n hx hb dX7_behind_144 rfl (lv_at hl 6 rfl) ?_
                    refine va_get (D := D) (ci := 7) (v := .ref j0) (C := RX7) (T := TX7) (N := 9) hx hb hts hi_X7_behind_7 hown hK hP 0 rfl rfl 1 (by decide) (hts (.fieldLink RX7 18 "TheLiningsInIt" "now" "LTheLiningsInIt$Jacket;") (List.mem_of_getElem? (i := 1) rfl)) (fun _ h9 => h9) rfl dX7_behind_145 ?_
                    refine va_get (D := D) (ci := 0) (v := .int hu) (C := RX0) (T := TX0) (N := 9) hx hb hts hi_X7_behind_0 hown hK hP 5 rfl rfl 7 (by decide) (hts (.fieldLink RX7 116 "TheLiningsInIt$Jacket" "hurry" "I") (List.mem_of_getElem? (i := 2) rfl)) (fun _ h9 => h9) rfl dX7_behind_148 ?_
                    refine zc_V (As := [.int i_91, .int hu]) (rest := []) ⟨hx, hb, hml, hown, hts⟩ (c_F_Pull_deeper l D cI cJ cZ cP cS po (i_91) (hu) u_42 (kiu_42) (au_42) (tu_42) huu_42 ⟨by omega, by omega, by omega, by omega⟩ (by omega) (by omega) hy13 hy14) (cwV 2 hts gX7_behind_X2_deeper rfl rfl rfl ⟨rfl, dh_X2_deeper⟩ ⟨Nat.le_of_ble_eq_true rfl, Nat.le_of_ble_eq_true rfl⟩) hK hN (hZ.kept hS) hP zP_nil (va_recv (q := (RX2, TX2, 3)) hK (zPu_P (hZ.kept hS) huu_42) (ci := 2) (q0 := 0) rfl rfl) rfl hl.1 rfl (Nat.le_of_ble_eq_true rfl) dX7_behind_151 ⟨Nat.le_of_ble_eq_true rfl, Nat.le_of_ble_eq_true rfl⟩ (fun r_114 hr_114 => ?_)
                    obtain ⟨g_115, g_116, hsr_114_0⟩ := hr_114
                    refine lv_iload_n hx hb dX7_behind_154 rfl (lv_at hl 9 rfl) ?_
                    refine lv_icmp_ne (tgt := 176) hx hb dX7_behind_155 (by decide) (fun c_117 => ?_) (fun c_117 => ?_)
                    · have fc_117 : r_114.toInt ≠ d.toInt := zf_ne c_117 rfl rfl
                      obtain ⟨x_118, ex_118⟩ : ∃ y : Int32, y = i_91 + 1 := ⟨_, rfl⟩
                      have qx_118 : x_118.toInt = i_91.toInt + 1 := by rw [ex_118]; exact zf_add rfl (by decide) (by omega) (by omega)
                      refine lv_iinc (v := x_118) (lv' := [(8, .int x_118), (9, .int r_107), (7, .int v_104), (6, .int r_49), (5, .ref u_42), (4, .ref h0), (0, .ref x0), (1, .int s_), (2, .int p_), (3, .int d)]) hx hb dX7_behind_176 hl (k := 1) rfl ex_118.symm (by decide) rfl (fun ls hl => ?_)
                      refine lv_goto (tgt := 91) hx hb dX7_behind_179 (by decide) ?_
                      exact ih x_118 v_104 _ _ _ (hP.sub [0, 1, 2, 3, 4, 5, 6] rfl) (hD.sub [0, 1, 2, 3, 4, 5, 6] (by decide) rfl) hS (lv_sub hl [0, 2, 3, 4, 5, 6, 7, 8, 9] rfl) hbv_104 (show (v_104 : Int32).toInt = zBh fe kiu_42.toInt au_42.toInt hu.toInt d.toInt (x_118.toInt - 1).toNat from by (rw [show (x_118.toInt - 1).toNat = (i_91.toInt - 1).toNat + 1 from by omega, zBh_s, show (((i_91.toInt - 1).toNat : Nat) : Int) + 1 = i_91.toInt from by omega, ← hvi_91_0, ← hsr_107_0, ← hsr_110_0, ← hsr_114_0]; first | (rw [if_neg (by omega), if_neg (by omega)]; omega) | (rw [if_pos (by omega), if_neg (by omega)]; omega) | (rw [if_neg (by omega), if_pos (by omega)]; omega) | (rw [if_pos (by omega), if_pos (by omega)]; omega))) (show (v_104 : Int32).toInt ≤ 2376 * x_118.toInt ∧ x_118.toInt ≤ 25 from by exact ⟨by omega, by omega⟩) (dw_lo hloi_91 qx_118) (dw_hn hni_91 qx_118)
                    · have fc_117 : r_114.toInt = d.toInt := zf_eq c_117 rfl rfl
                      refine lv_iload hx hb dX7_behind_158 (lv_at hl 2 rfl) ?_
                      refine lv_aload hx hb dX7_behind_160 (lv_at hl 5 rfl) ?_
                      refine lv_iload hx hb dX7_behind_162 (lv_at hl 1 rfl) ?_
                      refine zc_V (As := [.int i_91]) (rest := [.int v_104]) ⟨hx, hb, hml, hown, hts⟩ (c_F_Sh_tells l D cI cJ cZ cP cS po h0 e0 (he) (si) fe (i_91) hy4 hy5 hy6 hy7) (cwV 1 hts gX7_behind_X4_tells rfl rfl rfl ⟨rfl, dh_X4_tells⟩ ⟨Nat.le_of_ble_eq_true rfl, Nat.le_of_ble_eq_true rfl⟩) hK hN (hZ.kept hS) hP (hP.sub [3, 4] rfl) (va_recv (q := (RX4, TX4, 3)) hK hP (ci := 4) (q0 := 3) rfl rfl) rfl hl.1 rfl (Nat.le_of_ble_eq_true rfl) dX7_behind_164 ⟨Nat.le_of_ble_eq_true rfl, Nat.le_of_ble_eq_true rfl⟩ (fun r_119 hr_119 => ?_)
                      have hsr_119_0 := hr_119
                      have wr_119 := zTl_b hbel hsr_119_0 (by omega) (by have k0 : (0 : Int32).toInt = 0 := (by decide); omega) (by have k0 : (0 : Int32).toInt = 0 := (by decide); omega)
                      refine lv_bipush (v := 12) hx hb dX7_behind_167 (by decide) ?_
                      refine lv_iload hx hb dX7_behind_169 (lv_at hl 0 rfl) ?_
                      refine lv_isub hx hb dX7_behind_171 ?_
                      refine lv_topi (fun x_120 ex_120 => ?_)
                      have qx_120 : x_120.toInt = 12 - r_107.toInt := by rw [ex_120]; exact zf_sub (by decide) rfl (by omega) (by omega)
                      refine lv_imul hx hb dX7_behind_172 ?_
                      refine lv_topi (fun x_121 ex_121 => ?_)
                      obtain ⟨mx_121, nx_121, ox_121⟩ := zf_mulr (a := r_119) (b := x_120) (m := r_119.toInt * x_120.toInt) rfl rfl ⟨by omega, by omega⟩ ⟨by omega, by omega⟩ rfl
                      rw [← ex_121] at mx_121
                      refine lv_iadd hx hb dX7_behind_173 ?_
                      refine lv_topi (fun x_122 ex_122 => ?_)
                      have qx_122 : x_122.toInt = v_104.toInt + x_121.toInt := by rw [ex_122]; exact zf_add rfl rfl (by omega) (by omega)
                      refine lv_istore (lv' := [(7, .int x_122), (9, .int r_107), (8, .int i_91), (6, .int r_49), (5, .ref u_42), (4, .ref h0), (0, .ref x0), (1, .int s_), (2, .int p_), (3, .int d)]) hx hb dX7_behind_174 hl (by decide) rfl (fun ls hl => ?_)
                      obtain ⟨x_123, ex_123⟩ : ∃ y : Int32, y = i_91 + 1 := ⟨_, rfl⟩
                      have qx_123 : x_123.toInt = i_91.toInt + 1 := by rw [ex_123]; exact zf_add rfl (by decide) (by omega) (by omega)
                      refine lv_iinc (v := x_123) (lv' := [(8, .int x_123), (7, .int x_122), (9, .int r_107), (6, .int r_49), (5, .ref u_42), (4, .ref h0), (0, .ref x0), (1, .int s_), (2, .int p_), (3, .int d)]) hx hb dX7_behind_176 hl (k := 2) rfl ex_123.symm (by decide) rfl (fun ls hl => ?_)
                      refine lv_goto (tgt := 91) hx hb dX7_behind_179 (by decide) ?_
                      exact ih x_123 x_122 _ _ _ (hP.sub [0, 1, 2, 3, 4, 5, 6] rfl) (hD.sub [0, 1, 2, 3, 4, 5, 6] (by decide) rfl) hS (lv_sub hl [0, 1, 3, 4, 5, 6, 7, 8, 9] rfl) ⟨by omega, by omega⟩ (show (x_122 : Int32).toInt = zBh fe kiu_42.toInt au_42.toInt hu.toInt d.toInt (x_123.toInt - 1).toNat from by (rw [show (x_123.toInt - 1).toNat = (i_91.toInt - 1).toNat + 1 from by omega, zBh_s, show (((i_91.toInt - 1).toNat : Nat) : Int) + 1 = i_91.toInt from by omega, ← hvi_91_0, ← hsr_107_0, ← hsr_110_0, ← hsr_114_0]; have Mx_121 := mx_121; rw [wr_119.1, qx_120] at Mx_121; first | (rw [if_neg (by omega), if_pos (by omega)]; omega) | (rw [if_pos (by omega), if_pos (by omega)]; omega) | (rw [if_neg (by omega), if_neg (by omega)]; omega) | (rw [if_pos (by omega), if_neg (by omega)]; omega))) (show (x_122 : Int32).toInt ≤ 2376 * x_123.toInt ∧ x_123.toInt ≤ 25 from by exact ⟨by omega, by omega⟩) (dw_lo hloi_91 qx_123) (dw_hn hni_91 qx_123)
                  · have fc_113 : r_110.toInt = d.toInt := zf_eq c_113 rfl rfl
                    refine lv_iload hx hb dX7_behind_125 (lv_at hl 2 rfl) ?_
                    refine lv_aload hx hb dX7_behind_127 (lv_at hl 5 rfl) ?_
                    refine lv_iload hx hb dX7_behind_129 (lv_at hl 1 rfl) ?_
                    refine zc_V (As := [.int i_91]) (rest := [.int v_104]) ⟨hx, hb, hml, hown, hts⟩ (c_F_Sh_tells l D cI cJ cZ cP cS po h0 e0 (he) (si) fe (i_91) hy4 hy5 hy6 hy7) (cwV 1 hts gX7_behind_X4_tells rfl rfl rfl ⟨rfl, dh_X4_tells⟩ ⟨Nat.le_of_ble_eq_true rfl, Nat.le_of_ble_eq_true rfl⟩) hK hN (hZ.kept hS) hP (hP.sub [3, 4] rfl) (va_recv (q := (RX4, TX4, 3)) hK hP (ci := 4) (q0 := 3) rfl rfl) rfl hl.1 rfl (Nat.le_of_ble_eq_true rfl) dX7_behind_131 ⟨Nat.le_of_ble_eq_true rfl, Nat.le_of_ble_eq_true rfl⟩ (fun r_124 hr_124 => ?_)
                    have hsr_124_0 := hr_124
                    have wr_124 := zTl_b hbel hsr_124_0 (by omega) (by have k0 : (0 : Int32).toInt = 0 := (by decide); omega) (by have k0 : (0 : Int32).toInt = 0 := (by decide); omega)
                    refine lv_iload hx hb dX7_behind_134 (lv_at hl 0 rfl) ?_
                    refine lv_imul hx hb dX7_behind_136 ?_
                    refine lv_topi (fun x_125 ex_125 => ?_)
                    obtain ⟨mx_125, nx_125, ox_125⟩ := zf_mulr (a := r_124) (b := r_107) (m := r_124.toInt * r_107.toInt) rfl rfl ⟨by omega, by omega⟩ ⟨by omega, by omega⟩ rfl
                    rw [← ex_125] at mx_125
                    refine lv_iadd hx hb dX7_behind_137 ?_
                    refine lv_topi (fun x_126 ex_126 => ?_)
                    have qx_126 : x_126.toInt = v_104.toInt + x_125.toInt := by rw [ex_126]; exact zf_add rfl rfl (by omega) (by omega)
                    refine lv_istore (lv' := [(7, .int x_126), (9, .int r_107), (8, .int i_91), (6, .int r_49), (5, .ref u_42), (4, .ref h0), (0, .ref x0), (1, .int s_), (2, .int p_), (3, .int d)]) hx hb dX7_behind_138 hl (by decide) rfl (fun ls hl => ?_)
                    refine lv_aload hx hb dX7_behind_140 (lv_at hl 4 rfl) ?_
                    refine lv_iload hx hb dX7_behind_142 (lv_at hl 2 rfl) ?_
                    refine lv_aload_n hx hb dX7_behind_144 rfl (lv_at hl 6 rfl) ?_
                    refine va_get (D := D) (ci := 7) (v := .ref j0) (C := RX7) (T := TX7) (N := 9) hx hb hts hi_X7_behind_7 hown hK hP 0 rfl rfl 1 (by decide) (hts (.fieldLink RX7 18 "TheLiningsInIt" "now" "LTheLiningsInIt$Jacket;") (List.mem_of_getElem? (i := 1) rfl)) (fun _ h9 => h9) rfl dX7_behind_145 ?_
                    refine va_get (D := D) (ci := 0) (v := .int hu) (C := RX0) (T := TX0) (N := 9) hx hb hts hi_X7_behind_0 hown hK hP 5 rfl rfl 7 (by decide) (hts (.fieldLink RX7 116 "TheLiningsInIt$Jacket" "hurry" "I") (List.mem_of_getElem? (i := 2) rfl)) (fun _ h9 => h9) rfl dX7_behind_148 ?_
                    refine zc_V (As := [.int i_91, .int hu]) (rest := []) ⟨hx, hb, hml, hown, hts⟩ (c_F_Pull_deeper l D cI cJ cZ cP cS po (i_91) (hu) u_42 (kiu_42) (au_42) (tu_42) huu_42 ⟨by omega, by omega, by omega, by omega⟩ (by omega) (by omega) hy13 hy14) (cwV 2 hts gX7_behind_X2_deeper rfl rfl rfl ⟨rfl, dh_X2_deeper⟩ ⟨Nat.le_of_ble_eq_true rfl, Nat.le_of_ble_eq_true rfl⟩) hK hN (hZ.kept hS) hP zP_nil (va_recv (q := (RX2, TX2, 3)) hK (zPu_P (hZ.kept hS) huu_42) (ci := 2) (q0 := 0) rfl rfl) rfl hl.1 rfl (Nat.le_of_ble_eq_true rfl) dX7_behind_151 ⟨Nat.le_of_ble_eq_true rfl, Nat.le_of_ble_eq_true rfl⟩ (fun r_127 hr_127 => ?_)
                    obtain ⟨g_128, g_129, hsr_127_0⟩ := hr_127
                    refine lv_iload_n hx hb dX7_behind_154 rfl (lv_at hl 9 rfl) ?_
                    refine lv_icmp_ne (tgt := 176) hx hb dX7_behind_155 (by decide) (fun c_130 => ?_) (fun c_130 => ?_)
                    · have fc_130 : r_127.toInt ≠ d.toInt := zf_ne c_130 rfl rfl
                      obtain ⟨x_131, ex_131⟩ : ∃ y : Int32, y = i_91 + 1 := ⟨_, rfl⟩
                      have qx_131 : x_131.toInt = i_91.toInt + 1 := by rw [ex_131]; exact zf_add rfl (by decide) (by omega) (by omega)
                      refine lv_iinc (v := x_131) (lv' := [(8, .int x_131), (7, .int x_126), (9, .int r_107), (6, .int r_49), (5, .ref u_42), (4, .ref h0), (0, .ref x0), (1, .int s_), (2, .int p_), (3, .int d)]) hx hb dX7_behind_176 hl (k := 2) rfl ex_131.symm (by decide) rfl (fun ls hl => ?_)
                      refine lv_goto (tgt := 91) hx hb dX7_behind_179 (by decide) ?_
                      exact ih x_131 x_126 _ _ _ (hP.sub [0, 1, 2, 3, 4, 5, 6] rfl) (hD.sub [0, 1, 2, 3, 4, 5, 6] (by decide) rfl) hS (lv_sub hl [0, 1, 3, 4, 5, 6, 7, 8, 9] rfl) ⟨by omega, by omega⟩ (show (x_126 : Int32).toInt = zBh fe kiu_42.toInt au_42.toInt hu.toInt d.toInt (x_131.toInt - 1).toNat from by (rw [show (x_131.toInt - 1).toNat = (i_91.toInt - 1).toNat + 1 from by omega, zBh_s, show (((i_91.toInt - 1).toNat : Nat) : Int) + 1 = i_91.toInt from by omega, ← hvi_91_0, ← hsr_107_0, ← hsr_110_0, ← hsr_127_0]; have Mx_125 := mx_125; rw [wr_124.1] at Mx_125; first | (rw [if_pos (by omega), if_neg (by omega)]; omega) | (rw [if_pos (by omega), if_pos (by omega)]; omega) | (rw [if_neg (by omega), if_neg (by omega)]; omega) | (rw [if_neg (by omega), if_pos (by omega)]; omega))) (show (x_126 : Int32).toInt ≤ 2376 * x_131.toInt ∧ x_131.toInt ≤ 25 from by exact ⟨by omega, by omega⟩) (dw_lo hloi_91 qx_131) (dw_hn hni_91 qx_131)
                    · have fc_130 : r_127.toInt = d.toInt := zf_eq c_130 rfl rfl
                      refine lv_iload hx hb dX7_behind_158 (lv_at hl 0 rfl) ?_
                      refine lv_aload hx hb dX7_behind_160 (lv_at hl 5 rfl) ?_
                      refine lv_iload hx hb dX7_behind_162 (lv_at hl 2 rfl) ?_
                      refine zc_V (As := [.int i_91]) (rest := [.int x_126]) ⟨hx, hb, hml, hown, hts⟩ (c_F_Sh_tells l D cI cJ cZ cP cS po h0 e0 (he) (si) fe (i_91) hy4 hy5 hy6 hy7) (cwV 1 hts gX7_behind_X4_tells rfl rfl rfl ⟨rfl, dh_X4_tells⟩ ⟨Nat.le_of_ble_eq_true rfl, Nat.le_of_ble_eq_true rfl⟩) hK hN (hZ.kept hS) hP (hP.sub [3, 4] rfl) (va_recv (q := (RX4, TX4, 3)) hK hP (ci := 4) (q0 := 3) rfl rfl) rfl hl.1 rfl (Nat.le_of_ble_eq_true rfl) dX7_behind_164 ⟨Nat.le_of_ble_eq_true rfl, Nat.le_of_ble_eq_true rfl⟩ (fun r_132 hr_132 => ?_)
                      have hsr_132_0 := hr_132
                      have wr_132 := zTl_b hbel hsr_132_0 (by omega) (by have k0 : (0 : Int32).toInt = 0 := (by decide); omega) (by have k0 : (0 : Int32).toInt = 0 := (by decide); omega)
                      refine lv_bipush (v := 12) hx hb dX7_behind_167 (by decide) ?_
                      refine lv_iload hx hb dX7_behind_169 (lv_at hl 1 rfl) ?_
                      refine lv_isub hx hb dX7_behind_171 ?_
                      refine lv_topi (fun x_133 ex_133 => ?_)
                      have qx_133 : x_133.toInt = 12 - r_107.toInt := by rw [ex_133]; exact zf_sub (by decide) rfl (by omega) (by omega)
                      refine lv_imul hx hb dX7_behind_172 ?_
                      refine lv_topi (fun x_134 ex_134 => ?_)
                      obtain ⟨mx_134, nx_134, ox_134⟩ := zf_mulr (a := r_132) (b := x_133) (m := r_132.toInt * x_133.toInt) rfl rfl ⟨by omega, by omega⟩ ⟨by omega, by omega⟩ rfl
                      rw [← ex_134] at mx_134
                      refine lv_iadd hx hb dX7_behind_173 ?_
                      refine lv_topi (fun x_135 ex_135 => ?_)
                      have qx_135 : x_135.toInt = x_126.toInt + x_134.toInt := by rw [ex_135]; exact zf_add rfl rfl (by omega) (by omega)
                      refine lv_istore (lv' := [(7, .int x_135), (9, .int r_107), (8, .int i_91), (6, .int r_49), (5, .ref u_42), (4, .ref h0), (0, .ref x0), (1, .int s_), (2, .int p_), (3, .int d)]) hx hb dX7_behind_174 hl (by decide) rfl (fun ls hl => ?_)
                      obtain ⟨x_136, ex_136⟩ : ∃ y : Int32, y = i_91 + 1 := ⟨_, rfl⟩
                      have qx_136 : x_136.toInt = i_91.toInt + 1 := by rw [ex_136]; exact zf_add rfl (by decide) (by omega) (by omega)
                      refine lv_iinc (v := x_136) (lv' := [(8, .int x_136), (7, .int x_135), (9, .int r_107), (6, .int r_49), (5, .ref u_42), (4, .ref h0), (0, .ref x0), (1, .int s_), (2, .int p_), (3, .int d)]) hx hb dX7_behind_176 hl (k := 2) rfl ex_136.symm (by decide) rfl (fun ls hl => ?_)
                      refine lv_goto (tgt := 91) hx hb dX7_behind_179 (by decide) ?_
                      exact ih x_136 x_135 _ _ _ (hP.sub [0, 1, 2, 3, 4, 5, 6] rfl) (hD.sub [0, 1, 2, 3, 4, 5, 6] (by decide) rfl) hS (lv_sub hl [0, 1, 3, 4, 5, 6, 7, 8, 9] rfl) ⟨by omega, by omega⟩ (show (x_135 : Int32).toInt = zBh fe kiu_42.toInt au_42.toInt hu.toInt d.toInt (x_136.toInt - 1).toNat from by (rw [show (x_136.toInt - 1).toNat = (i_91.toInt - 1).toNat + 1 from by omega, zBh_s, show (((i_91.toInt - 1).toNat : Nat) : Int) + 1 = i_91.toInt from by omega, ← hvi_91_0, ← hsr_107_0, ← hsr_110_0, ← hsr_127_0]; have Mx_125 := mx_125; rw [wr_124.1] at Mx_125; have Mx_134 := mx_134; rw [wr_132.1, qx_133] at Mx_134; first | (rw [if_pos (by omega), if_pos (by omega)]; omega) | (rw [if_pos (by omega), if_neg (by omega)]; omega) | (rw [if_neg (by omega), if_pos (by omega)]; omega) | (rw [if_neg (by omega), if_neg (by omega)]; omega))) (show (x_135 : Int32).toInt ≤ 2376 * x_136.toInt ∧ x_136.toInt ≤ 25 from by exact ⟨by omega, by omega⟩) (dw_lo hloi_91 qx_136) (dw_hn hni_91 qx_136)
          · exact absurd c_67 (by decide)
      · have fc_52 : r_49.toInt ≠ 0 := zf_ne c_52 rfl (by decide)
        refine lv_aload_n hx hb dX7_behind_45 rfl (lv_at hl 3 rfl) ?_
        refine lv_iload hx hb dX7_behind_46 (lv_at hl 0 rfl) ?_
        skip
        refine zw_V (As := [.int r_49]) (rest := []) (wr := [(xs, .inl (cS, 8, .inr (.inr (.inr (.inr fh))))), (h0, .inr (4, [.ref e0, .int he, .int si])), (e0, .inl (cJ, 160, .inr (.inl fe))), (j0, .inr (0, [.ref z0, .ref jp, .ref jc, .int cn, .int de, .int tr, .int se, .int hu, .int sd])), (jp, .inl (cP, 8, .inr (.inr (.inr (.inr fp)))))]) ⟨hx, hb, hml, hown, hts⟩ (c_X_refuse l D cI cJ cZ cP cS po x0 xs j0 k0 w0 rd mv xr (im) (lf) fr (r_49) hy0 hy1 hy2 hy3 (by omega) (by omega) H.size) (cwV 1 hts gX7_behind_X7_refuse rfl rfl rfl ⟨rfl, dh_X7_refuse⟩ ⟨Nat.le_of_ble_eq_true rfl, Nat.le_of_ble_eq_true rfl⟩) hK hN (hZ.kept hS) hP hD hS hA [0, 1] [2, 3, 4, 5, 6] rfl rfl (by decide) (by decide) (by decide) (va_recv (q := (RX7, TX7, 9)) hK hP (ci := 7) (q0 := 0) rfl rfl) rfl hl.1 rfl (Nat.le_of_ble_eq_true rfl) dX7_behind_48 ⟨Nat.le_of_ble_eq_true rfl, Nat.le_of_ble_eq_true rfl⟩ (fun r_137 u_138 H locs hr_137 hP hD hS => ?_)
        obtain ⟨q_139, rfl⟩ : ∃ z, z = u_138 := ⟨_, rfl⟩
        obtain ⟨hsr_137_0, hr_137⟩ := hr_137
        have h9R := zRe (ws' := [(xs, .inl (cS, 8, .inr (.inr (.inr (.inr fh))))), (h0, .inr (4, [.ref e0, .int he, .int si])), (e0, .inl (cJ, 160, .inr (.inl fe))), (j0, .inr (0, [.ref z0, .ref jp, .ref jc, .int cn, .int de, .int tr, .int se, .int hu, .int sd])), (jp, .inl (cP, 8, .inr (.inr (.inr (.inr fp))))), (x0, .inr (7, [.ref xs, .ref j0, .ref k0, .ref w0, .ref rd, .ref mv, .ref xr, .int im, .int lf])), (xr, .inl (cI, 8, .inl q_139))]) hP hD rfl
        clear hP hD
        obtain ⟨hP, hD⟩ := h9R
        obtain ⟨g_140, g_141⟩ := hr_137
        exact W.iret (v := r_137) hx hb hr (fun t ht hW => ⟨⟨r_137, q_139, rfl, ⟨(show ((s_.toInt < 0 ∨ 7 < s_.toInt ∨ p_.toInt < 0 ∨ cn.toInt ≤ p_.toInt) ∧ (r_137 : Int32).toInt = -1) ∨ ((0 ≤ s_.toInt ∧ s_.toInt ≤ 7) ∧ (0 ≤ p_.toInt ∧ p_.toInt < cn.toInt) ∧ ∃ q : Int, zBelR he.toInt si.toInt fe q ∧ ((q ≠ 0 ∧ (r_137 : Int32).toInt = -q) ∨ (q = 0 ∧ (((d.toInt < 0 ∨ 24 < d.toInt) ∧ (r_137 : Int32).toInt = -6) ∨ ((0 ≤ d.toInt ∧ d.toInt ≤ 24) ∧ (r_137 : Int32).toInt = zBh fe (kf p_.toNatClampNeg).toInt (af p_.toNatClampNeg).toInt hu.toInt d.toInt 24))))) from by (obtain ⟨⟨y1, y2, y3⟩, y4, y5⟩ := hkku_42; first | exact Or.inr ⟨by omega, by omega, _, hsr_49_0, Or.inl ⟨by omega, by omega⟩⟩ | exact Or.inr ⟨by omega, by omega, _, hsr_49_0, Or.inr ⟨by omega, Or.inl ⟨by omega, by omega⟩⟩⟩)), trivial⟩, zRet ht hP hD [5, 6, 0, 1, 2, 3, 4] (by decide) rfl⟩, hS.F ht⟩) hS.2.2 dX7_behind_51

