section
set_option maxHeartbeats 4000000 in
set_option maxRecDepth 100000 in
theorem c_Pull_calm_any (l : Launch) (D : va_G) (cI cJ cZ cP cS : ClassId) (po : zPool) (d : Int32) (u0 : Nat) (ki a_ ta : Int32) (hu_u0 : zPu po u0 ki a_ ta) (hr_u0 : zPr ki a_ ta) : Met l yX2_calmWaysAt wsX2_calmWaysAt ({ frames := 0, cells := 0, slots := 0, locals := 0 }) (va_Pc [.ref u0, .int d] (zR D (zKT cI cJ cZ cP cS) po [])) (vp_Si (fun r => True)) 0 0 (fun _ => False) := by
  refine Met.ofW (cc := cX2_calmWaysAt) (maxL := 2) (ret := (some .int)) (by decide) rfl ?_
  intro p e s m args below meth c s₁ B hml hv
  obtain ⟨rfl, hP, hK, hN, hZ⟩ := hv
  have hx := B.exec
  have hb := B.bytes
  have hr := B.returns
  have hts := atoms_spec (ws := wsX2_calmWaysAt) B.pre
  have hown : s.vm.findClass RX2 = some m.cls := findClass_of_methodNamed B.named
  have hlocks := B.notSynchronized
  have hl := lv_entry ([.ref u0, .int d]) (n := 2) (Nat.le_of_ble_eq_true rfl)
  rw [lg_entry_eq]
  generalize (lg_sl ([.ref u0, .int d]) ++ List.replicate (2 - (lg_sl ([.ref u0, .int d])).length) Slot.unset).toArray = ls at hl ⊢
  replace hl : lv_has ls 2 [(0, .ref u0), (1, .int d)] := hl
  obtain ⟨⟨p1_u0, p2_u0⟩, ⟨p3_u0, p4_u0⟩, p5_u0, p6_u0⟩ := id hr_u0
  refine lv_aload_n hx hb dX2_calmWaysAt_0 rfl (lv_at hl 0 rfl) ?_
  refine va_get (D := D) (ci := 2) (v := .int ki) (C := RX2) (T := TX2) (N := 3) hx hb hts hi_X2_calmWaysAt_2 hown hK (zPu_P hZ hu_u0) 0 rfl rfl 0 (by decide) (hts (.fieldLink RX2 9 "TheLiningsInIt$Pull" "kind" "I") (List.mem_of_getElem? (i := 1) rfl)) (fun _ h9 => h9) rfl dX2_calmWaysAt_1 ?_
  have hsp : ki = 0 ∨ ki = 1 ∨ ki = 2 ∨ ki = 3 ∨ ki = 4 ∨ ki = 5 ∨ ki = 6 := by
    rcases (show ki.toInt = 0 ∨ ki.toInt = 1 ∨ ki.toInt = 2 ∨ ki.toInt = 3 ∨ ki.toInt = 4 ∨ ki.toInt = 5 ∨ ki.toInt = 6 by omega) with h9 | h9 | h9 | h9 | h9 | h9 | h9
    · refine Or.inl ?_; exact zf_val h9 (by decide)
    · refine Or.inr (Or.inl ?_); exact zf_val h9 (by decide)
    · refine Or.inr (Or.inr (Or.inl ?_)); exact zf_val h9 (by decide)
    · refine Or.inr (Or.inr (Or.inr (Or.inl ?_))); exact zf_val h9 (by decide)
    · refine Or.inr (Or.inr (Or.inr (Or.inr (Or.inl ?_)))); exact zf_val h9 (by decide)
    · refine Or.inr (Or.inr (Or.inr (Or.inr (Or.inr (Or.inl ?_))))); exact zf_val h9 (by decide)
    · refine Or.inr (Or.inr (Or.inr (Or.inr (Or.inr (Or.inr (?_)))))); exact zf_val h9 (by decide)
  rcases hsp with rfl | rfl | rfl | rfl | rfl | rfl | rfl
  · have kc0 : (0 : Int32).toInt = 0 := by decide
    refine lv_tableOut (tgt := 95) hx hb dX2_calmWaysAt_4 (by decide) (by decide) ?_
    refine lv_bipush (v := 6) hx hb dX2_calmWaysAt_95 (by decide) ?_
    refine lv_iload_n hx hb dX2_calmWaysAt_97 rfl (lv_at hl 1 rfl) ?_
    refine lv_iconst (v := 4) hx hb dX2_calmWaysAt_98 (by decide) ?_
    refine lv_idiv hx hb dX2_calmWaysAt_99 (by decide) ?_
    refine lv_topi (fun x_1 ex_1 => ?_)
    refine lv_isub hx hb dX2_calmWaysAt_100 ?_
    refine lv_topi (fun x_2 ex_2 => ?_)
    exact W.iret (v := x_2) hx hb hr (fun t ht hW => ⟨x_2, rfl, trivial, ht⟩) (fun q hq => by cases hq) dX2_calmWaysAt_101
  · have kc1 : (1 : Int32).toInt = 1 := by decide
    refine lv_tableIn (tgt := 44) hx hb dX2_calmWaysAt_4 (by decide) (by decide) rfl (by decide) ?_
    refine lv_bipush (v := 8) hx hb dX2_calmWaysAt_44 (by decide) ?_
    refine lv_iload_n hx hb dX2_calmWaysAt_46 rfl (lv_at hl 1 rfl) ?_
    refine lv_iconst (v := 4) hx hb dX2_calmWaysAt_47 (by decide) ?_
    refine lv_idiv hx hb dX2_calmWaysAt_48 (by decide) ?_
    refine lv_topi (fun x_3 ex_3 => ?_)
    refine lv_isub hx hb dX2_calmWaysAt_49 ?_
    refine lv_topi (fun x_4 ex_4 => ?_)
    exact W.iret (v := x_4) hx hb hr (fun t ht hW => ⟨x_4, rfl, trivial, ht⟩) (fun q hq => by cases hq) dX2_calmWaysAt_50
  · have kc2 : (2 : Int32).toInt = 2 := by decide
    refine lv_tableIn (tgt := 65) hx hb dX2_calmWaysAt_4 (by decide) (by decide) rfl (by decide) ?_
    refine lv_bipush (v := 6) hx hb dX2_calmWaysAt_65 (by decide) ?_
    refine lv_iload_n hx hb dX2_calmWaysAt_67 rfl (lv_at hl 1 rfl) ?_
    refine lv_iconst (v := 4) hx hb dX2_calmWaysAt_68 (by decide) ?_
    refine lv_idiv hx hb dX2_calmWaysAt_69 (by decide) ?_
    refine lv_topi (fun x_5 ex_5 => ?_)
    refine lv_isub hx hb dX2_calmWaysAt_70 ?_
    refine lv_topi (fun x_6 ex_6 => ?_)
    refine lv_aload_n hx hb dX2_calmWaysAt_71 rfl (lv_at hl 0 rfl) ?_
    refine va_get (D := D) (ci := 2) (v := .int a_) (C := RX2) (T := TX2) (N := 3) hx hb hts hi_X2_calmWaysAt_2 hown hK (zPu_P hZ hu_u0) 0 rfl rfl 1 (by decide) (hts (.fieldLink RX2 15 "TheLiningsInIt$Pull" "a" "I") (List.mem_of_getElem? (i := 2) rfl)) (fun _ h9 => h9) rfl dX2_calmWaysAt_72 ?_
    refine lv_iconst (v := 3) hx hb dX2_calmWaysAt_75 (by decide) ?_
    refine lv_idiv hx hb dX2_calmWaysAt_76 (by decide) ?_
    refine lv_topi (fun x_7 ex_7 => ?_)
    have qx_7 : x_7.toInt = a_.toInt / 3 := by rw [ex_7]; exact zf_div rfl (by decide) (by omega) (by omega)
    refine lv_iadd hx hb dX2_calmWaysAt_77 ?_
    refine lv_topi (fun x_8 ex_8 => ?_)
    exact W.iret (v := x_8) hx hb hr (fun t ht hW => ⟨x_8, rfl, trivial, ht⟩) (fun q hq => by cases hq) dX2_calmWaysAt_78
  · have kc3 : (3 : Int32).toInt = 3 := by decide
    refine lv_tableIn (tgt := 51) hx hb dX2_calmWaysAt_4 (by decide) (by decide) rfl (by decide) ?_
    refine lv_bipush (v := 8) hx hb dX2_calmWaysAt_51 (by decide) ?_
    refine lv_iload_n hx hb dX2_calmWaysAt_53 rfl (lv_at hl 1 rfl) ?_
    refine lv_iconst (v := 4) hx hb dX2_calmWaysAt_54 (by decide) ?_
    refine lv_idiv hx hb dX2_calmWaysAt_55 (by decide) ?_
    refine lv_topi (fun x_9 ex_9 => ?_)
    refine lv_isub hx hb dX2_calmWaysAt_56 ?_
    refine lv_topi (fun x_10 ex_10 => ?_)
    refine lv_aload_n hx hb dX2_calmWaysAt_57 rfl (lv_at hl 0 rfl) ?_
    refine va_get (D := D) (ci := 2) (v := .int a_) (C := RX2) (T := TX2) (N := 3) hx hb hts hi_X2_calmWaysAt_2 hown hK (zPu_P hZ hu_u0) 0 rfl rfl 1 (by decide) (hts (.fieldLink RX2 15 "TheLiningsInIt$Pull" "a" "I") (List.mem_of_getElem? (i := 2) rfl)) (fun _ h9 => h9) rfl dX2_calmWaysAt_58 ?_
    refine lv_iconst (v := 2) hx hb dX2_calmWaysAt_61 (by decide) ?_
    refine lv_idiv hx hb dX2_calmWaysAt_62 (by decide) ?_
    refine lv_topi (fun x_11 ex_11 => ?_)
    have qx_11 : x_11.toInt = a_.toInt / 2 := by rw [ex_11]; exact zf_div rfl (by decide) (by omega) (by omega)
    refine lv_iadd hx hb dX2_calmWaysAt_63 ?_
    refine lv_topi (fun x_12 ex_12 => ?_)
    exact W.iret (v := x_12) hx hb hr (fun t ht hW => ⟨x_12, rfl, trivial, ht⟩) (fun q hq => by cases hq) dX2_calmWaysAt_64
  · have kc4 : (4 : Int32).toInt = 4 := by decide
    refine lv_tableIn (tgt := 79) hx hb dX2_calmWaysAt_4 (by decide) (by decide) rfl (by decide) ?_
    refine lv_bipush (v := 8) hx hb dX2_calmWaysAt_79 (by decide) ?_
    refine lv_iload_n hx hb dX2_calmWaysAt_81 rfl (lv_at hl 1 rfl) ?_
    refine lv_bipush (v := 6) hx hb dX2_calmWaysAt_82 (by decide) ?_
    refine lv_idiv hx hb dX2_calmWaysAt_84 (by decide) ?_
    refine lv_topi (fun x_13 ex_13 => ?_)
    refine lv_isub hx hb dX2_calmWaysAt_85 ?_
    refine lv_topi (fun x_14 ex_14 => ?_)
    exact W.iret (v := x_14) hx hb hr (fun t ht hW => ⟨x_14, rfl, trivial, ht⟩) (fun q hq => by cases hq) dX2_calmWaysAt_86
  · have kc5 : (5 : Int32).toInt = 5 := by decide
    refine lv_tableIn (tgt := 95) hx hb dX2_calmWaysAt_4 (by decide) (by decide) rfl (by decide) ?_
    refine lv_bipush (v := 6) hx hb dX2_calmWaysAt_95 (by decide) ?_
    refine lv_iload_n hx hb dX2_calmWaysAt_97 rfl (lv_at hl 1 rfl) ?_
    refine lv_iconst (v := 4) hx hb dX2_calmWaysAt_98 (by decide) ?_
    refine lv_idiv hx hb dX2_calmWaysAt_99 (by decide) ?_
    refine lv_topi (fun x_15 ex_15 => ?_)
    refine lv_isub hx hb dX2_calmWaysAt_100 ?_
    refine lv_topi (fun x_16 ex_16 => ?_)
    exact W.iret (v := x_16) hx hb hr (fun t ht hW => ⟨x_16, rfl, trivial, ht⟩) (fun q hq => by cases hq) dX2_calmWaysAt_101
  · have kc6 : (6 : Int32).toInt = 6 := by decide
    refine lv_tableIn (tgt := 87) hx hb dX2_calmWaysAt_4 (by decide) (by decide) rfl (by decide) ?_
    refine lv_bipush (v := 10) hx hb dX2_calmWaysAt_87 (by decide) ?_
    refine lv_iload_n hx hb dX2_calmWaysAt_89 rfl (lv_at hl 1 rfl) ?_
    refine lv_bipush (v := 6) hx hb dX2_calmWaysAt_90 (by decide) ?_
    refine lv_idiv hx hb dX2_calmWaysAt_92 (by decide) ?_
    refine lv_topi (fun x_17 ex_17 => ?_)
    refine lv_isub hx hb dX2_calmWaysAt_93 ?_
    refine lv_topi (fun x_18 ex_18 => ?_)
    exact W.iret (v := x_18) hx hb hr (fun t ht hW => ⟨x_18, rfl, trivial, ht⟩) (fun q hq => by cases hq) dX2_calmWaysAt_94
set_option maxHeartbeats 4000000 in
set_option maxRecDepth 100000 in
theorem c_Pull_waysAt_any (l : Launch) (D : va_G) (cI cJ cZ cP cS : ClassId) (po : zPool) (d h : Int32) (u0 : Nat) (ki a_ ta : Int32) (hu_u0 : zPu po u0 ki a_ ta) (hr_u0 : zPr ki a_ ta) (hy2 : 0 ≤ h.toInt) (hy3 : h.toInt ≤ 9) : Met l yX2_waysAt wsX2_waysAt ({ frames := 1, cells := 0, slots := 0, locals := 21 }) (va_Pc [.ref u0, .int d, .int h] (zR D (zKT cI cJ cZ cP cS) po [])) (vp_Si (fun r => 0 ≤ r.toInt ∧ r.toInt ≤ 12)) 0 0 (fun _ => False) := by
  refine Met.ofW (cc := cX2_waysAt) (maxL := 3) (ret := (some .int)) (by decide) rfl ?_
  intro p e s m args below meth c s₁ B hml hv
  obtain ⟨rfl, hP, hK, hN, hZ⟩ := hv
  have hx := B.exec
  have hb := B.bytes
  have hr := B.returns
  have hts := atoms_spec (ws := wsX2_waysAt) B.pre
  have hown : s.vm.findClass RX2 = some m.cls := findClass_of_methodNamed B.named
  have hlocks := B.notSynchronized
  have hl := lv_entry ([.ref u0, .int d, .int h]) (n := 3) (Nat.le_of_ble_eq_true rfl)
  rw [lg_entry_eq]
  generalize (lg_sl ([.ref u0, .int d, .int h]) ++ List.replicate (3 - (lg_sl ([.ref u0, .int d, .int h])).length) Slot.unset).toArray = ls at hl ⊢
  replace hl : lv_has ls 3 [(0, .ref u0), (1, .int d), (2, .int h)] := hl
  obtain ⟨⟨p1_u0, p2_u0⟩, ⟨p3_u0, p4_u0⟩, p5_u0, p6_u0⟩ := id hr_u0
  refine lv_aload_n hx hb dX2_waysAt_0 rfl (lv_at hl 0 rfl) ?_
  refine va_get (D := D) (ci := 2) (v := .int ki) (C := RX2) (T := TX2) (N := 3) hx hb hts hi_X2_waysAt_2 hown hK (zPu_P hZ hu_u0) 0 rfl rfl 0 (by decide) (hts (.fieldLink RX2 9 "TheLiningsInIt$Pull" "kind" "I") (List.mem_of_getElem? (i := 1) rfl)) (fun _ h9 => h9) rfl dX2_waysAt_1 ?_
  refine lv_iconst (v := 5) hx hb dX2_waysAt_4 (by decide) ?_
  refine lv_icmp_ne (tgt := 11) hx hb dX2_waysAt_5 (by decide) (fun c_1 => ?_) (fun c_1 => ?_)
  · have fc_1 : ki.toInt ≠ 5 := zf_ne c_1 rfl (by decide)
    refine lv_iconst (v := 0) hx hb dX2_waysAt_11 (by decide) ?_
    refine lv_bipush (v := 12) hx hb dX2_waysAt_12 (by decide) ?_
    refine lv_aload_n hx hb dX2_waysAt_14 rfl (lv_at hl 0 rfl) ?_
    refine lv_iload_n hx hb dX2_waysAt_15 rfl (lv_at hl 1 rfl) ?_
    refine zc_V (As := [.int d]) (rest := [.int 12, .int 0]) ⟨hx, hb, hml, hown, hts⟩ (c_Pull_calm_any l D cI cJ cZ cP cS po (d) u0 (ki) (a_) (ta) hu_u0 ⟨by omega, by omega, by omega, by omega⟩) (cwV 1 hts gX2_waysAt_X2_calmWaysAt rfl rfl rfl ⟨rfl, dh_X2_calmWaysAt⟩ ⟨Nat.le_of_ble_eq_true rfl, Nat.le_of_ble_eq_true rfl⟩) hK hN hZ hP zP_nil (va_recv (q := (RX2, TX2, 3)) hK (zPu_P hZ hu_u0) (ci := 2) (q0 := 0) rfl rfl) rfl hl.1 rfl (Nat.le_of_ble_eq_true rfl) dX2_waysAt_16 ⟨Nat.le_of_ble_eq_true rfl, Nat.le_of_ble_eq_true rfl⟩ (fun r_2 hr_2 => ?_)
    refine lv_iload_n hx hb dX2_waysAt_19 rfl (lv_at hl 2 rfl) ?_
    refine lv_iconst (v := 3) hx hb dX2_waysAt_20 (by decide) ?_
    refine lv_idiv hx hb dX2_waysAt_21 (by decide) ?_
    refine lv_topi (fun x_3 ex_3 => ?_)
    have qx_3 : x_3.toInt = h.toInt / 3 := by rw [ex_3]; exact zf_div rfl (by decide) (by omega) (by omega)
    refine lv_isub hx hb dX2_waysAt_22 ?_
    refine lv_topi (fun x_4 ex_4 => ?_)
    refine va_mmin hx hb (hml.trans hl.1.symm) hown (hts (.methodLink RX2 33 Lib.Math.min.name) (List.mem_of_getElem? (i := 2) rfl)) (hts _ (List.mem_of_getElem? (i := 3) rfl)) (hts _ (List.mem_of_getElem? (i := 4) rfl)) (hts _ (List.mem_of_getElem? (i := 5) rfl)) (Nat.le_of_ble_eq_true rfl) (Nat.le_of_ble_eq_true rfl) (Nat.le_of_ble_eq_true rfl) (Nat.le_of_ble_eq_true rfl) dX2_waysAt_23 ?_
    refine lv_topi (fun x_5 ex_5 => ?_)
    have qx_5 := zf_min ex_5 (x1 := 12) (y1 := x_4.toInt) (by decide) rfl
    refine va_mmax hx hb (hml.trans hl.1.symm) hown (hts (.methodLink RX2 39 Lib.Math.max.name) (List.mem_of_getElem? (i := 6) rfl)) (hts _ (List.mem_of_getElem? (i := 7) rfl)) (hts _ (List.mem_of_getElem? (i := 4) rfl)) (hts _ (List.mem_of_getElem? (i := 8) rfl)) (Nat.le_of_ble_eq_true rfl) (Nat.le_of_ble_eq_true rfl) (Nat.le_of_ble_eq_true rfl) (Nat.le_of_ble_eq_true rfl) dX2_waysAt_26 ?_
    refine lv_topi (fun x_6 ex_6 => ?_)
    have qx_6 := zf_max ex_6 (x1 := 0) (y1 := x_5.toInt) (by decide) rfl
    exact W.iret (v := x_6) hx hb hr (fun t ht hW => ⟨x_6, rfl, ⟨by omega, by omega⟩, ht⟩) (fun q hq => by cases hq) dX2_waysAt_29
  · have fc_1 : ki.toInt = 5 := zf_eq c_1 rfl (by decide)
    refine lv_bipush (v := 12) hx hb dX2_waysAt_8 (by decide) ?_
    exact W.iret (v := 12) hx hb hr (fun t ht hW => ⟨12, rfl, ⟨by decide, by decide⟩, ht⟩) (fun q hq => by cases hq) dX2_waysAt_10
set_option maxHeartbeats 4000000 in
set_option maxRecDepth 100000 in
theorem c_Pull_shallower_any (l : Launch) (D : va_G) (cI cJ cZ cP cS : ClassId) (po : zPool) (d : Int32) (u0 : Nat) (ki a_ ta : Int32) (hu_u0 : zPu po u0 ki a_ ta) (hr_u0 : zPr ki a_ ta) : Met l yX2_shallower wsX2_shallower ({ frames := 1, cells := 0, slots := 0, locals := 21 }) (va_Pc [.ref u0, .int d] (zR D (zKT cI cJ cZ cP cS) po [])) (vp_Si (fun r => True)) 0 0 (fun _ => False) := by
  refine Met.ofW (cc := cX2_shallower) (maxL := 2) (ret := (some .int)) (by decide) rfl ?_
  intro p e s m args below meth c s₁ B hml hv
  obtain ⟨rfl, hP, hK, hN, hZ⟩ := hv
  have hx := B.exec
  have hb := B.bytes
  have hr := B.returns
  have hts := atoms_spec (ws := wsX2_shallower) B.pre
  have hown : s.vm.findClass RX2 = some m.cls := findClass_of_methodNamed B.named
  have hlocks := B.notSynchronized
  have hl := lv_entry ([.ref u0, .int d]) (n := 2) (Nat.le_of_ble_eq_true rfl)
  rw [lg_entry_eq]
  generalize (lg_sl ([.ref u0, .int d]) ++ List.replicate (2 - (lg_sl ([.ref u0, .int d])).length) Slot.unset).toArray = ls at hl ⊢
  replace hl : lv_has ls 2 [(0, .ref u0), (1, .int d)] := hl
  obtain ⟨⟨p1_u0, p2_u0⟩, ⟨p3_u0, p4_u0⟩, p5_u0, p6_u0⟩ := id hr_u0
  refine lv_iconst (v := 0) hx hb dX2_shallower_0 (by decide) ?_
  refine lv_iload_n hx hb dX2_shallower_1 rfl (lv_at hl 1 rfl) ?_
  refine lv_aload_n hx hb dX2_shallower_2 rfl (lv_at hl 0 rfl) ?_
  refine zc_V (As := []) (rest := [.int d, .int 0]) ⟨hx, hb, hml, hown, hts⟩ (c_Pull_step l D cI cJ cZ cP cS po u0 (ki) (a_) (ta) hu_u0 ⟨by omega, by omega, by omega, by omega⟩) (cwV 0 hts gX2_shallower_X2_step rfl rfl rfl ⟨rfl, dh_X2_step⟩ ⟨Nat.le_of_ble_eq_true rfl, Nat.le_of_ble_eq_true rfl⟩) hK hN hZ hP zP_nil (va_recv (q := (RX2, TX2, 3)) hK (zPu_P hZ hu_u0) (ci := 2) (q0 := 0) rfl rfl) rfl hl.1 rfl (Nat.le_of_ble_eq_true rfl) dX2_shallower_3 ⟨Nat.le_of_ble_eq_true rfl, Nat.le_of_ble_eq_true rfl⟩ (fun r_1 hr_1 => ?_)
  obtain ⟨g_2, g_3⟩ := hr_1
  refine lv_isub hx hb dX2_shallower_6 ?_
  refine lv_topi (fun x_4 ex_4 => ?_)
  refine va_mmax hx hb (hml.trans hl.1.symm) hown (hts (.methodLink RX2 39 Lib.Math.max.name) (List.mem_of_getElem? (i := 1) rfl)) (hts _ (List.mem_of_getElem? (i := 2) rfl)) (hts _ (List.mem_of_getElem? (i := 3) rfl)) (hts _ (List.mem_of_getElem? (i := 4) rfl)) (Nat.le_of_ble_eq_true rfl) (Nat.le_of_ble_eq_true rfl) (Nat.le_of_ble_eq_true rfl) (Nat.le_of_ble_eq_true rfl) dX2_shallower_7 ?_
  refine lv_topi (fun x_5 ex_5 => ?_)
  have qx_5 := zf_max ex_5 (x1 := 0) (y1 := x_4.toInt) (by decide) rfl
  exact W.iret (v := x_5) hx hb hr (fun t ht hW => ⟨x_5, rfl, trivial, ht⟩) (fun q hq => by cases hq) dX2_shallower_10
set_option maxHeartbeats 4000000 in
set_option maxRecDepth 100000 in
theorem c_Pull_deeper_any (l : Launch) (D : va_G) (cI cJ cZ cP cS : ClassId) (po : zPool) (d h : Int32) (u0 : Nat) (ki a_ ta : Int32) (hu_u0 : zPu po u0 ki a_ ta) (hr_u0 : zPr ki a_ ta) (hy2 : 0 ≤ h.toInt) (hy3 : h.toInt ≤ 9) : Met l yX2_deeper wsX2_deeper ({ frames := 1, cells := 0, slots := 0, locals := 21 }) (va_Pc [.ref u0, .int d, .int h] (zR D (zKT cI cJ cZ cP cS) po [])) (vp_Si (fun r => True)) 0 0 (fun _ => False) := by
  refine Met.ofW (cc := cX2_deeper) (maxL := 4) (ret := (some .int)) (by decide) rfl ?_
  intro p e s m args below meth c s₁ B hml hv
  obtain ⟨rfl, hP, hK, hN, hZ⟩ := hv
  have hx := B.exec
  have hb := B.bytes
  have hr := B.returns
  have hts := atoms_spec (ws := wsX2_deeper) B.pre
  have hown : s.vm.findClass RX2 = some m.cls := findClass_of_methodNamed B.named
  have hlocks := B.notSynchronized
  have hl := lv_entry ([.ref u0, .int d, .int h]) (n := 4) (Nat.le_of_ble_eq_true rfl)
  rw [lg_entry_eq]
  generalize (lg_sl ([.ref u0, .int d, .int h]) ++ List.replicate (4 - (lg_sl ([.ref u0, .int d, .int h])).length) Slot.unset).toArray = ls at hl ⊢
  replace hl : lv_has ls 4 [(0, .ref u0), (1, .int d), (2, .int h)] := hl
  obtain ⟨⟨p1_u0, p2_u0⟩, ⟨p3_u0, p4_u0⟩, p5_u0, p6_u0⟩ := id hr_u0
  refine lv_aload_n hx hb dX2_deeper_0 rfl (lv_at hl 0 rfl) ?_
  refine va_get (D := D) (ci := 2) (v := .int ki) (C := RX2) (T := TX2) (N := 3) hx hb hts hi_X2_deeper_2 hown hK (zPu_P hZ hu_u0) 0 rfl rfl 0 (by decide) (hts (.fieldLink RX2 9 "TheLiningsInIt$Pull" "kind" "I") (List.mem_of_getElem? (i := 1) rfl)) (fun _ h9 => h9) rfl dX2_deeper_1 ?_
  refine lv_iconst (v := 5) hx hb dX2_deeper_4 (by decide) ?_
  refine lv_icmp_ne (tgt := 10) hx hb dX2_deeper_5 (by decide) (fun c_1 => ?_) (fun c_1 => ?_)
  · have fc_1 : ki.toInt ≠ 5 := zf_ne c_1 rfl (by decide)
    refine lv_aload_n hx hb dX2_deeper_10 rfl (lv_at hl 0 rfl) ?_
    refine va_get (D := D) (ci := 2) (v := .int ki) (C := RX2) (T := TX2) (N := 3) hx hb hts hi_X2_deeper_2 hown hK (zPu_P hZ hu_u0) 0 rfl rfl 0 (by decide) (hts (.fieldLink RX2 9 "TheLiningsInIt$Pull" "kind" "I") (List.mem_of_getElem? (i := 1) rfl)) (fun _ h9 => h9) rfl dX2_deeper_11 ?_
    refine lv_iconst (v := 2) hx hb dX2_deeper_14 (by decide) ?_
    refine lv_icmp_ne (tgt := 29) hx hb dX2_deeper_15 (by decide) (fun c_2 => ?_) (fun c_2 => ?_)
    · have fc_2 : ki.toInt ≠ 2 := zf_ne c_2 rfl (by decide)
      refine lv_iconst (v := 0) hx hb dX2_deeper_29 (by decide) ?_
      refine lv_istore_n (lv' := [(3, .int 0), (0, .ref u0), (1, .int d), (2, .int h)]) hx hb dX2_deeper_30 rfl hl (by decide) rfl (fun ls hl => ?_)
      refine lv_iload_n hx hb dX2_deeper_31 rfl (lv_at hl 3 rfl) ?_
      refine lv_bipush (v := 6) hx hb dX2_deeper_32 (by decide) ?_
      refine lv_icmp_lt (tgt := 40) hx hb dX2_deeper_34 (by decide) (fun c_3 => ?_) (fun c_3 => ?_)
      · have fc_3 : h.toInt < 6 := zf_lt c_3 rfl (by decide)
        refine lv_bipush (v := 24) hx hb dX2_deeper_40 (by decide) ?_
        refine lv_iload_n hx hb dX2_deeper_42 rfl (lv_at hl 2 rfl) ?_
        refine lv_iload_n hx hb dX2_deeper_43 rfl (lv_at hl 0 rfl) ?_
        refine lv_iadd hx hb dX2_deeper_44 ?_
        refine lv_topi (fun y_4 ey_4 => ?_)
        obtain rfl : d = y_4 := (ey_4.trans (Int32.add_zero d)).symm
        refine va_mmin hx hb (hml.trans hl.1.symm) hown (hts (.methodLink RX2 33 Lib.Math.min.name) (List.mem_of_getElem? (i := 3) rfl)) (hts _ (List.mem_of_getElem? (i := 4) rfl)) (hts _ (List.mem_of_getElem? (i := 5) rfl)) (hts _ (List.mem_of_getElem? (i := 6) rfl)) (Nat.le_of_ble_eq_true rfl) (Nat.le_of_ble_eq_true rfl) (Nat.le_of_ble_eq_true rfl) (Nat.le_of_ble_eq_true rfl) dX2_deeper_45 ?_
        refine lv_topi (fun x_5 ex_5 => ?_)
        have qx_5 := zf_min ex_5 (x1 := 24) (y1 := d.toInt) (by decide) rfl
        exact W.iret (v := x_5) hx hb hr (fun t ht hW => ⟨x_5, rfl, trivial, ht⟩) (fun q hq => by cases hq) dX2_deeper_48
      · have fc_3 : 6 ≤ h.toInt := zf_nlt c_3 rfl (by decide)
        refine lv_iinc (v := 1) (lv' := [(3, .int 1), (0, .ref u0), (1, .int d), (2, .int h)]) hx hb dX2_deeper_37 hl (k := 0) rfl (by decide) (by decide) rfl (fun ls hl => ?_)
        refine lv_bipush (v := 24) hx hb dX2_deeper_40 (by decide) ?_
        refine lv_iload_n hx hb dX2_deeper_42 rfl (lv_at hl 2 rfl) ?_
        refine lv_iload_n hx hb dX2_deeper_43 rfl (lv_at hl 0 rfl) ?_
        refine lv_iadd hx hb dX2_deeper_44 ?_
        refine lv_topi (fun x_6 ex_6 => ?_)
        refine va_mmin hx hb (hml.trans hl.1.symm) hown (hts (.methodLink RX2 33 Lib.Math.min.name) (List.mem_of_getElem? (i := 3) rfl)) (hts _ (List.mem_of_getElem? (i := 4) rfl)) (hts _ (List.mem_of_getElem? (i := 5) rfl)) (hts _ (List.mem_of_getElem? (i := 6) rfl)) (Nat.le_of_ble_eq_true rfl) (Nat.le_of_ble_eq_true rfl) (Nat.le_of_ble_eq_true rfl) (Nat.le_of_ble_eq_true rfl) dX2_deeper_45 ?_
        refine lv_topi (fun x_7 ex_7 => ?_)
        have qx_7 := zf_min ex_7 (x1 := 24) (y1 := x_6.toInt) (by decide) rfl
        exact W.iret (v := x_7) hx hb hr (fun t ht hW => ⟨x_7, rfl, trivial, ht⟩) (fun q hq => by cases hq) dX2_deeper_48
    · have fc_2 : ki.toInt = 2 := zf_eq c_2 rfl (by decide)
      refine lv_iconst (v := 1) hx hb dX2_deeper_18 (by decide) ?_
      refine lv_aload_n hx hb dX2_deeper_19 rfl (lv_at hl 0 rfl) ?_
      refine va_get (D := D) (ci := 2) (v := .int a_) (C := RX2) (T := TX2) (N := 3) hx hb hts hi_X2_deeper_2 hown hK (zPu_P hZ hu_u0) 0 rfl rfl 1 (by decide) (hts (.fieldLink RX2 15 "TheLiningsInIt$Pull" "a" "I") (List.mem_of_getElem? (i := 2) rfl)) (fun _ h9 => h9) rfl dX2_deeper_20 ?_
      refine lv_iconst (v := 3) hx hb dX2_deeper_23 (by decide) ?_
      refine lv_idiv hx hb dX2_deeper_24 (by decide) ?_
      refine lv_topi (fun x_8 ex_8 => ?_)
      have qx_8 : x_8.toInt = a_.toInt / 3 := by rw [ex_8]; exact zf_div rfl (by decide) (by omega) (by omega)
      refine lv_iadd hx hb dX2_deeper_25 ?_
      refine lv_topi (fun x_9 ex_9 => ?_)
      have qx_9 : x_9.toInt = 1 + x_8.toInt := by rw [ex_9]; exact zf_add (by decide) rfl (by omega) (by omega)
      refine lv_goto (tgt := 30) hx hb dX2_deeper_26 (by decide) ?_
      refine lv_istore_n (lv' := [(3, .int x_9), (0, .ref u0), (1, .int d), (2, .int h)]) hx hb dX2_deeper_30 rfl hl (by decide) rfl (fun ls hl => ?_)
      refine lv_iload_n hx hb dX2_deeper_31 rfl (lv_at hl 3 rfl) ?_
      refine lv_bipush (v := 6) hx hb dX2_deeper_32 (by decide) ?_
      refine lv_icmp_lt (tgt := 40) hx hb dX2_deeper_34 (by decide) (fun c_10 => ?_) (fun c_10 => ?_)
      · have fc_10 : h.toInt < 6 := zf_lt c_10 rfl (by decide)
        refine lv_bipush (v := 24) hx hb dX2_deeper_40 (by decide) ?_
        refine lv_iload_n hx hb dX2_deeper_42 rfl (lv_at hl 2 rfl) ?_
        refine lv_iload_n hx hb dX2_deeper_43 rfl (lv_at hl 0 rfl) ?_
        refine lv_iadd hx hb dX2_deeper_44 ?_
        refine lv_topi (fun x_11 ex_11 => ?_)
        refine va_mmin hx hb (hml.trans hl.1.symm) hown (hts (.methodLink RX2 33 Lib.Math.min.name) (List.mem_of_getElem? (i := 3) rfl)) (hts _ (List.mem_of_getElem? (i := 4) rfl)) (hts _ (List.mem_of_getElem? (i := 5) rfl)) (hts _ (List.mem_of_getElem? (i := 6) rfl)) (Nat.le_of_ble_eq_true rfl) (Nat.le_of_ble_eq_true rfl) (Nat.le_of_ble_eq_true rfl) (Nat.le_of_ble_eq_true rfl) dX2_deeper_45 ?_
        refine lv_topi (fun x_12 ex_12 => ?_)
        have qx_12 := zf_min ex_12 (x1 := 24) (y1 := x_11.toInt) (by decide) rfl
        exact W.iret (v := x_12) hx hb hr (fun t ht hW => ⟨x_12, rfl, trivial, ht⟩) (fun q hq => by cases hq) dX2_deeper_48
      · have fc_10 : 6 ≤ h.toInt := zf_nlt c_10 rfl (by decide)
        obtain ⟨x_13, ex_13⟩ : ∃ y : Int32, y = x_9 + 1 := ⟨_, rfl⟩
        have qx_13 : x_13.toInt = x_9.toInt + 1 := by rw [ex_13]; exact zf_add rfl (by decide) (by omega) (by omega)
        refine lv_iinc (v := x_13) (lv' := [(3, .int x_13), (0, .ref u0), (1, .int d), (2, .int h)]) hx hb dX2_deeper_37 hl (k := 0) rfl ex_13.symm (by decide) rfl (fun ls hl => ?_)
        refine lv_bipush (v := 24) hx hb dX2_deeper_40 (by decide) ?_
        refine lv_iload_n hx hb dX2_deeper_42 rfl (lv_at hl 2 rfl) ?_
        refine lv_iload_n hx hb dX2_deeper_43 rfl (lv_at hl 0 rfl) ?_
        refine lv_iadd hx hb dX2_deeper_44 ?_
        refine lv_topi (fun x_14 ex_14 => ?_)
        refine va_mmin hx hb (hml.trans hl.1.symm) hown (hts (.methodLink RX2 33 Lib.Math.min.name) (List.mem_of_getElem? (i := 3) rfl)) (hts _ (List.mem_of_getElem? (i := 4) rfl)) (hts _ (List.mem_of_getElem? (i := 5) rfl)) (hts _ (List.mem_of_getElem? (i := 6) rfl)) (Nat.le_of_ble_eq_true rfl) (Nat.le_of_ble_eq_true rfl) (Nat.le_of_ble_eq_true rfl) (Nat.le_of_ble_eq_true rfl) dX2_deeper_45 ?_
        refine lv_topi (fun x_15 ex_15 => ?_)
        have qx_15 := zf_min ex_15 (x1 := 24) (y1 := x_14.toInt) (by decide) rfl
        exact W.iret (v := x_15) hx hb hr (fun t ht hW => ⟨x_15, rfl, trivial, ht⟩) (fun q hq => by cases hq) dX2_deeper_48
  · have fc_1 : ki.toInt = 5 := zf_eq c_1 rfl (by decide)
    refine lv_iload_n hx hb dX2_deeper_8 rfl (lv_at hl 1 rfl) ?_
    exact W.iret (v := d) hx hb hr (fun t ht hW => ⟨d, rfl, trivial, ht⟩) (fun q hq => by cases hq) dX2_deeper_9
set_option maxHeartbeats 4000000 in
set_option maxRecDepth 100000 in
theorem c_Pull_makes_any (l : Launch) (D : va_G) (cI cJ cZ cP cS : ClassId) (po : zPool) (d to h : Int32) (u0 : Nat) (ki a_ ta : Int32) (hu_u0 : zPu po u0 ki a_ ta) (hr_u0 : zPr ki a_ ta) (hy2 : 0 ≤ h.toInt) (hy3 : h.toInt ≤ 9) : Met l yX2_makes wsX2_makes ({ frames := 2, cells := 0, slots := 0, locals := 44 }) (va_Pc [.ref u0, .int d, .int to, .int h] (zR D (zKT cI cJ cZ cP cS) po [])) (vp_Si (fun r => 0 ≤ r.toInt ∧ r.toInt ≤ 1)) 0 0 (fun _ => False) := by
  refine Met.ofW (cc := cX2_makes) (maxL := 5) (ret := (some .boolean)) (by decide) rfl ?_
  intro p e s m args below meth c s₁ B hml hv
  obtain ⟨rfl, hP, hK, hN, hZ⟩ := hv
  have hx := B.exec
  have hb := B.bytes
  have hr := B.returns
  have hts := atoms_spec (ws := wsX2_makes) B.pre
  have hown : s.vm.findClass RX2 = some m.cls := findClass_of_methodNamed B.named
  have hlocks := B.notSynchronized
  have hl := lv_entry ([.ref u0, .int d, .int to, .int h]) (n := 5) (Nat.le_of_ble_eq_true rfl)
  rw [lg_entry_eq]
  generalize (lg_sl ([.ref u0, .int d, .int to, .int h]) ++ List.replicate (5 - (lg_sl ([.ref u0, .int d, .int to, .int h])).length) Slot.unset).toArray = ls at hl ⊢
  replace hl : lv_has ls 5 [(0, .ref u0), (1, .int d), (2, .int to), (3, .int h)] := hl
  obtain ⟨⟨p1_u0, p2_u0⟩, ⟨p3_u0, p4_u0⟩, p5_u0, p6_u0⟩ := id hr_u0
  refine lv_iload_n hx hb dX2_makes_0 rfl (lv_at hl 1 rfl) ?_
  refine lv_iconst (v := 1) hx hb dX2_makes_1 (by decide) ?_
  refine lv_icmp_ge (tgt := 7) hx hb dX2_makes_2 (by decide) (fun c_1 => ?_) (fun c_1 => ?_)
  · have fc_1 : 1 ≤ d.toInt := zf_le c_1 (by decide) rfl
    refine lv_aload_n hx hb dX2_makes_7 rfl (lv_at hl 0 rfl) ?_
    refine lv_iload_n hx hb dX2_makes_8 rfl (lv_at hl 1 rfl) ?_
    refine lv_iload_n hx hb dX2_makes_9 rfl (lv_at hl 3 rfl) ?_
    refine zc_V (As := [.int d, .int h]) (rest := []) ⟨hx, hb, hml, hown, hts⟩ (c_Pull_waysAt_any l D cI cJ cZ cP cS po (d) (h) u0 (ki) (a_) (ta) hu_u0 ⟨by omega, by omega, by omega, by omega⟩ hy2 hy3) (cwV 2 hts gX2_makes_X2_waysAt rfl rfl rfl ⟨rfl, dh_X2_waysAt⟩ ⟨Nat.le_of_ble_eq_true rfl, Nat.le_of_ble_eq_true rfl⟩) hK hN hZ hP zP_nil (va_recv (q := (RX2, TX2, 3)) hK (zPu_P hZ hu_u0) (ci := 2) (q0 := 0) rfl rfl) rfl hl.1 rfl (Nat.le_of_ble_eq_true rfl) dX2_makes_10 ⟨Nat.le_of_ble_eq_true rfl, Nat.le_of_ble_eq_true rfl⟩ (fun r_2 hr_2 => ?_)
    obtain ⟨g_3, g_4⟩ := hr_2
    refine lv_istore (lv' := [(4, .int r_2), (0, .ref u0), (1, .int d), (2, .int to), (3, .int h)]) hx hb dX2_makes_13 hl (by decide) rfl (fun ls hl => ?_)
    refine lv_iload hx hb dX2_makes_15 (lv_at hl 0 rfl) ?_
    refine lv_if_le (tgt := 29) hx hb dX2_makes_17 (by decide) (fun c_5 => ?_) (fun c_5 => ?_)
    · have fc_5 : r_2.toInt ≤ 0 := zf_le c_5 rfl (by decide)
      refine lv_iload hx hb dX2_makes_29 (lv_at hl 0 rfl) ?_
      refine lv_bipush (v := 12) hx hb dX2_makes_31 (by decide) ?_
      refine lv_icmp_ge (tgt := 50) hx hb dX2_makes_33 (by decide) (fun c_6 => ?_) (fun c_6 => ?_)
      · exfalso; have fc_6 : 12 ≤ r_2.toInt := zf_le c_6 (by decide) rfl; omega
      · have fc_6 : r_2.toInt < 12 := zf_nle c_6 (by decide) rfl
        refine lv_aload_n hx hb dX2_makes_36 rfl (lv_at hl 1 rfl) ?_
        refine lv_iload_n hx hb dX2_makes_37 rfl (lv_at hl 2 rfl) ?_
        refine lv_iload_n hx hb dX2_makes_38 rfl (lv_at hl 4 rfl) ?_
        refine zc_V (As := [.int d, .int h]) (rest := []) ⟨hx, hb, hml, hown, hts⟩ (c_Pull_deeper_any l D cI cJ cZ cP cS po (d) (h) u0 (ki) (a_) (ta) hu_u0 ⟨by omega, by omega, by omega, by omega⟩ hy2 hy3) (cwV 2 hts gX2_makes_X2_deeper rfl rfl rfl ⟨rfl, dh_X2_deeper⟩ ⟨Nat.le_of_ble_eq_true rfl, Nat.le_of_ble_eq_true rfl⟩) hK hN hZ hP zP_nil (va_recv (q := (RX2, TX2, 3)) hK (zPu_P hZ hu_u0) (ci := 2) (q0 := 0) rfl rfl) rfl hl.1 rfl (Nat.le_of_ble_eq_true rfl) dX2_makes_39 ⟨Nat.le_of_ble_eq_true rfl, Nat.le_of_ble_eq_true rfl⟩ (fun r_7 hr_7 => ?_)
        refine lv_iload_n hx hb dX2_makes_42 rfl (lv_at hl 3 rfl) ?_
        refine lv_icmp_ne (tgt := 50) hx hb dX2_makes_43 (by decide) (fun c_8 => ?_) (fun c_8 => ?_)
        · have fc_8 : r_7.toInt ≠ to.toInt := zf_ne c_8 rfl rfl
          refine lv_iconst (v := 0) hx hb dX2_makes_50 (by decide) ?_
          exact W.zret (v := 0) hx hb hr (by decide) (fun t ht hW => ⟨0, rfl, ⟨by decide, by decide⟩, ht⟩) (fun q hq => by cases hq) dX2_makes_51
        · have fc_8 : r_7.toInt = to.toInt := zf_eq c_8 rfl rfl
          refine lv_iconst (v := 1) hx hb dX2_makes_46 (by decide) ?_
          refine lv_goto (tgt := 51) hx hb dX2_makes_47 (by decide) ?_
          exact W.zret (v := 1) hx hb hr (by decide) (fun t ht hW => ⟨1, rfl, ⟨by decide, by decide⟩, ht⟩) (fun q hq => by cases hq) dX2_makes_51
    · have fc_5 : 0 < r_2.toInt := zf_nle c_5 rfl (by decide)
      refine lv_aload_n hx hb dX2_makes_20 rfl (lv_at hl 1 rfl) ?_
      refine lv_iload_n hx hb dX2_makes_21 rfl (lv_at hl 2 rfl) ?_
      refine zc_V (As := [.int d]) (rest := []) ⟨hx, hb, hml, hown, hts⟩ (c_Pull_shallower_any l D cI cJ cZ cP cS po (d) u0 (ki) (a_) (ta) hu_u0 ⟨by omega, by omega, by omega, by omega⟩) (cwV 1 hts gX2_makes_X2_shallower rfl rfl rfl ⟨rfl, dh_X2_shallower⟩ ⟨Nat.le_of_ble_eq_true rfl, Nat.le_of_ble_eq_true rfl⟩) hK hN hZ hP zP_nil (va_recv (q := (RX2, TX2, 3)) hK (zPu_P hZ hu_u0) (ci := 2) (q0 := 0) rfl rfl) rfl hl.1 rfl (Nat.le_of_ble_eq_true rfl) dX2_makes_22 ⟨Nat.le_of_ble_eq_true rfl, Nat.le_of_ble_eq_true rfl⟩ (fun r_9 hr_9 => ?_)
      refine lv_iload_n hx hb dX2_makes_25 rfl (lv_at hl 3 rfl) ?_
      refine lv_icmp_eq (tgt := 46) hx hb dX2_makes_26 (by decide) (fun c_10 => ?_) (fun c_10 => ?_)
      · have fc_10 : r_9.toInt = to.toInt := zf_eq c_10 rfl rfl
        refine lv_iconst (v := 1) hx hb dX2_makes_46 (by decide) ?_
        refine lv_goto (tgt := 51) hx hb dX2_makes_47 (by decide) ?_
        exact W.zret (v := 1) hx hb hr (by decide) (fun t ht hW => ⟨1, rfl, ⟨by decide, by decide⟩, ht⟩) (fun q hq => by cases hq) dX2_makes_51
      · have fc_10 : r_9.toInt ≠ to.toInt := zf_ne c_10 rfl rfl
        refine lv_iload hx hb dX2_makes_29 (lv_at hl 0 rfl) ?_
        refine lv_bipush (v := 12) hx hb dX2_makes_31 (by decide) ?_
        refine lv_icmp_ge (tgt := 50) hx hb dX2_makes_33 (by decide) (fun c_11 => ?_) (fun c_11 => ?_)
        · have fc_11 : 12 ≤ r_2.toInt := zf_le c_11 (by decide) rfl
          refine lv_iconst (v := 0) hx hb dX2_makes_50 (by decide) ?_
          exact W.zret (v := 0) hx hb hr (by decide) (fun t ht hW => ⟨0, rfl, ⟨by decide, by decide⟩, ht⟩) (fun q hq => by cases hq) dX2_makes_51
        · have fc_11 : r_2.toInt < 12 := zf_nle c_11 (by decide) rfl
          refine lv_aload_n hx hb dX2_makes_36 rfl (lv_at hl 1 rfl) ?_
          refine lv_iload_n hx hb dX2_makes_37 rfl (lv_at hl 2 rfl) ?_
          refine lv_iload_n hx hb dX2_makes_38 rfl (lv_at hl 4 rfl) ?_
          refine zc_V (As := [.int d, .int h]) (rest := []) ⟨hx, hb, hml, hown, hts⟩ (c_Pull_deeper_any l D cI cJ cZ cP cS po (d) (h) u0 (ki) (a_) (ta) hu_u0 ⟨by omega, by omega, by omega, by omega⟩ hy2 hy3) (cwV 2 hts gX2_makes_X2_deeper rfl rfl rfl ⟨rfl, dh_X2_deeper⟩ ⟨Nat.le_of_ble_eq_true rfl, Nat.le_of_ble_eq_true rfl⟩) hK hN hZ hP zP_nil (va_recv (q := (RX2, TX2, 3)) hK (zPu_P hZ hu_u0) (ci := 2) (q0 := 0) rfl rfl) rfl hl.1 rfl (Nat.le_of_ble_eq_true rfl) dX2_makes_39 ⟨Nat.le_of_ble_eq_true rfl, Nat.le_of_ble_eq_true rfl⟩ (fun r_12 hr_12 => ?_)
          refine lv_iload_n hx hb dX2_makes_42 rfl (lv_at hl 3 rfl) ?_
          refine lv_icmp_ne (tgt := 50) hx hb dX2_makes_43 (by decide) (fun c_13 => ?_) (fun c_13 => ?_)
          · have fc_13 : r_12.toInt ≠ to.toInt := zf_ne c_13 rfl rfl
            refine lv_iconst (v := 0) hx hb dX2_makes_50 (by decide) ?_
            exact W.zret (v := 0) hx hb hr (by decide) (fun t ht hW => ⟨0, rfl, ⟨by decide, by decide⟩, ht⟩) (fun q hq => by cases hq) dX2_makes_51
          · have fc_13 : r_12.toInt = to.toInt := zf_eq c_13 rfl rfl
            refine lv_iconst (v := 1) hx hb dX2_makes_46 (by decide) ?_
            refine lv_goto (tgt := 51) hx hb dX2_makes_47 (by decide) ?_
            exact W.zret (v := 1) hx hb hr (by decide) (fun t ht hW => ⟨1, rfl, ⟨by decide, by decide⟩, ht⟩) (fun q hq => by cases hq) dX2_makes_51
  · have fc_1 : d.toInt < 1 := zf_nle c_1 (by decide) rfl
    refine lv_iconst (v := 0) hx hb dX2_makes_5 (by decide) ?_
    exact W.zret (v := 0) hx hb hr (by decide) (fun t ht hW => ⟨0, rfl, ⟨by decide, by decide⟩, ht⟩) (fun q hq => by cases hq) dX2_makes_6
set_option maxHeartbeats 4000000 in
set_option maxRecDepth 100000 in
theorem c_J_pullsMaking_any (l : Launch) (D : va_G) (cI cJ cZ cP cS : ClassId) (po : zPool) (j0 jp jc z0 zl zs : Nat) (cn de tr se hu sd : Int32) (fp : Nat → Option Nat) (kf af tf : Nat → Int32) (d to : Int32) (hy0 : 0 ≤ cn.toInt) (hy1 : cn.toInt ≤ 8) (hy2 : 0 ≤ de.toInt) (hy3 : de.toInt ≤ 24) (hy4 : 0 ≤ hu.toInt) (hy5 : hu.toInt ≤ 9) (hjp : zJP po fp cn kf af tf) : Met l yX0_pullsMaking wsX0_pullsMaking ({ frames := 3, cells := 0, slots := 0, locals := 68 }) (va_Pc [.ref j0, .int d, .int to] (zR D (zKT cI cJ cZ cP cS) po [(j0, .inr (0, [.ref z0, .ref jp, .ref jc, .int cn, .int de, .int tr, .int se, .int hu, .int sd])), (jp, .inl (cP, 8, .inr (.inr (.inr (.inr fp)))))])) (vp_Si (fun r => True)) 0 0 (fun _ => False) := by
  refine Met.ofW (cc := cX0_pullsMaking) (maxL := 6) (ret := (some .int)) (by decide) rfl ?_
  intro p e s m args below meth c s₁ B hml hv
  obtain ⟨rfl, hP, hK, hN, hZ⟩ := hv
  have hx := B.exec
  have hb := B.bytes
  have hr := B.returns
  have hts := atoms_spec (ws := wsX0_pullsMaking) B.pre
  have hown : s.vm.findClass RX0 = some m.cls := findClass_of_methodNamed B.named
  have hlocks := B.notSynchronized
  have hl := lv_entry ([.ref j0, .int d, .int to]) (n := 6) (Nat.le_of_ble_eq_true rfl)
  rw [lg_entry_eq]
  generalize (lg_sl ([.ref j0, .int d, .int to]) ++ List.replicate (6 - (lg_sl ([.ref j0, .int d, .int to])).length) Slot.unset).toArray = ls at hl ⊢
  replace hl : lv_has ls 6 [(0, .ref j0), (1, .int d), (2, .int to)] := hl
  refine lv_iconst (v := 0) hx hb dX0_pullsMaking_0 (by decide) ?_
  refine lv_istore_n (lv' := [(3, .int 0), (0, .ref j0), (1, .int d), (2, .int to)]) hx hb dX0_pullsMaking_1 rfl hl (by decide) rfl (fun ls hl => ?_)
  refine lv_iconst (v := 0) hx hb dX0_pullsMaking_2 (by decide) ?_
  refine lv_istore (lv' := [(4, .int 0), (3, .int 0), (0, .ref j0), (1, .int d), (2, .int to)]) hx hb dX0_pullsMaking_3 hl (by decide) rfl (fun ls hl => ?_)
  obtain ⟨i_5, hi_5⟩ : ∃ i : Int32, i = 0 := ⟨_, rfl⟩
  replace hl : lv_has ls 6 [(4, .int i_5), (3, .int 0), (0, .ref j0), (1, .int d), (2, .int to)] := by rw [hi_5]; exact lv_sub hl [0, 1, 2, 3, 4] rfl
  have h1i_5 : i_5.toInt = 0 := by rw [hi_5]; decide
  obtain ⟨nfu, hni_5⟩ : ∃ nq9 : Nat, cn.toInt ≤ i_5.toInt + (nq9 : Int) := ⟨((cn.toInt : Int) - 0).toNat, by omega⟩
  have hloi_5 : 0 ≤ i_5.toInt := by omega
  obtain ⟨v_1, hv_1⟩ : ∃ g : Int32, g = 0 := ⟨_, rfl⟩
  replace hl : lv_has ls 6 [(4, .int i_5), (3, .int v_1), (0, .ref j0), (1, .int d), (2, .int to)] := by rw [hv_1]; exact hl
  clear h1i_5 hi_5 hv_1
  revert hni_5
  revert hloi_5
  revert hl
  revert ls
  revert v_1
  revert i_5
  induction nfu with
  | zero =>
    intro i_5 v_1 ls hl hloi_5 hni_5
    have hzi_5 : cn.toInt ≤ i_5.toInt := by omega
    refine lv_iload hx hb dX0_pullsMaking_5 (lv_at hl 0 rfl) ?_
    refine lv_aload_n hx hb dX0_pullsMaking_7 rfl (lv_at hl 2 rfl) ?_
    refine va_get (D := D) (ci := 0) (v := .int cn) (C := RX0) (T := TX0) (N := 9) hx hb hts hi_X0_pullsMaking_0 hown hK hP 0 rfl rfl 3 (by decide) (hts (.fieldLink RX0 28 "TheLiningsInIt$Jacket" "pullCount" "I") (List.mem_of_getElem? (i := 1) rfl)) (fun _ h9 => h9) rfl dX0_pullsMaking_8 ?_
    refine lv_icmp_ge (tgt := 50) hx hb dX0_pullsMaking_11 (by decide) (fun c_2 => ?_) (fun c_2 => ?_)
    · have fc_2 : cn.toInt ≤ i_5.toInt := zf_le c_2 rfl rfl
      refine lv_iload_n hx hb dX0_pullsMaking_50 rfl (lv_at hl 1 rfl) ?_
      exact W.iret (v := v_1) hx hb hr (fun t ht hW => ⟨v_1, rfl, trivial, ht⟩) (fun q hq => by cases hq) dX0_pullsMaking_51
    · exfalso; have fc_2 : i_5.toInt < cn.toInt := zf_nle c_2 rfl rfl; omega
  | succ nfu ih =>
    intro i_5 v_1 ls hl hloi_5 hni_5
    refine lv_iload hx hb dX0_pullsMaking_5 (lv_at hl 0 rfl) ?_
    refine lv_aload_n hx hb dX0_pullsMaking_7 rfl (lv_at hl 2 rfl) ?_
    refine va_get (D := D) (ci := 0) (v := .int cn) (C := RX0) (T := TX0) (N := 9) hx hb hts hi_X0_pullsMaking_0 hown hK hP 0 rfl rfl 3 (by decide) (hts (.fieldLink RX0 28 "TheLiningsInIt$Jacket" "pullCount" "I") (List.mem_of_getElem? (i := 1) rfl)) (fun _ h9 => h9) rfl dX0_pullsMaking_8 ?_
    refine lv_icmp_ge (tgt := 50) hx hb dX0_pullsMaking_11 (by decide) (fun c_3 => ?_) (fun c_3 => ?_)
    · have fc_3 : cn.toInt ≤ i_5.toInt := zf_le c_3 rfl rfl
      refine lv_iload_n hx hb dX0_pullsMaking_50 rfl (lv_at hl 1 rfl) ?_
      exact W.iret (v := v_1) hx hb hr (fun t ht hW => ⟨v_1, rfl, trivial, ht⟩) (fun q hq => by cases hq) dX0_pullsMaking_51
    · have fc_3 : i_5.toInt < cn.toInt := zf_nle c_3 rfl rfl
      refine lv_aload_n hx hb dX0_pullsMaking_14 rfl (lv_at hl 2 rfl) ?_
      refine lv_iload hx hb dX0_pullsMaking_15 (lv_at hl 0 rfl) ?_
      refine zc_Vq (As := [.int i_5]) (rest := []) ⟨hx, hb, hml, hown, hts⟩ (c_J_pullAt l D cI cJ cZ cP cS po j0 jp jc z0 0 0 (cn) (de) (tr) (se) (hu) (sd) fp kf af tf (i_5) hy0 hy1 hy2 hy3 hy4 hy5 hjp) (cwV 1 hts gX0_pullsMaking_X0_pullAt rfl rfl rfl ⟨rfl, dh_X0_pullAt⟩ ⟨Nat.le_of_ble_eq_true rfl, Nat.le_of_ble_eq_true rfl⟩) hK hN hZ hP (hP.sub [0, 1] rfl) (va_recv (q := (RX0, TX0, 9)) hK hP (ci := 0) (q0 := 0) rfl rfl) rfl hl.1 rfl (Nat.le_of_ble_eq_true rfl) dX0_pullsMaking_17 ⟨Nat.le_of_ble_eq_true rfl, Nat.le_of_ble_eq_true rfl⟩ (fun r_4 hr_4 => ?_)
      rcases hr_4 with ⟨rfl, g_5⟩ | ⟨rfl, g_6⟩ | ⟨⟨u_8, kiu_8, au_8, tu_8, rfl, huu_8, hkku_8⟩, g_7⟩
      · exfalso; omega
      · refine lv_astoreN (lv' := [(5, .null), (4, .int i_5), (3, .int v_1), (0, .ref j0), (1, .int d), (2, .int to)]) hx hb dX0_pullsMaking_20 hl (by decide) rfl (fun ls hl => ?_)
        refine lv_aloadN hx hb dX0_pullsMaking_22 (lv_at hl 0 rfl) ?_
        refine lv_ifnullN (tgt := 44) hx hb dX0_pullsMaking_24 (by decide) ?_
        obtain ⟨x_9, ex_9⟩ : ∃ y : Int32, y = i_5 + 1 := ⟨_, rfl⟩
        have qx_9 : x_9.toInt = i_5.toInt + 1 := dw_inc ex_9 fc_3
        refine lv_iinc (v := x_9) (lv' := [(4, .int x_9), (5, .null), (3, .int v_1), (0, .ref j0), (1, .int d), (2, .int to)]) hx hb dX0_pullsMaking_44 hl (k := 1) rfl ex_9.symm (by decide) rfl (fun ls hl => ?_)
        refine lv_goto (tgt := 5) hx hb dX0_pullsMaking_47 (by decide) ?_
        exact ih x_9 v_1 _ (lv_sub hl [0, 2, 3, 4, 5] rfl) (dw_lo hloi_5 qx_9) (dw_hn hni_5 qx_9)
      · refine W.eq (g2 := F0 m 20 ls (.ref u_8 :: [])) rfl ?_
        obtain ⟨hku_8, hau_8, htu_8⟩ := zPu_pr hZ huu_8
        refine lv_astore (lv' := [(5, .ref u_8), (4, .int i_5), (3, .int v_1), (0, .ref j0), (1, .int d), (2, .int to)]) hx hb dX0_pullsMaking_20 hl (by decide) rfl (fun ls hl => ?_)
        refine lv_aload hx hb dX0_pullsMaking_22 (lv_at hl 0 rfl) ?_
        refine lv_ifnull hx hb dX0_pullsMaking_24 ?_
        refine lv_aload hx hb dX0_pullsMaking_27 (lv_at hl 0 rfl) ?_
        refine lv_iload_n hx hb dX0_pullsMaking_29 rfl (lv_at hl 4 rfl) ?_
        refine lv_iload_n hx hb dX0_pullsMaking_30 rfl (lv_at hl 5 rfl) ?_
        refine lv_aload_n hx hb dX0_pullsMaking_31 rfl (lv_at hl 3 rfl) ?_
        refine va_get (D := D) (ci := 0) (v := .int hu) (C := RX0) (T := TX0) (N := 9) hx hb hts hi_X0_pullsMaking_0 hown hK hP 0 rfl rfl 7 (by decide) (hts (.fieldLink RX0 41 "TheLiningsInIt$Jacket" "hurry" "I") (List.mem_of_getElem? (i := 2) rfl)) (fun _ h9 => h9) rfl dX0_pullsMaking_32 ?_
        refine zc_V (As := [.int d, .int to, .int hu]) (rest := []) ⟨hx, hb, hml, hown, hts⟩ (c_Pull_makes_any l D cI cJ cZ cP cS po (d) (to) (hu) u_8 (kiu_8) (au_8) (tu_8) huu_8 ⟨by omega, by omega, by omega, by omega⟩ hy4 hy5) (cwV 3 hts gX0_pullsMaking_X2_makes rfl rfl rfl ⟨rfl, dh_X2_makes⟩ ⟨Nat.le_of_ble_eq_true rfl, Nat.le_of_ble_eq_true rfl⟩) hK hN hZ hP zP_nil (va_recv (q := (RX2, TX2, 3)) hK (zPu_P hZ huu_8) (ci := 2) (q0 := 0) rfl rfl) rfl hl.1 rfl (Nat.le_of_ble_eq_true rfl) dX0_pullsMaking_35 ⟨Nat.le_of_ble_eq_true rfl, Nat.le_of_ble_eq_true rfl⟩ (fun r_10 hr_10 => ?_)
        obtain ⟨g_11, g_12⟩ := hr_10
        refine lv_if_eq (tgt := 44) hx hb dX0_pullsMaking_38 (by decide) (fun c_13 => ?_) (fun c_13 => ?_)
        · have fc_13 : r_10.toInt = 0 := zf_eq c_13 rfl (by decide)
          obtain ⟨x_14, ex_14⟩ : ∃ y : Int32, y = i_5 + 1 := ⟨_, rfl⟩
          have qx_14 : x_14.toInt = i_5.toInt + 1 := dw_inc ex_14 fc_3
          refine lv_iinc (v := x_14) (lv' := [(4, .int x_14), (5, .ref u_8), (3, .int v_1), (0, .ref j0), (1, .int d), (2, .int to)]) hx hb dX0_pullsMaking_44 hl (k := 1) rfl ex_14.symm (by decide) rfl (fun ls hl => ?_)
          refine lv_goto (tgt := 5) hx hb dX0_pullsMaking_47 (by decide) ?_
          exact ih x_14 v_1 _ (lv_sub hl [0, 2, 3, 4, 5] rfl) (dw_lo hloi_5 qx_14) (dw_hn hni_5 qx_14)
        · have fc_13 : r_10.toInt ≠ 0 := zf_ne c_13 rfl (by decide)
          obtain ⟨x_15, ex_15⟩ : ∃ y : Int32, y = v_1 + 1 := ⟨_, rfl⟩
          refine lv_iinc (v := x_15) (lv' := [(3, .int x_15), (5, .ref u_8), (4, .int i_5), (0, .ref j0), (1, .int d), (2, .int to)]) hx hb dX0_pullsMaking_41 hl (k := 2) rfl ex_15.symm (by decide) rfl (fun ls hl => ?_)
          obtain ⟨x_16, ex_16⟩ : ∃ y : Int32, y = i_5 + 1 := ⟨_, rfl⟩
          have qx_16 : x_16.toInt = i_5.toInt + 1 := dw_inc ex_16 fc_3
          refine lv_iinc (v := x_16) (lv' := [(4, .int x_16), (3, .int x_15), (5, .ref u_8), (0, .ref j0), (1, .int d), (2, .int to)]) hx hb dX0_pullsMaking_44 hl (k := 2) rfl ex_16.symm (by decide) rfl (fun ls hl => ?_)
          refine lv_goto (tgt := 5) hx hb dX0_pullsMaking_47 (by decide) ?_
          exact ih x_16 x_15 _ (lv_sub hl [0, 1, 3, 4, 5] rfl) (dw_lo hloi_5 qx_16) (dw_hn hni_5 qx_16)
set_option maxHeartbeats 4000000 in
set_option maxRecDepth 100000 in
theorem c_J_firstMaking_any (l : Launch) (D : va_G) (cI cJ cZ cP cS : ClassId) (po : zPool) (j0 jp jc z0 zl zs : Nat) (cn de tr se hu sd : Int32) (fp : Nat → Option Nat) (kf af tf : Nat → Int32) (d to : Int32) (hy0 : 0 ≤ cn.toInt) (hy1 : cn.toInt ≤ 8) (hy2 : 0 ≤ de.toInt) (hy3 : de.toInt ≤ 24) (hy4 : 0 ≤ hu.toInt) (hy5 : hu.toInt ≤ 9) (hjp : zJP po fp cn kf af tf) : Met l yX0_firstMaking wsX0_firstMaking ({ frames := 3, cells := 0, slots := 0, locals := 68 }) (va_Pc [.ref j0, .int d, .int to] (zR D (zKT cI cJ cZ cP cS) po [(j0, .inr (0, [.ref z0, .ref jp, .ref jc, .int cn, .int de, .int tr, .int se, .int hu, .int sd])), (jp, .inl (cP, 8, .inr (.inr (.inr (.inr fp)))))])) (vp_Si (fun r => True)) 0 0 (fun _ => False) := by
  refine Met.ofW (cc := cX0_firstMaking) (maxL := 5) (ret := (some .int)) (by decide) rfl ?_
  intro p e s m args below meth c s₁ B hml hv
  obtain ⟨rfl, hP, hK, hN, hZ⟩ := hv
  have hx := B.exec
  have hb := B.bytes
  have hr := B.returns
  have hts := atoms_spec (ws := wsX0_firstMaking) B.pre
  have hown : s.vm.findClass RX0 = some m.cls := findClass_of_methodNamed B.named
  have hlocks := B.notSynchronized
  have hl := lv_entry ([.ref j0, .int d, .int to]) (n := 5) (Nat.le_of_ble_eq_true rfl)
  rw [lg_entry_eq]
  generalize (lg_sl ([.ref j0, .int d, .int to]) ++ List.replicate (5 - (lg_sl ([.ref j0, .int d, .int to])).length) Slot.unset).toArray = ls at hl ⊢
  replace hl : lv_has ls 5 [(0, .ref j0), (1, .int d), (2, .int to)] := hl
  refine lv_iconst (v := 0) hx hb dX0_firstMaking_0 (by decide) ?_
  refine lv_istore_n (lv' := [(3, .int 0), (0, .ref j0), (1, .int d), (2, .int to)]) hx hb dX0_firstMaking_1 rfl hl (by decide) rfl (fun ls hl => ?_)
  obtain ⟨i_2, hi_2⟩ : ∃ i : Int32, i = 0 := ⟨_, rfl⟩
  replace hl : lv_has ls 5 [(3, .int i_2), (0, .ref j0), (1, .int d), (2, .int to)] := by rw [hi_2]; exact lv_sub hl [0, 1, 2, 3] rfl
  have h1i_2 : i_2.toInt = 0 := by rw [hi_2]; decide
  obtain ⟨nfu, hni_2⟩ : ∃ nq9 : Nat, cn.toInt ≤ i_2.toInt + (nq9 : Int) := ⟨((cn.toInt : Int) - 0).toNat, by omega⟩
  have hloi_2 : 0 ≤ i_2.toInt := by omega
  clear h1i_2 hi_2
  revert hni_2
  revert hloi_2
  revert hl
  revert ls
  revert i_2
  induction nfu with
  | zero =>
    intro i_2 ls hl hloi_2 hni_2
    have hzi_2 : cn.toInt ≤ i_2.toInt := by omega
    refine lv_iload_n hx hb dX0_firstMaking_2 rfl (lv_at hl 0 rfl) ?_
    refine lv_aload_n hx hb dX0_firstMaking_3 rfl (lv_at hl 1 rfl) ?_
    refine va_get (D := D) (ci := 0) (v := .int cn) (C := RX0) (T := TX0) (N := 9) hx hb hts hi_X0_firstMaking_0 hown hK hP 0 rfl rfl 3 (by decide) (hts (.fieldLink RX0 28 "TheLiningsInIt$Jacket" "pullCount" "I") (List.mem_of_getElem? (i := 1) rfl)) (fun _ h9 => h9) rfl dX0_firstMaking_4 ?_
    refine lv_icmp_ge (tgt := 44) hx hb dX0_firstMaking_7 (by decide) (fun c_1 => ?_) (fun c_1 => ?_)
    · have fc_1 : cn.toInt ≤ i_2.toInt := zf_le c_1 rfl rfl
      refine lv_iconst (v := (-1)) hx hb dX0_firstMaking_44 (by decide) ?_
      exact W.iret (v := (-1)) hx hb hr (fun t ht hW => ⟨(-1), rfl, trivial, ht⟩) (fun q hq => by cases hq) dX0_firstMaking_45
    · exfalso; have fc_1 : i_2.toInt < cn.toInt := zf_nle c_1 rfl rfl; omega
  | succ nfu ih =>
    intro i_2 ls hl hloi_2 hni_2
    refine lv_iload_n hx hb dX0_firstMaking_2 rfl (lv_at hl 0 rfl) ?_
    refine lv_aload_n hx hb dX0_firstMaking_3 rfl (lv_at hl 1 rfl) ?_
    refine va_get (D := D) (ci := 0) (v := .int cn) (C := RX0) (T := TX0) (N := 9) hx hb hts hi_X0_firstMaking_0 hown hK hP 0 rfl rfl 3 (by decide) (hts (.fieldLink RX0 28 "TheLiningsInIt$Jacket" "pullCount" "I") (List.mem_of_getElem? (i := 1) rfl)) (fun _ h9 => h9) rfl dX0_firstMaking_4 ?_
    refine lv_icmp_ge (tgt := 44) hx hb dX0_firstMaking_7 (by decide) (fun c_2 => ?_) (fun c_2 => ?_)
    · have fc_2 : cn.toInt ≤ i_2.toInt := zf_le c_2 rfl rfl
      refine lv_iconst (v := (-1)) hx hb dX0_firstMaking_44 (by decide) ?_
      exact W.iret (v := (-1)) hx hb hr (fun t ht hW => ⟨(-1), rfl, trivial, ht⟩) (fun q hq => by cases hq) dX0_firstMaking_45
    · have fc_2 : i_2.toInt < cn.toInt := zf_nle c_2 rfl rfl
      refine lv_aload_n hx hb dX0_firstMaking_10 rfl (lv_at hl 1 rfl) ?_
      refine lv_iload_n hx hb dX0_firstMaking_11 rfl (lv_at hl 0 rfl) ?_
      refine zc_Vq (As := [.int i_2]) (rest := []) ⟨hx, hb, hml, hown, hts⟩ (c_J_pullAt l D cI cJ cZ cP cS po j0 jp jc z0 0 0 (cn) (de) (tr) (se) (hu) (sd) fp kf af tf (i_2) hy0 hy1 hy2 hy3 hy4 hy5 hjp) (cwV 1 hts gX0_firstMaking_X0_pullAt rfl rfl rfl ⟨rfl, dh_X0_pullAt⟩ ⟨Nat.le_of_ble_eq_true rfl, Nat.le_of_ble_eq_true rfl⟩) hK hN hZ hP (hP.sub [0, 1] rfl) (va_recv (q := (RX0, TX0, 9)) hK hP (ci := 0) (q0 := 0) rfl rfl) rfl hl.1 rfl (Nat.le_of_ble_eq_true rfl) dX0_firstMaking_12 ⟨Nat.le_of_ble_eq_true rfl, Nat.le_of_ble_eq_true rfl⟩ (fun r_3 hr_3 => ?_)
      rcases hr_3 with ⟨rfl, g_4⟩ | ⟨rfl, g_5⟩ | ⟨⟨u_7, kiu_7, au_7, tu_7, rfl, huu_7, hkku_7⟩, g_6⟩
      · exfalso; omega
      · refine lv_astoreN (lv' := [(4, .null), (3, .int i_2), (0, .ref j0), (1, .int d), (2, .int to)]) hx hb dX0_firstMaking_15 hl (by decide) rfl (fun ls hl => ?_)
        refine lv_aloadN hx hb dX0_firstMaking_17 (lv_at hl 0 rfl) ?_
        refine lv_ifnullN (tgt := 38) hx hb dX0_firstMaking_19 (by decide) ?_
        obtain ⟨x_8, ex_8⟩ : ∃ y : Int32, y = i_2 + 1 := ⟨_, rfl⟩
        have qx_8 : x_8.toInt = i_2.toInt + 1 := dw_inc ex_8 fc_2
        refine lv_iinc (v := x_8) (lv' := [(3, .int x_8), (4, .null), (0, .ref j0), (1, .int d), (2, .int to)]) hx hb dX0_firstMaking_38 hl (k := 1) rfl ex_8.symm (by decide) rfl (fun ls hl => ?_)
        refine lv_goto (tgt := 2) hx hb dX0_firstMaking_41 (by decide) ?_
        exact ih x_8 _ (lv_sub hl [0, 2, 3, 4] rfl) (dw_lo hloi_2 qx_8) (dw_hn hni_2 qx_8)
      · refine W.eq (g2 := F0 m 15 ls (.ref u_7 :: [])) rfl ?_
        obtain ⟨hku_7, hau_7, htu_7⟩ := zPu_pr hZ huu_7
        refine lv_astore (lv' := [(4, .ref u_7), (3, .int i_2), (0, .ref j0), (1, .int d), (2, .int to)]) hx hb dX0_firstMaking_15 hl (by decide) rfl (fun ls hl => ?_)
        refine lv_aload hx hb dX0_firstMaking_17 (lv_at hl 0 rfl) ?_
        refine lv_ifnull hx hb dX0_firstMaking_19 ?_
        refine lv_aload hx hb dX0_firstMaking_22 (lv_at hl 0 rfl) ?_
        refine lv_iload_n hx hb dX0_firstMaking_24 rfl (lv_at hl 3 rfl) ?_
        refine lv_iload_n hx hb dX0_firstMaking_25 rfl (lv_at hl 4 rfl) ?_
        refine lv_aload_n hx hb dX0_firstMaking_26 rfl (lv_at hl 2 rfl) ?_
        refine va_get (D := D) (ci := 0) (v := .int hu) (C := RX0) (T := TX0) (N := 9) hx hb hts hi_X0_firstMaking_0 hown hK hP 0 rfl rfl 7 (by decide) (hts (.fieldLink RX0 41 "TheLiningsInIt$Jacket" "hurry" "I") (List.mem_of_getElem? (i := 2) rfl)) (fun _ h9 => h9) rfl dX0_firstMaking_27 ?_
        refine zc_V (As := [.int d, .int to, .int hu]) (rest := []) ⟨hx, hb, hml, hown, hts⟩ (c_Pull_makes_any l D cI cJ cZ cP cS po (d) (to) (hu) u_7 (kiu_7) (au_7) (tu_7) huu_7 ⟨by omega, by omega, by omega, by omega⟩ hy4 hy5) (cwV 3 hts gX0_firstMaking_X2_makes rfl rfl rfl ⟨rfl, dh_X2_makes⟩ ⟨Nat.le_of_ble_eq_true rfl, Nat.le_of_ble_eq_true rfl⟩) hK hN hZ hP zP_nil (va_recv (q := (RX2, TX2, 3)) hK (zPu_P hZ huu_7) (ci := 2) (q0 := 0) rfl rfl) rfl hl.1 rfl (Nat.le_of_ble_eq_true rfl) dX0_firstMaking_30 ⟨Nat.le_of_ble_eq_true rfl, Nat.le_of_ble_eq_true rfl⟩ (fun r_9 hr_9 => ?_)
        obtain ⟨g_10, g_11⟩ := hr_9
        refine lv_if_eq (tgt := 38) hx hb dX0_firstMaking_33 (by decide) (fun c_12 => ?_) (fun c_12 => ?_)
        · have fc_12 : r_9.toInt = 0 := zf_eq c_12 rfl (by decide)
          obtain ⟨x_13, ex_13⟩ : ∃ y : Int32, y = i_2 + 1 := ⟨_, rfl⟩
          have qx_13 : x_13.toInt = i_2.toInt + 1 := dw_inc ex_13 fc_2
          refine lv_iinc (v := x_13) (lv' := [(3, .int x_13), (4, .ref u_7), (0, .ref j0), (1, .int d), (2, .int to)]) hx hb dX0_firstMaking_38 hl (k := 1) rfl ex_13.symm (by decide) rfl (fun ls hl => ?_)
          refine lv_goto (tgt := 2) hx hb dX0_firstMaking_41 (by decide) ?_
          exact ih x_13 _ (lv_sub hl [0, 2, 3, 4] rfl) (dw_lo hloi_2 qx_13) (dw_hn hni_2 qx_13)
        · have fc_12 : r_9.toInt ≠ 0 := zf_ne c_12 rfl (by decide)
          refine lv_iload_n hx hb dX0_firstMaking_36 rfl (lv_at hl 1 rfl) ?_
          exact W.iret (v := i_2) hx hb hr (fun t ht hW => ⟨i_2, rfl, trivial, ht⟩) (fun q hq => by cases hq) dX0_firstMaking_37
end
section
theorem gl_X7_refuse_X70 : GoodIn wsX7_refuse wsX70 := (dg_t (dg_t (dg_t (dg_t (dg_t (dg_t gw_wsX70))))))
theorem hi_X7_refuse_7 : ∀ w ∈ u_ws RX7 TX7 9, w ∈ wsX7_refuse := fun w h => (gl_X7_refuse_X70 w h).1
set_option maxHeartbeats 4000000 in
set_option maxRecDepth 100000 in
theorem c_X_refuse_1 (l : Launch) (D : va_G) (cI cJ cZ cP cS : ClassId) (po : zPool) (x0 xs j0 k0 w0 rd mv xr : Nat) (im lf : Int32) (fr : Nat → Int32) (hy0 : 0 ≤ im.toInt) (hy1 : im.toInt ≤ 1) (hy2 : (-1) ≤ lf.toInt) (hy3 : lf.toInt ≤ 160) (hpz : Nat) : Met l yX7_refuse wsX7_refuse ({ frames := 1, cells := 0, slots := 0, locals := 22 }) (va_Pc [.ref x0, .int 1] (zW D (zKT cI cJ cZ cP cS) po [(x0, .inr (7, [.ref xs, .ref j0, .ref k0, .ref w0, .ref rd, .ref mv, .ref xr, .int im, .int lf])), (xr, .inl (cI, 8, .inl fr))] hpz)) (va_Qi (fun (r : Int32) (fr2 : (Nat → Int32)) => r = (-1)) (zB D [(x0, .inr (7, [.ref xs, .ref j0, .ref k0, .ref w0, .ref rd, .ref mv, .ref xr, .int im, .int lf])), (xr, .inl (cI, 8, .inl fr))] hpz (fun (fr2 : Nat → Int32) => [(x0, .inr (7, [.ref xs, .ref j0, .ref k0, .ref w0, .ref rd, .ref mv, .ref xr, .int im, .int lf])), (xr, .inl (cI, 8, .inl fr2))])) (va_A [(x0, .inr (7, [.ref xs, .ref j0, .ref k0, .ref w0, .ref rd, .ref mv, .ref xr, .int im, .int lf])), (xr, .inl (cI, 8, .inl fr))] hpz)) 0 0 (va_A [(x0, .inr (7, [.ref xs, .ref j0, .ref k0, .ref w0, .ref rd, .ref mv, .ref xr, .int im, .int lf])), (xr, .inl (cI, 8, .inl fr))] hpz) := by
  refine Met.ofW (cc := cX7_refuse) (maxL := 2) (ret := (some .int)) (by decide) rfl ?_
  intro p e s m args below meth c s₁ B hml hv
  obtain ⟨rfl, hsz, hP, hK, hD0, hN, hZ⟩ := hv
  have hx := B.exec
  have hb := B.bytes
  have hr := B.returns
  have hts := atoms_spec (ws := wsX7_refuse) B.pre
  have hown : s.vm.findClass RX7 = some m.cls := findClass_of_methodNamed B.named
  have hlocks := B.notSynchronized
  subst hsz
  have hD := hD0.self (sz := s.heap.size)
  have hA := zA_of hD
  have hl := lv_entry ([.ref x0, .int 1]) (n := 2) (Nat.le_of_ble_eq_true rfl)
  rw [lg_entry_eq]
  generalize (lg_sl ([.ref x0, .int 1]) ++ List.replicate (2 - (lg_sl ([.ref x0, .int 1])).length) Slot.unset).toArray = ls at hl ⊢
  replace hl : lv_has ls 2 [(0, .ref x0), (1, .int 1)] := hl
  refine zw_begin hP hD (fun H locs hP1 hS => ?_)
  clear hP
  have hP := hP1
  clear hP1
  refine lv_iload_n hx hb dX7_refuse_0 rfl (lv_at hl 1 rfl) ?_
  refine lv_iconst (v := 1) hx hb dX7_refuse_1 (by decide) ?_
  refine lv_bipush (v := 7) hx hb dX7_refuse_2 (by decide) ?_
  have kc1 : (1 : Int32).toInt = 1 := by decide
  have kc7 : (7 : Int32).toInt = 7 := by decide
  refine zc_S (As := [.int 1, .int 1, .int 7]) (rest := []) ⟨hx, hb, hml, hown, hts⟩ (c_within l D cI cJ cZ cP cS po (1) (1) (7) ) (va_cwS 3 hts gX7_refuse_X7_within rfl rfl rfl dh_X7_within ⟨Nat.le_of_ble_eq_true rfl, Nat.le_of_ble_eq_true rfl⟩) hK hN (hZ.kept hS) rfl hl.1 rfl (Nat.le_of_ble_eq_true rfl) dX7_refuse_4 ⟨Nat.le_of_ble_eq_true rfl, Nat.le_of_ble_eq_true rfl⟩ (fun r_1 hr_1 => ?_)
  rcases hr_1 with ⟨rfl, g_2⟩ | ⟨rfl, g_3, g_4⟩ | ⟨rfl, g_5, g_6⟩
  · exfalso; omega
  · exfalso; omega
  · refine lv_if_eq (tgt := 20) hx hb dX7_refuse_7 (by decide) (fun c_7 => ?_) (fun c_7 => ?_)
    · exact absurd c_7 (by decide)
    · refine lv_aload_n hx hb dX7_refuse_10 rfl (lv_at hl 0 rfl) ?_
      refine va_get (D := D) (ci := 7) (v := .ref xr) (C := RX7) (T := TX7) (N := 9) hx hb hts hi_X7_refuse_7 hown hK hP 0 rfl rfl 6 (by decide) (hts (.fieldLink RX7 46 "TheLiningsInIt" "refusals" "[I") (List.mem_of_getElem? (i := 1) rfl)) (fun _ h9 => h9) rfl dX7_refuse_11 ?_
      refine lv_iload_n hx hb dX7_refuse_14 rfl (lv_at hl 1 rfl) ?_
      refine lv_dup2_11 hx hb dX7_refuse_15 rfl rfl ?_
      refine va_iald hx hb hK hP 1 0 rfl rfl (zf_in (by decide) (by decide)) dX7_refuse_16 ?_
      refine lv_topi (fun x_8 ex_8 => ?_)
      refine lv_iconst (v := 1) hx hb dX7_refuse_17 (by decide) ?_
      refine lv_iadd hx hb dX7_refuse_18 ?_
      refine lv_topi (fun x_9 ex_9 => ?_)
      refine va_iast hx hb hK hP hD hS 1 0 rfl rfl (zf_in (by decide) (by decide)) dX7_refuse_19 (fun H locs hP hD hS => ?_)
      obtain ⟨g_10, hg_10⟩ : ∃ g : Nat → Int32, g = upd fr (1 : Int32).toNatClampNeg x_9 := ⟨_, rfl⟩
      rw [← hg_10] at hP hD
      clear hg_10
      have h9R := zRe (ws' := [(x0, .inr (7, [.ref xs, .ref j0, .ref k0, .ref w0, .ref rd, .ref mv, .ref xr, .int im, .int lf])), (xr, .inl (cI, 8, .inl g_10))]) hP hD rfl
      clear hP hD
      obtain ⟨hP, hD⟩ := h9R
      refine lv_iload_n hx hb dX7_refuse_20 rfl (lv_at hl 1 rfl) ?_
      refine lv_ineg hx hb dX7_refuse_21 ?_
      refine lv_topi (fun y_11 ey_11 => ?_)
      obtain rfl : y_11 = (-1) := ey_11.trans (by decide)
      exact W.iret (v := (-1)) hx hb hr (fun t ht hW => ⟨⟨(-1), g_10, rfl, rfl, zRet ht hP hD [0, 1] (by decide) rfl⟩, hS.F ht⟩) hS.2.2 dX7_refuse_22
set_option maxHeartbeats 4000000 in
set_option maxRecDepth 100000 in
theorem c_X_refuse_2 (l : Launch) (D : va_G) (cI cJ cZ cP cS : ClassId) (po : zPool) (x0 xs j0 k0 w0 rd mv xr : Nat) (im lf : Int32) (fr : Nat → Int32) (hy0 : 0 ≤ im.toInt) (hy1 : im.toInt ≤ 1) (hy2 : (-1) ≤ lf.toInt) (hy3 : lf.toInt ≤ 160) (hpz : Nat) : Met l yX7_refuse wsX7_refuse ({ frames := 1, cells := 0, slots := 0, locals := 22 }) (va_Pc [.ref x0, .int 2] (zW D (zKT cI cJ cZ cP cS) po [(x0, .inr (7, [.ref xs, .ref j0, .ref k0, .ref w0, .ref rd, .ref mv, .ref xr, .int im, .int lf])), (xr, .inl (cI, 8, .inl fr))] hpz)) (va_Qi (fun (r : Int32) (fr2 : (Nat → Int32)) => r = (-2)) (zB D [(x0, .inr (7, [.ref xs, .ref j0, .ref k0, .ref w0, .ref rd, .ref mv, .ref xr, .int im, .int lf])), (xr, .inl (cI, 8, .inl fr))] hpz (fun (fr2 : Nat → Int32) => [(x0, .inr (7, [.ref xs, .ref j0, .ref k0, .ref w0, .ref rd, .ref mv, .ref xr, .int im, .int lf])), (xr, .inl (cI, 8, .inl fr2))])) (va_A [(x0, .inr (7, [.ref xs, .ref j0, .ref k0, .ref w0, .ref rd, .ref mv, .ref xr, .int im, .int lf])), (xr, .inl (cI, 8, .inl fr))] hpz)) 0 0 (va_A [(x0, .inr (7, [.ref xs, .ref j0, .ref k0, .ref w0, .ref rd, .ref mv, .ref xr, .int im, .int lf])), (xr, .inl (cI, 8, .inl fr))] hpz) := by
  refine Met.ofW (cc := cX7_refuse) (maxL := 2) (ret := (some .int)) (by decide) rfl ?_
  intro p e s m args below meth c s₁ B hml hv
  obtain ⟨rfl, hsz, hP, hK, hD0, hN, hZ⟩ := hv
  have hx := B.exec
  have hb := B.bytes
  have hr := B.returns
  have hts := atoms_spec (ws := wsX7_refuse) B.pre
  have hown : s.vm.findClass RX7 = some m.cls := findClass_of_methodNamed B.named
  have hlocks := B.notSynchronized
  subst hsz
  have hD := hD0.self (sz := s.heap.size)
  have hA := zA_of hD
  have hl := lv_entry ([.ref x0, .int 2]) (n := 2) (Nat.le_of_ble_eq_true rfl)
  rw [lg_entry_eq]
  generalize (lg_sl ([.ref x0, .int 2]) ++ List.replicate (2 - (lg_sl ([.ref x0, .int 2])).length) Slot.unset).toArray = ls at hl ⊢
  replace hl : lv_has ls 2 [(0, .ref x0), (1, .int 2)] := hl
  refine zw_begin hP hD (fun H locs hP1 hS => ?_)
  clear hP
  have hP := hP1
  clear hP1
  refine lv_iload_n hx hb dX7_refuse_0 rfl (lv_at hl 1 rfl) ?_
  refine lv_iconst (v := 1) hx hb dX7_refuse_1 (by decide) ?_
  refine lv_bipush (v := 7) hx hb dX7_refuse_2 (by decide) ?_
  have kc2 : (2 : Int32).toInt = 2 := by decide
  have kc1 : (1 : Int32).toInt = 1 := by decide
  have kc7 : (7 : Int32).toInt = 7 := by decide
  refine zc_S (As := [.int 2, .int 1, .int 7]) (rest := []) ⟨hx, hb, hml, hown, hts⟩ (c_within l D cI cJ cZ cP cS po (2) (1) (7) ) (va_cwS 3 hts gX7_refuse_X7_within rfl rfl rfl dh_X7_within ⟨Nat.le_of_ble_eq_true rfl, Nat.le_of_ble_eq_true rfl⟩) hK hN (hZ.kept hS) rfl hl.1 rfl (Nat.le_of_ble_eq_true rfl) dX7_refuse_4 ⟨Nat.le_of_ble_eq_true rfl, Nat.le_of_ble_eq_true rfl⟩ (fun r_1 hr_1 => ?_)
  rcases hr_1 with ⟨rfl, g_2⟩ | ⟨rfl, g_3, g_4⟩ | ⟨rfl, g_5, g_6⟩
  · exfalso; omega
  · exfalso; omega
  · refine lv_if_eq (tgt := 20) hx hb dX7_refuse_7 (by decide) (fun c_7 => ?_) (fun c_7 => ?_)
    · exact absurd c_7 (by decide)
    · refine lv_aload_n hx hb dX7_refuse_10 rfl (lv_at hl 0 rfl) ?_
      refine va_get (D := D) (ci := 7) (v := .ref xr) (C := RX7) (T := TX7) (N := 9) hx hb hts hi_X7_refuse_7 hown hK hP 0 rfl rfl 6 (by decide) (hts (.fieldLink RX7 46 "TheLiningsInIt" "refusals" "[I") (List.mem_of_getElem? (i := 1) rfl)) (fun _ h9 => h9) rfl dX7_refuse_11 ?_
      refine lv_iload_n hx hb dX7_refuse_14 rfl (lv_at hl 1 rfl) ?_
      refine lv_dup2_11 hx hb dX7_refuse_15 rfl rfl ?_
      refine va_iald hx hb hK hP 1 0 rfl rfl (zf_in (by decide) (by decide)) dX7_refuse_16 ?_
      refine lv_topi (fun x_8 ex_8 => ?_)
      refine lv_iconst (v := 1) hx hb dX7_refuse_17 (by decide) ?_
      refine lv_iadd hx hb dX7_refuse_18 ?_
      refine lv_topi (fun x_9 ex_9 => ?_)
      refine va_iast hx hb hK hP hD hS 1 0 rfl rfl (zf_in (by decide) (by decide)) dX7_refuse_19 (fun H locs hP hD hS => ?_)
      obtain ⟨g_10, hg_10⟩ : ∃ g : Nat → Int32, g = upd fr (2 : Int32).toNatClampNeg x_9 := ⟨_, rfl⟩
      rw [← hg_10] at hP hD
      clear hg_10
      have h9R := zRe (ws' := [(x0, .inr (7, [.ref xs, .ref j0, .ref k0, .ref w0, .ref rd, .ref mv, .ref xr, .int im, .int lf])), (xr, .inl (cI, 8, .inl g_10))]) hP hD rfl
      clear hP hD
      obtain ⟨hP, hD⟩ := h9R
      refine lv_iload_n hx hb dX7_refuse_20 rfl (lv_at hl 1 rfl) ?_
      refine lv_ineg hx hb dX7_refuse_21 ?_
      refine lv_topi (fun y_11 ey_11 => ?_)
      obtain rfl : y_11 = (-2) := ey_11.trans (by decide)
      exact W.iret (v := (-2)) hx hb hr (fun t ht hW => ⟨⟨(-2), g_10, rfl, rfl, zRet ht hP hD [0, 1] (by decide) rfl⟩, hS.F ht⟩) hS.2.2 dX7_refuse_22
set_option maxHeartbeats 4000000 in
set_option maxRecDepth 100000 in
theorem c_X_refuse_3 (l : Launch) (D : va_G) (cI cJ cZ cP cS : ClassId) (po : zPool) (x0 xs j0 k0 w0 rd mv xr : Nat) (im lf : Int32) (fr : Nat → Int32) (hy0 : 0 ≤ im.toInt) (hy1 : im.toInt ≤ 1) (hy2 : (-1) ≤ lf.toInt) (hy3 : lf.toInt ≤ 160) (hpz : Nat) : Met l yX7_refuse wsX7_refuse ({ frames := 1, cells := 0, slots := 0, locals := 22 }) (va_Pc [.ref x0, .int 3] (zW D (zKT cI cJ cZ cP cS) po [(x0, .inr (7, [.ref xs, .ref j0, .ref k0, .ref w0, .ref rd, .ref mv, .ref xr, .int im, .int lf])), (xr, .inl (cI, 8, .inl fr))] hpz)) (va_Qi (fun (r : Int32) (fr2 : (Nat → Int32)) => r = (-3)) (zB D [(x0, .inr (7, [.ref xs, .ref j0, .ref k0, .ref w0, .ref rd, .ref mv, .ref xr, .int im, .int lf])), (xr, .inl (cI, 8, .inl fr))] hpz (fun (fr2 : Nat → Int32) => [(x0, .inr (7, [.ref xs, .ref j0, .ref k0, .ref w0, .ref rd, .ref mv, .ref xr, .int im, .int lf])), (xr, .inl (cI, 8, .inl fr2))])) (va_A [(x0, .inr (7, [.ref xs, .ref j0, .ref k0, .ref w0, .ref rd, .ref mv, .ref xr, .int im, .int lf])), (xr, .inl (cI, 8, .inl fr))] hpz)) 0 0 (va_A [(x0, .inr (7, [.ref xs, .ref j0, .ref k0, .ref w0, .ref rd, .ref mv, .ref xr, .int im, .int lf])), (xr, .inl (cI, 8, .inl fr))] hpz) := by
  refine Met.ofW (cc := cX7_refuse) (maxL := 2) (ret := (some .int)) (by decide) rfl ?_
  intro p e s m args below meth c s₁ B hml hv
  obtain ⟨rfl, hsz, hP, hK, hD0, hN, hZ⟩ := hv
  have hx := B.exec
  have hb := B.bytes
  have hr := B.returns
  have hts := atoms_spec (ws := wsX7_refuse) B.pre
  have hown : s.vm.findClass RX7 = some m.cls := findClass_of_methodNamed B.named
  have hlocks := B.notSynchronized
  subst hsz
  have hD := hD0.self (sz := s.heap.size)
  have hA := zA_of hD
  have hl := lv_entry ([.ref x0, .int 3]) (n := 2) (Nat.le_of_ble_eq_true rfl)
  rw [lg_entry_eq]
  generalize (lg_sl ([.ref x0, .int 3]) ++ List.replicate (2 - (lg_sl ([.ref x0, .int 3])).length) Slot.unset).toArray = ls at hl ⊢
  replace hl : lv_has ls 2 [(0, .ref x0), (1, .int 3)] := hl
  refine zw_begin hP hD (fun H locs hP1 hS => ?_)
  clear hP
  have hP := hP1
  clear hP1
  refine lv_iload_n hx hb dX7_refuse_0 rfl (lv_at hl 1 rfl) ?_
  refine lv_iconst (v := 1) hx hb dX7_refuse_1 (by decide) ?_
  refine lv_bipush (v := 7) hx hb dX7_refuse_2 (by decide) ?_
  have kc3 : (3 : Int32).toInt = 3 := by decide
  have kc1 : (1 : Int32).toInt = 1 := by decide
  have kc7 : (7 : Int32).toInt = 7 := by decide
  refine zc_S (As := [.int 3, .int 1, .int 7]) (rest := []) ⟨hx, hb, hml, hown, hts⟩ (c_within l D cI cJ cZ cP cS po (3) (1) (7) ) (va_cwS 3 hts gX7_refuse_X7_within rfl rfl rfl dh_X7_within ⟨Nat.le_of_ble_eq_true rfl, Nat.le_of_ble_eq_true rfl⟩) hK hN (hZ.kept hS) rfl hl.1 rfl (Nat.le_of_ble_eq_true rfl) dX7_refuse_4 ⟨Nat.le_of_ble_eq_true rfl, Nat.le_of_ble_eq_true rfl⟩ (fun r_1 hr_1 => ?_)
  rcases hr_1 with ⟨rfl, g_2⟩ | ⟨rfl, g_3, g_4⟩ | ⟨rfl, g_5, g_6⟩
  · exfalso; omega
  · exfalso; omega
  · refine lv_if_eq (tgt := 20) hx hb dX7_refuse_7 (by decide) (fun c_7 => ?_) (fun c_7 => ?_)
    · exact absurd c_7 (by decide)
    · refine lv_aload_n hx hb dX7_refuse_10 rfl (lv_at hl 0 rfl) ?_
      refine va_get (D := D) (ci := 7) (v := .ref xr) (C := RX7) (T := TX7) (N := 9) hx hb hts hi_X7_refuse_7 hown hK hP 0 rfl rfl 6 (by decide) (hts (.fieldLink RX7 46 "TheLiningsInIt" "refusals" "[I") (List.mem_of_getElem? (i := 1) rfl)) (fun _ h9 => h9) rfl dX7_refuse_11 ?_
      refine lv_iload_n hx hb dX7_refuse_14 rfl (lv_at hl 1 rfl) ?_
      refine lv_dup2_11 hx hb dX7_refuse_15 rfl rfl ?_
      refine va_iald hx hb hK hP 1 0 rfl rfl (zf_in (by decide) (by decide)) dX7_refuse_16 ?_
      refine lv_topi (fun x_8 ex_8 => ?_)
      refine lv_iconst (v := 1) hx hb dX7_refuse_17 (by decide) ?_
      refine lv_iadd hx hb dX7_refuse_18 ?_
      refine lv_topi (fun x_9 ex_9 => ?_)
      refine va_iast hx hb hK hP hD hS 1 0 rfl rfl (zf_in (by decide) (by decide)) dX7_refuse_19 (fun H locs hP hD hS => ?_)
      obtain ⟨g_10, hg_10⟩ : ∃ g : Nat → Int32, g = upd fr (3 : Int32).toNatClampNeg x_9 := ⟨_, rfl⟩
      rw [← hg_10] at hP hD
      clear hg_10
      have h9R := zRe (ws' := [(x0, .inr (7, [.ref xs, .ref j0, .ref k0, .ref w0, .ref rd, .ref mv, .ref xr, .int im, .int lf])), (xr, .inl (cI, 8, .inl g_10))]) hP hD rfl
      clear hP hD
      obtain ⟨hP, hD⟩ := h9R
      refine lv_iload_n hx hb dX7_refuse_20 rfl (lv_at hl 1 rfl) ?_
      refine lv_ineg hx hb dX7_refuse_21 ?_
      refine lv_topi (fun y_11 ey_11 => ?_)
      obtain rfl : y_11 = (-3) := ey_11.trans (by decide)
      exact W.iret (v := (-3)) hx hb hr (fun t ht hW => ⟨⟨(-3), g_10, rfl, rfl, zRet ht hP hD [0, 1] (by decide) rfl⟩, hS.F ht⟩) hS.2.2 dX7_refuse_22
set_option maxHeartbeats 4000000 in
set_option maxRecDepth 100000 in
theorem c_X_refuse_4 (l : Launch) (D : va_G) (cI cJ cZ cP cS : ClassId) (po : zPool) (x0 xs j0 k0 w0 rd mv xr : Nat) (im lf : Int32) (fr : Nat → Int32) (hy0 : 0 ≤ im.toInt) (hy1 : im.toInt ≤ 1) (hy2 : (-1) ≤ lf.toInt) (hy3 : lf.toInt ≤ 160) (hpz : Nat) : Met l yX7_refuse wsX7_refuse ({ frames := 1, cells := 0, slots := 0, locals := 22 }) (va_Pc [.ref x0, .int 4] (zW D (zKT cI cJ cZ cP cS) po [(x0, .inr (7, [.ref xs, .ref j0, .ref k0, .ref w0, .ref rd, .ref mv, .ref xr, .int im, .int lf])), (xr, .inl (cI, 8, .inl fr))] hpz)) (va_Qi (fun (r : Int32) (fr2 : (Nat → Int32)) => r = (-4)) (zB D [(x0, .inr (7, [.ref xs, .ref j0, .ref k0, .ref w0, .ref rd, .ref mv, .ref xr, .int im, .int lf])), (xr, .inl (cI, 8, .inl fr))] hpz (fun (fr2 : Nat → Int32) => [(x0, .inr (7, [.ref xs, .ref j0, .ref k0, .ref w0, .ref rd, .ref mv, .ref xr, .int im, .int lf])), (xr, .inl (cI, 8, .inl fr2))])) (va_A [(x0, .inr (7, [.ref xs, .ref j0, .ref k0, .ref w0, .ref rd, .ref mv, .ref xr, .int im, .int lf])), (xr, .inl (cI, 8, .inl fr))] hpz)) 0 0 (va_A [(x0, .inr (7, [.ref xs, .ref j0, .ref k0, .ref w0, .ref rd, .ref mv, .ref xr, .int im, .int lf])), (xr, .inl (cI, 8, .inl fr))] hpz) := by
  refine Met.ofW (cc := cX7_refuse) (maxL := 2) (ret := (some .int)) (by decide) rfl ?_
  intro p e s m args below meth c s₁ B hml hv
  obtain ⟨rfl, hsz, hP, hK, hD0, hN, hZ⟩ := hv
  have hx := B.exec
  have hb := B.bytes
  have hr := B.returns
  have hts := atoms_spec (ws := wsX7_refuse) B.pre
  have hown : s.vm.findClass RX7 = some m.cls := findClass_of_methodNamed B.named
  have hlocks := B.notSynchronized
  subst hsz
  have hD := hD0.self (sz := s.heap.size)
  have hA := zA_of hD
  have hl := lv_entry ([.ref x0, .int 4]) (n := 2) (Nat.le_of_ble_eq_true rfl)
  rw [lg_entry_eq]
  generalize (lg_sl ([.ref x0, .int 4]) ++ List.replicate (2 - (lg_sl ([.ref x0, .int 4])).length) Slot.unset).toArray = ls at hl ⊢
  replace hl : lv_has ls 2 [(0, .ref x0), (1, .int 4)] := hl
  refine zw_begin hP hD (fun H locs hP1 hS => ?_)
  clear hP
  have hP := hP1
  clear hP1
  refine lv_iload_n hx hb dX7_refuse_0 rfl (lv_at hl 1 rfl) ?_
  refine lv_iconst (v := 1) hx hb dX7_refuse_1 (by decide) ?_
  refine lv_bipush (v := 7) hx hb dX7_refuse_2 (by decide) ?_
  have kc4 : (4 : Int32).toInt = 4 := by decide
  have kc1 : (1 : Int32).toInt = 1 := by decide
  have kc7 : (7 : Int32).toInt = 7 := by decide
  refine zc_S (As := [.int 4, .int 1, .int 7]) (rest := []) ⟨hx, hb, hml, hown, hts⟩ (c_within l D cI cJ cZ cP cS po (4) (1) (7) ) (va_cwS 3 hts gX7_refuse_X7_within rfl rfl rfl dh_X7_within ⟨Nat.le_of_ble_eq_true rfl, Nat.le_of_ble_eq_true rfl⟩) hK hN (hZ.kept hS) rfl hl.1 rfl (Nat.le_of_ble_eq_true rfl) dX7_refuse_4 ⟨Nat.le_of_ble_eq_true rfl, Nat.le_of_ble_eq_true rfl⟩ (fun r_1 hr_1 => ?_)
  rcases hr_1 with ⟨rfl, g_2⟩ | ⟨rfl, g_3, g_4⟩ | ⟨rfl, g_5, g_6⟩
  · exfalso; omega
  · exfalso; omega
  · refine lv_if_eq (tgt := 20) hx hb dX7_refuse_7 (by decide) (fun c_7 => ?_) (fun c_7 => ?_)
    · exact absurd c_7 (by decide)
    · refine lv_aload_n hx hb dX7_refuse_10 rfl (lv_at hl 0 rfl) ?_
      refine va_get (D := D) (ci := 7) (v := .ref xr) (C := RX7) (T := TX7) (N := 9) hx hb hts hi_X7_refuse_7 hown hK hP 0 rfl rfl 6 (by decide) (hts (.fieldLink RX7 46 "TheLiningsInIt" "refusals" "[I") (List.mem_of_getElem? (i := 1) rfl)) (fun _ h9 => h9) rfl dX7_refuse_11 ?_
      refine lv_iload_n hx hb dX7_refuse_14 rfl (lv_at hl 1 rfl) ?_
      refine lv_dup2_11 hx hb dX7_refuse_15 rfl rfl ?_
      refine va_iald hx hb hK hP 1 0 rfl rfl (zf_in (by decide) (by decide)) dX7_refuse_16 ?_
      refine lv_topi (fun x_8 ex_8 => ?_)
      refine lv_iconst (v := 1) hx hb dX7_refuse_17 (by decide) ?_
      refine lv_iadd hx hb dX7_refuse_18 ?_
      refine lv_topi (fun x_9 ex_9 => ?_)
      refine va_iast hx hb hK hP hD hS 1 0 rfl rfl (zf_in (by decide) (by decide)) dX7_refuse_19 (fun H locs hP hD hS => ?_)
      obtain ⟨g_10, hg_10⟩ : ∃ g : Nat → Int32, g = upd fr (4 : Int32).toNatClampNeg x_9 := ⟨_, rfl⟩
      rw [← hg_10] at hP hD
      clear hg_10
      have h9R := zRe (ws' := [(x0, .inr (7, [.ref xs, .ref j0, .ref k0, .ref w0, .ref rd, .ref mv, .ref xr, .int im, .int lf])), (xr, .inl (cI, 8, .inl g_10))]) hP hD rfl
      clear hP hD
      obtain ⟨hP, hD⟩ := h9R
      refine lv_iload_n hx hb dX7_refuse_20 rfl (lv_at hl 1 rfl) ?_
      refine lv_ineg hx hb dX7_refuse_21 ?_
      refine lv_topi (fun y_11 ey_11 => ?_)
      obtain rfl : y_11 = (-4) := ey_11.trans (by decide)
      exact W.iret (v := (-4)) hx hb hr (fun t ht hW => ⟨⟨(-4), g_10, rfl, rfl, zRet ht hP hD [0, 1] (by decide) rfl⟩, hS.F ht⟩) hS.2.2 dX7_refuse_22
set_option maxHeartbeats 4000000 in
set_option maxRecDepth 100000 in
theorem c_X_refuse_5 (l : Launch) (D : va_G) (cI cJ cZ cP cS : ClassId) (po : zPool) (x0 xs j0 k0 w0 rd mv xr : Nat) (im lf : Int32) (fr : Nat → Int32) (hy0 : 0 ≤ im.toInt) (hy1 : im.toInt ≤ 1) (hy2 : (-1) ≤ lf.toInt) (hy3 : lf.toInt ≤ 160) (hpz : Nat) : Met l yX7_refuse wsX7_refuse ({ frames := 1, cells := 0, slots := 0, locals := 22 }) (va_Pc [.ref x0, .int 5] (zW D (zKT cI cJ cZ cP cS) po [(x0, .inr (7, [.ref xs, .ref j0, .ref k0, .ref w0, .ref rd, .ref mv, .ref xr, .int im, .int lf])), (xr, .inl (cI, 8, .inl fr))] hpz)) (va_Qi (fun (r : Int32) (fr2 : (Nat → Int32)) => r = (-5)) (zB D [(x0, .inr (7, [.ref xs, .ref j0, .ref k0, .ref w0, .ref rd, .ref mv, .ref xr, .int im, .int lf])), (xr, .inl (cI, 8, .inl fr))] hpz (fun (fr2 : Nat → Int32) => [(x0, .inr (7, [.ref xs, .ref j0, .ref k0, .ref w0, .ref rd, .ref mv, .ref xr, .int im, .int lf])), (xr, .inl (cI, 8, .inl fr2))])) (va_A [(x0, .inr (7, [.ref xs, .ref j0, .ref k0, .ref w0, .ref rd, .ref mv, .ref xr, .int im, .int lf])), (xr, .inl (cI, 8, .inl fr))] hpz)) 0 0 (va_A [(x0, .inr (7, [.ref xs, .ref j0, .ref k0, .ref w0, .ref rd, .ref mv, .ref xr, .int im, .int lf])), (xr, .inl (cI, 8, .inl fr))] hpz) := by
  refine Met.ofW (cc := cX7_refuse) (maxL := 2) (ret := (some .int)) (by decide) rfl ?_
  intro p e s m args below meth c s₁ B hml hv
  obtain ⟨rfl, hsz, hP, hK, hD0, hN, hZ⟩ := hv
  have hx := B.exec
  have hb := B.bytes
  have hr := B.returns
  have hts := atoms_spec (ws := wsX7_refuse) B.pre
  have hown : s.vm.findClass RX7 = some m.cls := findClass_of_methodNamed B.named
  have hlocks := B.notSynchronized
  subst hsz
  have hD := hD0.self (sz := s.heap.size)
  have hA := zA_of hD
  have hl := lv_entry ([.ref x0, .int 5]) (n := 2) (Nat.le_of_ble_eq_true rfl)
  rw [lg_entry_eq]
  generalize (lg_sl ([.ref x0, .int 5]) ++ List.replicate (2 - (lg_sl ([.ref x0, .int 5])).length) Slot.unset).toArray = ls at hl ⊢
  replace hl : lv_has ls 2 [(0, .ref x0), (1, .int 5)] := hl
  refine zw_begin hP hD (fun H locs hP1 hS => ?_)
  clear hP
  have hP := hP1
  clear hP1
  refine lv_iload_n hx hb dX7_refuse_0 rfl (lv_at hl 1 rfl) ?_
  refine lv_iconst (v := 1) hx hb dX7_refuse_1 (by decide) ?_
  refine lv_bipush (v := 7) hx hb dX7_refuse_2 (by decide) ?_
  have kc5 : (5 : Int32).toInt = 5 := by decide
  have kc1 : (1 : Int32).toInt = 1 := by decide
  have kc7 : (7 : Int32).toInt = 7 := by decide
  refine zc_S (As := [.int 5, .int 1, .int 7]) (rest := []) ⟨hx, hb, hml, hown, hts⟩ (c_within l D cI cJ cZ cP cS po (5) (1) (7) ) (va_cwS 3 hts gX7_refuse_X7_within rfl rfl rfl dh_X7_within ⟨Nat.le_of_ble_eq_true rfl, Nat.le_of_ble_eq_true rfl⟩) hK hN (hZ.kept hS) rfl hl.1 rfl (Nat.le_of_ble_eq_true rfl) dX7_refuse_4 ⟨Nat.le_of_ble_eq_true rfl, Nat.le_of_ble_eq_true rfl⟩ (fun r_1 hr_1 => ?_)
  rcases hr_1 with ⟨rfl, g_2⟩ | ⟨rfl, g_3, g_4⟩ | ⟨rfl, g_5, g_6⟩
  · exfalso; omega
  · exfalso; omega
  · refine lv_if_eq (tgt := 20) hx hb dX7_refuse_7 (by decide) (fun c_7 => ?_) (fun c_7 => ?_)
    · exact absurd c_7 (by decide)
    · refine lv_aload_n hx hb dX7_refuse_10 rfl (lv_at hl 0 rfl) ?_
      refine va_get (D := D) (ci := 7) (v := .ref xr) (C := RX7) (T := TX7) (N := 9) hx hb hts hi_X7_refuse_7 hown hK hP 0 rfl rfl 6 (by decide) (hts (.fieldLink RX7 46 "TheLiningsInIt" "refusals" "[I") (List.mem_of_getElem? (i := 1) rfl)) (fun _ h9 => h9) rfl dX7_refuse_11 ?_
      refine lv_iload_n hx hb dX7_refuse_14 rfl (lv_at hl 1 rfl) ?_
      refine lv_dup2_11 hx hb dX7_refuse_15 rfl rfl ?_
      refine va_iald hx hb hK hP 1 0 rfl rfl (zf_in (by decide) (by decide)) dX7_refuse_16 ?_
      refine lv_topi (fun x_8 ex_8 => ?_)
      refine lv_iconst (v := 1) hx hb dX7_refuse_17 (by decide) ?_
      refine lv_iadd hx hb dX7_refuse_18 ?_
      refine lv_topi (fun x_9 ex_9 => ?_)
      refine va_iast hx hb hK hP hD hS 1 0 rfl rfl (zf_in (by decide) (by decide)) dX7_refuse_19 (fun H locs hP hD hS => ?_)
      obtain ⟨g_10, hg_10⟩ : ∃ g : Nat → Int32, g = upd fr (5 : Int32).toNatClampNeg x_9 := ⟨_, rfl⟩
      rw [← hg_10] at hP hD
      clear hg_10
      have h9R := zRe (ws' := [(x0, .inr (7, [.ref xs, .ref j0, .ref k0, .ref w0, .ref rd, .ref mv, .ref xr, .int im, .int lf])), (xr, .inl (cI, 8, .inl g_10))]) hP hD rfl
      clear hP hD
      obtain ⟨hP, hD⟩ := h9R
      refine lv_iload_n hx hb dX7_refuse_20 rfl (lv_at hl 1 rfl) ?_
      refine lv_ineg hx hb dX7_refuse_21 ?_
      refine lv_topi (fun y_11 ey_11 => ?_)
      obtain rfl : y_11 = (-5) := ey_11.trans (by decide)
      exact W.iret (v := (-5)) hx hb hr (fun t ht hW => ⟨⟨(-5), g_10, rfl, rfl, zRet ht hP hD [0, 1] (by decide) rfl⟩, hS.F ht⟩) hS.2.2 dX7_refuse_22
set_option maxHeartbeats 4000000 in
set_option maxRecDepth 100000 in
theorem c_X_refuse_6 (l : Launch) (D : va_G) (cI cJ cZ cP cS : ClassId) (po : zPool) (x0 xs j0 k0 w0 rd mv xr : Nat) (im lf : Int32) (fr : Nat → Int32) (hy0 : 0 ≤ im.toInt) (hy1 : im.toInt ≤ 1) (hy2 : (-1) ≤ lf.toInt) (hy3 : lf.toInt ≤ 160) (hpz : Nat) : Met l yX7_refuse wsX7_refuse ({ frames := 1, cells := 0, slots := 0, locals := 22 }) (va_Pc [.ref x0, .int 6] (zW D (zKT cI cJ cZ cP cS) po [(x0, .inr (7, [.ref xs, .ref j0, .ref k0, .ref w0, .ref rd, .ref mv, .ref xr, .int im, .int lf])), (xr, .inl (cI, 8, .inl fr))] hpz)) (va_Qi (fun (r : Int32) (fr2 : (Nat → Int32)) => r = (-6)) (zB D [(x0, .inr (7, [.ref xs, .ref j0, .ref k0, .ref w0, .ref rd, .ref mv, .ref xr, .int im, .int lf])), (xr, .inl (cI, 8, .inl fr))] hpz (fun (fr2 : Nat → Int32) => [(x0, .inr (7, [.ref xs, .ref j0, .ref k0, .ref w0, .ref rd, .ref mv, .ref xr, .int im, .int lf])), (xr, .inl (cI, 8, .inl fr2))])) (va_A [(x0, .inr (7, [.ref xs, .ref j0, .ref k0, .ref w0, .ref rd, .ref mv, .ref xr, .int im, .int lf])), (xr, .inl (cI, 8, .inl fr))] hpz)) 0 0 (va_A [(x0, .inr (7, [.ref xs, .ref j0, .ref k0, .ref w0, .ref rd, .ref mv, .ref xr, .int im, .int lf])), (xr, .inl (cI, 8, .inl fr))] hpz) := by
  refine Met.ofW (cc := cX7_refuse) (maxL := 2) (ret := (some .int)) (by decide) rfl ?_
  intro p e s m args below meth c s₁ B hml hv
  obtain ⟨rfl, hsz, hP, hK, hD0, hN, hZ⟩ := hv
  have hx := B.exec
  have hb := B.bytes
  have hr := B.returns
  have hts := atoms_spec (ws := wsX7_refuse) B.pre
  have hown : s.vm.findClass RX7 = some m.cls := findClass_of_methodNamed B.named
  have hlocks := B.notSynchronized
  subst hsz
  have hD := hD0.self (sz := s.heap.size)
  have hA := zA_of hD
  have hl := lv_entry ([.ref x0, .int 6]) (n := 2) (Nat.le_of_ble_eq_true rfl)
  rw [lg_entry_eq]
  generalize (lg_sl ([.ref x0, .int 6]) ++ List.replicate (2 - (lg_sl ([.ref x0, .int 6])).length) Slot.unset).toArray = ls at hl ⊢
  replace hl : lv_has ls 2 [(0, .ref x0), (1, .int 6)] := hl
  refine zw_begin hP hD (fun H locs hP1 hS => ?_)
  clear hP
  have hP := hP1
  clear hP1
  refine lv_iload_n hx hb dX7_refuse_0 rfl (lv_at hl 1 rfl) ?_
  refine lv_iconst (v := 1) hx hb dX7_refuse_1 (by decide) ?_
  refine lv_bipush (v := 7) hx hb dX7_refuse_2 (by decide) ?_
  have kc6 : (6 : Int32).toInt = 6 := by decide
  have kc1 : (1 : Int32).toInt = 1 := by decide
  have kc7 : (7 : Int32).toInt = 7 := by decide
  refine zc_S (As := [.int 6, .int 1, .int 7]) (rest := []) ⟨hx, hb, hml, hown, hts⟩ (c_within l D cI cJ cZ cP cS po (6) (1) (7) ) (va_cwS 3 hts gX7_refuse_X7_within rfl rfl rfl dh_X7_within ⟨Nat.le_of_ble_eq_true rfl, Nat.le_of_ble_eq_true rfl⟩) hK hN (hZ.kept hS) rfl hl.1 rfl (Nat.le_of_ble_eq_true rfl) dX7_refuse_4 ⟨Nat.le_of_ble_eq_true rfl, Nat.le_of_ble_eq_true rfl⟩ (fun r_1 hr_1 => ?_)
  rcases hr_1 with ⟨rfl, g_2⟩ | ⟨rfl, g_3, g_4⟩ | ⟨rfl, g_5, g_6⟩
  · exfalso; omega
  · exfalso; omega
  · refine lv_if_eq (tgt := 20) hx hb dX7_refuse_7 (by decide) (fun c_7 => ?_) (fun c_7 => ?_)
    · exact absurd c_7 (by decide)
    · refine lv_aload_n hx hb dX7_refuse_10 rfl (lv_at hl 0 rfl) ?_
      refine va_get (D := D) (ci := 7) (v := .ref xr) (C := RX7) (T := TX7) (N := 9) hx hb hts hi_X7_refuse_7 hown hK hP 0 rfl rfl 6 (by decide) (hts (.fieldLink RX7 46 "TheLiningsInIt" "refusals" "[I") (List.mem_of_getElem? (i := 1) rfl)) (fun _ h9 => h9) rfl dX7_refuse_11 ?_
      refine lv_iload_n hx hb dX7_refuse_14 rfl (lv_at hl 1 rfl) ?_
      refine lv_dup2_11 hx hb dX7_refuse_15 rfl rfl ?_
      refine va_iald hx hb hK hP 1 0 rfl rfl (zf_in (by decide) (by decide)) dX7_refuse_16 ?_
      refine lv_topi (fun x_8 ex_8 => ?_)
      refine lv_iconst (v := 1) hx hb dX7_refuse_17 (by decide) ?_
      refine lv_iadd hx hb dX7_refuse_18 ?_
      refine lv_topi (fun x_9 ex_9 => ?_)
      refine va_iast hx hb hK hP hD hS 1 0 rfl rfl (zf_in (by decide) (by decide)) dX7_refuse_19 (fun H locs hP hD hS => ?_)
      obtain ⟨g_10, hg_10⟩ : ∃ g : Nat → Int32, g = upd fr (6 : Int32).toNatClampNeg x_9 := ⟨_, rfl⟩
      rw [← hg_10] at hP hD
      clear hg_10
      have h9R := zRe (ws' := [(x0, .inr (7, [.ref xs, .ref j0, .ref k0, .ref w0, .ref rd, .ref mv, .ref xr, .int im, .int lf])), (xr, .inl (cI, 8, .inl g_10))]) hP hD rfl
      clear hP hD
      obtain ⟨hP, hD⟩ := h9R
      refine lv_iload_n hx hb dX7_refuse_20 rfl (lv_at hl 1 rfl) ?_
      refine lv_ineg hx hb dX7_refuse_21 ?_
      refine lv_topi (fun y_11 ey_11 => ?_)
      obtain rfl : y_11 = (-6) := ey_11.trans (by decide)
      exact W.iret (v := (-6)) hx hb hr (fun t ht hW => ⟨⟨(-6), g_10, rfl, rfl, zRet ht hP hD [0, 1] (by decide) rfl⟩, hS.F ht⟩) hS.2.2 dX7_refuse_22
set_option maxHeartbeats 4000000 in
set_option maxRecDepth 100000 in
theorem c_X_refuse_7 (l : Launch) (D : va_G) (cI cJ cZ cP cS : ClassId) (po : zPool) (x0 xs j0 k0 w0 rd mv xr : Nat) (im lf : Int32) (fr : Nat → Int32) (hy0 : 0 ≤ im.toInt) (hy1 : im.toInt ≤ 1) (hy2 : (-1) ≤ lf.toInt) (hy3 : lf.toInt ≤ 160) (hpz : Nat) : Met l yX7_refuse wsX7_refuse ({ frames := 1, cells := 0, slots := 0, locals := 22 }) (va_Pc [.ref x0, .int 7] (zW D (zKT cI cJ cZ cP cS) po [(x0, .inr (7, [.ref xs, .ref j0, .ref k0, .ref w0, .ref rd, .ref mv, .ref xr, .int im, .int lf])), (xr, .inl (cI, 8, .inl fr))] hpz)) (va_Qi (fun (r : Int32) (fr2 : (Nat → Int32)) => r = (-7)) (zB D [(x0, .inr (7, [.ref xs, .ref j0, .ref k0, .ref w0, .ref rd, .ref mv, .ref xr, .int im, .int lf])), (xr, .inl (cI, 8, .inl fr))] hpz (fun (fr2 : Nat → Int32) => [(x0, .inr (7, [.ref xs, .ref j0, .ref k0, .ref w0, .ref rd, .ref mv, .ref xr, .int im, .int lf])), (xr, .inl (cI, 8, .inl fr2))])) (va_A [(x0, .inr (7, [.ref xs, .ref j0, .ref k0, .ref w0, .ref rd, .ref mv, .ref xr, .int im, .int lf])), (xr, .inl (cI, 8, .inl fr))] hpz)) 0 0 (va_A [(x0, .inr (7, [.ref xs, .ref j0, .ref k0, .ref w0, .ref rd, .ref mv, .ref xr, .int im, .int lf])), (xr, .inl (cI, 8, .inl fr))] hpz) := by
  refine Met.ofW (cc := cX7_refuse) (maxL := 2) (ret := (some .int)) (by decide) rfl ?_
  intro p e s m args below meth c s₁ B hml hv
  obtain ⟨rfl, hsz, hP, hK, hD0, hN, hZ⟩ := hv
  have hx := B.exec
  have hb := B.bytes
  have hr := B.returns
  have hts := atoms_spec (ws := wsX7_refuse) B.pre
  have hown : s.vm.findClass RX7 = some m.cls := findClass_of_methodNamed B.named
  have hlocks := B.notSynchronized
  subst hsz
  have hD := hD0.self (sz := s.heap.size)
  have hA := zA_of hD
  have hl := lv_entry ([.ref x0, .int 7]) (n := 2) (Nat.le_of_ble_eq_true rfl)
  rw [lg_entry_eq]
  generalize (lg_sl ([.ref x0, .int 7]) ++ List.replicate (2 - (lg_sl ([.ref x0, .int 7])).length) Slot.unset).toArray = ls at hl ⊢
  replace hl : lv_has ls 2 [(0, .ref x0), (1, .int 7)] := hl
  refine zw_begin hP hD (fun H locs hP1 hS => ?_)
  clear hP
  have hP := hP1
  clear hP1
  refine lv_iload_n hx hb dX7_refuse_0 rfl (lv_at hl 1 rfl) ?_
  refine lv_iconst (v := 1) hx hb dX7_refuse_1 (by decide) ?_
  refine lv_bipush (v := 7) hx hb dX7_refuse_2 (by decide) ?_
  have kc7 : (7 : Int32).toInt = 7 := by decide
  have kc1 : (1 : Int32).toInt = 1 := by decide
  refine zc_S (As := [.int 7, .int 1, .int 7]) (rest := []) ⟨hx, hb, hml, hown, hts⟩ (c_within l D cI cJ cZ cP cS po (7) (1) (7) ) (va_cwS 3 hts gX7_refuse_X7_within rfl rfl rfl dh_X7_within ⟨Nat.le_of_ble_eq_true rfl, Nat.le_of_ble_eq_true rfl⟩) hK hN (hZ.kept hS) rfl hl.1 rfl (Nat.le_of_ble_eq_true rfl) dX7_refuse_4 ⟨Nat.le_of_ble_eq_true rfl, Nat.le_of_ble_eq_true rfl⟩ (fun r_1 hr_1 => ?_)
  rcases hr_1 with ⟨rfl, g_2⟩ | ⟨rfl, g_3, g_4⟩ | ⟨rfl, g_5, g_6⟩
  · exfalso; omega
  · exfalso; omega
  · refine lv_if_eq (tgt := 20) hx hb dX7_refuse_7 (by decide) (fun c_7 => ?_) (fun c_7 => ?_)
    · exact absurd c_7 (by decide)
    · refine lv_aload_n hx hb dX7_refuse_10 rfl (lv_at hl 0 rfl) ?_
      refine va_get (D := D) (ci := 7) (v := .ref xr) (C := RX7) (T := TX7) (N := 9) hx hb hts hi_X7_refuse_7 hown hK hP 0 rfl rfl 6 (by decide) (hts (.fieldLink RX7 46 "TheLiningsInIt" "refusals" "[I") (List.mem_of_getElem? (i := 1) rfl)) (fun _ h9 => h9) rfl dX7_refuse_11 ?_
      refine lv_iload_n hx hb dX7_refuse_14 rfl (lv_at hl 1 rfl) ?_
      refine lv_dup2_11 hx hb dX7_refuse_15 rfl rfl ?_
      refine va_iald hx hb hK hP 1 0 rfl rfl (zf_in (by decide) (by decide)) dX7_refuse_16 ?_
      refine lv_topi (fun x_8 ex_8 => ?_)
      refine lv_iconst (v := 1) hx hb dX7_refuse_17 (by decide) ?_
      refine lv_iadd hx hb dX7_refuse_18 ?_
      refine lv_topi (fun x_9 ex_9 => ?_)
      refine va_iast hx hb hK hP hD hS 1 0 rfl rfl (zf_in (by decide) (by decide)) dX7_refuse_19 (fun H locs hP hD hS => ?_)
      obtain ⟨g_10, hg_10⟩ : ∃ g : Nat → Int32, g = upd fr (7 : Int32).toNatClampNeg x_9 := ⟨_, rfl⟩
      rw [← hg_10] at hP hD
      clear hg_10
      have h9R := zRe (ws' := [(x0, .inr (7, [.ref xs, .ref j0, .ref k0, .ref w0, .ref rd, .ref mv, .ref xr, .int im, .int lf])), (xr, .inl (cI, 8, .inl g_10))]) hP hD rfl
      clear hP hD
      obtain ⟨hP, hD⟩ := h9R
      refine lv_iload_n hx hb dX7_refuse_20 rfl (lv_at hl 1 rfl) ?_
      refine lv_ineg hx hb dX7_refuse_21 ?_
      refine lv_topi (fun y_11 ey_11 => ?_)
      obtain rfl : y_11 = (-7) := ey_11.trans (by decide)
      exact W.iret (v := (-7)) hx hb hr (fun t ht hW => ⟨⟨(-7), g_10, rfl, rfl, zRet ht hP hD [0, 1] (by decide) rfl⟩, hS.F ht⟩) hS.2.2 dX7_refuse_22
set_option maxHeartbeats 4000000 in
set_option maxRecDepth 100000 in
theorem c_X_refuse (l : Launch) (D : va_G) (cI cJ cZ cP cS : ClassId) (po : zPool) (x0 xs j0 k0 w0 rd mv xr : Nat) (im lf : Int32) (fr : Nat → Int32) (n : Int32) (hy0 : 0 ≤ im.toInt) (hy1 : im.toInt ≤ 1) (hy2 : (-1) ≤ lf.toInt) (hy3 : lf.toInt ≤ 160) (hy4 : 1 ≤ n.toInt) (hy5 : n.toInt ≤ 7) (hpz : Nat) : Met l yX7_refuse wsX7_refuse ({ frames := 1, cells := 0, slots := 0, locals := 22 }) (va_Pc [.ref x0, .int n] (zW D (zKT cI cJ cZ cP cS) po [(x0, .inr (7, [.ref xs, .ref j0, .ref k0, .ref w0, .ref rd, .ref mv, .ref xr, .int im, .int lf])), (xr, .inl (cI, 8, .inl fr))] hpz)) (va_Qi (fun (r : Int32) (fr2 : (Nat → Int32)) => (r.toInt = -n.toInt) ∧ (-7 ≤ r.toInt ∧ r.toInt ≤ -1)) (zB D [(x0, .inr (7, [.ref xs, .ref j0, .ref k0, .ref w0, .ref rd, .ref mv, .ref xr, .int im, .int lf])), (xr, .inl (cI, 8, .inl fr))] hpz (fun (fr2 : Nat → Int32) => [(x0, .inr (7, [.ref xs, .ref j0, .ref k0, .ref w0, .ref rd, .ref mv, .ref xr, .int im, .int lf])), (xr, .inl (cI, 8, .inl fr2))])) (va_A [(x0, .inr (7, [.ref xs, .ref j0, .ref k0, .ref w0, .ref rd, .ref mv, .ref xr, .int im, .int lf])), (xr, .inl (cI, 8, .inl fr))] hpz)) 0 0 (va_A [(x0, .inr (7, [.ref xs, .ref j0, .ref k0, .ref w0, .ref rd, .ref mv, .ref xr, .int im, .int lf])), (xr, .inl (cI, 8, .inl fr))] hpz) := by
  refine Met.ofW (cc := cX7_refuse) (maxL := 2) (ret := (some .int)) (by decide) rfl ?_
  intro p e s m args below meth c s₁ B hml hv
  obtain ⟨rfl, hsz, hP, hK, hD0, hN, hZ⟩ := hv
  have hx := B.exec
  have hb := B.bytes
  have hr := B.returns
  have hts := atoms_spec (ws := wsX7_refuse) B.pre
  have hown : s.vm.findClass RX7 = some m.cls := findClass_of_methodNamed B.named
  have hlocks := B.notSynchronized
  subst hsz
  have hD := hD0.self (sz := s.heap.size)
  have hA := zA_of hD
  have hl := lv_entry ([.ref x0, .int n]) (n := 2) (Nat.le_of_ble_eq_true rfl)
  rw [lg_entry_eq]
  generalize (lg_sl ([.ref x0, .int n]) ++ List.replicate (2 - (lg_sl ([.ref x0, .int n])).length) Slot.unset).toArray = ls at hl ⊢
  replace hl : lv_has ls 2 [(0, .ref x0), (1, .int n)] := hl
  refine zw_begin hP hD (fun H locs hP1 hS => ?_)
  clear hP
  have hP := hP1
  clear hP1
  refine lv_iload_n hx hb dX7_refuse_0 rfl (lv_at hl 1 rfl) ?_
  refine lv_iconst (v := 1) hx hb dX7_refuse_1 (by decide) ?_
  refine lv_bipush (v := 7) hx hb dX7_refuse_2 (by decide) ?_
  have kc1 : (1 : Int32).toInt = 1 := by decide
  have kc7 : (7 : Int32).toInt = 7 := by decide
  refine zc_S (As := [.int n, .int 1, .int 7]) (rest := []) ⟨hx, hb, hml, hown, hts⟩ (c_within l D cI cJ cZ cP cS po (n) (1) (7) ) (va_cwS 3 hts gX7_refuse_X7_within rfl rfl rfl dh_X7_within ⟨Nat.le_of_ble_eq_true rfl, Nat.le_of_ble_eq_true rfl⟩) hK hN (hZ.kept hS) rfl hl.1 rfl (Nat.le_of_ble_eq_true rfl) dX7_refuse_4 ⟨Nat.le_of_ble_eq_true rfl, Nat.le_of_ble_eq_true rfl⟩ (fun r_1 hr_1 => ?_)
  rcases hr_1 with ⟨rfl, g_2⟩ | ⟨rfl, g_3, g_4⟩ | ⟨rfl, g_5, g_6⟩
  · exfalso; omega
  · exfalso; omega
  · refine lv_if_eq (tgt := 20) hx hb dX7_refuse_7 (by decide) (fun c_7 => ?_) (fun c_7 => ?_)
    · exact absurd c_7 (by decide)
    · refine lv_aload_n hx hb dX7_refuse_10 rfl (lv_at hl 0 rfl) ?_
      refine va_get (D := D) (ci := 7) (v := .ref xr) (C := RX7) (T := TX7) (N := 9) hx hb hts hi_X7_refuse_7 hown hK hP 0 rfl rfl 6 (by decide) (hts (.fieldLink RX7 46 "TheLiningsInIt" "refusals" "[I") (List.mem_of_getElem? (i := 1) rfl)) (fun _ h9 => h9) rfl dX7_refuse_11 ?_
      refine lv_iload_n hx hb dX7_refuse_14 rfl (lv_at hl 1 rfl) ?_
      refine lv_dup2_11 hx hb dX7_refuse_15 rfl rfl ?_
      refine va_iald hx hb hK hP 1 0 rfl rfl (zf_in (by omega) (by omega)) dX7_refuse_16 ?_
      refine lv_topi (fun x_8 ex_8 => ?_)
      refine lv_iconst (v := 1) hx hb dX7_refuse_17 (by decide) ?_
      refine lv_iadd hx hb dX7_refuse_18 ?_
      refine lv_topi (fun x_9 ex_9 => ?_)
      refine va_iast hx hb hK hP hD hS 1 0 rfl rfl (zf_in (by omega) (by omega)) dX7_refuse_19 (fun H locs hP hD hS => ?_)
      obtain ⟨g_10, hg_10⟩ : ∃ g : Nat → Int32, g = upd fr n.toNatClampNeg x_9 := ⟨_, rfl⟩
      rw [← hg_10] at hP hD
      clear hg_10
      have h9R := zRe (ws' := [(x0, .inr (7, [.ref xs, .ref j0, .ref k0, .ref w0, .ref rd, .ref mv, .ref xr, .int im, .int lf])), (xr, .inl (cI, 8, .inl g_10))]) hP hD rfl
      clear hP hD
      obtain ⟨hP, hD⟩ := h9R
      refine lv_iload_n hx hb dX7_refuse_20 rfl (lv_at hl 1 rfl) ?_
      refine lv_ineg hx hb dX7_refuse_21 ?_
      refine lv_topi (fun x_11 ex_11 => ?_)
      have qx_11 : x_11.toInt = -n.toInt := by rw [ex_11]; exact zf_neg rfl (by omega) (by omega)
      exact W.iret (v := x_11) hx hb hr (fun t ht hW => ⟨⟨x_11, g_10, rfl, ⟨(show (x_11 : Int32).toInt = -n.toInt from by omega), ⟨by omega, by omega⟩⟩, zRet ht hP hD [0, 1] (by decide) rfl⟩, hS.F ht⟩) hS.2.2 dX7_refuse_22
set_option maxHeartbeats 4000000 in
set_option maxRecDepth 100000 in
theorem c_X_refuseLower_1 (l : Launch) (D : va_G) (cI cJ cZ cP cS : ClassId) (po : zPool) (x0 xs j0 k0 w0 rd mv xr : Nat) (im lf : Int32) (fr : Nat → Int32) (hy0 : 0 ≤ im.toInt) (hy1 : im.toInt ≤ 1) (hy2 : (-1) ≤ lf.toInt) (hy3 : lf.toInt ≤ 160) (hpz : Nat) : Met l yX7_refuseLower wsX7_refuseLower ({ frames := 2, cells := 0, slots := 0, locals := 43 }) (va_Pc [.ref x0, .int 1] (zW D (zKT cI cJ cZ cP cS) po [(x0, .inr (7, [.ref xs, .ref j0, .ref k0, .ref w0, .ref rd, .ref mv, .ref xr, .int im, .int lf])), (xr, .inl (cI, 8, .inl fr))] hpz)) (va_Qi (fun (r : Int32) (fr2 : (Nat → Int32)) => r = (-11)) (zB D [(x0, .inr (7, [.ref xs, .ref j0, .ref k0, .ref w0, .ref rd, .ref mv, .ref xr, .int im, .int lf])), (xr, .inl (cI, 8, .inl fr))] hpz (fun (fr2 : Nat → Int32) => [(x0, .inr (7, [.ref xs, .ref j0, .ref k0, .ref w0, .ref rd, .ref mv, .ref xr, .int im, .int lf])), (xr, .inl (cI, 8, .inl fr2))])) (va_A [(x0, .inr (7, [.ref xs, .ref j0, .ref k0, .ref w0, .ref rd, .ref mv, .ref xr, .int im, .int lf])), (xr, .inl (cI, 8, .inl fr))] hpz)) 0 0 (va_A [(x0, .inr (7, [.ref xs, .ref j0, .ref k0, .ref w0, .ref rd, .ref mv, .ref xr, .int im, .int lf])), (xr, .inl (cI, 8, .inl fr))] hpz) := by
  refine Met.ofW (cc := cX7_refuseLower) (maxL := 2) (ret := (some .int)) (by decide) rfl ?_
  intro p e s m args below meth c s₁ B hml hv
  obtain ⟨rfl, hsz, hP, hK, hD0, hN, hZ⟩ := hv
  have hx := B.exec
  have hb := B.bytes
  have hr := B.returns
  have hts := atoms_spec (ws := wsX7_refuseLower) B.pre
  have hown : s.vm.findClass RX7 = some m.cls := findClass_of_methodNamed B.named
  have hlocks := B.notSynchronized
  subst hsz
  have hD := hD0.self (sz := s.heap.size)
  have hA := zA_of hD
  have hl := lv_entry ([.ref x0, .int 1]) (n := 2) (Nat.le_of_ble_eq_true rfl)
  rw [lg_entry_eq]
  generalize (lg_sl ([.ref x0, .int 1]) ++ List.replicate (2 - (lg_sl ([.ref x0, .int 1])).length) Slot.unset).toArray = ls at hl ⊢
  replace hl : lv_has ls 2 [(0, .ref x0), (1, .int 1)] := hl
  refine zw_begin hP hD (fun H locs hP1 hS => ?_)
  clear hP
  have hP := hP1
  clear hP1
  refine lv_aload_n hx hb dX7_refuseLower_0 rfl (lv_at hl 0 rfl) ?_
  refine lv_iload_n hx hb dX7_refuseLower_1 rfl (lv_at hl 1 rfl) ?_
  skip
  refine zw_V (As := [.int 1]) (rest := []) (wr := []) ⟨hx, hb, hml, hown, hts⟩ (c_X_refuse_1 l D cI cJ cZ cP cS po x0 xs j0 k0 w0 rd mv xr (im) (lf) fr hy0 hy1 hy2 hy3 H.size) (cwV 1 hts gX7_refuseLower_X7_refuse rfl rfl rfl ⟨rfl, dh_X7_refuse⟩ ⟨Nat.le_of_ble_eq_true rfl, Nat.le_of_ble_eq_true rfl⟩) hK hN (hZ.kept hS) hP hD hS hA [0, 1] [] rfl rfl (by decide) (by decide) (by decide) (va_recv (q := (RX7, TX7, 9)) hK hP (ci := 7) (q0 := 0) rfl rfl) rfl hl.1 rfl (Nat.le_of_ble_eq_true rfl) dX7_refuseLower_2 ⟨Nat.le_of_ble_eq_true rfl, Nat.le_of_ble_eq_true rfl⟩ (fun r_1 u_2 H locs hr_1 hP hD hS => ?_)
  obtain ⟨q_3, rfl⟩ : ∃ z, z = u_2 := ⟨_, rfl⟩
  have h9R := zRe (ws' := [(x0, .inr (7, [.ref xs, .ref j0, .ref k0, .ref w0, .ref rd, .ref mv, .ref xr, .int im, .int lf])), (xr, .inl (cI, 8, .inl q_3))]) hP hD rfl
  clear hP hD
  obtain ⟨hP, hD⟩ := h9R
  obtain rfl := hr_1
  refine lv_bipush (v := 10) hx hb dX7_refuseLower_5 (by decide) ?_
  refine lv_isub hx hb dX7_refuseLower_7 ?_
  refine lv_topi (fun y_4 ey_4 => ?_)
  obtain rfl : y_4 = (-11) := ey_4.trans (by decide)
  exact W.iret (v := (-11)) hx hb hr (fun t ht hW => ⟨⟨(-11), q_3, rfl, rfl, zRet ht hP hD [0, 1] (by decide) rfl⟩, hS.F ht⟩) hS.2.2 dX7_refuseLower_8
set_option maxHeartbeats 4000000 in
set_option maxRecDepth 100000 in
theorem c_X_refuseLower_2 (l : Launch) (D : va_G) (cI cJ cZ cP cS : ClassId) (po : zPool) (x0 xs j0 k0 w0 rd mv xr : Nat) (im lf : Int32) (fr : Nat → Int32) (hy0 : 0 ≤ im.toInt) (hy1 : im.toInt ≤ 1) (hy2 : (-1) ≤ lf.toInt) (hy3 : lf.toInt ≤ 160) (hpz : Nat) : Met l yX7_refuseLower wsX7_refuseLower ({ frames := 2, cells := 0, slots := 0, locals := 43 }) (va_Pc [.ref x0, .int 2] (zW D (zKT cI cJ cZ cP cS) po [(x0, .inr (7, [.ref xs, .ref j0, .ref k0, .ref w0, .ref rd, .ref mv, .ref xr, .int im, .int lf])), (xr, .inl (cI, 8, .inl fr))] hpz)) (va_Qi (fun (r : Int32) (fr2 : (Nat → Int32)) => r = (-12)) (zB D [(x0, .inr (7, [.ref xs, .ref j0, .ref k0, .ref w0, .ref rd, .ref mv, .ref xr, .int im, .int lf])), (xr, .inl (cI, 8, .inl fr))] hpz (fun (fr2 : Nat → Int32) => [(x0, .inr (7, [.ref xs, .ref j0, .ref k0, .ref w0, .ref rd, .ref mv, .ref xr, .int im, .int lf])), (xr, .inl (cI, 8, .inl fr2))])) (va_A [(x0, .inr (7, [.ref xs, .ref j0, .ref k0, .ref w0, .ref rd, .ref mv, .ref xr, .int im, .int lf])), (xr, .inl (cI, 8, .inl fr))] hpz)) 0 0 (va_A [(x0, .inr (7, [.ref xs, .ref j0, .ref k0, .ref w0, .ref rd, .ref mv, .ref xr, .int im, .int lf])), (xr, .inl (cI, 8, .inl fr))] hpz) := by
  refine Met.ofW (cc := cX7_refuseLower) (maxL := 2) (ret := (some .int)) (by decide) rfl ?_
  intro p e s m args below meth c s₁ B hml hv
  obtain ⟨rfl, hsz, hP, hK, hD0, hN, hZ⟩ := hv
  have hx := B.exec
  have hb := B.bytes
  have hr := B.returns
  have hts := atoms_spec (ws := wsX7_refuseLower) B.pre
  have hown : s.vm.findClass RX7 = some m.cls := findClass_of_methodNamed B.named
  have hlocks := B.notSynchronized
  subst hsz
  have hD := hD0.self (sz := s.heap.size)
  have hA := zA_of hD
  have hl := lv_entry ([.ref x0, .int 2]) (n := 2) (Nat.le_of_ble_eq_true rfl)
  rw [lg_entry_eq]
  generalize (lg_sl ([.ref x0, .int 2]) ++ List.replicate (2 - (lg_sl ([.ref x0, .int 2])).length) Slot.unset).toArray = ls at hl ⊢
  replace hl : lv_has ls 2 [(0, .ref x0), (1, .int 2)] := hl
  refine zw_begin hP hD (fun H locs hP1 hS => ?_)
  clear hP
  have hP := hP1
  clear hP1
  refine lv_aload_n hx hb dX7_refuseLower_0 rfl (lv_at hl 0 rfl) ?_
  refine lv_iload_n hx hb dX7_refuseLower_1 rfl (lv_at hl 1 rfl) ?_
  skip
  refine zw_V (As := [.int 2]) (rest := []) (wr := []) ⟨hx, hb, hml, hown, hts⟩ (c_X_refuse_2 l D cI cJ cZ cP cS po x0 xs j0 k0 w0 rd mv xr (im) (lf) fr hy0 hy1 hy2 hy3 H.size) (cwV 1 hts gX7_refuseLower_X7_refuse rfl rfl rfl ⟨rfl, dh_X7_refuse⟩ ⟨Nat.le_of_ble_eq_true rfl, Nat.le_of_ble_eq_true rfl⟩) hK hN (hZ.kept hS) hP hD hS hA [0, 1] [] rfl rfl (by decide) (by decide) (by decide) (va_recv (q := (RX7, TX7, 9)) hK hP (ci := 7) (q0 := 0) rfl rfl) rfl hl.1 rfl (Nat.le_of_ble_eq_true rfl) dX7_refuseLower_2 ⟨Nat.le_of_ble_eq_true rfl, Nat.le_of_ble_eq_true rfl⟩ (fun r_1 u_2 H locs hr_1 hP hD hS => ?_)
  obtain ⟨q_3, rfl⟩ : ∃ z, z = u_2 := ⟨_, rfl⟩
  have h9R := zRe (ws' := [(x0, .inr (7, [.ref xs, .ref j0, .ref k0, .ref w0, .ref rd, .ref mv, .ref xr, .int im, .int lf])), (xr, .inl (cI, 8, .inl q_3))]) hP hD rfl
  clear hP hD
  obtain ⟨hP, hD⟩ := h9R
  obtain rfl := hr_1
  refine lv_bipush (v := 10) hx hb dX7_refuseLower_5 (by decide) ?_
  refine lv_isub hx hb dX7_refuseLower_7 ?_
  refine lv_topi (fun y_4 ey_4 => ?_)
  obtain rfl : y_4 = (-12) := ey_4.trans (by decide)
  exact W.iret (v := (-12)) hx hb hr (fun t ht hW => ⟨⟨(-12), q_3, rfl, rfl, zRet ht hP hD [0, 1] (by decide) rfl⟩, hS.F ht⟩) hS.2.2 dX7_refuseLower_8
set_option maxHeartbeats 4000000 in
set_option maxRecDepth 100000 in
theorem c_X_refuseLower_3 (l : Launch) (D : va_G) (cI cJ cZ cP cS : ClassId) (po : zPool) (x0 xs j0 k0 w0 rd mv xr : Nat) (im lf : Int32) (fr : Nat → Int32) (hy0 : 0 ≤ im.toInt) (hy1 : im.toInt ≤ 1) (hy2 : (-1) ≤ lf.toInt) (hy3 : lf.toInt ≤ 160) (hpz : Nat) : Met l yX7_refuseLower wsX7_refuseLower ({ frames := 2, cells := 0, slots := 0, locals := 43 }) (va_Pc [.ref x0, .int 3] (zW D (zKT cI cJ cZ cP cS) po [(x0, .inr (7, [.ref xs, .ref j0, .ref k0, .ref w0, .ref rd, .ref mv, .ref xr, .int im, .int lf])), (xr, .inl (cI, 8, .inl fr))] hpz)) (va_Qi (fun (r : Int32) (fr2 : (Nat → Int32)) => r = (-13)) (zB D [(x0, .inr (7, [.ref xs, .ref j0, .ref k0, .ref w0, .ref rd, .ref mv, .ref xr, .int im, .int lf])), (xr, .inl (cI, 8, .inl fr))] hpz (fun (fr2 : Nat → Int32) => [(x0, .inr (7, [.ref xs, .ref j0, .ref k0, .ref w0, .ref rd, .ref mv, .ref xr, .int im, .int lf])), (xr, .inl (cI, 8, .inl fr2))])) (va_A [(x0, .inr (7, [.ref xs, .ref j0, .ref k0, .ref w0, .ref rd, .ref mv, .ref xr, .int im, .int lf])), (xr, .inl (cI, 8, .inl fr))] hpz)) 0 0 (va_A [(x0, .inr (7, [.ref xs, .ref j0, .ref k0, .ref w0, .ref rd, .ref mv, .ref xr, .int im, .int lf])), (xr, .inl (cI, 8, .inl fr))] hpz) := by
  refine Met.ofW (cc := cX7_refuseLower) (maxL := 2) (ret := (some .int)) (by decide) rfl ?_
  intro p e s m args below meth c s₁ B hml hv
  obtain ⟨rfl, hsz, hP, hK, hD0, hN, hZ⟩ := hv
  have hx := B.exec
  have hb := B.bytes
  have hr := B.returns
  have hts := atoms_spec (ws := wsX7_refuseLower) B.pre
  have hown : s.vm.findClass RX7 = some m.cls := findClass_of_methodNamed B.named
  have hlocks := B.notSynchronized
  subst hsz
  have hD := hD0.self (sz := s.heap.size)
  have hA := zA_of hD
  have hl := lv_entry ([.ref x0, .int 3]) (n := 2) (Nat.le_of_ble_eq_true rfl)
  rw [lg_entry_eq]
  generalize (lg_sl ([.ref x0, .int 3]) ++ List.replicate (2 - (lg_sl ([.ref x0, .int 3])).length) Slot.unset).toArray = ls at hl ⊢
  replace hl : lv_has ls 2 [(0, .ref x0), (1, .int 3)] := hl
  refine zw_begin hP hD (fun H locs hP1 hS => ?_)
  clear hP
  have hP := hP1
  clear hP1
  refine lv_aload_n hx hb dX7_refuseLower_0 rfl (lv_at hl 0 rfl) ?_
  refine lv_iload_n hx hb dX7_refuseLower_1 rfl (lv_at hl 1 rfl) ?_
  skip
  refine zw_V (As := [.int 3]) (rest := []) (wr := []) ⟨hx, hb, hml, hown, hts⟩ (c_X_refuse_3 l D cI cJ cZ cP cS po x0 xs j0 k0 w0 rd mv xr (im) (lf) fr hy0 hy1 hy2 hy3 H.size) (cwV 1 hts gX7_refuseLower_X7_refuse rfl rfl rfl ⟨rfl, dh_X7_refuse⟩ ⟨Nat.le_of_ble_eq_true rfl, Nat.le_of_ble_eq_true rfl⟩) hK hN (hZ.kept hS) hP hD hS hA [0, 1] [] rfl rfl (by decide) (by decide) (by decide) (va_recv (q := (RX7, TX7, 9)) hK hP (ci := 7) (q0 := 0) rfl rfl) rfl hl.1 rfl (Nat.le_of_ble_eq_true rfl) dX7_refuseLower_2 ⟨Nat.le_of_ble_eq_true rfl, Nat.le_of_ble_eq_true rfl⟩ (fun r_1 u_2 H locs hr_1 hP hD hS => ?_)
  obtain ⟨q_3, rfl⟩ : ∃ z, z = u_2 := ⟨_, rfl⟩
  have h9R := zRe (ws' := [(x0, .inr (7, [.ref xs, .ref j0, .ref k0, .ref w0, .ref rd, .ref mv, .ref xr, .int im, .int lf])), (xr, .inl (cI, 8, .inl q_3))]) hP hD rfl
  clear hP hD
  obtain ⟨hP, hD⟩ := h9R
  obtain rfl := hr_1
  refine lv_bipush (v := 10) hx hb dX7_refuseLower_5 (by decide) ?_
  refine lv_isub hx hb dX7_refuseLower_7 ?_
  refine lv_topi (fun y_4 ey_4 => ?_)
  obtain rfl : y_4 = (-13) := ey_4.trans (by decide)
  exact W.iret (v := (-13)) hx hb hr (fun t ht hW => ⟨⟨(-13), q_3, rfl, rfl, zRet ht hP hD [0, 1] (by decide) rfl⟩, hS.F ht⟩) hS.2.2 dX7_refuseLower_8
set_option maxHeartbeats 4000000 in
set_option maxRecDepth 100000 in
theorem c_X_refuseLower_4 (l : Launch) (D : va_G) (cI cJ cZ cP cS : ClassId) (po : zPool) (x0 xs j0 k0 w0 rd mv xr : Nat) (im lf : Int32) (fr : Nat → Int32) (hy0 : 0 ≤ im.toInt) (hy1 : im.toInt ≤ 1) (hy2 : (-1) ≤ lf.toInt) (hy3 : lf.toInt ≤ 160) (hpz : Nat) : Met l yX7_refuseLower wsX7_refuseLower ({ frames := 2, cells := 0, slots := 0, locals := 43 }) (va_Pc [.ref x0, .int 4] (zW D (zKT cI cJ cZ cP cS) po [(x0, .inr (7, [.ref xs, .ref j0, .ref k0, .ref w0, .ref rd, .ref mv, .ref xr, .int im, .int lf])), (xr, .inl (cI, 8, .inl fr))] hpz)) (va_Qi (fun (r : Int32) (fr2 : (Nat → Int32)) => r = (-14)) (zB D [(x0, .inr (7, [.ref xs, .ref j0, .ref k0, .ref w0, .ref rd, .ref mv, .ref xr, .int im, .int lf])), (xr, .inl (cI, 8, .inl fr))] hpz (fun (fr2 : Nat → Int32) => [(x0, .inr (7, [.ref xs, .ref j0, .ref k0, .ref w0, .ref rd, .ref mv, .ref xr, .int im, .int lf])), (xr, .inl (cI, 8, .inl fr2))])) (va_A [(x0, .inr (7, [.ref xs, .ref j0, .ref k0, .ref w0, .ref rd, .ref mv, .ref xr, .int im, .int lf])), (xr, .inl (cI, 8, .inl fr))] hpz)) 0 0 (va_A [(x0, .inr (7, [.ref xs, .ref j0, .ref k0, .ref w0, .ref rd, .ref mv, .ref xr, .int im, .int lf])), (xr, .inl (cI, 8, .inl fr))] hpz) := by
  refine Met.ofW (cc := cX7_refuseLower) (maxL := 2) (ret := (some .int)) (by decide) rfl ?_
  intro p e s m args below meth c s₁ B hml hv
  obtain ⟨rfl, hsz, hP, hK, hD0, hN, hZ⟩ := hv
  have hx := B.exec
  have hb := B.bytes
  have hr := B.returns
  have hts := atoms_spec (ws := wsX7_refuseLower) B.pre
  have hown : s.vm.findClass RX7 = some m.cls := findClass_of_methodNamed B.named
  have hlocks := B.notSynchronized
  subst hsz
  have hD := hD0.self (sz := s.heap.size)
  have hA := zA_of hD
  have hl := lv_entry ([.ref x0, .int 4]) (n := 2) (Nat.le_of_ble_eq_true rfl)
  rw [lg_entry_eq]
  generalize (lg_sl ([.ref x0, .int 4]) ++ List.replicate (2 - (lg_sl ([.ref x0, .int 4])).length) Slot.unset).toArray = ls at hl ⊢
  replace hl : lv_has ls 2 [(0, .ref x0), (1, .int 4)] := hl
  refine zw_begin hP hD (fun H locs hP1 hS => ?_)
  clear hP
  have hP := hP1
  clear hP1
  refine lv_aload_n hx hb dX7_refuseLower_0 rfl (lv_at hl 0 rfl) ?_
  refine lv_iload_n hx hb dX7_refuseLower_1 rfl (lv_at hl 1 rfl) ?_
  skip
  refine zw_V (As := [.int 4]) (rest := []) (wr := []) ⟨hx, hb, hml, hown, hts⟩ (c_X_refuse_4 l D cI cJ cZ cP cS po x0 xs j0 k0 w0 rd mv xr (im) (lf) fr hy0 hy1 hy2 hy3 H.size) (cwV 1 hts gX7_refuseLower_X7_refuse rfl rfl rfl ⟨rfl, dh_X7_refuse⟩ ⟨Nat.le_of_ble_eq_true rfl, Nat.le_of_ble_eq_true rfl⟩) hK hN (hZ.kept hS) hP hD hS hA [0, 1] [] rfl rfl (by decide) (by decide) (by decide) (va_recv (q := (RX7, TX7, 9)) hK hP (ci := 7) (q0 := 0) rfl rfl) rfl hl.1 rfl (Nat.le_of_ble_eq_true rfl) dX7_refuseLower_2 ⟨Nat.le_of_ble_eq_true rfl, Nat.le_of_ble_eq_true rfl⟩ (fun r_1 u_2 H locs hr_1 hP hD hS => ?_)
  obtain ⟨q_3, rfl⟩ : ∃ z, z = u_2 := ⟨_, rfl⟩
  have h9R := zRe (ws' := [(x0, .inr (7, [.ref xs, .ref j0, .ref k0, .ref w0, .ref rd, .ref mv, .ref xr, .int im, .int lf])), (xr, .inl (cI, 8, .inl q_3))]) hP hD rfl
  clear hP hD
  obtain ⟨hP, hD⟩ := h9R
  obtain rfl := hr_1
  refine lv_bipush (v := 10) hx hb dX7_refuseLower_5 (by decide) ?_
  refine lv_isub hx hb dX7_refuseLower_7 ?_
  refine lv_topi (fun y_4 ey_4 => ?_)
  obtain rfl : y_4 = (-14) := ey_4.trans (by decide)
  exact W.iret (v := (-14)) hx hb hr (fun t ht hW => ⟨⟨(-14), q_3, rfl, rfl, zRet ht hP hD [0, 1] (by decide) rfl⟩, hS.F ht⟩) hS.2.2 dX7_refuseLower_8
set_option maxHeartbeats 4000000 in
set_option maxRecDepth 100000 in
theorem c_X_refuseLower_5 (l : Launch) (D : va_G) (cI cJ cZ cP cS : ClassId) (po : zPool) (x0 xs j0 k0 w0 rd mv xr : Nat) (im lf : Int32) (fr : Nat → Int32) (hy0 : 0 ≤ im.toInt) (hy1 : im.toInt ≤ 1) (hy2 : (-1) ≤ lf.toInt) (hy3 : lf.toInt ≤ 160) (hpz : Nat) : Met l yX7_refuseLower wsX7_refuseLower ({ frames := 2, cells := 0, slots := 0, locals := 43 }) (va_Pc [.ref x0, .int 5] (zW D (zKT cI cJ cZ cP cS) po [(x0, .inr (7, [.ref xs, .ref j0, .ref k0, .ref w0, .ref rd, .ref mv, .ref xr, .int im, .int lf])), (xr, .inl (cI, 8, .inl fr))] hpz)) (va_Qi (fun (r : Int32) (fr2 : (Nat → Int32)) => r = (-15)) (zB D [(x0, .inr (7, [.ref xs, .ref j0, .ref k0, .ref w0, .ref rd, .ref mv, .ref xr, .int im, .int lf])), (xr, .inl (cI, 8, .inl fr))] hpz (fun (fr2 : Nat → Int32) => [(x0, .inr (7, [.ref xs, .ref j0, .ref k0, .ref w0, .ref rd, .ref mv, .ref xr, .int im, .int lf])), (xr, .inl (cI, 8, .inl fr2))])) (va_A [(x0, .inr (7, [.ref xs, .ref j0, .ref k0, .ref w0, .ref rd, .ref mv, .ref xr, .int im, .int lf])), (xr, .inl (cI, 8, .inl fr))] hpz)) 0 0 (va_A [(x0, .inr (7, [.ref xs, .ref j0, .ref k0, .ref w0, .ref rd, .ref mv, .ref xr, .int im, .int lf])), (xr, .inl (cI, 8, .inl fr))] hpz) := by
  refine Met.ofW (cc := cX7_refuseLower) (maxL := 2) (ret := (some .int)) (by decide) rfl ?_
  intro p e s m args below meth c s₁ B hml hv
  obtain ⟨rfl, hsz, hP, hK, hD0, hN, hZ⟩ := hv
  have hx := B.exec
  have hb := B.bytes
  have hr := B.returns
  have hts := atoms_spec (ws := wsX7_refuseLower) B.pre
  have hown : s.vm.findClass RX7 = some m.cls := findClass_of_methodNamed B.named
  have hlocks := B.notSynchronized
  subst hsz
  have hD := hD0.self (sz := s.heap.size)
  have hA := zA_of hD
  have hl := lv_entry ([.ref x0, .int 5]) (n := 2) (Nat.le_of_ble_eq_true rfl)
  rw [lg_entry_eq]
  generalize (lg_sl ([.ref x0, .int 5]) ++ List.replicate (2 - (lg_sl ([.ref x0, .int 5])).length) Slot.unset).toArray = ls at hl ⊢
  replace hl : lv_has ls 2 [(0, .ref x0), (1, .int 5)] := hl
  refine zw_begin hP hD (fun H locs hP1 hS => ?_)
  clear hP
  have hP := hP1
  clear hP1
  refine lv_aload_n hx hb dX7_refuseLower_0 rfl (lv_at hl 0 rfl) ?_
  refine lv_iload_n hx hb dX7_refuseLower_1 rfl (lv_at hl 1 rfl) ?_
  skip
  refine zw_V (As := [.int 5]) (rest := []) (wr := []) ⟨hx, hb, hml, hown, hts⟩ (c_X_refuse_5 l D cI cJ cZ cP cS po x0 xs j0 k0 w0 rd mv xr (im) (lf) fr hy0 hy1 hy2 hy3 H.size) (cwV 1 hts gX7_refuseLower_X7_refuse rfl rfl rfl ⟨rfl, dh_X7_refuse⟩ ⟨Nat.le_of_ble_eq_true rfl, Nat.le_of_ble_eq_true rfl⟩) hK hN (hZ.kept hS) hP hD hS hA [0, 1] [] rfl rfl (by decide) (by decide) (by decide) (va_recv (q := (RX7, TX7, 9)) hK hP (ci := 7) (q0 := 0) rfl rfl) rfl hl.1 rfl (Nat.le_of_ble_eq_true rfl) dX7_refuseLower_2 ⟨Nat.le_of_ble_eq_true rfl, Nat.le_of_ble_eq_true rfl⟩ (fun r_1 u_2 H locs hr_1 hP hD hS => ?_)
  obtain ⟨q_3, rfl⟩ : ∃ z, z = u_2 := ⟨_, rfl⟩
  have h9R := zRe (ws' := [(x0, .inr (7, [.ref xs, .ref j0, .ref k0, .ref w0, .ref rd, .ref mv, .ref xr, .int im, .int lf])), (xr, .inl (cI, 8, .inl q_3))]) hP hD rfl
  clear hP hD
  obtain ⟨hP, hD⟩ := h9R
  obtain rfl := hr_1
  refine lv_bipush (v := 10) hx hb dX7_refuseLower_5 (by decide) ?_
  refine lv_isub hx hb dX7_refuseLower_7 ?_
  refine lv_topi (fun y_4 ey_4 => ?_)
  obtain rfl : y_4 = (-15) := ey_4.trans (by decide)
  exact W.iret (v := (-15)) hx hb hr (fun t ht hW => ⟨⟨(-15), q_3, rfl, rfl, zRet ht hP hD [0, 1] (by decide) rfl⟩, hS.F ht⟩) hS.2.2 dX7_refuseLower_8
set_option maxHeartbeats 4000000 in
set_option maxRecDepth 100000 in
theorem c_X_refuseLower_6 (l : Launch) (D : va_G) (cI cJ cZ cP cS : ClassId) (po : zPool) (x0 xs j0 k0 w0 rd mv xr : Nat) (im lf : Int32) (fr : Nat → Int32) (hy0 : 0 ≤ im.toInt) (hy1 : im.toInt ≤ 1) (hy2 : (-1) ≤ lf.toInt) (hy3 : lf.toInt ≤ 160) (hpz : Nat) : Met l yX7_refuseLower wsX7_refuseLower ({ frames := 2, cells := 0, slots := 0, locals := 43 }) (va_Pc [.ref x0, .int 6] (zW D (zKT cI cJ cZ cP cS) po [(x0, .inr (7, [.ref xs, .ref j0, .ref k0, .ref w0, .ref rd, .ref mv, .ref xr, .int im, .int lf])), (xr, .inl (cI, 8, .inl fr))] hpz)) (va_Qi (fun (r : Int32) (fr2 : (Nat → Int32)) => r = (-16)) (zB D [(x0, .inr (7, [.ref xs, .ref j0, .ref k0, .ref w0, .ref rd, .ref mv, .ref xr, .int im, .int lf])), (xr, .inl (cI, 8, .inl fr))] hpz (fun (fr2 : Nat → Int32) => [(x0, .inr (7, [.ref xs, .ref j0, .ref k0, .ref w0, .ref rd, .ref mv, .ref xr, .int im, .int lf])), (xr, .inl (cI, 8, .inl fr2))])) (va_A [(x0, .inr (7, [.ref xs, .ref j0, .ref k0, .ref w0, .ref rd, .ref mv, .ref xr, .int im, .int lf])), (xr, .inl (cI, 8, .inl fr))] hpz)) 0 0 (va_A [(x0, .inr (7, [.ref xs, .ref j0, .ref k0, .ref w0, .ref rd, .ref mv, .ref xr, .int im, .int lf])), (xr, .inl (cI, 8, .inl fr))] hpz) := by
  refine Met.ofW (cc := cX7_refuseLower) (maxL := 2) (ret := (some .int)) (by decide) rfl ?_
  intro p e s m args below meth c s₁ B hml hv
  obtain ⟨rfl, hsz, hP, hK, hD0, hN, hZ⟩ := hv
  have hx := B.exec
  have hb := B.bytes
  have hr := B.returns
  have hts := atoms_spec (ws := wsX7_refuseLower) B.pre
  have hown : s.vm.findClass RX7 = some m.cls := findClass_of_methodNamed B.named
  have hlocks := B.notSynchronized
  subst hsz
  have hD := hD0.self (sz := s.heap.size)
  have hA := zA_of hD
  have hl := lv_entry ([.ref x0, .int 6]) (n := 2) (Nat.le_of_ble_eq_true rfl)
  rw [lg_entry_eq]
  generalize (lg_sl ([.ref x0, .int 6]) ++ List.replicate (2 - (lg_sl ([.ref x0, .int 6])).length) Slot.unset).toArray = ls at hl ⊢
  replace hl : lv_has ls 2 [(0, .ref x0), (1, .int 6)] := hl
  refine zw_begin hP hD (fun H locs hP1 hS => ?_)
  clear hP
  have hP := hP1
  clear hP1
  refine lv_aload_n hx hb dX7_refuseLower_0 rfl (lv_at hl 0 rfl) ?_
  refine lv_iload_n hx hb dX7_refuseLower_1 rfl (lv_at hl 1 rfl) ?_
  skip
  refine zw_V (As := [.int 6]) (rest := []) (wr := []) ⟨hx, hb, hml, hown, hts⟩ (c_X_refuse_6 l D cI cJ cZ cP cS po x0 xs j0 k0 w0 rd mv xr (im) (lf) fr hy0 hy1 hy2 hy3 H.size) (cwV 1 hts gX7_refuseLower_X7_refuse rfl rfl rfl ⟨rfl, dh_X7_refuse⟩ ⟨Nat.le_of_ble_eq_true rfl, Nat.le_of_ble_eq_true rfl⟩) hK hN (hZ.kept hS) hP hD hS hA [0, 1] [] rfl rfl (by decide) (by decide) (by decide) (va_recv (q := (RX7, TX7, 9)) hK hP (ci := 7) (q0 := 0) rfl rfl) rfl hl.1 rfl (Nat.le_of_ble_eq_true rfl) dX7_refuseLower_2 ⟨Nat.le_of_ble_eq_true rfl, Nat.le_of_ble_eq_true rfl⟩ (fun r_1 u_2 H locs hr_1 hP hD hS => ?_)
  obtain ⟨q_3, rfl⟩ : ∃ z, z = u_2 := ⟨_, rfl⟩
  have h9R := zRe (ws' := [(x0, .inr (7, [.ref xs, .ref j0, .ref k0, .ref w0, .ref rd, .ref mv, .ref xr, .int im, .int lf])), (xr, .inl (cI, 8, .inl q_3))]) hP hD rfl
  clear hP hD
  obtain ⟨hP, hD⟩ := h9R
  obtain rfl := hr_1
  refine lv_bipush (v := 10) hx hb dX7_refuseLower_5 (by decide) ?_
  refine lv_isub hx hb dX7_refuseLower_7 ?_
  refine lv_topi (fun y_4 ey_4 => ?_)
  obtain rfl : y_4 = (-16) := ey_4.trans (by decide)
  exact W.iret (v := (-16)) hx hb hr (fun t ht hW => ⟨⟨(-16), q_3, rfl, rfl, zRet ht hP hD [0, 1] (by decide) rfl⟩, hS.F ht⟩) hS.2.2 dX7_refuseLower_8
set_option maxHeartbeats 4000000 in
set_option maxRecDepth 100000 in
theorem c_X_refuseLower (l : Launch) (D : va_G) (cI cJ cZ cP cS : ClassId) (po : zPool) (x0 xs j0 k0 w0 rd mv xr : Nat) (im lf : Int32) (fr : Nat → Int32) (n : Int32) (hy0 : 0 ≤ im.toInt) (hy1 : im.toInt ≤ 1) (hy2 : (-1) ≤ lf.toInt) (hy3 : lf.toInt ≤ 160) (hy4 : 1 ≤ n.toInt) (hy5 : n.toInt ≤ 7) (hpz : Nat) : Met l yX7_refuseLower wsX7_refuseLower ({ frames := 2, cells := 0, slots := 0, locals := 43 }) (va_Pc [.ref x0, .int n] (zW D (zKT cI cJ cZ cP cS) po [(x0, .inr (7, [.ref xs, .ref j0, .ref k0, .ref w0, .ref rd, .ref mv, .ref xr, .int im, .int lf])), (xr, .inl (cI, 8, .inl fr))] hpz)) (va_Qi (fun (r : Int32) (fr2 : (Nat → Int32)) => (r.toInt = -n.toInt - 10) ∧ (-17 ≤ r.toInt ∧ r.toInt ≤ -11)) (zB D [(x0, .inr (7, [.ref xs, .ref j0, .ref k0, .ref w0, .ref rd, .ref mv, .ref xr, .int im, .int lf])), (xr, .inl (cI, 8, .inl fr))] hpz (fun (fr2 : Nat → Int32) => [(x0, .inr (7, [.ref xs, .ref j0, .ref k0, .ref w0, .ref rd, .ref mv, .ref xr, .int im, .int lf])), (xr, .inl (cI, 8, .inl fr2))])) (va_A [(x0, .inr (7, [.ref xs, .ref j0, .ref k0, .ref w0, .ref rd, .ref mv, .ref xr, .int im, .int lf])), (xr, .inl (cI, 8, .inl fr))] hpz)) 0 0 (va_A [(x0, .inr (7, [.ref xs, .ref j0, .ref k0, .ref w0, .ref rd, .ref mv, .ref xr, .int im, .int lf])), (xr, .inl (cI, 8, .inl fr))] hpz) := by
  refine Met.ofW (cc := cX7_refuseLower) (maxL := 2) (ret := (some .int)) (by decide) rfl ?_
  intro p e s m args below meth c s₁ B hml hv
  obtain ⟨rfl, hsz, hP, hK, hD0, hN, hZ⟩ := hv
  have hx := B.exec
  have hb := B.bytes
  have hr := B.returns
  have hts := atoms_spec (ws := wsX7_refuseLower) B.pre
  have hown : s.vm.findClass RX7 = some m.cls := findClass_of_methodNamed B.named
  have hlocks := B.notSynchronized
  subst hsz
  have hD := hD0.self (sz := s.heap.size)
  have hA := zA_of hD
  have hl := lv_entry ([.ref x0, .int n]) (n := 2) (Nat.le_of_ble_eq_true rfl)
  rw [lg_entry_eq]
  generalize (lg_sl ([.ref x0, .int n]) ++ List.replicate (2 - (lg_sl ([.ref x0, .int n])).length) Slot.unset).toArray = ls at hl ⊢
  replace hl : lv_has ls 2 [(0, .ref x0), (1, .int n)] := hl
  refine zw_begin hP hD (fun H locs hP1 hS => ?_)
  clear hP
  have hP := hP1
  clear hP1
  refine lv_aload_n hx hb dX7_refuseLower_0 rfl (lv_at hl 0 rfl) ?_
  refine lv_iload_n hx hb dX7_refuseLower_1 rfl (lv_at hl 1 rfl) ?_
  skip
  refine zw_V (As := [.int n]) (rest := []) (wr := []) ⟨hx, hb, hml, hown, hts⟩ (c_X_refuse l D cI cJ cZ cP cS po x0 xs j0 k0 w0 rd mv xr (im) (lf) fr (n) hy0 hy1 hy2 hy3 hy4 hy5 H.size) (cwV 1 hts gX7_refuseLower_X7_refuse rfl rfl rfl ⟨rfl, dh_X7_refuse⟩ ⟨Nat.le_of_ble_eq_true rfl, Nat.le_of_ble_eq_true rfl⟩) hK hN (hZ.kept hS) hP hD hS hA [0, 1] [] rfl rfl (by decide) (by decide) (by decide) (va_recv (q := (RX7, TX7, 9)) hK hP (ci := 7) (q0 := 0) rfl rfl) rfl hl.1 rfl (Nat.le_of_ble_eq_true rfl) dX7_refuseLower_2 ⟨Nat.le_of_ble_eq_true rfl, Nat.le_of_ble_eq_true rfl⟩ (fun r_1 u_2 H locs hr_1 hP hD hS => ?_)
  obtain ⟨q_3, rfl⟩ : ∃ z, z = u_2 := ⟨_, rfl⟩
  obtain ⟨hsr_1_0, hr_1⟩ := hr_1
  have h9R := zRe (ws' := [(x0, .inr (7, [.ref xs, .ref j0, .ref k0, .ref w0, .ref rd, .ref mv, .ref xr, .int im, .int lf])), (xr, .inl (cI, 8, .inl q_3))]) hP hD rfl
  clear hP hD
  obtain ⟨hP, hD⟩ := h9R
  obtain ⟨g_4, g_5⟩ := hr_1
  refine lv_bipush (v := 10) hx hb dX7_refuseLower_5 (by decide) ?_
  refine lv_isub hx hb dX7_refuseLower_7 ?_
  refine lv_topi (fun x_6 ex_6 => ?_)
  have qx_6 : x_6.toInt = r_1.toInt - 10 := by rw [ex_6]; exact zf_sub rfl (by decide) (by omega) (by omega)
  exact W.iret (v := x_6) hx hb hr (fun t ht hW => ⟨⟨x_6, q_3, rfl, ⟨(show (x_6 : Int32).toInt = -n.toInt - 10 from by omega), ⟨by omega, by omega⟩⟩, zRet ht hP hD [0, 1] (by decide) rfl⟩, hS.F ht⟩) hS.2.2 dX7_refuseLower_8
theorem gl_X7_shelfAt_X70 : GoodIn wsX7_shelfAt wsX70 := (dg_t (dg_t (dg_t (dg_t (dg_t (dg_t gw_wsX70))))))
theorem hi_X7_shelfAt_7 : ∀ w ∈ u_ws RX7 TX7 9, w ∈ wsX7_shelfAt := fun w h => (gl_X7_shelfAt_X70 w h).1
set_option maxHeartbeats 4000000 in
set_option maxRecDepth 100000 in
theorem c_X_shelfAt (l : Launch) (D : va_G) (cI cJ cZ cP cS : ClassId) (po : zPool) (x0 xs j0 k0 w0 rd mv xr : Nat) (im lf : Int32) (fr : Nat → Int32) (fh : Nat → Option Nat) (s_ : Int32) (hy0 : 0 ≤ im.toInt) (hy1 : im.toInt ≤ 1) (hy2 : (-1) ≤ lf.toInt) (hy3 : lf.toInt ≤ 160) : Met l yX7_shelfAt wsX7_shelfAt ({ frames := 1, cells := 0, slots := 0, locals := 22 }) (va_Pc [.ref x0, .int s_] (zR D (zKT cI cJ cZ cP cS) po [(x0, .inr (7, [.ref xs, .ref j0, .ref k0, .ref w0, .ref rd, .ref mv, .ref xr, .int im, .int lf])), (xs, .inl (cS, 8, .inr (.inr (.inr (.inr fh)))))])) (va_Sq (fun r => (r = none ∧ s_.toInt < 0) ∨ (r = none ∧ 0 ≤ s_.toInt ∧ 7 < s_.toInt) ∨ (r = (fh s_.toNatClampNeg) ∧ 0 ≤ s_.toInt ∧ s_.toInt ≤ 7))) 0 0 (fun _ => False) := by
  refine Met.ofW (cc := cX7_shelfAt) (maxL := 2) (ret := (some (.object "TheLiningsInIt$Shelf"))) (by decide) rfl ?_
  intro p e s m args below meth c s₁ B hml hv
  obtain ⟨rfl, hP, hK, hN, hZ⟩ := hv
  have hx := B.exec
  have hb := B.bytes
  have hr := B.returns
  have hts := atoms_spec (ws := wsX7_shelfAt) B.pre
  have hown : s.vm.findClass RX7 = some m.cls := findClass_of_methodNamed B.named
  have hlocks := B.notSynchronized
  have hl := lv_entry ([.ref x0, .int s_]) (n := 2) (Nat.le_of_ble_eq_true rfl)
  rw [lg_entry_eq]
  generalize (lg_sl ([.ref x0, .int s_]) ++ List.replicate (2 - (lg_sl ([.ref x0, .int s_])).length) Slot.unset).toArray = ls at hl ⊢
  replace hl : lv_has ls 2 [(0, .ref x0), (1, .int s_)] := hl
  refine lv_iload_n hx hb dX7_shelfAt_0 rfl (lv_at hl 1 rfl) ?_
  refine lv_iconst (v := 0) hx hb dX7_shelfAt_1 (by decide) ?_
  refine lv_bipush (v := 7) hx hb dX7_shelfAt_2 (by decide) ?_
  have kc0 : (0 : Int32).toInt = 0 := by decide
  have kc7 : (7 : Int32).toInt = 7 := by decide
  refine zc_S (As := [.int s_, .int 0, .int 7]) (rest := []) ⟨hx, hb, hml, hown, hts⟩ (c_within l D cI cJ cZ cP cS po (s_) (0) (7) ) (va_cwS 3 hts gX7_shelfAt_X7_within rfl rfl rfl dh_X7_within ⟨Nat.le_of_ble_eq_true rfl, Nat.le_of_ble_eq_true rfl⟩) hK hN hZ rfl hl.1 rfl (Nat.le_of_ble_eq_true rfl) dX7_shelfAt_4 ⟨Nat.le_of_ble_eq_true rfl, Nat.le_of_ble_eq_true rfl⟩ (fun r_1 hr_1 => ?_)
  rcases hr_1 with ⟨rfl, g_2⟩ | ⟨rfl, g_3, g_4⟩ | ⟨rfl, g_5, g_6⟩
  · refine lv_if_eq (tgt := 19) hx hb dX7_shelfAt_7 (by decide) (fun c_7 => ?_) (fun c_7 => ?_)
    · refine lv_null hx hb dX7_shelfAt_19 ?_
      exact W.aret (v := .null) hx hb hr (Or.inl ⟨_, rfl⟩) (Or.inl rfl) (fun t ht hW => ⟨none, rfl, Or.inl (⟨rfl, (by first | omega | decide)⟩), ht⟩) (fun q hq => by cases hq) dX7_shelfAt_20
    · exact absurd c_7 (by decide)
  · refine lv_if_eq (tgt := 19) hx hb dX7_shelfAt_7 (by decide) (fun c_8 => ?_) (fun c_8 => ?_)
    · refine lv_null hx hb dX7_shelfAt_19 ?_
      exact W.aret (v := .null) hx hb hr (Or.inl ⟨_, rfl⟩) (Or.inl rfl) (fun t ht hW => ⟨none, rfl, Or.inr (Or.inl (⟨rfl, (by first | omega | decide), (by first | omega | decide)⟩)), ht⟩) (fun q hq => by cases hq) dX7_shelfAt_20
    · exact absurd c_8 (by decide)
  · refine lv_if_eq (tgt := 19) hx hb dX7_shelfAt_7 (by decide) (fun c_9 => ?_) (fun c_9 => ?_)
    · exact absurd c_9 (by decide)
    · refine lv_aload_n hx hb dX7_shelfAt_10 rfl (lv_at hl 0 rfl) ?_
      refine va_get (D := D) (ci := 7) (v := .ref xs) (C := RX7) (T := TX7) (N := 9) hx hb hts hi_X7_shelfAt_7 hown hK hP 0 rfl rfl 0 (by decide) (hts (.fieldLink RX7 11 "TheLiningsInIt" "shelves" "[LTheLiningsInIt$Shelf;") (List.mem_of_getElem? (i := 1) rfl)) (fun _ h9 => h9) rfl dX7_shelfAt_11 ?_
      refine lv_iload_n hx hb dX7_shelfAt_14 rfl (lv_at hl 1 rfl) ?_
      refine va_aldq hx hb hK hP 1 4 rfl rfl (zf_in (by omega) (by omega)) dX7_shelfAt_15 ?_
      refine lv_goto (tgt := 20) hx hb dX7_shelfAt_16 (by decide) ?_
      exact W.aret (v := va_rf (fh s_.toNatClampNeg)) hx hb hr (Or.inl ⟨_, rfl⟩) (va_rf_or _) (fun t ht hW => ⟨(fh s_.toNatClampNeg), rfl, Or.inr (Or.inr (⟨rfl, (by first | omega | decide), (by first | omega | decide)⟩)), ht⟩) (fun q hq => by cases hq) dX7_shelfAt_20
theorem hi_X7_copy_4 : ∀ w ∈ u_ws RX4 TX4 3, w ∈ wsX7_copy := fun w h => (gl_X7_copy_X40 w h).1
theorem hi_X7_element_4 : ∀ w ∈ u_ws RX4 TX4 3, w ∈ wsX7_element := fun w h => (gl_X7_element_X40 w h).1
theorem gl_X7_show_X40 : GoodIn wsX7_show wsX40 := (dg_t (dg_t (dg_t (dg_t (dg_t (dg_t (dg_t (dg_t (dg_t (dg_t (dg_t (dg_t (dg_t (dg_t (dg_t (dg_t (dg_t (dg_t (dg_t (dg_t (dg_t (dg_t (dg_t (dg_t (dg_l (dg_r gw_wsX40))))))))))))))))))))))))))
theorem hi_X7_show_4 : ∀ w ∈ u_ws RX4 TX4 3, w ∈ wsX7_show := fun w h => (gl_X7_show_X40 w h).1
theorem hi_X7_show_7 : ∀ w ∈ u_ws RX7 TX7 9, w ∈ wsX7_show := fun w h => (gl_X7_show_X70 w h).1
theorem gl_X7_holds_X40 : GoodIn wsX7_holds wsX40 := (dg_t (dg_t (dg_t (dg_t (dg_t (dg_t (dg_t (dg_t (dg_t (dg_t (dg_t (dg_l gw_wsX40))))))))))))
theorem hi_X7_holds_4 : ∀ w ∈ u_ws RX4 TX4 3, w ∈ wsX7_holds := fun w h => (gl_X7_holds_X40 w h).1
theorem gl_X7_says_X40 : GoodIn wsX7_says wsX40 := (dg_t (dg_l (dg_l (dg_l (dg_r gw_wsX40)))))
theorem hi_X7_says_4 : ∀ w ∈ u_ws RX4 TX4 3, w ∈ wsX7_says := fun w h => (gl_X7_says_X40 w h).1
theorem hi_X7_says_7 : ∀ w ∈ u_ws RX7 TX7 9, w ∈ wsX7_says := fun w h => (gl_X7_says_X70 w h).1
theorem hi_X7_says_2 : ∀ w ∈ u_ws RX2 TX2 3, w ∈ wsX7_says := fun w h => (gl_X7_says_X20 w h).1
theorem hi_X7_says_0 : ∀ w ∈ u_ws RX0 TX0 9, w ∈ wsX7_says := fun w h => (gl_X7_says_X00 w h).1
end
section
theorem hi_X7_pull_7 : ∀ w ∈ u_ws RX7 TX7 9, w ∈ wsX7_pull := fun w h => (gl_X7_pull_X70 w h).1
theorem hi_X7_pull_0 : ∀ w ∈ u_ws RX0 TX0 9, w ∈ wsX7_pull := fun w h => (gl_X7_pull_X00 w h).1
theorem hi_X7_pullOf_7 : ∀ w ∈ u_ws RX7 TX7 9, w ∈ wsX7_pullOf := fun w h => (gl_X7_pullOf_X70 w h).1
theorem hi_X7_pullOf_2 : ∀ w ∈ u_ws RX2 TX2 3, w ∈ wsX7_pullOf := fun w h => (gl_X7_pullOf_X20 w h).1
set_option maxHeartbeats 4000000 in
set_option maxRecDepth 100000 in
theorem c_X_pullOf (l : Launch) (D : va_G) (cI cJ cZ cP cS : ClassId) (po : zPool) (x0 xs j0 k0 w0 rd mv xr : Nat) (im lf : Int32) (fr : Nat → Int32) (j0 jp jc z0 zl zs : Nat) (cn de tr se hu sd : Int32) (fp : Nat → Option Nat) (kf af tf : Nat → Int32) (p_ w : Int32) (hy0 : 0 ≤ im.toInt) (hy1 : im.toInt ≤ 1) (hy2 : (-1) ≤ lf.toInt) (hy3 : lf.toInt ≤ 160) (hy4 : 0 ≤ cn.toInt) (hy5 : cn.toInt ≤ 8) (hy6 : 0 ≤ de.toInt) (hy7 : de.toInt ≤ 24) (hy8 : 0 ≤ hu.toInt) (hy9 : hu.toInt ≤ 9) (hjp : zJP po fp cn kf af tf) (hpz : Nat) : Met l yX7_pullOf wsX7_pullOf ({ frames := 2, cells := 0, slots := 0, locals := 43 }) (va_Pc [.ref x0, .int p_, .int w] (zW D (zKT cI cJ cZ cP cS) po [(x0, .inr (7, [.ref xs, .ref j0, .ref k0, .ref w0, .ref rd, .ref mv, .ref xr, .int im, .int lf])), (xr, .inl (cI, 8, .inl fr)), (j0, .inr (0, [.ref z0, .ref jp, .ref jc, .int cn, .int de, .int tr, .int se, .int hu, .int sd])), (jp, .inl (cP, 8, .inr (.inr (.inr (.inr fp)))))] hpz)) (va_Qi (fun (r : Int32) (fr2 : (Nat → Int32)) => True) (zB D [(x0, .inr (7, [.ref xs, .ref j0, .ref k0, .ref w0, .ref rd, .ref mv, .ref xr, .int im, .int lf])), (xr, .inl (cI, 8, .inl fr)), (j0, .inr (0, [.ref z0, .ref jp, .ref jc, .int cn, .int de, .int tr, .int se, .int hu, .int sd])), (jp, .inl (cP, 8, .inr (.inr (.inr (.inr fp)))))] hpz (fun (fr2 : Nat → Int32) => [(x0, .inr (7, [.ref xs, .ref j0, .ref k0, .ref w0, .ref rd, .ref mv, .ref xr, .int im, .int lf])), (xr, .inl (cI, 8, .inl fr2)), (j0, .inr (0, [.ref z0, .ref jp, .ref jc, .int cn, .int de, .int tr, .int se, .int hu, .int sd])), (jp, .inl (cP, 8, .inr (.inr (.inr (.inr fp)))))])) (va_A [(x0, .inr (7, [.ref xs, .ref j0, .ref k0, .ref w0, .ref rd, .ref mv, .ref xr, .int im, .int lf])), (xr, .inl (cI, 8, .inl fr)), (j0, .inr (0, [.ref z0, .ref jp, .ref jc, .int cn, .int de, .int tr, .int se, .int hu, .int sd])), (jp, .inl (cP, 8, .inr (.inr (.inr (.inr fp)))))] hpz)) 0 0 (va_A [(x0, .inr (7, [.ref xs, .ref j0, .ref k0, .ref w0, .ref rd, .ref mv, .ref xr, .int im, .int lf])), (xr, .inl (cI, 8, .inl fr)), (j0, .inr (0, [.ref z0, .ref jp, .ref jc, .int cn, .int de, .int tr, .int se, .int hu, .int sd])), (jp, .inl (cP, 8, .inr (.inr (.inr (.inr fp)))))] hpz) := by
  refine Met.ofW (cc := cX7_pullOf) (maxL := 4) (ret := (some .int)) (by decide) rfl ?_
  intro p e s m args below meth c s₁ B hml hv
  obtain ⟨rfl, hsz, hP, hK, hD0, hN, hZ⟩ := hv
  have hx := B.exec
  have hb := B.bytes
  have hr := B.returns
  have hts := atoms_spec (ws := wsX7_pullOf) B.pre
  have hown : s.vm.findClass RX7 = some m.cls := findClass_of_methodNamed B.named
  have hlocks := B.notSynchronized
  subst hsz
  have hD := hD0.self (sz := s.heap.size)
  have hA := zA_of hD
  have hl := lv_entry ([.ref x0, .int p_, .int w]) (n := 4) (Nat.le_of_ble_eq_true rfl)
  rw [lg_entry_eq]
  generalize (lg_sl ([.ref x0, .int p_, .int w]) ++ List.replicate (4 - (lg_sl ([.ref x0, .int p_, .int w])).length) Slot.unset).toArray = ls at hl ⊢
  replace hl : lv_has ls 4 [(0, .ref x0), (1, .int p_), (2, .int w)] := hl
  refine zw_begin hP hD (fun H locs hP1 hS => ?_)
  clear hP
  have hP := hP1
  clear hP1
  refine lv_aload_n hx hb dX7_pullOf_0 rfl (lv_at hl 0 rfl) ?_
  refine va_get (D := D) (ci := 7) (v := .ref j0) (C := RX7) (T := TX7) (N := 9) hx hb hts hi_X7_pullOf_7 hown hK hP 0 rfl rfl 1 (by decide) (hts (.fieldLink RX7 18 "TheLiningsInIt" "now" "LTheLiningsInIt$Jacket;") (List.mem_of_getElem? (i := 1) rfl)) (fun _ h9 => h9) rfl dX7_pullOf_1 ?_
  refine lv_iload_n hx hb dX7_pullOf_4 rfl (lv_at hl 1 rfl) ?_
  refine zc_Vq (As := [.int p_]) (rest := []) ⟨hx, hb, hml, hown, hts⟩ (c_J_pullAt l D cI cJ cZ cP cS po j0 jp jc z0 0 0 (cn) (de) (tr) (se) (hu) (sd) fp kf af tf (p_) hy4 hy5 hy6 hy7 hy8 hy9 hjp) (cwV 1 hts gX7_pullOf_X0_pullAt rfl rfl rfl ⟨rfl, dh_X0_pullAt⟩ ⟨Nat.le_of_ble_eq_true rfl, Nat.le_of_ble_eq_true rfl⟩) hK hN (hZ.kept hS) hP (hP.sub [2, 3] rfl) (va_recv (q := (RX0, TX0, 9)) hK hP (ci := 0) (q0 := 2) rfl rfl) rfl hl.1 rfl (Nat.le_of_ble_eq_true rfl) dX7_pullOf_5 ⟨Nat.le_of_ble_eq_true rfl, Nat.le_of_ble_eq_true rfl⟩ (fun r_1 hr_1 => ?_)
  rcases hr_1 with ⟨rfl, g_2⟩ | ⟨rfl, g_3⟩ | ⟨⟨u_5, kiu_5, au_5, tu_5, rfl, huu_5, hkku_5⟩, g_4⟩
  · refine lv_astore_nN (lv' := [(3, .null), (0, .ref x0), (1, .int p_), (2, .int w)]) hx hb dX7_pullOf_8 rfl hl (by decide) rfl (fun ls hl => ?_)
    refine lv_aload_nN hx hb dX7_pullOf_9 rfl (lv_at hl 0 rfl) ?_
    refine lv_ifnonnullN hx hb dX7_pullOf_10 ?_
    refine lv_aload_n hx hb dX7_pullOf_13 rfl (lv_at hl 1 rfl) ?_
    refine lv_iconst (v := 5) hx hb dX7_pullOf_14 (by decide) ?_
    skip
    refine zw_V (As := [.int 5]) (rest := []) (wr := [(j0, .inr (0, [.ref z0, .ref jp, .ref jc, .int cn, .int de, .int tr, .int se, .int hu, .int sd])), (jp, .inl (cP, 8, .inr (.inr (.inr (.inr fp)))))]) ⟨hx, hb, hml, hown, hts⟩ (c_X_refuse_5 l D cI cJ cZ cP cS po x0 xs j0 k0 w0 rd mv xr (im) (lf) fr hy0 hy1 hy2 hy3 H.size) (cwV 1 hts gX7_pullOf_X7_refuse rfl rfl rfl ⟨rfl, dh_X7_refuse⟩ ⟨Nat.le_of_ble_eq_true rfl, Nat.le_of_ble_eq_true rfl⟩) hK hN (hZ.kept hS) hP hD hS hA [0, 1] [2, 3] rfl rfl (by decide) (by decide) (by decide) (va_recv (q := (RX7, TX7, 9)) hK hP (ci := 7) (q0 := 0) rfl rfl) rfl hl.1 rfl (Nat.le_of_ble_eq_true rfl) dX7_pullOf_15 ⟨Nat.le_of_ble_eq_true rfl, Nat.le_of_ble_eq_true rfl⟩ (fun r_6 u_7 H locs hr_6 hP hD hS => ?_)
    obtain ⟨q_8, rfl⟩ : ∃ z, z = u_7 := ⟨_, rfl⟩
    have h9R := zRe (ws' := [(j0, .inr (0, [.ref z0, .ref jp, .ref jc, .int cn, .int de, .int tr, .int se, .int hu, .int sd])), (jp, .inl (cP, 8, .inr (.inr (.inr (.inr fp))))), (x0, .inr (7, [.ref xs, .ref j0, .ref k0, .ref w0, .ref rd, .ref mv, .ref xr, .int im, .int lf])), (xr, .inl (cI, 8, .inl q_8))]) hP hD rfl
    clear hP hD
    obtain ⟨hP, hD⟩ := h9R
    obtain rfl := hr_6
    exact W.iret (v := (-5)) hx hb hr (fun t ht hW => ⟨⟨(-5), q_8, rfl, trivial, zRet ht hP hD [2, 3, 0, 1] (by decide) rfl⟩, hS.F ht⟩) hS.2.2 dX7_pullOf_18
  · refine lv_astore_nN (lv' := [(3, .null), (0, .ref x0), (1, .int p_), (2, .int w)]) hx hb dX7_pullOf_8 rfl hl (by decide) rfl (fun ls hl => ?_)
    refine lv_aload_nN hx hb dX7_pullOf_9 rfl (lv_at hl 0 rfl) ?_
    refine lv_ifnonnullN hx hb dX7_pullOf_10 ?_
    refine lv_aload_n hx hb dX7_pullOf_13 rfl (lv_at hl 1 rfl) ?_
    refine lv_iconst (v := 5) hx hb dX7_pullOf_14 (by decide) ?_
    skip
    refine zw_V (As := [.int 5]) (rest := []) (wr := [(j0, .inr (0, [.ref z0, .ref jp, .ref jc, .int cn, .int de, .int tr, .int se, .int hu, .int sd])), (jp, .inl (cP, 8, .inr (.inr (.inr (.inr fp)))))]) ⟨hx, hb, hml, hown, hts⟩ (c_X_refuse_5 l D cI cJ cZ cP cS po x0 xs j0 k0 w0 rd mv xr (im) (lf) fr hy0 hy1 hy2 hy3 H.size) (cwV 1 hts gX7_pullOf_X7_refuse rfl rfl rfl ⟨rfl, dh_X7_refuse⟩ ⟨Nat.le_of_ble_eq_true rfl, Nat.le_of_ble_eq_true rfl⟩) hK hN (hZ.kept hS) hP hD hS hA [0, 1] [2, 3] rfl rfl (by decide) (by decide) (by decide) (va_recv (q := (RX7, TX7, 9)) hK hP (ci := 7) (q0 := 0) rfl rfl) rfl hl.1 rfl (Nat.le_of_ble_eq_true rfl) dX7_pullOf_15 ⟨Nat.le_of_ble_eq_true rfl, Nat.le_of_ble_eq_true rfl⟩ (fun r_9 u_10 H locs hr_9 hP hD hS => ?_)
    obtain ⟨q_11, rfl⟩ : ∃ z, z = u_10 := ⟨_, rfl⟩
    have h9R := zRe (ws' := [(j0, .inr (0, [.ref z0, .ref jp, .ref jc, .int cn, .int de, .int tr, .int se, .int hu, .int sd])), (jp, .inl (cP, 8, .inr (.inr (.inr (.inr fp))))), (x0, .inr (7, [.ref xs, .ref j0, .ref k0, .ref w0, .ref rd, .ref mv, .ref xr, .int im, .int lf])), (xr, .inl (cI, 8, .inl q_11))]) hP hD rfl
    clear hP hD
    obtain ⟨hP, hD⟩ := h9R
    obtain rfl := hr_9
    exact W.iret (v := (-5)) hx hb hr (fun t ht hW => ⟨⟨(-5), q_11, rfl, trivial, zRet ht hP hD [2, 3, 0, 1] (by decide) rfl⟩, hS.F ht⟩) hS.2.2 dX7_pullOf_18
  · refine W.eq (g2 := F0 m 8 ls (.ref u_5 :: [])) rfl ?_
    obtain ⟨hku_5, hau_5, htu_5⟩ := zPu_pr (hZ.kept hS) huu_5
    refine lv_astore_n (lv' := [(3, .ref u_5), (0, .ref x0), (1, .int p_), (2, .int w)]) hx hb dX7_pullOf_8 rfl hl (by decide) rfl (fun ls hl => ?_)
    refine lv_aload_n hx hb dX7_pullOf_9 rfl (lv_at hl 0 rfl) ?_
    refine lv_ifnonnull (tgt := 19) hx hb dX7_pullOf_10 (by decide) ?_
    refine lv_iload_n hx hb dX7_pullOf_19 rfl (lv_at hl 3 rfl) ?_
    by_cases hsp : w.toInt < 0 ∨ 4 < w.toInt
    · refine lv_tableOut (tgt := 93) hx hb dX7_pullOf_20 hsp (by decide) ?_
      refine lv_aload_n hx hb dX7_pullOf_93 rfl (lv_at hl 1 rfl) ?_
      refine lv_iconst (v := 5) hx hb dX7_pullOf_94 (by decide) ?_
      skip
      refine zw_V (As := [.int 5]) (rest := []) (wr := [(j0, .inr (0, [.ref z0, .ref jp, .ref jc, .int cn, .int de, .int tr, .int se, .int hu, .int sd])), (jp, .inl (cP, 8, .inr (.inr (.inr (.inr fp)))))]) ⟨hx, hb, hml, hown, hts⟩ (c_X_refuse_5 l D cI cJ cZ cP cS po x0 xs j0 k0 w0 rd mv xr (im) (lf) fr hy0 hy1 hy2 hy3 H.size) (cwV 1 hts gX7_pullOf_X7_refuse rfl rfl rfl ⟨rfl, dh_X7_refuse⟩ ⟨Nat.le_of_ble_eq_true rfl, Nat.le_of_ble_eq_true rfl⟩) hK hN (hZ.kept hS) hP hD hS hA [0, 1] [2, 3] rfl rfl (by decide) (by decide) (by decide) (va_recv (q := (RX7, TX7, 9)) hK hP (ci := 7) (q0 := 0) rfl rfl) rfl hl.1 rfl (Nat.le_of_ble_eq_true rfl) dX7_pullOf_95 ⟨Nat.le_of_ble_eq_true rfl, Nat.le_of_ble_eq_true rfl⟩ (fun r_12 u_13 H locs hr_12 hP hD hS => ?_)
      obtain ⟨q_14, rfl⟩ : ∃ z, z = u_13 := ⟨_, rfl⟩
      have h9R := zRe (ws' := [(j0, .inr (0, [.ref z0, .ref jp, .ref jc, .int cn, .int de, .int tr, .int se, .int hu, .int sd])), (jp, .inl (cP, 8, .inr (.inr (.inr (.inr fp))))), (x0, .inr (7, [.ref xs, .ref j0, .ref k0, .ref w0, .ref rd, .ref mv, .ref xr, .int im, .int lf])), (xr, .inl (cI, 8, .inl q_14))]) hP hD rfl
      clear hP hD
      obtain ⟨hP, hD⟩ := h9R
      obtain rfl := hr_12
      exact W.iret (v := (-5)) hx hb hr (fun t ht hW => ⟨⟨(-5), q_14, rfl, trivial, zRet ht hP hD [2, 3, 0, 1] (by decide) rfl⟩, hS.F ht⟩) hS.2.2 dX7_pullOf_98
    · have hsp : w = 0 ∨ w = 1 ∨ w = 2 ∨ w = 3 ∨ w = 4 := by
        rcases (show w.toInt = 0 ∨ w.toInt = 1 ∨ w.toInt = 2 ∨ w.toInt = 3 ∨ w.toInt = 4 by omega) with h9 | h9 | h9 | h9 | h9
        · refine Or.inl ?_; exact zf_val h9 (by decide)
        · refine Or.inr (Or.inl ?_); exact zf_val h9 (by decide)
        · refine Or.inr (Or.inr (Or.inl ?_)); exact zf_val h9 (by decide)
        · refine Or.inr (Or.inr (Or.inr (Or.inl ?_))); exact zf_val h9 (by decide)
        · refine Or.inr (Or.inr (Or.inr (Or.inr (?_)))); exact zf_val h9 (by decide)
      rcases hsp with rfl | rfl | rfl | rfl | rfl
      · have kc0 : (0 : Int32).toInt = 0 := by decide
        refine lv_tableIn (tgt := 56) hx hb dX7_pullOf_20 (by decide) (by decide) rfl (by decide) ?_
        refine lv_aload_n hx hb dX7_pullOf_56 rfl (lv_at hl 0 rfl) ?_
        refine va_get (D := D) (ci := 2) (v := .int kiu_5) (C := RX2) (T := TX2) (N := 3) hx hb hts hi_X7_pullOf_2 hown hK (zPu_P (hZ.kept hS) huu_5) 0 rfl rfl 0 (by decide) (hts (.fieldLink RX7 130 "TheLiningsInIt$Pull" "kind" "I") (List.mem_of_getElem? (i := 2) rfl)) (fun _ h9 => h9) rfl dX7_pullOf_57 ?_
        exact W.iret (v := kiu_5) hx hb hr (fun t ht hW => ⟨⟨kiu_5, fr, rfl, trivial, zRet ht hP hD [0, 1, 2, 3] (by decide) rfl⟩, hS.F ht⟩) hS.2.2 dX7_pullOf_60
      · have kc1 : (1 : Int32).toInt = 1 := by decide
        refine lv_tableIn (tgt := 61) hx hb dX7_pullOf_20 (by decide) (by decide) rfl (by decide) ?_
        refine lv_aload_n hx hb dX7_pullOf_61 rfl (lv_at hl 0 rfl) ?_
        refine va_get (D := D) (ci := 2) (v := .int au_5) (C := RX2) (T := TX2) (N := 3) hx hb hts hi_X7_pullOf_2 hown hK (zPu_P (hZ.kept hS) huu_5) 0 rfl rfl 1 (by decide) (hts (.fieldLink RX7 133 "TheLiningsInIt$Pull" "a" "I") (List.mem_of_getElem? (i := 3) rfl)) (fun _ h9 => h9) rfl dX7_pullOf_62 ?_
        exact W.iret (v := au_5) hx hb hr (fun t ht hW => ⟨⟨au_5, fr, rfl, trivial, zRet ht hP hD [0, 1, 2, 3] (by decide) rfl⟩, hS.F ht⟩) hS.2.2 dX7_pullOf_65
      · have kc2 : (2 : Int32).toInt = 2 := by decide
        refine lv_tableIn (tgt := 66) hx hb dX7_pullOf_20 (by decide) (by decide) rfl (by decide) ?_
        refine lv_aload_n hx hb dX7_pullOf_66 rfl (lv_at hl 0 rfl) ?_
        refine va_get (D := D) (ci := 2) (v := .int tu_5) (C := RX2) (T := TX2) (N := 3) hx hb hts hi_X7_pullOf_2 hown hK (zPu_P (hZ.kept hS) huu_5) 0 rfl rfl 2 (by decide) (hts (.fieldLink RX7 110 "TheLiningsInIt$Pull" "takes" "I") (List.mem_of_getElem? (i := 4) rfl)) (fun _ h9 => h9) rfl dX7_pullOf_67 ?_
        exact W.iret (v := tu_5) hx hb hr (fun t ht hW => ⟨⟨tu_5, fr, rfl, trivial, zRet ht hP hD [0, 1, 2, 3] (by decide) rfl⟩, hS.F ht⟩) hS.2.2 dX7_pullOf_70
      · have kc3 : (3 : Int32).toInt = 3 := by decide
        refine lv_tableIn (tgt := 71) hx hb dX7_pullOf_20 (by decide) (by decide) rfl (by decide) ?_
        refine lv_aload_n hx hb dX7_pullOf_71 rfl (lv_at hl 0 rfl) ?_
        refine zc_V (As := []) (rest := []) ⟨hx, hb, hml, hown, hts⟩ (c_Pull_step l D cI cJ cZ cP cS po u_5 (kiu_5) (au_5) (tu_5) huu_5 ⟨by omega, by omega, by omega, by omega⟩) (cwV 0 hts gX7_pullOf_X2_step rfl rfl rfl ⟨rfl, dh_X2_step⟩ ⟨Nat.le_of_ble_eq_true rfl, Nat.le_of_ble_eq_true rfl⟩) hK hN (hZ.kept hS) hP zP_nil (va_recv (q := (RX2, TX2, 3)) hK (zPu_P (hZ.kept hS) huu_5) (ci := 2) (q0 := 0) rfl rfl) rfl hl.1 rfl (Nat.le_of_ble_eq_true rfl) dX7_pullOf_72 ⟨Nat.le_of_ble_eq_true rfl, Nat.le_of_ble_eq_true rfl⟩ (fun r_15 hr_15 => ?_)
        obtain ⟨g_16, g_17⟩ := hr_15
        exact W.iret (v := r_15) hx hb hr (fun t ht hW => ⟨⟨r_15, fr, rfl, trivial, zRet ht hP hD [0, 1, 2, 3] (by decide) rfl⟩, hS.F ht⟩) hS.2.2 dX7_pullOf_75
      · have kc4 : (4 : Int32).toInt = 4 := by decide
        refine lv_tableIn (tgt := 76) hx hb dX7_pullOf_20 (by decide) (by decide) rfl (by decide) ?_
        refine lv_aload_n hx hb dX7_pullOf_76 rfl (lv_at hl 1 rfl) ?_
        refine va_get (D := D) (ci := 7) (v := .ref j0) (C := RX7) (T := TX7) (N := 9) hx hb hts hi_X7_pullOf_7 hown hK hP 0 rfl rfl 1 (by decide) (hts (.fieldLink RX7 18 "TheLiningsInIt" "now" "LTheLiningsInIt$Jacket;") (List.mem_of_getElem? (i := 1) rfl)) (fun _ h9 => h9) rfl dX7_pullOf_77 ?_
        refine lv_aload_n hx hb dX7_pullOf_80 rfl (lv_at hl 0 rfl) ?_
        refine zc_V (As := [.ref u_5]) (rest := []) ⟨hx, hb, hml, hown, hts⟩ (c_J_mayBe l D cI cJ cZ cP cS po j0 jp jc z0 0 0 (cn) (de) (tr) (se) (hu) (sd) u_5 (kiu_5) (au_5) (tu_5) huu_5 ⟨by omega, by omega, by omega, by omega⟩ hy4 hy5 hy6 hy7 hy8 hy9) (cwV 1 hts gX7_pullOf_X0_mayBe rfl rfl rfl ⟨rfl, dh_X0_mayBe⟩ ⟨Nat.le_of_ble_eq_true rfl, Nat.le_of_ble_eq_true rfl⟩) hK hN (hZ.kept hS) hP (hP.sub [2] rfl) (va_recv (q := (RX0, TX0, 9)) hK hP (ci := 0) (q0 := 2) rfl rfl) rfl hl.1 rfl (Nat.le_of_ble_eq_true rfl) dX7_pullOf_81 ⟨Nat.le_of_ble_eq_true rfl, Nat.le_of_ble_eq_true rfl⟩ (fun r_18 hr_18 => ?_)
        rcases hr_18 with ⟨rfl, g_19⟩ | ⟨rfl, g_20, g_21⟩ | ⟨rfl, g_22, g_23⟩
        · refine lv_if_eq (tgt := 91) hx hb dX7_pullOf_84 (by decide) (fun c_24 => ?_) (fun c_24 => ?_)
          · refine lv_iconst (v := 0) hx hb dX7_pullOf_91 (by decide) ?_
            exact W.iret (v := 0) hx hb hr (fun t ht hW => ⟨⟨0, fr, rfl, trivial, zRet ht hP hD [0, 1, 2, 3] (by decide) rfl⟩, hS.F ht⟩) hS.2.2 dX7_pullOf_92
          · exact absurd c_24 (by decide)
        · refine lv_if_eq (tgt := 91) hx hb dX7_pullOf_84 (by decide) (fun c_25 => ?_) (fun c_25 => ?_)
          · refine lv_iconst (v := 0) hx hb dX7_pullOf_91 (by decide) ?_
            exact W.iret (v := 0) hx hb hr (fun t ht hW => ⟨⟨0, fr, rfl, trivial, zRet ht hP hD [0, 1, 2, 3] (by decide) rfl⟩, hS.F ht⟩) hS.2.2 dX7_pullOf_92
          · exact absurd c_25 (by decide)
        · refine lv_if_eq (tgt := 91) hx hb dX7_pullOf_84 (by decide) (fun c_26 => ?_) (fun c_26 => ?_)
          · exact absurd c_26 (by decide)
          · refine lv_iconst (v := 1) hx hb dX7_pullOf_87 (by decide) ?_
            refine lv_goto (tgt := 92) hx hb dX7_pullOf_88 (by decide) ?_
            exact W.iret (v := 1) hx hb hr (fun t ht hW => ⟨⟨1, fr, rfl, trivial, zRet ht hP hD [0, 1, 2, 3] (by decide) rfl⟩, hS.F ht⟩) hS.2.2 dX7_pullOf_92
theorem hi_X7_teeth_7 : ∀ w ∈ u_ws RX7 TX7 9, w ∈ wsX7_teeth := fun w h => (gl_X7_teeth_X70 w h).1
theorem gl_X7_teeth_X00 : GoodIn wsX7_teeth wsX00 := (dg_t (dg_t (dg_t (dg_t (dg_t (dg_t (dg_t (dg_t (dg_t (dg_t (dg_t (dg_t (dg_t (dg_t (dg_t (dg_t (dg_t (dg_t (dg_t (dg_t (dg_t (dg_t (dg_l (dg_r gw_wsX00))))))))))))))))))))))))
theorem hi_X7_teeth_0 : ∀ w ∈ u_ws RX0 TX0 9, w ∈ wsX7_teeth := fun w h => (gl_X7_teeth_X00 w h).1
theorem hi_X7_teeth_6 : ∀ w ∈ u_ws RX6 TX6 5, w ∈ wsX7_teeth := fun w h => (gl_X7_teeth_X60 w h).1
theorem hi_X7_lack_7 : ∀ w ∈ u_ws RX7 TX7 9, w ∈ wsX7_lack := fun w h => (gl_X7_lack_X70 w h).1
theorem gl_X7_lack_X00 : GoodIn wsX7_lack wsX00 := (dg_t (dg_t (dg_t (dg_t (dg_t (dg_t (dg_t (dg_t (dg_t (dg_t (dg_t (dg_t (dg_t (dg_t (dg_t (dg_t (dg_t (dg_t (dg_t (dg_l (dg_r gw_wsX00)))))))))))))))))))))
theorem hi_X7_lack_0 : ∀ w ∈ u_ws RX0 TX0 9, w ∈ wsX7_lack := fun w h => (gl_X7_lack_X00 w h).1
theorem hi_X7_lack_6 : ∀ w ∈ u_ws RX6 TX6 5, w ∈ wsX7_lack := fun w h => (gl_X7_lack_X60 w h).1
theorem hi_X7_slack_7 : ∀ w ∈ u_ws RX7 TX7 9, w ∈ wsX7_slack := fun w h => (gl_X7_slack_X70 w h).1
theorem gl_X7_slack_X00 : GoodIn wsX7_slack wsX00 := (dg_t (dg_t (dg_t (dg_t (dg_t (dg_t (dg_t (dg_t (dg_t (dg_t (dg_t (dg_t (dg_t (dg_t (dg_t (dg_t (dg_t (dg_t (dg_t (dg_l (dg_r gw_wsX00)))))))))))))))))))))
theorem hi_X7_slack_0 : ∀ w ∈ u_ws RX0 TX0 9, w ∈ wsX7_slack := fun w h => (gl_X7_slack_X00 w h).1
theorem hi_X7_slack_6 : ∀ w ∈ u_ws RX6 TX6 5, w ∈ wsX7_slack := fun w h => (gl_X7_slack_X60 w h).1
theorem hi_X7_ask_7 : ∀ w ∈ u_ws RX7 TX7 9, w ∈ wsX7_ask := fun w h => (gl_X7_ask_X70 w h).1
theorem hi_X7_jacket_7 : ∀ w ∈ u_ws RX7 TX7 9, w ∈ wsX7_jacket := fun w h => (gl_X7_jacket_X70 w h).1
theorem hi_X7_jacket_0 : ∀ w ∈ u_ws RX0 TX0 9, w ∈ wsX7_jacket := fun w h => (gl_X7_jacket_X00 w h).1
theorem hi_X7_jacket_6 : ∀ w ∈ u_ws RX6 TX6 5, w ∈ wsX7_jacket := fun w h => (gl_X7_jacket_X60 w h).1
theorem hi_X7_jacket_3 : ∀ w ∈ u_ws RX3 TX3 8, w ∈ wsX7_jacket := fun w h => (gl_X7_jacket_X30 w h).1
theorem gl_X7_fault_X70 : GoodIn wsX7_fault wsX70 := (dg_t (dg_t gw_wsX70))
theorem hi_X7_fault_7 : ∀ w ∈ u_ws RX7 TX7 9, w ∈ wsX7_fault := fun w h => (gl_X7_fault_X70 w h).1
theorem hi_X7_frees_7 : ∀ w ∈ u_ws RX7 TX7 9, w ∈ wsX7_frees := fun w h => (gl_X7_frees_X70 w h).1
theorem hi_X7_frees_0 : ∀ w ∈ u_ws RX0 TX0 9, w ∈ wsX7_frees := fun w h => (gl_X7_frees_X00 w h).1
end
section
theorem hi_X7_cases_7 : ∀ w ∈ u_ws RX7 TX7 9, w ∈ wsX7_cases := fun w h => (gl_X7_cases_X70 w h).1
theorem hi_X7_cases_0 : ∀ w ∈ u_ws RX0 TX0 9, w ∈ wsX7_cases := fun w h => (gl_X7_cases_X00 w h).1
set_option maxHeartbeats 4000000 in
set_option maxRecDepth 100000 in
theorem c_X_cases (l : Launch) (D : va_G) (cI cJ cZ cP cS : ClassId) (po : zPool) (x0 xs j0 k0 w0 rd mv xr : Nat) (im lf : Int32) (fr : Nat → Int32) (j0 jp jc z0 zl zs : Nat) (cn de tr se hu sd : Int32) (wk wl wc wp : Nat) (wn wh wg : Int32) (fq : Nat → Option Nat) (fk fl fc fjc : Nat → Int32) (fp : Nat → Option Nat) (kf af tf : Nat → Int32) (n w : Int32) (hy0 : 0 ≤ im.toInt) (hy1 : im.toInt ≤ 1) (hy2 : (-1) ≤ lf.toInt) (hy3 : lf.toInt ≤ 160) (hy4 : 0 ≤ cn.toInt) (hy5 : cn.toInt ≤ 8) (hy6 : 0 ≤ de.toInt) (hy7 : de.toInt ≤ 24) (hy8 : 0 ≤ hu.toInt) (hy9 : hu.toInt ≤ 9) (hy10 : 0 ≤ wn.toInt) (hy11 : wn.toInt ≤ 8) (hy12 : 0 ≤ wh.toInt) (hy13 : wh.toInt ≤ 9) (hy14 : 0 ≤ wg.toInt) (hy15 : wg.toInt ≤ 60) (hwq : zWP po fq) (hjp : zJP po fp cn kf af tf) (hp_fc : zRg fc (0) 99) (hp_fjc : zRg fjc (0) 99) (hpz : Nat) : Met l yX7_cases wsX7_cases ({ frames := 10, cells := 0, slots := 0, locals := 264 }) (va_Pc [.ref x0, .int n, .int w] (zW D (zKT cI cJ cZ cP cS) po [(x0, .inr (7, [.ref xs, .ref j0, .ref k0, .ref w0, .ref rd, .ref mv, .ref xr, .int im, .int lf])), (xr, .inl (cI, 8, .inl fr)), (j0, .inr (0, [.ref z0, .ref jp, .ref jc, .int cn, .int de, .int tr, .int se, .int hu, .int sd])), (w0, .inr (5, [.ref wk, .ref wl, .ref wc, .ref wp, .int wn, .int wh, .int wg])), (wk, .inl (cI, 125, .inl fk)), (wl, .inl (cI, 125, .inl fl)), (wc, .inl (cI, 3, .inl fc)), (wp, .inl (cP, 8, .inr (.inr (.inr (.inr fq))))), (jp, .inl (cP, 8, .inr (.inr (.inr (.inr fp))))), (jc, .inl (cI, 3, .inl fjc))] hpz)) (va_Qi (fun (r : Int32) (u : (Int32) × (Int32) × (Int32) × (Nat → Int32) × (Nat → Int32) × (Nat → Int32) × (Nat → Option Nat) × (Nat → Int32)) => (0 ≤ u.1.toInt ∧ u.1.toInt ≤ 8) ∧ (0 ≤ u.2.1.toInt ∧ u.2.1.toInt ≤ 9) ∧ (0 ≤ u.2.2.1.toInt ∧ u.2.2.1.toInt ≤ 60) ∧ zRg u.2.2.2.2.2.1 (0) 99 ∧ zWP po u.2.2.2.2.2.2.1 ∧ (True)) (zB D [(x0, .inr (7, [.ref xs, .ref j0, .ref k0, .ref w0, .ref rd, .ref mv, .ref xr, .int im, .int lf])), (xr, .inl (cI, 8, .inl fr)), (j0, .inr (0, [.ref z0, .ref jp, .ref jc, .int cn, .int de, .int tr, .int se, .int hu, .int sd])), (w0, .inr (5, [.ref wk, .ref wl, .ref wc, .ref wp, .int wn, .int wh, .int wg])), (wk, .inl (cI, 125, .inl fk)), (wl, .inl (cI, 125, .inl fl)), (wc, .inl (cI, 3, .inl fc)), (wp, .inl (cP, 8, .inr (.inr (.inr (.inr fq))))), (jp, .inl (cP, 8, .inr (.inr (.inr (.inr fp))))), (jc, .inl (cI, 3, .inl fjc))] hpz (fun (u : (Int32) × (Int32) × (Int32) × (Nat → Int32) × (Nat → Int32) × (Nat → Int32) × (Nat → Option Nat) × (Nat → Int32)) => [(x0, .inr (7, [.ref xs, .ref j0, .ref k0, .ref w0, .ref rd, .ref mv, .ref xr, .int im, .int lf])), (xr, .inl (cI, 8, .inl u.2.2.2.2.2.2.2)), (j0, .inr (0, [.ref z0, .ref jp, .ref jc, .int cn, .int de, .int tr, .int se, .int hu, .int sd])), (w0, .inr (5, [.ref wk, .ref wl, .ref wc, .ref wp, .int u.1, .int u.2.1, .int u.2.2.1])), (wk, .inl (cI, 125, .inl u.2.2.2.1)), (wl, .inl (cI, 125, .inl u.2.2.2.2.1)), (wc, .inl (cI, 3, .inl u.2.2.2.2.2.1)), (wp, .inl (cP, 8, .inr (.inr (.inr (.inr u.2.2.2.2.2.2.1))))), (jp, .inl (cP, 8, .inr (.inr (.inr (.inr fp))))), (jc, .inl (cI, 3, .inl fjc))])) (va_A [(x0, .inr (7, [.ref xs, .ref j0, .ref k0, .ref w0, .ref rd, .ref mv, .ref xr, .int im, .int lf])), (xr, .inl (cI, 8, .inl fr)), (j0, .inr (0, [.ref z0, .ref jp, .ref jc, .int cn, .int de, .int tr, .int se, .int hu, .int sd])), (w0, .inr (5, [.ref wk, .ref wl, .ref wc, .ref wp, .int wn, .int wh, .int wg])), (wk, .inl (cI, 125, .inl fk)), (wl, .inl (cI, 125, .inl fl)), (wc, .inl (cI, 3, .inl fc)), (wp, .inl (cP, 8, .inr (.inr (.inr (.inr fq))))), (jp, .inl (cP, 8, .inr (.inr (.inr (.inr fp))))), (jc, .inl (cI, 3, .inl fjc))] hpz)) 0 0 (va_A [(x0, .inr (7, [.ref xs, .ref j0, .ref k0, .ref w0, .ref rd, .ref mv, .ref xr, .int im, .int lf])), (xr, .inl (cI, 8, .inl fr)), (j0, .inr (0, [.ref z0, .ref jp, .ref jc, .int cn, .int de, .int tr, .int se, .int hu, .int sd])), (w0, .inr (5, [.ref wk, .ref wl, .ref wc, .ref wp, .int wn, .int wh, .int wg])), (wk, .inl (cI, 125, .inl fk)), (wl, .inl (cI, 125, .inl fl)), (wc, .inl (cI, 3, .inl fc)), (wp, .inl (cP, 8, .inr (.inr (.inr (.inr fq))))), (jp, .inl (cP, 8, .inr (.inr (.inr (.inr fp))))), (jc, .inl (cI, 3, .inl fjc))] hpz) := by
  refine Met.ofW (cc := cX7_cases) (maxL := 3) (ret := (some .int)) (by decide) rfl ?_
  intro p e s m args below meth c s₁ B hml hv
  obtain ⟨rfl, hsz, hP, hK, hD0, hN, hZ⟩ := hv
  have hx := B.exec
  have hb := B.bytes
  have hr := B.returns
  have hts := atoms_spec (ws := wsX7_cases) B.pre
  have hown : s.vm.findClass RX7 = some m.cls := findClass_of_methodNamed B.named
  have hlocks := B.notSynchronized
  subst hsz
  have hD := hD0.self (sz := s.heap.size)
  have hA := zA_of hD
  have hl := lv_entry ([.ref x0, .int n, .int w]) (n := 3) (Nat.le_of_ble_eq_true rfl)
  rw [lg_entry_eq]
  generalize (lg_sl ([.ref x0, .int n, .int w]) ++ List.replicate (3 - (lg_sl ([.ref x0, .int n, .int w])).length) Slot.unset).toArray = ls at hl ⊢
  replace hl : lv_has ls 3 [(0, .ref x0), (1, .int n), (2, .int w)] := hl
  refine zw_begin hP hD (fun H locs hP1 hS => ?_)
  clear hP
  have hP := hP1
  clear hP1
  refine lv_iload_n hx hb dX7_cases_0 rfl (lv_at hl 2 rfl) ?_
  refine lv_iconst (v := 0) hx hb dX7_cases_1 (by decide) ?_
  refine lv_iconst (v := 2) hx hb dX7_cases_2 (by decide) ?_
  have kc0 : (0 : Int32).toInt = 0 := by decide
  have kc2 : (2 : Int32).toInt = 2 := by decide
  refine zc_S (As := [.int w, .int 0, .int 2]) (rest := []) ⟨hx, hb, hml, hown, hts⟩ (c_within l D cI cJ cZ cP cS po (w) (0) (2) ) (va_cwS 3 hts gX7_cases_X7_within rfl rfl rfl dh_X7_within ⟨Nat.le_of_ble_eq_true rfl, Nat.le_of_ble_eq_true rfl⟩) hK hN (hZ.kept hS) rfl hl.1 rfl (Nat.le_of_ble_eq_true rfl) dX7_cases_3 ⟨Nat.le_of_ble_eq_true rfl, Nat.le_of_ble_eq_true rfl⟩ (fun r_1 hr_1 => ?_)
  rcases hr_1 with ⟨rfl, g_2⟩ | ⟨rfl, g_3, g_4⟩ | ⟨rfl, g_5, g_6⟩
  · refine lv_if_ne (tgt := 15) hx hb dX7_cases_6 (by decide) (fun c_7 => ?_) (fun c_7 => ?_)
    · exact absurd c_7 (by decide)
    · refine lv_aload_n hx hb dX7_cases_9 rfl (lv_at hl 0 rfl) ?_
      refine lv_iconst (v := 5) hx hb dX7_cases_10 (by decide) ?_
      skip
      refine zw_V (As := [.int 5]) (rest := []) (wr := [(j0, .inr (0, [.ref z0, .ref jp, .ref jc, .int cn, .int de, .int tr, .int se, .int hu, .int sd])), (w0, .inr (5, [.ref wk, .ref wl, .ref wc, .ref wp, .int wn, .int wh, .int wg])), (wk, .inl (cI, 125, .inl fk)), (wl, .inl (cI, 125, .inl fl)), (wc, .inl (cI, 3, .inl fc)), (wp, .inl (cP, 8, .inr (.inr (.inr (.inr fq))))), (jp, .inl (cP, 8, .inr (.inr (.inr (.inr fp))))), (jc, .inl (cI, 3, .inl fjc))]) ⟨hx, hb, hml, hown, hts⟩ (c_X_refuseLower_5 l D cI cJ cZ cP cS po x0 xs j0 k0 w0 rd mv xr (im) (lf) fr hy0 hy1 hy2 hy3 H.size) (cwV 1 hts gX7_cases_X7_refuseLower rfl rfl rfl ⟨rfl, dh_X7_refuseLower⟩ ⟨Nat.le_of_ble_eq_true rfl, Nat.le_of_ble_eq_true rfl⟩) hK hN (hZ.kept hS) hP hD hS hA [0, 1] [2, 3, 4, 5, 6, 7, 8, 9] rfl rfl (by decide) (by decide) (by decide) (va_recv (q := (RX7, TX7, 9)) hK hP (ci := 7) (q0 := 0) rfl rfl) rfl hl.1 rfl (Nat.le_of_ble_eq_true rfl) dX7_cases_11 ⟨Nat.le_of_ble_eq_true rfl, Nat.le_of_ble_eq_true rfl⟩ (fun r_8 u_9 H locs hr_8 hP hD hS => ?_)
      obtain ⟨q_10, rfl⟩ : ∃ z, z = u_9 := ⟨_, rfl⟩
      have h9R := zRe (ws' := [(j0, .inr (0, [.ref z0, .ref jp, .ref jc, .int cn, .int de, .int tr, .int se, .int hu, .int sd])), (w0, .inr (5, [.ref wk, .ref wl, .ref wc, .ref wp, .int wn, .int wh, .int wg])), (wk, .inl (cI, 125, .inl fk)), (wl, .inl (cI, 125, .inl fl)), (wc, .inl (cI, 3, .inl fc)), (wp, .inl (cP, 8, .inr (.inr (.inr (.inr fq))))), (jp, .inl (cP, 8, .inr (.inr (.inr (.inr fp))))), (jc, .inl (cI, 3, .inl fjc)), (x0, .inr (7, [.ref xs, .ref j0, .ref k0, .ref w0, .ref rd, .ref mv, .ref xr, .int im, .int lf])), (xr, .inl (cI, 8, .inl q_10))]) hP hD rfl
      clear hP hD
      obtain ⟨hP, hD⟩ := h9R
      obtain rfl := hr_8
      exact W.iret (v := (-15)) hx hb hr (fun t ht hW => ⟨⟨(-15), (wn, wh, wg, fk, fl, fc, fq, q_10), rfl, ⟨(show 0 ≤ wn.toInt ∧ wn.toInt ≤ 8 from ⟨hy10, hy11⟩), (show 0 ≤ wh.toInt ∧ wh.toInt ≤ 9 from ⟨hy12, hy13⟩), (show 0 ≤ wg.toInt ∧ wg.toInt ≤ 60 from ⟨hy14, hy15⟩), hp_fc, hwq, trivial⟩, zRet ht hP hD [8, 9, 0, 1, 2, 3, 4, 5, 6, 7] (by decide) rfl⟩, hS.F ht⟩) hS.2.2 dX7_cases_14
  · refine lv_if_ne (tgt := 15) hx hb dX7_cases_6 (by decide) (fun c_11 => ?_) (fun c_11 => ?_)
    · exact absurd c_11 (by decide)
    · refine lv_aload_n hx hb dX7_cases_9 rfl (lv_at hl 0 rfl) ?_
      refine lv_iconst (v := 5) hx hb dX7_cases_10 (by decide) ?_
      skip
      refine zw_V (As := [.int 5]) (rest := []) (wr := [(j0, .inr (0, [.ref z0, .ref jp, .ref jc, .int cn, .int de, .int tr, .int se, .int hu, .int sd])), (w0, .inr (5, [.ref wk, .ref wl, .ref wc, .ref wp, .int wn, .int wh, .int wg])), (wk, .inl (cI, 125, .inl fk)), (wl, .inl (cI, 125, .inl fl)), (wc, .inl (cI, 3, .inl fc)), (wp, .inl (cP, 8, .inr (.inr (.inr (.inr fq))))), (jp, .inl (cP, 8, .inr (.inr (.inr (.inr fp))))), (jc, .inl (cI, 3, .inl fjc))]) ⟨hx, hb, hml, hown, hts⟩ (c_X_refuseLower_5 l D cI cJ cZ cP cS po x0 xs j0 k0 w0 rd mv xr (im) (lf) fr hy0 hy1 hy2 hy3 H.size) (cwV 1 hts gX7_cases_X7_refuseLower rfl rfl rfl ⟨rfl, dh_X7_refuseLower⟩ ⟨Nat.le_of_ble_eq_true rfl, Nat.le_of_ble_eq_true rfl⟩) hK hN (hZ.kept hS) hP hD hS hA [0, 1] [2, 3, 4, 5, 6, 7, 8, 9] rfl rfl (by decide) (by decide) (by decide) (va_recv (q := (RX7, TX7, 9)) hK hP (ci := 7) (q0 := 0) rfl rfl) rfl hl.1 rfl (Nat.le_of_ble_eq_true rfl) dX7_cases_11 ⟨Nat.le_of_ble_eq_true rfl, Nat.le_of_ble_eq_true rfl⟩ (fun r_12 u_13 H locs hr_12 hP hD hS => ?_)
      obtain ⟨q_14, rfl⟩ : ∃ z, z = u_13 := ⟨_, rfl⟩
      have h9R := zRe (ws' := [(j0, .inr (0, [.ref z0, .ref jp, .ref jc, .int cn, .int de, .int tr, .int se, .int hu, .int sd])), (w0, .inr (5, [.ref wk, .ref wl, .ref wc, .ref wp, .int wn, .int wh, .int wg])), (wk, .inl (cI, 125, .inl fk)), (wl, .inl (cI, 125, .inl fl)), (wc, .inl (cI, 3, .inl fc)), (wp, .inl (cP, 8, .inr (.inr (.inr (.inr fq))))), (jp, .inl (cP, 8, .inr (.inr (.inr (.inr fp))))), (jc, .inl (cI, 3, .inl fjc)), (x0, .inr (7, [.ref xs, .ref j0, .ref k0, .ref w0, .ref rd, .ref mv, .ref xr, .int im, .int lf])), (xr, .inl (cI, 8, .inl q_14))]) hP hD rfl
      clear hP hD
      obtain ⟨hP, hD⟩ := h9R
      obtain rfl := hr_12
      exact W.iret (v := (-15)) hx hb hr (fun t ht hW => ⟨⟨(-15), (wn, wh, wg, fk, fl, fc, fq, q_14), rfl, ⟨(show 0 ≤ wn.toInt ∧ wn.toInt ≤ 8 from ⟨hy10, hy11⟩), (show 0 ≤ wh.toInt ∧ wh.toInt ≤ 9 from ⟨hy12, hy13⟩), (show 0 ≤ wg.toInt ∧ wg.toInt ≤ 60 from ⟨hy14, hy15⟩), hp_fc, hwq, trivial⟩, zRet ht hP hD [8, 9, 0, 1, 2, 3, 4, 5, 6, 7] (by decide) rfl⟩, hS.F ht⟩) hS.2.2 dX7_cases_14
  · refine lv_if_ne (tgt := 15) hx hb dX7_cases_6 (by decide) (fun c_15 => ?_) (fun c_15 => ?_)
    · refine lv_iload_n hx hb dX7_cases_15 rfl (lv_at hl 1 rfl) ?_
      refine lv_iconst (v := 0) hx hb dX7_cases_16 (by decide) ?_
      refine lv_iconst (v := 4) hx hb dX7_cases_17 (by decide) ?_
      have kc4 : (4 : Int32).toInt = 4 := by decide
      refine zc_S (As := [.int n, .int 0, .int 4]) (rest := []) ⟨hx, hb, hml, hown, hts⟩ (c_within l D cI cJ cZ cP cS po (n) (0) (4) ) (va_cwS 3 hts gX7_cases_X7_within rfl rfl rfl dh_X7_within ⟨Nat.le_of_ble_eq_true rfl, Nat.le_of_ble_eq_true rfl⟩) hK hN (hZ.kept hS) rfl hl.1 rfl (Nat.le_of_ble_eq_true rfl) dX7_cases_18 ⟨Nat.le_of_ble_eq_true rfl, Nat.le_of_ble_eq_true rfl⟩ (fun r_16 hr_16 => ?_)
      rcases hr_16 with ⟨rfl, g_17⟩ | ⟨rfl, g_18, g_19⟩ | ⟨rfl, g_20, g_21⟩
      · refine lv_if_ne (tgt := 31) hx hb dX7_cases_21 (by decide) (fun c_22 => ?_) (fun c_22 => ?_)
        · exact absurd c_22 (by decide)
        · refine lv_aload_n hx hb dX7_cases_24 rfl (lv_at hl 0 rfl) ?_
          refine lv_bipush (v := 6) hx hb dX7_cases_25 (by decide) ?_
          skip
          refine zw_V (As := [.int 6]) (rest := []) (wr := [(j0, .inr (0, [.ref z0, .ref jp, .ref jc, .int cn, .int de, .int tr, .int se, .int hu, .int sd])), (w0, .inr (5, [.ref wk, .ref wl, .ref wc, .ref wp, .int wn, .int wh, .int wg])), (wk, .inl (cI, 125, .inl fk)), (wl, .inl (cI, 125, .inl fl)), (wc, .inl (cI, 3, .inl fc)), (wp, .inl (cP, 8, .inr (.inr (.inr (.inr fq))))), (jp, .inl (cP, 8, .inr (.inr (.inr (.inr fp))))), (jc, .inl (cI, 3, .inl fjc))]) ⟨hx, hb, hml, hown, hts⟩ (c_X_refuseLower_6 l D cI cJ cZ cP cS po x0 xs j0 k0 w0 rd mv xr (im) (lf) fr hy0 hy1 hy2 hy3 H.size) (cwV 1 hts gX7_cases_X7_refuseLower rfl rfl rfl ⟨rfl, dh_X7_refuseLower⟩ ⟨Nat.le_of_ble_eq_true rfl, Nat.le_of_ble_eq_true rfl⟩) hK hN (hZ.kept hS) hP hD hS hA [0, 1] [2, 3, 4, 5, 6, 7, 8, 9] rfl rfl (by decide) (by decide) (by decide) (va_recv (q := (RX7, TX7, 9)) hK hP (ci := 7) (q0 := 0) rfl rfl) rfl hl.1 rfl (Nat.le_of_ble_eq_true rfl) dX7_cases_27 ⟨Nat.le_of_ble_eq_true rfl, Nat.le_of_ble_eq_true rfl⟩ (fun r_23 u_24 H locs hr_23 hP hD hS => ?_)
          obtain ⟨q_25, rfl⟩ : ∃ z, z = u_24 := ⟨_, rfl⟩
          have h9R := zRe (ws' := [(j0, .inr (0, [.ref z0, .ref jp, .ref jc, .int cn, .int de, .int tr, .int se, .int hu, .int sd])), (w0, .inr (5, [.ref wk, .ref wl, .ref wc, .ref wp, .int wn, .int wh, .int wg])), (wk, .inl (cI, 125, .inl fk)), (wl, .inl (cI, 125, .inl fl)), (wc, .inl (cI, 3, .inl fc)), (wp, .inl (cP, 8, .inr (.inr (.inr (.inr fq))))), (jp, .inl (cP, 8, .inr (.inr (.inr (.inr fp))))), (jc, .inl (cI, 3, .inl fjc)), (x0, .inr (7, [.ref xs, .ref j0, .ref k0, .ref w0, .ref rd, .ref mv, .ref xr, .int im, .int lf])), (xr, .inl (cI, 8, .inl q_25))]) hP hD rfl
          clear hP hD
          obtain ⟨hP, hD⟩ := h9R
          obtain rfl := hr_23
          exact W.iret (v := (-16)) hx hb hr (fun t ht hW => ⟨⟨(-16), (wn, wh, wg, fk, fl, fc, fq, q_25), rfl, ⟨(show 0 ≤ wn.toInt ∧ wn.toInt ≤ 8 from ⟨hy10, hy11⟩), (show 0 ≤ wh.toInt ∧ wh.toInt ≤ 9 from ⟨hy12, hy13⟩), (show 0 ≤ wg.toInt ∧ wg.toInt ≤ 60 from ⟨hy14, hy15⟩), hp_fc, hwq, trivial⟩, zRet ht hP hD [8, 9, 0, 1, 2, 3, 4, 5, 6, 7] (by decide) rfl⟩, hS.F ht⟩) hS.2.2 dX7_cases_30
      · refine lv_if_ne (tgt := 31) hx hb dX7_cases_21 (by decide) (fun c_26 => ?_) (fun c_26 => ?_)
        · exact absurd c_26 (by decide)
        · refine lv_aload_n hx hb dX7_cases_24 rfl (lv_at hl 0 rfl) ?_
          refine lv_bipush (v := 6) hx hb dX7_cases_25 (by decide) ?_
          skip
          refine zw_V (As := [.int 6]) (rest := []) (wr := [(j0, .inr (0, [.ref z0, .ref jp, .ref jc, .int cn, .int de, .int tr, .int se, .int hu, .int sd])), (w0, .inr (5, [.ref wk, .ref wl, .ref wc, .ref wp, .int wn, .int wh, .int wg])), (wk, .inl (cI, 125, .inl fk)), (wl, .inl (cI, 125, .inl fl)), (wc, .inl (cI, 3, .inl fc)), (wp, .inl (cP, 8, .inr (.inr (.inr (.inr fq))))), (jp, .inl (cP, 8, .inr (.inr (.inr (.inr fp))))), (jc, .inl (cI, 3, .inl fjc))]) ⟨hx, hb, hml, hown, hts⟩ (c_X_refuseLower_6 l D cI cJ cZ cP cS po x0 xs j0 k0 w0 rd mv xr (im) (lf) fr hy0 hy1 hy2 hy3 H.size) (cwV 1 hts gX7_cases_X7_refuseLower rfl rfl rfl ⟨rfl, dh_X7_refuseLower⟩ ⟨Nat.le_of_ble_eq_true rfl, Nat.le_of_ble_eq_true rfl⟩) hK hN (hZ.kept hS) hP hD hS hA [0, 1] [2, 3, 4, 5, 6, 7, 8, 9] rfl rfl (by decide) (by decide) (by decide) (va_recv (q := (RX7, TX7, 9)) hK hP (ci := 7) (q0 := 0) rfl rfl) rfl hl.1 rfl (Nat.le_of_ble_eq_true rfl) dX7_cases_27 ⟨Nat.le_of_ble_eq_true rfl, Nat.le_of_ble_eq_true rfl⟩ (fun r_27 u_28 H locs hr_27 hP hD hS => ?_)
          obtain ⟨q_29, rfl⟩ : ∃ z, z = u_28 := ⟨_, rfl⟩
          have h9R := zRe (ws' := [(j0, .inr (0, [.ref z0, .ref jp, .ref jc, .int cn, .int de, .int tr, .int se, .int hu, .int sd])), (w0, .inr (5, [.ref wk, .ref wl, .ref wc, .ref wp, .int wn, .int wh, .int wg])), (wk, .inl (cI, 125, .inl fk)), (wl, .inl (cI, 125, .inl fl)), (wc, .inl (cI, 3, .inl fc)), (wp, .inl (cP, 8, .inr (.inr (.inr (.inr fq))))), (jp, .inl (cP, 8, .inr (.inr (.inr (.inr fp))))), (jc, .inl (cI, 3, .inl fjc)), (x0, .inr (7, [.ref xs, .ref j0, .ref k0, .ref w0, .ref rd, .ref mv, .ref xr, .int im, .int lf])), (xr, .inl (cI, 8, .inl q_29))]) hP hD rfl
          clear hP hD
          obtain ⟨hP, hD⟩ := h9R
          obtain rfl := hr_27
          exact W.iret (v := (-16)) hx hb hr (fun t ht hW => ⟨⟨(-16), (wn, wh, wg, fk, fl, fc, fq, q_29), rfl, ⟨(show 0 ≤ wn.toInt ∧ wn.toInt ≤ 8 from ⟨hy10, hy11⟩), (show 0 ≤ wh.toInt ∧ wh.toInt ≤ 9 from ⟨hy12, hy13⟩), (show 0 ≤ wg.toInt ∧ wg.toInt ≤ 60 from ⟨hy14, hy15⟩), hp_fc, hwq, trivial⟩, zRet ht hP hD [8, 9, 0, 1, 2, 3, 4, 5, 6, 7] (by decide) rfl⟩, hS.F ht⟩) hS.2.2 dX7_cases_30
      · refine lv_if_ne (tgt := 31) hx hb dX7_cases_21 (by decide) (fun c_30 => ?_) (fun c_30 => ?_)
        · have hsp : n = 0 ∨ n = 1 ∨ n = 2 ∨ n = 3 ∨ n = 4 := by
            rcases (show n.toInt = 0 ∨ n.toInt = 1 ∨ n.toInt = 2 ∨ n.toInt = 3 ∨ n.toInt = 4 by omega) with h9 | h9 | h9 | h9 | h9
            · refine Or.inl ?_; exact zf_val h9 (by decide)
            · refine Or.inr (Or.inl ?_); exact zf_val h9 (by decide)
            · refine Or.inr (Or.inr (Or.inl ?_)); exact zf_val h9 (by decide)
            · refine Or.inr (Or.inr (Or.inr (Or.inl ?_))); exact zf_val h9 (by decide)
            · refine Or.inr (Or.inr (Or.inr (Or.inr (?_)))); exact zf_val h9 (by decide)
          rcases hsp with rfl | rfl | rfl | rfl | rfl
          · refine lv_aload_n hx hb dX7_cases_31 rfl (lv_at hl 0 rfl) ?_
            refine va_get (D := D) (ci := 7) (v := .ref w0) (C := RX7) (T := TX7) (N := 9) hx hb hts hi_X7_cases_7 hown hK hP 0 rfl rfl 3 (by decide) (hts (.fieldLink RX7 28 "TheLiningsInIt" "ways" "LTheLiningsInIt$Ways;") (List.mem_of_getElem? (i := 1) rfl)) (fun _ h9 => h9) rfl dX7_cases_32 ?_
            refine lv_aload_n hx hb dX7_cases_35 rfl (lv_at hl 0 rfl) ?_
            refine va_get (D := D) (ci := 7) (v := .ref j0) (C := RX7) (T := TX7) (N := 9) hx hb hts hi_X7_cases_7 hown hK hP 0 rfl rfl 1 (by decide) (hts (.fieldLink RX7 18 "TheLiningsInIt" "now" "LTheLiningsInIt$Jacket;") (List.mem_of_getElem? (i := 2) rfl)) (fun _ h9 => h9) rfl dX7_cases_36 ?_
            refine lv_aload_n hx hb dX7_cases_39 rfl (lv_at hl 0 rfl) ?_
            refine va_get (D := D) (ci := 7) (v := .ref j0) (C := RX7) (T := TX7) (N := 9) hx hb hts hi_X7_cases_7 hown hK hP 0 rfl rfl 1 (by decide) (hts (.fieldLink RX7 18 "TheLiningsInIt" "now" "LTheLiningsInIt$Jacket;") (List.mem_of_getElem? (i := 2) rfl)) (fun _ h9 => h9) rfl dX7_cases_40 ?_
            refine va_get (D := D) (ci := 0) (v := .int hu) (C := RX0) (T := TX0) (N := 9) hx hb hts hi_X7_cases_0 hown hK hP 2 rfl rfl 7 (by decide) (hts (.fieldLink RX7 116 "TheLiningsInIt$Jacket" "hurry" "I") (List.mem_of_getElem? (i := 3) rfl)) (fun _ h9 => h9) rfl dX7_cases_43 ?_
            refine lv_iload_n hx hb dX7_cases_46 rfl (lv_at hl 2 rfl) ?_
            refine lv_iconst (v := 2) hx hb dX7_cases_47 (by decide) ?_
            refine lv_icmp_eq (tgt := 55) hx hb dX7_cases_48 (by decide) (fun c_31 => ?_) (fun c_31 => ?_)
            · have fc_31 : w.toInt = 2 := zf_eq c_31 rfl (by decide)
              refine lv_iconst (v := 0) hx hb dX7_cases_55 (by decide) ?_
              skip
              refine zw_Vv (As := [.ref j0, .int hu, .int 0]) (rest := []) (wr := [(x0, .inr (7, [.ref xs, .ref j0, .ref k0, .ref w0, .ref rd, .ref mv, .ref xr, .int im, .int lf])), (xr, .inl (cI, 8, .inl fr))]) ⟨hx, hb, hml, hown, hts⟩ (c_W_look l D cI cJ cZ cP cS po w0 wk wl wc wp (wn) (wh) (wg) j0 jp jc z0 0 0 (cn) (de) (tr) (se) (hu) (sd) fp fq kf af tf fk fl fc fjc (hu) (0) hy10 hy11 hy12 hy13 hy14 hy15 hy4 hy5 hy6 hy7 hy8 hy9 hy8 hy9 hwq hjp hp_fc hp_fjc H.size) (cwV 3 hts gX7_cases_X5_look rfl rfl rfl ⟨rfl, dh_X5_look⟩ ⟨Nat.le_of_ble_eq_true rfl, Nat.le_of_ble_eq_true rfl⟩) hK hN (hZ.kept hS) hP hD hS hA [3, 4, 5, 6, 7, 2, 8, 9] [0, 1] rfl rfl (by decide) (by decide) (by decide) (va_recv (q := (RX5, TX5, 7)) hK hP (ci := 5) (q0 := 3) rfl rfl) rfl hl.1 rfl (Nat.le_of_ble_eq_true rfl) dX7_cases_56 ⟨Nat.le_of_ble_eq_true rfl, Nat.le_of_ble_eq_true rfl⟩ (fun u_33 H locs hr_32 hP hD hS => ?_)
              obtain ⟨q_34, q_35, q_36, q_37, q_38, q_39, q_40⟩ := u_33
              try dsimp only at hr_32
              obtain ⟨hbq_34, hbq_35, hbq_36, hpq_39, hwq_40, hr_32⟩ := hr_32
              have h9R := zRe (ws' := [(x0, .inr (7, [.ref xs, .ref j0, .ref k0, .ref w0, .ref rd, .ref mv, .ref xr, .int im, .int lf])), (xr, .inl (cI, 8, .inl fr)), (w0, .inr (5, [.ref wk, .ref wl, .ref wc, .ref wp, .int q_34, .int q_35, .int q_36])), (wk, .inl (cI, 125, .inl q_37)), (wl, .inl (cI, 125, .inl q_38)), (wc, .inl (cI, 3, .inl q_39)), (wp, .inl (cP, 8, .inr (.inr (.inr (.inr q_40))))), (j0, .inr (0, [.ref z0, .ref jp, .ref jc, .int cn, .int de, .int tr, .int se, .int hu, .int sd])), (jp, .inl (cP, 8, .inr (.inr (.inr (.inr fp))))), (jc, .inl (cI, 3, .inl fjc))]) hP hD rfl
              clear hP hD
              obtain ⟨hP, hD⟩ := h9R
              refine lv_iload_n hx hb dX7_cases_59 rfl (lv_at hl 2 rfl) ?_
              refine lv_iconst (v := 1) hx hb dX7_cases_60 (by decide) ?_
              refine lv_icmp_ne (tgt := 87) hx hb dX7_cases_61 (by decide) (fun c_41 => ?_) (fun c_41 => ?_)
              · have fc_41 : w.toInt ≠ 1 := zf_ne c_41 rfl (by decide)
                refine lv_aload_n hx hb dX7_cases_87 rfl (lv_at hl 0 rfl) ?_
                refine va_get (D := D) (ci := 7) (v := .ref w0) (C := RX7) (T := TX7) (N := 9) hx hb hts hi_X7_cases_7 hown hK hP 0 rfl rfl 3 (by decide) (hts (.fieldLink RX7 28 "TheLiningsInIt" "ways" "LTheLiningsInIt$Ways;") (List.mem_of_getElem? (i := 1) rfl)) (fun _ h9 => h9) rfl dX7_cases_88 ?_
                refine lv_iload_n hx hb dX7_cases_91 rfl (lv_at hl 1 rfl) ?_
                refine lv_aload_n hx hb dX7_cases_92 rfl (lv_at hl 0 rfl) ?_
                refine va_get (D := D) (ci := 7) (v := .ref j0) (C := RX7) (T := TX7) (N := 9) hx hb hts hi_X7_cases_7 hown hK hP 0 rfl rfl 1 (by decide) (hts (.fieldLink RX7 18 "TheLiningsInIt" "now" "LTheLiningsInIt$Jacket;") (List.mem_of_getElem? (i := 2) rfl)) (fun _ h9 => h9) rfl dX7_cases_93 ?_
                refine va_get (D := D) (ci := 0) (v := .int de) (C := RX0) (T := TX0) (N := 9) hx hb hts hi_X7_cases_0 hown hK hP 7 rfl rfl 4 (by decide) (hts (.fieldLink RX7 199 "TheLiningsInIt$Jacket" "depth" "I") (List.mem_of_getElem? (i := 4) rfl)) (fun _ h9 => h9) rfl dX7_cases_96 ?_
                refine lv_aload_n hx hb dX7_cases_99 rfl (lv_at hl 0 rfl) ?_
                refine va_get (D := D) (ci := 7) (v := .ref j0) (C := RX7) (T := TX7) (N := 9) hx hb hts hi_X7_cases_7 hown hK hP 0 rfl rfl 1 (by decide) (hts (.fieldLink RX7 18 "TheLiningsInIt" "now" "LTheLiningsInIt$Jacket;") (List.mem_of_getElem? (i := 2) rfl)) (fun _ h9 => h9) rfl dX7_cases_100 ?_
                refine va_get (D := D) (ci := 0) (v := .int se) (C := RX0) (T := TX0) (N := 9) hx hb hts hi_X7_cases_0 hown hK hP 7 rfl rfl 6 (by decide) (hts (.fieldLink RX7 202 "TheLiningsInIt$Jacket" "seconds" "I") (List.mem_of_getElem? (i := 5) rfl)) (fun _ h9 => h9) rfl dX7_cases_103 ?_
                skip
                refine zw_VN (As := [.int 0, .int de, .int se]) (rest := []) (wr := [(x0, .inr (7, [.ref xs, .ref j0, .ref k0, .ref w0, .ref rd, .ref mv, .ref xr, .int im, .int lf])), (xr, .inl (cI, 8, .inl fr)), (wl, .inl (cI, 125, .inl q_38)), (wc, .inl (cI, 3, .inl q_39)), (j0, .inr (0, [.ref z0, .ref jp, .ref jc, .int cn, .int de, .int tr, .int se, .int hu, .int sd])), (jp, .inl (cP, 8, .inr (.inr (.inr (.inr fp))))), (jc, .inl (cI, 3, .inl fjc))]) ⟨hx, hb, hml, hown, hts⟩ (c_W_most_0 l D cI cJ cZ cP cS po w0 wk wl wc wp (q_34) (q_35) (q_36) q_40 q_37 (de) (se) hbq_34.1 hbq_34.2 hbq_35.1 hbq_35.2 hbq_36.1 hbq_36.2 hwq_40 hy6 hy7 H.size) ⟨(va_cnB 3 hts gX7_cases_X5_most_n208 rfl rfl rfl (hN.1 (RX7, 208, yX5_most) (List.mem_of_getElem? (i := 10) rfl)) (hts _ (List.mem_of_getElem? (i := 22) rfl)) dh_X5_most ⟨Nat.le_of_ble_eq_true rfl, Nat.le_of_ble_eq_true rfl⟩), (hts _ (List.mem_of_getElem? (i := 95) rfl)), (hts _ (List.mem_of_getElem? (i := 96) rfl))⟩ hK hN (hZ.kept hS) hP hD hS hA [2, 3, 6] [0, 1, 4, 5, 7, 8, 9] rfl rfl (by decide) (by decide) (by decide) (va_recv (q := (RX5, TX5, 7)) hK hP (ci := 5) (q0 := 2) rfl rfl) rfl hl.1 rfl (Nat.le_of_ble_eq_true rfl) dX7_cases_106 ⟨Nat.le_of_ble_eq_true rfl, Nat.le_of_ble_eq_true rfl⟩ (fun r_42 u_43 H locs hr_42 hP hD hS => ?_)
                obtain ⟨q_44, rfl⟩ : ∃ z, z = u_43 := ⟨_, rfl⟩
                have h9R := zRe (ws' := [(x0, .inr (7, [.ref xs, .ref j0, .ref k0, .ref w0, .ref rd, .ref mv, .ref xr, .int im, .int lf])), (xr, .inl (cI, 8, .inl fr)), (wl, .inl (cI, 125, .inl q_38)), (wc, .inl (cI, 3, .inl q_39)), (j0, .inr (0, [.ref z0, .ref jp, .ref jc, .int cn, .int de, .int tr, .int se, .int hu, .int sd])), (jp, .inl (cP, 8, .inr (.inr (.inr (.inr fp))))), (jc, .inl (cI, 3, .inl fjc)), (w0, .inr (5, [.ref wk, .ref wl, .ref wc, .ref wp, .int q_34, .int q_35, .int q_36])), (wk, .inl (cI, 125, .inl q_44)), (wp, .inl (cP, 8, .inr (.inr (.inr (.inr q_40)))))]) hP hD rfl
                clear hP hD
                obtain ⟨hP, hD⟩ := h9R
                exact W.iret (v := r_42) hx hb hr (fun t ht hW => ⟨⟨r_42, (q_34, q_35, q_36, q_44, q_38, q_39, q_40, fr), rfl, ⟨(show 0 ≤ q_34.toInt ∧ q_34.toInt ≤ 8 from hbq_34), (show 0 ≤ q_35.toInt ∧ q_35.toInt ≤ 9 from hbq_35), (show 0 ≤ q_36.toInt ∧ q_36.toInt ≤ 60 from hbq_36), hpq_39, hwq_40, trivial⟩, zRet ht hP hD [0, 1, 4, 7, 8, 2, 3, 9, 5, 6] (by decide) rfl⟩, hS.F ht⟩) hS.2.2 dX7_cases_109
              · exfalso; have fc_41 : w.toInt = 1 := zf_eq c_41 rfl (by decide); omega
            · have fc_31 : w.toInt ≠ 2 := zf_ne c_31 rfl (by decide)
              refine lv_iconst (v := 1) hx hb dX7_cases_51 (by decide) ?_
              refine lv_goto (tgt := 56) hx hb dX7_cases_52 (by decide) ?_
              skip
              refine zw_Vv (As := [.ref j0, .int hu, .int 1]) (rest := []) (wr := [(x0, .inr (7, [.ref xs, .ref j0, .ref k0, .ref w0, .ref rd, .ref mv, .ref xr, .int im, .int lf])), (xr, .inl (cI, 8, .inl fr))]) ⟨hx, hb, hml, hown, hts⟩ (c_W_look l D cI cJ cZ cP cS po w0 wk wl wc wp (wn) (wh) (wg) j0 jp jc z0 0 0 (cn) (de) (tr) (se) (hu) (sd) fp fq kf af tf fk fl fc fjc (hu) (1) hy10 hy11 hy12 hy13 hy14 hy15 hy4 hy5 hy6 hy7 hy8 hy9 hy8 hy9 hwq hjp hp_fc hp_fjc H.size) (cwV 3 hts gX7_cases_X5_look rfl rfl rfl ⟨rfl, dh_X5_look⟩ ⟨Nat.le_of_ble_eq_true rfl, Nat.le_of_ble_eq_true rfl⟩) hK hN (hZ.kept hS) hP hD hS hA [3, 4, 5, 6, 7, 2, 8, 9] [0, 1] rfl rfl (by decide) (by decide) (by decide) (va_recv (q := (RX5, TX5, 7)) hK hP (ci := 5) (q0 := 3) rfl rfl) rfl hl.1 rfl (Nat.le_of_ble_eq_true rfl) dX7_cases_56 ⟨Nat.le_of_ble_eq_true rfl, Nat.le_of_ble_eq_true rfl⟩ (fun u_46 H locs hr_45 hP hD hS => ?_)
              obtain ⟨q_47, q_48, q_49, q_50, q_51, q_52, q_53⟩ := u_46
              try dsimp only at hr_45
              obtain ⟨hbq_47, hbq_48, hbq_49, hpq_52, hwq_53, hr_45⟩ := hr_45
              have h9R := zRe (ws' := [(x0, .inr (7, [.ref xs, .ref j0, .ref k0, .ref w0, .ref rd, .ref mv, .ref xr, .int im, .int lf])), (xr, .inl (cI, 8, .inl fr)), (w0, .inr (5, [.ref wk, .ref wl, .ref wc, .ref wp, .int q_47, .int q_48, .int q_49])), (wk, .inl (cI, 125, .inl q_50)), (wl, .inl (cI, 125, .inl q_51)), (wc, .inl (cI, 3, .inl q_52)), (wp, .inl (cP, 8, .inr (.inr (.inr (.inr q_53))))), (j0, .inr (0, [.ref z0, .ref jp, .ref jc, .int cn, .int de, .int tr, .int se, .int hu, .int sd])), (jp, .inl (cP, 8, .inr (.inr (.inr (.inr fp))))), (jc, .inl (cI, 3, .inl fjc))]) hP hD rfl
              clear hP hD
              obtain ⟨hP, hD⟩ := h9R
              refine lv_iload_n hx hb dX7_cases_59 rfl (lv_at hl 2 rfl) ?_
              refine lv_iconst (v := 1) hx hb dX7_cases_60 (by decide) ?_
              refine lv_icmp_ne (tgt := 87) hx hb dX7_cases_61 (by decide) (fun c_54 => ?_) (fun c_54 => ?_)
              · have fc_54 : w.toInt ≠ 1 := zf_ne c_54 rfl (by decide)
                refine lv_aload_n hx hb dX7_cases_87 rfl (lv_at hl 0 rfl) ?_
                refine va_get (D := D) (ci := 7) (v := .ref w0) (C := RX7) (T := TX7) (N := 9) hx hb hts hi_X7_cases_7 hown hK hP 0 rfl rfl 3 (by decide) (hts (.fieldLink RX7 28 "TheLiningsInIt" "ways" "LTheLiningsInIt$Ways;") (List.mem_of_getElem? (i := 1) rfl)) (fun _ h9 => h9) rfl dX7_cases_88 ?_
                refine lv_iload_n hx hb dX7_cases_91 rfl (lv_at hl 1 rfl) ?_
                refine lv_aload_n hx hb dX7_cases_92 rfl (lv_at hl 0 rfl) ?_
                refine va_get (D := D) (ci := 7) (v := .ref j0) (C := RX7) (T := TX7) (N := 9) hx hb hts hi_X7_cases_7 hown hK hP 0 rfl rfl 1 (by decide) (hts (.fieldLink RX7 18 "TheLiningsInIt" "now" "LTheLiningsInIt$Jacket;") (List.mem_of_getElem? (i := 2) rfl)) (fun _ h9 => h9) rfl dX7_cases_93 ?_
                refine va_get (D := D) (ci := 0) (v := .int de) (C := RX0) (T := TX0) (N := 9) hx hb hts hi_X7_cases_0 hown hK hP 7 rfl rfl 4 (by decide) (hts (.fieldLink RX7 199 "TheLiningsInIt$Jacket" "depth" "I") (List.mem_of_getElem? (i := 4) rfl)) (fun _ h9 => h9) rfl dX7_cases_96 ?_
                refine lv_aload_n hx hb dX7_cases_99 rfl (lv_at hl 0 rfl) ?_
                refine va_get (D := D) (ci := 7) (v := .ref j0) (C := RX7) (T := TX7) (N := 9) hx hb hts hi_X7_cases_7 hown hK hP 0 rfl rfl 1 (by decide) (hts (.fieldLink RX7 18 "TheLiningsInIt" "now" "LTheLiningsInIt$Jacket;") (List.mem_of_getElem? (i := 2) rfl)) (fun _ h9 => h9) rfl dX7_cases_100 ?_
                refine va_get (D := D) (ci := 0) (v := .int se) (C := RX0) (T := TX0) (N := 9) hx hb hts hi_X7_cases_0 hown hK hP 7 rfl rfl 6 (by decide) (hts (.fieldLink RX7 202 "TheLiningsInIt$Jacket" "seconds" "I") (List.mem_of_getElem? (i := 5) rfl)) (fun _ h9 => h9) rfl dX7_cases_103 ?_
                skip
                refine zw_VN (As := [.int 0, .int de, .int se]) (rest := []) (wr := [(x0, .inr (7, [.ref xs, .ref j0, .ref k0, .ref w0, .ref rd, .ref mv, .ref xr, .int im, .int lf])), (xr, .inl (cI, 8, .inl fr)), (wl, .inl (cI, 125, .inl q_51)), (wc, .inl (cI, 3, .inl q_52)), (j0, .inr (0, [.ref z0, .ref jp, .ref jc, .int cn, .int de, .int tr, .int se, .int hu, .int sd])), (jp, .inl (cP, 8, .inr (.inr (.inr (.inr fp))))), (jc, .inl (cI, 3, .inl fjc))]) ⟨hx, hb, hml, hown, hts⟩ (c_W_most_0 l D cI cJ cZ cP cS po w0 wk wl wc wp (q_47) (q_48) (q_49) q_53 q_50 (de) (se) hbq_47.1 hbq_47.2 hbq_48.1 hbq_48.2 hbq_49.1 hbq_49.2 hwq_53 hy6 hy7 H.size) ⟨(va_cnB 3 hts gX7_cases_X5_most_n208 rfl rfl rfl (hN.1 (RX7, 208, yX5_most) (List.mem_of_getElem? (i := 10) rfl)) (hts _ (List.mem_of_getElem? (i := 22) rfl)) dh_X5_most ⟨Nat.le_of_ble_eq_true rfl, Nat.le_of_ble_eq_true rfl⟩), (hts _ (List.mem_of_getElem? (i := 95) rfl)), (hts _ (List.mem_of_getElem? (i := 96) rfl))⟩ hK hN (hZ.kept hS) hP hD hS hA [2, 3, 6] [0, 1, 4, 5, 7, 8, 9] rfl rfl (by decide) (by decide) (by decide) (va_recv (q := (RX5, TX5, 7)) hK hP (ci := 5) (q0 := 2) rfl rfl) rfl hl.1 rfl (Nat.le_of_ble_eq_true rfl) dX7_cases_106 ⟨Nat.le_of_ble_eq_true rfl, Nat.le_of_ble_eq_true rfl⟩ (fun r_55 u_56 H locs hr_55 hP hD hS => ?_)
                obtain ⟨q_57, rfl⟩ : ∃ z, z = u_56 := ⟨_, rfl⟩
                have h9R := zRe (ws' := [(x0, .inr (7, [.ref xs, .ref j0, .ref k0, .ref w0, .ref rd, .ref mv, .ref xr, .int im, .int lf])), (xr, .inl (cI, 8, .inl fr)), (wl, .inl (cI, 125, .inl q_51)), (wc, .inl (cI, 3, .inl q_52)), (j0, .inr (0, [.ref z0, .ref jp, .ref jc, .int cn, .int de, .int tr, .int se, .int hu, .int sd])), (jp, .inl (cP, 8, .inr (.inr (.inr (.inr fp))))), (jc, .inl (cI, 3, .inl fjc)), (w0, .inr (5, [.ref wk, .ref wl, .ref wc, .ref wp, .int q_47, .int q_48, .int q_49])), (wk, .inl (cI, 125, .inl q_57)), (wp, .inl (cP, 8, .inr (.inr (.inr (.inr q_53)))))]) hP hD rfl
                clear hP hD
                obtain ⟨hP, hD⟩ := h9R
                exact W.iret (v := r_55) hx hb hr (fun t ht hW => ⟨⟨r_55, (q_47, q_48, q_49, q_57, q_51, q_52, q_53, fr), rfl, ⟨(show 0 ≤ q_47.toInt ∧ q_47.toInt ≤ 8 from hbq_47), (show 0 ≤ q_48.toInt ∧ q_48.toInt ≤ 9 from hbq_48), (show 0 ≤ q_49.toInt ∧ q_49.toInt ≤ 60 from hbq_49), hpq_52, hwq_53, trivial⟩, zRet ht hP hD [0, 1, 4, 7, 8, 2, 3, 9, 5, 6] (by decide) rfl⟩, hS.F ht⟩) hS.2.2 dX7_cases_109
              · have fc_54 : w.toInt = 1 := zf_eq c_54 rfl (by decide)
                refine lv_aload_n hx hb dX7_cases_64 rfl (lv_at hl 0 rfl) ?_
                refine va_get (D := D) (ci := 7) (v := .ref w0) (C := RX7) (T := TX7) (N := 9) hx hb hts hi_X7_cases_7 hown hK hP 0 rfl rfl 3 (by decide) (hts (.fieldLink RX7 28 "TheLiningsInIt" "ways" "LTheLiningsInIt$Ways;") (List.mem_of_getElem? (i := 1) rfl)) (fun _ h9 => h9) rfl dX7_cases_65 ?_
                refine lv_iload_n hx hb dX7_cases_68 rfl (lv_at hl 1 rfl) ?_
                refine lv_aload_n hx hb dX7_cases_69 rfl (lv_at hl 0 rfl) ?_
                refine va_get (D := D) (ci := 7) (v := .ref j0) (C := RX7) (T := TX7) (N := 9) hx hb hts hi_X7_cases_7 hown hK hP 0 rfl rfl 1 (by decide) (hts (.fieldLink RX7 18 "TheLiningsInIt" "now" "LTheLiningsInIt$Jacket;") (List.mem_of_getElem? (i := 2) rfl)) (fun _ h9 => h9) rfl dX7_cases_70 ?_
                refine va_get (D := D) (ci := 0) (v := .int de) (C := RX0) (T := TX0) (N := 9) hx hb hts hi_X7_cases_0 hown hK hP 7 rfl rfl 4 (by decide) (hts (.fieldLink RX7 199 "TheLiningsInIt$Jacket" "depth" "I") (List.mem_of_getElem? (i := 4) rfl)) (fun _ h9 => h9) rfl dX7_cases_73 ?_
                refine lv_aload_n hx hb dX7_cases_76 rfl (lv_at hl 0 rfl) ?_
                refine va_get (D := D) (ci := 7) (v := .ref j0) (C := RX7) (T := TX7) (N := 9) hx hb hts hi_X7_cases_7 hown hK hP 0 rfl rfl 1 (by decide) (hts (.fieldLink RX7 18 "TheLiningsInIt" "now" "LTheLiningsInIt$Jacket;") (List.mem_of_getElem? (i := 2) rfl)) (fun _ h9 => h9) rfl dX7_cases_77 ?_
                refine va_get (D := D) (ci := 0) (v := .int se) (C := RX0) (T := TX0) (N := 9) hx hb hts hi_X7_cases_0 hown hK hP 7 rfl rfl 6 (by decide) (hts (.fieldLink RX7 202 "TheLiningsInIt$Jacket" "seconds" "I") (List.mem_of_getElem? (i := 5) rfl)) (fun _ h9 => h9) rfl dX7_cases_80 ?_
                skip
                refine zw_V (As := [.int 0, .int de, .int se]) (rest := []) (wr := [(x0, .inr (7, [.ref xs, .ref j0, .ref k0, .ref w0, .ref rd, .ref mv, .ref xr, .int im, .int lf])), (xr, .inl (cI, 8, .inl fr)), (wl, .inl (cI, 125, .inl q_51)), (wc, .inl (cI, 3, .inl q_52)), (j0, .inr (0, [.ref z0, .ref jp, .ref jc, .int cn, .int de, .int tr, .int se, .int hu, .int sd])), (jp, .inl (cP, 8, .inr (.inr (.inr (.inr fp))))), (jc, .inl (cI, 3, .inl fjc))]) ⟨hx, hb, hml, hown, hts⟩ (c_W_next_0 l D cI cJ cZ cP cS po w0 wk wl wc wp (q_47) (q_48) (q_49) q_53 q_50 (de) (se) hbq_47.1 hbq_47.2 hbq_48.1 hbq_48.2 hbq_49.1 hbq_49.2 hwq_53 hy6 hy7 H.size) (cwV 3 hts gX7_cases_X5_next rfl rfl rfl ⟨rfl, dh_X5_next⟩ ⟨Nat.le_of_ble_eq_true rfl, Nat.le_of_ble_eq_true rfl⟩) hK hN (hZ.kept hS) hP hD hS hA [2, 3, 6] [0, 1, 4, 5, 7, 8, 9] rfl rfl (by decide) (by decide) (by decide) (va_recv (q := (RX5, TX5, 7)) hK hP (ci := 5) (q0 := 2) rfl rfl) rfl hl.1 rfl (Nat.le_of_ble_eq_true rfl) dX7_cases_83 ⟨Nat.le_of_ble_eq_true rfl, Nat.le_of_ble_eq_true rfl⟩ (fun r_58 u_59 H locs hr_58 hP hD hS => ?_)
                obtain ⟨q_60, rfl⟩ : ∃ z, z = u_59 := ⟨_, rfl⟩
                have h9R := zRe (ws' := [(x0, .inr (7, [.ref xs, .ref j0, .ref k0, .ref w0, .ref rd, .ref mv, .ref xr, .int im, .int lf])), (xr, .inl (cI, 8, .inl fr)), (wl, .inl (cI, 125, .inl q_51)), (wc, .inl (cI, 3, .inl q_52)), (j0, .inr (0, [.ref z0, .ref jp, .ref jc, .int cn, .int de, .int tr, .int se, .int hu, .int sd])), (jp, .inl (cP, 8, .inr (.inr (.inr (.inr fp))))), (jc, .inl (cI, 3, .inl fjc)), (w0, .inr (5, [.ref wk, .ref wl, .ref wc, .ref wp, .int q_47, .int q_48, .int q_49])), (wk, .inl (cI, 125, .inl q_60)), (wp, .inl (cP, 8, .inr (.inr (.inr (.inr q_53)))))]) hP hD rfl
                clear hP hD
                obtain ⟨hP, hD⟩ := h9R
                exact W.iret (v := r_58) hx hb hr (fun t ht hW => ⟨⟨r_58, (q_47, q_48, q_49, q_60, q_51, q_52, q_53, fr), rfl, ⟨(show 0 ≤ q_47.toInt ∧ q_47.toInt ≤ 8 from hbq_47), (show 0 ≤ q_48.toInt ∧ q_48.toInt ≤ 9 from hbq_48), (show 0 ≤ q_49.toInt ∧ q_49.toInt ≤ 60 from hbq_49), hpq_52, hwq_53, trivial⟩, zRet ht hP hD [0, 1, 4, 7, 8, 2, 3, 9, 5, 6] (by decide) rfl⟩, hS.F ht⟩) hS.2.2 dX7_cases_86
          · refine lv_aload_n hx hb dX7_cases_31 rfl (lv_at hl 0 rfl) ?_
            refine va_get (D := D) (ci := 7) (v := .ref w0) (C := RX7) (T := TX7) (N := 9) hx hb hts hi_X7_cases_7 hown hK hP 0 rfl rfl 3 (by decide) (hts (.fieldLink RX7 28 "TheLiningsInIt" "ways" "LTheLiningsInIt$Ways;") (List.mem_of_getElem? (i := 1) rfl)) (fun _ h9 => h9) rfl dX7_cases_32 ?_
            refine lv_aload_n hx hb dX7_cases_35 rfl (lv_at hl 0 rfl) ?_
            refine va_get (D := D) (ci := 7) (v := .ref j0) (C := RX7) (T := TX7) (N := 9) hx hb hts hi_X7_cases_7 hown hK hP 0 rfl rfl 1 (by decide) (hts (.fieldLink RX7 18 "TheLiningsInIt" "now" "LTheLiningsInIt$Jacket;") (List.mem_of_getElem? (i := 2) rfl)) (fun _ h9 => h9) rfl dX7_cases_36 ?_
            refine lv_aload_n hx hb dX7_cases_39 rfl (lv_at hl 0 rfl) ?_
            refine va_get (D := D) (ci := 7) (v := .ref j0) (C := RX7) (T := TX7) (N := 9) hx hb hts hi_X7_cases_7 hown hK hP 0 rfl rfl 1 (by decide) (hts (.fieldLink RX7 18 "TheLiningsInIt" "now" "LTheLiningsInIt$Jacket;") (List.mem_of_getElem? (i := 2) rfl)) (fun _ h9 => h9) rfl dX7_cases_40 ?_
            refine va_get (D := D) (ci := 0) (v := .int hu) (C := RX0) (T := TX0) (N := 9) hx hb hts hi_X7_cases_0 hown hK hP 2 rfl rfl 7 (by decide) (hts (.fieldLink RX7 116 "TheLiningsInIt$Jacket" "hurry" "I") (List.mem_of_getElem? (i := 3) rfl)) (fun _ h9 => h9) rfl dX7_cases_43 ?_
            refine lv_iload_n hx hb dX7_cases_46 rfl (lv_at hl 2 rfl) ?_
            refine lv_iconst (v := 2) hx hb dX7_cases_47 (by decide) ?_
            refine lv_icmp_eq (tgt := 55) hx hb dX7_cases_48 (by decide) (fun c_61 => ?_) (fun c_61 => ?_)
            · have fc_61 : w.toInt = 2 := zf_eq c_61 rfl (by decide)
              refine lv_iconst (v := 0) hx hb dX7_cases_55 (by decide) ?_
              skip
              refine zw_Vv (As := [.ref j0, .int hu, .int 0]) (rest := []) (wr := [(x0, .inr (7, [.ref xs, .ref j0, .ref k0, .ref w0, .ref rd, .ref mv, .ref xr, .int im, .int lf])), (xr, .inl (cI, 8, .inl fr))]) ⟨hx, hb, hml, hown, hts⟩ (c_W_look l D cI cJ cZ cP cS po w0 wk wl wc wp (wn) (wh) (wg) j0 jp jc z0 0 0 (cn) (de) (tr) (se) (hu) (sd) fp fq kf af tf fk fl fc fjc (hu) (0) hy10 hy11 hy12 hy13 hy14 hy15 hy4 hy5 hy6 hy7 hy8 hy9 hy8 hy9 hwq hjp hp_fc hp_fjc H.size) (cwV 3 hts gX7_cases_X5_look rfl rfl rfl ⟨rfl, dh_X5_look⟩ ⟨Nat.le_of_ble_eq_true rfl, Nat.le_of_ble_eq_true rfl⟩) hK hN (hZ.kept hS) hP hD hS hA [3, 4, 5, 6, 7, 2, 8, 9] [0, 1] rfl rfl (by decide) (by decide) (by decide) (va_recv (q := (RX5, TX5, 7)) hK hP (ci := 5) (q0 := 3) rfl rfl) rfl hl.1 rfl (Nat.le_of_ble_eq_true rfl) dX7_cases_56 ⟨Nat.le_of_ble_eq_true rfl, Nat.le_of_ble_eq_true rfl⟩ (fun u_63 H locs hr_62 hP hD hS => ?_)
              obtain ⟨q_64, q_65, q_66, q_67, q_68, q_69, q_70⟩ := u_63
              try dsimp only at hr_62
              obtain ⟨hbq_64, hbq_65, hbq_66, hpq_69, hwq_70, hr_62⟩ := hr_62
              have h9R := zRe (ws' := [(x0, .inr (7, [.ref xs, .ref j0, .ref k0, .ref w0, .ref rd, .ref mv, .ref xr, .int im, .int lf])), (xr, .inl (cI, 8, .inl fr)), (w0, .inr (5, [.ref wk, .ref wl, .ref wc, .ref wp, .int q_64, .int q_65, .int q_66])), (wk, .inl (cI, 125, .inl q_67)), (wl, .inl (cI, 125, .inl q_68)), (wc, .inl (cI, 3, .inl q_69)), (wp, .inl (cP, 8, .inr (.inr (.inr (.inr q_70))))), (j0, .inr (0, [.ref z0, .ref jp, .ref jc, .int cn, .int de, .int tr, .int se, .int hu, .int sd])), (jp, .inl (cP, 8, .inr (.inr (.inr (.inr fp))))), (jc, .inl (cI, 3, .inl fjc))]) hP hD rfl
              clear hP hD
              obtain ⟨hP, hD⟩ := h9R
              refine lv_iload_n hx hb dX7_cases_59 rfl (lv_at hl 2 rfl) ?_
              refine lv_iconst (v := 1) hx hb dX7_cases_60 (by decide) ?_
              refine lv_icmp_ne (tgt := 87) hx hb dX7_cases_61 (by decide) (fun c_71 => ?_) (fun c_71 => ?_)
              · have fc_71 : w.toInt ≠ 1 := zf_ne c_71 rfl (by decide)
                refine lv_aload_n hx hb dX7_cases_87 rfl (lv_at hl 0 rfl) ?_
                refine va_get (D := D) (ci := 7) (v := .ref w0) (C := RX7) (T := TX7) (N := 9) hx hb hts hi_X7_cases_7 hown hK hP 0 rfl rfl 3 (by decide) (hts (.fieldLink RX7 28 "TheLiningsInIt" "ways" "LTheLiningsInIt$Ways;") (List.mem_of_getElem? (i := 1) rfl)) (fun _ h9 => h9) rfl dX7_cases_88 ?_
                refine lv_iload_n hx hb dX7_cases_91 rfl (lv_at hl 1 rfl) ?_
                refine lv_aload_n hx hb dX7_cases_92 rfl (lv_at hl 0 rfl) ?_
                refine va_get (D := D) (ci := 7) (v := .ref j0) (C := RX7) (T := TX7) (N := 9) hx hb hts hi_X7_cases_7 hown hK hP 0 rfl rfl 1 (by decide) (hts (.fieldLink RX7 18 "TheLiningsInIt" "now" "LTheLiningsInIt$Jacket;") (List.mem_of_getElem? (i := 2) rfl)) (fun _ h9 => h9) rfl dX7_cases_93 ?_
                refine va_get (D := D) (ci := 0) (v := .int de) (C := RX0) (T := TX0) (N := 9) hx hb hts hi_X7_cases_0 hown hK hP 7 rfl rfl 4 (by decide) (hts (.fieldLink RX7 199 "TheLiningsInIt$Jacket" "depth" "I") (List.mem_of_getElem? (i := 4) rfl)) (fun _ h9 => h9) rfl dX7_cases_96 ?_
                refine lv_aload_n hx hb dX7_cases_99 rfl (lv_at hl 0 rfl) ?_
                refine va_get (D := D) (ci := 7) (v := .ref j0) (C := RX7) (T := TX7) (N := 9) hx hb hts hi_X7_cases_7 hown hK hP 0 rfl rfl 1 (by decide) (hts (.fieldLink RX7 18 "TheLiningsInIt" "now" "LTheLiningsInIt$Jacket;") (List.mem_of_getElem? (i := 2) rfl)) (fun _ h9 => h9) rfl dX7_cases_100 ?_
                refine va_get (D := D) (ci := 0) (v := .int se) (C := RX0) (T := TX0) (N := 9) hx hb hts hi_X7_cases_0 hown hK hP 7 rfl rfl 6 (by decide) (hts (.fieldLink RX7 202 "TheLiningsInIt$Jacket" "seconds" "I") (List.mem_of_getElem? (i := 5) rfl)) (fun _ h9 => h9) rfl dX7_cases_103 ?_
                skip
                refine zw_VN (As := [.int 1, .int de, .int se]) (rest := []) (wr := [(x0, .inr (7, [.ref xs, .ref j0, .ref k0, .ref w0, .ref rd, .ref mv, .ref xr, .int im, .int lf])), (xr, .inl (cI, 8, .inl fr)), (wl, .inl (cI, 125, .inl q_68)), (wc, .inl (cI, 3, .inl q_69)), (j0, .inr (0, [.ref z0, .ref jp, .ref jc, .int cn, .int de, .int tr, .int se, .int hu, .int sd])), (jp, .inl (cP, 8, .inr (.inr (.inr (.inr fp))))), (jc, .inl (cI, 3, .inl fjc))]) ⟨hx, hb, hml, hown, hts⟩ (c_W_most_1 l D cI cJ cZ cP cS po w0 wk wl wc wp (q_64) (q_65) (q_66) q_70 q_67 (de) (se) hbq_64.1 hbq_64.2 hbq_65.1 hbq_65.2 hbq_66.1 hbq_66.2 hwq_70 hy6 hy7 H.size) ⟨(va_cnB 3 hts gX7_cases_X5_most_n208 rfl rfl rfl (hN.1 (RX7, 208, yX5_most) (List.mem_of_getElem? (i := 10) rfl)) (hts _ (List.mem_of_getElem? (i := 22) rfl)) dh_X5_most ⟨Nat.le_of_ble_eq_true rfl, Nat.le_of_ble_eq_true rfl⟩), (hts _ (List.mem_of_getElem? (i := 95) rfl)), (hts _ (List.mem_of_getElem? (i := 96) rfl))⟩ hK hN (hZ.kept hS) hP hD hS hA [2, 3, 6] [0, 1, 4, 5, 7, 8, 9] rfl rfl (by decide) (by decide) (by decide) (va_recv (q := (RX5, TX5, 7)) hK hP (ci := 5) (q0 := 2) rfl rfl) rfl hl.1 rfl (Nat.le_of_ble_eq_true rfl) dX7_cases_106 ⟨Nat.le_of_ble_eq_true rfl, Nat.le_of_ble_eq_true rfl⟩ (fun r_72 u_73 H locs hr_72 hP hD hS => ?_)
                obtain ⟨q_74, rfl⟩ : ∃ z, z = u_73 := ⟨_, rfl⟩
                have h9R := zRe (ws' := [(x0, .inr (7, [.ref xs, .ref j0, .ref k0, .ref w0, .ref rd, .ref mv, .ref xr, .int im, .int lf])), (xr, .inl (cI, 8, .inl fr)), (wl, .inl (cI, 125, .inl q_68)), (wc, .inl (cI, 3, .inl q_69)), (j0, .inr (0, [.ref z0, .ref jp, .ref jc, .int cn, .int de, .int tr, .int se, .int hu, .int sd])), (jp, .inl (cP, 8, .inr (.inr (.inr (.inr fp))))), (jc, .inl (cI, 3, .inl fjc)), (w0, .inr (5, [.ref wk, .ref wl, .ref wc, .ref wp, .int q_64, .int q_65, .int q_66])), (wk, .inl (cI, 125, .inl q_74)), (wp, .inl (cP, 8, .inr (.inr (.inr (.inr q_70)))))]) hP hD rfl
                clear hP hD
                obtain ⟨hP, hD⟩ := h9R
                exact W.iret (v := r_72) hx hb hr (fun t ht hW => ⟨⟨r_72, (q_64, q_65, q_66, q_74, q_68, q_69, q_70, fr), rfl, ⟨(show 0 ≤ q_64.toInt ∧ q_64.toInt ≤ 8 from hbq_64), (show 0 ≤ q_65.toInt ∧ q_65.toInt ≤ 9 from hbq_65), (show 0 ≤ q_66.toInt ∧ q_66.toInt ≤ 60 from hbq_66), hpq_69, hwq_70, trivial⟩, zRet ht hP hD [0, 1, 4, 7, 8, 2, 3, 9, 5, 6] (by decide) rfl⟩, hS.F ht⟩) hS.2.2 dX7_cases_109
              · exfalso; have fc_71 : w.toInt = 1 := zf_eq c_71 rfl (by decide); omega
            · have fc_61 : w.toInt ≠ 2 := zf_ne c_61 rfl (by decide)
              refine lv_iconst (v := 1) hx hb dX7_cases_51 (by decide) ?_
              refine lv_goto (tgt := 56) hx hb dX7_cases_52 (by decide) ?_
              skip
              refine zw_Vv (As := [.ref j0, .int hu, .int 1]) (rest := []) (wr := [(x0, .inr (7, [.ref xs, .ref j0, .ref k0, .ref w0, .ref rd, .ref mv, .ref xr, .int im, .int lf])), (xr, .inl (cI, 8, .inl fr))]) ⟨hx, hb, hml, hown, hts⟩ (c_W_look l D cI cJ cZ cP cS po w0 wk wl wc wp (wn) (wh) (wg) j0 jp jc z0 0 0 (cn) (de) (tr) (se) (hu) (sd) fp fq kf af tf fk fl fc fjc (hu) (1) hy10 hy11 hy12 hy13 hy14 hy15 hy4 hy5 hy6 hy7 hy8 hy9 hy8 hy9 hwq hjp hp_fc hp_fjc H.size) (cwV 3 hts gX7_cases_X5_look rfl rfl rfl ⟨rfl, dh_X5_look⟩ ⟨Nat.le_of_ble_eq_true rfl, Nat.le_of_ble_eq_true rfl⟩) hK hN (hZ.kept hS) hP hD hS hA [3, 4, 5, 6, 7, 2, 8, 9] [0, 1] rfl rfl (by decide) (by decide) (by decide) (va_recv (q := (RX5, TX5, 7)) hK hP (ci := 5) (q0 := 3) rfl rfl) rfl hl.1 rfl (Nat.le_of_ble_eq_true rfl) dX7_cases_56 ⟨Nat.le_of_ble_eq_true rfl, Nat.le_of_ble_eq_true rfl⟩ (fun u_76 H locs hr_75 hP hD hS => ?_)
              obtain ⟨q_77, q_78, q_79, q_80, q_81, q_82, q_83⟩ := u_76
              try dsimp only at hr_75
              obtain ⟨hbq_77, hbq_78, hbq_79, hpq_82, hwq_83, hr_75⟩ := hr_75
              have h9R := zRe (ws' := [(x0, .inr (7, [.ref xs, .ref j0, .ref k0, .ref w0, .ref rd, .ref mv, .ref xr, .int im, .int lf])), (xr, .inl (cI, 8, .inl fr)), (w0, .inr (5, [.ref wk, .ref wl, .ref wc, .ref wp, .int q_77, .int q_78, .int q_79])), (wk, .inl (cI, 125, .inl q_80)), (wl, .inl (cI, 125, .inl q_81)), (wc, .inl (cI, 3, .inl q_82)), (wp, .inl (cP, 8, .inr (.inr (.inr (.inr q_83))))), (j0, .inr (0, [.ref z0, .ref jp, .ref jc, .int cn, .int de, .int tr, .int se, .int hu, .int sd])), (jp, .inl (cP, 8, .inr (.inr (.inr (.inr fp))))), (jc, .inl (cI, 3, .inl fjc))]) hP hD rfl
              clear hP hD
              obtain ⟨hP, hD⟩ := h9R
              refine lv_iload_n hx hb dX7_cases_59 rfl (lv_at hl 2 rfl) ?_
              refine lv_iconst (v := 1) hx hb dX7_cases_60 (by decide) ?_
              refine lv_icmp_ne (tgt := 87) hx hb dX7_cases_61 (by decide) (fun c_84 => ?_) (fun c_84 => ?_)
              · have fc_84 : w.toInt ≠ 1 := zf_ne c_84 rfl (by decide)
                refine lv_aload_n hx hb dX7_cases_87 rfl (lv_at hl 0 rfl) ?_
                refine va_get (D := D) (ci := 7) (v := .ref w0) (C := RX7) (T := TX7) (N := 9) hx hb hts hi_X7_cases_7 hown hK hP 0 rfl rfl 3 (by decide) (hts (.fieldLink RX7 28 "TheLiningsInIt" "ways" "LTheLiningsInIt$Ways;") (List.mem_of_getElem? (i := 1) rfl)) (fun _ h9 => h9) rfl dX7_cases_88 ?_
                refine lv_iload_n hx hb dX7_cases_91 rfl (lv_at hl 1 rfl) ?_
                refine lv_aload_n hx hb dX7_cases_92 rfl (lv_at hl 0 rfl) ?_
                refine va_get (D := D) (ci := 7) (v := .ref j0) (C := RX7) (T := TX7) (N := 9) hx hb hts hi_X7_cases_7 hown hK hP 0 rfl rfl 1 (by decide) (hts (.fieldLink RX7 18 "TheLiningsInIt" "now" "LTheLiningsInIt$Jacket;") (List.mem_of_getElem? (i := 2) rfl)) (fun _ h9 => h9) rfl dX7_cases_93 ?_
                refine va_get (D := D) (ci := 0) (v := .int de) (C := RX0) (T := TX0) (N := 9) hx hb hts hi_X7_cases_0 hown hK hP 7 rfl rfl 4 (by decide) (hts (.fieldLink RX7 199 "TheLiningsInIt$Jacket" "depth" "I") (List.mem_of_getElem? (i := 4) rfl)) (fun _ h9 => h9) rfl dX7_cases_96 ?_
                refine lv_aload_n hx hb dX7_cases_99 rfl (lv_at hl 0 rfl) ?_
                refine va_get (D := D) (ci := 7) (v := .ref j0) (C := RX7) (T := TX7) (N := 9) hx hb hts hi_X7_cases_7 hown hK hP 0 rfl rfl 1 (by decide) (hts (.fieldLink RX7 18 "TheLiningsInIt" "now" "LTheLiningsInIt$Jacket;") (List.mem_of_getElem? (i := 2) rfl)) (fun _ h9 => h9) rfl dX7_cases_100 ?_
                refine va_get (D := D) (ci := 0) (v := .int se) (C := RX0) (T := TX0) (N := 9) hx hb hts hi_X7_cases_0 hown hK hP 7 rfl rfl 6 (by decide) (hts (.fieldLink RX7 202 "TheLiningsInIt$Jacket" "seconds" "I") (List.mem_of_getElem? (i := 5) rfl)) (fun _ h9 => h9) rfl dX7_cases_103 ?_
                skip
                refine zw_VN (As := [.int 1, .int de, .int se]) (rest := []) (wr := [(x0, .inr (7, [.ref xs, .ref j0, .ref k0, .ref w0, .ref rd, .ref mv, .ref xr, .int im, .int lf])), (xr, .inl (cI, 8, .inl fr)), (wl, .inl (cI, 125, .inl q_81)), (wc, .inl (cI, 3, .inl q_82)), (j0, .inr (0, [.ref z0, .ref jp, .ref jc, .int cn, .int de, .int tr, .int se, .int hu, .int sd])), (jp, .inl (cP, 8, .inr (.inr (.inr (.inr fp))))), (jc, .inl (cI, 3, .inl fjc))]) ⟨hx, hb, hml, hown, hts⟩ (c_W_most_1 l D cI cJ cZ cP cS po w0 wk wl wc wp (q_77) (q_78) (q_79) q_83 q_80 (de) (se) hbq_77.1 hbq_77.2 hbq_78.1 hbq_78.2 hbq_79.1 hbq_79.2 hwq_83 hy6 hy7 H.size) ⟨(va_cnB 3 hts gX7_cases_X5_most_n208 rfl rfl rfl (hN.1 (RX7, 208, yX5_most) (List.mem_of_getElem? (i := 10) rfl)) (hts _ (List.mem_of_getElem? (i := 22) rfl)) dh_X5_most ⟨Nat.le_of_ble_eq_true rfl, Nat.le_of_ble_eq_true rfl⟩), (hts _ (List.mem_of_getElem? (i := 95) rfl)), (hts _ (List.mem_of_getElem? (i := 96) rfl))⟩ hK hN (hZ.kept hS) hP hD hS hA [2, 3, 6] [0, 1, 4, 5, 7, 8, 9] rfl rfl (by decide) (by decide) (by decide) (va_recv (q := (RX5, TX5, 7)) hK hP (ci := 5) (q0 := 2) rfl rfl) rfl hl.1 rfl (Nat.le_of_ble_eq_true rfl) dX7_cases_106 ⟨Nat.le_of_ble_eq_true rfl, Nat.le_of_ble_eq_true rfl⟩ (fun r_85 u_86 H locs hr_85 hP hD hS => ?_)
                obtain ⟨q_87, rfl⟩ : ∃ z, z = u_86 := ⟨_, rfl⟩
                have h9R := zRe (ws' := [(x0, .inr (7, [.ref xs, .ref j0, .ref k0, .ref w0, .ref rd, .ref mv, .ref xr, .int im, .int lf])), (xr, .inl (cI, 8, .inl fr)), (wl, .inl (cI, 125, .inl q_81)), (wc, .inl (cI, 3, .inl q_82)), (j0, .inr (0, [.ref z0, .ref jp, .ref jc, .int cn, .int de, .int tr, .int se, .int hu, .int sd])), (jp, .inl (cP, 8, .inr (.inr (.inr (.inr fp))))), (jc, .inl (cI, 3, .inl fjc)), (w0, .inr (5, [.ref wk, .ref wl, .ref wc, .ref wp, .int q_77, .int q_78, .int q_79])), (wk, .inl (cI, 125, .inl q_87)), (wp, .inl (cP, 8, .inr (.inr (.inr (.inr q_83)))))]) hP hD rfl
                clear hP hD
                obtain ⟨hP, hD⟩ := h9R
                exact W.iret (v := r_85) hx hb hr (fun t ht hW => ⟨⟨r_85, (q_77, q_78, q_79, q_87, q_81, q_82, q_83, fr), rfl, ⟨(show 0 ≤ q_77.toInt ∧ q_77.toInt ≤ 8 from hbq_77), (show 0 ≤ q_78.toInt ∧ q_78.toInt ≤ 9 from hbq_78), (show 0 ≤ q_79.toInt ∧ q_79.toInt ≤ 60 from hbq_79), hpq_82, hwq_83, trivial⟩, zRet ht hP hD [0, 1, 4, 7, 8, 2, 3, 9, 5, 6] (by decide) rfl⟩, hS.F ht⟩) hS.2.2 dX7_cases_109
              · have fc_84 : w.toInt = 1 := zf_eq c_84 rfl (by decide)
                refine lv_aload_n hx hb dX7_cases_64 rfl (lv_at hl 0 rfl) ?_
                refine va_get (D := D) (ci := 7) (v := .ref w0) (C := RX7) (T := TX7) (N := 9) hx hb hts hi_X7_cases_7 hown hK hP 0 rfl rfl 3 (by decide) (hts (.fieldLink RX7 28 "TheLiningsInIt" "ways" "LTheLiningsInIt$Ways;") (List.mem_of_getElem? (i := 1) rfl)) (fun _ h9 => h9) rfl dX7_cases_65 ?_
                refine lv_iload_n hx hb dX7_cases_68 rfl (lv_at hl 1 rfl) ?_
                refine lv_aload_n hx hb dX7_cases_69 rfl (lv_at hl 0 rfl) ?_
                refine va_get (D := D) (ci := 7) (v := .ref j0) (C := RX7) (T := TX7) (N := 9) hx hb hts hi_X7_cases_7 hown hK hP 0 rfl rfl 1 (by decide) (hts (.fieldLink RX7 18 "TheLiningsInIt" "now" "LTheLiningsInIt$Jacket;") (List.mem_of_getElem? (i := 2) rfl)) (fun _ h9 => h9) rfl dX7_cases_70 ?_
                refine va_get (D := D) (ci := 0) (v := .int de) (C := RX0) (T := TX0) (N := 9) hx hb hts hi_X7_cases_0 hown hK hP 7 rfl rfl 4 (by decide) (hts (.fieldLink RX7 199 "TheLiningsInIt$Jacket" "depth" "I") (List.mem_of_getElem? (i := 4) rfl)) (fun _ h9 => h9) rfl dX7_cases_73 ?_
                refine lv_aload_n hx hb dX7_cases_76 rfl (lv_at hl 0 rfl) ?_
                refine va_get (D := D) (ci := 7) (v := .ref j0) (C := RX7) (T := TX7) (N := 9) hx hb hts hi_X7_cases_7 hown hK hP 0 rfl rfl 1 (by decide) (hts (.fieldLink RX7 18 "TheLiningsInIt" "now" "LTheLiningsInIt$Jacket;") (List.mem_of_getElem? (i := 2) rfl)) (fun _ h9 => h9) rfl dX7_cases_77 ?_
                refine va_get (D := D) (ci := 0) (v := .int se) (C := RX0) (T := TX0) (N := 9) hx hb hts hi_X7_cases_0 hown hK hP 7 rfl rfl 6 (by decide) (hts (.fieldLink RX7 202 "TheLiningsInIt$Jacket" "seconds" "I") (List.mem_of_getElem? (i := 5) rfl)) (fun _ h9 => h9) rfl dX7_cases_80 ?_
                skip
                refine zw_V (As := [.int 1, .int de, .int se]) (rest := []) (wr := [(x0, .inr (7, [.ref xs, .ref j0, .ref k0, .ref w0, .ref rd, .ref mv, .ref xr, .int im, .int lf])), (xr, .inl (cI, 8, .inl fr)), (wl, .inl (cI, 125, .inl q_81)), (wc, .inl (cI, 3, .inl q_82)), (j0, .inr (0, [.ref z0, .ref jp, .ref jc, .int cn, .int de, .int tr, .int se, .int hu, .int sd])), (jp, .inl (cP, 8, .inr (.inr (.inr (.inr fp))))), (jc, .inl (cI, 3, .inl fjc))]) ⟨hx, hb, hml, hown, hts⟩ (c_W_next_1 l D cI cJ cZ cP cS po w0 wk wl wc wp (q_77) (q_78) (q_79) q_83 q_80 (de) (se) hbq_77.1 hbq_77.2 hbq_78.1 hbq_78.2 hbq_79.1 hbq_79.2 hwq_83 hy6 hy7 H.size) (cwV 3 hts gX7_cases_X5_next rfl rfl rfl ⟨rfl, dh_X5_next⟩ ⟨Nat.le_of_ble_eq_true rfl, Nat.le_of_ble_eq_true rfl⟩) hK hN (hZ.kept hS) hP hD hS hA [2, 3, 6] [0, 1, 4, 5, 7, 8, 9] rfl rfl (by decide) (by decide) (by decide) (va_recv (q := (RX5, TX5, 7)) hK hP (ci := 5) (q0 := 2) rfl rfl) rfl hl.1 rfl (Nat.le_of_ble_eq_true rfl) dX7_cases_83 ⟨Nat.le_of_ble_eq_true rfl, Nat.le_of_ble_eq_true rfl⟩ (fun r_88 u_89 H locs hr_88 hP hD hS => ?_)
                obtain ⟨q_90, rfl⟩ : ∃ z, z = u_89 := ⟨_, rfl⟩
                have h9R := zRe (ws' := [(x0, .inr (7, [.ref xs, .ref j0, .ref k0, .ref w0, .ref rd, .ref mv, .ref xr, .int im, .int lf])), (xr, .inl (cI, 8, .inl fr)), (wl, .inl (cI, 125, .inl q_81)), (wc, .inl (cI, 3, .inl q_82)), (j0, .inr (0, [.ref z0, .ref jp, .ref jc, .int cn, .int de, .int tr, .int se, .int hu, .int sd])), (jp, .inl (cP, 8, .inr (.inr (.inr (.inr fp))))), (jc, .inl (cI, 3, .inl fjc)), (w0, .inr (5, [.ref wk, .ref wl, .ref wc, .ref wp, .int q_77, .int q_78, .int q_79])), (wk, .inl (cI, 125, .inl q_90)), (wp, .inl (cP, 8, .inr (.inr (.inr (.inr q_83)))))]) hP hD rfl
                clear hP hD
                obtain ⟨hP, hD⟩ := h9R
                exact W.iret (v := r_88) hx hb hr (fun t ht hW => ⟨⟨r_88, (q_77, q_78, q_79, q_90, q_81, q_82, q_83, fr), rfl, ⟨(show 0 ≤ q_77.toInt ∧ q_77.toInt ≤ 8 from hbq_77), (show 0 ≤ q_78.toInt ∧ q_78.toInt ≤ 9 from hbq_78), (show 0 ≤ q_79.toInt ∧ q_79.toInt ≤ 60 from hbq_79), hpq_82, hwq_83, trivial⟩, zRet ht hP hD [0, 1, 4, 7, 8, 2, 3, 9, 5, 6] (by decide) rfl⟩, hS.F ht⟩) hS.2.2 dX7_cases_86
          · refine lv_aload_n hx hb dX7_cases_31 rfl (lv_at hl 0 rfl) ?_
            refine va_get (D := D) (ci := 7) (v := .ref w0) (C := RX7) (T := TX7) (N := 9) hx hb hts hi_X7_cases_7 hown hK hP 0 rfl rfl 3 (by decide) (hts (.fieldLink RX7 28 "TheLiningsInIt" "ways" "LTheLiningsInIt$Ways;") (List.mem_of_getElem? (i := 1) rfl)) (fun _ h9 => h9) rfl dX7_cases_32 ?_
            refine lv_aload_n hx hb dX7_cases_35 rfl (lv_at hl 0 rfl) ?_
            refine va_get (D := D) (ci := 7) (v := .ref j0) (C := RX7) (T := TX7) (N := 9) hx hb hts hi_X7_cases_7 hown hK hP 0 rfl rfl 1 (by decide) (hts (.fieldLink RX7 18 "TheLiningsInIt" "now" "LTheLiningsInIt$Jacket;") (List.mem_of_getElem? (i := 2) rfl)) (fun _ h9 => h9) rfl dX7_cases_36 ?_
            refine lv_aload_n hx hb dX7_cases_39 rfl (lv_at hl 0 rfl) ?_
            refine va_get (D := D) (ci := 7) (v := .ref j0) (C := RX7) (T := TX7) (N := 9) hx hb hts hi_X7_cases_7 hown hK hP 0 rfl rfl 1 (by decide) (hts (.fieldLink RX7 18 "TheLiningsInIt" "now" "LTheLiningsInIt$Jacket;") (List.mem_of_getElem? (i := 2) rfl)) (fun _ h9 => h9) rfl dX7_cases_40 ?_
            refine va_get (D := D) (ci := 0) (v := .int hu) (C := RX0) (T := TX0) (N := 9) hx hb hts hi_X7_cases_0 hown hK hP 2 rfl rfl 7 (by decide) (hts (.fieldLink RX7 116 "TheLiningsInIt$Jacket" "hurry" "I") (List.mem_of_getElem? (i := 3) rfl)) (fun _ h9 => h9) rfl dX7_cases_43 ?_
            refine lv_iload_n hx hb dX7_cases_46 rfl (lv_at hl 2 rfl) ?_
            refine lv_iconst (v := 2) hx hb dX7_cases_47 (by decide) ?_
            refine lv_icmp_eq (tgt := 55) hx hb dX7_cases_48 (by decide) (fun c_91 => ?_) (fun c_91 => ?_)
            · have fc_91 : w.toInt = 2 := zf_eq c_91 rfl (by decide)
              refine lv_iconst (v := 0) hx hb dX7_cases_55 (by decide) ?_
              skip
              refine zw_Vv (As := [.ref j0, .int hu, .int 0]) (rest := []) (wr := [(x0, .inr (7, [.ref xs, .ref j0, .ref k0, .ref w0, .ref rd, .ref mv, .ref xr, .int im, .int lf])), (xr, .inl (cI, 8, .inl fr))]) ⟨hx, hb, hml, hown, hts⟩ (c_W_look l D cI cJ cZ cP cS po w0 wk wl wc wp (wn) (wh) (wg) j0 jp jc z0 0 0 (cn) (de) (tr) (se) (hu) (sd) fp fq kf af tf fk fl fc fjc (hu) (0) hy10 hy11 hy12 hy13 hy14 hy15 hy4 hy5 hy6 hy7 hy8 hy9 hy8 hy9 hwq hjp hp_fc hp_fjc H.size) (cwV 3 hts gX7_cases_X5_look rfl rfl rfl ⟨rfl, dh_X5_look⟩ ⟨Nat.le_of_ble_eq_true rfl, Nat.le_of_ble_eq_true rfl⟩) hK hN (hZ.kept hS) hP hD hS hA [3, 4, 5, 6, 7, 2, 8, 9] [0, 1] rfl rfl (by decide) (by decide) (by decide) (va_recv (q := (RX5, TX5, 7)) hK hP (ci := 5) (q0 := 3) rfl rfl) rfl hl.1 rfl (Nat.le_of_ble_eq_true rfl) dX7_cases_56 ⟨Nat.le_of_ble_eq_true rfl, Nat.le_of_ble_eq_true rfl⟩ (fun u_93 H locs hr_92 hP hD hS => ?_)
              obtain ⟨q_94, q_95, q_96, q_97, q_98, q_99, q_100⟩ := u_93
              try dsimp only at hr_92
              obtain ⟨hbq_94, hbq_95, hbq_96, hpq_99, hwq_100, hr_92⟩ := hr_92
              have h9R := zRe (ws' := [(x0, .inr (7, [.ref xs, .ref j0, .ref k0, .ref w0, .ref rd, .ref mv, .ref xr, .int im, .int lf])), (xr, .inl (cI, 8, .inl fr)), (w0, .inr (5, [.ref wk, .ref wl, .ref wc, .ref wp, .int q_94, .int q_95, .int q_96])), (wk, .inl (cI, 125, .inl q_97)), (wl, .inl (cI, 125, .inl q_98)), (wc, .inl (cI, 3, .inl q_99)), (wp, .inl (cP, 8, .inr (.inr (.inr (.inr q_100))))), (j0, .inr (0, [.ref z0, .ref jp, .ref jc, .int cn, .int de, .int tr, .int se, .int hu, .int sd])), (jp, .inl (cP, 8, .inr (.inr (.inr (.inr fp))))), (jc, .inl (cI, 3, .inl fjc))]) hP hD rfl
              clear hP hD
              obtain ⟨hP, hD⟩ := h9R
              refine lv_iload_n hx hb dX7_cases_59 rfl (lv_at hl 2 rfl) ?_
              refine lv_iconst (v := 1) hx hb dX7_cases_60 (by decide) ?_
              refine lv_icmp_ne (tgt := 87) hx hb dX7_cases_61 (by decide) (fun c_101 => ?_) (fun c_101 => ?_)
              · have fc_101 : w.toInt ≠ 1 := zf_ne c_101 rfl (by decide)
                refine lv_aload_n hx hb dX7_cases_87 rfl (lv_at hl 0 rfl) ?_
                refine va_get (D := D) (ci := 7) (v := .ref w0) (C := RX7) (T := TX7) (N := 9) hx hb hts hi_X7_cases_7 hown hK hP 0 rfl rfl 3 (by decide) (hts (.fieldLink RX7 28 "TheLiningsInIt" "ways" "LTheLiningsInIt$Ways;") (List.mem_of_getElem? (i := 1) rfl)) (fun _ h9 => h9) rfl dX7_cases_88 ?_
                refine lv_iload_n hx hb dX7_cases_91 rfl (lv_at hl 1 rfl) ?_
                refine lv_aload_n hx hb dX7_cases_92 rfl (lv_at hl 0 rfl) ?_
                refine va_get (D := D) (ci := 7) (v := .ref j0) (C := RX7) (T := TX7) (N := 9) hx hb hts hi_X7_cases_7 hown hK hP 0 rfl rfl 1 (by decide) (hts (.fieldLink RX7 18 "TheLiningsInIt" "now" "LTheLiningsInIt$Jacket;") (List.mem_of_getElem? (i := 2) rfl)) (fun _ h9 => h9) rfl dX7_cases_93 ?_
                refine va_get (D := D) (ci := 0) (v := .int de) (C := RX0) (T := TX0) (N := 9) hx hb hts hi_X7_cases_0 hown hK hP 7 rfl rfl 4 (by decide) (hts (.fieldLink RX7 199 "TheLiningsInIt$Jacket" "depth" "I") (List.mem_of_getElem? (i := 4) rfl)) (fun _ h9 => h9) rfl dX7_cases_96 ?_
                refine lv_aload_n hx hb dX7_cases_99 rfl (lv_at hl 0 rfl) ?_
                refine va_get (D := D) (ci := 7) (v := .ref j0) (C := RX7) (T := TX7) (N := 9) hx hb hts hi_X7_cases_7 hown hK hP 0 rfl rfl 1 (by decide) (hts (.fieldLink RX7 18 "TheLiningsInIt" "now" "LTheLiningsInIt$Jacket;") (List.mem_of_getElem? (i := 2) rfl)) (fun _ h9 => h9) rfl dX7_cases_100 ?_
                refine va_get (D := D) (ci := 0) (v := .int se) (C := RX0) (T := TX0) (N := 9) hx hb hts hi_X7_cases_0 hown hK hP 7 rfl rfl 6 (by decide) (hts (.fieldLink RX7 202 "TheLiningsInIt$Jacket" "seconds" "I") (List.mem_of_getElem? (i := 5) rfl)) (fun _ h9 => h9) rfl dX7_cases_103 ?_
                skip
                refine zw_VN (As := [.int 2, .int de, .int se]) (rest := []) (wr := [(x0, .inr (7, [.ref xs, .ref j0, .ref k0, .ref w0, .ref rd, .ref mv, .ref xr, .int im, .int lf])), (xr, .inl (cI, 8, .inl fr)), (wl, .inl (cI, 125, .inl q_98)), (wc, .inl (cI, 3, .inl q_99)), (j0, .inr (0, [.ref z0, .ref jp, .ref jc, .int cn, .int de, .int tr, .int se, .int hu, .int sd])), (jp, .inl (cP, 8, .inr (.inr (.inr (.inr fp))))), (jc, .inl (cI, 3, .inl fjc))]) ⟨hx, hb, hml, hown, hts⟩ (c_W_most_2 l D cI cJ cZ cP cS po w0 wk wl wc wp (q_94) (q_95) (q_96) q_100 q_97 (de) (se) hbq_94.1 hbq_94.2 hbq_95.1 hbq_95.2 hbq_96.1 hbq_96.2 hwq_100 hy6 hy7 H.size) ⟨(va_cnB 3 hts gX7_cases_X5_most_n208 rfl rfl rfl (hN.1 (RX7, 208, yX5_most) (List.mem_of_getElem? (i := 10) rfl)) (hts _ (List.mem_of_getElem? (i := 22) rfl)) dh_X5_most ⟨Nat.le_of_ble_eq_true rfl, Nat.le_of_ble_eq_true rfl⟩), (hts _ (List.mem_of_getElem? (i := 95) rfl)), (hts _ (List.mem_of_getElem? (i := 96) rfl))⟩ hK hN (hZ.kept hS) hP hD hS hA [2, 3, 6] [0, 1, 4, 5, 7, 8, 9] rfl rfl (by decide) (by decide) (by decide) (va_recv (q := (RX5, TX5, 7)) hK hP (ci := 5) (q0 := 2) rfl rfl) rfl hl.1 rfl (Nat.le_of_ble_eq_true rfl) dX7_cases_106 ⟨Nat.le_of_ble_eq_true rfl, Nat.le_of_ble_eq_true rfl⟩ (fun r_102 u_103 H locs hr_102 hP hD hS => ?_)
                obtain ⟨q_104, rfl⟩ : ∃ z, z = u_103 := ⟨_, rfl⟩
                have h9R := zRe (ws' := [(x0, .inr (7, [.ref xs, .ref j0, .ref k0, .ref w0, .ref rd, .ref mv, .ref xr, .int im, .int lf])), (xr, .inl (cI, 8, .inl fr)), (wl, .inl (cI, 125, .inl q_98)), (wc, .inl (cI, 3, .inl q_99)), (j0, .inr (0, [.ref z0, .ref jp, .ref jc, .int cn, .int de, .int tr, .int se, .int hu, .int sd])), (jp, .inl (cP, 8, .inr (.inr (.inr (.inr fp))))), (jc, .inl (cI, 3, .inl fjc)), (w0, .inr (5, [.ref wk, .ref wl, .ref wc, .ref wp, .int q_94, .int q_95, .int q_96])), (wk, .inl (cI, 125, .inl q_104)), (wp, .inl (cP, 8, .inr (.inr (.inr (.inr q_100)))))]) hP hD rfl
                clear hP hD
                obtain ⟨hP, hD⟩ := h9R
                exact W.iret (v := r_102) hx hb hr (fun t ht hW => ⟨⟨r_102, (q_94, q_95, q_96, q_104, q_98, q_99, q_100, fr), rfl, ⟨(show 0 ≤ q_94.toInt ∧ q_94.toInt ≤ 8 from hbq_94), (show 0 ≤ q_95.toInt ∧ q_95.toInt ≤ 9 from hbq_95), (show 0 ≤ q_96.toInt ∧ q_96.toInt ≤ 60 from hbq_96), hpq_99, hwq_100, trivial⟩, zRet ht hP hD [0, 1, 4, 7, 8, 2, 3, 9, 5, 6] (by decide) rfl⟩, hS.F ht⟩) hS.2.2 dX7_cases_109
              · exfalso; have fc_101 : w.toInt = 1 := zf_eq c_101 rfl (by decide); omega
            · have fc_91 : w.toInt ≠ 2 := zf_ne c_91 rfl (by decide)
              refine lv_iconst (v := 1) hx hb dX7_cases_51 (by decide) ?_
              refine lv_goto (tgt := 56) hx hb dX7_cases_52 (by decide) ?_
              skip
              refine zw_Vv (As := [.ref j0, .int hu, .int 1]) (rest := []) (wr := [(x0, .inr (7, [.ref xs, .ref j0, .ref k0, .ref w0, .ref rd, .ref mv, .ref xr, .int im, .int lf])), (xr, .inl (cI, 8, .inl fr))]) ⟨hx, hb, hml, hown, hts⟩ (c_W_look l D cI cJ cZ cP cS po w0 wk wl wc wp (wn) (wh) (wg) j0 jp jc z0 0 0 (cn) (de) (tr) (se) (hu) (sd) fp fq kf af tf fk fl fc fjc (hu) (1) hy10 hy11 hy12 hy13 hy14 hy15 hy4 hy5 hy6 hy7 hy8 hy9 hy8 hy9 hwq hjp hp_fc hp_fjc H.size) (cwV 3 hts gX7_cases_X5_look rfl rfl rfl ⟨rfl, dh_X5_look⟩ ⟨Nat.le_of_ble_eq_true rfl, Nat.le_of_ble_eq_true rfl⟩) hK hN (hZ.kept hS) hP hD hS hA [3, 4, 5, 6, 7, 2, 8, 9] [0, 1] rfl rfl (by decide) (by decide) (by decide) (va_recv (q := (RX5, TX5, 7)) hK hP (ci := 5) (q0 := 3) rfl rfl) rfl hl.1 rfl (Nat.le_of_ble_eq_true rfl) dX7_cases_56 ⟨Nat.le_of_ble_eq_true rfl, Nat.le_of_ble_eq_true rfl⟩ (fun u_106 H locs hr_105 hP hD hS => ?_)
              obtain ⟨q_107, q_108, q_109, q_110, q_111, q_112, q_113⟩ := u_106
              try dsimp only at hr_105
              obtain ⟨hbq_107, hbq_108, hbq_109, hpq_112, hwq_113, hr_105⟩ := hr_105
              have h9R := zRe (ws' := [(x0, .inr (7, [.ref xs, .ref j0, .ref k0, .ref w0, .ref rd, .ref mv, .ref xr, .int im, .int lf])), (xr, .inl (cI, 8, .inl fr)), (w0, .inr (5, [.ref wk, .ref wl, .ref wc, .ref wp, .int q_107, .int q_108, .int q_109])), (wk, .inl (cI, 125, .inl q_110)), (wl, .inl (cI, 125, .inl q_111)), (wc, .inl (cI, 3, .inl q_112)), (wp, .inl (cP, 8, .inr (.inr (.inr (.inr q_113))))), (j0, .inr (0, [.ref z0, .ref jp, .ref jc, .int cn, .int de, .int tr, .int se, .int hu, .int sd])), (jp, .inl (cP, 8, .inr (.inr (.inr (.inr fp))))), (jc, .inl (cI, 3, .inl fjc))]) hP hD rfl
              clear hP hD
              obtain ⟨hP, hD⟩ := h9R
              refine lv_iload_n hx hb dX7_cases_59 rfl (lv_at hl 2 rfl) ?_
              refine lv_iconst (v := 1) hx hb dX7_cases_60 (by decide) ?_
              refine lv_icmp_ne (tgt := 87) hx hb dX7_cases_61 (by decide) (fun c_114 => ?_) (fun c_114 => ?_)
              · have fc_114 : w.toInt ≠ 1 := zf_ne c_114 rfl (by decide)
                refine lv_aload_n hx hb dX7_cases_87 rfl (lv_at hl 0 rfl) ?_
                refine va_get (D := D) (ci := 7) (v := .ref w0) (C := RX7) (T := TX7) (N := 9) hx hb hts hi_X7_cases_7 hown hK hP 0 rfl rfl 3 (by decide) (hts (.fieldLink RX7 28 "TheLiningsInIt" "ways" "LTheLiningsInIt$Ways;") (List.mem_of_getElem? (i := 1) rfl)) (fun _ h9 => h9) rfl dX7_cases_88 ?_
                refine lv_iload_n hx hb dX7_cases_91 rfl (lv_at hl 1 rfl) ?_
                refine lv_aload_n hx hb dX7_cases_92 rfl (lv_at hl 0 rfl) ?_
                refine va_get (D := D) (ci := 7) (v := .ref j0) (C := RX7) (T := TX7) (N := 9) hx hb hts hi_X7_cases_7 hown hK hP 0 rfl rfl 1 (by decide) (hts (.fieldLink RX7 18 "TheLiningsInIt" "now" "LTheLiningsInIt$Jacket;") (List.mem_of_getElem? (i := 2) rfl)) (fun _ h9 => h9) rfl dX7_cases_93 ?_
                refine va_get (D := D) (ci := 0) (v := .int de) (C := RX0) (T := TX0) (N := 9) hx hb hts hi_X7_cases_0 hown hK hP 7 rfl rfl 4 (by decide) (hts (.fieldLink RX7 199 "TheLiningsInIt$Jacket" "depth" "I") (List.mem_of_getElem? (i := 4) rfl)) (fun _ h9 => h9) rfl dX7_cases_96 ?_
                refine lv_aload_n hx hb dX7_cases_99 rfl (lv_at hl 0 rfl) ?_
                refine va_get (D := D) (ci := 7) (v := .ref j0) (C := RX7) (T := TX7) (N := 9) hx hb hts hi_X7_cases_7 hown hK hP 0 rfl rfl 1 (by decide) (hts (.fieldLink RX7 18 "TheLiningsInIt" "now" "LTheLiningsInIt$Jacket;") (List.mem_of_getElem? (i := 2) rfl)) (fun _ h9 => h9) rfl dX7_cases_100 ?_
                refine va_get (D := D) (ci := 0) (v := .int se) (C := RX0) (T := TX0) (N := 9) hx hb hts hi_X7_cases_0 hown hK hP 7 rfl rfl 6 (by decide) (hts (.fieldLink RX7 202 "TheLiningsInIt$Jacket" "seconds" "I") (List.mem_of_getElem? (i := 5) rfl)) (fun _ h9 => h9) rfl dX7_cases_103 ?_
                skip
                refine zw_VN (As := [.int 2, .int de, .int se]) (rest := []) (wr := [(x0, .inr (7, [.ref xs, .ref j0, .ref k0, .ref w0, .ref rd, .ref mv, .ref xr, .int im, .int lf])), (xr, .inl (cI, 8, .inl fr)), (wl, .inl (cI, 125, .inl q_111)), (wc, .inl (cI, 3, .inl q_112)), (j0, .inr (0, [.ref z0, .ref jp, .ref jc, .int cn, .int de, .int tr, .int se, .int hu, .int sd])), (jp, .inl (cP, 8, .inr (.inr (.inr (.inr fp))))), (jc, .inl (cI, 3, .inl fjc))]) ⟨hx, hb, hml, hown, hts⟩ (c_W_most_2 l D cI cJ cZ cP cS po w0 wk wl wc wp (q_107) (q_108) (q_109) q_113 q_110 (de) (se) hbq_107.1 hbq_107.2 hbq_108.1 hbq_108.2 hbq_109.1 hbq_109.2 hwq_113 hy6 hy7 H.size) ⟨(va_cnB 3 hts gX7_cases_X5_most_n208 rfl rfl rfl (hN.1 (RX7, 208, yX5_most) (List.mem_of_getElem? (i := 10) rfl)) (hts _ (List.mem_of_getElem? (i := 22) rfl)) dh_X5_most ⟨Nat.le_of_ble_eq_true rfl, Nat.le_of_ble_eq_true rfl⟩), (hts _ (List.mem_of_getElem? (i := 95) rfl)), (hts _ (List.mem_of_getElem? (i := 96) rfl))⟩ hK hN (hZ.kept hS) hP hD hS hA [2, 3, 6] [0, 1, 4, 5, 7, 8, 9] rfl rfl (by decide) (by decide) (by decide) (va_recv (q := (RX5, TX5, 7)) hK hP (ci := 5) (q0 := 2) rfl rfl) rfl hl.1 rfl (Nat.le_of_ble_eq_true rfl) dX7_cases_106 ⟨Nat.le_of_ble_eq_true rfl, Nat.le_of_ble_eq_true rfl⟩ (fun r_115 u_116 H locs hr_115 hP hD hS => ?_)
                obtain ⟨q_117, rfl⟩ : ∃ z, z = u_116 := ⟨_, rfl⟩
                have h9R := zRe (ws' := [(x0, .inr (7, [.ref xs, .ref j0, .ref k0, .ref w0, .ref rd, .ref mv, .ref xr, .int im, .int lf])), (xr, .inl (cI, 8, .inl fr)), (wl, .inl (cI, 125, .inl q_111)), (wc, .inl (cI, 3, .inl q_112)), (j0, .inr (0, [.ref z0, .ref jp, .ref jc, .int cn, .int de, .int tr, .int se, .int hu, .int sd])), (jp, .inl (cP, 8, .inr (.inr (.inr (.inr fp))))), (jc, .inl (cI, 3, .inl fjc)), (w0, .inr (5, [.ref wk, .ref wl, .ref wc, .ref wp, .int q_107, .int q_108, .int q_109])), (wk, .inl (cI, 125, .inl q_117)), (wp, .inl (cP, 8, .inr (.inr (.inr (.inr q_113)))))]) hP hD rfl
                clear hP hD
                obtain ⟨hP, hD⟩ := h9R
                exact W.iret (v := r_115) hx hb hr (fun t ht hW => ⟨⟨r_115, (q_107, q_108, q_109, q_117, q_111, q_112, q_113, fr), rfl, ⟨(show 0 ≤ q_107.toInt ∧ q_107.toInt ≤ 8 from hbq_107), (show 0 ≤ q_108.toInt ∧ q_108.toInt ≤ 9 from hbq_108), (show 0 ≤ q_109.toInt ∧ q_109.toInt ≤ 60 from hbq_109), hpq_112, hwq_113, trivial⟩, zRet ht hP hD [0, 1, 4, 7, 8, 2, 3, 9, 5, 6] (by decide) rfl⟩, hS.F ht⟩) hS.2.2 dX7_cases_109
              · have fc_114 : w.toInt = 1 := zf_eq c_114 rfl (by decide)
                refine lv_aload_n hx hb dX7_cases_64 rfl (lv_at hl 0 rfl) ?_
                refine va_get (D := D) (ci := 7) (v := .ref w0) (C := RX7) (T := TX7) (N := 9) hx hb hts hi_X7_cases_7 hown hK hP 0 rfl rfl 3 (by decide) (hts (.fieldLink RX7 28 "TheLiningsInIt" "ways" "LTheLiningsInIt$Ways;") (List.mem_of_getElem? (i := 1) rfl)) (fun _ h9 => h9) rfl dX7_cases_65 ?_
                refine lv_iload_n hx hb dX7_cases_68 rfl (lv_at hl 1 rfl) ?_
                refine lv_aload_n hx hb dX7_cases_69 rfl (lv_at hl 0 rfl) ?_
                refine va_get (D := D) (ci := 7) (v := .ref j0) (C := RX7) (T := TX7) (N := 9) hx hb hts hi_X7_cases_7 hown hK hP 0 rfl rfl 1 (by decide) (hts (.fieldLink RX7 18 "TheLiningsInIt" "now" "LTheLiningsInIt$Jacket;") (List.mem_of_getElem? (i := 2) rfl)) (fun _ h9 => h9) rfl dX7_cases_70 ?_
                refine va_get (D := D) (ci := 0) (v := .int de) (C := RX0) (T := TX0) (N := 9) hx hb hts hi_X7_cases_0 hown hK hP 7 rfl rfl 4 (by decide) (hts (.fieldLink RX7 199 "TheLiningsInIt$Jacket" "depth" "I") (List.mem_of_getElem? (i := 4) rfl)) (fun _ h9 => h9) rfl dX7_cases_73 ?_
                refine lv_aload_n hx hb dX7_cases_76 rfl (lv_at hl 0 rfl) ?_
                refine va_get (D := D) (ci := 7) (v := .ref j0) (C := RX7) (T := TX7) (N := 9) hx hb hts hi_X7_cases_7 hown hK hP 0 rfl rfl 1 (by decide) (hts (.fieldLink RX7 18 "TheLiningsInIt" "now" "LTheLiningsInIt$Jacket;") (List.mem_of_getElem? (i := 2) rfl)) (fun _ h9 => h9) rfl dX7_cases_77 ?_
                refine va_get (D := D) (ci := 0) (v := .int se) (C := RX0) (T := TX0) (N := 9) hx hb hts hi_X7_cases_0 hown hK hP 7 rfl rfl 6 (by decide) (hts (.fieldLink RX7 202 "TheLiningsInIt$Jacket" "seconds" "I") (List.mem_of_getElem? (i := 5) rfl)) (fun _ h9 => h9) rfl dX7_cases_80 ?_
                skip
                refine zw_V (As := [.int 2, .int de, .int se]) (rest := []) (wr := [(x0, .inr (7, [.ref xs, .ref j0, .ref k0, .ref w0, .ref rd, .ref mv, .ref xr, .int im, .int lf])), (xr, .inl (cI, 8, .inl fr)), (wl, .inl (cI, 125, .inl q_111)), (wc, .inl (cI, 3, .inl q_112)), (j0, .inr (0, [.ref z0, .ref jp, .ref jc, .int cn, .int de, .int tr, .int se, .int hu, .int sd])), (jp, .inl (cP, 8, .inr (.inr (.inr (.inr fp))))), (jc, .inl (cI, 3, .inl fjc))]) ⟨hx, hb, hml, hown, hts⟩ (c_W_next_2 l D cI cJ cZ cP cS po w0 wk wl wc wp (q_107) (q_108) (q_109) q_113 q_110 (de) (se) hbq_107.1 hbq_107.2 hbq_108.1 hbq_108.2 hbq_109.1 hbq_109.2 hwq_113 hy6 hy7 H.size) (cwV 3 hts gX7_cases_X5_next rfl rfl rfl ⟨rfl, dh_X5_next⟩ ⟨Nat.le_of_ble_eq_true rfl, Nat.le_of_ble_eq_true rfl⟩) hK hN (hZ.kept hS) hP hD hS hA [2, 3, 6] [0, 1, 4, 5, 7, 8, 9] rfl rfl (by decide) (by decide) (by decide) (va_recv (q := (RX5, TX5, 7)) hK hP (ci := 5) (q0 := 2) rfl rfl) rfl hl.1 rfl (Nat.le_of_ble_eq_true rfl) dX7_cases_83 ⟨Nat.le_of_ble_eq_true rfl, Nat.le_of_ble_eq_true rfl⟩ (fun r_118 u_119 H locs hr_118 hP hD hS => ?_)
                obtain ⟨q_120, rfl⟩ : ∃ z, z = u_119 := ⟨_, rfl⟩
                have h9R := zRe (ws' := [(x0, .inr (7, [.ref xs, .ref j0, .ref k0, .ref w0, .ref rd, .ref mv, .ref xr, .int im, .int lf])), (xr, .inl (cI, 8, .inl fr)), (wl, .inl (cI, 125, .inl q_111)), (wc, .inl (cI, 3, .inl q_112)), (j0, .inr (0, [.ref z0, .ref jp, .ref jc, .int cn, .int de, .int tr, .int se, .int hu, .int sd])), (jp, .inl (cP, 8, .inr (.inr (.inr (.inr fp))))), (jc, .inl (cI, 3, .inl fjc)), (w0, .inr (5, [.ref wk, .ref wl, .ref wc, .ref wp, .int q_107, .int q_108, .int q_109])), (wk, .inl (cI, 125, .inl q_120)), (wp, .inl (cP, 8, .inr (.inr (.inr (.inr q_113)))))]) hP hD rfl
                clear hP hD
                obtain ⟨hP, hD⟩ := h9R
                exact W.iret (v := r_118) hx hb hr (fun t ht hW => ⟨⟨r_118, (q_107, q_108, q_109, q_120, q_111, q_112, q_113, fr), rfl, ⟨(show 0 ≤ q_107.toInt ∧ q_107.toInt ≤ 8 from hbq_107), (show 0 ≤ q_108.toInt ∧ q_108.toInt ≤ 9 from hbq_108), (show 0 ≤ q_109.toInt ∧ q_109.toInt ≤ 60 from hbq_109), hpq_112, hwq_113, trivial⟩, zRet ht hP hD [0, 1, 4, 7, 8, 2, 3, 9, 5, 6] (by decide) rfl⟩, hS.F ht⟩) hS.2.2 dX7_cases_86
          · refine lv_aload_n hx hb dX7_cases_31 rfl (lv_at hl 0 rfl) ?_
            refine va_get (D := D) (ci := 7) (v := .ref w0) (C := RX7) (T := TX7) (N := 9) hx hb hts hi_X7_cases_7 hown hK hP 0 rfl rfl 3 (by decide) (hts (.fieldLink RX7 28 "TheLiningsInIt" "ways" "LTheLiningsInIt$Ways;") (List.mem_of_getElem? (i := 1) rfl)) (fun _ h9 => h9) rfl dX7_cases_32 ?_
            refine lv_aload_n hx hb dX7_cases_35 rfl (lv_at hl 0 rfl) ?_
            refine va_get (D := D) (ci := 7) (v := .ref j0) (C := RX7) (T := TX7) (N := 9) hx hb hts hi_X7_cases_7 hown hK hP 0 rfl rfl 1 (by decide) (hts (.fieldLink RX7 18 "TheLiningsInIt" "now" "LTheLiningsInIt$Jacket;") (List.mem_of_getElem? (i := 2) rfl)) (fun _ h9 => h9) rfl dX7_cases_36 ?_
            refine lv_aload_n hx hb dX7_cases_39 rfl (lv_at hl 0 rfl) ?_
            refine va_get (D := D) (ci := 7) (v := .ref j0) (C := RX7) (T := TX7) (N := 9) hx hb hts hi_X7_cases_7 hown hK hP 0 rfl rfl 1 (by decide) (hts (.fieldLink RX7 18 "TheLiningsInIt" "now" "LTheLiningsInIt$Jacket;") (List.mem_of_getElem? (i := 2) rfl)) (fun _ h9 => h9) rfl dX7_cases_40 ?_
            refine va_get (D := D) (ci := 0) (v := .int hu) (C := RX0) (T := TX0) (N := 9) hx hb hts hi_X7_cases_0 hown hK hP 2 rfl rfl 7 (by decide) (hts (.fieldLink RX7 116 "TheLiningsInIt$Jacket" "hurry" "I") (List.mem_of_getElem? (i := 3) rfl)) (fun _ h9 => h9) rfl dX7_cases_43 ?_
            refine lv_iload_n hx hb dX7_cases_46 rfl (lv_at hl 2 rfl) ?_
            refine lv_iconst (v := 2) hx hb dX7_cases_47 (by decide) ?_
            refine lv_icmp_eq (tgt := 55) hx hb dX7_cases_48 (by decide) (fun c_121 => ?_) (fun c_121 => ?_)
            · have fc_121 : w.toInt = 2 := zf_eq c_121 rfl (by decide)
              refine lv_iconst (v := 0) hx hb dX7_cases_55 (by decide) ?_
              skip
              refine zw_Vv (As := [.ref j0, .int hu, .int 0]) (rest := []) (wr := [(x0, .inr (7, [.ref xs, .ref j0, .ref k0, .ref w0, .ref rd, .ref mv, .ref xr, .int im, .int lf])), (xr, .inl (cI, 8, .inl fr))]) ⟨hx, hb, hml, hown, hts⟩ (c_W_look l D cI cJ cZ cP cS po w0 wk wl wc wp (wn) (wh) (wg) j0 jp jc z0 0 0 (cn) (de) (tr) (se) (hu) (sd) fp fq kf af tf fk fl fc fjc (hu) (0) hy10 hy11 hy12 hy13 hy14 hy15 hy4 hy5 hy6 hy7 hy8 hy9 hy8 hy9 hwq hjp hp_fc hp_fjc H.size) (cwV 3 hts gX7_cases_X5_look rfl rfl rfl ⟨rfl, dh_X5_look⟩ ⟨Nat.le_of_ble_eq_true rfl, Nat.le_of_ble_eq_true rfl⟩) hK hN (hZ.kept hS) hP hD hS hA [3, 4, 5, 6, 7, 2, 8, 9] [0, 1] rfl rfl (by decide) (by decide) (by decide) (va_recv (q := (RX5, TX5, 7)) hK hP (ci := 5) (q0 := 3) rfl rfl) rfl hl.1 rfl (Nat.le_of_ble_eq_true rfl) dX7_cases_56 ⟨Nat.le_of_ble_eq_true rfl, Nat.le_of_ble_eq_true rfl⟩ (fun u_123 H locs hr_122 hP hD hS => ?_)
              obtain ⟨q_124, q_125, q_126, q_127, q_128, q_129, q_130⟩ := u_123
              try dsimp only at hr_122
              obtain ⟨hbq_124, hbq_125, hbq_126, hpq_129, hwq_130, hr_122⟩ := hr_122
              have h9R := zRe (ws' := [(x0, .inr (7, [.ref xs, .ref j0, .ref k0, .ref w0, .ref rd, .ref mv, .ref xr, .int im, .int lf])), (xr, .inl (cI, 8, .inl fr)), (w0, .inr (5, [.ref wk, .ref wl, .ref wc, .ref wp, .int q_124, .int q_125, .int q_126])), (wk, .inl (cI, 125, .inl q_127)), (wl, .inl (cI, 125, .inl q_128)), (wc, .inl (cI, 3, .inl q_129)), (wp, .inl (cP, 8, .inr (.inr (.inr (.inr q_130))))), (j0, .inr (0, [.ref z0, .ref jp, .ref jc, .int cn, .int de, .int tr, .int se, .int hu, .int sd])), (jp, .inl (cP, 8, .inr (.inr (.inr (.inr fp))))), (jc, .inl (cI, 3, .inl fjc))]) hP hD rfl
              clear hP hD
              obtain ⟨hP, hD⟩ := h9R
              refine lv_iload_n hx hb dX7_cases_59 rfl (lv_at hl 2 rfl) ?_
              refine lv_iconst (v := 1) hx hb dX7_cases_60 (by decide) ?_
              refine lv_icmp_ne (tgt := 87) hx hb dX7_cases_61 (by decide) (fun c_131 => ?_) (fun c_131 => ?_)
              · have fc_131 : w.toInt ≠ 1 := zf_ne c_131 rfl (by decide)
                refine lv_aload_n hx hb dX7_cases_87 rfl (lv_at hl 0 rfl) ?_
                refine va_get (D := D) (ci := 7) (v := .ref w0) (C := RX7) (T := TX7) (N := 9) hx hb hts hi_X7_cases_7 hown hK hP 0 rfl rfl 3 (by decide) (hts (.fieldLink RX7 28 "TheLiningsInIt" "ways" "LTheLiningsInIt$Ways;") (List.mem_of_getElem? (i := 1) rfl)) (fun _ h9 => h9) rfl dX7_cases_88 ?_
                refine lv_iload_n hx hb dX7_cases_91 rfl (lv_at hl 1 rfl) ?_
                refine lv_aload_n hx hb dX7_cases_92 rfl (lv_at hl 0 rfl) ?_
                refine va_get (D := D) (ci := 7) (v := .ref j0) (C := RX7) (T := TX7) (N := 9) hx hb hts hi_X7_cases_7 hown hK hP 0 rfl rfl 1 (by decide) (hts (.fieldLink RX7 18 "TheLiningsInIt" "now" "LTheLiningsInIt$Jacket;") (List.mem_of_getElem? (i := 2) rfl)) (fun _ h9 => h9) rfl dX7_cases_93 ?_
                refine va_get (D := D) (ci := 0) (v := .int de) (C := RX0) (T := TX0) (N := 9) hx hb hts hi_X7_cases_0 hown hK hP 7 rfl rfl 4 (by decide) (hts (.fieldLink RX7 199 "TheLiningsInIt$Jacket" "depth" "I") (List.mem_of_getElem? (i := 4) rfl)) (fun _ h9 => h9) rfl dX7_cases_96 ?_
                refine lv_aload_n hx hb dX7_cases_99 rfl (lv_at hl 0 rfl) ?_
                refine va_get (D := D) (ci := 7) (v := .ref j0) (C := RX7) (T := TX7) (N := 9) hx hb hts hi_X7_cases_7 hown hK hP 0 rfl rfl 1 (by decide) (hts (.fieldLink RX7 18 "TheLiningsInIt" "now" "LTheLiningsInIt$Jacket;") (List.mem_of_getElem? (i := 2) rfl)) (fun _ h9 => h9) rfl dX7_cases_100 ?_
                refine va_get (D := D) (ci := 0) (v := .int se) (C := RX0) (T := TX0) (N := 9) hx hb hts hi_X7_cases_0 hown hK hP 7 rfl rfl 6 (by decide) (hts (.fieldLink RX7 202 "TheLiningsInIt$Jacket" "seconds" "I") (List.mem_of_getElem? (i := 5) rfl)) (fun _ h9 => h9) rfl dX7_cases_103 ?_
                skip
                refine zw_VN (As := [.int 3, .int de, .int se]) (rest := []) (wr := [(x0, .inr (7, [.ref xs, .ref j0, .ref k0, .ref w0, .ref rd, .ref mv, .ref xr, .int im, .int lf])), (xr, .inl (cI, 8, .inl fr)), (wl, .inl (cI, 125, .inl q_128)), (wc, .inl (cI, 3, .inl q_129)), (j0, .inr (0, [.ref z0, .ref jp, .ref jc, .int cn, .int de, .int tr, .int se, .int hu, .int sd])), (jp, .inl (cP, 8, .inr (.inr (.inr (.inr fp))))), (jc, .inl (cI, 3, .inl fjc))]) ⟨hx, hb, hml, hown, hts⟩ (c_W_most_3 l D cI cJ cZ cP cS po w0 wk wl wc wp (q_124) (q_125) (q_126) q_130 q_127 (de) (se) hbq_124.1 hbq_124.2 hbq_125.1 hbq_125.2 hbq_126.1 hbq_126.2 hwq_130 hy6 hy7 H.size) ⟨(va_cnB 3 hts gX7_cases_X5_most_n208 rfl rfl rfl (hN.1 (RX7, 208, yX5_most) (List.mem_of_getElem? (i := 10) rfl)) (hts _ (List.mem_of_getElem? (i := 22) rfl)) dh_X5_most ⟨Nat.le_of_ble_eq_true rfl, Nat.le_of_ble_eq_true rfl⟩), (hts _ (List.mem_of_getElem? (i := 95) rfl)), (hts _ (List.mem_of_getElem? (i := 96) rfl))⟩ hK hN (hZ.kept hS) hP hD hS hA [2, 3, 6] [0, 1, 4, 5, 7, 8, 9] rfl rfl (by decide) (by decide) (by decide) (va_recv (q := (RX5, TX5, 7)) hK hP (ci := 5) (q0 := 2) rfl rfl) rfl hl.1 rfl (Nat.le_of_ble_eq_true rfl) dX7_cases_106 ⟨Nat.le_of_ble_eq_true rfl, Nat.le_of_ble_eq_true rfl⟩ (fun r_132 u_133 H locs hr_132 hP hD hS => ?_)
                obtain ⟨q_134, rfl⟩ : ∃ z, z = u_133 := ⟨_, rfl⟩
                have h9R := zRe (ws' := [(x0, .inr (7, [.ref xs, .ref j0, .ref k0, .ref w0, .ref rd, .ref mv, .ref xr, .int im, .int lf])), (xr, .inl (cI, 8, .inl fr)), (wl, .inl (cI, 125, .inl q_128)), (wc, .inl (cI, 3, .inl q_129)), (j0, .inr (0, [.ref z0, .ref jp, .ref jc, .int cn, .int de, .int tr, .int se, .int hu, .int sd])), (jp, .inl (cP, 8, .inr (.inr (.inr (.inr fp))))), (jc, .inl (cI, 3, .inl fjc)), (w0, .inr (5, [.ref wk, .ref wl, .ref wc, .ref wp, .int q_124, .int q_125, .int q_126])), (wk, .inl (cI, 125, .inl q_134)), (wp, .inl (cP, 8, .inr (.inr (.inr (.inr q_130)))))]) hP hD rfl
                clear hP hD
                obtain ⟨hP, hD⟩ := h9R
                exact W.iret (v := r_132) hx hb hr (fun t ht hW => ⟨⟨r_132, (q_124, q_125, q_126, q_134, q_128, q_129, q_130, fr), rfl, ⟨(show 0 ≤ q_124.toInt ∧ q_124.toInt ≤ 8 from hbq_124), (show 0 ≤ q_125.toInt ∧ q_125.toInt ≤ 9 from hbq_125), (show 0 ≤ q_126.toInt ∧ q_126.toInt ≤ 60 from hbq_126), hpq_129, hwq_130, trivial⟩, zRet ht hP hD [0, 1, 4, 7, 8, 2, 3, 9, 5, 6] (by decide) rfl⟩, hS.F ht⟩) hS.2.2 dX7_cases_109
              · exfalso; have fc_131 : w.toInt = 1 := zf_eq c_131 rfl (by decide); omega
            · have fc_121 : w.toInt ≠ 2 := zf_ne c_121 rfl (by decide)
              refine lv_iconst (v := 1) hx hb dX7_cases_51 (by decide) ?_
              refine lv_goto (tgt := 56) hx hb dX7_cases_52 (by decide) ?_
              skip
              refine zw_Vv (As := [.ref j0, .int hu, .int 1]) (rest := []) (wr := [(x0, .inr (7, [.ref xs, .ref j0, .ref k0, .ref w0, .ref rd, .ref mv, .ref xr, .int im, .int lf])), (xr, .inl (cI, 8, .inl fr))]) ⟨hx, hb, hml, hown, hts⟩ (c_W_look l D cI cJ cZ cP cS po w0 wk wl wc wp (wn) (wh) (wg) j0 jp jc z0 0 0 (cn) (de) (tr) (se) (hu) (sd) fp fq kf af tf fk fl fc fjc (hu) (1) hy10 hy11 hy12 hy13 hy14 hy15 hy4 hy5 hy6 hy7 hy8 hy9 hy8 hy9 hwq hjp hp_fc hp_fjc H.size) (cwV 3 hts gX7_cases_X5_look rfl rfl rfl ⟨rfl, dh_X5_look⟩ ⟨Nat.le_of_ble_eq_true rfl, Nat.le_of_ble_eq_true rfl⟩) hK hN (hZ.kept hS) hP hD hS hA [3, 4, 5, 6, 7, 2, 8, 9] [0, 1] rfl rfl (by decide) (by decide) (by decide) (va_recv (q := (RX5, TX5, 7)) hK hP (ci := 5) (q0 := 3) rfl rfl) rfl hl.1 rfl (Nat.le_of_ble_eq_true rfl) dX7_cases_56 ⟨Nat.le_of_ble_eq_true rfl, Nat.le_of_ble_eq_true rfl⟩ (fun u_136 H locs hr_135 hP hD hS => ?_)
              obtain ⟨q_137, q_138, q_139, q_140, q_141, q_142, q_143⟩ := u_136
              try dsimp only at hr_135
              obtain ⟨hbq_137, hbq_138, hbq_139, hpq_142, hwq_143, hr_135⟩ := hr_135
              have h9R := zRe (ws' := [(x0, .inr (7, [.ref xs, .ref j0, .ref k0, .ref w0, .ref rd, .ref mv, .ref xr, .int im, .int lf])), (xr, .inl (cI, 8, .inl fr)), (w0, .inr (5, [.ref wk, .ref wl, .ref wc, .ref wp, .int q_137, .int q_138, .int q_139])), (wk, .inl (cI, 125, .inl q_140)), (wl, .inl (cI, 125, .inl q_141)), (wc, .inl (cI, 3, .inl q_142)), (wp, .inl (cP, 8, .inr (.inr (.inr (.inr q_143))))), (j0, .inr (0, [.ref z0, .ref jp, .ref jc, .int cn, .int de, .int tr, .int se, .int hu, .int sd])), (jp, .inl (cP, 8, .inr (.inr (.inr (.inr fp))))), (jc, .inl (cI, 3, .inl fjc))]) hP hD rfl
              clear hP hD
              obtain ⟨hP, hD⟩ := h9R
              refine lv_iload_n hx hb dX7_cases_59 rfl (lv_at hl 2 rfl) ?_
              refine lv_iconst (v := 1) hx hb dX7_cases_60 (by decide) ?_
              refine lv_icmp_ne (tgt := 87) hx hb dX7_cases_61 (by decide) (fun c_144 => ?_) (fun c_144 => ?_)
              · have fc_144 : w.toInt ≠ 1 := zf_ne c_144 rfl (by decide)
                refine lv_aload_n hx hb dX7_cases_87 rfl (lv_at hl 0 rfl) ?_
                refine va_get (D := D) (ci := 7) (v := .ref w0) (C := RX7) (T := TX7) (N := 9) hx hb hts hi_X7_cases_7 hown hK hP 0 rfl rfl 3 (by decide) (hts (.fieldLink RX7 28 "TheLiningsInIt" "ways" "LTheLiningsInIt$Ways;") (List.mem_of_getElem? (i := 1) rfl)) (fun _ h9 => h9) rfl dX7_cases_88 ?_
                refine lv_iload_n hx hb dX7_cases_91 rfl (lv_at hl 1 rfl) ?_
                refine lv_aload_n hx hb dX7_cases_92 rfl (lv_at hl 0 rfl) ?_
                refine va_get (D := D) (ci := 7) (v := .ref j0) (C := RX7) (T := TX7) (N := 9) hx hb hts hi_X7_cases_7 hown hK hP 0 rfl rfl 1 (by decide) (hts (.fieldLink RX7 18 "TheLiningsInIt" "now" "LTheLiningsInIt$Jacket;") (List.mem_of_getElem? (i := 2) rfl)) (fun _ h9 => h9) rfl dX7_cases_93 ?_
                refine va_get (D := D) (ci := 0) (v := .int de) (C := RX0) (T := TX0) (N := 9) hx hb hts hi_X7_cases_0 hown hK hP 7 rfl rfl 4 (by decide) (hts (.fieldLink RX7 199 "TheLiningsInIt$Jacket" "depth" "I") (List.mem_of_getElem? (i := 4) rfl)) (fun _ h9 => h9) rfl dX7_cases_96 ?_
                refine lv_aload_n hx hb dX7_cases_99 rfl (lv_at hl 0 rfl) ?_
                refine va_get (D := D) (ci := 7) (v := .ref j0) (C := RX7) (T := TX7) (N := 9) hx hb hts hi_X7_cases_7 hown hK hP 0 rfl rfl 1 (by decide) (hts (.fieldLink RX7 18 "TheLiningsInIt" "now" "LTheLiningsInIt$Jacket;") (List.mem_of_getElem? (i := 2) rfl)) (fun _ h9 => h9) rfl dX7_cases_100 ?_
                refine va_get (D := D) (ci := 0) (v := .int se) (C := RX0) (T := TX0) (N := 9) hx hb hts hi_X7_cases_0 hown hK hP 7 rfl rfl 6 (by decide) (hts (.fieldLink RX7 202 "TheLiningsInIt$Jacket" "seconds" "I") (List.mem_of_getElem? (i := 5) rfl)) (fun _ h9 => h9) rfl dX7_cases_103 ?_
                skip
                refine zw_VN (As := [.int 3, .int de, .int se]) (rest := []) (wr := [(x0, .inr (7, [.ref xs, .ref j0, .ref k0, .ref w0, .ref rd, .ref mv, .ref xr, .int im, .int lf])), (xr, .inl (cI, 8, .inl fr)), (wl, .inl (cI, 125, .inl q_141)), (wc, .inl (cI, 3, .inl q_142)), (j0, .inr (0, [.ref z0, .ref jp, .ref jc, .int cn, .int de, .int tr, .int se, .int hu, .int sd])), (jp, .inl (cP, 8, .inr (.inr (.inr (.inr fp))))), (jc, .inl (cI, 3, .inl fjc))]) ⟨hx, hb, hml, hown, hts⟩ (c_W_most_3 l D cI cJ cZ cP cS po w0 wk wl wc wp (q_137) (q_138) (q_139) q_143 q_140 (de) (se) hbq_137.1 hbq_137.2 hbq_138.1 hbq_138.2 hbq_139.1 hbq_139.2 hwq_143 hy6 hy7 H.size) ⟨(va_cnB 3 hts gX7_cases_X5_most_n208 rfl rfl rfl (hN.1 (RX7, 208, yX5_most) (List.mem_of_getElem? (i := 10) rfl)) (hts _ (List.mem_of_getElem? (i := 22) rfl)) dh_X5_most ⟨Nat.le_of_ble_eq_true rfl, Nat.le_of_ble_eq_true rfl⟩), (hts _ (List.mem_of_getElem? (i := 95) rfl)), (hts _ (List.mem_of_getElem? (i := 96) rfl))⟩ hK hN (hZ.kept hS) hP hD hS hA [2, 3, 6] [0, 1, 4, 5, 7, 8, 9] rfl rfl (by decide) (by decide) (by decide) (va_recv (q := (RX5, TX5, 7)) hK hP (ci := 5) (q0 := 2) rfl rfl) rfl hl.1 rfl (Nat.le_of_ble_eq_true rfl) dX7_cases_106 ⟨Nat.le_of_ble_eq_true rfl, Nat.le_of_ble_eq_true rfl⟩ (fun r_145 u_146 H locs hr_145 hP hD hS => ?_)
                obtain ⟨q_147, rfl⟩ : ∃ z, z = u_146 := ⟨_, rfl⟩
                have h9R := zRe (ws' := [(x0, .inr (7, [.ref xs, .ref j0, .ref k0, .ref w0, .ref rd, .ref mv, .ref xr, .int im, .int lf])), (xr, .inl (cI, 8, .inl fr)), (wl, .inl (cI, 125, .inl q_141)), (wc, .inl (cI, 3, .inl q_142)), (j0, .inr (0, [.ref z0, .ref jp, .ref jc, .int cn, .int de, .int tr, .int se, .int hu, .int sd])), (jp, .inl (cP, 8, .inr (.inr (.inr (.inr fp))))), (jc, .inl (cI, 3, .inl fjc)), (w0, .inr (5, [.ref wk, .ref wl, .ref wc, .ref wp, .int q_137, .int q_138, .int q_139])), (wk, .inl (cI, 125, .inl q_147)), (wp, .inl (cP, 8, .inr (.inr (.inr (.inr q_143)))))]) hP hD rfl
                clear hP hD
                obtain ⟨hP, hD⟩ := h9R
                exact W.iret (v := r_145) hx hb hr (fun t ht hW => ⟨⟨r_145, (q_137, q_138, q_139, q_147, q_141, q_142, q_143, fr), rfl, ⟨(show 0 ≤ q_137.toInt ∧ q_137.toInt ≤ 8 from hbq_137), (show 0 ≤ q_138.toInt ∧ q_138.toInt ≤ 9 from hbq_138), (show 0 ≤ q_139.toInt ∧ q_139.toInt ≤ 60 from hbq_139), hpq_142, hwq_143, trivial⟩, zRet ht hP hD [0, 1, 4, 7, 8, 2, 3, 9, 5, 6] (by decide) rfl⟩, hS.F ht⟩) hS.2.2 dX7_cases_109
              · have fc_144 : w.toInt = 1 := zf_eq c_144 rfl (by decide)
                refine lv_aload_n hx hb dX7_cases_64 rfl (lv_at hl 0 rfl) ?_
                refine va_get (D := D) (ci := 7) (v := .ref w0) (C := RX7) (T := TX7) (N := 9) hx hb hts hi_X7_cases_7 hown hK hP 0 rfl rfl 3 (by decide) (hts (.fieldLink RX7 28 "TheLiningsInIt" "ways" "LTheLiningsInIt$Ways;") (List.mem_of_getElem? (i := 1) rfl)) (fun _ h9 => h9) rfl dX7_cases_65 ?_
                refine lv_iload_n hx hb dX7_cases_68 rfl (lv_at hl 1 rfl) ?_
                refine lv_aload_n hx hb dX7_cases_69 rfl (lv_at hl 0 rfl) ?_
                refine va_get (D := D) (ci := 7) (v := .ref j0) (C := RX7) (T := TX7) (N := 9) hx hb hts hi_X7_cases_7 hown hK hP 0 rfl rfl 1 (by decide) (hts (.fieldLink RX7 18 "TheLiningsInIt" "now" "LTheLiningsInIt$Jacket;") (List.mem_of_getElem? (i := 2) rfl)) (fun _ h9 => h9) rfl dX7_cases_70 ?_
                refine va_get (D := D) (ci := 0) (v := .int de) (C := RX0) (T := TX0) (N := 9) hx hb hts hi_X7_cases_0 hown hK hP 7 rfl rfl 4 (by decide) (hts (.fieldLink RX7 199 "TheLiningsInIt$Jacket" "depth" "I") (List.mem_of_getElem? (i := 4) rfl)) (fun _ h9 => h9) rfl dX7_cases_73 ?_
                refine lv_aload_n hx hb dX7_cases_76 rfl (lv_at hl 0 rfl) ?_
                refine va_get (D := D) (ci := 7) (v := .ref j0) (C := RX7) (T := TX7) (N := 9) hx hb hts hi_X7_cases_7 hown hK hP 0 rfl rfl 1 (by decide) (hts (.fieldLink RX7 18 "TheLiningsInIt" "now" "LTheLiningsInIt$Jacket;") (List.mem_of_getElem? (i := 2) rfl)) (fun _ h9 => h9) rfl dX7_cases_77 ?_
                refine va_get (D := D) (ci := 0) (v := .int se) (C := RX0) (T := TX0) (N := 9) hx hb hts hi_X7_cases_0 hown hK hP 7 rfl rfl 6 (by decide) (hts (.fieldLink RX7 202 "TheLiningsInIt$Jacket" "seconds" "I") (List.mem_of_getElem? (i := 5) rfl)) (fun _ h9 => h9) rfl dX7_cases_80 ?_
                skip
                refine zw_V (As := [.int 3, .int de, .int se]) (rest := []) (wr := [(x0, .inr (7, [.ref xs, .ref j0, .ref k0, .ref w0, .ref rd, .ref mv, .ref xr, .int im, .int lf])), (xr, .inl (cI, 8, .inl fr)), (wl, .inl (cI, 125, .inl q_141)), (wc, .inl (cI, 3, .inl q_142)), (j0, .inr (0, [.ref z0, .ref jp, .ref jc, .int cn, .int de, .int tr, .int se, .int hu, .int sd])), (jp, .inl (cP, 8, .inr (.inr (.inr (.inr fp))))), (jc, .inl (cI, 3, .inl fjc))]) ⟨hx, hb, hml, hown, hts⟩ (c_W_next_3 l D cI cJ cZ cP cS po w0 wk wl wc wp (q_137) (q_138) (q_139) q_143 q_140 (de) (se) hbq_137.1 hbq_137.2 hbq_138.1 hbq_138.2 hbq_139.1 hbq_139.2 hwq_143 hy6 hy7 H.size) (cwV 3 hts gX7_cases_X5_next rfl rfl rfl ⟨rfl, dh_X5_next⟩ ⟨Nat.le_of_ble_eq_true rfl, Nat.le_of_ble_eq_true rfl⟩) hK hN (hZ.kept hS) hP hD hS hA [2, 3, 6] [0, 1, 4, 5, 7, 8, 9] rfl rfl (by decide) (by decide) (by decide) (va_recv (q := (RX5, TX5, 7)) hK hP (ci := 5) (q0 := 2) rfl rfl) rfl hl.1 rfl (Nat.le_of_ble_eq_true rfl) dX7_cases_83 ⟨Nat.le_of_ble_eq_true rfl, Nat.le_of_ble_eq_true rfl⟩ (fun r_148 u_149 H locs hr_148 hP hD hS => ?_)
                obtain ⟨q_150, rfl⟩ : ∃ z, z = u_149 := ⟨_, rfl⟩
                have h9R := zRe (ws' := [(x0, .inr (7, [.ref xs, .ref j0, .ref k0, .ref w0, .ref rd, .ref mv, .ref xr, .int im, .int lf])), (xr, .inl (cI, 8, .inl fr)), (wl, .inl (cI, 125, .inl q_141)), (wc, .inl (cI, 3, .inl q_142)), (j0, .inr (0, [.ref z0, .ref jp, .ref jc, .int cn, .int de, .int tr, .int se, .int hu, .int sd])), (jp, .inl (cP, 8, .inr (.inr (.inr (.inr fp))))), (jc, .inl (cI, 3, .inl fjc)), (w0, .inr (5, [.ref wk, .ref wl, .ref wc, .ref wp, .int q_137, .int q_138, .int q_139])), (wk, .inl (cI, 125, .inl q_150)), (wp, .inl (cP, 8, .inr (.inr (.inr (.inr q_143)))))]) hP hD rfl
                clear hP hD
                obtain ⟨hP, hD⟩ := h9R
                exact W.iret (v := r_148) hx hb hr (fun t ht hW => ⟨⟨r_148, (q_137, q_138, q_139, q_150, q_141, q_142, q_143, fr), rfl, ⟨(show 0 ≤ q_137.toInt ∧ q_137.toInt ≤ 8 from hbq_137), (show 0 ≤ q_138.toInt ∧ q_138.toInt ≤ 9 from hbq_138), (show 0 ≤ q_139.toInt ∧ q_139.toInt ≤ 60 from hbq_139), hpq_142, hwq_143, trivial⟩, zRet ht hP hD [0, 1, 4, 7, 8, 2, 3, 9, 5, 6] (by decide) rfl⟩, hS.F ht⟩) hS.2.2 dX7_cases_86
          · refine lv_aload_n hx hb dX7_cases_31 rfl (lv_at hl 0 rfl) ?_
            refine va_get (D := D) (ci := 7) (v := .ref w0) (C := RX7) (T := TX7) (N := 9) hx hb hts hi_X7_cases_7 hown hK hP 0 rfl rfl 3 (by decide) (hts (.fieldLink RX7 28 "TheLiningsInIt" "ways" "LTheLiningsInIt$Ways;") (List.mem_of_getElem? (i := 1) rfl)) (fun _ h9 => h9) rfl dX7_cases_32 ?_
            refine lv_aload_n hx hb dX7_cases_35 rfl (lv_at hl 0 rfl) ?_
            refine va_get (D := D) (ci := 7) (v := .ref j0) (C := RX7) (T := TX7) (N := 9) hx hb hts hi_X7_cases_7 hown hK hP 0 rfl rfl 1 (by decide) (hts (.fieldLink RX7 18 "TheLiningsInIt" "now" "LTheLiningsInIt$Jacket;") (List.mem_of_getElem? (i := 2) rfl)) (fun _ h9 => h9) rfl dX7_cases_36 ?_
            refine lv_aload_n hx hb dX7_cases_39 rfl (lv_at hl 0 rfl) ?_
            refine va_get (D := D) (ci := 7) (v := .ref j0) (C := RX7) (T := TX7) (N := 9) hx hb hts hi_X7_cases_7 hown hK hP 0 rfl rfl 1 (by decide) (hts (.fieldLink RX7 18 "TheLiningsInIt" "now" "LTheLiningsInIt$Jacket;") (List.mem_of_getElem? (i := 2) rfl)) (fun _ h9 => h9) rfl dX7_cases_40 ?_
            refine va_get (D := D) (ci := 0) (v := .int hu) (C := RX0) (T := TX0) (N := 9) hx hb hts hi_X7_cases_0 hown hK hP 2 rfl rfl 7 (by decide) (hts (.fieldLink RX7 116 "TheLiningsInIt$Jacket" "hurry" "I") (List.mem_of_getElem? (i := 3) rfl)) (fun _ h9 => h9) rfl dX7_cases_43 ?_
            refine lv_iload_n hx hb dX7_cases_46 rfl (lv_at hl 2 rfl) ?_
            refine lv_iconst (v := 2) hx hb dX7_cases_47 (by decide) ?_
            refine lv_icmp_eq (tgt := 55) hx hb dX7_cases_48 (by decide) (fun c_151 => ?_) (fun c_151 => ?_)
            · have fc_151 : w.toInt = 2 := zf_eq c_151 rfl (by decide)
              refine lv_iconst (v := 0) hx hb dX7_cases_55 (by decide) ?_
              skip
              refine zw_Vv (As := [.ref j0, .int hu, .int 0]) (rest := []) (wr := [(x0, .inr (7, [.ref xs, .ref j0, .ref k0, .ref w0, .ref rd, .ref mv, .ref xr, .int im, .int lf])), (xr, .inl (cI, 8, .inl fr))]) ⟨hx, hb, hml, hown, hts⟩ (c_W_look l D cI cJ cZ cP cS po w0 wk wl wc wp (wn) (wh) (wg) j0 jp jc z0 0 0 (cn) (de) (tr) (se) (hu) (sd) fp fq kf af tf fk fl fc fjc (hu) (0) hy10 hy11 hy12 hy13 hy14 hy15 hy4 hy5 hy6 hy7 hy8 hy9 hy8 hy9 hwq hjp hp_fc hp_fjc H.size) (cwV 3 hts gX7_cases_X5_look rfl rfl rfl ⟨rfl, dh_X5_look⟩ ⟨Nat.le_of_ble_eq_true rfl, Nat.le_of_ble_eq_true rfl⟩) hK hN (hZ.kept hS) hP hD hS hA [3, 4, 5, 6, 7, 2, 8, 9] [0, 1] rfl rfl (by decide) (by decide) (by decide) (va_recv (q := (RX5, TX5, 7)) hK hP (ci := 5) (q0 := 3) rfl rfl) rfl hl.1 rfl (Nat.le_of_ble_eq_true rfl) dX7_cases_56 ⟨Nat.le_of_ble_eq_true rfl, Nat.le_of_ble_eq_true rfl⟩ (fun u_153 H locs hr_152 hP hD hS => ?_)
              obtain ⟨q_154, q_155, q_156, q_157, q_158, q_159, q_160⟩ := u_153
              try dsimp only at hr_152
              obtain ⟨hbq_154, hbq_155, hbq_156, hpq_159, hwq_160, hr_152⟩ := hr_152
              have h9R := zRe (ws' := [(x0, .inr (7, [.ref xs, .ref j0, .ref k0, .ref w0, .ref rd, .ref mv, .ref xr, .int im, .int lf])), (xr, .inl (cI, 8, .inl fr)), (w0, .inr (5, [.ref wk, .ref wl, .ref wc, .ref wp, .int q_154, .int q_155, .int q_156])), (wk, .inl (cI, 125, .inl q_157)), (wl, .inl (cI, 125, .inl q_158)), (wc, .inl (cI, 3, .inl q_159)), (wp, .inl (cP, 8, .inr (.inr (.inr (.inr q_160))))), (j0, .inr (0, [.ref z0, .ref jp, .ref jc, .int cn, .int de, .int tr, .int se, .int hu, .int sd])), (jp, .inl (cP, 8, .inr (.inr (.inr (.inr fp))))), (jc, .inl (cI, 3, .inl fjc))]) hP hD rfl
              clear hP hD
              obtain ⟨hP, hD⟩ := h9R
              refine lv_iload_n hx hb dX7_cases_59 rfl (lv_at hl 2 rfl) ?_
              refine lv_iconst (v := 1) hx hb dX7_cases_60 (by decide) ?_
              refine lv_icmp_ne (tgt := 87) hx hb dX7_cases_61 (by decide) (fun c_161 => ?_) (fun c_161 => ?_)
              · have fc_161 : w.toInt ≠ 1 := zf_ne c_161 rfl (by decide)
                refine lv_aload_n hx hb dX7_cases_87 rfl (lv_at hl 0 rfl) ?_
                refine va_get (D := D) (ci := 7) (v := .ref w0) (C := RX7) (T := TX7) (N := 9) hx hb hts hi_X7_cases_7 hown hK hP 0 rfl rfl 3 (by decide) (hts (.fieldLink RX7 28 "TheLiningsInIt" "ways" "LTheLiningsInIt$Ways;") (List.mem_of_getElem? (i := 1) rfl)) (fun _ h9 => h9) rfl dX7_cases_88 ?_
                refine lv_iload_n hx hb dX7_cases_91 rfl (lv_at hl 1 rfl) ?_
                refine lv_aload_n hx hb dX7_cases_92 rfl (lv_at hl 0 rfl) ?_
                refine va_get (D := D) (ci := 7) (v := .ref j0) (C := RX7) (T := TX7) (N := 9) hx hb hts hi_X7_cases_7 hown hK hP 0 rfl rfl 1 (by decide) (hts (.fieldLink RX7 18 "TheLiningsInIt" "now" "LTheLiningsInIt$Jacket;") (List.mem_of_getElem? (i := 2) rfl)) (fun _ h9 => h9) rfl dX7_cases_93 ?_
                refine va_get (D := D) (ci := 0) (v := .int de) (C := RX0) (T := TX0) (N := 9) hx hb hts hi_X7_cases_0 hown hK hP 7 rfl rfl 4 (by decide) (hts (.fieldLink RX7 199 "TheLiningsInIt$Jacket" "depth" "I") (List.mem_of_getElem? (i := 4) rfl)) (fun _ h9 => h9) rfl dX7_cases_96 ?_
                refine lv_aload_n hx hb dX7_cases_99 rfl (lv_at hl 0 rfl) ?_
                refine va_get (D := D) (ci := 7) (v := .ref j0) (C := RX7) (T := TX7) (N := 9) hx hb hts hi_X7_cases_7 hown hK hP 0 rfl rfl 1 (by decide) (hts (.fieldLink RX7 18 "TheLiningsInIt" "now" "LTheLiningsInIt$Jacket;") (List.mem_of_getElem? (i := 2) rfl)) (fun _ h9 => h9) rfl dX7_cases_100 ?_
                refine va_get (D := D) (ci := 0) (v := .int se) (C := RX0) (T := TX0) (N := 9) hx hb hts hi_X7_cases_0 hown hK hP 7 rfl rfl 6 (by decide) (hts (.fieldLink RX7 202 "TheLiningsInIt$Jacket" "seconds" "I") (List.mem_of_getElem? (i := 5) rfl)) (fun _ h9 => h9) rfl dX7_cases_103 ?_
                skip
                refine zw_VN (As := [.int 4, .int de, .int se]) (rest := []) (wr := [(x0, .inr (7, [.ref xs, .ref j0, .ref k0, .ref w0, .ref rd, .ref mv, .ref xr, .int im, .int lf])), (xr, .inl (cI, 8, .inl fr)), (wl, .inl (cI, 125, .inl q_158)), (wc, .inl (cI, 3, .inl q_159)), (j0, .inr (0, [.ref z0, .ref jp, .ref jc, .int cn, .int de, .int tr, .int se, .int hu, .int sd])), (jp, .inl (cP, 8, .inr (.inr (.inr (.inr fp))))), (jc, .inl (cI, 3, .inl fjc))]) ⟨hx, hb, hml, hown, hts⟩ (c_W_most_4 l D cI cJ cZ cP cS po w0 wk wl wc wp (q_154) (q_155) (q_156) q_160 q_157 (de) (se) hbq_154.1 hbq_154.2 hbq_155.1 hbq_155.2 hbq_156.1 hbq_156.2 hwq_160 hy6 hy7 H.size) ⟨(va_cnB 3 hts gX7_cases_X5_most_n208 rfl rfl rfl (hN.1 (RX7, 208, yX5_most) (List.mem_of_getElem? (i := 10) rfl)) (hts _ (List.mem_of_getElem? (i := 22) rfl)) dh_X5_most ⟨Nat.le_of_ble_eq_true rfl, Nat.le_of_ble_eq_true rfl⟩), (hts _ (List.mem_of_getElem? (i := 95) rfl)), (hts _ (List.mem_of_getElem? (i := 96) rfl))⟩ hK hN (hZ.kept hS) hP hD hS hA [2, 3, 6] [0, 1, 4, 5, 7, 8, 9] rfl rfl (by decide) (by decide) (by decide) (va_recv (q := (RX5, TX5, 7)) hK hP (ci := 5) (q0 := 2) rfl rfl) rfl hl.1 rfl (Nat.le_of_ble_eq_true rfl) dX7_cases_106 ⟨Nat.le_of_ble_eq_true rfl, Nat.le_of_ble_eq_true rfl⟩ (fun r_162 u_163 H locs hr_162 hP hD hS => ?_)
                obtain ⟨q_164, rfl⟩ : ∃ z, z = u_163 := ⟨_, rfl⟩
                have h9R := zRe (ws' := [(x0, .inr (7, [.ref xs, .ref j0, .ref k0, .ref w0, .ref rd, .ref mv, .ref xr, .int im, .int lf])), (xr, .inl (cI, 8, .inl fr)), (wl, .inl (cI, 125, .inl q_158)), (wc, .inl (cI, 3, .inl q_159)), (j0, .inr (0, [.ref z0, .ref jp, .ref jc, .int cn, .int de, .int tr, .int se, .int hu, .int sd])), (jp, .inl (cP, 8, .inr (.inr (.inr (.inr fp))))), (jc, .inl (cI, 3, .inl fjc)), (w0, .inr (5, [.ref wk, .ref wl, .ref wc, .ref wp, .int q_154, .int q_155, .int q_156])), (wk, .inl (cI, 125, .inl q_164)), (wp, .inl (cP, 8, .inr (.inr (.inr (.inr q_160)))))]) hP hD rfl
                clear hP hD
                obtain ⟨hP, hD⟩ := h9R
                exact W.iret (v := r_162) hx hb hr (fun t ht hW => ⟨⟨r_162, (q_154, q_155, q_156, q_164, q_158, q_159, q_160, fr), rfl, ⟨(show 0 ≤ q_154.toInt ∧ q_154.toInt ≤ 8 from hbq_154), (show 0 ≤ q_155.toInt ∧ q_155.toInt ≤ 9 from hbq_155), (show 0 ≤ q_156.toInt ∧ q_156.toInt ≤ 60 from hbq_156), hpq_159, hwq_160, trivial⟩, zRet ht hP hD [0, 1, 4, 7, 8, 2, 3, 9, 5, 6] (by decide) rfl⟩, hS.F ht⟩) hS.2.2 dX7_cases_109
              · exfalso; have fc_161 : w.toInt = 1 := zf_eq c_161 rfl (by decide); omega
            · have fc_151 : w.toInt ≠ 2 := zf_ne c_151 rfl (by decide)
              refine lv_iconst (v := 1) hx hb dX7_cases_51 (by decide) ?_
              refine lv_goto (tgt := 56) hx hb dX7_cases_52 (by decide) ?_
              skip
              refine zw_Vv (As := [.ref j0, .int hu, .int 1]) (rest := []) (wr := [(x0, .inr (7, [.ref xs, .ref j0, .ref k0, .ref w0, .ref rd, .ref mv, .ref xr, .int im, .int lf])), (xr, .inl (cI, 8, .inl fr))]) ⟨hx, hb, hml, hown, hts⟩ (c_W_look l D cI cJ cZ cP cS po w0 wk wl wc wp (wn) (wh) (wg) j0 jp jc z0 0 0 (cn) (de) (tr) (se) (hu) (sd) fp fq kf af tf fk fl fc fjc (hu) (1) hy10 hy11 hy12 hy13 hy14 hy15 hy4 hy5 hy6 hy7 hy8 hy9 hy8 hy9 hwq hjp hp_fc hp_fjc H.size) (cwV 3 hts gX7_cases_X5_look rfl rfl rfl ⟨rfl, dh_X5_look⟩ ⟨Nat.le_of_ble_eq_true rfl, Nat.le_of_ble_eq_true rfl⟩) hK hN (hZ.kept hS) hP hD hS hA [3, 4, 5, 6, 7, 2, 8, 9] [0, 1] rfl rfl (by decide) (by decide) (by decide) (va_recv (q := (RX5, TX5, 7)) hK hP (ci := 5) (q0 := 3) rfl rfl) rfl hl.1 rfl (Nat.le_of_ble_eq_true rfl) dX7_cases_56 ⟨Nat.le_of_ble_eq_true rfl, Nat.le_of_ble_eq_true rfl⟩ (fun u_166 H locs hr_165 hP hD hS => ?_)
              obtain ⟨q_167, q_168, q_169, q_170, q_171, q_172, q_173⟩ := u_166
              try dsimp only at hr_165
              obtain ⟨hbq_167, hbq_168, hbq_169, hpq_172, hwq_173, hr_165⟩ := hr_165
              have h9R := zRe (ws' := [(x0, .inr (7, [.ref xs, .ref j0, .ref k0, .ref w0, .ref rd, .ref mv, .ref xr, .int im, .int lf])), (xr, .inl (cI, 8, .inl fr)), (w0, .inr (5, [.ref wk, .ref wl, .ref wc, .ref wp, .int q_167, .int q_168, .int q_169])), (wk, .inl (cI, 125, .inl q_170)), (wl, .inl (cI, 125, .inl q_171)), (wc, .inl (cI, 3, .inl q_172)), (wp, .inl (cP, 8, .inr (.inr (.inr (.inr q_173))))), (j0, .inr (0, [.ref z0, .ref jp, .ref jc, .int cn, .int de, .int tr, .int se, .int hu, .int sd])), (jp, .inl (cP, 8, .inr (.inr (.inr (.inr fp))))), (jc, .inl (cI, 3, .inl fjc))]) hP hD rfl
              clear hP hD
              obtain ⟨hP, hD⟩ := h9R
              refine lv_iload_n hx hb dX7_cases_59 rfl (lv_at hl 2 rfl) ?_
              refine lv_iconst (v := 1) hx hb dX7_cases_60 (by decide) ?_
              refine lv_icmp_ne (tgt := 87) hx hb dX7_cases_61 (by decide) (fun c_174 => ?_) (fun c_174 => ?_)
              · have fc_174 : w.toInt ≠ 1 := zf_ne c_174 rfl (by decide)
                refine lv_aload_n hx hb dX7_cases_87 rfl (lv_at hl 0 rfl) ?_
                refine va_get (D := D) (ci := 7) (v := .ref w0) (C := RX7) (T := TX7) (N := 9) hx hb hts hi_X7_cases_7 hown hK hP 0 rfl rfl 3 (by decide) (hts (.fieldLink RX7 28 "TheLiningsInIt" "ways" "LTheLiningsInIt$Ways;") (List.mem_of_getElem? (i := 1) rfl)) (fun _ h9 => h9) rfl dX7_cases_88 ?_
                refine lv_iload_n hx hb dX7_cases_91 rfl (lv_at hl 1 rfl) ?_
                refine lv_aload_n hx hb dX7_cases_92 rfl (lv_at hl 0 rfl) ?_
                refine va_get (D := D) (ci := 7) (v := .ref j0) (C := RX7) (T := TX7) (N := 9) hx hb hts hi_X7_cases_7 hown hK hP 0 rfl rfl 1 (by decide) (hts (.fieldLink RX7 18 "TheLiningsInIt" "now" "LTheLiningsInIt$Jacket;") (List.mem_of_getElem? (i := 2) rfl)) (fun _ h9 => h9) rfl dX7_cases_93 ?_
                refine va_get (D := D) (ci := 0) (v := .int de) (C := RX0) (T := TX0) (N := 9) hx hb hts hi_X7_cases_0 hown hK hP 7 rfl rfl 4 (by decide) (hts (.fieldLink RX7 199 "TheLiningsInIt$Jacket" "depth" "I") (List.mem_of_getElem? (i := 4) rfl)) (fun _ h9 => h9) rfl dX7_cases_96 ?_
                refine lv_aload_n hx hb dX7_cases_99 rfl (lv_at hl 0 rfl) ?_
                refine va_get (D := D) (ci := 7) (v := .ref j0) (C := RX7) (T := TX7) (N := 9) hx hb hts hi_X7_cases_7 hown hK hP 0 rfl rfl 1 (by decide) (hts (.fieldLink RX7 18 "TheLiningsInIt" "now" "LTheLiningsInIt$Jacket;") (List.mem_of_getElem? (i := 2) rfl)) (fun _ h9 => h9) rfl dX7_cases_100 ?_
                refine va_get (D := D) (ci := 0) (v := .int se) (C := RX0) (T := TX0) (N := 9) hx hb hts hi_X7_cases_0 hown hK hP 7 rfl rfl 6 (by decide) (hts (.fieldLink RX7 202 "TheLiningsInIt$Jacket" "seconds" "I") (List.mem_of_getElem? (i := 5) rfl)) (fun _ h9 => h9) rfl dX7_cases_103 ?_
                skip
                refine zw_VN (As := [.int 4, .int de, .int se]) (rest := []) (wr := [(x0, .inr (7, [.ref xs, .ref j0, .ref k0, .ref w0, .ref rd, .ref mv, .ref xr, .int im, .int lf])), (xr, .inl (cI, 8, .inl fr)), (wl, .inl (cI, 125, .inl q_171)), (wc, .inl (cI, 3, .inl q_172)), (j0, .inr (0, [.ref z0, .ref jp, .ref jc, .int cn, .int de, .int tr, .int se, .int hu, .int sd])), (jp, .inl (cP, 8, .inr (.inr (.inr (.inr fp))))), (jc, .inl (cI, 3, .inl fjc))]) ⟨hx, hb, hml, hown, hts⟩ (c_W_most_4 l D cI cJ cZ cP cS po w0 wk wl wc wp (q_167) (q_168) (q_169) q_173 q_170 (de) (se) hbq_167.1 hbq_167.2 hbq_168.1 hbq_168.2 hbq_169.1 hbq_169.2 hwq_173 hy6 hy7 H.size) ⟨(va_cnB 3 hts gX7_cases_X5_most_n208 rfl rfl rfl (hN.1 (RX7, 208, yX5_most) (List.mem_of_getElem? (i := 10) rfl)) (hts _ (List.mem_of_getElem? (i := 22) rfl)) dh_X5_most ⟨Nat.le_of_ble_eq_true rfl, Nat.le_of_ble_eq_true rfl⟩), (hts _ (List.mem_of_getElem? (i := 95) rfl)), (hts _ (List.mem_of_getElem? (i := 96) rfl))⟩ hK hN (hZ.kept hS) hP hD hS hA [2, 3, 6] [0, 1, 4, 5, 7, 8, 9] rfl rfl (by decide) (by decide) (by decide) (va_recv (q := (RX5, TX5, 7)) hK hP (ci := 5) (q0 := 2) rfl rfl) rfl hl.1 rfl (Nat.le_of_ble_eq_true rfl) dX7_cases_106 ⟨Nat.le_of_ble_eq_true rfl, Nat.le_of_ble_eq_true rfl⟩ (fun r_175 u_176 H locs hr_175 hP hD hS => ?_)
                obtain ⟨q_177, rfl⟩ : ∃ z, z = u_176 := ⟨_, rfl⟩
                have h9R := zRe (ws' := [(x0, .inr (7, [.ref xs, .ref j0, .ref k0, .ref w0, .ref rd, .ref mv, .ref xr, .int im, .int lf])), (xr, .inl (cI, 8, .inl fr)), (wl, .inl (cI, 125, .inl q_171)), (wc, .inl (cI, 3, .inl q_172)), (j0, .inr (0, [.ref z0, .ref jp, .ref jc, .int cn, .int de, .int tr, .int se, .int hu, .int sd])), (jp, .inl (cP, 8, .inr (.inr (.inr (.inr fp))))), (jc, .inl (cI, 3, .inl fjc)), (w0, .inr (5, [.ref wk, .ref wl, .ref wc, .ref wp, .int q_167, .int q_168, .int q_169])), (wk, .inl (cI, 125, .inl q_177)), (wp, .inl (cP, 8, .inr (.inr (.inr (.inr q_173)))))]) hP hD rfl
                clear hP hD
                obtain ⟨hP, hD⟩ := h9R
                exact W.iret (v := r_175) hx hb hr (fun t ht hW => ⟨⟨r_175, (q_167, q_168, q_169, q_177, q_171, q_172, q_173, fr), rfl, ⟨(show 0 ≤ q_167.toInt ∧ q_167.toInt ≤ 8 from hbq_167), (show 0 ≤ q_168.toInt ∧ q_168.toInt ≤ 9 from hbq_168), (show 0 ≤ q_169.toInt ∧ q_169.toInt ≤ 60 from hbq_169), hpq_172, hwq_173, trivial⟩, zRet ht hP hD [0, 1, 4, 7, 8, 2, 3, 9, 5, 6] (by decide) rfl⟩, hS.F ht⟩) hS.2.2 dX7_cases_109
              · have fc_174 : w.toInt = 1 := zf_eq c_174 rfl (by decide)
                refine lv_aload_n hx hb dX7_cases_64 rfl (lv_at hl 0 rfl) ?_
                refine va_get (D := D) (ci := 7) (v := .ref w0) (C := RX7) (T := TX7) (N := 9) hx hb hts hi_X7_cases_7 hown hK hP 0 rfl rfl 3 (by decide) (hts (.fieldLink RX7 28 "TheLiningsInIt" "ways" "LTheLiningsInIt$Ways;") (List.mem_of_getElem? (i := 1) rfl)) (fun _ h9 => h9) rfl dX7_cases_65 ?_
                refine lv_iload_n hx hb dX7_cases_68 rfl (lv_at hl 1 rfl) ?_
                refine lv_aload_n hx hb dX7_cases_69 rfl (lv_at hl 0 rfl) ?_
                refine va_get (D := D) (ci := 7) (v := .ref j0) (C := RX7) (T := TX7) (N := 9) hx hb hts hi_X7_cases_7 hown hK hP 0 rfl rfl 1 (by decide) (hts (.fieldLink RX7 18 "TheLiningsInIt" "now" "LTheLiningsInIt$Jacket;") (List.mem_of_getElem? (i := 2) rfl)) (fun _ h9 => h9) rfl dX7_cases_70 ?_
                refine va_get (D := D) (ci := 0) (v := .int de) (C := RX0) (T := TX0) (N := 9) hx hb hts hi_X7_cases_0 hown hK hP 7 rfl rfl 4 (by decide) (hts (.fieldLink RX7 199 "TheLiningsInIt$Jacket" "depth" "I") (List.mem_of_getElem? (i := 4) rfl)) (fun _ h9 => h9) rfl dX7_cases_73 ?_
                refine lv_aload_n hx hb dX7_cases_76 rfl (lv_at hl 0 rfl) ?_
                refine va_get (D := D) (ci := 7) (v := .ref j0) (C := RX7) (T := TX7) (N := 9) hx hb hts hi_X7_cases_7 hown hK hP 0 rfl rfl 1 (by decide) (hts (.fieldLink RX7 18 "TheLiningsInIt" "now" "LTheLiningsInIt$Jacket;") (List.mem_of_getElem? (i := 2) rfl)) (fun _ h9 => h9) rfl dX7_cases_77 ?_
                refine va_get (D := D) (ci := 0) (v := .int se) (C := RX0) (T := TX0) (N := 9) hx hb hts hi_X7_cases_0 hown hK hP 7 rfl rfl 6 (by decide) (hts (.fieldLink RX7 202 "TheLiningsInIt$Jacket" "seconds" "I") (List.mem_of_getElem? (i := 5) rfl)) (fun _ h9 => h9) rfl dX7_cases_80 ?_
                skip
                refine zw_V (As := [.int 4, .int de, .int se]) (rest := []) (wr := [(x0, .inr (7, [.ref xs, .ref j0, .ref k0, .ref w0, .ref rd, .ref mv, .ref xr, .int im, .int lf])), (xr, .inl (cI, 8, .inl fr)), (wl, .inl (cI, 125, .inl q_171)), (wc, .inl (cI, 3, .inl q_172)), (j0, .inr (0, [.ref z0, .ref jp, .ref jc, .int cn, .int de, .int tr, .int se, .int hu, .int sd])), (jp, .inl (cP, 8, .inr (.inr (.inr (.inr fp))))), (jc, .inl (cI, 3, .inl fjc))]) ⟨hx, hb, hml, hown, hts⟩ (c_W_next_4 l D cI cJ cZ cP cS po w0 wk wl wc wp (q_167) (q_168) (q_169) q_173 q_170 (de) (se) hbq_167.1 hbq_167.2 hbq_168.1 hbq_168.2 hbq_169.1 hbq_169.2 hwq_173 hy6 hy7 H.size) (cwV 3 hts gX7_cases_X5_next rfl rfl rfl ⟨rfl, dh_X5_next⟩ ⟨Nat.le_of_ble_eq_true rfl, Nat.le_of_ble_eq_true rfl⟩) hK hN (hZ.kept hS) hP hD hS hA [2, 3, 6] [0, 1, 4, 5, 7, 8, 9] rfl rfl (by decide) (by decide) (by decide) (va_recv (q := (RX5, TX5, 7)) hK hP (ci := 5) (q0 := 2) rfl rfl) rfl hl.1 rfl (Nat.le_of_ble_eq_true rfl) dX7_cases_83 ⟨Nat.le_of_ble_eq_true rfl, Nat.le_of_ble_eq_true rfl⟩ (fun r_178 u_179 H locs hr_178 hP hD hS => ?_)
                obtain ⟨q_180, rfl⟩ : ∃ z, z = u_179 := ⟨_, rfl⟩
                have h9R := zRe (ws' := [(x0, .inr (7, [.ref xs, .ref j0, .ref k0, .ref w0, .ref rd, .ref mv, .ref xr, .int im, .int lf])), (xr, .inl (cI, 8, .inl fr)), (wl, .inl (cI, 125, .inl q_171)), (wc, .inl (cI, 3, .inl q_172)), (j0, .inr (0, [.ref z0, .ref jp, .ref jc, .int cn, .int de, .int tr, .int se, .int hu, .int sd])), (jp, .inl (cP, 8, .inr (.inr (.inr (.inr fp))))), (jc, .inl (cI, 3, .inl fjc)), (w0, .inr (5, [.ref wk, .ref wl, .ref wc, .ref wp, .int q_167, .int q_168, .int q_169])), (wk, .inl (cI, 125, .inl q_180)), (wp, .inl (cP, 8, .inr (.inr (.inr (.inr q_173)))))]) hP hD rfl
                clear hP hD
                obtain ⟨hP, hD⟩ := h9R
                exact W.iret (v := r_178) hx hb hr (fun t ht hW => ⟨⟨r_178, (q_167, q_168, q_169, q_180, q_171, q_172, q_173, fr), rfl, ⟨(show 0 ≤ q_167.toInt ∧ q_167.toInt ≤ 8 from hbq_167), (show 0 ≤ q_168.toInt ∧ q_168.toInt ≤ 9 from hbq_168), (show 0 ≤ q_169.toInt ∧ q_169.toInt ≤ 60 from hbq_169), hpq_172, hwq_173, trivial⟩, zRet ht hP hD [0, 1, 4, 7, 8, 2, 3, 9, 5, 6] (by decide) rfl⟩, hS.F ht⟩) hS.2.2 dX7_cases_86
        · exact absurd c_30 (by decide)
    · exact absurd c_15 (by decide)
theorem hi_X7_line_7 : ∀ w ∈ u_ws RX7 TX7 9, w ∈ wsX7_line := fun w h => (gl_X7_line_X70 w h).1
theorem hi_X7_line_0 : ∀ w ∈ u_ws RX0 TX0 9, w ∈ wsX7_line := fun w h => (gl_X7_line_X00 w h).1
set_option maxHeartbeats 4000000 in
set_option maxRecDepth 100000 in
theorem c_X_line (l : Launch) (D : va_G) (cI cJ cZ cP cS : ClassId) (po : zPool) (x0 xs j0 k0 w0 rd mv xr : Nat) (im lf : Int32) (fr : Nat → Int32) (j0 jp jc z0 zl zs : Nat) (cn de tr se hu sd : Int32) (wk wl wc wp : Nat) (wn wh wg : Int32) (fq : Nat → Option Nat) (fk fl fc fjc : Nat → Int32) (fp : Nat → Option Nat) (kf af tf : Nat → Int32) (n w : Int32) (hy0 : 0 ≤ im.toInt) (hy1 : im.toInt ≤ 1) (hy2 : (-1) ≤ lf.toInt) (hy3 : lf.toInt ≤ 160) (hy4 : 0 ≤ cn.toInt) (hy5 : cn.toInt ≤ 8) (hy6 : 0 ≤ de.toInt) (hy7 : de.toInt ≤ 24) (hy8 : 0 ≤ hu.toInt) (hy9 : hu.toInt ≤ 9) (hy10 : 0 ≤ wn.toInt) (hy11 : wn.toInt ≤ 8) (hy12 : 0 ≤ wh.toInt) (hy13 : wh.toInt ≤ 9) (hy14 : 0 ≤ wg.toInt) (hy15 : wg.toInt ≤ 60) (hwq : zWP po fq) (hjp : zJP po fp cn kf af tf) (hp_fc : zRg fc (0) 99) (hp_fjc : zRg fjc (0) 99) (hpz : Nat) : Met l yX7_line wsX7_line ({ frames := 12, cells := 0, slots := 0, locals := 317 }) (va_Pc [.ref x0, .int n, .int w] (zW D (zKT cI cJ cZ cP cS) po [(x0, .inr (7, [.ref xs, .ref j0, .ref k0, .ref w0, .ref rd, .ref mv, .ref xr, .int im, .int lf])), (xr, .inl (cI, 8, .inl fr)), (j0, .inr (0, [.ref z0, .ref jp, .ref jc, .int cn, .int de, .int tr, .int se, .int hu, .int sd])), (w0, .inr (5, [.ref wk, .ref wl, .ref wc, .ref wp, .int wn, .int wh, .int wg])), (wk, .inl (cI, 125, .inl fk)), (wl, .inl (cI, 125, .inl fl)), (wc, .inl (cI, 3, .inl fc)), (wp, .inl (cP, 8, .inr (.inr (.inr (.inr fq))))), (jp, .inl (cP, 8, .inr (.inr (.inr (.inr fp))))), (jc, .inl (cI, 3, .inl fjc))] hpz)) (va_Qi (fun (r : Int32) (u : (Int32) × (Int32) × (Int32) × (Nat → Int32) × (Nat → Int32) × (Nat → Int32) × (Nat → Option Nat) × (Nat → Int32)) => (0 ≤ u.1.toInt ∧ u.1.toInt ≤ 8) ∧ (0 ≤ u.2.1.toInt ∧ u.2.1.toInt ≤ 9) ∧ (0 ≤ u.2.2.1.toInt ∧ u.2.2.1.toInt ≤ 60) ∧ zRg u.2.2.2.2.2.1 (0) 99 ∧ zWP po u.2.2.2.2.2.2.1 ∧ (True)) (zB D [(x0, .inr (7, [.ref xs, .ref j0, .ref k0, .ref w0, .ref rd, .ref mv, .ref xr, .int im, .int lf])), (xr, .inl (cI, 8, .inl fr)), (j0, .inr (0, [.ref z0, .ref jp, .ref jc, .int cn, .int de, .int tr, .int se, .int hu, .int sd])), (w0, .inr (5, [.ref wk, .ref wl, .ref wc, .ref wp, .int wn, .int wh, .int wg])), (wk, .inl (cI, 125, .inl fk)), (wl, .inl (cI, 125, .inl fl)), (wc, .inl (cI, 3, .inl fc)), (wp, .inl (cP, 8, .inr (.inr (.inr (.inr fq))))), (jp, .inl (cP, 8, .inr (.inr (.inr (.inr fp))))), (jc, .inl (cI, 3, .inl fjc))] hpz (fun (u : (Int32) × (Int32) × (Int32) × (Nat → Int32) × (Nat → Int32) × (Nat → Int32) × (Nat → Option Nat) × (Nat → Int32)) => [(x0, .inr (7, [.ref xs, .ref j0, .ref k0, .ref w0, .ref rd, .ref mv, .ref xr, .int im, .int lf])), (xr, .inl (cI, 8, .inl u.2.2.2.2.2.2.2)), (j0, .inr (0, [.ref z0, .ref jp, .ref jc, .int cn, .int de, .int tr, .int se, .int hu, .int sd])), (w0, .inr (5, [.ref wk, .ref wl, .ref wc, .ref wp, .int u.1, .int u.2.1, .int u.2.2.1])), (wk, .inl (cI, 125, .inl u.2.2.2.1)), (wl, .inl (cI, 125, .inl u.2.2.2.2.1)), (wc, .inl (cI, 3, .inl u.2.2.2.2.2.1)), (wp, .inl (cP, 8, .inr (.inr (.inr (.inr u.2.2.2.2.2.2.1))))), (jp, .inl (cP, 8, .inr (.inr (.inr (.inr fp))))), (jc, .inl (cI, 3, .inl fjc))])) (va_A [(x0, .inr (7, [.ref xs, .ref j0, .ref k0, .ref w0, .ref rd, .ref mv, .ref xr, .int im, .int lf])), (xr, .inl (cI, 8, .inl fr)), (j0, .inr (0, [.ref z0, .ref jp, .ref jc, .int cn, .int de, .int tr, .int se, .int hu, .int sd])), (w0, .inr (5, [.ref wk, .ref wl, .ref wc, .ref wp, .int wn, .int wh, .int wg])), (wk, .inl (cI, 125, .inl fk)), (wl, .inl (cI, 125, .inl fl)), (wc, .inl (cI, 3, .inl fc)), (wp, .inl (cP, 8, .inr (.inr (.inr (.inr fq))))), (jp, .inl (cP, 8, .inr (.inr (.inr (.inr fp))))), (jc, .inl (cI, 3, .inl fjc))] hpz)) 0 0 (va_A [(x0, .inr (7, [.ref xs, .ref j0, .ref k0, .ref w0, .ref rd, .ref mv, .ref xr, .int im, .int lf])), (xr, .inl (cI, 8, .inl fr)), (j0, .inr (0, [.ref z0, .ref jp, .ref jc, .int cn, .int de, .int tr, .int se, .int hu, .int sd])), (w0, .inr (5, [.ref wk, .ref wl, .ref wc, .ref wp, .int wn, .int wh, .int wg])), (wk, .inl (cI, 125, .inl fk)), (wl, .inl (cI, 125, .inl fl)), (wc, .inl (cI, 3, .inl fc)), (wp, .inl (cP, 8, .inr (.inr (.inr (.inr fq))))), (jp, .inl (cP, 8, .inr (.inr (.inr (.inr fp))))), (jc, .inl (cI, 3, .inl fjc))] hpz) := by
  refine Met.ofW (cc := cX7_line) (maxL := 3) (ret := (some .int)) (by decide) rfl ?_
  intro p e s m args below meth c s₁ B hml hv
  obtain ⟨rfl, hsz, hP, hK, hD0, hN, hZ⟩ := hv
  have hx := B.exec
  have hb := B.bytes
  have hr := B.returns
  have hts := atoms_spec (ws := wsX7_line) B.pre
  have hown : s.vm.findClass RX7 = some m.cls := findClass_of_methodNamed B.named
  have hlocks := B.notSynchronized
  subst hsz
  have hD := hD0.self (sz := s.heap.size)
  have hA := zA_of hD
  have hl := lv_entry ([.ref x0, .int n, .int w]) (n := 3) (Nat.le_of_ble_eq_true rfl)
  rw [lg_entry_eq]
  generalize (lg_sl ([.ref x0, .int n, .int w]) ++ List.replicate (3 - (lg_sl ([.ref x0, .int n, .int w])).length) Slot.unset).toArray = ls at hl ⊢
  replace hl : lv_has ls 3 [(0, .ref x0), (1, .int n), (2, .int w)] := hl
  refine zw_begin hP hD (fun H locs hP1 hS => ?_)
  clear hP
  have hP := hP1
  clear hP1
  refine lv_iload_n hx hb dX7_line_0 rfl (lv_at hl 2 rfl) ?_
  refine lv_iconst (v := 0) hx hb dX7_line_1 (by decide) ?_
  refine lv_iconst (v := 1) hx hb dX7_line_2 (by decide) ?_
  have kc0 : (0 : Int32).toInt = 0 := by decide
  have kc1 : (1 : Int32).toInt = 1 := by decide
  refine zc_S (As := [.int w, .int 0, .int 1]) (rest := []) ⟨hx, hb, hml, hown, hts⟩ (c_within l D cI cJ cZ cP cS po (w) (0) (1) ) (va_cwS 3 hts gX7_line_X7_within rfl rfl rfl dh_X7_within ⟨Nat.le_of_ble_eq_true rfl, Nat.le_of_ble_eq_true rfl⟩) hK hN (hZ.kept hS) rfl hl.1 rfl (Nat.le_of_ble_eq_true rfl) dX7_line_3 ⟨Nat.le_of_ble_eq_true rfl, Nat.le_of_ble_eq_true rfl⟩ (fun r_1 hr_1 => ?_)
  rcases hr_1 with ⟨rfl, g_2⟩ | ⟨rfl, g_3, g_4⟩ | ⟨rfl, g_5, g_6⟩
  · refine lv_if_ne (tgt := 15) hx hb dX7_line_6 (by decide) (fun c_7 => ?_) (fun c_7 => ?_)
    · exact absurd c_7 (by decide)
    · refine lv_aload_n hx hb dX7_line_9 rfl (lv_at hl 0 rfl) ?_
      refine lv_iconst (v := 5) hx hb dX7_line_10 (by decide) ?_
      skip
      refine zw_V (As := [.int 5]) (rest := []) (wr := [(j0, .inr (0, [.ref z0, .ref jp, .ref jc, .int cn, .int de, .int tr, .int se, .int hu, .int sd])), (w0, .inr (5, [.ref wk, .ref wl, .ref wc, .ref wp, .int wn, .int wh, .int wg])), (wk, .inl (cI, 125, .inl fk)), (wl, .inl (cI, 125, .inl fl)), (wc, .inl (cI, 3, .inl fc)), (wp, .inl (cP, 8, .inr (.inr (.inr (.inr fq))))), (jp, .inl (cP, 8, .inr (.inr (.inr (.inr fp))))), (jc, .inl (cI, 3, .inl fjc))]) ⟨hx, hb, hml, hown, hts⟩ (c_X_refuseLower_5 l D cI cJ cZ cP cS po x0 xs j0 k0 w0 rd mv xr (im) (lf) fr hy0 hy1 hy2 hy3 H.size) (cwV 1 hts gX7_line_X7_refuseLower rfl rfl rfl ⟨rfl, dh_X7_refuseLower⟩ ⟨Nat.le_of_ble_eq_true rfl, Nat.le_of_ble_eq_true rfl⟩) hK hN (hZ.kept hS) hP hD hS hA [0, 1] [2, 3, 4, 5, 6, 7, 8, 9] rfl rfl (by decide) (by decide) (by decide) (va_recv (q := (RX7, TX7, 9)) hK hP (ci := 7) (q0 := 0) rfl rfl) rfl hl.1 rfl (Nat.le_of_ble_eq_true rfl) dX7_line_11 ⟨Nat.le_of_ble_eq_true rfl, Nat.le_of_ble_eq_true rfl⟩ (fun r_8 u_9 H locs hr_8 hP hD hS => ?_)
      obtain ⟨q_10, rfl⟩ : ∃ z, z = u_9 := ⟨_, rfl⟩
      have h9R := zRe (ws' := [(j0, .inr (0, [.ref z0, .ref jp, .ref jc, .int cn, .int de, .int tr, .int se, .int hu, .int sd])), (w0, .inr (5, [.ref wk, .ref wl, .ref wc, .ref wp, .int wn, .int wh, .int wg])), (wk, .inl (cI, 125, .inl fk)), (wl, .inl (cI, 125, .inl fl)), (wc, .inl (cI, 3, .inl fc)), (wp, .inl (cP, 8, .inr (.inr (.inr (.inr fq))))), (jp, .inl (cP, 8, .inr (.inr (.inr (.inr fp))))), (jc, .inl (cI, 3, .inl fjc)), (x0, .inr (7, [.ref xs, .ref j0, .ref k0, .ref w0, .ref rd, .ref mv, .ref xr, .int im, .int lf])), (xr, .inl (cI, 8, .inl q_10))]) hP hD rfl
      clear hP hD
      obtain ⟨hP, hD⟩ := h9R
      obtain rfl := hr_8
      exact W.iret (v := (-15)) hx hb hr (fun t ht hW => ⟨⟨(-15), (wn, wh, wg, fk, fl, fc, fq, q_10), rfl, ⟨(show 0 ≤ wn.toInt ∧ wn.toInt ≤ 8 from ⟨hy10, hy11⟩), (show 0 ≤ wh.toInt ∧ wh.toInt ≤ 9 from ⟨hy12, hy13⟩), (show 0 ≤ wg.toInt ∧ wg.toInt ≤ 60 from ⟨hy14, hy15⟩), hp_fc, hwq, trivial⟩, zRet ht hP hD [8, 9, 0, 1, 2, 3, 4, 5, 6, 7] (by decide) rfl⟩, hS.F ht⟩) hS.2.2 dX7_line_14
  · refine lv_if_ne (tgt := 15) hx hb dX7_line_6 (by decide) (fun c_11 => ?_) (fun c_11 => ?_)
    · exact absurd c_11 (by decide)
    · refine lv_aload_n hx hb dX7_line_9 rfl (lv_at hl 0 rfl) ?_
      refine lv_iconst (v := 5) hx hb dX7_line_10 (by decide) ?_
      skip
      refine zw_V (As := [.int 5]) (rest := []) (wr := [(j0, .inr (0, [.ref z0, .ref jp, .ref jc, .int cn, .int de, .int tr, .int se, .int hu, .int sd])), (w0, .inr (5, [.ref wk, .ref wl, .ref wc, .ref wp, .int wn, .int wh, .int wg])), (wk, .inl (cI, 125, .inl fk)), (wl, .inl (cI, 125, .inl fl)), (wc, .inl (cI, 3, .inl fc)), (wp, .inl (cP, 8, .inr (.inr (.inr (.inr fq))))), (jp, .inl (cP, 8, .inr (.inr (.inr (.inr fp))))), (jc, .inl (cI, 3, .inl fjc))]) ⟨hx, hb, hml, hown, hts⟩ (c_X_refuseLower_5 l D cI cJ cZ cP cS po x0 xs j0 k0 w0 rd mv xr (im) (lf) fr hy0 hy1 hy2 hy3 H.size) (cwV 1 hts gX7_line_X7_refuseLower rfl rfl rfl ⟨rfl, dh_X7_refuseLower⟩ ⟨Nat.le_of_ble_eq_true rfl, Nat.le_of_ble_eq_true rfl⟩) hK hN (hZ.kept hS) hP hD hS hA [0, 1] [2, 3, 4, 5, 6, 7, 8, 9] rfl rfl (by decide) (by decide) (by decide) (va_recv (q := (RX7, TX7, 9)) hK hP (ci := 7) (q0 := 0) rfl rfl) rfl hl.1 rfl (Nat.le_of_ble_eq_true rfl) dX7_line_11 ⟨Nat.le_of_ble_eq_true rfl, Nat.le_of_ble_eq_true rfl⟩ (fun r_12 u_13 H locs hr_12 hP hD hS => ?_)
      obtain ⟨q_14, rfl⟩ : ∃ z, z = u_13 := ⟨_, rfl⟩
      have h9R := zRe (ws' := [(j0, .inr (0, [.ref z0, .ref jp, .ref jc, .int cn, .int de, .int tr, .int se, .int hu, .int sd])), (w0, .inr (5, [.ref wk, .ref wl, .ref wc, .ref wp, .int wn, .int wh, .int wg])), (wk, .inl (cI, 125, .inl fk)), (wl, .inl (cI, 125, .inl fl)), (wc, .inl (cI, 3, .inl fc)), (wp, .inl (cP, 8, .inr (.inr (.inr (.inr fq))))), (jp, .inl (cP, 8, .inr (.inr (.inr (.inr fp))))), (jc, .inl (cI, 3, .inl fjc)), (x0, .inr (7, [.ref xs, .ref j0, .ref k0, .ref w0, .ref rd, .ref mv, .ref xr, .int im, .int lf])), (xr, .inl (cI, 8, .inl q_14))]) hP hD rfl
      clear hP hD
      obtain ⟨hP, hD⟩ := h9R
      obtain rfl := hr_12
      exact W.iret (v := (-15)) hx hb hr (fun t ht hW => ⟨⟨(-15), (wn, wh, wg, fk, fl, fc, fq, q_14), rfl, ⟨(show 0 ≤ wn.toInt ∧ wn.toInt ≤ 8 from ⟨hy10, hy11⟩), (show 0 ≤ wh.toInt ∧ wh.toInt ≤ 9 from ⟨hy12, hy13⟩), (show 0 ≤ wg.toInt ∧ wg.toInt ≤ 60 from ⟨hy14, hy15⟩), hp_fc, hwq, trivial⟩, zRet ht hP hD [8, 9, 0, 1, 2, 3, 4, 5, 6, 7] (by decide) rfl⟩, hS.F ht⟩) hS.2.2 dX7_line_14
  · refine lv_if_ne (tgt := 15) hx hb dX7_line_6 (by decide) (fun c_15 => ?_) (fun c_15 => ?_)
    · refine lv_iload_n hx hb dX7_line_15 rfl (lv_at hl 1 rfl) ?_
      refine lv_iconst (v := 0) hx hb dX7_line_16 (by decide) ?_
      refine lv_iconst (v := 4) hx hb dX7_line_17 (by decide) ?_
      have kc4 : (4 : Int32).toInt = 4 := by decide
      refine zc_S (As := [.int n, .int 0, .int 4]) (rest := []) ⟨hx, hb, hml, hown, hts⟩ (c_within l D cI cJ cZ cP cS po (n) (0) (4) ) (va_cwS 3 hts gX7_line_X7_within rfl rfl rfl dh_X7_within ⟨Nat.le_of_ble_eq_true rfl, Nat.le_of_ble_eq_true rfl⟩) hK hN (hZ.kept hS) rfl hl.1 rfl (Nat.le_of_ble_eq_true rfl) dX7_line_18 ⟨Nat.le_of_ble_eq_true rfl, Nat.le_of_ble_eq_true rfl⟩ (fun r_16 hr_16 => ?_)
      rcases hr_16 with ⟨rfl, g_17⟩ | ⟨rfl, g_18, g_19⟩ | ⟨rfl, g_20, g_21⟩
      · refine lv_if_ne (tgt := 31) hx hb dX7_line_21 (by decide) (fun c_22 => ?_) (fun c_22 => ?_)
        · exact absurd c_22 (by decide)
        · refine lv_aload_n hx hb dX7_line_24 rfl (lv_at hl 0 rfl) ?_
          refine lv_bipush (v := 6) hx hb dX7_line_25 (by decide) ?_
          skip
          refine zw_V (As := [.int 6]) (rest := []) (wr := [(j0, .inr (0, [.ref z0, .ref jp, .ref jc, .int cn, .int de, .int tr, .int se, .int hu, .int sd])), (w0, .inr (5, [.ref wk, .ref wl, .ref wc, .ref wp, .int wn, .int wh, .int wg])), (wk, .inl (cI, 125, .inl fk)), (wl, .inl (cI, 125, .inl fl)), (wc, .inl (cI, 3, .inl fc)), (wp, .inl (cP, 8, .inr (.inr (.inr (.inr fq))))), (jp, .inl (cP, 8, .inr (.inr (.inr (.inr fp))))), (jc, .inl (cI, 3, .inl fjc))]) ⟨hx, hb, hml, hown, hts⟩ (c_X_refuseLower_6 l D cI cJ cZ cP cS po x0 xs j0 k0 w0 rd mv xr (im) (lf) fr hy0 hy1 hy2 hy3 H.size) (cwV 1 hts gX7_line_X7_refuseLower rfl rfl rfl ⟨rfl, dh_X7_refuseLower⟩ ⟨Nat.le_of_ble_eq_true rfl, Nat.le_of_ble_eq_true rfl⟩) hK hN (hZ.kept hS) hP hD hS hA [0, 1] [2, 3, 4, 5, 6, 7, 8, 9] rfl rfl (by decide) (by decide) (by decide) (va_recv (q := (RX7, TX7, 9)) hK hP (ci := 7) (q0 := 0) rfl rfl) rfl hl.1 rfl (Nat.le_of_ble_eq_true rfl) dX7_line_27 ⟨Nat.le_of_ble_eq_true rfl, Nat.le_of_ble_eq_true rfl⟩ (fun r_23 u_24 H locs hr_23 hP hD hS => ?_)
          obtain ⟨q_25, rfl⟩ : ∃ z, z = u_24 := ⟨_, rfl⟩
          have h9R := zRe (ws' := [(j0, .inr (0, [.ref z0, .ref jp, .ref jc, .int cn, .int de, .int tr, .int se, .int hu, .int sd])), (w0, .inr (5, [.ref wk, .ref wl, .ref wc, .ref wp, .int wn, .int wh, .int wg])), (wk, .inl (cI, 125, .inl fk)), (wl, .inl (cI, 125, .inl fl)), (wc, .inl (cI, 3, .inl fc)), (wp, .inl (cP, 8, .inr (.inr (.inr (.inr fq))))), (jp, .inl (cP, 8, .inr (.inr (.inr (.inr fp))))), (jc, .inl (cI, 3, .inl fjc)), (x0, .inr (7, [.ref xs, .ref j0, .ref k0, .ref w0, .ref rd, .ref mv, .ref xr, .int im, .int lf])), (xr, .inl (cI, 8, .inl q_25))]) hP hD rfl
          clear hP hD
          obtain ⟨hP, hD⟩ := h9R
          obtain rfl := hr_23
          exact W.iret (v := (-16)) hx hb hr (fun t ht hW => ⟨⟨(-16), (wn, wh, wg, fk, fl, fc, fq, q_25), rfl, ⟨(show 0 ≤ wn.toInt ∧ wn.toInt ≤ 8 from ⟨hy10, hy11⟩), (show 0 ≤ wh.toInt ∧ wh.toInt ≤ 9 from ⟨hy12, hy13⟩), (show 0 ≤ wg.toInt ∧ wg.toInt ≤ 60 from ⟨hy14, hy15⟩), hp_fc, hwq, trivial⟩, zRet ht hP hD [8, 9, 0, 1, 2, 3, 4, 5, 6, 7] (by decide) rfl⟩, hS.F ht⟩) hS.2.2 dX7_line_30
      · refine lv_if_ne (tgt := 31) hx hb dX7_line_21 (by decide) (fun c_26 => ?_) (fun c_26 => ?_)
        · exact absurd c_26 (by decide)
        · refine lv_aload_n hx hb dX7_line_24 rfl (lv_at hl 0 rfl) ?_
          refine lv_bipush (v := 6) hx hb dX7_line_25 (by decide) ?_
          skip
          refine zw_V (As := [.int 6]) (rest := []) (wr := [(j0, .inr (0, [.ref z0, .ref jp, .ref jc, .int cn, .int de, .int tr, .int se, .int hu, .int sd])), (w0, .inr (5, [.ref wk, .ref wl, .ref wc, .ref wp, .int wn, .int wh, .int wg])), (wk, .inl (cI, 125, .inl fk)), (wl, .inl (cI, 125, .inl fl)), (wc, .inl (cI, 3, .inl fc)), (wp, .inl (cP, 8, .inr (.inr (.inr (.inr fq))))), (jp, .inl (cP, 8, .inr (.inr (.inr (.inr fp))))), (jc, .inl (cI, 3, .inl fjc))]) ⟨hx, hb, hml, hown, hts⟩ (c_X_refuseLower_6 l D cI cJ cZ cP cS po x0 xs j0 k0 w0 rd mv xr (im) (lf) fr hy0 hy1 hy2 hy3 H.size) (cwV 1 hts gX7_line_X7_refuseLower rfl rfl rfl ⟨rfl, dh_X7_refuseLower⟩ ⟨Nat.le_of_ble_eq_true rfl, Nat.le_of_ble_eq_true rfl⟩) hK hN (hZ.kept hS) hP hD hS hA [0, 1] [2, 3, 4, 5, 6, 7, 8, 9] rfl rfl (by decide) (by decide) (by decide) (va_recv (q := (RX7, TX7, 9)) hK hP (ci := 7) (q0 := 0) rfl rfl) rfl hl.1 rfl (Nat.le_of_ble_eq_true rfl) dX7_line_27 ⟨Nat.le_of_ble_eq_true rfl, Nat.le_of_ble_eq_true rfl⟩ (fun r_27 u_28 H locs hr_27 hP hD hS => ?_)
          obtain ⟨q_29, rfl⟩ : ∃ z, z = u_28 := ⟨_, rfl⟩
          have h9R := zRe (ws' := [(j0, .inr (0, [.ref z0, .ref jp, .ref jc, .int cn, .int de, .int tr, .int se, .int hu, .int sd])), (w0, .inr (5, [.ref wk, .ref wl, .ref wc, .ref wp, .int wn, .int wh, .int wg])), (wk, .inl (cI, 125, .inl fk)), (wl, .inl (cI, 125, .inl fl)), (wc, .inl (cI, 3, .inl fc)), (wp, .inl (cP, 8, .inr (.inr (.inr (.inr fq))))), (jp, .inl (cP, 8, .inr (.inr (.inr (.inr fp))))), (jc, .inl (cI, 3, .inl fjc)), (x0, .inr (7, [.ref xs, .ref j0, .ref k0, .ref w0, .ref rd, .ref mv, .ref xr, .int im, .int lf])), (xr, .inl (cI, 8, .inl q_29))]) hP hD rfl
          clear hP hD
          obtain ⟨hP, hD⟩ := h9R
          obtain rfl := hr_27
          exact W.iret (v := (-16)) hx hb hr (fun t ht hW => ⟨⟨(-16), (wn, wh, wg, fk, fl, fc, fq, q_29), rfl, ⟨(show 0 ≤ wn.toInt ∧ wn.toInt ≤ 8 from ⟨hy10, hy11⟩), (show 0 ≤ wh.toInt ∧ wh.toInt ≤ 9 from ⟨hy12, hy13⟩), (show 0 ≤ wg.toInt ∧ wg.toInt ≤ 60 from ⟨hy14, hy15⟩), hp_fc, hwq, trivial⟩, zRet ht hP hD [8, 9, 0, 1, 2, 3, 4, 5, 6, 7] (by decide) rfl⟩, hS.F ht⟩) hS.2.2 dX7_line_30
      · refine lv_if_ne (tgt := 31) hx hb dX7_line_21 (by decide) (fun c_30 => ?_) (fun c_30 => ?_)
        · have hsp : n = 0 ∨ n = 1 ∨ n = 2 ∨ n = 3 ∨ n = 4 := by
            rcases (show n.toInt = 0 ∨ n.toInt = 1 ∨ n.toInt = 2 ∨ n.toInt = 3 ∨ n.toInt = 4 by omega) with h9 | h9 | h9 | h9 | h9
            · refine Or.inl ?_; exact zf_val h9 (by decide)
            · refine Or.inr (Or.inl ?_); exact zf_val h9 (by decide)
            · refine Or.inr (Or.inr (Or.inl ?_)); exact zf_val h9 (by decide)
            · refine Or.inr (Or.inr (Or.inr (Or.inl ?_))); exact zf_val h9 (by decide)
            · refine Or.inr (Or.inr (Or.inr (Or.inr (?_)))); exact zf_val h9 (by decide)
          rcases hsp with rfl | rfl | rfl | rfl | rfl
          · refine lv_aload_n hx hb dX7_line_31 rfl (lv_at hl 0 rfl) ?_
            refine va_get (D := D) (ci := 7) (v := .ref w0) (C := RX7) (T := TX7) (N := 9) hx hb hts hi_X7_line_7 hown hK hP 0 rfl rfl 3 (by decide) (hts (.fieldLink RX7 28 "TheLiningsInIt" "ways" "LTheLiningsInIt$Ways;") (List.mem_of_getElem? (i := 1) rfl)) (fun _ h9 => h9) rfl dX7_line_32 ?_
            refine lv_aload_n hx hb dX7_line_35 rfl (lv_at hl 0 rfl) ?_
            refine va_get (D := D) (ci := 7) (v := .ref j0) (C := RX7) (T := TX7) (N := 9) hx hb hts hi_X7_line_7 hown hK hP 0 rfl rfl 1 (by decide) (hts (.fieldLink RX7 18 "TheLiningsInIt" "now" "LTheLiningsInIt$Jacket;") (List.mem_of_getElem? (i := 2) rfl)) (fun _ h9 => h9) rfl dX7_line_36 ?_
            refine lv_aload_n hx hb dX7_line_39 rfl (lv_at hl 0 rfl) ?_
            refine va_get (D := D) (ci := 7) (v := .ref j0) (C := RX7) (T := TX7) (N := 9) hx hb hts hi_X7_line_7 hown hK hP 0 rfl rfl 1 (by decide) (hts (.fieldLink RX7 18 "TheLiningsInIt" "now" "LTheLiningsInIt$Jacket;") (List.mem_of_getElem? (i := 2) rfl)) (fun _ h9 => h9) rfl dX7_line_40 ?_
            refine va_get (D := D) (ci := 0) (v := .int hu) (C := RX0) (T := TX0) (N := 9) hx hb hts hi_X7_line_0 hown hK hP 2 rfl rfl 7 (by decide) (hts (.fieldLink RX7 116 "TheLiningsInIt$Jacket" "hurry" "I") (List.mem_of_getElem? (i := 3) rfl)) (fun _ h9 => h9) rfl dX7_line_43 ?_
            refine lv_iconst (v := 1) hx hb dX7_line_46 (by decide) ?_
            skip
            refine zw_Vv (As := [.ref j0, .int hu, .int 1]) (rest := []) (wr := [(x0, .inr (7, [.ref xs, .ref j0, .ref k0, .ref w0, .ref rd, .ref mv, .ref xr, .int im, .int lf])), (xr, .inl (cI, 8, .inl fr))]) ⟨hx, hb, hml, hown, hts⟩ (c_W_look l D cI cJ cZ cP cS po w0 wk wl wc wp (wn) (wh) (wg) j0 jp jc z0 0 0 (cn) (de) (tr) (se) (hu) (sd) fp fq kf af tf fk fl fc fjc (hu) (1) hy10 hy11 hy12 hy13 hy14 hy15 hy4 hy5 hy6 hy7 hy8 hy9 hy8 hy9 hwq hjp hp_fc hp_fjc H.size) (cwV 3 hts gX7_line_X5_look rfl rfl rfl ⟨rfl, dh_X5_look⟩ ⟨Nat.le_of_ble_eq_true rfl, Nat.le_of_ble_eq_true rfl⟩) hK hN (hZ.kept hS) hP hD hS hA [3, 4, 5, 6, 7, 2, 8, 9] [0, 1] rfl rfl (by decide) (by decide) (by decide) (va_recv (q := (RX5, TX5, 7)) hK hP (ci := 5) (q0 := 3) rfl rfl) rfl hl.1 rfl (Nat.le_of_ble_eq_true rfl) dX7_line_47 ⟨Nat.le_of_ble_eq_true rfl, Nat.le_of_ble_eq_true rfl⟩ (fun u_32 H locs hr_31 hP hD hS => ?_)
            obtain ⟨q_33, q_34, q_35, q_36, q_37, q_38, q_39⟩ := u_32
            try dsimp only at hr_31
            obtain ⟨hbq_33, hbq_34, hbq_35, hpq_38, hwq_39, hr_31⟩ := hr_31
            have h9R := zRe (ws' := [(x0, .inr (7, [.ref xs, .ref j0, .ref k0, .ref w0, .ref rd, .ref mv, .ref xr, .int im, .int lf])), (xr, .inl (cI, 8, .inl fr)), (w0, .inr (5, [.ref wk, .ref wl, .ref wc, .ref wp, .int q_33, .int q_34, .int q_35])), (wk, .inl (cI, 125, .inl q_36)), (wl, .inl (cI, 125, .inl q_37)), (wc, .inl (cI, 3, .inl q_38)), (wp, .inl (cP, 8, .inr (.inr (.inr (.inr q_39))))), (j0, .inr (0, [.ref z0, .ref jp, .ref jc, .int cn, .int de, .int tr, .int se, .int hu, .int sd])), (jp, .inl (cP, 8, .inr (.inr (.inr (.inr fp))))), (jc, .inl (cI, 3, .inl fjc))]) hP hD rfl
            clear hP hD
            obtain ⟨hP, hD⟩ := h9R
            refine lv_iload_n hx hb dX7_line_50 rfl (lv_at hl 2 rfl) ?_
            refine lv_iconst (v := 1) hx hb dX7_line_51 (by decide) ?_
            refine lv_icmp_ne (tgt := 78) hx hb dX7_line_52 (by decide) (fun c_40 => ?_) (fun c_40 => ?_)
            · have fc_40 : w.toInt ≠ 1 := zf_ne c_40 rfl (by decide)
              refine lv_aload_n hx hb dX7_line_78 rfl (lv_at hl 0 rfl) ?_
              refine va_get (D := D) (ci := 7) (v := .ref w0) (C := RX7) (T := TX7) (N := 9) hx hb hts hi_X7_line_7 hown hK hP 0 rfl rfl 3 (by decide) (hts (.fieldLink RX7 28 "TheLiningsInIt" "ways" "LTheLiningsInIt$Ways;") (List.mem_of_getElem? (i := 1) rfl)) (fun _ h9 => h9) rfl dX7_line_79 ?_
              refine lv_iload_n hx hb dX7_line_82 rfl (lv_at hl 1 rfl) ?_
              refine lv_aload_n hx hb dX7_line_83 rfl (lv_at hl 0 rfl) ?_
              refine va_get (D := D) (ci := 7) (v := .ref j0) (C := RX7) (T := TX7) (N := 9) hx hb hts hi_X7_line_7 hown hK hP 0 rfl rfl 1 (by decide) (hts (.fieldLink RX7 18 "TheLiningsInIt" "now" "LTheLiningsInIt$Jacket;") (List.mem_of_getElem? (i := 2) rfl)) (fun _ h9 => h9) rfl dX7_line_84 ?_
              refine va_get (D := D) (ci := 0) (v := .int de) (C := RX0) (T := TX0) (N := 9) hx hb hts hi_X7_line_0 hown hK hP 7 rfl rfl 4 (by decide) (hts (.fieldLink RX7 199 "TheLiningsInIt$Jacket" "depth" "I") (List.mem_of_getElem? (i := 4) rfl)) (fun _ h9 => h9) rfl dX7_line_87 ?_
              refine lv_aload_n hx hb dX7_line_90 rfl (lv_at hl 0 rfl) ?_
              refine va_get (D := D) (ci := 7) (v := .ref j0) (C := RX7) (T := TX7) (N := 9) hx hb hts hi_X7_line_7 hown hK hP 0 rfl rfl 1 (by decide) (hts (.fieldLink RX7 18 "TheLiningsInIt" "now" "LTheLiningsInIt$Jacket;") (List.mem_of_getElem? (i := 2) rfl)) (fun _ h9 => h9) rfl dX7_line_91 ?_
              refine va_get (D := D) (ci := 0) (v := .int se) (C := RX0) (T := TX0) (N := 9) hx hb hts hi_X7_line_0 hown hK hP 7 rfl rfl 6 (by decide) (hts (.fieldLink RX7 202 "TheLiningsInIt$Jacket" "seconds" "I") (List.mem_of_getElem? (i := 5) rfl)) (fun _ h9 => h9) rfl dX7_line_94 ?_
              skip
              refine zw_VN (As := [.int 0, .int de, .int se]) (rest := []) (wr := [(x0, .inr (7, [.ref xs, .ref j0, .ref k0, .ref w0, .ref rd, .ref mv, .ref xr, .int im, .int lf])), (xr, .inl (cI, 8, .inl fr)), (wk, .inl (cI, 125, .inl q_36)), (j0, .inr (0, [.ref z0, .ref jp, .ref jc, .int cn, .int de, .int tr, .int se, .int hu, .int sd])), (jp, .inl (cP, 8, .inr (.inr (.inr (.inr fp))))), (jc, .inl (cI, 3, .inl fjc))]) ⟨hx, hb, hml, hown, hts⟩ (c_W_least_0 l D cI cJ cZ cP cS po w0 wk wl wc wp (q_33) (q_34) (q_35) q_39 q_37 q_38 (de) (se) hbq_33.1 hbq_33.2 hbq_34.1 hbq_34.2 hbq_35.1 hbq_35.2 hwq_39 hy6 hy7 hpq_38 H.size) ⟨(va_cnB 3 hts gX7_line_X5_least_n214 rfl rfl rfl (hN.1 (RX7, 214, yX5_least) (List.mem_of_getElem? (i := 11) rfl)) (hts _ (List.mem_of_getElem? (i := 22) rfl)) dh_X5_least ⟨Nat.le_of_ble_eq_true rfl, Nat.le_of_ble_eq_true rfl⟩), (hts _ (List.mem_of_getElem? (i := 59) rfl)), (hts _ (List.mem_of_getElem? (i := 60) rfl))⟩ hK hN (hZ.kept hS) hP hD hS hA [2, 4, 5, 6] [0, 1, 3, 7, 8, 9] rfl rfl (by decide) (by decide) (by decide) (va_recv (q := (RX5, TX5, 7)) hK hP (ci := 5) (q0 := 2) rfl rfl) rfl hl.1 rfl (Nat.le_of_ble_eq_true rfl) dX7_line_97 ⟨Nat.le_of_ble_eq_true rfl, Nat.le_of_ble_eq_true rfl⟩ (fun r_41 u_42 H locs hr_41 hP hD hS => ?_)
              obtain ⟨q_43, rfl⟩ : ∃ z, z = u_42 := ⟨_, rfl⟩
              have h9R := zRe (ws' := [(x0, .inr (7, [.ref xs, .ref j0, .ref k0, .ref w0, .ref rd, .ref mv, .ref xr, .int im, .int lf])), (xr, .inl (cI, 8, .inl fr)), (wk, .inl (cI, 125, .inl q_36)), (j0, .inr (0, [.ref z0, .ref jp, .ref jc, .int cn, .int de, .int tr, .int se, .int hu, .int sd])), (jp, .inl (cP, 8, .inr (.inr (.inr (.inr fp))))), (jc, .inl (cI, 3, .inl fjc)), (w0, .inr (5, [.ref wk, .ref wl, .ref wc, .ref wp, .int q_33, .int q_34, .int q_35])), (wl, .inl (cI, 125, .inl q_43)), (wc, .inl (cI, 3, .inl q_38)), (wp, .inl (cP, 8, .inr (.inr (.inr (.inr q_39)))))]) hP hD rfl
              clear hP hD
              obtain ⟨hP, hD⟩ := h9R
              exact W.iret (v := r_41) hx hb hr (fun t ht hW => ⟨⟨r_41, (q_33, q_34, q_35, q_36, q_43, q_38, q_39, fr), rfl, ⟨(show 0 ≤ q_33.toInt ∧ q_33.toInt ≤ 8 from hbq_33), (show 0 ≤ q_34.toInt ∧ q_34.toInt ≤ 9 from hbq_34), (show 0 ≤ q_35.toInt ∧ q_35.toInt ≤ 60 from hbq_35), hpq_38, hwq_39, trivial⟩, zRet ht hP hD [0, 1, 3, 6, 2, 7, 8, 9, 4, 5] (by decide) rfl⟩, hS.F ht⟩) hS.2.2 dX7_line_100
            · have fc_40 : w.toInt = 1 := zf_eq c_40 rfl (by decide)
              refine lv_aload_n hx hb dX7_line_55 rfl (lv_at hl 0 rfl) ?_
              refine va_get (D := D) (ci := 7) (v := .ref w0) (C := RX7) (T := TX7) (N := 9) hx hb hts hi_X7_line_7 hown hK hP 0 rfl rfl 3 (by decide) (hts (.fieldLink RX7 28 "TheLiningsInIt" "ways" "LTheLiningsInIt$Ways;") (List.mem_of_getElem? (i := 1) rfl)) (fun _ h9 => h9) rfl dX7_line_56 ?_
              refine lv_iload_n hx hb dX7_line_59 rfl (lv_at hl 1 rfl) ?_
              refine lv_aload_n hx hb dX7_line_60 rfl (lv_at hl 0 rfl) ?_
              refine va_get (D := D) (ci := 7) (v := .ref j0) (C := RX7) (T := TX7) (N := 9) hx hb hts hi_X7_line_7 hown hK hP 0 rfl rfl 1 (by decide) (hts (.fieldLink RX7 18 "TheLiningsInIt" "now" "LTheLiningsInIt$Jacket;") (List.mem_of_getElem? (i := 2) rfl)) (fun _ h9 => h9) rfl dX7_line_61 ?_
              refine va_get (D := D) (ci := 0) (v := .int de) (C := RX0) (T := TX0) (N := 9) hx hb hts hi_X7_line_0 hown hK hP 7 rfl rfl 4 (by decide) (hts (.fieldLink RX7 199 "TheLiningsInIt$Jacket" "depth" "I") (List.mem_of_getElem? (i := 4) rfl)) (fun _ h9 => h9) rfl dX7_line_64 ?_
              refine lv_aload_n hx hb dX7_line_67 rfl (lv_at hl 0 rfl) ?_
              refine va_get (D := D) (ci := 7) (v := .ref j0) (C := RX7) (T := TX7) (N := 9) hx hb hts hi_X7_line_7 hown hK hP 0 rfl rfl 1 (by decide) (hts (.fieldLink RX7 18 "TheLiningsInIt" "now" "LTheLiningsInIt$Jacket;") (List.mem_of_getElem? (i := 2) rfl)) (fun _ h9 => h9) rfl dX7_line_68 ?_
              refine va_get (D := D) (ci := 0) (v := .int se) (C := RX0) (T := TX0) (N := 9) hx hb hts hi_X7_line_0 hown hK hP 7 rfl rfl 6 (by decide) (hts (.fieldLink RX7 202 "TheLiningsInIt$Jacket" "seconds" "I") (List.mem_of_getElem? (i := 5) rfl)) (fun _ h9 => h9) rfl dX7_line_71 ?_
              skip
              refine zw_V (As := [.int 0, .int de, .int se]) (rest := []) (wr := [(x0, .inr (7, [.ref xs, .ref j0, .ref k0, .ref w0, .ref rd, .ref mv, .ref xr, .int im, .int lf])), (xr, .inl (cI, 8, .inl fr)), (wk, .inl (cI, 125, .inl q_36)), (j0, .inr (0, [.ref z0, .ref jp, .ref jc, .int cn, .int de, .int tr, .int se, .int hu, .int sd])), (jp, .inl (cP, 8, .inr (.inr (.inr (.inr fp))))), (jc, .inl (cI, 3, .inl fjc))]) ⟨hx, hb, hml, hown, hts⟩ (c_W_first_0 l D cI cJ cZ cP cS po w0 wk wl wc wp (q_33) (q_34) (q_35) q_39 q_37 q_38 (de) (se) hbq_33.1 hbq_33.2 hbq_34.1 hbq_34.2 hbq_35.1 hbq_35.2 hwq_39 hy6 hy7 hpq_38 H.size) (cwV 3 hts gX7_line_X5_first rfl rfl rfl ⟨rfl, dh_X5_first⟩ ⟨Nat.le_of_ble_eq_true rfl, Nat.le_of_ble_eq_true rfl⟩) hK hN (hZ.kept hS) hP hD hS hA [2, 4, 5, 6] [0, 1, 3, 7, 8, 9] rfl rfl (by decide) (by decide) (by decide) (va_recv (q := (RX5, TX5, 7)) hK hP (ci := 5) (q0 := 2) rfl rfl) rfl hl.1 rfl (Nat.le_of_ble_eq_true rfl) dX7_line_74 ⟨Nat.le_of_ble_eq_true rfl, Nat.le_of_ble_eq_true rfl⟩ (fun r_44 u_45 H locs hr_44 hP hD hS => ?_)
              obtain ⟨q_46, rfl⟩ : ∃ z, z = u_45 := ⟨_, rfl⟩
              have h9R := zRe (ws' := [(x0, .inr (7, [.ref xs, .ref j0, .ref k0, .ref w0, .ref rd, .ref mv, .ref xr, .int im, .int lf])), (xr, .inl (cI, 8, .inl fr)), (wk, .inl (cI, 125, .inl q_36)), (j0, .inr (0, [.ref z0, .ref jp, .ref jc, .int cn, .int de, .int tr, .int se, .int hu, .int sd])), (jp, .inl (cP, 8, .inr (.inr (.inr (.inr fp))))), (jc, .inl (cI, 3, .inl fjc)), (w0, .inr (5, [.ref wk, .ref wl, .ref wc, .ref wp, .int q_33, .int q_34, .int q_35])), (wl, .inl (cI, 125, .inl q_46)), (wc, .inl (cI, 3, .inl q_38)), (wp, .inl (cP, 8, .inr (.inr (.inr (.inr q_39)))))]) hP hD rfl
              clear hP hD
              obtain ⟨hP, hD⟩ := h9R
              exact W.iret (v := r_44) hx hb hr (fun t ht hW => ⟨⟨r_44, (q_33, q_34, q_35, q_36, q_46, q_38, q_39, fr), rfl, ⟨(show 0 ≤ q_33.toInt ∧ q_33.toInt ≤ 8 from hbq_33), (show 0 ≤ q_34.toInt ∧ q_34.toInt ≤ 9 from hbq_34), (show 0 ≤ q_35.toInt ∧ q_35.toInt ≤ 60 from hbq_35), hpq_38, hwq_39, trivial⟩, zRet ht hP hD [0, 1, 3, 6, 2, 7, 8, 9, 4, 5] (by decide) rfl⟩, hS.F ht⟩) hS.2.2 dX7_line_77
          · refine lv_aload_n hx hb dX7_line_31 rfl (lv_at hl 0 rfl) ?_
            refine va_get (D := D) (ci := 7) (v := .ref w0) (C := RX7) (T := TX7) (N := 9) hx hb hts hi_X7_line_7 hown hK hP 0 rfl rfl 3 (by decide) (hts (.fieldLink RX7 28 "TheLiningsInIt" "ways" "LTheLiningsInIt$Ways;") (List.mem_of_getElem? (i := 1) rfl)) (fun _ h9 => h9) rfl dX7_line_32 ?_
            refine lv_aload_n hx hb dX7_line_35 rfl (lv_at hl 0 rfl) ?_
            refine va_get (D := D) (ci := 7) (v := .ref j0) (C := RX7) (T := TX7) (N := 9) hx hb hts hi_X7_line_7 hown hK hP 0 rfl rfl 1 (by decide) (hts (.fieldLink RX7 18 "TheLiningsInIt" "now" "LTheLiningsInIt$Jacket;") (List.mem_of_getElem? (i := 2) rfl)) (fun _ h9 => h9) rfl dX7_line_36 ?_
            refine lv_aload_n hx hb dX7_line_39 rfl (lv_at hl 0 rfl) ?_
            refine va_get (D := D) (ci := 7) (v := .ref j0) (C := RX7) (T := TX7) (N := 9) hx hb hts hi_X7_line_7 hown hK hP 0 rfl rfl 1 (by decide) (hts (.fieldLink RX7 18 "TheLiningsInIt" "now" "LTheLiningsInIt$Jacket;") (List.mem_of_getElem? (i := 2) rfl)) (fun _ h9 => h9) rfl dX7_line_40 ?_
            refine va_get (D := D) (ci := 0) (v := .int hu) (C := RX0) (T := TX0) (N := 9) hx hb hts hi_X7_line_0 hown hK hP 2 rfl rfl 7 (by decide) (hts (.fieldLink RX7 116 "TheLiningsInIt$Jacket" "hurry" "I") (List.mem_of_getElem? (i := 3) rfl)) (fun _ h9 => h9) rfl dX7_line_43 ?_
            refine lv_iconst (v := 1) hx hb dX7_line_46 (by decide) ?_
            skip
            refine zw_Vv (As := [.ref j0, .int hu, .int 1]) (rest := []) (wr := [(x0, .inr (7, [.ref xs, .ref j0, .ref k0, .ref w0, .ref rd, .ref mv, .ref xr, .int im, .int lf])), (xr, .inl (cI, 8, .inl fr))]) ⟨hx, hb, hml, hown, hts⟩ (c_W_look l D cI cJ cZ cP cS po w0 wk wl wc wp (wn) (wh) (wg) j0 jp jc z0 0 0 (cn) (de) (tr) (se) (hu) (sd) fp fq kf af tf fk fl fc fjc (hu) (1) hy10 hy11 hy12 hy13 hy14 hy15 hy4 hy5 hy6 hy7 hy8 hy9 hy8 hy9 hwq hjp hp_fc hp_fjc H.size) (cwV 3 hts gX7_line_X5_look rfl rfl rfl ⟨rfl, dh_X5_look⟩ ⟨Nat.le_of_ble_eq_true rfl, Nat.le_of_ble_eq_true rfl⟩) hK hN (hZ.kept hS) hP hD hS hA [3, 4, 5, 6, 7, 2, 8, 9] [0, 1] rfl rfl (by decide) (by decide) (by decide) (va_recv (q := (RX5, TX5, 7)) hK hP (ci := 5) (q0 := 3) rfl rfl) rfl hl.1 rfl (Nat.le_of_ble_eq_true rfl) dX7_line_47 ⟨Nat.le_of_ble_eq_true rfl, Nat.le_of_ble_eq_true rfl⟩ (fun u_48 H locs hr_47 hP hD hS => ?_)
            obtain ⟨q_49, q_50, q_51, q_52, q_53, q_54, q_55⟩ := u_48
            try dsimp only at hr_47
            obtain ⟨hbq_49, hbq_50, hbq_51, hpq_54, hwq_55, hr_47⟩ := hr_47
            have h9R := zRe (ws' := [(x0, .inr (7, [.ref xs, .ref j0, .ref k0, .ref w0, .ref rd, .ref mv, .ref xr, .int im, .int lf])), (xr, .inl (cI, 8, .inl fr)), (w0, .inr (5, [.ref wk, .ref wl, .ref wc, .ref wp, .int q_49, .int q_50, .int q_51])), (wk, .inl (cI, 125, .inl q_52)), (wl, .inl (cI, 125, .inl q_53)), (wc, .inl (cI, 3, .inl q_54)), (wp, .inl (cP, 8, .inr (.inr (.inr (.inr q_55))))), (j0, .inr (0, [.ref z0, .ref jp, .ref jc, .int cn, .int de, .int tr, .int se, .int hu, .int sd])), (jp, .inl (cP, 8, .inr (.inr (.inr (.inr fp))))), (jc, .inl (cI, 3, .inl fjc))]) hP hD rfl
            clear hP hD
            obtain ⟨hP, hD⟩ := h9R
            refine lv_iload_n hx hb dX7_line_50 rfl (lv_at hl 2 rfl) ?_
            refine lv_iconst (v := 1) hx hb dX7_line_51 (by decide) ?_
            refine lv_icmp_ne (tgt := 78) hx hb dX7_line_52 (by decide) (fun c_56 => ?_) (fun c_56 => ?_)
            · have fc_56 : w.toInt ≠ 1 := zf_ne c_56 rfl (by decide)
              refine lv_aload_n hx hb dX7_line_78 rfl (lv_at hl 0 rfl) ?_
              refine va_get (D := D) (ci := 7) (v := .ref w0) (C := RX7) (T := TX7) (N := 9) hx hb hts hi_X7_line_7 hown hK hP 0 rfl rfl 3 (by decide) (hts (.fieldLink RX7 28 "TheLiningsInIt" "ways" "LTheLiningsInIt$Ways;") (List.mem_of_getElem? (i := 1) rfl)) (fun _ h9 => h9) rfl dX7_line_79 ?_
              refine lv_iload_n hx hb dX7_line_82 rfl (lv_at hl 1 rfl) ?_
              refine lv_aload_n hx hb dX7_line_83 rfl (lv_at hl 0 rfl) ?_
              refine va_get (D := D) (ci := 7) (v := .ref j0) (C := RX7) (T := TX7) (N := 9) hx hb hts hi_X7_line_7 hown hK hP 0 rfl rfl 1 (by decide) (hts (.fieldLink RX7 18 "TheLiningsInIt" "now" "LTheLiningsInIt$Jacket;") (List.mem_of_getElem? (i := 2) rfl)) (fun _ h9 => h9) rfl dX7_line_84 ?_
              refine va_get (D := D) (ci := 0) (v := .int de) (C := RX0) (T := TX0) (N := 9) hx hb hts hi_X7_line_0 hown hK hP 7 rfl rfl 4 (by decide) (hts (.fieldLink RX7 199 "TheLiningsInIt$Jacket" "depth" "I") (List.mem_of_getElem? (i := 4) rfl)) (fun _ h9 => h9) rfl dX7_line_87 ?_
              refine lv_aload_n hx hb dX7_line_90 rfl (lv_at hl 0 rfl) ?_
              refine va_get (D := D) (ci := 7) (v := .ref j0) (C := RX7) (T := TX7) (N := 9) hx hb hts hi_X7_line_7 hown hK hP 0 rfl rfl 1 (by decide) (hts (.fieldLink RX7 18 "TheLiningsInIt" "now" "LTheLiningsInIt$Jacket;") (List.mem_of_getElem? (i := 2) rfl)) (fun _ h9 => h9) rfl dX7_line_91 ?_
              refine va_get (D := D) (ci := 0) (v := .int se) (C := RX0) (T := TX0) (N := 9) hx hb hts hi_X7_line_0 hown hK hP 7 rfl rfl 6 (by decide) (hts (.fieldLink RX7 202 "TheLiningsInIt$Jacket" "seconds" "I") (List.mem_of_getElem? (i := 5) rfl)) (fun _ h9 => h9) rfl dX7_line_94 ?_
              skip
              refine zw_VN (As := [.int 1, .int de, .int se]) (rest := []) (wr := [(x0, .inr (7, [.ref xs, .ref j0, .ref k0, .ref w0, .ref rd, .ref mv, .ref xr, .int im, .int lf])), (xr, .inl (cI, 8, .inl fr)), (wk, .inl (cI, 125, .inl q_52)), (j0, .inr (0, [.ref z0, .ref jp, .ref jc, .int cn, .int de, .int tr, .int se, .int hu, .int sd])), (jp, .inl (cP, 8, .inr (.inr (.inr (.inr fp))))), (jc, .inl (cI, 3, .inl fjc))]) ⟨hx, hb, hml, hown, hts⟩ (c_W_least_1 l D cI cJ cZ cP cS po w0 wk wl wc wp (q_49) (q_50) (q_51) q_55 q_53 q_54 (de) (se) hbq_49.1 hbq_49.2 hbq_50.1 hbq_50.2 hbq_51.1 hbq_51.2 hwq_55 hy6 hy7 hpq_54 H.size) ⟨(va_cnB 3 hts gX7_line_X5_least_n214 rfl rfl rfl (hN.1 (RX7, 214, yX5_least) (List.mem_of_getElem? (i := 11) rfl)) (hts _ (List.mem_of_getElem? (i := 22) rfl)) dh_X5_least ⟨Nat.le_of_ble_eq_true rfl, Nat.le_of_ble_eq_true rfl⟩), (hts _ (List.mem_of_getElem? (i := 59) rfl)), (hts _ (List.mem_of_getElem? (i := 60) rfl))⟩ hK hN (hZ.kept hS) hP hD hS hA [2, 4, 5, 6] [0, 1, 3, 7, 8, 9] rfl rfl (by decide) (by decide) (by decide) (va_recv (q := (RX5, TX5, 7)) hK hP (ci := 5) (q0 := 2) rfl rfl) rfl hl.1 rfl (Nat.le_of_ble_eq_true rfl) dX7_line_97 ⟨Nat.le_of_ble_eq_true rfl, Nat.le_of_ble_eq_true rfl⟩ (fun r_57 u_58 H locs hr_57 hP hD hS => ?_)
              obtain ⟨q_59, rfl⟩ : ∃ z, z = u_58 := ⟨_, rfl⟩
              have h9R := zRe (ws' := [(x0, .inr (7, [.ref xs, .ref j0, .ref k0, .ref w0, .ref rd, .ref mv, .ref xr, .int im, .int lf])), (xr, .inl (cI, 8, .inl fr)), (wk, .inl (cI, 125, .inl q_52)), (j0, .inr (0, [.ref z0, .ref jp, .ref jc, .int cn, .int de, .int tr, .int se, .int hu, .int sd])), (jp, .inl (cP, 8, .inr (.inr (.inr (.inr fp))))), (jc, .inl (cI, 3, .inl fjc)), (w0, .inr (5, [.ref wk, .ref wl, .ref wc, .ref wp, .int q_49, .int q_50, .int q_51])), (wl, .inl (cI, 125, .inl q_59)), (wc, .inl (cI, 3, .inl q_54)), (wp, .inl (cP, 8, .inr (.inr (.inr (.inr q_55)))))]) hP hD rfl
              clear hP hD
              obtain ⟨hP, hD⟩ := h9R
              exact W.iret (v := r_57) hx hb hr (fun t ht hW => ⟨⟨r_57, (q_49, q_50, q_51, q_52, q_59, q_54, q_55, fr), rfl, ⟨(show 0 ≤ q_49.toInt ∧ q_49.toInt ≤ 8 from hbq_49), (show 0 ≤ q_50.toInt ∧ q_50.toInt ≤ 9 from hbq_50), (show 0 ≤ q_51.toInt ∧ q_51.toInt ≤ 60 from hbq_51), hpq_54, hwq_55, trivial⟩, zRet ht hP hD [0, 1, 3, 6, 2, 7, 8, 9, 4, 5] (by decide) rfl⟩, hS.F ht⟩) hS.2.2 dX7_line_100
            · have fc_56 : w.toInt = 1 := zf_eq c_56 rfl (by decide)
              refine lv_aload_n hx hb dX7_line_55 rfl (lv_at hl 0 rfl) ?_
              refine va_get (D := D) (ci := 7) (v := .ref w0) (C := RX7) (T := TX7) (N := 9) hx hb hts hi_X7_line_7 hown hK hP 0 rfl rfl 3 (by decide) (hts (.fieldLink RX7 28 "TheLiningsInIt" "ways" "LTheLiningsInIt$Ways;") (List.mem_of_getElem? (i := 1) rfl)) (fun _ h9 => h9) rfl dX7_line_56 ?_
              refine lv_iload_n hx hb dX7_line_59 rfl (lv_at hl 1 rfl) ?_
              refine lv_aload_n hx hb dX7_line_60 rfl (lv_at hl 0 rfl) ?_
              refine va_get (D := D) (ci := 7) (v := .ref j0) (C := RX7) (T := TX7) (N := 9) hx hb hts hi_X7_line_7 hown hK hP 0 rfl rfl 1 (by decide) (hts (.fieldLink RX7 18 "TheLiningsInIt" "now" "LTheLiningsInIt$Jacket;") (List.mem_of_getElem? (i := 2) rfl)) (fun _ h9 => h9) rfl dX7_line_61 ?_
              refine va_get (D := D) (ci := 0) (v := .int de) (C := RX0) (T := TX0) (N := 9) hx hb hts hi_X7_line_0 hown hK hP 7 rfl rfl 4 (by decide) (hts (.fieldLink RX7 199 "TheLiningsInIt$Jacket" "depth" "I") (List.mem_of_getElem? (i := 4) rfl)) (fun _ h9 => h9) rfl dX7_line_64 ?_
              refine lv_aload_n hx hb dX7_line_67 rfl (lv_at hl 0 rfl) ?_
              refine va_get (D := D) (ci := 7) (v := .ref j0) (C := RX7) (T := TX7) (N := 9) hx hb hts hi_X7_line_7 hown hK hP 0 rfl rfl 1 (by decide) (hts (.fieldLink RX7 18 "TheLiningsInIt" "now" "LTheLiningsInIt$Jacket;") (List.mem_of_getElem? (i := 2) rfl)) (fun _ h9 => h9) rfl dX7_line_68 ?_
              refine va_get (D := D) (ci := 0) (v := .int se) (C := RX0) (T := TX0) (N := 9) hx hb hts hi_X7_line_0 hown hK hP 7 rfl rfl 6 (by decide) (hts (.fieldLink RX7 202 "TheLiningsInIt$Jacket" "seconds" "I") (List.mem_of_getElem? (i := 5) rfl)) (fun _ h9 => h9) rfl dX7_line_71 ?_
              skip
              refine zw_V (As := [.int 1, .int de, .int se]) (rest := []) (wr := [(x0, .inr (7, [.ref xs, .ref j0, .ref k0, .ref w0, .ref rd, .ref mv, .ref xr, .int im, .int lf])), (xr, .inl (cI, 8, .inl fr)), (wk, .inl (cI, 125, .inl q_52)), (j0, .inr (0, [.ref z0, .ref jp, .ref jc, .int cn, .int de, .int tr, .int se, .int hu, .int sd])), (jp, .inl (cP, 8, .inr (.inr (.inr (.inr fp))))), (jc, .inl (cI, 3, .inl fjc))]) ⟨hx, hb, hml, hown, hts⟩ (c_W_first_1 l D cI cJ cZ cP cS po w0 wk wl wc wp (q_49) (q_50) (q_51) q_55 q_53 q_54 (de) (se) hbq_49.1 hbq_49.2 hbq_50.1 hbq_50.2 hbq_51.1 hbq_51.2 hwq_55 hy6 hy7 hpq_54 H.size) (cwV 3 hts gX7_line_X5_first rfl rfl rfl ⟨rfl, dh_X5_first⟩ ⟨Nat.le_of_ble_eq_true rfl, Nat.le_of_ble_eq_true rfl⟩) hK hN (hZ.kept hS) hP hD hS hA [2, 4, 5, 6] [0, 1, 3, 7, 8, 9] rfl rfl (by decide) (by decide) (by decide) (va_recv (q := (RX5, TX5, 7)) hK hP (ci := 5) (q0 := 2) rfl rfl) rfl hl.1 rfl (Nat.le_of_ble_eq_true rfl) dX7_line_74 ⟨Nat.le_of_ble_eq_true rfl, Nat.le_of_ble_eq_true rfl⟩ (fun r_60 u_61 H locs hr_60 hP hD hS => ?_)
              obtain ⟨q_62, rfl⟩ : ∃ z, z = u_61 := ⟨_, rfl⟩
              have h9R := zRe (ws' := [(x0, .inr (7, [.ref xs, .ref j0, .ref k0, .ref w0, .ref rd, .ref mv, .ref xr, .int im, .int lf])), (xr, .inl (cI, 8, .inl fr)), (wk, .inl (cI, 125, .inl q_52)), (j0, .inr (0, [.ref z0, .ref jp, .ref jc, .int cn, .int de, .int tr, .int se, .int hu, .int sd])), (jp, .inl (cP, 8, .inr (.inr (.inr (.inr fp))))), (jc, .inl (cI, 3, .inl fjc)), (w0, .inr (5, [.ref wk, .ref wl, .ref wc, .ref wp, .int q_49, .int q_50, .int q_51])), (wl, .inl (cI, 125, .inl q_62)), (wc, .inl (cI, 3, .inl q_54)), (wp, .inl (cP, 8, .inr (.inr (.inr (.inr q_55)))))]) hP hD rfl
              clear hP hD
              obtain ⟨hP, hD⟩ := h9R
              exact W.iret (v := r_60) hx hb hr (fun t ht hW => ⟨⟨r_60, (q_49, q_50, q_51, q_52, q_62, q_54, q_55, fr), rfl, ⟨(show 0 ≤ q_49.toInt ∧ q_49.toInt ≤ 8 from hbq_49), (show 0 ≤ q_50.toInt ∧ q_50.toInt ≤ 9 from hbq_50), (show 0 ≤ q_51.toInt ∧ q_51.toInt ≤ 60 from hbq_51), hpq_54, hwq_55, trivial⟩, zRet ht hP hD [0, 1, 3, 6, 2, 7, 8, 9, 4, 5] (by decide) rfl⟩, hS.F ht⟩) hS.2.2 dX7_line_77
          · refine lv_aload_n hx hb dX7_line_31 rfl (lv_at hl 0 rfl) ?_
            refine va_get (D := D) (ci := 7) (v := .ref w0) (C := RX7) (T := TX7) (N := 9) hx hb hts hi_X7_line_7 hown hK hP 0 rfl rfl 3 (by decide) (hts (.fieldLink RX7 28 "TheLiningsInIt" "ways" "LTheLiningsInIt$Ways;") (List.mem_of_getElem? (i := 1) rfl)) (fun _ h9 => h9) rfl dX7_line_32 ?_
            refine lv_aload_n hx hb dX7_line_35 rfl (lv_at hl 0 rfl) ?_
            refine va_get (D := D) (ci := 7) (v := .ref j0) (C := RX7) (T := TX7) (N := 9) hx hb hts hi_X7_line_7 hown hK hP 0 rfl rfl 1 (by decide) (hts (.fieldLink RX7 18 "TheLiningsInIt" "now" "LTheLiningsInIt$Jacket;") (List.mem_of_getElem? (i := 2) rfl)) (fun _ h9 => h9) rfl dX7_line_36 ?_
            refine lv_aload_n hx hb dX7_line_39 rfl (lv_at hl 0 rfl) ?_
            refine va_get (D := D) (ci := 7) (v := .ref j0) (C := RX7) (T := TX7) (N := 9) hx hb hts hi_X7_line_7 hown hK hP 0 rfl rfl 1 (by decide) (hts (.fieldLink RX7 18 "TheLiningsInIt" "now" "LTheLiningsInIt$Jacket;") (List.mem_of_getElem? (i := 2) rfl)) (fun _ h9 => h9) rfl dX7_line_40 ?_
            refine va_get (D := D) (ci := 0) (v := .int hu) (C := RX0) (T := TX0) (N := 9) hx hb hts hi_X7_line_0 hown hK hP 2 rfl rfl 7 (by decide) (hts (.fieldLink RX7 116 "TheLiningsInIt$Jacket" "hurry" "I") (List.mem_of_getElem? (i := 3) rfl)) (fun _ h9 => h9) rfl dX7_line_43 ?_
            refine lv_iconst (v := 1) hx hb dX7_line_46 (by decide) ?_
            skip
            refine zw_Vv (As := [.ref j0, .int hu, .int 1]) (rest := []) (wr := [(x0, .inr (7, [.ref xs, .ref j0, .ref k0, .ref w0, .ref rd, .ref mv, .ref xr, .int im, .int lf])), (xr, .inl (cI, 8, .inl fr))]) ⟨hx, hb, hml, hown, hts⟩ (c_W_look l D cI cJ cZ cP cS po w0 wk wl wc wp (wn) (wh) (wg) j0 jp jc z0 0 0 (cn) (de) (tr) (se) (hu) (sd) fp fq kf af tf fk fl fc fjc (hu) (1) hy10 hy11 hy12 hy13 hy14 hy15 hy4 hy5 hy6 hy7 hy8 hy9 hy8 hy9 hwq hjp hp_fc hp_fjc H.size) (cwV 3 hts gX7_line_X5_look rfl rfl rfl ⟨rfl, dh_X5_look⟩ ⟨Nat.le_of_ble_eq_true rfl, Nat.le_of_ble_eq_true rfl⟩) hK hN (hZ.kept hS) hP hD hS hA [3, 4, 5, 6, 7, 2, 8, 9] [0, 1] rfl rfl (by decide) (by decide) (by decide) (va_recv (q := (RX5, TX5, 7)) hK hP (ci := 5) (q0 := 3) rfl rfl) rfl hl.1 rfl (Nat.le_of_ble_eq_true rfl) dX7_line_47 ⟨Nat.le_of_ble_eq_true rfl, Nat.le_of_ble_eq_true rfl⟩ (fun u_64 H locs hr_63 hP hD hS => ?_)
            obtain ⟨q_65, q_66, q_67, q_68, q_69, q_70, q_71⟩ := u_64
            try dsimp only at hr_63
            obtain ⟨hbq_65, hbq_66, hbq_67, hpq_70, hwq_71, hr_63⟩ := hr_63
            have h9R := zRe (ws' := [(x0, .inr (7, [.ref xs, .ref j0, .ref k0, .ref w0, .ref rd, .ref mv, .ref xr, .int im, .int lf])), (xr, .inl (cI, 8, .inl fr)), (w0, .inr (5, [.ref wk, .ref wl, .ref wc, .ref wp, .int q_65, .int q_66, .int q_67])), (wk, .inl (cI, 125, .inl q_68)), (wl, .inl (cI, 125, .inl q_69)), (wc, .inl (cI, 3, .inl q_70)), (wp, .inl (cP, 8, .inr (.inr (.inr (.inr q_71))))), (j0, .inr (0, [.ref z0, .ref jp, .ref jc, .int cn, .int de, .int tr, .int se, .int hu, .int sd])), (jp, .inl (cP, 8, .inr (.inr (.inr (.inr fp))))), (jc, .inl (cI, 3, .inl fjc))]) hP hD rfl
            clear hP hD
            obtain ⟨hP, hD⟩ := h9R
            refine lv_iload_n hx hb dX7_line_50 rfl (lv_at hl 2 rfl) ?_
            refine lv_iconst (v := 1) hx hb dX7_line_51 (by decide) ?_
            refine lv_icmp_ne (tgt := 78) hx hb dX7_line_52 (by decide) (fun c_72 => ?_) (fun c_72 => ?_)
            · have fc_72 : w.toInt ≠ 1 := zf_ne c_72 rfl (by decide)
              refine lv_aload_n hx hb dX7_line_78 rfl (lv_at hl 0 rfl) ?_
              refine va_get (D := D) (ci := 7) (v := .ref w0) (C := RX7) (T := TX7) (N := 9) hx hb hts hi_X7_line_7 hown hK hP 0 rfl rfl 3 (by decide) (hts (.fieldLink RX7 28 "TheLiningsInIt" "ways" "LTheLiningsInIt$Ways;") (List.mem_of_getElem? (i := 1) rfl)) (fun _ h9 => h9) rfl dX7_line_79 ?_
              refine lv_iload_n hx hb dX7_line_82 rfl (lv_at hl 1 rfl) ?_
              refine lv_aload_n hx hb dX7_line_83 rfl (lv_at hl 0 rfl) ?_
              refine va_get (D := D) (ci := 7) (v := .ref j0) (C := RX7) (T := TX7) (N := 9) hx hb hts hi_X7_line_7 hown hK hP 0 rfl rfl 1 (by decide) (hts (.fieldLink RX7 18 "TheLiningsInIt" "now" "LTheLiningsInIt$Jacket;") (List.mem_of_getElem? (i := 2) rfl)) (fun _ h9 => h9) rfl dX7_line_84 ?_
              refine va_get (D := D) (ci := 0) (v := .int de) (C := RX0) (T := TX0) (N := 9) hx hb hts hi_X7_line_0 hown hK hP 7 rfl rfl 4 (by decide) (hts (.fieldLink RX7 199 "TheLiningsInIt$Jacket" "depth" "I") (List.mem_of_getElem? (i := 4) rfl)) (fun _ h9 => h9) rfl dX7_line_87 ?_
              refine lv_aload_n hx hb dX7_line_90 rfl (lv_at hl 0 rfl) ?_
              refine va_get (D := D) (ci := 7) (v := .ref j0) (C := RX7) (T := TX7) (N := 9) hx hb hts hi_X7_line_7 hown hK hP 0 rfl rfl 1 (by decide) (hts (.fieldLink RX7 18 "TheLiningsInIt" "now" "LTheLiningsInIt$Jacket;") (List.mem_of_getElem? (i := 2) rfl)) (fun _ h9 => h9) rfl dX7_line_91 ?_
              refine va_get (D := D) (ci := 0) (v := .int se) (C := RX0) (T := TX0) (N := 9) hx hb hts hi_X7_line_0 hown hK hP 7 rfl rfl 6 (by decide) (hts (.fieldLink RX7 202 "TheLiningsInIt$Jacket" "seconds" "I") (List.mem_of_getElem? (i := 5) rfl)) (fun _ h9 => h9) rfl dX7_line_94 ?_
              skip
              refine zw_VN (As := [.int 2, .int de, .int se]) (rest := []) (wr := [(x0, .inr (7, [.ref xs, .ref j0, .ref k0, .ref w0, .ref rd, .ref mv, .ref xr, .int im, .int lf])), (xr, .inl (cI, 8, .inl fr)), (wk, .inl (cI, 125, .inl q_68)), (j0, .inr (0, [.ref z0, .ref jp, .ref jc, .int cn, .int de, .int tr, .int se, .int hu, .int sd])), (jp, .inl (cP, 8, .inr (.inr (.inr (.inr fp))))), (jc, .inl (cI, 3, .inl fjc))]) ⟨hx, hb, hml, hown, hts⟩ (c_W_least_2 l D cI cJ cZ cP cS po w0 wk wl wc wp (q_65) (q_66) (q_67) q_71 q_69 q_70 (de) (se) hbq_65.1 hbq_65.2 hbq_66.1 hbq_66.2 hbq_67.1 hbq_67.2 hwq_71 hy6 hy7 hpq_70 H.size) ⟨(va_cnB 3 hts gX7_line_X5_least_n214 rfl rfl rfl (hN.1 (RX7, 214, yX5_least) (List.mem_of_getElem? (i := 11) rfl)) (hts _ (List.mem_of_getElem? (i := 22) rfl)) dh_X5_least ⟨Nat.le_of_ble_eq_true rfl, Nat.le_of_ble_eq_true rfl⟩), (hts _ (List.mem_of_getElem? (i := 59) rfl)), (hts _ (List.mem_of_getElem? (i := 60) rfl))⟩ hK hN (hZ.kept hS) hP hD hS hA [2, 4, 5, 6] [0, 1, 3, 7, 8, 9] rfl rfl (by decide) (by decide) (by decide) (va_recv (q := (RX5, TX5, 7)) hK hP (ci := 5) (q0 := 2) rfl rfl) rfl hl.1 rfl (Nat.le_of_ble_eq_true rfl) dX7_line_97 ⟨Nat.le_of_ble_eq_true rfl, Nat.le_of_ble_eq_true rfl⟩ (fun r_73 u_74 H locs hr_73 hP hD hS => ?_)
              obtain ⟨q_75, rfl⟩ : ∃ z, z = u_74 := ⟨_, rfl⟩
              have h9R := zRe (ws' := [(x0, .inr (7, [.ref xs, .ref j0, .ref k0, .ref w0, .ref rd, .ref mv, .ref xr, .int im, .int lf])), (xr, .inl (cI, 8, .inl fr)), (wk, .inl (cI, 125, .inl q_68)), (j0, .inr (0, [.ref z0, .ref jp, .ref jc, .int cn, .int de, .int tr, .int se, .int hu, .int sd])), (jp, .inl (cP, 8, .inr (.inr (.inr (.inr fp))))), (jc, .inl (cI, 3, .inl fjc)), (w0, .inr (5, [.ref wk, .ref wl, .ref wc, .ref wp, .int q_65, .int q_66, .int q_67])), (wl, .inl (cI, 125, .inl q_75)), (wc, .inl (cI, 3, .inl q_70)), (wp, .inl (cP, 8, .inr (.inr (.inr (.inr q_71)))))]) hP hD rfl
              clear hP hD
              obtain ⟨hP, hD⟩ := h9R
              exact W.iret (v := r_73) hx hb hr (fun t ht hW => ⟨⟨r_73, (q_65, q_66, q_67, q_68, q_75, q_70, q_71, fr), rfl, ⟨(show 0 ≤ q_65.toInt ∧ q_65.toInt ≤ 8 from hbq_65), (show 0 ≤ q_66.toInt ∧ q_66.toInt ≤ 9 from hbq_66), (show 0 ≤ q_67.toInt ∧ q_67.toInt ≤ 60 from hbq_67), hpq_70, hwq_71, trivial⟩, zRet ht hP hD [0, 1, 3, 6, 2, 7, 8, 9, 4, 5] (by decide) rfl⟩, hS.F ht⟩) hS.2.2 dX7_line_100
            · have fc_72 : w.toInt = 1 := zf_eq c_72 rfl (by decide)
              refine lv_aload_n hx hb dX7_line_55 rfl (lv_at hl 0 rfl) ?_
              refine va_get (D := D) (ci := 7) (v := .ref w0) (C := RX7) (T := TX7) (N := 9) hx hb hts hi_X7_line_7 hown hK hP 0 rfl rfl 3 (by decide) (hts (.fieldLink RX7 28 "TheLiningsInIt" "ways" "LTheLiningsInIt$Ways;") (List.mem_of_getElem? (i := 1) rfl)) (fun _ h9 => h9) rfl dX7_line_56 ?_
              refine lv_iload_n hx hb dX7_line_59 rfl (lv_at hl 1 rfl) ?_
              refine lv_aload_n hx hb dX7_line_60 rfl (lv_at hl 0 rfl) ?_
              refine va_get (D := D) (ci := 7) (v := .ref j0) (C := RX7) (T := TX7) (N := 9) hx hb hts hi_X7_line_7 hown hK hP 0 rfl rfl 1 (by decide) (hts (.fieldLink RX7 18 "TheLiningsInIt" "now" "LTheLiningsInIt$Jacket;") (List.mem_of_getElem? (i := 2) rfl)) (fun _ h9 => h9) rfl dX7_line_61 ?_
              refine va_get (D := D) (ci := 0) (v := .int de) (C := RX0) (T := TX0) (N := 9) hx hb hts hi_X7_line_0 hown hK hP 7 rfl rfl 4 (by decide) (hts (.fieldLink RX7 199 "TheLiningsInIt$Jacket" "depth" "I") (List.mem_of_getElem? (i := 4) rfl)) (fun _ h9 => h9) rfl dX7_line_64 ?_
              refine lv_aload_n hx hb dX7_line_67 rfl (lv_at hl 0 rfl) ?_
              refine va_get (D := D) (ci := 7) (v := .ref j0) (C := RX7) (T := TX7) (N := 9) hx hb hts hi_X7_line_7 hown hK hP 0 rfl rfl 1 (by decide) (hts (.fieldLink RX7 18 "TheLiningsInIt" "now" "LTheLiningsInIt$Jacket;") (List.mem_of_getElem? (i := 2) rfl)) (fun _ h9 => h9) rfl dX7_line_68 ?_
              refine va_get (D := D) (ci := 0) (v := .int se) (C := RX0) (T := TX0) (N := 9) hx hb hts hi_X7_line_0 hown hK hP 7 rfl rfl 6 (by decide) (hts (.fieldLink RX7 202 "TheLiningsInIt$Jacket" "seconds" "I") (List.mem_of_getElem? (i := 5) rfl)) (fun _ h9 => h9) rfl dX7_line_71 ?_
              skip
              refine zw_V (As := [.int 2, .int de, .int se]) (rest := []) (wr := [(x0, .inr (7, [.ref xs, .ref j0, .ref k0, .ref w0, .ref rd, .ref mv, .ref xr, .int im, .int lf])), (xr, .inl (cI, 8, .inl fr)), (wk, .inl (cI, 125, .inl q_68)), (j0, .inr (0, [.ref z0, .ref jp, .ref jc, .int cn, .int de, .int tr, .int se, .int hu, .int sd])), (jp, .inl (cP, 8, .inr (.inr (.inr (.inr fp))))), (jc, .inl (cI, 3, .inl fjc))]) ⟨hx, hb, hml, hown, hts⟩ (c_W_first_2 l D cI cJ cZ cP cS po w0 wk wl wc wp (q_65) (q_66) (q_67) q_71 q_69 q_70 (de) (se) hbq_65.1 hbq_65.2 hbq_66.1 hbq_66.2 hbq_67.1 hbq_67.2 hwq_71 hy6 hy7 hpq_70 H.size) (cwV 3 hts gX7_line_X5_first rfl rfl rfl ⟨rfl, dh_X5_first⟩ ⟨Nat.le_of_ble_eq_true rfl, Nat.le_of_ble_eq_true rfl⟩) hK hN (hZ.kept hS) hP hD hS hA [2, 4, 5, 6] [0, 1, 3, 7, 8, 9] rfl rfl (by decide) (by decide) (by decide) (va_recv (q := (RX5, TX5, 7)) hK hP (ci := 5) (q0 := 2) rfl rfl) rfl hl.1 rfl (Nat.le_of_ble_eq_true rfl) dX7_line_74 ⟨Nat.le_of_ble_eq_true rfl, Nat.le_of_ble_eq_true rfl⟩ (fun r_76 u_77 H locs hr_76 hP hD hS => ?_)
              obtain ⟨q_78, rfl⟩ : ∃ z, z = u_77 := ⟨_, rfl⟩
              have h9R := zRe (ws' := [(x0, .inr (7, [.ref xs, .ref j0, .ref k0, .ref w0, .ref rd, .ref mv, .ref xr, .int im, .int lf])), (xr, .inl (cI, 8, .inl fr)), (wk, .inl (cI, 125, .inl q_68)), (j0, .inr (0, [.ref z0, .ref jp, .ref jc, .int cn, .int de, .int tr, .int se, .int hu, .int sd])), (jp, .inl (cP, 8, .inr (.inr (.inr (.inr fp))))), (jc, .inl (cI, 3, .inl fjc)), (w0, .inr (5, [.ref wk, .ref wl, .ref wc, .ref wp, .int q_65, .int q_66, .int q_67])), (wl, .inl (cI, 125, .inl q_78)), (wc, .inl (cI, 3, .inl q_70)), (wp, .inl (cP, 8, .inr (.inr (.inr (.inr q_71)))))]) hP hD rfl
              clear hP hD
              obtain ⟨hP, hD⟩ := h9R
              exact W.iret (v := r_76) hx hb hr (fun t ht hW => ⟨⟨r_76, (q_65, q_66, q_67, q_68, q_78, q_70, q_71, fr), rfl, ⟨(show 0 ≤ q_65.toInt ∧ q_65.toInt ≤ 8 from hbq_65), (show 0 ≤ q_66.toInt ∧ q_66.toInt ≤ 9 from hbq_66), (show 0 ≤ q_67.toInt ∧ q_67.toInt ≤ 60 from hbq_67), hpq_70, hwq_71, trivial⟩, zRet ht hP hD [0, 1, 3, 6, 2, 7, 8, 9, 4, 5] (by decide) rfl⟩, hS.F ht⟩) hS.2.2 dX7_line_77
          · refine lv_aload_n hx hb dX7_line_31 rfl (lv_at hl 0 rfl) ?_
            refine va_get (D := D) (ci := 7) (v := .ref w0) (C := RX7) (T := TX7) (N := 9) hx hb hts hi_X7_line_7 hown hK hP 0 rfl rfl 3 (by decide) (hts (.fieldLink RX7 28 "TheLiningsInIt" "ways" "LTheLiningsInIt$Ways;") (List.mem_of_getElem? (i := 1) rfl)) (fun _ h9 => h9) rfl dX7_line_32 ?_
            refine lv_aload_n hx hb dX7_line_35 rfl (lv_at hl 0 rfl) ?_
            refine va_get (D := D) (ci := 7) (v := .ref j0) (C := RX7) (T := TX7) (N := 9) hx hb hts hi_X7_line_7 hown hK hP 0 rfl rfl 1 (by decide) (hts (.fieldLink RX7 18 "TheLiningsInIt" "now" "LTheLiningsInIt$Jacket;") (List.mem_of_getElem? (i := 2) rfl)) (fun _ h9 => h9) rfl dX7_line_36 ?_
            refine lv_aload_n hx hb dX7_line_39 rfl (lv_at hl 0 rfl) ?_
            refine va_get (D := D) (ci := 7) (v := .ref j0) (C := RX7) (T := TX7) (N := 9) hx hb hts hi_X7_line_7 hown hK hP 0 rfl rfl 1 (by decide) (hts (.fieldLink RX7 18 "TheLiningsInIt" "now" "LTheLiningsInIt$Jacket;") (List.mem_of_getElem? (i := 2) rfl)) (fun _ h9 => h9) rfl dX7_line_40 ?_
            refine va_get (D := D) (ci := 0) (v := .int hu) (C := RX0) (T := TX0) (N := 9) hx hb hts hi_X7_line_0 hown hK hP 2 rfl rfl 7 (by decide) (hts (.fieldLink RX7 116 "TheLiningsInIt$Jacket" "hurry" "I") (List.mem_of_getElem? (i := 3) rfl)) (fun _ h9 => h9) rfl dX7_line_43 ?_
            refine lv_iconst (v := 1) hx hb dX7_line_46 (by decide) ?_
            skip
            refine zw_Vv (As := [.ref j0, .int hu, .int 1]) (rest := []) (wr := [(x0, .inr (7, [.ref xs, .ref j0, .ref k0, .ref w0, .ref rd, .ref mv, .ref xr, .int im, .int lf])), (xr, .inl (cI, 8, .inl fr))]) ⟨hx, hb, hml, hown, hts⟩ (c_W_look l D cI cJ cZ cP cS po w0 wk wl wc wp (wn) (wh) (wg) j0 jp jc z0 0 0 (cn) (de) (tr) (se) (hu) (sd) fp fq kf af tf fk fl fc fjc (hu) (1) hy10 hy11 hy12 hy13 hy14 hy15 hy4 hy5 hy6 hy7 hy8 hy9 hy8 hy9 hwq hjp hp_fc hp_fjc H.size) (cwV 3 hts gX7_line_X5_look rfl rfl rfl ⟨rfl, dh_X5_look⟩ ⟨Nat.le_of_ble_eq_true rfl, Nat.le_of_ble_eq_true rfl⟩) hK hN (hZ.kept hS) hP hD hS hA [3, 4, 5, 6, 7, 2, 8, 9] [0, 1] rfl rfl (by decide) (by decide) (by decide) (va_recv (q := (RX5, TX5, 7)) hK hP (ci := 5) (q0 := 3) rfl rfl) rfl hl.1 rfl (Nat.le_of_ble_eq_true rfl) dX7_line_47 ⟨Nat.le_of_ble_eq_true rfl, Nat.le_of_ble_eq_true rfl⟩ (fun u_80 H locs hr_79 hP hD hS => ?_)
            obtain ⟨q_81, q_82, q_83, q_84, q_85, q_86, q_87⟩ := u_80
            try dsimp only at hr_79
            obtain ⟨hbq_81, hbq_82, hbq_83, hpq_86, hwq_87, hr_79⟩ := hr_79
            have h9R := zRe (ws' := [(x0, .inr (7, [.ref xs, .ref j0, .ref k0, .ref w0, .ref rd, .ref mv, .ref xr, .int im, .int lf])), (xr, .inl (cI, 8, .inl fr)), (w0, .inr (5, [.ref wk, .ref wl, .ref wc, .ref wp, .int q_81, .int q_82, .int q_83])), (wk, .inl (cI, 125, .inl q_84)), (wl, .inl (cI, 125, .inl q_85)), (wc, .inl (cI, 3, .inl q_86)), (wp, .inl (cP, 8, .inr (.inr (.inr (.inr q_87))))), (j0, .inr (0, [.ref z0, .ref jp, .ref jc, .int cn, .int de, .int tr, .int se, .int hu, .int sd])), (jp, .inl (cP, 8, .inr (.inr (.inr (.inr fp))))), (jc, .inl (cI, 3, .inl fjc))]) hP hD rfl
            clear hP hD
            obtain ⟨hP, hD⟩ := h9R
            refine lv_iload_n hx hb dX7_line_50 rfl (lv_at hl 2 rfl) ?_
            refine lv_iconst (v := 1) hx hb dX7_line_51 (by decide) ?_
            refine lv_icmp_ne (tgt := 78) hx hb dX7_line_52 (by decide) (fun c_88 => ?_) (fun c_88 => ?_)
            · have fc_88 : w.toInt ≠ 1 := zf_ne c_88 rfl (by decide)
              refine lv_aload_n hx hb dX7_line_78 rfl (lv_at hl 0 rfl) ?_
              refine va_get (D := D) (ci := 7) (v := .ref w0) (C := RX7) (T := TX7) (N := 9) hx hb hts hi_X7_line_7 hown hK hP 0 rfl rfl 3 (by decide) (hts (.fieldLink RX7 28 "TheLiningsInIt" "ways" "LTheLiningsInIt$Ways;") (List.mem_of_getElem? (i := 1) rfl)) (fun _ h9 => h9) rfl dX7_line_79 ?_
              refine lv_iload_n hx hb dX7_line_82 rfl (lv_at hl 1 rfl) ?_
              refine lv_aload_n hx hb dX7_line_83 rfl (lv_at hl 0 rfl) ?_
              refine va_get (D := D) (ci := 7) (v := .ref j0) (C := RX7) (T := TX7) (N := 9) hx hb hts hi_X7_line_7 hown hK hP 0 rfl rfl 1 (by decide) (hts (.fieldLink RX7 18 "TheLiningsInIt" "now" "LTheLiningsInIt$Jacket;") (List.mem_of_getElem? (i := 2) rfl)) (fun _ h9 => h9) rfl dX7_line_84 ?_
              refine va_get (D := D) (ci := 0) (v := .int de) (C := RX0) (T := TX0) (N := 9) hx hb hts hi_X7_line_0 hown hK hP 7 rfl rfl 4 (by decide) (hts (.fieldLink RX7 199 "TheLiningsInIt$Jacket" "depth" "I") (List.mem_of_getElem? (i := 4) rfl)) (fun _ h9 => h9) rfl dX7_line_87 ?_
              refine lv_aload_n hx hb dX7_line_90 rfl (lv_at hl 0 rfl) ?_
              refine va_get (D := D) (ci := 7) (v := .ref j0) (C := RX7) (T := TX7) (N := 9) hx hb hts hi_X7_line_7 hown hK hP 0 rfl rfl 1 (by decide) (hts (.fieldLink RX7 18 "TheLiningsInIt" "now" "LTheLiningsInIt$Jacket;") (List.mem_of_getElem? (i := 2) rfl)) (fun _ h9 => h9) rfl dX7_line_91 ?_
              refine va_get (D := D) (ci := 0) (v := .int se) (C := RX0) (T := TX0) (N := 9) hx hb hts hi_X7_line_0 hown hK hP 7 rfl rfl 6 (by decide) (hts (.fieldLink RX7 202 "TheLiningsInIt$Jacket" "seconds" "I") (List.mem_of_getElem? (i := 5) rfl)) (fun _ h9 => h9) rfl dX7_line_94 ?_
              skip
              refine zw_VN (As := [.int 3, .int de, .int se]) (rest := []) (wr := [(x0, .inr (7, [.ref xs, .ref j0, .ref k0, .ref w0, .ref rd, .ref mv, .ref xr, .int im, .int lf])), (xr, .inl (cI, 8, .inl fr)), (wk, .inl (cI, 125, .inl q_84)), (j0, .inr (0, [.ref z0, .ref jp, .ref jc, .int cn, .int de, .int tr, .int se, .int hu, .int sd])), (jp, .inl (cP, 8, .inr (.inr (.inr (.inr fp))))), (jc, .inl (cI, 3, .inl fjc))]) ⟨hx, hb, hml, hown, hts⟩ (c_W_least_3 l D cI cJ cZ cP cS po w0 wk wl wc wp (q_81) (q_82) (q_83) q_87 q_85 q_86 (de) (se) hbq_81.1 hbq_81.2 hbq_82.1 hbq_82.2 hbq_83.1 hbq_83.2 hwq_87 hy6 hy7 hpq_86 H.size) ⟨(va_cnB 3 hts gX7_line_X5_least_n214 rfl rfl rfl (hN.1 (RX7, 214, yX5_least) (List.mem_of_getElem? (i := 11) rfl)) (hts _ (List.mem_of_getElem? (i := 22) rfl)) dh_X5_least ⟨Nat.le_of_ble_eq_true rfl, Nat.le_of_ble_eq_true rfl⟩), (hts _ (List.mem_of_getElem? (i := 59) rfl)), (hts _ (List.mem_of_getElem? (i := 60) rfl))⟩ hK hN (hZ.kept hS) hP hD hS hA [2, 4, 5, 6] [0, 1, 3, 7, 8, 9] rfl rfl (by decide) (by decide) (by decide) (va_recv (q := (RX5, TX5, 7)) hK hP (ci := 5) (q0 := 2) rfl rfl) rfl hl.1 rfl (Nat.le_of_ble_eq_true rfl) dX7_line_97 ⟨Nat.le_of_ble_eq_true rfl, Nat.le_of_ble_eq_true rfl⟩ (fun r_89 u_90 H locs hr_89 hP hD hS => ?_)
              obtain ⟨q_91, rfl⟩ : ∃ z, z = u_90 := ⟨_, rfl⟩
              have h9R := zRe (ws' := [(x0, .inr (7, [.ref xs, .ref j0, .ref k0, .ref w0, .ref rd, .ref mv, .ref xr, .int im, .int lf])), (xr, .inl (cI, 8, .inl fr)), (wk, .inl (cI, 125, .inl q_84)), (j0, .inr (0, [.ref z0, .ref jp, .ref jc, .int cn, .int de, .int tr, .int se, .int hu, .int sd])), (jp, .inl (cP, 8, .inr (.inr (.inr (.inr fp))))), (jc, .inl (cI, 3, .inl fjc)), (w0, .inr (5, [.ref wk, .ref wl, .ref wc, .ref wp, .int q_81, .int q_82, .int q_83])), (wl, .inl (cI, 125, .inl q_91)), (wc, .inl (cI, 3, .inl q_86)), (wp, .inl (cP, 8, .inr (.inr (.inr (.inr q_87)))))]) hP hD rfl
              clear hP hD
              obtain ⟨hP, hD⟩ := h9R
              exact W.iret (v := r_89) hx hb hr (fun t ht hW => ⟨⟨r_89, (q_81, q_82, q_83, q_84, q_91, q_86, q_87, fr), rfl, ⟨(show 0 ≤ q_81.toInt ∧ q_81.toInt ≤ 8 from hbq_81), (show 0 ≤ q_82.toInt ∧ q_82.toInt ≤ 9 from hbq_82), (show 0 ≤ q_83.toInt ∧ q_83.toInt ≤ 60 from hbq_83), hpq_86, hwq_87, trivial⟩, zRet ht hP hD [0, 1, 3, 6, 2, 7, 8, 9, 4, 5] (by decide) rfl⟩, hS.F ht⟩) hS.2.2 dX7_line_100
            · have fc_88 : w.toInt = 1 := zf_eq c_88 rfl (by decide)
              refine lv_aload_n hx hb dX7_line_55 rfl (lv_at hl 0 rfl) ?_
              refine va_get (D := D) (ci := 7) (v := .ref w0) (C := RX7) (T := TX7) (N := 9) hx hb hts hi_X7_line_7 hown hK hP 0 rfl rfl 3 (by decide) (hts (.fieldLink RX7 28 "TheLiningsInIt" "ways" "LTheLiningsInIt$Ways;") (List.mem_of_getElem? (i := 1) rfl)) (fun _ h9 => h9) rfl dX7_line_56 ?_
              refine lv_iload_n hx hb dX7_line_59 rfl (lv_at hl 1 rfl) ?_
              refine lv_aload_n hx hb dX7_line_60 rfl (lv_at hl 0 rfl) ?_
              refine va_get (D := D) (ci := 7) (v := .ref j0) (C := RX7) (T := TX7) (N := 9) hx hb hts hi_X7_line_7 hown hK hP 0 rfl rfl 1 (by decide) (hts (.fieldLink RX7 18 "TheLiningsInIt" "now" "LTheLiningsInIt$Jacket;") (List.mem_of_getElem? (i := 2) rfl)) (fun _ h9 => h9) rfl dX7_line_61 ?_
              refine va_get (D := D) (ci := 0) (v := .int de) (C := RX0) (T := TX0) (N := 9) hx hb hts hi_X7_line_0 hown hK hP 7 rfl rfl 4 (by decide) (hts (.fieldLink RX7 199 "TheLiningsInIt$Jacket" "depth" "I") (List.mem_of_getElem? (i := 4) rfl)) (fun _ h9 => h9) rfl dX7_line_64 ?_
              refine lv_aload_n hx hb dX7_line_67 rfl (lv_at hl 0 rfl) ?_
              refine va_get (D := D) (ci := 7) (v := .ref j0) (C := RX7) (T := TX7) (N := 9) hx hb hts hi_X7_line_7 hown hK hP 0 rfl rfl 1 (by decide) (hts (.fieldLink RX7 18 "TheLiningsInIt" "now" "LTheLiningsInIt$Jacket;") (List.mem_of_getElem? (i := 2) rfl)) (fun _ h9 => h9) rfl dX7_line_68 ?_
              refine va_get (D := D) (ci := 0) (v := .int se) (C := RX0) (T := TX0) (N := 9) hx hb hts hi_X7_line_0 hown hK hP 7 rfl rfl 6 (by decide) (hts (.fieldLink RX7 202 "TheLiningsInIt$Jacket" "seconds" "I") (List.mem_of_getElem? (i := 5) rfl)) (fun _ h9 => h9) rfl dX7_line_71 ?_
              skip
              refine zw_V (As := [.int 3, .int de, .int se]) (rest := []) (wr := [(x0, .inr (7, [.ref xs, .ref j0, .ref k0, .ref w0, .ref rd, .ref mv, .ref xr, .int im, .int lf])), (xr, .inl (cI, 8, .inl fr)), (wk, .inl (cI, 125, .inl q_84)), (j0, .inr (0, [.ref z0, .ref jp, .ref jc, .int cn, .int de, .int tr, .int se, .int hu, .int sd])), (jp, .inl (cP, 8, .inr (.inr (.inr (.inr fp))))), (jc, .inl (cI, 3, .inl fjc))]) ⟨hx, hb, hml, hown, hts⟩ (c_W_first_3 l D cI cJ cZ cP cS po w0 wk wl wc wp (q_81) (q_82) (q_83) q_87 q_85 q_86 (de) (se) hbq_81.1 hbq_81.2 hbq_82.1 hbq_82.2 hbq_83.1 hbq_83.2 hwq_87 hy6 hy7 hpq_86 H.size) (cwV 3 hts gX7_line_X5_first rfl rfl rfl ⟨rfl, dh_X5_first⟩ ⟨Nat.le_of_ble_eq_true rfl, Nat.le_of_ble_eq_true rfl⟩) hK hN (hZ.kept hS) hP hD hS hA [2, 4, 5, 6] [0, 1, 3, 7, 8, 9] rfl rfl (by decide) (by decide) (by decide) (va_recv (q := (RX5, TX5, 7)) hK hP (ci := 5) (q0 := 2) rfl rfl) rfl hl.1 rfl (Nat.le_of_ble_eq_true rfl) dX7_line_74 ⟨Nat.le_of_ble_eq_true rfl, Nat.le_of_ble_eq_true rfl⟩ (fun r_92 u_93 H locs hr_92 hP hD hS => ?_)
              obtain ⟨q_94, rfl⟩ : ∃ z, z = u_93 := ⟨_, rfl⟩
              have h9R := zRe (ws' := [(x0, .inr (7, [.ref xs, .ref j0, .ref k0, .ref w0, .ref rd, .ref mv, .ref xr, .int im, .int lf])), (xr, .inl (cI, 8, .inl fr)), (wk, .inl (cI, 125, .inl q_84)), (j0, .inr (0, [.ref z0, .ref jp, .ref jc, .int cn, .int de, .int tr, .int se, .int hu, .int sd])), (jp, .inl (cP, 8, .inr (.inr (.inr (.inr fp))))), (jc, .inl (cI, 3, .inl fjc)), (w0, .inr (5, [.ref wk, .ref wl, .ref wc, .ref wp, .int q_81, .int q_82, .int q_83])), (wl, .inl (cI, 125, .inl q_94)), (wc, .inl (cI, 3, .inl q_86)), (wp, .inl (cP, 8, .inr (.inr (.inr (.inr q_87)))))]) hP hD rfl
              clear hP hD
              obtain ⟨hP, hD⟩ := h9R
              exact W.iret (v := r_92) hx hb hr (fun t ht hW => ⟨⟨r_92, (q_81, q_82, q_83, q_84, q_94, q_86, q_87, fr), rfl, ⟨(show 0 ≤ q_81.toInt ∧ q_81.toInt ≤ 8 from hbq_81), (show 0 ≤ q_82.toInt ∧ q_82.toInt ≤ 9 from hbq_82), (show 0 ≤ q_83.toInt ∧ q_83.toInt ≤ 60 from hbq_83), hpq_86, hwq_87, trivial⟩, zRet ht hP hD [0, 1, 3, 6, 2, 7, 8, 9, 4, 5] (by decide) rfl⟩, hS.F ht⟩) hS.2.2 dX7_line_77
          · refine lv_aload_n hx hb dX7_line_31 rfl (lv_at hl 0 rfl) ?_
            refine va_get (D := D) (ci := 7) (v := .ref w0) (C := RX7) (T := TX7) (N := 9) hx hb hts hi_X7_line_7 hown hK hP 0 rfl rfl 3 (by decide) (hts (.fieldLink RX7 28 "TheLiningsInIt" "ways" "LTheLiningsInIt$Ways;") (List.mem_of_getElem? (i := 1) rfl)) (fun _ h9 => h9) rfl dX7_line_32 ?_
            refine lv_aload_n hx hb dX7_line_35 rfl (lv_at hl 0 rfl) ?_
            refine va_get (D := D) (ci := 7) (v := .ref j0) (C := RX7) (T := TX7) (N := 9) hx hb hts hi_X7_line_7 hown hK hP 0 rfl rfl 1 (by decide) (hts (.fieldLink RX7 18 "TheLiningsInIt" "now" "LTheLiningsInIt$Jacket;") (List.mem_of_getElem? (i := 2) rfl)) (fun _ h9 => h9) rfl dX7_line_36 ?_
            refine lv_aload_n hx hb dX7_line_39 rfl (lv_at hl 0 rfl) ?_
            refine va_get (D := D) (ci := 7) (v := .ref j0) (C := RX7) (T := TX7) (N := 9) hx hb hts hi_X7_line_7 hown hK hP 0 rfl rfl 1 (by decide) (hts (.fieldLink RX7 18 "TheLiningsInIt" "now" "LTheLiningsInIt$Jacket;") (List.mem_of_getElem? (i := 2) rfl)) (fun _ h9 => h9) rfl dX7_line_40 ?_
            refine va_get (D := D) (ci := 0) (v := .int hu) (C := RX0) (T := TX0) (N := 9) hx hb hts hi_X7_line_0 hown hK hP 2 rfl rfl 7 (by decide) (hts (.fieldLink RX7 116 "TheLiningsInIt$Jacket" "hurry" "I") (List.mem_of_getElem? (i := 3) rfl)) (fun _ h9 => h9) rfl dX7_line_43 ?_
            refine lv_iconst (v := 1) hx hb dX7_line_46 (by decide) ?_
            skip
            refine zw_Vv (As := [.ref j0, .int hu, .int 1]) (rest := []) (wr := [(x0, .inr (7, [.ref xs, .ref j0, .ref k0, .ref w0, .ref rd, .ref mv, .ref xr, .int im, .int lf])), (xr, .inl (cI, 8, .inl fr))]) ⟨hx, hb, hml, hown, hts⟩ (c_W_look l D cI cJ cZ cP cS po w0 wk wl wc wp (wn) (wh) (wg) j0 jp jc z0 0 0 (cn) (de) (tr) (se) (hu) (sd) fp fq kf af tf fk fl fc fjc (hu) (1) hy10 hy11 hy12 hy13 hy14 hy15 hy4 hy5 hy6 hy7 hy8 hy9 hy8 hy9 hwq hjp hp_fc hp_fjc H.size) (cwV 3 hts gX7_line_X5_look rfl rfl rfl ⟨rfl, dh_X5_look⟩ ⟨Nat.le_of_ble_eq_true rfl, Nat.le_of_ble_eq_true rfl⟩) hK hN (hZ.kept hS) hP hD hS hA [3, 4, 5, 6, 7, 2, 8, 9] [0, 1] rfl rfl (by decide) (by decide) (by decide) (va_recv (q := (RX5, TX5, 7)) hK hP (ci := 5) (q0 := 3) rfl rfl) rfl hl.1 rfl (Nat.le_of_ble_eq_true rfl) dX7_line_47 ⟨Nat.le_of_ble_eq_true rfl, Nat.le_of_ble_eq_true rfl⟩ (fun u_96 H locs hr_95 hP hD hS => ?_)
            obtain ⟨q_97, q_98, q_99, q_100, q_101, q_102, q_103⟩ := u_96
            try dsimp only at hr_95
            obtain ⟨hbq_97, hbq_98, hbq_99, hpq_102, hwq_103, hr_95⟩ := hr_95
            have h9R := zRe (ws' := [(x0, .inr (7, [.ref xs, .ref j0, .ref k0, .ref w0, .ref rd, .ref mv, .ref xr, .int im, .int lf])), (xr, .inl (cI, 8, .inl fr)), (w0, .inr (5, [.ref wk, .ref wl, .ref wc, .ref wp, .int q_97, .int q_98, .int q_99])), (wk, .inl (cI, 125, .inl q_100)), (wl, .inl (cI, 125, .inl q_101)), (wc, .inl (cI, 3, .inl q_102)), (wp, .inl (cP, 8, .inr (.inr (.inr (.inr q_103))))), (j0, .inr (0, [.ref z0, .ref jp, .ref jc, .int cn, .int de, .int tr, .int se, .int hu, .int sd])), (jp, .inl (cP, 8, .inr (.inr (.inr (.inr fp))))), (jc, .inl (cI, 3, .inl fjc))]) hP hD rfl
            clear hP hD
            obtain ⟨hP, hD⟩ := h9R
            refine lv_iload_n hx hb dX7_line_50 rfl (lv_at hl 2 rfl) ?_
            refine lv_iconst (v := 1) hx hb dX7_line_51 (by decide) ?_
            refine lv_icmp_ne (tgt := 78) hx hb dX7_line_52 (by decide) (fun c_104 => ?_) (fun c_104 => ?_)
            · have fc_104 : w.toInt ≠ 1 := zf_ne c_104 rfl (by decide)
              refine lv_aload_n hx hb dX7_line_78 rfl (lv_at hl 0 rfl) ?_
              refine va_get (D := D) (ci := 7) (v := .ref w0) (C := RX7) (T := TX7) (N := 9) hx hb hts hi_X7_line_7 hown hK hP 0 rfl rfl 3 (by decide) (hts (.fieldLink RX7 28 "TheLiningsInIt" "ways" "LTheLiningsInIt$Ways;") (List.mem_of_getElem? (i := 1) rfl)) (fun _ h9 => h9) rfl dX7_line_79 ?_
              refine lv_iload_n hx hb dX7_line_82 rfl (lv_at hl 1 rfl) ?_
              refine lv_aload_n hx hb dX7_line_83 rfl (lv_at hl 0 rfl) ?_
              refine va_get (D := D) (ci := 7) (v := .ref j0) (C := RX7) (T := TX7) (N := 9) hx hb hts hi_X7_line_7 hown hK hP 0 rfl rfl 1 (by decide) (hts (.fieldLink RX7 18 "TheLiningsInIt" "now" "LTheLiningsInIt$Jacket;") (List.mem_of_getElem? (i := 2) rfl)) (fun _ h9 => h9) rfl dX7_line_84 ?_
              refine va_get (D := D) (ci := 0) (v := .int de) (C := RX0) (T := TX0) (N := 9) hx hb hts hi_X7_line_0 hown hK hP 7 rfl rfl 4 (by decide) (hts (.fieldLink RX7 199 "TheLiningsInIt$Jacket" "depth" "I") (List.mem_of_getElem? (i := 4) rfl)) (fun _ h9 => h9) rfl dX7_line_87 ?_
              refine lv_aload_n hx hb dX7_line_90 rfl (lv_at hl 0 rfl) ?_
              refine va_get (D := D) (ci := 7) (v := .ref j0) (C := RX7) (T := TX7) (N := 9) hx hb hts hi_X7_line_7 hown hK hP 0 rfl rfl 1 (by decide) (hts (.fieldLink RX7 18 "TheLiningsInIt" "now" "LTheLiningsInIt$Jacket;") (List.mem_of_getElem? (i := 2) rfl)) (fun _ h9 => h9) rfl dX7_line_91 ?_
              refine va_get (D := D) (ci := 0) (v := .int se) (C := RX0) (T := TX0) (N := 9) hx hb hts hi_X7_line_0 hown hK hP 7 rfl rfl 6 (by decide) (hts (.fieldLink RX7 202 "TheLiningsInIt$Jacket" "seconds" "I") (List.mem_of_getElem? (i := 5) rfl)) (fun _ h9 => h9) rfl dX7_line_94 ?_
              skip
              refine zw_VN (As := [.int 4, .int de, .int se]) (rest := []) (wr := [(x0, .inr (7, [.ref xs, .ref j0, .ref k0, .ref w0, .ref rd, .ref mv, .ref xr, .int im, .int lf])), (xr, .inl (cI, 8, .inl fr)), (wk, .inl (cI, 125, .inl q_100)), (j0, .inr (0, [.ref z0, .ref jp, .ref jc, .int cn, .int de, .int tr, .int se, .int hu, .int sd])), (jp, .inl (cP, 8, .inr (.inr (.inr (.inr fp))))), (jc, .inl (cI, 3, .inl fjc))]) ⟨hx, hb, hml, hown, hts⟩ (c_W_least_4 l D cI cJ cZ cP cS po w0 wk wl wc wp (q_97) (q_98) (q_99) q_103 q_101 q_102 (de) (se) hbq_97.1 hbq_97.2 hbq_98.1 hbq_98.2 hbq_99.1 hbq_99.2 hwq_103 hy6 hy7 hpq_102 H.size) ⟨(va_cnB 3 hts gX7_line_X5_least_n214 rfl rfl rfl (hN.1 (RX7, 214, yX5_least) (List.mem_of_getElem? (i := 11) rfl)) (hts _ (List.mem_of_getElem? (i := 22) rfl)) dh_X5_least ⟨Nat.le_of_ble_eq_true rfl, Nat.le_of_ble_eq_true rfl⟩), (hts _ (List.mem_of_getElem? (i := 59) rfl)), (hts _ (List.mem_of_getElem? (i := 60) rfl))⟩ hK hN (hZ.kept hS) hP hD hS hA [2, 4, 5, 6] [0, 1, 3, 7, 8, 9] rfl rfl (by decide) (by decide) (by decide) (va_recv (q := (RX5, TX5, 7)) hK hP (ci := 5) (q0 := 2) rfl rfl) rfl hl.1 rfl (Nat.le_of_ble_eq_true rfl) dX7_line_97 ⟨Nat.le_of_ble_eq_true rfl, Nat.le_of_ble_eq_true rfl⟩ (fun r_105 u_106 H locs hr_105 hP hD hS => ?_)
              obtain ⟨q_107, rfl⟩ : ∃ z, z = u_106 := ⟨_, rfl⟩
              have h9R := zRe (ws' := [(x0, .inr (7, [.ref xs, .ref j0, .ref k0, .ref w0, .ref rd, .ref mv, .ref xr, .int im, .int lf])), (xr, .inl (cI, 8, .inl fr)), (wk, .inl (cI, 125, .inl q_100)), (j0, .inr (0, [.ref z0, .ref jp, .ref jc, .int cn, .int de, .int tr, .int se, .int hu, .int sd])), (jp, .inl (cP, 8, .inr (.inr (.inr (.inr fp))))), (jc, .inl (cI, 3, .inl fjc)), (w0, .inr (5, [.ref wk, .ref wl, .ref wc, .ref wp, .int q_97, .int q_98, .int q_99])), (wl, .inl (cI, 125, .inl q_107)), (wc, .inl (cI, 3, .inl q_102)), (wp, .inl (cP, 8, .inr (.inr (.inr (.inr q_103)))))]) hP hD rfl
              clear hP hD
              obtain ⟨hP, hD⟩ := h9R
              exact W.iret (v := r_105) hx hb hr (fun t ht hW => ⟨⟨r_105, (q_97, q_98, q_99, q_100, q_107, q_102, q_103, fr), rfl, ⟨(show 0 ≤ q_97.toInt ∧ q_97.toInt ≤ 8 from hbq_97), (show 0 ≤ q_98.toInt ∧ q_98.toInt ≤ 9 from hbq_98), (show 0 ≤ q_99.toInt ∧ q_99.toInt ≤ 60 from hbq_99), hpq_102, hwq_103, trivial⟩, zRet ht hP hD [0, 1, 3, 6, 2, 7, 8, 9, 4, 5] (by decide) rfl⟩, hS.F ht⟩) hS.2.2 dX7_line_100
            · have fc_104 : w.toInt = 1 := zf_eq c_104 rfl (by decide)
              refine lv_aload_n hx hb dX7_line_55 rfl (lv_at hl 0 rfl) ?_
              refine va_get (D := D) (ci := 7) (v := .ref w0) (C := RX7) (T := TX7) (N := 9) hx hb hts hi_X7_line_7 hown hK hP 0 rfl rfl 3 (by decide) (hts (.fieldLink RX7 28 "TheLiningsInIt" "ways" "LTheLiningsInIt$Ways;") (List.mem_of_getElem? (i := 1) rfl)) (fun _ h9 => h9) rfl dX7_line_56 ?_
              refine lv_iload_n hx hb dX7_line_59 rfl (lv_at hl 1 rfl) ?_
              refine lv_aload_n hx hb dX7_line_60 rfl (lv_at hl 0 rfl) ?_
              refine va_get (D := D) (ci := 7) (v := .ref j0) (C := RX7) (T := TX7) (N := 9) hx hb hts hi_X7_line_7 hown hK hP 0 rfl rfl 1 (by decide) (hts (.fieldLink RX7 18 "TheLiningsInIt" "now" "LTheLiningsInIt$Jacket;") (List.mem_of_getElem? (i := 2) rfl)) (fun _ h9 => h9) rfl dX7_line_61 ?_
              refine va_get (D := D) (ci := 0) (v := .int de) (C := RX0) (T := TX0) (N := 9) hx hb hts hi_X7_line_0 hown hK hP 7 rfl rfl 4 (by decide) (hts (.fieldLink RX7 199 "TheLiningsInIt$Jacket" "depth" "I") (List.mem_of_getElem? (i := 4) rfl)) (fun _ h9 => h9) rfl dX7_line_64 ?_
              refine lv_aload_n hx hb dX7_line_67 rfl (lv_at hl 0 rfl) ?_
              refine va_get (D := D) (ci := 7) (v := .ref j0) (C := RX7) (T := TX7) (N := 9) hx hb hts hi_X7_line_7 hown hK hP 0 rfl rfl 1 (by decide) (hts (.fieldLink RX7 18 "TheLiningsInIt" "now" "LTheLiningsInIt$Jacket;") (List.mem_of_getElem? (i := 2) rfl)) (fun _ h9 => h9) rfl dX7_line_68 ?_
              refine va_get (D := D) (ci := 0) (v := .int se) (C := RX0) (T := TX0) (N := 9) hx hb hts hi_X7_line_0 hown hK hP 7 rfl rfl 6 (by decide) (hts (.fieldLink RX7 202 "TheLiningsInIt$Jacket" "seconds" "I") (List.mem_of_getElem? (i := 5) rfl)) (fun _ h9 => h9) rfl dX7_line_71 ?_
              skip
              refine zw_V (As := [.int 4, .int de, .int se]) (rest := []) (wr := [(x0, .inr (7, [.ref xs, .ref j0, .ref k0, .ref w0, .ref rd, .ref mv, .ref xr, .int im, .int lf])), (xr, .inl (cI, 8, .inl fr)), (wk, .inl (cI, 125, .inl q_100)), (j0, .inr (0, [.ref z0, .ref jp, .ref jc, .int cn, .int de, .int tr, .int se, .int hu, .int sd])), (jp, .inl (cP, 8, .inr (.inr (.inr (.inr fp))))), (jc, .inl (cI, 3, .inl fjc))]) ⟨hx, hb, hml, hown, hts⟩ (c_W_first_4 l D cI cJ cZ cP cS po w0 wk wl wc wp (q_97) (q_98) (q_99) q_103 q_101 q_102 (de) (se) hbq_97.1 hbq_97.2 hbq_98.1 hbq_98.2 hbq_99.1 hbq_99.2 hwq_103 hy6 hy7 hpq_102 H.size) (cwV 3 hts gX7_line_X5_first rfl rfl rfl ⟨rfl, dh_X5_first⟩ ⟨Nat.le_of_ble_eq_true rfl, Nat.le_of_ble_eq_true rfl⟩) hK hN (hZ.kept hS) hP hD hS hA [2, 4, 5, 6] [0, 1, 3, 7, 8, 9] rfl rfl (by decide) (by decide) (by decide) (va_recv (q := (RX5, TX5, 7)) hK hP (ci := 5) (q0 := 2) rfl rfl) rfl hl.1 rfl (Nat.le_of_ble_eq_true rfl) dX7_line_74 ⟨Nat.le_of_ble_eq_true rfl, Nat.le_of_ble_eq_true rfl⟩ (fun r_108 u_109 H locs hr_108 hP hD hS => ?_)
              obtain ⟨q_110, rfl⟩ : ∃ z, z = u_109 := ⟨_, rfl⟩
              have h9R := zRe (ws' := [(x0, .inr (7, [.ref xs, .ref j0, .ref k0, .ref w0, .ref rd, .ref mv, .ref xr, .int im, .int lf])), (xr, .inl (cI, 8, .inl fr)), (wk, .inl (cI, 125, .inl q_100)), (j0, .inr (0, [.ref z0, .ref jp, .ref jc, .int cn, .int de, .int tr, .int se, .int hu, .int sd])), (jp, .inl (cP, 8, .inr (.inr (.inr (.inr fp))))), (jc, .inl (cI, 3, .inl fjc)), (w0, .inr (5, [.ref wk, .ref wl, .ref wc, .ref wp, .int q_97, .int q_98, .int q_99])), (wl, .inl (cI, 125, .inl q_110)), (wc, .inl (cI, 3, .inl q_102)), (wp, .inl (cP, 8, .inr (.inr (.inr (.inr q_103)))))]) hP hD rfl
              clear hP hD
              obtain ⟨hP, hD⟩ := h9R
              exact W.iret (v := r_108) hx hb hr (fun t ht hW => ⟨⟨r_108, (q_97, q_98, q_99, q_100, q_110, q_102, q_103, fr), rfl, ⟨(show 0 ≤ q_97.toInt ∧ q_97.toInt ≤ 8 from hbq_97), (show 0 ≤ q_98.toInt ∧ q_98.toInt ≤ 9 from hbq_98), (show 0 ≤ q_99.toInt ∧ q_99.toInt ≤ 60 from hbq_99), hpq_102, hwq_103, trivial⟩, zRet ht hP hD [0, 1, 3, 6, 2, 7, 8, 9, 4, 5] (by decide) rfl⟩, hS.F ht⟩) hS.2.2 dX7_line_77
        · exact absurd c_30 (by decide)
    · exact absurd c_15 (by decide)
theorem gl_X7_casesBy_X70 : GoodIn wsX7_casesBy wsX70 := (dg_t (dg_l (dg_l (dg_l (dg_r gw_wsX70)))))
theorem hi_X7_casesBy_7 : ∀ w ∈ u_ws RX7 TX7 9, w ∈ wsX7_casesBy := fun w h => (gl_X7_casesBy_X70 w h).1
theorem hi_X7_casesBy_0 : ∀ w ∈ u_ws RX0 TX0 9, w ∈ wsX7_casesBy := fun w h => (gl_X7_casesBy_X00 w h).1
set_option maxHeartbeats 4000000 in
set_option maxRecDepth 100000 in
theorem c_X_casesBy_0 (l : Launch) (D : va_G) (cI cJ cZ cP cS : ClassId) (po : zPool) (x0 xs j0 k0 w0 rd mv xr : Nat) (im lf : Int32) (fr : Nat → Int32) (j0 jp jc z0 zl zs : Nat) (cn de tr se hu sd : Int32) (wk wl wc wp : Nat) (wn wh wg : Int32) (fq : Nat → Option Nat) (fk fl fc fjc : Nat → Int32) (fp : Nat → Option Nat) (kf af tf : Nat → Int32) (h : Int32) (hy0 : 0 ≤ im.toInt) (hy1 : im.toInt ≤ 1) (hy2 : (-1) ≤ lf.toInt) (hy3 : lf.toInt ≤ 160) (hy4 : 0 ≤ cn.toInt) (hy5 : cn.toInt ≤ 8) (hy6 : 0 ≤ de.toInt) (hy7 : de.toInt ≤ 24) (hy8 : 0 ≤ hu.toInt) (hy9 : hu.toInt ≤ 9) (hy10 : 0 ≤ wn.toInt) (hy11 : wn.toInt ≤ 8) (hy12 : 0 ≤ wh.toInt) (hy13 : wh.toInt ≤ 9) (hy14 : 0 ≤ wg.toInt) (hy15 : wg.toInt ≤ 60) (hwq : zWP po fq) (hjp : zJP po fp cn kf af tf) (hy18 : 0 ≤ h.toInt) (hy19 : h.toInt ≤ 9) (hp_fc : zRg fc (0) 99) (hp_fjc : zRg fjc (0) 99) (hpz : Nat) : Met l yX7_casesBy wsX7_casesBy ({ frames := 3, cells := 0, slots := 0, locals := 126 }) (va_Pc [.ref x0, .int h, .int 0] (zW D (zKT cI cJ cZ cP cS) po [(x0, .inr (7, [.ref xs, .ref j0, .ref k0, .ref w0, .ref rd, .ref mv, .ref xr, .int im, .int lf])), (j0, .inr (0, [.ref z0, .ref jp, .ref jc, .int cn, .int de, .int tr, .int se, .int hu, .int sd])), (w0, .inr (5, [.ref wk, .ref wl, .ref wc, .ref wp, .int wn, .int wh, .int wg])), (wk, .inl (cI, 125, .inl fk)), (wl, .inl (cI, 125, .inl fl)), (wc, .inl (cI, 3, .inl fc)), (wp, .inl (cP, 8, .inr (.inr (.inr (.inr fq))))), (jp, .inl (cP, 8, .inr (.inr (.inr (.inr fp))))), (jc, .inl (cI, 3, .inl fjc))] hpz)) (va_Qi (fun (r : Int32) (u : (Int32) × (Int32) × (Int32) × (Nat → Int32) × (Nat → Int32) × (Nat → Int32) × (Nat → Option Nat)) => (0 ≤ u.1.toInt ∧ u.1.toInt ≤ 8) ∧ (0 ≤ u.2.1.toInt ∧ u.2.1.toInt ≤ 9) ∧ (0 ≤ u.2.2.1.toInt ∧ u.2.2.1.toInt ≤ 60) ∧ zRg u.2.2.2.2.2.1 (0) 99 ∧ zWP po u.2.2.2.2.2.2 ∧ (True)) (zB D [(x0, .inr (7, [.ref xs, .ref j0, .ref k0, .ref w0, .ref rd, .ref mv, .ref xr, .int im, .int lf])), (j0, .inr (0, [.ref z0, .ref jp, .ref jc, .int cn, .int de, .int tr, .int se, .int hu, .int sd])), (w0, .inr (5, [.ref wk, .ref wl, .ref wc, .ref wp, .int wn, .int wh, .int wg])), (wk, .inl (cI, 125, .inl fk)), (wl, .inl (cI, 125, .inl fl)), (wc, .inl (cI, 3, .inl fc)), (wp, .inl (cP, 8, .inr (.inr (.inr (.inr fq))))), (jp, .inl (cP, 8, .inr (.inr (.inr (.inr fp))))), (jc, .inl (cI, 3, .inl fjc))] hpz (fun (u : (Int32) × (Int32) × (Int32) × (Nat → Int32) × (Nat → Int32) × (Nat → Int32) × (Nat → Option Nat)) => [(x0, .inr (7, [.ref xs, .ref j0, .ref k0, .ref w0, .ref rd, .ref mv, .ref xr, .int im, .int lf])), (j0, .inr (0, [.ref z0, .ref jp, .ref jc, .int cn, .int de, .int tr, .int se, .int hu, .int sd])), (w0, .inr (5, [.ref wk, .ref wl, .ref wc, .ref wp, .int u.1, .int u.2.1, .int u.2.2.1])), (wk, .inl (cI, 125, .inl u.2.2.2.1)), (wl, .inl (cI, 125, .inl u.2.2.2.2.1)), (wc, .inl (cI, 3, .inl u.2.2.2.2.2.1)), (wp, .inl (cP, 8, .inr (.inr (.inr (.inr u.2.2.2.2.2.2))))), (jp, .inl (cP, 8, .inr (.inr (.inr (.inr fp))))), (jc, .inl (cI, 3, .inl fjc))])) (va_A [(x0, .inr (7, [.ref xs, .ref j0, .ref k0, .ref w0, .ref rd, .ref mv, .ref xr, .int im, .int lf])), (j0, .inr (0, [.ref z0, .ref jp, .ref jc, .int cn, .int de, .int tr, .int se, .int hu, .int sd])), (w0, .inr (5, [.ref wk, .ref wl, .ref wc, .ref wp, .int wn, .int wh, .int wg])), (wk, .inl (cI, 125, .inl fk)), (wl, .inl (cI, 125, .inl fl)), (wc, .inl (cI, 3, .inl fc)), (wp, .inl (cP, 8, .inr (.inr (.inr (.inr fq))))), (jp, .inl (cP, 8, .inr (.inr (.inr (.inr fp))))), (jc, .inl (cI, 3, .inl fjc))] hpz)) 0 0 (va_A [(x0, .inr (7, [.ref xs, .ref j0, .ref k0, .ref w0, .ref rd, .ref mv, .ref xr, .int im, .int lf])), (j0, .inr (0, [.ref z0, .ref jp, .ref jc, .int cn, .int de, .int tr, .int se, .int hu, .int sd])), (w0, .inr (5, [.ref wk, .ref wl, .ref wc, .ref wp, .int wn, .int wh, .int wg])), (wk, .inl (cI, 125, .inl fk)), (wl, .inl (cI, 125, .inl fl)), (wc, .inl (cI, 3, .inl fc)), (wp, .inl (cP, 8, .inr (.inr (.inr (.inr fq))))), (jp, .inl (cP, 8, .inr (.inr (.inr (.inr fp))))), (jc, .inl (cI, 3, .inl fjc))] hpz) := by
  refine Met.ofW (cc := cX7_casesBy) (maxL := 3) (ret := (some .int)) (by decide) rfl ?_
  intro p e s m args below meth c s₁ B hml hv
  obtain ⟨rfl, hsz, hP, hK, hD0, hN, hZ⟩ := hv
  have hx := B.exec
  have hb := B.bytes
  have hr := B.returns
  have hts := atoms_spec (ws := wsX7_casesBy) B.pre
  have hown : s.vm.findClass RX7 = some m.cls := findClass_of_methodNamed B.named
  have hlocks := B.notSynchronized
  subst hsz
  have hD := hD0.self (sz := s.heap.size)
  have hA := zA_of hD
  have hl := lv_entry ([.ref x0, .int h, .int 0]) (n := 3) (Nat.le_of_ble_eq_true rfl)
  rw [lg_entry_eq]
  generalize (lg_sl ([.ref x0, .int h, .int 0]) ++ List.replicate (3 - (lg_sl ([.ref x0, .int h, .int 0])).length) Slot.unset).toArray = ls at hl ⊢
  replace hl : lv_has ls 3 [(0, .ref x0), (1, .int h), (2, .int 0)] := hl
  refine zw_begin hP hD (fun H locs hP1 hS => ?_)
  clear hP
  have hP := hP1
  clear hP1
  refine lv_aload_n hx hb dX7_casesBy_0 rfl (lv_at hl 0 rfl) ?_
  refine va_get (D := D) (ci := 7) (v := .ref w0) (C := RX7) (T := TX7) (N := 9) hx hb hts hi_X7_casesBy_7 hown hK hP 0 rfl rfl 3 (by decide) (hts (.fieldLink RX7 28 "TheLiningsInIt" "ways" "LTheLiningsInIt$Ways;") (List.mem_of_getElem? (i := 1) rfl)) (fun _ h9 => h9) rfl dX7_casesBy_1 ?_
  refine lv_aload_n hx hb dX7_casesBy_4 rfl (lv_at hl 0 rfl) ?_
  refine va_get (D := D) (ci := 7) (v := .ref j0) (C := RX7) (T := TX7) (N := 9) hx hb hts hi_X7_casesBy_7 hown hK hP 0 rfl rfl 1 (by decide) (hts (.fieldLink RX7 18 "TheLiningsInIt" "now" "LTheLiningsInIt$Jacket;") (List.mem_of_getElem? (i := 2) rfl)) (fun _ h9 => h9) rfl dX7_casesBy_5 ?_
  refine lv_iload_n hx hb dX7_casesBy_8 rfl (lv_at hl 1 rfl) ?_
  refine lv_iconst (v := 1) hx hb dX7_casesBy_9 (by decide) ?_
  skip
  refine zw_Vv (As := [.ref j0, .int h, .int 1]) (rest := []) (wr := [(x0, .inr (7, [.ref xs, .ref j0, .ref k0, .ref w0, .ref rd, .ref mv, .ref xr, .int im, .int lf]))]) ⟨hx, hb, hml, hown, hts⟩ (c_W_look l D cI cJ cZ cP cS po w0 wk wl wc wp (wn) (wh) (wg) j0 jp jc z0 0 0 (cn) (de) (tr) (se) (hu) (sd) fp fq kf af tf fk fl fc fjc (h) (1) hy10 hy11 hy12 hy13 hy14 hy15 hy4 hy5 hy6 hy7 hy8 hy9 hy18 hy19 hwq hjp hp_fc hp_fjc H.size) (cwV 3 hts gX7_casesBy_X5_look rfl rfl rfl ⟨rfl, dh_X5_look⟩ ⟨Nat.le_of_ble_eq_true rfl, Nat.le_of_ble_eq_true rfl⟩) hK hN (hZ.kept hS) hP hD hS hA [2, 3, 4, 5, 6, 1, 7, 8] [0] rfl rfl (by decide) (by decide) (by decide) (va_recv (q := (RX5, TX5, 7)) hK hP (ci := 5) (q0 := 2) rfl rfl) rfl hl.1 rfl (Nat.le_of_ble_eq_true rfl) dX7_casesBy_10 ⟨Nat.le_of_ble_eq_true rfl, Nat.le_of_ble_eq_true rfl⟩ (fun u_2 H locs hr_1 hP hD hS => ?_)
  obtain ⟨q_3, q_4, q_5, q_6, q_7, q_8, q_9⟩ := u_2
  try dsimp only at hr_1
  obtain ⟨hbq_3, hbq_4, hbq_5, hpq_8, hwq_9, hr_1⟩ := hr_1
  have h9R := zRe (ws' := [(x0, .inr (7, [.ref xs, .ref j0, .ref k0, .ref w0, .ref rd, .ref mv, .ref xr, .int im, .int lf])), (w0, .inr (5, [.ref wk, .ref wl, .ref wc, .ref wp, .int q_3, .int q_4, .int q_5])), (wk, .inl (cI, 125, .inl q_6)), (wl, .inl (cI, 125, .inl q_7)), (wc, .inl (cI, 3, .inl q_8)), (wp, .inl (cP, 8, .inr (.inr (.inr (.inr q_9))))), (j0, .inr (0, [.ref z0, .ref jp, .ref jc, .int cn, .int de, .int tr, .int se, .int hu, .int sd])), (jp, .inl (cP, 8, .inr (.inr (.inr (.inr fp))))), (jc, .inl (cI, 3, .inl fjc))]) hP hD rfl
  clear hP hD
  obtain ⟨hP, hD⟩ := h9R
  refine lv_aload_n hx hb dX7_casesBy_13 rfl (lv_at hl 0 rfl) ?_
  refine va_get (D := D) (ci := 7) (v := .ref w0) (C := RX7) (T := TX7) (N := 9) hx hb hts hi_X7_casesBy_7 hown hK hP 0 rfl rfl 3 (by decide) (hts (.fieldLink RX7 28 "TheLiningsInIt" "ways" "LTheLiningsInIt$Ways;") (List.mem_of_getElem? (i := 1) rfl)) (fun _ h9 => h9) rfl dX7_casesBy_14 ?_
  refine lv_iload_n hx hb dX7_casesBy_17 rfl (lv_at hl 2 rfl) ?_
  refine lv_aload_n hx hb dX7_casesBy_18 rfl (lv_at hl 0 rfl) ?_
  refine va_get (D := D) (ci := 7) (v := .ref j0) (C := RX7) (T := TX7) (N := 9) hx hb hts hi_X7_casesBy_7 hown hK hP 0 rfl rfl 1 (by decide) (hts (.fieldLink RX7 18 "TheLiningsInIt" "now" "LTheLiningsInIt$Jacket;") (List.mem_of_getElem? (i := 2) rfl)) (fun _ h9 => h9) rfl dX7_casesBy_19 ?_
  refine va_get (D := D) (ci := 0) (v := .int de) (C := RX0) (T := TX0) (N := 9) hx hb hts hi_X7_casesBy_0 hown hK hP 6 rfl rfl 4 (by decide) (hts (.fieldLink RX7 199 "TheLiningsInIt$Jacket" "depth" "I") (List.mem_of_getElem? (i := 3) rfl)) (fun _ h9 => h9) rfl dX7_casesBy_22 ?_
  refine lv_aload_n hx hb dX7_casesBy_25 rfl (lv_at hl 0 rfl) ?_
  refine va_get (D := D) (ci := 7) (v := .ref j0) (C := RX7) (T := TX7) (N := 9) hx hb hts hi_X7_casesBy_7 hown hK hP 0 rfl rfl 1 (by decide) (hts (.fieldLink RX7 18 "TheLiningsInIt" "now" "LTheLiningsInIt$Jacket;") (List.mem_of_getElem? (i := 2) rfl)) (fun _ h9 => h9) rfl dX7_casesBy_26 ?_
  refine va_get (D := D) (ci := 0) (v := .int se) (C := RX0) (T := TX0) (N := 9) hx hb hts hi_X7_casesBy_0 hown hK hP 6 rfl rfl 6 (by decide) (hts (.fieldLink RX7 202 "TheLiningsInIt$Jacket" "seconds" "I") (List.mem_of_getElem? (i := 4) rfl)) (fun _ h9 => h9) rfl dX7_casesBy_29 ?_
  skip
  refine zw_VN (As := [.int 0, .int de, .int se]) (rest := []) (wr := [(x0, .inr (7, [.ref xs, .ref j0, .ref k0, .ref w0, .ref rd, .ref mv, .ref xr, .int im, .int lf])), (wl, .inl (cI, 125, .inl q_7)), (wc, .inl (cI, 3, .inl q_8)), (j0, .inr (0, [.ref z0, .ref jp, .ref jc, .int cn, .int de, .int tr, .int se, .int hu, .int sd])), (jp, .inl (cP, 8, .inr (.inr (.inr (.inr fp))))), (jc, .inl (cI, 3, .inl fjc))]) ⟨hx, hb, hml, hown, hts⟩ (c_W_most_0 l D cI cJ cZ cP cS po w0 wk wl wc wp (q_3) (q_4) (q_5) q_9 q_6 (de) (se) hbq_3.1 hbq_3.2 hbq_4.1 hbq_4.2 hbq_5.1 hbq_5.2 hwq_9 hy6 hy7 H.size) ⟨(va_cnB 3 hts gX7_casesBy_X5_most_n208 rfl rfl rfl (hN.1 (RX7, 208, yX5_most) (List.mem_of_getElem? (i := 10) rfl)) (hts _ (List.mem_of_getElem? (i := 8) rfl)) dh_X5_most ⟨Nat.le_of_ble_eq_true rfl, Nat.le_of_ble_eq_true rfl⟩), (hts _ (List.mem_of_getElem? (i := 43) rfl)), (hts _ (List.mem_of_getElem? (i := 44) rfl))⟩ hK hN (hZ.kept hS) hP hD hS hA [1, 2, 5] [0, 3, 4, 6, 7, 8] rfl rfl (by decide) (by decide) (by decide) (va_recv (q := (RX5, TX5, 7)) hK hP (ci := 5) (q0 := 1) rfl rfl) rfl hl.1 rfl (Nat.le_of_ble_eq_true rfl) dX7_casesBy_32 ⟨Nat.le_of_ble_eq_true rfl, Nat.le_of_ble_eq_true rfl⟩ (fun r_10 u_11 H locs hr_10 hP hD hS => ?_)
  obtain ⟨q_12, rfl⟩ : ∃ z, z = u_11 := ⟨_, rfl⟩
  have h9R := zRe (ws' := [(x0, .inr (7, [.ref xs, .ref j0, .ref k0, .ref w0, .ref rd, .ref mv, .ref xr, .int im, .int lf])), (wl, .inl (cI, 125, .inl q_7)), (wc, .inl (cI, 3, .inl q_8)), (j0, .inr (0, [.ref z0, .ref jp, .ref jc, .int cn, .int de, .int tr, .int se, .int hu, .int sd])), (jp, .inl (cP, 8, .inr (.inr (.inr (.inr fp))))), (jc, .inl (cI, 3, .inl fjc)), (w0, .inr (5, [.ref wk, .ref wl, .ref wc, .ref wp, .int q_3, .int q_4, .int q_5])), (wk, .inl (cI, 125, .inl q_12)), (wp, .inl (cP, 8, .inr (.inr (.inr (.inr q_9)))))]) hP hD rfl
  clear hP hD
  obtain ⟨hP, hD⟩ := h9R
  exact W.iret (v := r_10) hx hb hr (fun t ht hW => ⟨⟨r_10, (q_3, q_4, q_5, q_12, q_7, q_8, q_9), rfl, ⟨(show 0 ≤ q_3.toInt ∧ q_3.toInt ≤ 8 from hbq_3), (show 0 ≤ q_4.toInt ∧ q_4.toInt ≤ 9 from hbq_4), (show 0 ≤ q_5.toInt ∧ q_5.toInt ≤ 60 from hbq_5), hpq_8, hwq_9, trivial⟩, zRet ht hP hD [0, 3, 6, 7, 1, 2, 8, 4, 5] (by decide) rfl⟩, hS.F ht⟩) hS.2.2 dX7_casesBy_35
set_option maxHeartbeats 4000000 in
set_option maxRecDepth 100000 in
theorem c_X_casesBy_1 (l : Launch) (D : va_G) (cI cJ cZ cP cS : ClassId) (po : zPool) (x0 xs j0 k0 w0 rd mv xr : Nat) (im lf : Int32) (fr : Nat → Int32) (j0 jp jc z0 zl zs : Nat) (cn de tr se hu sd : Int32) (wk wl wc wp : Nat) (wn wh wg : Int32) (fq : Nat → Option Nat) (fk fl fc fjc : Nat → Int32) (fp : Nat → Option Nat) (kf af tf : Nat → Int32) (h : Int32) (hy0 : 0 ≤ im.toInt) (hy1 : im.toInt ≤ 1) (hy2 : (-1) ≤ lf.toInt) (hy3 : lf.toInt ≤ 160) (hy4 : 0 ≤ cn.toInt) (hy5 : cn.toInt ≤ 8) (hy6 : 0 ≤ de.toInt) (hy7 : de.toInt ≤ 24) (hy8 : 0 ≤ hu.toInt) (hy9 : hu.toInt ≤ 9) (hy10 : 0 ≤ wn.toInt) (hy11 : wn.toInt ≤ 8) (hy12 : 0 ≤ wh.toInt) (hy13 : wh.toInt ≤ 9) (hy14 : 0 ≤ wg.toInt) (hy15 : wg.toInt ≤ 60) (hwq : zWP po fq) (hjp : zJP po fp cn kf af tf) (hy18 : 0 ≤ h.toInt) (hy19 : h.toInt ≤ 9) (hp_fc : zRg fc (0) 99) (hp_fjc : zRg fjc (0) 99) (hpz : Nat) : Met l yX7_casesBy wsX7_casesBy ({ frames := 4, cells := 0, slots := 0, locals := 126 }) (va_Pc [.ref x0, .int h, .int 1] (zW D (zKT cI cJ cZ cP cS) po [(x0, .inr (7, [.ref xs, .ref j0, .ref k0, .ref w0, .ref rd, .ref mv, .ref xr, .int im, .int lf])), (j0, .inr (0, [.ref z0, .ref jp, .ref jc, .int cn, .int de, .int tr, .int se, .int hu, .int sd])), (w0, .inr (5, [.ref wk, .ref wl, .ref wc, .ref wp, .int wn, .int wh, .int wg])), (wk, .inl (cI, 125, .inl fk)), (wl, .inl (cI, 125, .inl fl)), (wc, .inl (cI, 3, .inl fc)), (wp, .inl (cP, 8, .inr (.inr (.inr (.inr fq))))), (jp, .inl (cP, 8, .inr (.inr (.inr (.inr fp))))), (jc, .inl (cI, 3, .inl fjc))] hpz)) (va_Qi (fun (r : Int32) (u : (Int32) × (Int32) × (Int32) × (Nat → Int32) × (Nat → Int32) × (Nat → Int32) × (Nat → Option Nat)) => (0 ≤ u.1.toInt ∧ u.1.toInt ≤ 8) ∧ (0 ≤ u.2.1.toInt ∧ u.2.1.toInt ≤ 9) ∧ (0 ≤ u.2.2.1.toInt ∧ u.2.2.1.toInt ≤ 60) ∧ zRg u.2.2.2.2.2.1 (0) 99 ∧ zWP po u.2.2.2.2.2.2 ∧ (True)) (zB D [(x0, .inr (7, [.ref xs, .ref j0, .ref k0, .ref w0, .ref rd, .ref mv, .ref xr, .int im, .int lf])), (j0, .inr (0, [.ref z0, .ref jp, .ref jc, .int cn, .int de, .int tr, .int se, .int hu, .int sd])), (w0, .inr (5, [.ref wk, .ref wl, .ref wc, .ref wp, .int wn, .int wh, .int wg])), (wk, .inl (cI, 125, .inl fk)), (wl, .inl (cI, 125, .inl fl)), (wc, .inl (cI, 3, .inl fc)), (wp, .inl (cP, 8, .inr (.inr (.inr (.inr fq))))), (jp, .inl (cP, 8, .inr (.inr (.inr (.inr fp))))), (jc, .inl (cI, 3, .inl fjc))] hpz (fun (u : (Int32) × (Int32) × (Int32) × (Nat → Int32) × (Nat → Int32) × (Nat → Int32) × (Nat → Option Nat)) => [(x0, .inr (7, [.ref xs, .ref j0, .ref k0, .ref w0, .ref rd, .ref mv, .ref xr, .int im, .int lf])), (j0, .inr (0, [.ref z0, .ref jp, .ref jc, .int cn, .int de, .int tr, .int se, .int hu, .int sd])), (w0, .inr (5, [.ref wk, .ref wl, .ref wc, .ref wp, .int u.1, .int u.2.1, .int u.2.2.1])), (wk, .inl (cI, 125, .inl u.2.2.2.1)), (wl, .inl (cI, 125, .inl u.2.2.2.2.1)), (wc, .inl (cI, 3, .inl u.2.2.2.2.2.1)), (wp, .inl (cP, 8, .inr (.inr (.inr (.inr u.2.2.2.2.2.2))))), (jp, .inl (cP, 8, .inr (.inr (.inr (.inr fp))))), (jc, .inl (cI, 3, .inl fjc))])) (va_A [(x0, .inr (7, [.ref xs, .ref j0, .ref k0, .ref w0, .ref rd, .ref mv, .ref xr, .int im, .int lf])), (j0, .inr (0, [.ref z0, .ref jp, .ref jc, .int cn, .int de, .int tr, .int se, .int hu, .int sd])), (w0, .inr (5, [.ref wk, .ref wl, .ref wc, .ref wp, .int wn, .int wh, .int wg])), (wk, .inl (cI, 125, .inl fk)), (wl, .inl (cI, 125, .inl fl)), (wc, .inl (cI, 3, .inl fc)), (wp, .inl (cP, 8, .inr (.inr (.inr (.inr fq))))), (jp, .inl (cP, 8, .inr (.inr (.inr (.inr fp))))), (jc, .inl (cI, 3, .inl fjc))] hpz)) 0 0 (va_A [(x0, .inr (7, [.ref xs, .ref j0, .ref k0, .ref w0, .ref rd, .ref mv, .ref xr, .int im, .int lf])), (j0, .inr (0, [.ref z0, .ref jp, .ref jc, .int cn, .int de, .int tr, .int se, .int hu, .int sd])), (w0, .inr (5, [.ref wk, .ref wl, .ref wc, .ref wp, .int wn, .int wh, .int wg])), (wk, .inl (cI, 125, .inl fk)), (wl, .inl (cI, 125, .inl fl)), (wc, .inl (cI, 3, .inl fc)), (wp, .inl (cP, 8, .inr (.inr (.inr (.inr fq))))), (jp, .inl (cP, 8, .inr (.inr (.inr (.inr fp))))), (jc, .inl (cI, 3, .inl fjc))] hpz) := by
  refine Met.ofW (cc := cX7_casesBy) (maxL := 3) (ret := (some .int)) (by decide) rfl ?_
  intro p e s m args below meth c s₁ B hml hv
  obtain ⟨rfl, hsz, hP, hK, hD0, hN, hZ⟩ := hv
  have hx := B.exec
  have hb := B.bytes
  have hr := B.returns
  have hts := atoms_spec (ws := wsX7_casesBy) B.pre
  have hown : s.vm.findClass RX7 = some m.cls := findClass_of_methodNamed B.named
  have hlocks := B.notSynchronized
  subst hsz
  have hD := hD0.self (sz := s.heap.size)
  have hA := zA_of hD
  have hl := lv_entry ([.ref x0, .int h, .int 1]) (n := 3) (Nat.le_of_ble_eq_true rfl)
  rw [lg_entry_eq]
  generalize (lg_sl ([.ref x0, .int h, .int 1]) ++ List.replicate (3 - (lg_sl ([.ref x0, .int h, .int 1])).length) Slot.unset).toArray = ls at hl ⊢
  replace hl : lv_has ls 3 [(0, .ref x0), (1, .int h), (2, .int 1)] := hl
  refine zw_begin hP hD (fun H locs hP1 hS => ?_)
  clear hP
  have hP := hP1
  clear hP1
  refine lv_aload_n hx hb dX7_casesBy_0 rfl (lv_at hl 0 rfl) ?_
  refine va_get (D := D) (ci := 7) (v := .ref w0) (C := RX7) (T := TX7) (N := 9) hx hb hts hi_X7_casesBy_7 hown hK hP 0 rfl rfl 3 (by decide) (hts (.fieldLink RX7 28 "TheLiningsInIt" "ways" "LTheLiningsInIt$Ways;") (List.mem_of_getElem? (i := 1) rfl)) (fun _ h9 => h9) rfl dX7_casesBy_1 ?_
  refine lv_aload_n hx hb dX7_casesBy_4 rfl (lv_at hl 0 rfl) ?_
  refine va_get (D := D) (ci := 7) (v := .ref j0) (C := RX7) (T := TX7) (N := 9) hx hb hts hi_X7_casesBy_7 hown hK hP 0 rfl rfl 1 (by decide) (hts (.fieldLink RX7 18 "TheLiningsInIt" "now" "LTheLiningsInIt$Jacket;") (List.mem_of_getElem? (i := 2) rfl)) (fun _ h9 => h9) rfl dX7_casesBy_5 ?_
  refine lv_iload_n hx hb dX7_casesBy_8 rfl (lv_at hl 1 rfl) ?_
  refine lv_iconst (v := 1) hx hb dX7_casesBy_9 (by decide) ?_
  skip
  refine zw_Vv (As := [.ref j0, .int h, .int 1]) (rest := []) (wr := [(x0, .inr (7, [.ref xs, .ref j0, .ref k0, .ref w0, .ref rd, .ref mv, .ref xr, .int im, .int lf]))]) ⟨hx, hb, hml, hown, hts⟩ (c_W_look l D cI cJ cZ cP cS po w0 wk wl wc wp (wn) (wh) (wg) j0 jp jc z0 0 0 (cn) (de) (tr) (se) (hu) (sd) fp fq kf af tf fk fl fc fjc (h) (1) hy10 hy11 hy12 hy13 hy14 hy15 hy4 hy5 hy6 hy7 hy8 hy9 hy18 hy19 hwq hjp hp_fc hp_fjc H.size) (cwV 3 hts gX7_casesBy_X5_look rfl rfl rfl ⟨rfl, dh_X5_look⟩ ⟨Nat.le_of_ble_eq_true rfl, Nat.le_of_ble_eq_true rfl⟩) hK hN (hZ.kept hS) hP hD hS hA [2, 3, 4, 5, 6, 1, 7, 8] [0] rfl rfl (by decide) (by decide) (by decide) (va_recv (q := (RX5, TX5, 7)) hK hP (ci := 5) (q0 := 2) rfl rfl) rfl hl.1 rfl (Nat.le_of_ble_eq_true rfl) dX7_casesBy_10 ⟨Nat.le_of_ble_eq_true rfl, Nat.le_of_ble_eq_true rfl⟩ (fun u_2 H locs hr_1 hP hD hS => ?_)
  obtain ⟨q_3, q_4, q_5, q_6, q_7, q_8, q_9⟩ := u_2
  try dsimp only at hr_1
  obtain ⟨hbq_3, hbq_4, hbq_5, hpq_8, hwq_9, hr_1⟩ := hr_1
  have h9R := zRe (ws' := [(x0, .inr (7, [.ref xs, .ref j0, .ref k0, .ref w0, .ref rd, .ref mv, .ref xr, .int im, .int lf])), (w0, .inr (5, [.ref wk, .ref wl, .ref wc, .ref wp, .int q_3, .int q_4, .int q_5])), (wk, .inl (cI, 125, .inl q_6)), (wl, .inl (cI, 125, .inl q_7)), (wc, .inl (cI, 3, .inl q_8)), (wp, .inl (cP, 8, .inr (.inr (.inr (.inr q_9))))), (j0, .inr (0, [.ref z0, .ref jp, .ref jc, .int cn, .int de, .int tr, .int se, .int hu, .int sd])), (jp, .inl (cP, 8, .inr (.inr (.inr (.inr fp))))), (jc, .inl (cI, 3, .inl fjc))]) hP hD rfl
  clear hP hD
  obtain ⟨hP, hD⟩ := h9R
  refine lv_aload_n hx hb dX7_casesBy_13 rfl (lv_at hl 0 rfl) ?_
  refine va_get (D := D) (ci := 7) (v := .ref w0) (C := RX7) (T := TX7) (N := 9) hx hb hts hi_X7_casesBy_7 hown hK hP 0 rfl rfl 3 (by decide) (hts (.fieldLink RX7 28 "TheLiningsInIt" "ways" "LTheLiningsInIt$Ways;") (List.mem_of_getElem? (i := 1) rfl)) (fun _ h9 => h9) rfl dX7_casesBy_14 ?_
  refine lv_iload_n hx hb dX7_casesBy_17 rfl (lv_at hl 2 rfl) ?_
  refine lv_aload_n hx hb dX7_casesBy_18 rfl (lv_at hl 0 rfl) ?_
  refine va_get (D := D) (ci := 7) (v := .ref j0) (C := RX7) (T := TX7) (N := 9) hx hb hts hi_X7_casesBy_7 hown hK hP 0 rfl rfl 1 (by decide) (hts (.fieldLink RX7 18 "TheLiningsInIt" "now" "LTheLiningsInIt$Jacket;") (List.mem_of_getElem? (i := 2) rfl)) (fun _ h9 => h9) rfl dX7_casesBy_19 ?_
  refine va_get (D := D) (ci := 0) (v := .int de) (C := RX0) (T := TX0) (N := 9) hx hb hts hi_X7_casesBy_0 hown hK hP 6 rfl rfl 4 (by decide) (hts (.fieldLink RX7 199 "TheLiningsInIt$Jacket" "depth" "I") (List.mem_of_getElem? (i := 3) rfl)) (fun _ h9 => h9) rfl dX7_casesBy_22 ?_
  refine lv_aload_n hx hb dX7_casesBy_25 rfl (lv_at hl 0 rfl) ?_
  refine va_get (D := D) (ci := 7) (v := .ref j0) (C := RX7) (T := TX7) (N := 9) hx hb hts hi_X7_casesBy_7 hown hK hP 0 rfl rfl 1 (by decide) (hts (.fieldLink RX7 18 "TheLiningsInIt" "now" "LTheLiningsInIt$Jacket;") (List.mem_of_getElem? (i := 2) rfl)) (fun _ h9 => h9) rfl dX7_casesBy_26 ?_
  refine va_get (D := D) (ci := 0) (v := .int se) (C := RX0) (T := TX0) (N := 9) hx hb hts hi_X7_casesBy_0 hown hK hP 6 rfl rfl 6 (by decide) (hts (.fieldLink RX7 202 "TheLiningsInIt$Jacket" "seconds" "I") (List.mem_of_getElem? (i := 4) rfl)) (fun _ h9 => h9) rfl dX7_casesBy_29 ?_
  skip
  refine zw_VN (As := [.int 1, .int de, .int se]) (rest := []) (wr := [(x0, .inr (7, [.ref xs, .ref j0, .ref k0, .ref w0, .ref rd, .ref mv, .ref xr, .int im, .int lf])), (wl, .inl (cI, 125, .inl q_7)), (wc, .inl (cI, 3, .inl q_8)), (j0, .inr (0, [.ref z0, .ref jp, .ref jc, .int cn, .int de, .int tr, .int se, .int hu, .int sd])), (jp, .inl (cP, 8, .inr (.inr (.inr (.inr fp))))), (jc, .inl (cI, 3, .inl fjc))]) ⟨hx, hb, hml, hown, hts⟩ (c_W_most_1 l D cI cJ cZ cP cS po w0 wk wl wc wp (q_3) (q_4) (q_5) q_9 q_6 (de) (se) hbq_3.1 hbq_3.2 hbq_4.1 hbq_4.2 hbq_5.1 hbq_5.2 hwq_9 hy6 hy7 H.size) ⟨(va_cnB 3 hts gX7_casesBy_X5_most_n208 rfl rfl rfl (hN.1 (RX7, 208, yX5_most) (List.mem_of_getElem? (i := 10) rfl)) (hts _ (List.mem_of_getElem? (i := 8) rfl)) dh_X5_most ⟨Nat.le_of_ble_eq_true rfl, Nat.le_of_ble_eq_true rfl⟩), (hts _ (List.mem_of_getElem? (i := 43) rfl)), (hts _ (List.mem_of_getElem? (i := 44) rfl))⟩ hK hN (hZ.kept hS) hP hD hS hA [1, 2, 5] [0, 3, 4, 6, 7, 8] rfl rfl (by decide) (by decide) (by decide) (va_recv (q := (RX5, TX5, 7)) hK hP (ci := 5) (q0 := 1) rfl rfl) rfl hl.1 rfl (Nat.le_of_ble_eq_true rfl) dX7_casesBy_32 ⟨Nat.le_of_ble_eq_true rfl, Nat.le_of_ble_eq_true rfl⟩ (fun r_10 u_11 H locs hr_10 hP hD hS => ?_)
  obtain ⟨q_12, rfl⟩ : ∃ z, z = u_11 := ⟨_, rfl⟩
  have h9R := zRe (ws' := [(x0, .inr (7, [.ref xs, .ref j0, .ref k0, .ref w0, .ref rd, .ref mv, .ref xr, .int im, .int lf])), (wl, .inl (cI, 125, .inl q_7)), (wc, .inl (cI, 3, .inl q_8)), (j0, .inr (0, [.ref z0, .ref jp, .ref jc, .int cn, .int de, .int tr, .int se, .int hu, .int sd])), (jp, .inl (cP, 8, .inr (.inr (.inr (.inr fp))))), (jc, .inl (cI, 3, .inl fjc)), (w0, .inr (5, [.ref wk, .ref wl, .ref wc, .ref wp, .int q_3, .int q_4, .int q_5])), (wk, .inl (cI, 125, .inl q_12)), (wp, .inl (cP, 8, .inr (.inr (.inr (.inr q_9)))))]) hP hD rfl
  clear hP hD
  obtain ⟨hP, hD⟩ := h9R
  exact W.iret (v := r_10) hx hb hr (fun t ht hW => ⟨⟨r_10, (q_3, q_4, q_5, q_12, q_7, q_8, q_9), rfl, ⟨(show 0 ≤ q_3.toInt ∧ q_3.toInt ≤ 8 from hbq_3), (show 0 ≤ q_4.toInt ∧ q_4.toInt ≤ 9 from hbq_4), (show 0 ≤ q_5.toInt ∧ q_5.toInt ≤ 60 from hbq_5), hpq_8, hwq_9, trivial⟩, zRet ht hP hD [0, 3, 6, 7, 1, 2, 8, 4, 5] (by decide) rfl⟩, hS.F ht⟩) hS.2.2 dX7_casesBy_35
set_option maxHeartbeats 4000000 in
set_option maxRecDepth 100000 in
theorem c_X_casesBy_2 (l : Launch) (D : va_G) (cI cJ cZ cP cS : ClassId) (po : zPool) (x0 xs j0 k0 w0 rd mv xr : Nat) (im lf : Int32) (fr : Nat → Int32) (j0 jp jc z0 zl zs : Nat) (cn de tr se hu sd : Int32) (wk wl wc wp : Nat) (wn wh wg : Int32) (fq : Nat → Option Nat) (fk fl fc fjc : Nat → Int32) (fp : Nat → Option Nat) (kf af tf : Nat → Int32) (h : Int32) (hy0 : 0 ≤ im.toInt) (hy1 : im.toInt ≤ 1) (hy2 : (-1) ≤ lf.toInt) (hy3 : lf.toInt ≤ 160) (hy4 : 0 ≤ cn.toInt) (hy5 : cn.toInt ≤ 8) (hy6 : 0 ≤ de.toInt) (hy7 : de.toInt ≤ 24) (hy8 : 0 ≤ hu.toInt) (hy9 : hu.toInt ≤ 9) (hy10 : 0 ≤ wn.toInt) (hy11 : wn.toInt ≤ 8) (hy12 : 0 ≤ wh.toInt) (hy13 : wh.toInt ≤ 9) (hy14 : 0 ≤ wg.toInt) (hy15 : wg.toInt ≤ 60) (hwq : zWP po fq) (hjp : zJP po fp cn kf af tf) (hy18 : 0 ≤ h.toInt) (hy19 : h.toInt ≤ 9) (hp_fc : zRg fc (0) 99) (hp_fjc : zRg fjc (0) 99) (hpz : Nat) : Met l yX7_casesBy wsX7_casesBy ({ frames := 6, cells := 0, slots := 0, locals := 154 }) (va_Pc [.ref x0, .int h, .int 2] (zW D (zKT cI cJ cZ cP cS) po [(x0, .inr (7, [.ref xs, .ref j0, .ref k0, .ref w0, .ref rd, .ref mv, .ref xr, .int im, .int lf])), (j0, .inr (0, [.ref z0, .ref jp, .ref jc, .int cn, .int de, .int tr, .int se, .int hu, .int sd])), (w0, .inr (5, [.ref wk, .ref wl, .ref wc, .ref wp, .int wn, .int wh, .int wg])), (wk, .inl (cI, 125, .inl fk)), (wl, .inl (cI, 125, .inl fl)), (wc, .inl (cI, 3, .inl fc)), (wp, .inl (cP, 8, .inr (.inr (.inr (.inr fq))))), (jp, .inl (cP, 8, .inr (.inr (.inr (.inr fp))))), (jc, .inl (cI, 3, .inl fjc))] hpz)) (va_Qi (fun (r : Int32) (u : (Int32) × (Int32) × (Int32) × (Nat → Int32) × (Nat → Int32) × (Nat → Int32) × (Nat → Option Nat)) => (0 ≤ u.1.toInt ∧ u.1.toInt ≤ 8) ∧ (0 ≤ u.2.1.toInt ∧ u.2.1.toInt ≤ 9) ∧ (0 ≤ u.2.2.1.toInt ∧ u.2.2.1.toInt ≤ 60) ∧ zRg u.2.2.2.2.2.1 (0) 99 ∧ zWP po u.2.2.2.2.2.2 ∧ (True)) (zB D [(x0, .inr (7, [.ref xs, .ref j0, .ref k0, .ref w0, .ref rd, .ref mv, .ref xr, .int im, .int lf])), (j0, .inr (0, [.ref z0, .ref jp, .ref jc, .int cn, .int de, .int tr, .int se, .int hu, .int sd])), (w0, .inr (5, [.ref wk, .ref wl, .ref wc, .ref wp, .int wn, .int wh, .int wg])), (wk, .inl (cI, 125, .inl fk)), (wl, .inl (cI, 125, .inl fl)), (wc, .inl (cI, 3, .inl fc)), (wp, .inl (cP, 8, .inr (.inr (.inr (.inr fq))))), (jp, .inl (cP, 8, .inr (.inr (.inr (.inr fp))))), (jc, .inl (cI, 3, .inl fjc))] hpz (fun (u : (Int32) × (Int32) × (Int32) × (Nat → Int32) × (Nat → Int32) × (Nat → Int32) × (Nat → Option Nat)) => [(x0, .inr (7, [.ref xs, .ref j0, .ref k0, .ref w0, .ref rd, .ref mv, .ref xr, .int im, .int lf])), (j0, .inr (0, [.ref z0, .ref jp, .ref jc, .int cn, .int de, .int tr, .int se, .int hu, .int sd])), (w0, .inr (5, [.ref wk, .ref wl, .ref wc, .ref wp, .int u.1, .int u.2.1, .int u.2.2.1])), (wk, .inl (cI, 125, .inl u.2.2.2.1)), (wl, .inl (cI, 125, .inl u.2.2.2.2.1)), (wc, .inl (cI, 3, .inl u.2.2.2.2.2.1)), (wp, .inl (cP, 8, .inr (.inr (.inr (.inr u.2.2.2.2.2.2))))), (jp, .inl (cP, 8, .inr (.inr (.inr (.inr fp))))), (jc, .inl (cI, 3, .inl fjc))])) (va_A [(x0, .inr (7, [.ref xs, .ref j0, .ref k0, .ref w0, .ref rd, .ref mv, .ref xr, .int im, .int lf])), (j0, .inr (0, [.ref z0, .ref jp, .ref jc, .int cn, .int de, .int tr, .int se, .int hu, .int sd])), (w0, .inr (5, [.ref wk, .ref wl, .ref wc, .ref wp, .int wn, .int wh, .int wg])), (wk, .inl (cI, 125, .inl fk)), (wl, .inl (cI, 125, .inl fl)), (wc, .inl (cI, 3, .inl fc)), (wp, .inl (cP, 8, .inr (.inr (.inr (.inr fq))))), (jp, .inl (cP, 8, .inr (.inr (.inr (.inr fp))))), (jc, .inl (cI, 3, .inl fjc))] hpz)) 0 0 (va_A [(x0, .inr (7, [.ref xs, .ref j0, .ref k0, .ref w0, .ref rd, .ref mv, .ref xr, .int im, .int lf])), (j0, .inr (0, [.ref z0, .ref jp, .ref jc, .int cn, .int de, .int tr, .int se, .int hu, .int sd])), (w0, .inr (5, [.ref wk, .ref wl, .ref wc, .ref wp, .int wn, .int wh, .int wg])), (wk, .inl (cI, 125, .inl fk)), (wl, .inl (cI, 125, .inl fl)), (wc, .inl (cI, 3, .inl fc)), (wp, .inl (cP, 8, .inr (.inr (.inr (.inr fq))))), (jp, .inl (cP, 8, .inr (.inr (.inr (.inr fp))))), (jc, .inl (cI, 3, .inl fjc))] hpz) := by
  refine Met.ofW (cc := cX7_casesBy) (maxL := 3) (ret := (some .int)) (by decide) rfl ?_
  intro p e s m args below meth c s₁ B hml hv
  obtain ⟨rfl, hsz, hP, hK, hD0, hN, hZ⟩ := hv
  have hx := B.exec
  have hb := B.bytes
  have hr := B.returns
  have hts := atoms_spec (ws := wsX7_casesBy) B.pre
  have hown : s.vm.findClass RX7 = some m.cls := findClass_of_methodNamed B.named
  have hlocks := B.notSynchronized
  subst hsz
  have hD := hD0.self (sz := s.heap.size)
  have hA := zA_of hD
  have hl := lv_entry ([.ref x0, .int h, .int 2]) (n := 3) (Nat.le_of_ble_eq_true rfl)
  rw [lg_entry_eq]
  generalize (lg_sl ([.ref x0, .int h, .int 2]) ++ List.replicate (3 - (lg_sl ([.ref x0, .int h, .int 2])).length) Slot.unset).toArray = ls at hl ⊢
  replace hl : lv_has ls 3 [(0, .ref x0), (1, .int h), (2, .int 2)] := hl
  refine zw_begin hP hD (fun H locs hP1 hS => ?_)
  clear hP
  have hP := hP1
  clear hP1
  refine lv_aload_n hx hb dX7_casesBy_0 rfl (lv_at hl 0 rfl) ?_
  refine va_get (D := D) (ci := 7) (v := .ref w0) (C := RX7) (T := TX7) (N := 9) hx hb hts hi_X7_casesBy_7 hown hK hP 0 rfl rfl 3 (by decide) (hts (.fieldLink RX7 28 "TheLiningsInIt" "ways" "LTheLiningsInIt$Ways;") (List.mem_of_getElem? (i := 1) rfl)) (fun _ h9 => h9) rfl dX7_casesBy_1 ?_
  refine lv_aload_n hx hb dX7_casesBy_4 rfl (lv_at hl 0 rfl) ?_
  refine va_get (D := D) (ci := 7) (v := .ref j0) (C := RX7) (T := TX7) (N := 9) hx hb hts hi_X7_casesBy_7 hown hK hP 0 rfl rfl 1 (by decide) (hts (.fieldLink RX7 18 "TheLiningsInIt" "now" "LTheLiningsInIt$Jacket;") (List.mem_of_getElem? (i := 2) rfl)) (fun _ h9 => h9) rfl dX7_casesBy_5 ?_
  refine lv_iload_n hx hb dX7_casesBy_8 rfl (lv_at hl 1 rfl) ?_
  refine lv_iconst (v := 1) hx hb dX7_casesBy_9 (by decide) ?_
  skip
  refine zw_Vv (As := [.ref j0, .int h, .int 1]) (rest := []) (wr := [(x0, .inr (7, [.ref xs, .ref j0, .ref k0, .ref w0, .ref rd, .ref mv, .ref xr, .int im, .int lf]))]) ⟨hx, hb, hml, hown, hts⟩ (c_W_look l D cI cJ cZ cP cS po w0 wk wl wc wp (wn) (wh) (wg) j0 jp jc z0 0 0 (cn) (de) (tr) (se) (hu) (sd) fp fq kf af tf fk fl fc fjc (h) (1) hy10 hy11 hy12 hy13 hy14 hy15 hy4 hy5 hy6 hy7 hy8 hy9 hy18 hy19 hwq hjp hp_fc hp_fjc H.size) (cwV 3 hts gX7_casesBy_X5_look rfl rfl rfl ⟨rfl, dh_X5_look⟩ ⟨Nat.le_of_ble_eq_true rfl, Nat.le_of_ble_eq_true rfl⟩) hK hN (hZ.kept hS) hP hD hS hA [2, 3, 4, 5, 6, 1, 7, 8] [0] rfl rfl (by decide) (by decide) (by decide) (va_recv (q := (RX5, TX5, 7)) hK hP (ci := 5) (q0 := 2) rfl rfl) rfl hl.1 rfl (Nat.le_of_ble_eq_true rfl) dX7_casesBy_10 ⟨Nat.le_of_ble_eq_true rfl, Nat.le_of_ble_eq_true rfl⟩ (fun u_2 H locs hr_1 hP hD hS => ?_)
  obtain ⟨q_3, q_4, q_5, q_6, q_7, q_8, q_9⟩ := u_2
  try dsimp only at hr_1
  obtain ⟨hbq_3, hbq_4, hbq_5, hpq_8, hwq_9, hr_1⟩ := hr_1
  have h9R := zRe (ws' := [(x0, .inr (7, [.ref xs, .ref j0, .ref k0, .ref w0, .ref rd, .ref mv, .ref xr, .int im, .int lf])), (w0, .inr (5, [.ref wk, .ref wl, .ref wc, .ref wp, .int q_3, .int q_4, .int q_5])), (wk, .inl (cI, 125, .inl q_6)), (wl, .inl (cI, 125, .inl q_7)), (wc, .inl (cI, 3, .inl q_8)), (wp, .inl (cP, 8, .inr (.inr (.inr (.inr q_9))))), (j0, .inr (0, [.ref z0, .ref jp, .ref jc, .int cn, .int de, .int tr, .int se, .int hu, .int sd])), (jp, .inl (cP, 8, .inr (.inr (.inr (.inr fp))))), (jc, .inl (cI, 3, .inl fjc))]) hP hD rfl
  clear hP hD
  obtain ⟨hP, hD⟩ := h9R
  refine lv_aload_n hx hb dX7_casesBy_13 rfl (lv_at hl 0 rfl) ?_
  refine va_get (D := D) (ci := 7) (v := .ref w0) (C := RX7) (T := TX7) (N := 9) hx hb hts hi_X7_casesBy_7 hown hK hP 0 rfl rfl 3 (by decide) (hts (.fieldLink RX7 28 "TheLiningsInIt" "ways" "LTheLiningsInIt$Ways;") (List.mem_of_getElem? (i := 1) rfl)) (fun _ h9 => h9) rfl dX7_casesBy_14 ?_
  refine lv_iload_n hx hb dX7_casesBy_17 rfl (lv_at hl 2 rfl) ?_
  refine lv_aload_n hx hb dX7_casesBy_18 rfl (lv_at hl 0 rfl) ?_
  refine va_get (D := D) (ci := 7) (v := .ref j0) (C := RX7) (T := TX7) (N := 9) hx hb hts hi_X7_casesBy_7 hown hK hP 0 rfl rfl 1 (by decide) (hts (.fieldLink RX7 18 "TheLiningsInIt" "now" "LTheLiningsInIt$Jacket;") (List.mem_of_getElem? (i := 2) rfl)) (fun _ h9 => h9) rfl dX7_casesBy_19 ?_
  refine va_get (D := D) (ci := 0) (v := .int de) (C := RX0) (T := TX0) (N := 9) hx hb hts hi_X7_casesBy_0 hown hK hP 6 rfl rfl 4 (by decide) (hts (.fieldLink RX7 199 "TheLiningsInIt$Jacket" "depth" "I") (List.mem_of_getElem? (i := 3) rfl)) (fun _ h9 => h9) rfl dX7_casesBy_22 ?_
  refine lv_aload_n hx hb dX7_casesBy_25 rfl (lv_at hl 0 rfl) ?_
  refine va_get (D := D) (ci := 7) (v := .ref j0) (C := RX7) (T := TX7) (N := 9) hx hb hts hi_X7_casesBy_7 hown hK hP 0 rfl rfl 1 (by decide) (hts (.fieldLink RX7 18 "TheLiningsInIt" "now" "LTheLiningsInIt$Jacket;") (List.mem_of_getElem? (i := 2) rfl)) (fun _ h9 => h9) rfl dX7_casesBy_26 ?_
  refine va_get (D := D) (ci := 0) (v := .int se) (C := RX0) (T := TX0) (N := 9) hx hb hts hi_X7_casesBy_0 hown hK hP 6 rfl rfl 6 (by decide) (hts (.fieldLink RX7 202 "TheLiningsInIt$Jacket" "seconds" "I") (List.mem_of_getElem? (i := 4) rfl)) (fun _ h9 => h9) rfl dX7_casesBy_29 ?_
  skip
  refine zw_VN (As := [.int 2, .int de, .int se]) (rest := []) (wr := [(x0, .inr (7, [.ref xs, .ref j0, .ref k0, .ref w0, .ref rd, .ref mv, .ref xr, .int im, .int lf])), (wl, .inl (cI, 125, .inl q_7)), (wc, .inl (cI, 3, .inl q_8)), (j0, .inr (0, [.ref z0, .ref jp, .ref jc, .int cn, .int de, .int tr, .int se, .int hu, .int sd])), (jp, .inl (cP, 8, .inr (.inr (.inr (.inr fp))))), (jc, .inl (cI, 3, .inl fjc))]) ⟨hx, hb, hml, hown, hts⟩ (c_W_most_2 l D cI cJ cZ cP cS po w0 wk wl wc wp (q_3) (q_4) (q_5) q_9 q_6 (de) (se) hbq_3.1 hbq_3.2 hbq_4.1 hbq_4.2 hbq_5.1 hbq_5.2 hwq_9 hy6 hy7 H.size) ⟨(va_cnB 3 hts gX7_casesBy_X5_most_n208 rfl rfl rfl (hN.1 (RX7, 208, yX5_most) (List.mem_of_getElem? (i := 10) rfl)) (hts _ (List.mem_of_getElem? (i := 8) rfl)) dh_X5_most ⟨Nat.le_of_ble_eq_true rfl, Nat.le_of_ble_eq_true rfl⟩), (hts _ (List.mem_of_getElem? (i := 43) rfl)), (hts _ (List.mem_of_getElem? (i := 44) rfl))⟩ hK hN (hZ.kept hS) hP hD hS hA [1, 2, 5] [0, 3, 4, 6, 7, 8] rfl rfl (by decide) (by decide) (by decide) (va_recv (q := (RX5, TX5, 7)) hK hP (ci := 5) (q0 := 1) rfl rfl) rfl hl.1 rfl (Nat.le_of_ble_eq_true rfl) dX7_casesBy_32 ⟨Nat.le_of_ble_eq_true rfl, Nat.le_of_ble_eq_true rfl⟩ (fun r_10 u_11 H locs hr_10 hP hD hS => ?_)
  obtain ⟨q_12, rfl⟩ : ∃ z, z = u_11 := ⟨_, rfl⟩
  have h9R := zRe (ws' := [(x0, .inr (7, [.ref xs, .ref j0, .ref k0, .ref w0, .ref rd, .ref mv, .ref xr, .int im, .int lf])), (wl, .inl (cI, 125, .inl q_7)), (wc, .inl (cI, 3, .inl q_8)), (j0, .inr (0, [.ref z0, .ref jp, .ref jc, .int cn, .int de, .int tr, .int se, .int hu, .int sd])), (jp, .inl (cP, 8, .inr (.inr (.inr (.inr fp))))), (jc, .inl (cI, 3, .inl fjc)), (w0, .inr (5, [.ref wk, .ref wl, .ref wc, .ref wp, .int q_3, .int q_4, .int q_5])), (wk, .inl (cI, 125, .inl q_12)), (wp, .inl (cP, 8, .inr (.inr (.inr (.inr q_9)))))]) hP hD rfl
  clear hP hD
  obtain ⟨hP, hD⟩ := h9R
  exact W.iret (v := r_10) hx hb hr (fun t ht hW => ⟨⟨r_10, (q_3, q_4, q_5, q_12, q_7, q_8, q_9), rfl, ⟨(show 0 ≤ q_3.toInt ∧ q_3.toInt ≤ 8 from hbq_3), (show 0 ≤ q_4.toInt ∧ q_4.toInt ≤ 9 from hbq_4), (show 0 ≤ q_5.toInt ∧ q_5.toInt ≤ 60 from hbq_5), hpq_8, hwq_9, trivial⟩, zRet ht hP hD [0, 3, 6, 7, 1, 2, 8, 4, 5] (by decide) rfl⟩, hS.F ht⟩) hS.2.2 dX7_casesBy_35
set_option maxHeartbeats 4000000 in
set_option maxRecDepth 100000 in
theorem c_X_casesBy_3 (l : Launch) (D : va_G) (cI cJ cZ cP cS : ClassId) (po : zPool) (x0 xs j0 k0 w0 rd mv xr : Nat) (im lf : Int32) (fr : Nat → Int32) (j0 jp jc z0 zl zs : Nat) (cn de tr se hu sd : Int32) (wk wl wc wp : Nat) (wn wh wg : Int32) (fq : Nat → Option Nat) (fk fl fc fjc : Nat → Int32) (fp : Nat → Option Nat) (kf af tf : Nat → Int32) (h : Int32) (hy0 : 0 ≤ im.toInt) (hy1 : im.toInt ≤ 1) (hy2 : (-1) ≤ lf.toInt) (hy3 : lf.toInt ≤ 160) (hy4 : 0 ≤ cn.toInt) (hy5 : cn.toInt ≤ 8) (hy6 : 0 ≤ de.toInt) (hy7 : de.toInt ≤ 24) (hy8 : 0 ≤ hu.toInt) (hy9 : hu.toInt ≤ 9) (hy10 : 0 ≤ wn.toInt) (hy11 : wn.toInt ≤ 8) (hy12 : 0 ≤ wh.toInt) (hy13 : wh.toInt ≤ 9) (hy14 : 0 ≤ wg.toInt) (hy15 : wg.toInt ≤ 60) (hwq : zWP po fq) (hjp : zJP po fp cn kf af tf) (hy18 : 0 ≤ h.toInt) (hy19 : h.toInt ≤ 9) (hp_fc : zRg fc (0) 99) (hp_fjc : zRg fjc (0) 99) (hpz : Nat) : Met l yX7_casesBy wsX7_casesBy ({ frames := 8, cells := 0, slots := 0, locals := 209 }) (va_Pc [.ref x0, .int h, .int 3] (zW D (zKT cI cJ cZ cP cS) po [(x0, .inr (7, [.ref xs, .ref j0, .ref k0, .ref w0, .ref rd, .ref mv, .ref xr, .int im, .int lf])), (j0, .inr (0, [.ref z0, .ref jp, .ref jc, .int cn, .int de, .int tr, .int se, .int hu, .int sd])), (w0, .inr (5, [.ref wk, .ref wl, .ref wc, .ref wp, .int wn, .int wh, .int wg])), (wk, .inl (cI, 125, .inl fk)), (wl, .inl (cI, 125, .inl fl)), (wc, .inl (cI, 3, .inl fc)), (wp, .inl (cP, 8, .inr (.inr (.inr (.inr fq))))), (jp, .inl (cP, 8, .inr (.inr (.inr (.inr fp))))), (jc, .inl (cI, 3, .inl fjc))] hpz)) (va_Qi (fun (r : Int32) (u : (Int32) × (Int32) × (Int32) × (Nat → Int32) × (Nat → Int32) × (Nat → Int32) × (Nat → Option Nat)) => (0 ≤ u.1.toInt ∧ u.1.toInt ≤ 8) ∧ (0 ≤ u.2.1.toInt ∧ u.2.1.toInt ≤ 9) ∧ (0 ≤ u.2.2.1.toInt ∧ u.2.2.1.toInt ≤ 60) ∧ zRg u.2.2.2.2.2.1 (0) 99 ∧ zWP po u.2.2.2.2.2.2 ∧ (True)) (zB D [(x0, .inr (7, [.ref xs, .ref j0, .ref k0, .ref w0, .ref rd, .ref mv, .ref xr, .int im, .int lf])), (j0, .inr (0, [.ref z0, .ref jp, .ref jc, .int cn, .int de, .int tr, .int se, .int hu, .int sd])), (w0, .inr (5, [.ref wk, .ref wl, .ref wc, .ref wp, .int wn, .int wh, .int wg])), (wk, .inl (cI, 125, .inl fk)), (wl, .inl (cI, 125, .inl fl)), (wc, .inl (cI, 3, .inl fc)), (wp, .inl (cP, 8, .inr (.inr (.inr (.inr fq))))), (jp, .inl (cP, 8, .inr (.inr (.inr (.inr fp))))), (jc, .inl (cI, 3, .inl fjc))] hpz (fun (u : (Int32) × (Int32) × (Int32) × (Nat → Int32) × (Nat → Int32) × (Nat → Int32) × (Nat → Option Nat)) => [(x0, .inr (7, [.ref xs, .ref j0, .ref k0, .ref w0, .ref rd, .ref mv, .ref xr, .int im, .int lf])), (j0, .inr (0, [.ref z0, .ref jp, .ref jc, .int cn, .int de, .int tr, .int se, .int hu, .int sd])), (w0, .inr (5, [.ref wk, .ref wl, .ref wc, .ref wp, .int u.1, .int u.2.1, .int u.2.2.1])), (wk, .inl (cI, 125, .inl u.2.2.2.1)), (wl, .inl (cI, 125, .inl u.2.2.2.2.1)), (wc, .inl (cI, 3, .inl u.2.2.2.2.2.1)), (wp, .inl (cP, 8, .inr (.inr (.inr (.inr u.2.2.2.2.2.2))))), (jp, .inl (cP, 8, .inr (.inr (.inr (.inr fp))))), (jc, .inl (cI, 3, .inl fjc))])) (va_A [(x0, .inr (7, [.ref xs, .ref j0, .ref k0, .ref w0, .ref rd, .ref mv, .ref xr, .int im, .int lf])), (j0, .inr (0, [.ref z0, .ref jp, .ref jc, .int cn, .int de, .int tr, .int se, .int hu, .int sd])), (w0, .inr (5, [.ref wk, .ref wl, .ref wc, .ref wp, .int wn, .int wh, .int wg])), (wk, .inl (cI, 125, .inl fk)), (wl, .inl (cI, 125, .inl fl)), (wc, .inl (cI, 3, .inl fc)), (wp, .inl (cP, 8, .inr (.inr (.inr (.inr fq))))), (jp, .inl (cP, 8, .inr (.inr (.inr (.inr fp))))), (jc, .inl (cI, 3, .inl fjc))] hpz)) 0 0 (va_A [(x0, .inr (7, [.ref xs, .ref j0, .ref k0, .ref w0, .ref rd, .ref mv, .ref xr, .int im, .int lf])), (j0, .inr (0, [.ref z0, .ref jp, .ref jc, .int cn, .int de, .int tr, .int se, .int hu, .int sd])), (w0, .inr (5, [.ref wk, .ref wl, .ref wc, .ref wp, .int wn, .int wh, .int wg])), (wk, .inl (cI, 125, .inl fk)), (wl, .inl (cI, 125, .inl fl)), (wc, .inl (cI, 3, .inl fc)), (wp, .inl (cP, 8, .inr (.inr (.inr (.inr fq))))), (jp, .inl (cP, 8, .inr (.inr (.inr (.inr fp))))), (jc, .inl (cI, 3, .inl fjc))] hpz) := by
  refine Met.ofW (cc := cX7_casesBy) (maxL := 3) (ret := (some .int)) (by decide) rfl ?_
  intro p e s m args below meth c s₁ B hml hv
  obtain ⟨rfl, hsz, hP, hK, hD0, hN, hZ⟩ := hv
  have hx := B.exec
  have hb := B.bytes
  have hr := B.returns
  have hts := atoms_spec (ws := wsX7_casesBy) B.pre
  have hown : s.vm.findClass RX7 = some m.cls := findClass_of_methodNamed B.named
  have hlocks := B.notSynchronized
  subst hsz
  have hD := hD0.self (sz := s.heap.size)
  have hA := zA_of hD
  have hl := lv_entry ([.ref x0, .int h, .int 3]) (n := 3) (Nat.le_of_ble_eq_true rfl)
  rw [lg_entry_eq]
  generalize (lg_sl ([.ref x0, .int h, .int 3]) ++ List.replicate (3 - (lg_sl ([.ref x0, .int h, .int 3])).length) Slot.unset).toArray = ls at hl ⊢
  replace hl : lv_has ls 3 [(0, .ref x0), (1, .int h), (2, .int 3)] := hl
  refine zw_begin hP hD (fun H locs hP1 hS => ?_)
  clear hP
  have hP := hP1
  clear hP1
  refine lv_aload_n hx hb dX7_casesBy_0 rfl (lv_at hl 0 rfl) ?_
  refine va_get (D := D) (ci := 7) (v := .ref w0) (C := RX7) (T := TX7) (N := 9) hx hb hts hi_X7_casesBy_7 hown hK hP 0 rfl rfl 3 (by decide) (hts (.fieldLink RX7 28 "TheLiningsInIt" "ways" "LTheLiningsInIt$Ways;") (List.mem_of_getElem? (i := 1) rfl)) (fun _ h9 => h9) rfl dX7_casesBy_1 ?_
  refine lv_aload_n hx hb dX7_casesBy_4 rfl (lv_at hl 0 rfl) ?_
  refine va_get (D := D) (ci := 7) (v := .ref j0) (C := RX7) (T := TX7) (N := 9) hx hb hts hi_X7_casesBy_7 hown hK hP 0 rfl rfl 1 (by decide) (hts (.fieldLink RX7 18 "TheLiningsInIt" "now" "LTheLiningsInIt$Jacket;") (List.mem_of_getElem? (i := 2) rfl)) (fun _ h9 => h9) rfl dX7_casesBy_5 ?_
  refine lv_iload_n hx hb dX7_casesBy_8 rfl (lv_at hl 1 rfl) ?_
  refine lv_iconst (v := 1) hx hb dX7_casesBy_9 (by decide) ?_
  skip
  refine zw_Vv (As := [.ref j0, .int h, .int 1]) (rest := []) (wr := [(x0, .inr (7, [.ref xs, .ref j0, .ref k0, .ref w0, .ref rd, .ref mv, .ref xr, .int im, .int lf]))]) ⟨hx, hb, hml, hown, hts⟩ (c_W_look l D cI cJ cZ cP cS po w0 wk wl wc wp (wn) (wh) (wg) j0 jp jc z0 0 0 (cn) (de) (tr) (se) (hu) (sd) fp fq kf af tf fk fl fc fjc (h) (1) hy10 hy11 hy12 hy13 hy14 hy15 hy4 hy5 hy6 hy7 hy8 hy9 hy18 hy19 hwq hjp hp_fc hp_fjc H.size) (cwV 3 hts gX7_casesBy_X5_look rfl rfl rfl ⟨rfl, dh_X5_look⟩ ⟨Nat.le_of_ble_eq_true rfl, Nat.le_of_ble_eq_true rfl⟩) hK hN (hZ.kept hS) hP hD hS hA [2, 3, 4, 5, 6, 1, 7, 8] [0] rfl rfl (by decide) (by decide) (by decide) (va_recv (q := (RX5, TX5, 7)) hK hP (ci := 5) (q0 := 2) rfl rfl) rfl hl.1 rfl (Nat.le_of_ble_eq_true rfl) dX7_casesBy_10 ⟨Nat.le_of_ble_eq_true rfl, Nat.le_of_ble_eq_true rfl⟩ (fun u_2 H locs hr_1 hP hD hS => ?_)
  obtain ⟨q_3, q_4, q_5, q_6, q_7, q_8, q_9⟩ := u_2
  try dsimp only at hr_1
  obtain ⟨hbq_3, hbq_4, hbq_5, hpq_8, hwq_9, hr_1⟩ := hr_1
  have h9R := zRe (ws' := [(x0, .inr (7, [.ref xs, .ref j0, .ref k0, .ref w0, .ref rd, .ref mv, .ref xr, .int im, .int lf])), (w0, .inr (5, [.ref wk, .ref wl, .ref wc, .ref wp, .int q_3, .int q_4, .int q_5])), (wk, .inl (cI, 125, .inl q_6)), (wl, .inl (cI, 125, .inl q_7)), (wc, .inl (cI, 3, .inl q_8)), (wp, .inl (cP, 8, .inr (.inr (.inr (.inr q_9))))), (j0, .inr (0, [.ref z0, .ref jp, .ref jc, .int cn, .int de, .int tr, .int se, .int hu, .int sd])), (jp, .inl (cP, 8, .inr (.inr (.inr (.inr fp))))), (jc, .inl (cI, 3, .inl fjc))]) hP hD rfl
  clear hP hD
  obtain ⟨hP, hD⟩ := h9R
  refine lv_aload_n hx hb dX7_casesBy_13 rfl (lv_at hl 0 rfl) ?_
  refine va_get (D := D) (ci := 7) (v := .ref w0) (C := RX7) (T := TX7) (N := 9) hx hb hts hi_X7_casesBy_7 hown hK hP 0 rfl rfl 3 (by decide) (hts (.fieldLink RX7 28 "TheLiningsInIt" "ways" "LTheLiningsInIt$Ways;") (List.mem_of_getElem? (i := 1) rfl)) (fun _ h9 => h9) rfl dX7_casesBy_14 ?_
  refine lv_iload_n hx hb dX7_casesBy_17 rfl (lv_at hl 2 rfl) ?_
  refine lv_aload_n hx hb dX7_casesBy_18 rfl (lv_at hl 0 rfl) ?_
  refine va_get (D := D) (ci := 7) (v := .ref j0) (C := RX7) (T := TX7) (N := 9) hx hb hts hi_X7_casesBy_7 hown hK hP 0 rfl rfl 1 (by decide) (hts (.fieldLink RX7 18 "TheLiningsInIt" "now" "LTheLiningsInIt$Jacket;") (List.mem_of_getElem? (i := 2) rfl)) (fun _ h9 => h9) rfl dX7_casesBy_19 ?_
  refine va_get (D := D) (ci := 0) (v := .int de) (C := RX0) (T := TX0) (N := 9) hx hb hts hi_X7_casesBy_0 hown hK hP 6 rfl rfl 4 (by decide) (hts (.fieldLink RX7 199 "TheLiningsInIt$Jacket" "depth" "I") (List.mem_of_getElem? (i := 3) rfl)) (fun _ h9 => h9) rfl dX7_casesBy_22 ?_
  refine lv_aload_n hx hb dX7_casesBy_25 rfl (lv_at hl 0 rfl) ?_
  refine va_get (D := D) (ci := 7) (v := .ref j0) (C := RX7) (T := TX7) (N := 9) hx hb hts hi_X7_casesBy_7 hown hK hP 0 rfl rfl 1 (by decide) (hts (.fieldLink RX7 18 "TheLiningsInIt" "now" "LTheLiningsInIt$Jacket;") (List.mem_of_getElem? (i := 2) rfl)) (fun _ h9 => h9) rfl dX7_casesBy_26 ?_
  refine va_get (D := D) (ci := 0) (v := .int se) (C := RX0) (T := TX0) (N := 9) hx hb hts hi_X7_casesBy_0 hown hK hP 6 rfl rfl 6 (by decide) (hts (.fieldLink RX7 202 "TheLiningsInIt$Jacket" "seconds" "I") (List.mem_of_getElem? (i := 4) rfl)) (fun _ h9 => h9) rfl dX7_casesBy_29 ?_
  skip
  refine zw_VN (As := [.int 3, .int de, .int se]) (rest := []) (wr := [(x0, .inr (7, [.ref xs, .ref j0, .ref k0, .ref w0, .ref rd, .ref mv, .ref xr, .int im, .int lf])), (wl, .inl (cI, 125, .inl q_7)), (wc, .inl (cI, 3, .inl q_8)), (j0, .inr (0, [.ref z0, .ref jp, .ref jc, .int cn, .int de, .int tr, .int se, .int hu, .int sd])), (jp, .inl (cP, 8, .inr (.inr (.inr (.inr fp))))), (jc, .inl (cI, 3, .inl fjc))]) ⟨hx, hb, hml, hown, hts⟩ (c_W_most_3 l D cI cJ cZ cP cS po w0 wk wl wc wp (q_3) (q_4) (q_5) q_9 q_6 (de) (se) hbq_3.1 hbq_3.2 hbq_4.1 hbq_4.2 hbq_5.1 hbq_5.2 hwq_9 hy6 hy7 H.size) ⟨(va_cnB 3 hts gX7_casesBy_X5_most_n208 rfl rfl rfl (hN.1 (RX7, 208, yX5_most) (List.mem_of_getElem? (i := 10) rfl)) (hts _ (List.mem_of_getElem? (i := 8) rfl)) dh_X5_most ⟨Nat.le_of_ble_eq_true rfl, Nat.le_of_ble_eq_true rfl⟩), (hts _ (List.mem_of_getElem? (i := 43) rfl)), (hts _ (List.mem_of_getElem? (i := 44) rfl))⟩ hK hN (hZ.kept hS) hP hD hS hA [1, 2, 5] [0, 3, 4, 6, 7, 8] rfl rfl (by decide) (by decide) (by decide) (va_recv (q := (RX5, TX5, 7)) hK hP (ci := 5) (q0 := 1) rfl rfl) rfl hl.1 rfl (Nat.le_of_ble_eq_true rfl) dX7_casesBy_32 ⟨Nat.le_of_ble_eq_true rfl, Nat.le_of_ble_eq_true rfl⟩ (fun r_10 u_11 H locs hr_10 hP hD hS => ?_)
  obtain ⟨q_12, rfl⟩ : ∃ z, z = u_11 := ⟨_, rfl⟩
  have h9R := zRe (ws' := [(x0, .inr (7, [.ref xs, .ref j0, .ref k0, .ref w0, .ref rd, .ref mv, .ref xr, .int im, .int lf])), (wl, .inl (cI, 125, .inl q_7)), (wc, .inl (cI, 3, .inl q_8)), (j0, .inr (0, [.ref z0, .ref jp, .ref jc, .int cn, .int de, .int tr, .int se, .int hu, .int sd])), (jp, .inl (cP, 8, .inr (.inr (.inr (.inr fp))))), (jc, .inl (cI, 3, .inl fjc)), (w0, .inr (5, [.ref wk, .ref wl, .ref wc, .ref wp, .int q_3, .int q_4, .int q_5])), (wk, .inl (cI, 125, .inl q_12)), (wp, .inl (cP, 8, .inr (.inr (.inr (.inr q_9)))))]) hP hD rfl
  clear hP hD
  obtain ⟨hP, hD⟩ := h9R
  exact W.iret (v := r_10) hx hb hr (fun t ht hW => ⟨⟨r_10, (q_3, q_4, q_5, q_12, q_7, q_8, q_9), rfl, ⟨(show 0 ≤ q_3.toInt ∧ q_3.toInt ≤ 8 from hbq_3), (show 0 ≤ q_4.toInt ∧ q_4.toInt ≤ 9 from hbq_4), (show 0 ≤ q_5.toInt ∧ q_5.toInt ≤ 60 from hbq_5), hpq_8, hwq_9, trivial⟩, zRet ht hP hD [0, 3, 6, 7, 1, 2, 8, 4, 5] (by decide) rfl⟩, hS.F ht⟩) hS.2.2 dX7_casesBy_35
set_option maxHeartbeats 4000000 in
set_option maxRecDepth 100000 in
theorem c_X_casesBy_4 (l : Launch) (D : va_G) (cI cJ cZ cP cS : ClassId) (po : zPool) (x0 xs j0 k0 w0 rd mv xr : Nat) (im lf : Int32) (fr : Nat → Int32) (j0 jp jc z0 zl zs : Nat) (cn de tr se hu sd : Int32) (wk wl wc wp : Nat) (wn wh wg : Int32) (fq : Nat → Option Nat) (fk fl fc fjc : Nat → Int32) (fp : Nat → Option Nat) (kf af tf : Nat → Int32) (h : Int32) (hy0 : 0 ≤ im.toInt) (hy1 : im.toInt ≤ 1) (hy2 : (-1) ≤ lf.toInt) (hy3 : lf.toInt ≤ 160) (hy4 : 0 ≤ cn.toInt) (hy5 : cn.toInt ≤ 8) (hy6 : 0 ≤ de.toInt) (hy7 : de.toInt ≤ 24) (hy8 : 0 ≤ hu.toInt) (hy9 : hu.toInt ≤ 9) (hy10 : 0 ≤ wn.toInt) (hy11 : wn.toInt ≤ 8) (hy12 : 0 ≤ wh.toInt) (hy13 : wh.toInt ≤ 9) (hy14 : 0 ≤ wg.toInt) (hy15 : wg.toInt ≤ 60) (hwq : zWP po fq) (hjp : zJP po fp cn kf af tf) (hy18 : 0 ≤ h.toInt) (hy19 : h.toInt ≤ 9) (hp_fc : zRg fc (0) 99) (hp_fjc : zRg fjc (0) 99) (hpz : Nat) : Met l yX7_casesBy wsX7_casesBy ({ frames := 10, cells := 0, slots := 0, locals := 264 }) (va_Pc [.ref x0, .int h, .int 4] (zW D (zKT cI cJ cZ cP cS) po [(x0, .inr (7, [.ref xs, .ref j0, .ref k0, .ref w0, .ref rd, .ref mv, .ref xr, .int im, .int lf])), (j0, .inr (0, [.ref z0, .ref jp, .ref jc, .int cn, .int de, .int tr, .int se, .int hu, .int sd])), (w0, .inr (5, [.ref wk, .ref wl, .ref wc, .ref wp, .int wn, .int wh, .int wg])), (wk, .inl (cI, 125, .inl fk)), (wl, .inl (cI, 125, .inl fl)), (wc, .inl (cI, 3, .inl fc)), (wp, .inl (cP, 8, .inr (.inr (.inr (.inr fq))))), (jp, .inl (cP, 8, .inr (.inr (.inr (.inr fp))))), (jc, .inl (cI, 3, .inl fjc))] hpz)) (va_Qi (fun (r : Int32) (u : (Int32) × (Int32) × (Int32) × (Nat → Int32) × (Nat → Int32) × (Nat → Int32) × (Nat → Option Nat)) => (0 ≤ u.1.toInt ∧ u.1.toInt ≤ 8) ∧ (0 ≤ u.2.1.toInt ∧ u.2.1.toInt ≤ 9) ∧ (0 ≤ u.2.2.1.toInt ∧ u.2.2.1.toInt ≤ 60) ∧ zRg u.2.2.2.2.2.1 (0) 99 ∧ zWP po u.2.2.2.2.2.2 ∧ (True)) (zB D [(x0, .inr (7, [.ref xs, .ref j0, .ref k0, .ref w0, .ref rd, .ref mv, .ref xr, .int im, .int lf])), (j0, .inr (0, [.ref z0, .ref jp, .ref jc, .int cn, .int de, .int tr, .int se, .int hu, .int sd])), (w0, .inr (5, [.ref wk, .ref wl, .ref wc, .ref wp, .int wn, .int wh, .int wg])), (wk, .inl (cI, 125, .inl fk)), (wl, .inl (cI, 125, .inl fl)), (wc, .inl (cI, 3, .inl fc)), (wp, .inl (cP, 8, .inr (.inr (.inr (.inr fq))))), (jp, .inl (cP, 8, .inr (.inr (.inr (.inr fp))))), (jc, .inl (cI, 3, .inl fjc))] hpz (fun (u : (Int32) × (Int32) × (Int32) × (Nat → Int32) × (Nat → Int32) × (Nat → Int32) × (Nat → Option Nat)) => [(x0, .inr (7, [.ref xs, .ref j0, .ref k0, .ref w0, .ref rd, .ref mv, .ref xr, .int im, .int lf])), (j0, .inr (0, [.ref z0, .ref jp, .ref jc, .int cn, .int de, .int tr, .int se, .int hu, .int sd])), (w0, .inr (5, [.ref wk, .ref wl, .ref wc, .ref wp, .int u.1, .int u.2.1, .int u.2.2.1])), (wk, .inl (cI, 125, .inl u.2.2.2.1)), (wl, .inl (cI, 125, .inl u.2.2.2.2.1)), (wc, .inl (cI, 3, .inl u.2.2.2.2.2.1)), (wp, .inl (cP, 8, .inr (.inr (.inr (.inr u.2.2.2.2.2.2))))), (jp, .inl (cP, 8, .inr (.inr (.inr (.inr fp))))), (jc, .inl (cI, 3, .inl fjc))])) (va_A [(x0, .inr (7, [.ref xs, .ref j0, .ref k0, .ref w0, .ref rd, .ref mv, .ref xr, .int im, .int lf])), (j0, .inr (0, [.ref z0, .ref jp, .ref jc, .int cn, .int de, .int tr, .int se, .int hu, .int sd])), (w0, .inr (5, [.ref wk, .ref wl, .ref wc, .ref wp, .int wn, .int wh, .int wg])), (wk, .inl (cI, 125, .inl fk)), (wl, .inl (cI, 125, .inl fl)), (wc, .inl (cI, 3, .inl fc)), (wp, .inl (cP, 8, .inr (.inr (.inr (.inr fq))))), (jp, .inl (cP, 8, .inr (.inr (.inr (.inr fp))))), (jc, .inl (cI, 3, .inl fjc))] hpz)) 0 0 (va_A [(x0, .inr (7, [.ref xs, .ref j0, .ref k0, .ref w0, .ref rd, .ref mv, .ref xr, .int im, .int lf])), (j0, .inr (0, [.ref z0, .ref jp, .ref jc, .int cn, .int de, .int tr, .int se, .int hu, .int sd])), (w0, .inr (5, [.ref wk, .ref wl, .ref wc, .ref wp, .int wn, .int wh, .int wg])), (wk, .inl (cI, 125, .inl fk)), (wl, .inl (cI, 125, .inl fl)), (wc, .inl (cI, 3, .inl fc)), (wp, .inl (cP, 8, .inr (.inr (.inr (.inr fq))))), (jp, .inl (cP, 8, .inr (.inr (.inr (.inr fp))))), (jc, .inl (cI, 3, .inl fjc))] hpz) := by
  refine Met.ofW (cc := cX7_casesBy) (maxL := 3) (ret := (some .int)) (by decide) rfl ?_
  intro p e s m args below meth c s₁ B hml hv
  obtain ⟨rfl, hsz, hP, hK, hD0, hN, hZ⟩ := hv
  have hx := B.exec
  have hb := B.bytes
  have hr := B.returns
  have hts := atoms_spec (ws := wsX7_casesBy) B.pre
  have hown : s.vm.findClass RX7 = some m.cls := findClass_of_methodNamed B.named
  have hlocks := B.notSynchronized
  subst hsz
  have hD := hD0.self (sz := s.heap.size)
  have hA := zA_of hD
  have hl := lv_entry ([.ref x0, .int h, .int 4]) (n := 3) (Nat.le_of_ble_eq_true rfl)
  rw [lg_entry_eq]
  generalize (lg_sl ([.ref x0, .int h, .int 4]) ++ List.replicate (3 - (lg_sl ([.ref x0, .int h, .int 4])).length) Slot.unset).toArray = ls at hl ⊢
  replace hl : lv_has ls 3 [(0, .ref x0), (1, .int h), (2, .int 4)] := hl
  refine zw_begin hP hD (fun H locs hP1 hS => ?_)
  clear hP
  have hP := hP1
  clear hP1
  refine lv_aload_n hx hb dX7_casesBy_0 rfl (lv_at hl 0 rfl) ?_
  refine va_get (D := D) (ci := 7) (v := .ref w0) (C := RX7) (T := TX7) (N := 9) hx hb hts hi_X7_casesBy_7 hown hK hP 0 rfl rfl 3 (by decide) (hts (.fieldLink RX7 28 "TheLiningsInIt" "ways" "LTheLiningsInIt$Ways;") (List.mem_of_getElem? (i := 1) rfl)) (fun _ h9 => h9) rfl dX7_casesBy_1 ?_
  refine lv_aload_n hx hb dX7_casesBy_4 rfl (lv_at hl 0 rfl) ?_
  refine va_get (D := D) (ci := 7) (v := .ref j0) (C := RX7) (T := TX7) (N := 9) hx hb hts hi_X7_casesBy_7 hown hK hP 0 rfl rfl 1 (by decide) (hts (.fieldLink RX7 18 "TheLiningsInIt" "now" "LTheLiningsInIt$Jacket;") (List.mem_of_getElem? (i := 2) rfl)) (fun _ h9 => h9) rfl dX7_casesBy_5 ?_
  refine lv_iload_n hx hb dX7_casesBy_8 rfl (lv_at hl 1 rfl) ?_
  refine lv_iconst (v := 1) hx hb dX7_casesBy_9 (by decide) ?_
  skip
  refine zw_Vv (As := [.ref j0, .int h, .int 1]) (rest := []) (wr := [(x0, .inr (7, [.ref xs, .ref j0, .ref k0, .ref w0, .ref rd, .ref mv, .ref xr, .int im, .int lf]))]) ⟨hx, hb, hml, hown, hts⟩ (c_W_look l D cI cJ cZ cP cS po w0 wk wl wc wp (wn) (wh) (wg) j0 jp jc z0 0 0 (cn) (de) (tr) (se) (hu) (sd) fp fq kf af tf fk fl fc fjc (h) (1) hy10 hy11 hy12 hy13 hy14 hy15 hy4 hy5 hy6 hy7 hy8 hy9 hy18 hy19 hwq hjp hp_fc hp_fjc H.size) (cwV 3 hts gX7_casesBy_X5_look rfl rfl rfl ⟨rfl, dh_X5_look⟩ ⟨Nat.le_of_ble_eq_true rfl, Nat.le_of_ble_eq_true rfl⟩) hK hN (hZ.kept hS) hP hD hS hA [2, 3, 4, 5, 6, 1, 7, 8] [0] rfl rfl (by decide) (by decide) (by decide) (va_recv (q := (RX5, TX5, 7)) hK hP (ci := 5) (q0 := 2) rfl rfl) rfl hl.1 rfl (Nat.le_of_ble_eq_true rfl) dX7_casesBy_10 ⟨Nat.le_of_ble_eq_true rfl, Nat.le_of_ble_eq_true rfl⟩ (fun u_2 H locs hr_1 hP hD hS => ?_)
  obtain ⟨q_3, q_4, q_5, q_6, q_7, q_8, q_9⟩ := u_2
  try dsimp only at hr_1
  obtain ⟨hbq_3, hbq_4, hbq_5, hpq_8, hwq_9, hr_1⟩ := hr_1
  have h9R := zRe (ws' := [(x0, .inr (7, [.ref xs, .ref j0, .ref k0, .ref w0, .ref rd, .ref mv, .ref xr, .int im, .int lf])), (w0, .inr (5, [.ref wk, .ref wl, .ref wc, .ref wp, .int q_3, .int q_4, .int q_5])), (wk, .inl (cI, 125, .inl q_6)), (wl, .inl (cI, 125, .inl q_7)), (wc, .inl (cI, 3, .inl q_8)), (wp, .inl (cP, 8, .inr (.inr (.inr (.inr q_9))))), (j0, .inr (0, [.ref z0, .ref jp, .ref jc, .int cn, .int de, .int tr, .int se, .int hu, .int sd])), (jp, .inl (cP, 8, .inr (.inr (.inr (.inr fp))))), (jc, .inl (cI, 3, .inl fjc))]) hP hD rfl
  clear hP hD
  obtain ⟨hP, hD⟩ := h9R
  refine lv_aload_n hx hb dX7_casesBy_13 rfl (lv_at hl 0 rfl) ?_
  refine va_get (D := D) (ci := 7) (v := .ref w0) (C := RX7) (T := TX7) (N := 9) hx hb hts hi_X7_casesBy_7 hown hK hP 0 rfl rfl 3 (by decide) (hts (.fieldLink RX7 28 "TheLiningsInIt" "ways" "LTheLiningsInIt$Ways;") (List.mem_of_getElem? (i := 1) rfl)) (fun _ h9 => h9) rfl dX7_casesBy_14 ?_
  refine lv_iload_n hx hb dX7_casesBy_17 rfl (lv_at hl 2 rfl) ?_
  refine lv_aload_n hx hb dX7_casesBy_18 rfl (lv_at hl 0 rfl) ?_
  refine va_get (D := D) (ci := 7) (v := .ref j0) (C := RX7) (T := TX7) (N := 9) hx hb hts hi_X7_casesBy_7 hown hK hP 0 rfl rfl 1 (by decide) (hts (.fieldLink RX7 18 "TheLiningsInIt" "now" "LTheLiningsInIt$Jacket;") (List.mem_of_getElem? (i := 2) rfl)) (fun _ h9 => h9) rfl dX7_casesBy_19 ?_
  refine va_get (D := D) (ci := 0) (v := .int de) (C := RX0) (T := TX0) (N := 9) hx hb hts hi_X7_casesBy_0 hown hK hP 6 rfl rfl 4 (by decide) (hts (.fieldLink RX7 199 "TheLiningsInIt$Jacket" "depth" "I") (List.mem_of_getElem? (i := 3) rfl)) (fun _ h9 => h9) rfl dX7_casesBy_22 ?_
  refine lv_aload_n hx hb dX7_casesBy_25 rfl (lv_at hl 0 rfl) ?_
  refine va_get (D := D) (ci := 7) (v := .ref j0) (C := RX7) (T := TX7) (N := 9) hx hb hts hi_X7_casesBy_7 hown hK hP 0 rfl rfl 1 (by decide) (hts (.fieldLink RX7 18 "TheLiningsInIt" "now" "LTheLiningsInIt$Jacket;") (List.mem_of_getElem? (i := 2) rfl)) (fun _ h9 => h9) rfl dX7_casesBy_26 ?_
  refine va_get (D := D) (ci := 0) (v := .int se) (C := RX0) (T := TX0) (N := 9) hx hb hts hi_X7_casesBy_0 hown hK hP 6 rfl rfl 6 (by decide) (hts (.fieldLink RX7 202 "TheLiningsInIt$Jacket" "seconds" "I") (List.mem_of_getElem? (i := 4) rfl)) (fun _ h9 => h9) rfl dX7_casesBy_29 ?_
  skip
  refine zw_VN (As := [.int 4, .int de, .int se]) (rest := []) (wr := [(x0, .inr (7, [.ref xs, .ref j0, .ref k0, .ref w0, .ref rd, .ref mv, .ref xr, .int im, .int lf])), (wl, .inl (cI, 125, .inl q_7)), (wc, .inl (cI, 3, .inl q_8)), (j0, .inr (0, [.ref z0, .ref jp, .ref jc, .int cn, .int de, .int tr, .int se, .int hu, .int sd])), (jp, .inl (cP, 8, .inr (.inr (.inr (.inr fp))))), (jc, .inl (cI, 3, .inl fjc))]) ⟨hx, hb, hml, hown, hts⟩ (c_W_most_4 l D cI cJ cZ cP cS po w0 wk wl wc wp (q_3) (q_4) (q_5) q_9 q_6 (de) (se) hbq_3.1 hbq_3.2 hbq_4.1 hbq_4.2 hbq_5.1 hbq_5.2 hwq_9 hy6 hy7 H.size) ⟨(va_cnB 3 hts gX7_casesBy_X5_most_n208 rfl rfl rfl (hN.1 (RX7, 208, yX5_most) (List.mem_of_getElem? (i := 10) rfl)) (hts _ (List.mem_of_getElem? (i := 8) rfl)) dh_X5_most ⟨Nat.le_of_ble_eq_true rfl, Nat.le_of_ble_eq_true rfl⟩), (hts _ (List.mem_of_getElem? (i := 43) rfl)), (hts _ (List.mem_of_getElem? (i := 44) rfl))⟩ hK hN (hZ.kept hS) hP hD hS hA [1, 2, 5] [0, 3, 4, 6, 7, 8] rfl rfl (by decide) (by decide) (by decide) (va_recv (q := (RX5, TX5, 7)) hK hP (ci := 5) (q0 := 1) rfl rfl) rfl hl.1 rfl (Nat.le_of_ble_eq_true rfl) dX7_casesBy_32 ⟨Nat.le_of_ble_eq_true rfl, Nat.le_of_ble_eq_true rfl⟩ (fun r_10 u_11 H locs hr_10 hP hD hS => ?_)
  obtain ⟨q_12, rfl⟩ : ∃ z, z = u_11 := ⟨_, rfl⟩
  have h9R := zRe (ws' := [(x0, .inr (7, [.ref xs, .ref j0, .ref k0, .ref w0, .ref rd, .ref mv, .ref xr, .int im, .int lf])), (wl, .inl (cI, 125, .inl q_7)), (wc, .inl (cI, 3, .inl q_8)), (j0, .inr (0, [.ref z0, .ref jp, .ref jc, .int cn, .int de, .int tr, .int se, .int hu, .int sd])), (jp, .inl (cP, 8, .inr (.inr (.inr (.inr fp))))), (jc, .inl (cI, 3, .inl fjc)), (w0, .inr (5, [.ref wk, .ref wl, .ref wc, .ref wp, .int q_3, .int q_4, .int q_5])), (wk, .inl (cI, 125, .inl q_12)), (wp, .inl (cP, 8, .inr (.inr (.inr (.inr q_9)))))]) hP hD rfl
  clear hP hD
  obtain ⟨hP, hD⟩ := h9R
  exact W.iret (v := r_10) hx hb hr (fun t ht hW => ⟨⟨r_10, (q_3, q_4, q_5, q_12, q_7, q_8, q_9), rfl, ⟨(show 0 ≤ q_3.toInt ∧ q_3.toInt ≤ 8 from hbq_3), (show 0 ≤ q_4.toInt ∧ q_4.toInt ≤ 9 from hbq_4), (show 0 ≤ q_5.toInt ∧ q_5.toInt ≤ 60 from hbq_5), hpq_8, hwq_9, trivial⟩, zRet ht hP hD [0, 3, 6, 7, 1, 2, 8, 4, 5] (by decide) rfl⟩, hS.F ht⟩) hS.2.2 dX7_casesBy_35
end
section
set_option maxHeartbeats 4000000 in
set_option maxRecDepth 100000 in
theorem c_X_haste (l : Launch) (D : va_G) (cI cJ cZ cP cS : ClassId) (po : zPool) (x0 xs j0 k0 w0 rd mv xr : Nat) (im lf : Int32) (fr : Nat → Int32) (j0 jp jc z0 zl zs : Nat) (cn de tr se hu sd : Int32) (wk wl wc wp : Nat) (wn wh wg : Int32) (fq : Nat → Option Nat) (fk fl fc fjc : Nat → Int32) (fp : Nat → Option Nat) (kf af tf : Nat → Int32) (n w : Int32) (hy0 : 0 ≤ im.toInt) (hy1 : im.toInt ≤ 1) (hy2 : (-1) ≤ lf.toInt) (hy3 : lf.toInt ≤ 160) (hy4 : 0 ≤ cn.toInt) (hy5 : cn.toInt ≤ 8) (hy6 : 0 ≤ de.toInt) (hy7 : de.toInt ≤ 24) (hy8 : 0 ≤ hu.toInt) (hy9 : hu.toInt ≤ 9) (hy10 : 0 ≤ wn.toInt) (hy11 : wn.toInt ≤ 8) (hy12 : 0 ≤ wh.toInt) (hy13 : wh.toInt ≤ 9) (hy14 : 0 ≤ wg.toInt) (hy15 : wg.toInt ≤ 60) (hwq : zWP po fq) (hjp : zJP po fp cn kf af tf) (hp_fc : zRg fc (0) 99) (hp_fjc : zRg fjc (0) 99) (hpz : Nat) : Met l yX7_haste wsX7_haste ({ frames := 11, cells := 0, slots := 0, locals := 286 }) (va_Pc [.ref x0, .int n, .int w] (zW D (zKT cI cJ cZ cP cS) po [(x0, .inr (7, [.ref xs, .ref j0, .ref k0, .ref w0, .ref rd, .ref mv, .ref xr, .int im, .int lf])), (xr, .inl (cI, 8, .inl fr)), (j0, .inr (0, [.ref z0, .ref jp, .ref jc, .int cn, .int de, .int tr, .int se, .int hu, .int sd])), (w0, .inr (5, [.ref wk, .ref wl, .ref wc, .ref wp, .int wn, .int wh, .int wg])), (wk, .inl (cI, 125, .inl fk)), (wl, .inl (cI, 125, .inl fl)), (wc, .inl (cI, 3, .inl fc)), (wp, .inl (cP, 8, .inr (.inr (.inr (.inr fq))))), (jp, .inl (cP, 8, .inr (.inr (.inr (.inr fp))))), (jc, .inl (cI, 3, .inl fjc))] hpz)) (va_Qi (fun (r : Int32) (u : (Int32) × (Int32) × (Int32) × (Nat → Int32) × (Nat → Int32) × (Nat → Int32) × (Nat → Option Nat) × (Nat → Int32)) => (0 ≤ u.1.toInt ∧ u.1.toInt ≤ 8) ∧ (0 ≤ u.2.1.toInt ∧ u.2.1.toInt ≤ 9) ∧ (0 ≤ u.2.2.1.toInt ∧ u.2.2.1.toInt ≤ 60) ∧ zRg u.2.2.2.2.2.1 (0) 99 ∧ zWP po u.2.2.2.2.2.2.1 ∧ (True)) (zB D [(x0, .inr (7, [.ref xs, .ref j0, .ref k0, .ref w0, .ref rd, .ref mv, .ref xr, .int im, .int lf])), (xr, .inl (cI, 8, .inl fr)), (j0, .inr (0, [.ref z0, .ref jp, .ref jc, .int cn, .int de, .int tr, .int se, .int hu, .int sd])), (w0, .inr (5, [.ref wk, .ref wl, .ref wc, .ref wp, .int wn, .int wh, .int wg])), (wk, .inl (cI, 125, .inl fk)), (wl, .inl (cI, 125, .inl fl)), (wc, .inl (cI, 3, .inl fc)), (wp, .inl (cP, 8, .inr (.inr (.inr (.inr fq))))), (jp, .inl (cP, 8, .inr (.inr (.inr (.inr fp))))), (jc, .inl (cI, 3, .inl fjc))] hpz (fun (u : (Int32) × (Int32) × (Int32) × (Nat → Int32) × (Nat → Int32) × (Nat → Int32) × (Nat → Option Nat) × (Nat → Int32)) => [(x0, .inr (7, [.ref xs, .ref j0, .ref k0, .ref w0, .ref rd, .ref mv, .ref xr, .int im, .int lf])), (xr, .inl (cI, 8, .inl u.2.2.2.2.2.2.2)), (j0, .inr (0, [.ref z0, .ref jp, .ref jc, .int cn, .int de, .int tr, .int se, .int hu, .int sd])), (w0, .inr (5, [.ref wk, .ref wl, .ref wc, .ref wp, .int u.1, .int u.2.1, .int u.2.2.1])), (wk, .inl (cI, 125, .inl u.2.2.2.1)), (wl, .inl (cI, 125, .inl u.2.2.2.2.1)), (wc, .inl (cI, 3, .inl u.2.2.2.2.2.1)), (wp, .inl (cP, 8, .inr (.inr (.inr (.inr u.2.2.2.2.2.2.1))))), (jp, .inl (cP, 8, .inr (.inr (.inr (.inr fp))))), (jc, .inl (cI, 3, .inl fjc))])) (va_A [(x0, .inr (7, [.ref xs, .ref j0, .ref k0, .ref w0, .ref rd, .ref mv, .ref xr, .int im, .int lf])), (xr, .inl (cI, 8, .inl fr)), (j0, .inr (0, [.ref z0, .ref jp, .ref jc, .int cn, .int de, .int tr, .int se, .int hu, .int sd])), (w0, .inr (5, [.ref wk, .ref wl, .ref wc, .ref wp, .int wn, .int wh, .int wg])), (wk, .inl (cI, 125, .inl fk)), (wl, .inl (cI, 125, .inl fl)), (wc, .inl (cI, 3, .inl fc)), (wp, .inl (cP, 8, .inr (.inr (.inr (.inr fq))))), (jp, .inl (cP, 8, .inr (.inr (.inr (.inr fp))))), (jc, .inl (cI, 3, .inl fjc))] hpz)) 0 0 (va_A [(x0, .inr (7, [.ref xs, .ref j0, .ref k0, .ref w0, .ref rd, .ref mv, .ref xr, .int im, .int lf])), (xr, .inl (cI, 8, .inl fr)), (j0, .inr (0, [.ref z0, .ref jp, .ref jc, .int cn, .int de, .int tr, .int se, .int hu, .int sd])), (w0, .inr (5, [.ref wk, .ref wl, .ref wc, .ref wp, .int wn, .int wh, .int wg])), (wk, .inl (cI, 125, .inl fk)), (wl, .inl (cI, 125, .inl fl)), (wc, .inl (cI, 3, .inl fc)), (wp, .inl (cP, 8, .inr (.inr (.inr (.inr fq))))), (jp, .inl (cP, 8, .inr (.inr (.inr (.inr fp))))), (jc, .inl (cI, 3, .inl fjc))] hpz) := by
  refine Met.ofW (cc := cX7_haste) (maxL := 7) (ret := (some .int)) (by decide) rfl ?_
  intro p e s m args below meth c s₁ B hml hv
  obtain ⟨rfl, hsz, hP, hK, hD0, hN, hZ⟩ := hv
  have hx := B.exec
  have hb := B.bytes
  have hr := B.returns
  have hts := atoms_spec (ws := wsX7_haste) B.pre
  have hown : s.vm.findClass RX7 = some m.cls := findClass_of_methodNamed B.named
  have hlocks := B.notSynchronized
  subst hsz
  have hD := hD0.self (sz := s.heap.size)
  have hA := zA_of hD
  have hl := lv_entry ([.ref x0, .int n, .int w]) (n := 7) (Nat.le_of_ble_eq_true rfl)
  rw [lg_entry_eq]
  generalize (lg_sl ([.ref x0, .int n, .int w]) ++ List.replicate (7 - (lg_sl ([.ref x0, .int n, .int w])).length) Slot.unset).toArray = ls at hl ⊢
  replace hl : lv_has ls 7 [(0, .ref x0), (1, .int n), (2, .int w)] := hl
  refine zw_begin hP hD (fun H locs hP1 hS => ?_)
  clear hP
  have hP := hP1
  clear hP1
  refine lv_iload_n hx hb dX7_haste_0 rfl (lv_at hl 2 rfl) ?_
  refine lv_iconst (v := 0) hx hb dX7_haste_1 (by decide) ?_
  refine lv_iconst (v := 1) hx hb dX7_haste_2 (by decide) ?_
  have kc0 : (0 : Int32).toInt = 0 := by decide
  have kc1 : (1 : Int32).toInt = 1 := by decide
  refine zc_S (As := [.int w, .int 0, .int 1]) (rest := []) ⟨hx, hb, hml, hown, hts⟩ (c_within l D cI cJ cZ cP cS po (w) (0) (1) ) (va_cwS 3 hts gX7_haste_X7_within rfl rfl rfl dh_X7_within ⟨Nat.le_of_ble_eq_true rfl, Nat.le_of_ble_eq_true rfl⟩) hK hN (hZ.kept hS) rfl hl.1 rfl (Nat.le_of_ble_eq_true rfl) dX7_haste_3 ⟨Nat.le_of_ble_eq_true rfl, Nat.le_of_ble_eq_true rfl⟩ (fun r_1 hr_1 => ?_)
  rcases hr_1 with ⟨rfl, g_2⟩ | ⟨rfl, g_3, g_4⟩ | ⟨rfl, g_5, g_6⟩
  · refine lv_if_ne (tgt := 15) hx hb dX7_haste_6 (by decide) (fun c_7 => ?_) (fun c_7 => ?_)
    · exact absurd c_7 (by decide)
    · refine lv_aload_n hx hb dX7_haste_9 rfl (lv_at hl 0 rfl) ?_
      refine lv_iconst (v := 5) hx hb dX7_haste_10 (by decide) ?_
      skip
      refine zw_V (As := [.int 5]) (rest := []) (wr := [(j0, .inr (0, [.ref z0, .ref jp, .ref jc, .int cn, .int de, .int tr, .int se, .int hu, .int sd])), (w0, .inr (5, [.ref wk, .ref wl, .ref wc, .ref wp, .int wn, .int wh, .int wg])), (wk, .inl (cI, 125, .inl fk)), (wl, .inl (cI, 125, .inl fl)), (wc, .inl (cI, 3, .inl fc)), (wp, .inl (cP, 8, .inr (.inr (.inr (.inr fq))))), (jp, .inl (cP, 8, .inr (.inr (.inr (.inr fp))))), (jc, .inl (cI, 3, .inl fjc))]) ⟨hx, hb, hml, hown, hts⟩ (c_X_refuse_5 l D cI cJ cZ cP cS po x0 xs j0 k0 w0 rd mv xr (im) (lf) fr hy0 hy1 hy2 hy3 H.size) (cwV 1 hts gX7_haste_X7_refuse rfl rfl rfl ⟨rfl, dh_X7_refuse⟩ ⟨Nat.le_of_ble_eq_true rfl, Nat.le_of_ble_eq_true rfl⟩) hK hN (hZ.kept hS) hP hD hS hA [0, 1] [2, 3, 4, 5, 6, 7, 8, 9] rfl rfl (by decide) (by decide) (by decide) (va_recv (q := (RX7, TX7, 9)) hK hP (ci := 7) (q0 := 0) rfl rfl) rfl hl.1 rfl (Nat.le_of_ble_eq_true rfl) dX7_haste_11 ⟨Nat.le_of_ble_eq_true rfl, Nat.le_of_ble_eq_true rfl⟩ (fun r_8 u_9 H locs hr_8 hP hD hS => ?_)
      obtain ⟨q_10, rfl⟩ : ∃ z, z = u_9 := ⟨_, rfl⟩
      have h9R := zRe (ws' := [(j0, .inr (0, [.ref z0, .ref jp, .ref jc, .int cn, .int de, .int tr, .int se, .int hu, .int sd])), (w0, .inr (5, [.ref wk, .ref wl, .ref wc, .ref wp, .int wn, .int wh, .int wg])), (wk, .inl (cI, 125, .inl fk)), (wl, .inl (cI, 125, .inl fl)), (wc, .inl (cI, 3, .inl fc)), (wp, .inl (cP, 8, .inr (.inr (.inr (.inr fq))))), (jp, .inl (cP, 8, .inr (.inr (.inr (.inr fp))))), (jc, .inl (cI, 3, .inl fjc)), (x0, .inr (7, [.ref xs, .ref j0, .ref k0, .ref w0, .ref rd, .ref mv, .ref xr, .int im, .int lf])), (xr, .inl (cI, 8, .inl q_10))]) hP hD rfl
      clear hP hD
      obtain ⟨hP, hD⟩ := h9R
      obtain rfl := hr_8
      exact W.iret (v := (-5)) hx hb hr (fun t ht hW => ⟨⟨(-5), (wn, wh, wg, fk, fl, fc, fq, q_10), rfl, ⟨(show 0 ≤ wn.toInt ∧ wn.toInt ≤ 8 from ⟨hy10, hy11⟩), (show 0 ≤ wh.toInt ∧ wh.toInt ≤ 9 from ⟨hy12, hy13⟩), (show 0 ≤ wg.toInt ∧ wg.toInt ≤ 60 from ⟨hy14, hy15⟩), hp_fc, hwq, trivial⟩, zRet ht hP hD [8, 9, 0, 1, 2, 3, 4, 5, 6, 7] (by decide) rfl⟩, hS.F ht⟩) hS.2.2 dX7_haste_14
  · refine lv_if_ne (tgt := 15) hx hb dX7_haste_6 (by decide) (fun c_11 => ?_) (fun c_11 => ?_)
    · exact absurd c_11 (by decide)
    · refine lv_aload_n hx hb dX7_haste_9 rfl (lv_at hl 0 rfl) ?_
      refine lv_iconst (v := 5) hx hb dX7_haste_10 (by decide) ?_
      skip
      refine zw_V (As := [.int 5]) (rest := []) (wr := [(j0, .inr (0, [.ref z0, .ref jp, .ref jc, .int cn, .int de, .int tr, .int se, .int hu, .int sd])), (w0, .inr (5, [.ref wk, .ref wl, .ref wc, .ref wp, .int wn, .int wh, .int wg])), (wk, .inl (cI, 125, .inl fk)), (wl, .inl (cI, 125, .inl fl)), (wc, .inl (cI, 3, .inl fc)), (wp, .inl (cP, 8, .inr (.inr (.inr (.inr fq))))), (jp, .inl (cP, 8, .inr (.inr (.inr (.inr fp))))), (jc, .inl (cI, 3, .inl fjc))]) ⟨hx, hb, hml, hown, hts⟩ (c_X_refuse_5 l D cI cJ cZ cP cS po x0 xs j0 k0 w0 rd mv xr (im) (lf) fr hy0 hy1 hy2 hy3 H.size) (cwV 1 hts gX7_haste_X7_refuse rfl rfl rfl ⟨rfl, dh_X7_refuse⟩ ⟨Nat.le_of_ble_eq_true rfl, Nat.le_of_ble_eq_true rfl⟩) hK hN (hZ.kept hS) hP hD hS hA [0, 1] [2, 3, 4, 5, 6, 7, 8, 9] rfl rfl (by decide) (by decide) (by decide) (va_recv (q := (RX7, TX7, 9)) hK hP (ci := 7) (q0 := 0) rfl rfl) rfl hl.1 rfl (Nat.le_of_ble_eq_true rfl) dX7_haste_11 ⟨Nat.le_of_ble_eq_true rfl, Nat.le_of_ble_eq_true rfl⟩ (fun r_12 u_13 H locs hr_12 hP hD hS => ?_)
      obtain ⟨q_14, rfl⟩ : ∃ z, z = u_13 := ⟨_, rfl⟩
      have h9R := zRe (ws' := [(j0, .inr (0, [.ref z0, .ref jp, .ref jc, .int cn, .int de, .int tr, .int se, .int hu, .int sd])), (w0, .inr (5, [.ref wk, .ref wl, .ref wc, .ref wp, .int wn, .int wh, .int wg])), (wk, .inl (cI, 125, .inl fk)), (wl, .inl (cI, 125, .inl fl)), (wc, .inl (cI, 3, .inl fc)), (wp, .inl (cP, 8, .inr (.inr (.inr (.inr fq))))), (jp, .inl (cP, 8, .inr (.inr (.inr (.inr fp))))), (jc, .inl (cI, 3, .inl fjc)), (x0, .inr (7, [.ref xs, .ref j0, .ref k0, .ref w0, .ref rd, .ref mv, .ref xr, .int im, .int lf])), (xr, .inl (cI, 8, .inl q_14))]) hP hD rfl
      clear hP hD
      obtain ⟨hP, hD⟩ := h9R
      obtain rfl := hr_12
      exact W.iret (v := (-5)) hx hb hr (fun t ht hW => ⟨⟨(-5), (wn, wh, wg, fk, fl, fc, fq, q_14), rfl, ⟨(show 0 ≤ wn.toInt ∧ wn.toInt ≤ 8 from ⟨hy10, hy11⟩), (show 0 ≤ wh.toInt ∧ wh.toInt ≤ 9 from ⟨hy12, hy13⟩), (show 0 ≤ wg.toInt ∧ wg.toInt ≤ 60 from ⟨hy14, hy15⟩), hp_fc, hwq, trivial⟩, zRet ht hP hD [8, 9, 0, 1, 2, 3, 4, 5, 6, 7] (by decide) rfl⟩, hS.F ht⟩) hS.2.2 dX7_haste_14
  · refine lv_if_ne (tgt := 15) hx hb dX7_haste_6 (by decide) (fun c_15 => ?_) (fun c_15 => ?_)
    · refine lv_iload_n hx hb dX7_haste_15 rfl (lv_at hl 1 rfl) ?_
      refine lv_iconst (v := 0) hx hb dX7_haste_16 (by decide) ?_
      refine lv_iconst (v := 4) hx hb dX7_haste_17 (by decide) ?_
      have kc4 : (4 : Int32).toInt = 4 := by decide
      refine zc_S (As := [.int n, .int 0, .int 4]) (rest := []) ⟨hx, hb, hml, hown, hts⟩ (c_within l D cI cJ cZ cP cS po (n) (0) (4) ) (va_cwS 3 hts gX7_haste_X7_within rfl rfl rfl dh_X7_within ⟨Nat.le_of_ble_eq_true rfl, Nat.le_of_ble_eq_true rfl⟩) hK hN (hZ.kept hS) rfl hl.1 rfl (Nat.le_of_ble_eq_true rfl) dX7_haste_18 ⟨Nat.le_of_ble_eq_true rfl, Nat.le_of_ble_eq_true rfl⟩ (fun r_16 hr_16 => ?_)
      rcases hr_16 with ⟨rfl, g_17⟩ | ⟨rfl, g_18, g_19⟩ | ⟨rfl, g_20, g_21⟩
      · refine lv_if_ne (tgt := 31) hx hb dX7_haste_21 (by decide) (fun c_22 => ?_) (fun c_22 => ?_)
        · exact absurd c_22 (by decide)
        · refine lv_aload_n hx hb dX7_haste_24 rfl (lv_at hl 0 rfl) ?_
          refine lv_bipush (v := 6) hx hb dX7_haste_25 (by decide) ?_
          skip
          refine zw_V (As := [.int 6]) (rest := []) (wr := [(j0, .inr (0, [.ref z0, .ref jp, .ref jc, .int cn, .int de, .int tr, .int se, .int hu, .int sd])), (w0, .inr (5, [.ref wk, .ref wl, .ref wc, .ref wp, .int wn, .int wh, .int wg])), (wk, .inl (cI, 125, .inl fk)), (wl, .inl (cI, 125, .inl fl)), (wc, .inl (cI, 3, .inl fc)), (wp, .inl (cP, 8, .inr (.inr (.inr (.inr fq))))), (jp, .inl (cP, 8, .inr (.inr (.inr (.inr fp))))), (jc, .inl (cI, 3, .inl fjc))]) ⟨hx, hb, hml, hown, hts⟩ (c_X_refuse_6 l D cI cJ cZ cP cS po x0 xs j0 k0 w0 rd mv xr (im) (lf) fr hy0 hy1 hy2 hy3 H.size) (cwV 1 hts gX7_haste_X7_refuse rfl rfl rfl ⟨rfl, dh_X7_refuse⟩ ⟨Nat.le_of_ble_eq_true rfl, Nat.le_of_ble_eq_true rfl⟩) hK hN (hZ.kept hS) hP hD hS hA [0, 1] [2, 3, 4, 5, 6, 7, 8, 9] rfl rfl (by decide) (by decide) (by decide) (va_recv (q := (RX7, TX7, 9)) hK hP (ci := 7) (q0 := 0) rfl rfl) rfl hl.1 rfl (Nat.le_of_ble_eq_true rfl) dX7_haste_27 ⟨Nat.le_of_ble_eq_true rfl, Nat.le_of_ble_eq_true rfl⟩ (fun r_23 u_24 H locs hr_23 hP hD hS => ?_)
          obtain ⟨q_25, rfl⟩ : ∃ z, z = u_24 := ⟨_, rfl⟩
          have h9R := zRe (ws' := [(j0, .inr (0, [.ref z0, .ref jp, .ref jc, .int cn, .int de, .int tr, .int se, .int hu, .int sd])), (w0, .inr (5, [.ref wk, .ref wl, .ref wc, .ref wp, .int wn, .int wh, .int wg])), (wk, .inl (cI, 125, .inl fk)), (wl, .inl (cI, 125, .inl fl)), (wc, .inl (cI, 3, .inl fc)), (wp, .inl (cP, 8, .inr (.inr (.inr (.inr fq))))), (jp, .inl (cP, 8, .inr (.inr (.inr (.inr fp))))), (jc, .inl (cI, 3, .inl fjc)), (x0, .inr (7, [.ref xs, .ref j0, .ref k0, .ref w0, .ref rd, .ref mv, .ref xr, .int im, .int lf])), (xr, .inl (cI, 8, .inl q_25))]) hP hD rfl
          clear hP hD
          obtain ⟨hP, hD⟩ := h9R
          obtain rfl := hr_23
          exact W.iret (v := (-6)) hx hb hr (fun t ht hW => ⟨⟨(-6), (wn, wh, wg, fk, fl, fc, fq, q_25), rfl, ⟨(show 0 ≤ wn.toInt ∧ wn.toInt ≤ 8 from ⟨hy10, hy11⟩), (show 0 ≤ wh.toInt ∧ wh.toInt ≤ 9 from ⟨hy12, hy13⟩), (show 0 ≤ wg.toInt ∧ wg.toInt ≤ 60 from ⟨hy14, hy15⟩), hp_fc, hwq, trivial⟩, zRet ht hP hD [8, 9, 0, 1, 2, 3, 4, 5, 6, 7] (by decide) rfl⟩, hS.F ht⟩) hS.2.2 dX7_haste_30
      · refine lv_if_ne (tgt := 31) hx hb dX7_haste_21 (by decide) (fun c_26 => ?_) (fun c_26 => ?_)
        · exact absurd c_26 (by decide)
        · refine lv_aload_n hx hb dX7_haste_24 rfl (lv_at hl 0 rfl) ?_
          refine lv_bipush (v := 6) hx hb dX7_haste_25 (by decide) ?_
          skip
          refine zw_V (As := [.int 6]) (rest := []) (wr := [(j0, .inr (0, [.ref z0, .ref jp, .ref jc, .int cn, .int de, .int tr, .int se, .int hu, .int sd])), (w0, .inr (5, [.ref wk, .ref wl, .ref wc, .ref wp, .int wn, .int wh, .int wg])), (wk, .inl (cI, 125, .inl fk)), (wl, .inl (cI, 125, .inl fl)), (wc, .inl (cI, 3, .inl fc)), (wp, .inl (cP, 8, .inr (.inr (.inr (.inr fq))))), (jp, .inl (cP, 8, .inr (.inr (.inr (.inr fp))))), (jc, .inl (cI, 3, .inl fjc))]) ⟨hx, hb, hml, hown, hts⟩ (c_X_refuse_6 l D cI cJ cZ cP cS po x0 xs j0 k0 w0 rd mv xr (im) (lf) fr hy0 hy1 hy2 hy3 H.size) (cwV 1 hts gX7_haste_X7_refuse rfl rfl rfl ⟨rfl, dh_X7_refuse⟩ ⟨Nat.le_of_ble_eq_true rfl, Nat.le_of_ble_eq_true rfl⟩) hK hN (hZ.kept hS) hP hD hS hA [0, 1] [2, 3, 4, 5, 6, 7, 8, 9] rfl rfl (by decide) (by decide) (by decide) (va_recv (q := (RX7, TX7, 9)) hK hP (ci := 7) (q0 := 0) rfl rfl) rfl hl.1 rfl (Nat.le_of_ble_eq_true rfl) dX7_haste_27 ⟨Nat.le_of_ble_eq_true rfl, Nat.le_of_ble_eq_true rfl⟩ (fun r_27 u_28 H locs hr_27 hP hD hS => ?_)
          obtain ⟨q_29, rfl⟩ : ∃ z, z = u_28 := ⟨_, rfl⟩
          have h9R := zRe (ws' := [(j0, .inr (0, [.ref z0, .ref jp, .ref jc, .int cn, .int de, .int tr, .int se, .int hu, .int sd])), (w0, .inr (5, [.ref wk, .ref wl, .ref wc, .ref wp, .int wn, .int wh, .int wg])), (wk, .inl (cI, 125, .inl fk)), (wl, .inl (cI, 125, .inl fl)), (wc, .inl (cI, 3, .inl fc)), (wp, .inl (cP, 8, .inr (.inr (.inr (.inr fq))))), (jp, .inl (cP, 8, .inr (.inr (.inr (.inr fp))))), (jc, .inl (cI, 3, .inl fjc)), (x0, .inr (7, [.ref xs, .ref j0, .ref k0, .ref w0, .ref rd, .ref mv, .ref xr, .int im, .int lf])), (xr, .inl (cI, 8, .inl q_29))]) hP hD rfl
          clear hP hD
          obtain ⟨hP, hD⟩ := h9R
          obtain rfl := hr_27
          exact W.iret (v := (-6)) hx hb hr (fun t ht hW => ⟨⟨(-6), (wn, wh, wg, fk, fl, fc, fq, q_29), rfl, ⟨(show 0 ≤ wn.toInt ∧ wn.toInt ≤ 8 from ⟨hy10, hy11⟩), (show 0 ≤ wh.toInt ∧ wh.toInt ≤ 9 from ⟨hy12, hy13⟩), (show 0 ≤ wg.toInt ∧ wg.toInt ≤ 60 from ⟨hy14, hy15⟩), hp_fc, hwq, trivial⟩, zRet ht hP hD [8, 9, 0, 1, 2, 3, 4, 5, 6, 7] (by decide) rfl⟩, hS.F ht⟩) hS.2.2 dX7_haste_30
      · refine lv_if_ne (tgt := 31) hx hb dX7_haste_21 (by decide) (fun c_30 => ?_) (fun c_30 => ?_)
        · have hsp : n = 0 ∨ n = 1 ∨ n = 2 ∨ n = 3 ∨ n = 4 := by
            rcases (show n.toInt = 0 ∨ n.toInt = 1 ∨ n.toInt = 2 ∨ n.toInt = 3 ∨ n.toInt = 4 by omega) with h9 | h9 | h9 | h9 | h9
            · refine Or.inl ?_; exact zf_val h9 (by decide)
            · refine Or.inr (Or.inl ?_); exact zf_val h9 (by decide)
            · refine Or.inr (Or.inr (Or.inl ?_)); exact zf_val h9 (by decide)
            · refine Or.inr (Or.inr (Or.inr (Or.inl ?_))); exact zf_val h9 (by decide)
            · refine Or.inr (Or.inr (Or.inr (Or.inr (?_)))); exact zf_val h9 (by decide)
          rcases hsp with rfl | rfl | rfl | rfl | rfl
          · refine lv_iload_n hx hb dX7_haste_31 rfl (lv_at hl 2 rfl) ?_
            refine lv_iconst (v := 1) hx hb dX7_haste_32 (by decide) ?_
            refine lv_icmp_ne (tgt := 58) hx hb dX7_haste_33 (by decide) (fun c_31 => ?_) (fun c_31 => ?_)
            · have fc_31 : w.toInt ≠ 1 := zf_ne c_31 rfl (by decide)
              refine lv_iconst (v := 0) hx hb dX7_haste_58 (by decide) ?_
              refine lv_istore_n (lv' := [(3, .int 0), (0, .ref x0), (1, .int 0), (2, .int w)]) hx hb dX7_haste_59 rfl hl (by decide) rfl (fun ls hl => ?_)
              refine lv_aload_n hx hb dX7_haste_60 rfl (lv_at hl 1 rfl) ?_
              refine lv_iconst (v := 0) hx hb dX7_haste_61 (by decide) ?_
              refine lv_iload_n hx hb dX7_haste_62 rfl (lv_at hl 2 rfl) ?_
              skip
              refine zw_V (As := [.int 0, .int 0]) (rest := []) (wr := [(xr, .inl (cI, 8, .inl fr))]) ⟨hx, hb, hml, hown, hts⟩ (c_X_casesBy_0 l D cI cJ cZ cP cS po x0 xs j0 k0 w0 rd mv xr (im) (lf) ((fun _ => 0)) j0 jp jc z0 0 0 (cn) (de) (tr) (se) (hu) (sd) wk wl wc wp (wn) (wh) (wg) fq fk fl fc fjc fp kf af tf (0) hy0 hy1 hy2 hy3 hy4 hy5 hy6 hy7 hy8 hy9 hy10 hy11 hy12 hy13 hy14 hy15 hwq hjp (by omega) (by omega) hp_fc hp_fjc H.size) (cwV 2 hts gX7_haste_X7_casesBy rfl rfl rfl ⟨rfl, dh_X7_casesBy⟩ ⟨Nat.le_of_ble_eq_true rfl, Nat.le_of_ble_eq_true rfl⟩) hK hN (hZ.kept hS) hP hD hS hA [0, 2, 3, 4, 5, 6, 7, 8, 9] [1] rfl rfl (by decide) (by decide) (by decide) (va_recv (q := (RX7, TX7, 9)) hK hP (ci := 7) (q0 := 0) rfl rfl) rfl hl.1 rfl (Nat.le_of_ble_eq_true rfl) dX7_haste_63 ⟨Nat.le_of_ble_eq_true rfl, Nat.le_of_ble_eq_true rfl⟩ (fun r_32 u_33 H locs hr_32 hP hD hS => ?_)
              obtain ⟨q_34, q_35, q_36, q_37, q_38, q_39, q_40⟩ := u_33
              try dsimp only at hr_32
              obtain ⟨hbq_34, hbq_35, hbq_36, hpq_39, hwq_40, hr_32⟩ := hr_32
              have h9R := zRe (ws' := [(xr, .inl (cI, 8, .inl fr)), (x0, .inr (7, [.ref xs, .ref j0, .ref k0, .ref w0, .ref rd, .ref mv, .ref xr, .int im, .int lf])), (j0, .inr (0, [.ref z0, .ref jp, .ref jc, .int cn, .int de, .int tr, .int se, .int hu, .int sd])), (w0, .inr (5, [.ref wk, .ref wl, .ref wc, .ref wp, .int q_34, .int q_35, .int q_36])), (wk, .inl (cI, 125, .inl q_37)), (wl, .inl (cI, 125, .inl q_38)), (wc, .inl (cI, 3, .inl q_39)), (wp, .inl (cP, 8, .inr (.inr (.inr (.inr q_40))))), (jp, .inl (cP, 8, .inr (.inr (.inr (.inr fp))))), (jc, .inl (cI, 3, .inl fjc))]) hP hD rfl
              clear hP hD
              obtain ⟨hP, hD⟩ := h9R
              refine lv_istore (lv' := [(4, .int r_32), (3, .int 0), (0, .ref x0), (1, .int 0), (2, .int w)]) hx hb dX7_haste_66 hl (by decide) rfl (fun ls hl => ?_)
              refine lv_iconst (v := 1) hx hb dX7_haste_68 (by decide) ?_
              refine lv_istore (lv' := [(5, .int 1), (4, .int r_32), (3, .int 0), (0, .ref x0), (1, .int 0), (2, .int w)]) hx hb dX7_haste_69 hl (by decide) rfl (fun ls hl => ?_)
              obtain ⟨i_71, hi_71⟩ : ∃ i : Int32, i = 1 := ⟨_, rfl⟩
              replace hl : lv_has ls 7 [(5, .int i_71), (4, .int r_32), (3, .int 0), (0, .ref x0), (1, .int 0), (2, .int w)] := by rw [hi_71]; exact lv_sub hl [0, 1, 2, 3, 4, 5] rfl
              have h1i_71 : i_71.toInt = 1 := by rw [hi_71]; decide
              obtain ⟨nfu, hni_71⟩ : ∃ nq9 : Nat, 10 ≤ i_71.toInt + (nq9 : Int) := ⟨((10 : Int) - 1).toNat, by omega⟩
              have hloi_71 : 1 ≤ i_71.toInt := by omega
              obtain ⟨g_41, hg_41⟩ : ∃ g : Nat → Int32, g = q_37 := ⟨_, rfl⟩
              obtain ⟨g_42, hg_42⟩ : ∃ g : Nat → Int32, g = q_38 := ⟨_, rfl⟩
              obtain ⟨g_43, hg_43⟩ : ∃ g : Nat → Int32, g = q_39 := ⟨_, rfl⟩
              have hpg_43 : zRg g_43 (0) 99 := by rw [hg_43]; exact hpq_39
              obtain ⟨g_44, hg_44⟩ : ∃ g : Nat → Option Nat, g = q_40 := ⟨_, rfl⟩
              have hwg_44 : zWP po g_44 := by rw [hg_44]; exact hwq_40
              obtain ⟨v_45, hv_45⟩ : ∃ g : Int32, g = q_34 := ⟨_, rfl⟩
              have hbv_45 : 0 ≤ v_45.toInt ∧ v_45.toInt ≤ 8 := by rw [hv_45]; exact ⟨by omega, by omega⟩
              obtain ⟨v_46, hv_46⟩ : ∃ g : Int32, g = q_35 := ⟨_, rfl⟩
              have hbv_46 : 0 ≤ v_46.toInt ∧ v_46.toInt ≤ 9 := by rw [hv_46]; exact ⟨by omega, by omega⟩
              obtain ⟨v_47, hv_47⟩ : ∃ g : Int32, g = q_36 := ⟨_, rfl⟩
              have hbv_47 : 0 ≤ v_47.toInt ∧ v_47.toInt ≤ 60 := by rw [hv_47]; exact ⟨by omega, by omega⟩
              replace hP : va_P D vwCl [(xr, .inl (cI, 8, .inl fr)), (x0, .inr (7, [.ref xs, .ref j0, .ref k0, .ref w0, .ref rd, .ref mv, .ref xr, .int im, .int lf])), (j0, .inr (0, [.ref z0, .ref jp, .ref jc, .int cn, .int de, .int tr, .int se, .int hu, .int sd])), (w0, .inr (5, [.ref wk, .ref wl, .ref wc, .ref wp, .int v_45, .int v_46, .int v_47])), (wk, .inl (cI, 125, .inl g_41)), (wl, .inl (cI, 125, .inl g_42)), (wc, .inl (cI, 3, .inl g_43)), (wp, .inl (cP, 8, .inr (.inr (.inr (.inr g_44))))), (jp, .inl (cP, 8, .inr (.inr (.inr (.inr fp))))), (jc, .inl (cI, 3, .inl fjc))] H := by rw [hg_41, hg_42, hg_43, hg_44, hv_45, hv_46, hv_47]; exact hP
              replace hD : va_D (va_A [(x0, .inr (7, [.ref xs, .ref j0, .ref k0, .ref w0, .ref rd, .ref mv, .ref xr, .int im, .int lf])), (xr, .inl (cI, 8, .inl fr)), (j0, .inr (0, [.ref z0, .ref jp, .ref jc, .int cn, .int de, .int tr, .int se, .int hu, .int sd])), (w0, .inr (5, [.ref wk, .ref wl, .ref wc, .ref wp, .int wn, .int wh, .int wg])), (wk, .inl (cI, 125, .inl fk)), (wl, .inl (cI, 125, .inl fl)), (wc, .inl (cI, 3, .inl fc)), (wp, .inl (cP, 8, .inr (.inr (.inr (.inr fq))))), (jp, .inl (cP, 8, .inr (.inr (.inr (.inr fp))))), (jc, .inl (cI, 3, .inl fjc))] s.heap.size) [(xr, .inl (cI, 8, .inl fr)), (x0, .inr (7, [.ref xs, .ref j0, .ref k0, .ref w0, .ref rd, .ref mv, .ref xr, .int im, .int lf])), (j0, .inr (0, [.ref z0, .ref jp, .ref jc, .int cn, .int de, .int tr, .int se, .int hu, .int sd])), (w0, .inr (5, [.ref wk, .ref wl, .ref wc, .ref wp, .int v_45, .int v_46, .int v_47])), (wk, .inl (cI, 125, .inl g_41)), (wl, .inl (cI, 125, .inl g_42)), (wc, .inl (cI, 3, .inl g_43)), (wp, .inl (cP, 8, .inr (.inr (.inr (.inr g_44))))), (jp, .inl (cP, 8, .inr (.inr (.inr (.inr fp))))), (jc, .inl (cI, 3, .inl fjc))] := by rw [hg_41, hg_42, hg_43, hg_44, hv_45, hv_46, hv_47]; exact hD
              obtain ⟨v_48, hv_48⟩ : ∃ g : Int32, g = 0 := ⟨_, rfl⟩
              obtain ⟨v_49, hv_49⟩ : ∃ g : Int32, g = r_32 := ⟨_, rfl⟩
              replace hl : lv_has ls 7 [(5, .int i_71), (4, .int v_49), (3, .int v_48), (0, .ref x0), (1, .int 0), (2, .int w)] := by rw [hv_48, hv_49]; exact hl
              clear h1i_71 hi_71 hg_41 hg_42 hg_43 hg_44 hv_45 hv_46 hv_47 hv_48 hv_49
              skip
              revert hni_71
              revert hloi_71
              revert hbv_47
              revert hbv_46
              revert hbv_45
              revert hwg_44
              revert hpg_43
              revert hl
              revert hS
              revert hD
              revert hP
              revert ls
              revert locs
              revert H
              revert g_41
              revert g_42
              revert g_43
              revert g_44
              revert v_45
              revert v_46
              revert v_47
              revert v_49
              revert v_48
              revert i_71
              induction nfu with
              | zero =>
                intro i_71 v_48 v_49 v_47 v_46 v_45 g_44 g_43 g_42 g_41 H locs ls hP hD hS hl hpg_43 hwg_44 hbv_45 hbv_46 hbv_47 hloi_71 hni_71
                have hzi_71 : 10 ≤ i_71.toInt := by omega
                refine lv_iload hx hb dX7_haste_71 (lv_at hl 0 rfl) ?_
                refine lv_bipush (v := 9) hx hb dX7_haste_73 (by decide) ?_
                refine lv_icmp_gt (tgt := 107) hx hb dX7_haste_75 (by decide) (fun c_50 => ?_) (fun c_50 => ?_)
                · have fc_50 : 9 < i_71.toInt := zf_lt c_50 (by decide) rfl
                  refine lv_iload_n hx hb dX7_haste_107 rfl (lv_at hl 2 rfl) ?_
                  exact W.iret (v := v_48) hx hb hr (fun t ht hW => ⟨⟨v_48, (v_45, v_46, v_47, g_41, g_42, g_43, g_44, fr), rfl, ⟨(show 0 ≤ v_45.toInt ∧ v_45.toInt ≤ 8 from hbv_45), (show 0 ≤ v_46.toInt ∧ v_46.toInt ≤ 9 from hbv_46), (show 0 ≤ v_47.toInt ∧ v_47.toInt ≤ 60 from hbv_47), hpg_43, hwg_44, trivial⟩, zRet ht hP hD [1, 0, 2, 3, 4, 5, 6, 7, 8, 9] (by decide) rfl⟩, hS.F ht⟩) hS.2.2 dX7_haste_108
                · exfalso; have fc_50 : i_71.toInt ≤ 9 := zf_nlt c_50 (by decide) rfl; omega
              | succ nfu ih =>
                intro i_71 v_48 v_49 v_47 v_46 v_45 g_44 g_43 g_42 g_41 H locs ls hP hD hS hl hpg_43 hwg_44 hbv_45 hbv_46 hbv_47 hloi_71 hni_71
                refine lv_iload hx hb dX7_haste_71 (lv_at hl 0 rfl) ?_
                refine lv_bipush (v := 9) hx hb dX7_haste_73 (by decide) ?_
                refine lv_icmp_gt (tgt := 107) hx hb dX7_haste_75 (by decide) (fun c_51 => ?_) (fun c_51 => ?_)
                · have fc_51 : 9 < i_71.toInt := zf_lt c_51 (by decide) rfl
                  refine lv_iload_n hx hb dX7_haste_107 rfl (lv_at hl 2 rfl) ?_
                  exact W.iret (v := v_48) hx hb hr (fun t ht hW => ⟨⟨v_48, (v_45, v_46, v_47, g_41, g_42, g_43, g_44, fr), rfl, ⟨(show 0 ≤ v_45.toInt ∧ v_45.toInt ≤ 8 from hbv_45), (show 0 ≤ v_46.toInt ∧ v_46.toInt ≤ 9 from hbv_46), (show 0 ≤ v_47.toInt ∧ v_47.toInt ≤ 60 from hbv_47), hpg_43, hwg_44, trivial⟩, zRet ht hP hD [1, 0, 2, 3, 4, 5, 6, 7, 8, 9] (by decide) rfl⟩, hS.F ht⟩) hS.2.2 dX7_haste_108
                · have fc_51 : i_71.toInt ≤ 9 := zf_nlt c_51 (by decide) rfl
                  refine lv_aload_n hx hb dX7_haste_78 rfl (lv_at hl 3 rfl) ?_
                  refine lv_iload hx hb dX7_haste_79 (lv_at hl 0 rfl) ?_
                  refine lv_iload_n hx hb dX7_haste_81 rfl (lv_at hl 4 rfl) ?_
                  skip
                  refine zw_V (As := [.int i_71, .int 0]) (rest := []) (wr := [(xr, .inl (cI, 8, .inl fr))]) ⟨hx, hb, hml, hown, hts⟩ (c_X_casesBy_0 l D cI cJ cZ cP cS po x0 xs j0 k0 w0 rd mv xr (im) (lf) ((fun _ => 0)) j0 jp jc z0 0 0 (cn) (de) (tr) (se) (hu) (sd) wk wl wc wp (v_45) (v_46) (v_47) g_44 g_41 g_42 g_43 fjc fp kf af tf (i_71) hy0 hy1 hy2 hy3 hy4 hy5 hy6 hy7 hy8 hy9 hbv_45.1 hbv_45.2 hbv_46.1 hbv_46.2 hbv_47.1 hbv_47.2 hwg_44 hjp (by omega) (by omega) hpg_43 hp_fjc H.size) (cwV 2 hts gX7_haste_X7_casesBy rfl rfl rfl ⟨rfl, dh_X7_casesBy⟩ ⟨Nat.le_of_ble_eq_true rfl, Nat.le_of_ble_eq_true rfl⟩) hK hN (hZ.kept hS) hP hD hS hA [1, 2, 3, 4, 5, 6, 7, 8, 9] [0] rfl rfl (by decide) (by decide) (by decide) (va_recv (q := (RX7, TX7, 9)) hK hP (ci := 7) (q0 := 1) rfl rfl) rfl hl.1 rfl (Nat.le_of_ble_eq_true rfl) dX7_haste_82 ⟨Nat.le_of_ble_eq_true rfl, Nat.le_of_ble_eq_true rfl⟩ (fun r_52 u_53 H locs hr_52 hP hD hS => ?_)
                  obtain ⟨q_54, q_55, q_56, q_57, q_58, q_59, q_60⟩ := u_53
                  try dsimp only at hr_52
                  obtain ⟨hbq_54, hbq_55, hbq_56, hpq_59, hwq_60, hr_52⟩ := hr_52
                  have h9R := zRe (ws' := [(xr, .inl (cI, 8, .inl fr)), (x0, .inr (7, [.ref xs, .ref j0, .ref k0, .ref w0, .ref rd, .ref mv, .ref xr, .int im, .int lf])), (j0, .inr (0, [.ref z0, .ref jp, .ref jc, .int cn, .int de, .int tr, .int se, .int hu, .int sd])), (w0, .inr (5, [.ref wk, .ref wl, .ref wc, .ref wp, .int q_54, .int q_55, .int q_56])), (wk, .inl (cI, 125, .inl q_57)), (wl, .inl (cI, 125, .inl q_58)), (wc, .inl (cI, 3, .inl q_59)), (wp, .inl (cP, 8, .inr (.inr (.inr (.inr q_60))))), (jp, .inl (cP, 8, .inr (.inr (.inr (.inr fp))))), (jc, .inl (cI, 3, .inl fjc))]) hP hD rfl
                  clear hP hD
                  obtain ⟨hP, hD⟩ := h9R
                  refine lv_istore (lv' := [(6, .int r_52), (5, .int i_71), (4, .int v_49), (3, .int v_48), (0, .ref x0), (1, .int 0), (2, .int w)]) hx hb dX7_haste_85 hl (by decide) rfl (fun ls hl => ?_)
                  refine lv_iload hx hb dX7_haste_87 (lv_at hl 0 rfl) ?_
                  refine lv_iload hx hb dX7_haste_89 (lv_at hl 2 rfl) ?_
                  refine lv_icmp_le (tgt := 101) hx hb dX7_haste_91 (by decide) (fun c_61 => ?_) (fun c_61 => ?_)
                  · have fc_61 : r_52.toInt ≤ v_49.toInt := zf_le c_61 rfl rfl
                    obtain ⟨x_62, ex_62⟩ : ∃ y : Int32, y = i_71 + 1 := ⟨_, rfl⟩
                    have qx_62 : x_62.toInt = i_71.toInt + 1 := by rw [ex_62]; exact zf_add rfl (by decide) (by omega) (by omega)
                    refine lv_iinc (v := x_62) (lv' := [(5, .int x_62), (6, .int r_52), (4, .int v_49), (3, .int v_48), (0, .ref x0), (1, .int 0), (2, .int w)]) hx hb dX7_haste_101 hl (k := 1) rfl ex_62.symm (by decide) rfl (fun ls hl => ?_)
                    refine lv_goto (tgt := 71) hx hb dX7_haste_104 (by decide) ?_
                    exact ih x_62 v_48 v_49 (q_56) (q_55) (q_54) (q_60) (q_59) (q_58) (q_57) _ _ _ (hP.sub [0, 1, 2, 3, 4, 5, 6, 7, 8, 9] rfl) (hD.sub [0, 1, 2, 3, 4, 5, 6, 7, 8, 9] (by decide) rfl) hS (lv_sub hl [0, 2, 3, 4, 5, 6] rfl) hpq_59 hwq_60 hbq_54 hbq_55 hbq_56 (dw_lo hloi_71 qx_62) (dw_hn hni_71 qx_62)
                  · have fc_61 : v_49.toInt < r_52.toInt := zf_nle c_61 rfl rfl
                    refine lv_iload hx hb dX7_haste_94 (lv_at hl 0 rfl) ?_
                    refine lv_istore (lv' := [(4, .int r_52), (6, .int r_52), (5, .int i_71), (3, .int v_48), (0, .ref x0), (1, .int 0), (2, .int w)]) hx hb dX7_haste_96 hl (by decide) rfl (fun ls hl => ?_)
                    refine lv_iload hx hb dX7_haste_98 (lv_at hl 2 rfl) ?_
                    refine lv_istore_n (lv' := [(3, .int i_71), (4, .int r_52), (6, .int r_52), (5, .int i_71), (0, .ref x0), (1, .int 0), (2, .int w)]) hx hb dX7_haste_100 rfl hl (by decide) rfl (fun ls hl => ?_)
                    obtain ⟨x_63, ex_63⟩ : ∃ y : Int32, y = i_71 + 1 := ⟨_, rfl⟩
                    have qx_63 : x_63.toInt = i_71.toInt + 1 := by rw [ex_63]; exact zf_add rfl (by decide) (by omega) (by omega)
                    refine lv_iinc (v := x_63) (lv' := [(5, .int x_63), (3, .int i_71), (4, .int r_52), (6, .int r_52), (0, .ref x0), (1, .int 0), (2, .int w)]) hx hb dX7_haste_101 hl (k := 3) rfl ex_63.symm (by decide) rfl (fun ls hl => ?_)
                    refine lv_goto (tgt := 71) hx hb dX7_haste_104 (by decide) ?_
                    exact ih x_63 i_71 r_52 (q_56) (q_55) (q_54) (q_60) (q_59) (q_58) (q_57) _ _ _ (hP.sub [0, 1, 2, 3, 4, 5, 6, 7, 8, 9] rfl) (hD.sub [0, 1, 2, 3, 4, 5, 6, 7, 8, 9] (by decide) rfl) hS (lv_sub hl [0, 2, 1, 4, 5, 6] rfl) hpq_59 hwq_60 hbq_54 hbq_55 hbq_56 (dw_lo hloi_71 qx_63) (dw_hn hni_71 qx_63)
            · have fc_31 : w.toInt = 1 := zf_eq c_31 rfl (by decide)
              refine lv_aload_n hx hb dX7_haste_36 rfl (lv_at hl 0 rfl) ?_
              refine lv_bipush (v := 9) hx hb dX7_haste_37 (by decide) ?_
              refine lv_iload_n hx hb dX7_haste_39 rfl (lv_at hl 1 rfl) ?_
              have kc9 : (9 : Int32).toInt = 9 := by decide
              skip
              refine zw_V (As := [.int 9, .int 0]) (rest := []) (wr := [(xr, .inl (cI, 8, .inl fr))]) ⟨hx, hb, hml, hown, hts⟩ (c_X_casesBy_0 l D cI cJ cZ cP cS po x0 xs j0 k0 w0 rd mv xr (im) (lf) ((fun _ => 0)) j0 jp jc z0 0 0 (cn) (de) (tr) (se) (hu) (sd) wk wl wc wp (wn) (wh) (wg) fq fk fl fc fjc fp kf af tf (9) hy0 hy1 hy2 hy3 hy4 hy5 hy6 hy7 hy8 hy9 hy10 hy11 hy12 hy13 hy14 hy15 hwq hjp (by omega) (by omega) hp_fc hp_fjc H.size) (cwV 2 hts gX7_haste_X7_casesBy rfl rfl rfl ⟨rfl, dh_X7_casesBy⟩ ⟨Nat.le_of_ble_eq_true rfl, Nat.le_of_ble_eq_true rfl⟩) hK hN (hZ.kept hS) hP hD hS hA [0, 2, 3, 4, 5, 6, 7, 8, 9] [1] rfl rfl (by decide) (by decide) (by decide) (va_recv (q := (RX7, TX7, 9)) hK hP (ci := 7) (q0 := 0) rfl rfl) rfl hl.1 rfl (Nat.le_of_ble_eq_true rfl) dX7_haste_40 ⟨Nat.le_of_ble_eq_true rfl, Nat.le_of_ble_eq_true rfl⟩ (fun r_64 u_65 H locs hr_64 hP hD hS => ?_)
              obtain ⟨q_66, q_67, q_68, q_69, q_70, q_71, q_72⟩ := u_65
              try dsimp only at hr_64
              obtain ⟨hbq_66, hbq_67, hbq_68, hpq_71, hwq_72, hr_64⟩ := hr_64
              have h9R := zRe (ws' := [(xr, .inl (cI, 8, .inl fr)), (x0, .inr (7, [.ref xs, .ref j0, .ref k0, .ref w0, .ref rd, .ref mv, .ref xr, .int im, .int lf])), (j0, .inr (0, [.ref z0, .ref jp, .ref jc, .int cn, .int de, .int tr, .int se, .int hu, .int sd])), (w0, .inr (5, [.ref wk, .ref wl, .ref wc, .ref wp, .int q_66, .int q_67, .int q_68])), (wk, .inl (cI, 125, .inl q_69)), (wl, .inl (cI, 125, .inl q_70)), (wc, .inl (cI, 3, .inl q_71)), (wp, .inl (cP, 8, .inr (.inr (.inr (.inr q_72))))), (jp, .inl (cP, 8, .inr (.inr (.inr (.inr fp))))), (jc, .inl (cI, 3, .inl fjc))]) hP hD rfl
              clear hP hD
              obtain ⟨hP, hD⟩ := h9R
              refine lv_aload_n hx hb dX7_haste_43 rfl (lv_at hl 0 rfl) ?_
              refine lv_iconst (v := 0) hx hb dX7_haste_44 (by decide) ?_
              refine lv_iload_n hx hb dX7_haste_45 rfl (lv_at hl 1 rfl) ?_
              skip
              refine zw_V (As := [.int 0, .int 0]) (rest := [.int r_64]) (wr := [(xr, .inl (cI, 8, .inl fr))]) ⟨hx, hb, hml, hown, hts⟩ (c_X_casesBy_0 l D cI cJ cZ cP cS po x0 xs j0 k0 w0 rd mv xr (im) (lf) ((fun _ => 0)) j0 jp jc z0 0 0 (cn) (de) (tr) (se) (hu) (sd) wk wl wc wp (q_66) (q_67) (q_68) q_72 q_69 q_70 q_71 fjc fp kf af tf (0) hy0 hy1 hy2 hy3 hy4 hy5 hy6 hy7 hy8 hy9 hbq_66.1 hbq_66.2 hbq_67.1 hbq_67.2 hbq_68.1 hbq_68.2 hwq_72 hjp (by omega) (by omega) hpq_71 hp_fjc H.size) (cwV 2 hts gX7_haste_X7_casesBy rfl rfl rfl ⟨rfl, dh_X7_casesBy⟩ ⟨Nat.le_of_ble_eq_true rfl, Nat.le_of_ble_eq_true rfl⟩) hK hN (hZ.kept hS) hP hD hS hA [1, 2, 3, 4, 5, 6, 7, 8, 9] [0] rfl rfl (by decide) (by decide) (by decide) (va_recv (q := (RX7, TX7, 9)) hK hP (ci := 7) (q0 := 1) rfl rfl) rfl hl.1 rfl (Nat.le_of_ble_eq_true rfl) dX7_haste_46 ⟨Nat.le_of_ble_eq_true rfl, Nat.le_of_ble_eq_true rfl⟩ (fun r_73 u_74 H locs hr_73 hP hD hS => ?_)
              obtain ⟨q_75, q_76, q_77, q_78, q_79, q_80, q_81⟩ := u_74
              try dsimp only at hr_73
              obtain ⟨hbq_75, hbq_76, hbq_77, hpq_80, hwq_81, hr_73⟩ := hr_73
              have h9R := zRe (ws' := [(xr, .inl (cI, 8, .inl fr)), (x0, .inr (7, [.ref xs, .ref j0, .ref k0, .ref w0, .ref rd, .ref mv, .ref xr, .int im, .int lf])), (j0, .inr (0, [.ref z0, .ref jp, .ref jc, .int cn, .int de, .int tr, .int se, .int hu, .int sd])), (w0, .inr (5, [.ref wk, .ref wl, .ref wc, .ref wp, .int q_75, .int q_76, .int q_77])), (wk, .inl (cI, 125, .inl q_78)), (wl, .inl (cI, 125, .inl q_79)), (wc, .inl (cI, 3, .inl q_80)), (wp, .inl (cP, 8, .inr (.inr (.inr (.inr q_81))))), (jp, .inl (cP, 8, .inr (.inr (.inr (.inr fp))))), (jc, .inl (cI, 3, .inl fjc))]) hP hD rfl
              clear hP hD
              obtain ⟨hP, hD⟩ := h9R
              refine lv_icmp_ge (tgt := 56) hx hb dX7_haste_49 (by decide) (fun c_82 => ?_) (fun c_82 => ?_)
              · have fc_82 : r_73.toInt ≤ r_64.toInt := zf_le c_82 rfl rfl
                refine lv_iconst (v := 0) hx hb dX7_haste_56 (by decide) ?_
                exact W.iret (v := 0) hx hb hr (fun t ht hW => ⟨⟨0, (q_75, q_76, q_77, q_78, q_79, q_80, q_81, fr), rfl, ⟨(show 0 ≤ q_75.toInt ∧ q_75.toInt ≤ 8 from hbq_75), (show 0 ≤ q_76.toInt ∧ q_76.toInt ≤ 9 from hbq_76), (show 0 ≤ q_77.toInt ∧ q_77.toInt ≤ 60 from hbq_77), hpq_80, hwq_81, trivial⟩, zRet ht hP hD [1, 0, 2, 3, 4, 5, 6, 7, 8, 9] (by decide) rfl⟩, hS.F ht⟩) hS.2.2 dX7_haste_57
              · have fc_82 : r_64.toInt < r_73.toInt := zf_nle c_82 rfl rfl
                refine lv_iconst (v := 1) hx hb dX7_haste_52 (by decide) ?_
                refine lv_goto (tgt := 57) hx hb dX7_haste_53 (by decide) ?_
                exact W.iret (v := 1) hx hb hr (fun t ht hW => ⟨⟨1, (q_75, q_76, q_77, q_78, q_79, q_80, q_81, fr), rfl, ⟨(show 0 ≤ q_75.toInt ∧ q_75.toInt ≤ 8 from hbq_75), (show 0 ≤ q_76.toInt ∧ q_76.toInt ≤ 9 from hbq_76), (show 0 ≤ q_77.toInt ∧ q_77.toInt ≤ 60 from hbq_77), hpq_80, hwq_81, trivial⟩, zRet ht hP hD [1, 0, 2, 3, 4, 5, 6, 7, 8, 9] (by decide) rfl⟩, hS.F ht⟩) hS.2.2 dX7_haste_57
          · refine lv_iload_n hx hb dX7_haste_31 rfl (lv_at hl 2 rfl) ?_
            refine lv_iconst (v := 1) hx hb dX7_haste_32 (by decide) ?_
            refine lv_icmp_ne (tgt := 58) hx hb dX7_haste_33 (by decide) (fun c_83 => ?_) (fun c_83 => ?_)
            · have fc_83 : w.toInt ≠ 1 := zf_ne c_83 rfl (by decide)
              refine lv_iconst (v := 0) hx hb dX7_haste_58 (by decide) ?_
              refine lv_istore_n (lv' := [(3, .int 0), (0, .ref x0), (1, .int 1), (2, .int w)]) hx hb dX7_haste_59 rfl hl (by decide) rfl (fun ls hl => ?_)
              refine lv_aload_n hx hb dX7_haste_60 rfl (lv_at hl 1 rfl) ?_
              refine lv_iconst (v := 0) hx hb dX7_haste_61 (by decide) ?_
              refine lv_iload_n hx hb dX7_haste_62 rfl (lv_at hl 2 rfl) ?_
              skip
              refine zw_V (As := [.int 0, .int 1]) (rest := []) (wr := [(xr, .inl (cI, 8, .inl fr))]) ⟨hx, hb, hml, hown, hts⟩ (c_X_casesBy_1 l D cI cJ cZ cP cS po x0 xs j0 k0 w0 rd mv xr (im) (lf) ((fun _ => 0)) j0 jp jc z0 0 0 (cn) (de) (tr) (se) (hu) (sd) wk wl wc wp (wn) (wh) (wg) fq fk fl fc fjc fp kf af tf (0) hy0 hy1 hy2 hy3 hy4 hy5 hy6 hy7 hy8 hy9 hy10 hy11 hy12 hy13 hy14 hy15 hwq hjp (by omega) (by omega) hp_fc hp_fjc H.size) (cwV 2 hts gX7_haste_X7_casesBy rfl rfl rfl ⟨rfl, dh_X7_casesBy⟩ ⟨Nat.le_of_ble_eq_true rfl, Nat.le_of_ble_eq_true rfl⟩) hK hN (hZ.kept hS) hP hD hS hA [0, 2, 3, 4, 5, 6, 7, 8, 9] [1] rfl rfl (by decide) (by decide) (by decide) (va_recv (q := (RX7, TX7, 9)) hK hP (ci := 7) (q0 := 0) rfl rfl) rfl hl.1 rfl (Nat.le_of_ble_eq_true rfl) dX7_haste_63 ⟨Nat.le_of_ble_eq_true rfl, Nat.le_of_ble_eq_true rfl⟩ (fun r_84 u_85 H locs hr_84 hP hD hS => ?_)
              obtain ⟨q_86, q_87, q_88, q_89, q_90, q_91, q_92⟩ := u_85
              try dsimp only at hr_84
              obtain ⟨hbq_86, hbq_87, hbq_88, hpq_91, hwq_92, hr_84⟩ := hr_84
              have h9R := zRe (ws' := [(xr, .inl (cI, 8, .inl fr)), (x0, .inr (7, [.ref xs, .ref j0, .ref k0, .ref w0, .ref rd, .ref mv, .ref xr, .int im, .int lf])), (j0, .inr (0, [.ref z0, .ref jp, .ref jc, .int cn, .int de, .int tr, .int se, .int hu, .int sd])), (w0, .inr (5, [.ref wk, .ref wl, .ref wc, .ref wp, .int q_86, .int q_87, .int q_88])), (wk, .inl (cI, 125, .inl q_89)), (wl, .inl (cI, 125, .inl q_90)), (wc, .inl (cI, 3, .inl q_91)), (wp, .inl (cP, 8, .inr (.inr (.inr (.inr q_92))))), (jp, .inl (cP, 8, .inr (.inr (.inr (.inr fp))))), (jc, .inl (cI, 3, .inl fjc))]) hP hD rfl
              clear hP hD
              obtain ⟨hP, hD⟩ := h9R
              refine lv_istore (lv' := [(4, .int r_84), (3, .int 0), (0, .ref x0), (1, .int 1), (2, .int w)]) hx hb dX7_haste_66 hl (by decide) rfl (fun ls hl => ?_)
              refine lv_iconst (v := 1) hx hb dX7_haste_68 (by decide) ?_
              refine lv_istore (lv' := [(5, .int 1), (4, .int r_84), (3, .int 0), (0, .ref x0), (1, .int 1), (2, .int w)]) hx hb dX7_haste_69 hl (by decide) rfl (fun ls hl => ?_)
              obtain ⟨i_71, hi_71⟩ : ∃ i : Int32, i = 1 := ⟨_, rfl⟩
              replace hl : lv_has ls 7 [(5, .int i_71), (4, .int r_84), (3, .int 0), (0, .ref x0), (1, .int 1), (2, .int w)] := by rw [hi_71]; exact lv_sub hl [0, 1, 2, 3, 4, 5] rfl
              have h1i_71 : i_71.toInt = 1 := by rw [hi_71]; decide
              obtain ⟨nfu, hni_71⟩ : ∃ nq9 : Nat, 10 ≤ i_71.toInt + (nq9 : Int) := ⟨((10 : Int) - 1).toNat, by omega⟩
              have hloi_71 : 1 ≤ i_71.toInt := by omega
              obtain ⟨g_93, hg_93⟩ : ∃ g : Nat → Int32, g = q_89 := ⟨_, rfl⟩
              obtain ⟨g_94, hg_94⟩ : ∃ g : Nat → Int32, g = q_90 := ⟨_, rfl⟩
              obtain ⟨g_95, hg_95⟩ : ∃ g : Nat → Int32, g = q_91 := ⟨_, rfl⟩
              have hpg_95 : zRg g_95 (0) 99 := by rw [hg_95]; exact hpq_91
              obtain ⟨g_96, hg_96⟩ : ∃ g : Nat → Option Nat, g = q_92 := ⟨_, rfl⟩
              have hwg_96 : zWP po g_96 := by rw [hg_96]; exact hwq_92
              obtain ⟨v_97, hv_97⟩ : ∃ g : Int32, g = q_86 := ⟨_, rfl⟩
              have hbv_97 : 0 ≤ v_97.toInt ∧ v_97.toInt ≤ 8 := by rw [hv_97]; exact ⟨by omega, by omega⟩
              obtain ⟨v_98, hv_98⟩ : ∃ g : Int32, g = q_87 := ⟨_, rfl⟩
              have hbv_98 : 0 ≤ v_98.toInt ∧ v_98.toInt ≤ 9 := by rw [hv_98]; exact ⟨by omega, by omega⟩
              obtain ⟨v_99, hv_99⟩ : ∃ g : Int32, g = q_88 := ⟨_, rfl⟩
              have hbv_99 : 0 ≤ v_99.toInt ∧ v_99.toInt ≤ 60 := by rw [hv_99]; exact ⟨by omega, by omega⟩
              replace hP : va_P D vwCl [(xr, .inl (cI, 8, .inl fr)), (x0, .inr (7, [.ref xs, .ref j0, .ref k0, .ref w0, .ref rd, .ref mv, .ref xr, .int im, .int lf])), (j0, .inr (0, [.ref z0, .ref jp, .ref jc, .int cn, .int de, .int tr, .int se, .int hu, .int sd])), (w0, .inr (5, [.ref wk, .ref wl, .ref wc, .ref wp, .int v_97, .int v_98, .int v_99])), (wk, .inl (cI, 125, .inl g_93)), (wl, .inl (cI, 125, .inl g_94)), (wc, .inl (cI, 3, .inl g_95)), (wp, .inl (cP, 8, .inr (.inr (.inr (.inr g_96))))), (jp, .inl (cP, 8, .inr (.inr (.inr (.inr fp))))), (jc, .inl (cI, 3, .inl fjc))] H := by rw [hg_93, hg_94, hg_95, hg_96, hv_97, hv_98, hv_99]; exact hP
              replace hD : va_D (va_A [(x0, .inr (7, [.ref xs, .ref j0, .ref k0, .ref w0, .ref rd, .ref mv, .ref xr, .int im, .int lf])), (xr, .inl (cI, 8, .inl fr)), (j0, .inr (0, [.ref z0, .ref jp, .ref jc, .int cn, .int de, .int tr, .int se, .int hu, .int sd])), (w0, .inr (5, [.ref wk, .ref wl, .ref wc, .ref wp, .int wn, .int wh, .int wg])), (wk, .inl (cI, 125, .inl fk)), (wl, .inl (cI, 125, .inl fl)), (wc, .inl (cI, 3, .inl fc)), (wp, .inl (cP, 8, .inr (.inr (.inr (.inr fq))))), (jp, .inl (cP, 8, .inr (.inr (.inr (.inr fp))))), (jc, .inl (cI, 3, .inl fjc))] s.heap.size) [(xr, .inl (cI, 8, .inl fr)), (x0, .inr (7, [.ref xs, .ref j0, .ref k0, .ref w0, .ref rd, .ref mv, .ref xr, .int im, .int lf])), (j0, .inr (0, [.ref z0, .ref jp, .ref jc, .int cn, .int de, .int tr, .int se, .int hu, .int sd])), (w0, .inr (5, [.ref wk, .ref wl, .ref wc, .ref wp, .int v_97, .int v_98, .int v_99])), (wk, .inl (cI, 125, .inl g_93)), (wl, .inl (cI, 125, .inl g_94)), (wc, .inl (cI, 3, .inl g_95)), (wp, .inl (cP, 8, .inr (.inr (.inr (.inr g_96))))), (jp, .inl (cP, 8, .inr (.inr (.inr (.inr fp))))), (jc, .inl (cI, 3, .inl fjc))] := by rw [hg_93, hg_94, hg_95, hg_96, hv_97, hv_98, hv_99]; exact hD
              obtain ⟨v_100, hv_100⟩ : ∃ g : Int32, g = 0 := ⟨_, rfl⟩
              obtain ⟨v_101, hv_101⟩ : ∃ g : Int32, g = r_84 := ⟨_, rfl⟩
              replace hl : lv_has ls 7 [(5, .int i_71), (4, .int v_101), (3, .int v_100), (0, .ref x0), (1, .int 1), (2, .int w)] := by rw [hv_100, hv_101]; exact hl
              clear h1i_71 hi_71 hg_93 hg_94 hg_95 hg_96 hv_97 hv_98 hv_99 hv_100 hv_101
              skip
              revert hni_71
              revert hloi_71
              revert hbv_99
              revert hbv_98
              revert hbv_97
              revert hwg_96
              revert hpg_95
              revert hl
              revert hS
              revert hD
              revert hP
              revert ls
              revert locs
              revert H
              revert g_93
              revert g_94
              revert g_95
              revert g_96
              revert v_97
              revert v_98
              revert v_99
              revert v_101
              revert v_100
              revert i_71
              induction nfu with
              | zero =>
                intro i_71 v_100 v_101 v_99 v_98 v_97 g_96 g_95 g_94 g_93 H locs ls hP hD hS hl hpg_95 hwg_96 hbv_97 hbv_98 hbv_99 hloi_71 hni_71
                have hzi_71 : 10 ≤ i_71.toInt := by omega
                refine lv_iload hx hb dX7_haste_71 (lv_at hl 0 rfl) ?_
                refine lv_bipush (v := 9) hx hb dX7_haste_73 (by decide) ?_
                refine lv_icmp_gt (tgt := 107) hx hb dX7_haste_75 (by decide) (fun c_102 => ?_) (fun c_102 => ?_)
                · have fc_102 : 9 < i_71.toInt := zf_lt c_102 (by decide) rfl
                  refine lv_iload_n hx hb dX7_haste_107 rfl (lv_at hl 2 rfl) ?_
                  exact W.iret (v := v_100) hx hb hr (fun t ht hW => ⟨⟨v_100, (v_97, v_98, v_99, g_93, g_94, g_95, g_96, fr), rfl, ⟨(show 0 ≤ v_97.toInt ∧ v_97.toInt ≤ 8 from hbv_97), (show 0 ≤ v_98.toInt ∧ v_98.toInt ≤ 9 from hbv_98), (show 0 ≤ v_99.toInt ∧ v_99.toInt ≤ 60 from hbv_99), hpg_95, hwg_96, trivial⟩, zRet ht hP hD [1, 0, 2, 3, 4, 5, 6, 7, 8, 9] (by decide) rfl⟩, hS.F ht⟩) hS.2.2 dX7_haste_108
                · exfalso; have fc_102 : i_71.toInt ≤ 9 := zf_nlt c_102 (by decide) rfl; omega
              | succ nfu ih =>
                intro i_71 v_100 v_101 v_99 v_98 v_97 g_96 g_95 g_94 g_93 H locs ls hP hD hS hl hpg_95 hwg_96 hbv_97 hbv_98 hbv_99 hloi_71 hni_71
                refine lv_iload hx hb dX7_haste_71 (lv_at hl 0 rfl) ?_
                refine lv_bipush (v := 9) hx hb dX7_haste_73 (by decide) ?_
                refine lv_icmp_gt (tgt := 107) hx hb dX7_haste_75 (by decide) (fun c_103 => ?_) (fun c_103 => ?_)
                · have fc_103 : 9 < i_71.toInt := zf_lt c_103 (by decide) rfl
                  refine lv_iload_n hx hb dX7_haste_107 rfl (lv_at hl 2 rfl) ?_
                  exact W.iret (v := v_100) hx hb hr (fun t ht hW => ⟨⟨v_100, (v_97, v_98, v_99, g_93, g_94, g_95, g_96, fr), rfl, ⟨(show 0 ≤ v_97.toInt ∧ v_97.toInt ≤ 8 from hbv_97), (show 0 ≤ v_98.toInt ∧ v_98.toInt ≤ 9 from hbv_98), (show 0 ≤ v_99.toInt ∧ v_99.toInt ≤ 60 from hbv_99), hpg_95, hwg_96, trivial⟩, zRet ht hP hD [1, 0, 2, 3, 4, 5, 6, 7, 8, 9] (by decide) rfl⟩, hS.F ht⟩) hS.2.2 dX7_haste_108
                · have fc_103 : i_71.toInt ≤ 9 := zf_nlt c_103 (by decide) rfl
                  refine lv_aload_n hx hb dX7_haste_78 rfl (lv_at hl 3 rfl) ?_
                  refine lv_iload hx hb dX7_haste_79 (lv_at hl 0 rfl) ?_
                  refine lv_iload_n hx hb dX7_haste_81 rfl (lv_at hl 4 rfl) ?_
                  skip
                  refine zw_V (As := [.int i_71, .int 1]) (rest := []) (wr := [(xr, .inl (cI, 8, .inl fr))]) ⟨hx, hb, hml, hown, hts⟩ (c_X_casesBy_1 l D cI cJ cZ cP cS po x0 xs j0 k0 w0 rd mv xr (im) (lf) ((fun _ => 0)) j0 jp jc z0 0 0 (cn) (de) (tr) (se) (hu) (sd) wk wl wc wp (v_97) (v_98) (v_99) g_96 g_93 g_94 g_95 fjc fp kf af tf (i_71) hy0 hy1 hy2 hy3 hy4 hy5 hy6 hy7 hy8 hy9 hbv_97.1 hbv_97.2 hbv_98.1 hbv_98.2 hbv_99.1 hbv_99.2 hwg_96 hjp (by omega) (by omega) hpg_95 hp_fjc H.size) (cwV 2 hts gX7_haste_X7_casesBy rfl rfl rfl ⟨rfl, dh_X7_casesBy⟩ ⟨Nat.le_of_ble_eq_true rfl, Nat.le_of_ble_eq_true rfl⟩) hK hN (hZ.kept hS) hP hD hS hA [1, 2, 3, 4, 5, 6, 7, 8, 9] [0] rfl rfl (by decide) (by decide) (by decide) (va_recv (q := (RX7, TX7, 9)) hK hP (ci := 7) (q0 := 1) rfl rfl) rfl hl.1 rfl (Nat.le_of_ble_eq_true rfl) dX7_haste_82 ⟨Nat.le_of_ble_eq_true rfl, Nat.le_of_ble_eq_true rfl⟩ (fun r_104 u_105 H locs hr_104 hP hD hS => ?_)
                  obtain ⟨q_106, q_107, q_108, q_109, q_110, q_111, q_112⟩ := u_105
                  try dsimp only at hr_104
                  obtain ⟨hbq_106, hbq_107, hbq_108, hpq_111, hwq_112, hr_104⟩ := hr_104
                  have h9R := zRe (ws' := [(xr, .inl (cI, 8, .inl fr)), (x0, .inr (7, [.ref xs, .ref j0, .ref k0, .ref w0, .ref rd, .ref mv, .ref xr, .int im, .int lf])), (j0, .inr (0, [.ref z0, .ref jp, .ref jc, .int cn, .int de, .int tr, .int se, .int hu, .int sd])), (w0, .inr (5, [.ref wk, .ref wl, .ref wc, .ref wp, .int q_106, .int q_107, .int q_108])), (wk, .inl (cI, 125, .inl q_109)), (wl, .inl (cI, 125, .inl q_110)), (wc, .inl (cI, 3, .inl q_111)), (wp, .inl (cP, 8, .inr (.inr (.inr (.inr q_112))))), (jp, .inl (cP, 8, .inr (.inr (.inr (.inr fp))))), (jc, .inl (cI, 3, .inl fjc))]) hP hD rfl
                  clear hP hD
                  obtain ⟨hP, hD⟩ := h9R
                  refine lv_istore (lv' := [(6, .int r_104), (5, .int i_71), (4, .int v_101), (3, .int v_100), (0, .ref x0), (1, .int 1), (2, .int w)]) hx hb dX7_haste_85 hl (by decide) rfl (fun ls hl => ?_)
                  refine lv_iload hx hb dX7_haste_87 (lv_at hl 0 rfl) ?_
                  refine lv_iload hx hb dX7_haste_89 (lv_at hl 2 rfl) ?_
                  refine lv_icmp_le (tgt := 101) hx hb dX7_haste_91 (by decide) (fun c_113 => ?_) (fun c_113 => ?_)
                  · have fc_113 : r_104.toInt ≤ v_101.toInt := zf_le c_113 rfl rfl
                    obtain ⟨x_114, ex_114⟩ : ∃ y : Int32, y = i_71 + 1 := ⟨_, rfl⟩
                    have qx_114 : x_114.toInt = i_71.toInt + 1 := by rw [ex_114]; exact zf_add rfl (by decide) (by omega) (by omega)
                    refine lv_iinc (v := x_114) (lv' := [(5, .int x_114), (6, .int r_104), (4, .int v_101), (3, .int v_100), (0, .ref x0), (1, .int 1), (2, .int w)]) hx hb dX7_haste_101 hl (k := 1) rfl ex_114.symm (by decide) rfl (fun ls hl => ?_)
                    refine lv_goto (tgt := 71) hx hb dX7_haste_104 (by decide) ?_
                    exact ih x_114 v_100 v_101 (q_108) (q_107) (q_106) (q_112) (q_111) (q_110) (q_109) _ _ _ (hP.sub [0, 1, 2, 3, 4, 5, 6, 7, 8, 9] rfl) (hD.sub [0, 1, 2, 3, 4, 5, 6, 7, 8, 9] (by decide) rfl) hS (lv_sub hl [0, 2, 3, 4, 5, 6] rfl) hpq_111 hwq_112 hbq_106 hbq_107 hbq_108 (dw_lo hloi_71 qx_114) (dw_hn hni_71 qx_114)
                  · have fc_113 : v_101.toInt < r_104.toInt := zf_nle c_113 rfl rfl
                    refine lv_iload hx hb dX7_haste_94 (lv_at hl 0 rfl) ?_
                    refine lv_istore (lv' := [(4, .int r_104), (6, .int r_104), (5, .int i_71), (3, .int v_100), (0, .ref x0), (1, .int 1), (2, .int w)]) hx hb dX7_haste_96 hl (by decide) rfl (fun ls hl => ?_)
                    refine lv_iload hx hb dX7_haste_98 (lv_at hl 2 rfl) ?_
                    refine lv_istore_n (lv' := [(3, .int i_71), (4, .int r_104), (6, .int r_104), (5, .int i_71), (0, .ref x0), (1, .int 1), (2, .int w)]) hx hb dX7_haste_100 rfl hl (by decide) rfl (fun ls hl => ?_)
                    obtain ⟨x_115, ex_115⟩ : ∃ y : Int32, y = i_71 + 1 := ⟨_, rfl⟩
                    have qx_115 : x_115.toInt = i_71.toInt + 1 := by rw [ex_115]; exact zf_add rfl (by decide) (by omega) (by omega)
                    refine lv_iinc (v := x_115) (lv' := [(5, .int x_115), (3, .int i_71), (4, .int r_104), (6, .int r_104), (0, .ref x0), (1, .int 1), (2, .int w)]) hx hb dX7_haste_101 hl (k := 3) rfl ex_115.symm (by decide) rfl (fun ls hl => ?_)
                    refine lv_goto (tgt := 71) hx hb dX7_haste_104 (by decide) ?_
                    exact ih x_115 i_71 r_104 (q_108) (q_107) (q_106) (q_112) (q_111) (q_110) (q_109) _ _ _ (hP.sub [0, 1, 2, 3, 4, 5, 6, 7, 8, 9] rfl) (hD.sub [0, 1, 2, 3, 4, 5, 6, 7, 8, 9] (by decide) rfl) hS (lv_sub hl [0, 2, 1, 4, 5, 6] rfl) hpq_111 hwq_112 hbq_106 hbq_107 hbq_108 (dw_lo hloi_71 qx_115) (dw_hn hni_71 qx_115)
            · have fc_83 : w.toInt = 1 := zf_eq c_83 rfl (by decide)
              refine lv_aload_n hx hb dX7_haste_36 rfl (lv_at hl 0 rfl) ?_
              refine lv_bipush (v := 9) hx hb dX7_haste_37 (by decide) ?_
              refine lv_iload_n hx hb dX7_haste_39 rfl (lv_at hl 1 rfl) ?_
              have kc9 : (9 : Int32).toInt = 9 := by decide
              skip
              refine zw_V (As := [.int 9, .int 1]) (rest := []) (wr := [(xr, .inl (cI, 8, .inl fr))]) ⟨hx, hb, hml, hown, hts⟩ (c_X_casesBy_1 l D cI cJ cZ cP cS po x0 xs j0 k0 w0 rd mv xr (im) (lf) ((fun _ => 0)) j0 jp jc z0 0 0 (cn) (de) (tr) (se) (hu) (sd) wk wl wc wp (wn) (wh) (wg) fq fk fl fc fjc fp kf af tf (9) hy0 hy1 hy2 hy3 hy4 hy5 hy6 hy7 hy8 hy9 hy10 hy11 hy12 hy13 hy14 hy15 hwq hjp (by omega) (by omega) hp_fc hp_fjc H.size) (cwV 2 hts gX7_haste_X7_casesBy rfl rfl rfl ⟨rfl, dh_X7_casesBy⟩ ⟨Nat.le_of_ble_eq_true rfl, Nat.le_of_ble_eq_true rfl⟩) hK hN (hZ.kept hS) hP hD hS hA [0, 2, 3, 4, 5, 6, 7, 8, 9] [1] rfl rfl (by decide) (by decide) (by decide) (va_recv (q := (RX7, TX7, 9)) hK hP (ci := 7) (q0 := 0) rfl rfl) rfl hl.1 rfl (Nat.le_of_ble_eq_true rfl) dX7_haste_40 ⟨Nat.le_of_ble_eq_true rfl, Nat.le_of_ble_eq_true rfl⟩ (fun r_116 u_117 H locs hr_116 hP hD hS => ?_)
              obtain ⟨q_118, q_119, q_120, q_121, q_122, q_123, q_124⟩ := u_117
              try dsimp only at hr_116
              obtain ⟨hbq_118, hbq_119, hbq_120, hpq_123, hwq_124, hr_116⟩ := hr_116
              have h9R := zRe (ws' := [(xr, .inl (cI, 8, .inl fr)), (x0, .inr (7, [.ref xs, .ref j0, .ref k0, .ref w0, .ref rd, .ref mv, .ref xr, .int im, .int lf])), (j0, .inr (0, [.ref z0, .ref jp, .ref jc, .int cn, .int de, .int tr, .int se, .int hu, .int sd])), (w0, .inr (5, [.ref wk, .ref wl, .ref wc, .ref wp, .int q_118, .int q_119, .int q_120])), (wk, .inl (cI, 125, .inl q_121)), (wl, .inl (cI, 125, .inl q_122)), (wc, .inl (cI, 3, .inl q_123)), (wp, .inl (cP, 8, .inr (.inr (.inr (.inr q_124))))), (jp, .inl (cP, 8, .inr (.inr (.inr (.inr fp))))), (jc, .inl (cI, 3, .inl fjc))]) hP hD rfl
              clear hP hD
              obtain ⟨hP, hD⟩ := h9R
              refine lv_aload_n hx hb dX7_haste_43 rfl (lv_at hl 0 rfl) ?_
              refine lv_iconst (v := 0) hx hb dX7_haste_44 (by decide) ?_
              refine lv_iload_n hx hb dX7_haste_45 rfl (lv_at hl 1 rfl) ?_
              skip
              refine zw_V (As := [.int 0, .int 1]) (rest := [.int r_116]) (wr := [(xr, .inl (cI, 8, .inl fr))]) ⟨hx, hb, hml, hown, hts⟩ (c_X_casesBy_1 l D cI cJ cZ cP cS po x0 xs j0 k0 w0 rd mv xr (im) (lf) ((fun _ => 0)) j0 jp jc z0 0 0 (cn) (de) (tr) (se) (hu) (sd) wk wl wc wp (q_118) (q_119) (q_120) q_124 q_121 q_122 q_123 fjc fp kf af tf (0) hy0 hy1 hy2 hy3 hy4 hy5 hy6 hy7 hy8 hy9 hbq_118.1 hbq_118.2 hbq_119.1 hbq_119.2 hbq_120.1 hbq_120.2 hwq_124 hjp (by omega) (by omega) hpq_123 hp_fjc H.size) (cwV 2 hts gX7_haste_X7_casesBy rfl rfl rfl ⟨rfl, dh_X7_casesBy⟩ ⟨Nat.le_of_ble_eq_true rfl, Nat.le_of_ble_eq_true rfl⟩) hK hN (hZ.kept hS) hP hD hS hA [1, 2, 3, 4, 5, 6, 7, 8, 9] [0] rfl rfl (by decide) (by decide) (by decide) (va_recv (q := (RX7, TX7, 9)) hK hP (ci := 7) (q0 := 1) rfl rfl) rfl hl.1 rfl (Nat.le_of_ble_eq_true rfl) dX7_haste_46 ⟨Nat.le_of_ble_eq_true rfl, Nat.le_of_ble_eq_true rfl⟩ (fun r_125 u_126 H locs hr_125 hP hD hS => ?_)
              obtain ⟨q_127, q_128, q_129, q_130, q_131, q_132, q_133⟩ := u_126
              try dsimp only at hr_125
              obtain ⟨hbq_127, hbq_128, hbq_129, hpq_132, hwq_133, hr_125⟩ := hr_125
              have h9R := zRe (ws' := [(xr, .inl (cI, 8, .inl fr)), (x0, .inr (7, [.ref xs, .ref j0, .ref k0, .ref w0, .ref rd, .ref mv, .ref xr, .int im, .int lf])), (j0, .inr (0, [.ref z0, .ref jp, .ref jc, .int cn, .int de, .int tr, .int se, .int hu, .int sd])), (w0, .inr (5, [.ref wk, .ref wl, .ref wc, .ref wp, .int q_127, .int q_128, .int q_129])), (wk, .inl (cI, 125, .inl q_130)), (wl, .inl (cI, 125, .inl q_131)), (wc, .inl (cI, 3, .inl q_132)), (wp, .inl (cP, 8, .inr (.inr (.inr (.inr q_133))))), (jp, .inl (cP, 8, .inr (.inr (.inr (.inr fp))))), (jc, .inl (cI, 3, .inl fjc))]) hP hD rfl
              clear hP hD
              obtain ⟨hP, hD⟩ := h9R
              refine lv_icmp_ge (tgt := 56) hx hb dX7_haste_49 (by decide) (fun c_134 => ?_) (fun c_134 => ?_)
              · have fc_134 : r_125.toInt ≤ r_116.toInt := zf_le c_134 rfl rfl
                refine lv_iconst (v := 0) hx hb dX7_haste_56 (by decide) ?_
                exact W.iret (v := 0) hx hb hr (fun t ht hW => ⟨⟨0, (q_127, q_128, q_129, q_130, q_131, q_132, q_133, fr), rfl, ⟨(show 0 ≤ q_127.toInt ∧ q_127.toInt ≤ 8 from hbq_127), (show 0 ≤ q_128.toInt ∧ q_128.toInt ≤ 9 from hbq_128), (show 0 ≤ q_129.toInt ∧ q_129.toInt ≤ 60 from hbq_129), hpq_132, hwq_133, trivial⟩, zRet ht hP hD [1, 0, 2, 3, 4, 5, 6, 7, 8, 9] (by decide) rfl⟩, hS.F ht⟩) hS.2.2 dX7_haste_57
              · have fc_134 : r_116.toInt < r_125.toInt := zf_nle c_134 rfl rfl
                refine lv_iconst (v := 1) hx hb dX7_haste_52 (by decide) ?_
                refine lv_goto (tgt := 57) hx hb dX7_haste_53 (by decide) ?_
                exact W.iret (v := 1) hx hb hr (fun t ht hW => ⟨⟨1, (q_127, q_128, q_129, q_130, q_131, q_132, q_133, fr), rfl, ⟨(show 0 ≤ q_127.toInt ∧ q_127.toInt ≤ 8 from hbq_127), (show 0 ≤ q_128.toInt ∧ q_128.toInt ≤ 9 from hbq_128), (show 0 ≤ q_129.toInt ∧ q_129.toInt ≤ 60 from hbq_129), hpq_132, hwq_133, trivial⟩, zRet ht hP hD [1, 0, 2, 3, 4, 5, 6, 7, 8, 9] (by decide) rfl⟩, hS.F ht⟩) hS.2.2 dX7_haste_57
          · refine lv_iload_n hx hb dX7_haste_31 rfl (lv_at hl 2 rfl) ?_
            refine lv_iconst (v := 1) hx hb dX7_haste_32 (by decide) ?_
            refine lv_icmp_ne (tgt := 58) hx hb dX7_haste_33 (by decide) (fun c_135 => ?_) (fun c_135 => ?_)
            · have fc_135 : w.toInt ≠ 1 := zf_ne c_135 rfl (by decide)
              refine lv_iconst (v := 0) hx hb dX7_haste_58 (by decide) ?_
              refine lv_istore_n (lv' := [(3, .int 0), (0, .ref x0), (1, .int 2), (2, .int w)]) hx hb dX7_haste_59 rfl hl (by decide) rfl (fun ls hl => ?_)
              refine lv_aload_n hx hb dX7_haste_60 rfl (lv_at hl 1 rfl) ?_
              refine lv_iconst (v := 0) hx hb dX7_haste_61 (by decide) ?_
              refine lv_iload_n hx hb dX7_haste_62 rfl (lv_at hl 2 rfl) ?_
              skip
              refine zw_V (As := [.int 0, .int 2]) (rest := []) (wr := [(xr, .inl (cI, 8, .inl fr))]) ⟨hx, hb, hml, hown, hts⟩ (c_X_casesBy_2 l D cI cJ cZ cP cS po x0 xs j0 k0 w0 rd mv xr (im) (lf) ((fun _ => 0)) j0 jp jc z0 0 0 (cn) (de) (tr) (se) (hu) (sd) wk wl wc wp (wn) (wh) (wg) fq fk fl fc fjc fp kf af tf (0) hy0 hy1 hy2 hy3 hy4 hy5 hy6 hy7 hy8 hy9 hy10 hy11 hy12 hy13 hy14 hy15 hwq hjp (by omega) (by omega) hp_fc hp_fjc H.size) (cwV 2 hts gX7_haste_X7_casesBy rfl rfl rfl ⟨rfl, dh_X7_casesBy⟩ ⟨Nat.le_of_ble_eq_true rfl, Nat.le_of_ble_eq_true rfl⟩) hK hN (hZ.kept hS) hP hD hS hA [0, 2, 3, 4, 5, 6, 7, 8, 9] [1] rfl rfl (by decide) (by decide) (by decide) (va_recv (q := (RX7, TX7, 9)) hK hP (ci := 7) (q0 := 0) rfl rfl) rfl hl.1 rfl (Nat.le_of_ble_eq_true rfl) dX7_haste_63 ⟨Nat.le_of_ble_eq_true rfl, Nat.le_of_ble_eq_true rfl⟩ (fun r_136 u_137 H locs hr_136 hP hD hS => ?_)
              obtain ⟨q_138, q_139, q_140, q_141, q_142, q_143, q_144⟩ := u_137
              try dsimp only at hr_136
              obtain ⟨hbq_138, hbq_139, hbq_140, hpq_143, hwq_144, hr_136⟩ := hr_136
              have h9R := zRe (ws' := [(xr, .inl (cI, 8, .inl fr)), (x0, .inr (7, [.ref xs, .ref j0, .ref k0, .ref w0, .ref rd, .ref mv, .ref xr, .int im, .int lf])), (j0, .inr (0, [.ref z0, .ref jp, .ref jc, .int cn, .int de, .int tr, .int se, .int hu, .int sd])), (w0, .inr (5, [.ref wk, .ref wl, .ref wc, .ref wp, .int q_138, .int q_139, .int q_140])), (wk, .inl (cI, 125, .inl q_141)), (wl, .inl (cI, 125, .inl q_142)), (wc, .inl (cI, 3, .inl q_143)), (wp, .inl (cP, 8, .inr (.inr (.inr (.inr q_144))))), (jp, .inl (cP, 8, .inr (.inr (.inr (.inr fp))))), (jc, .inl (cI, 3, .inl fjc))]) hP hD rfl
              clear hP hD
              obtain ⟨hP, hD⟩ := h9R
              refine lv_istore (lv' := [(4, .int r_136), (3, .int 0), (0, .ref x0), (1, .int 2), (2, .int w)]) hx hb dX7_haste_66 hl (by decide) rfl (fun ls hl => ?_)
              refine lv_iconst (v := 1) hx hb dX7_haste_68 (by decide) ?_
              refine lv_istore (lv' := [(5, .int 1), (4, .int r_136), (3, .int 0), (0, .ref x0), (1, .int 2), (2, .int w)]) hx hb dX7_haste_69 hl (by decide) rfl (fun ls hl => ?_)
              obtain ⟨i_71, hi_71⟩ : ∃ i : Int32, i = 1 := ⟨_, rfl⟩
              replace hl : lv_has ls 7 [(5, .int i_71), (4, .int r_136), (3, .int 0), (0, .ref x0), (1, .int 2), (2, .int w)] := by rw [hi_71]; exact lv_sub hl [0, 1, 2, 3, 4, 5] rfl
              have h1i_71 : i_71.toInt = 1 := by rw [hi_71]; decide
              obtain ⟨nfu, hni_71⟩ : ∃ nq9 : Nat, 10 ≤ i_71.toInt + (nq9 : Int) := ⟨((10 : Int) - 1).toNat, by omega⟩
              have hloi_71 : 1 ≤ i_71.toInt := by omega
              obtain ⟨g_145, hg_145⟩ : ∃ g : Nat → Int32, g = q_141 := ⟨_, rfl⟩
              obtain ⟨g_146, hg_146⟩ : ∃ g : Nat → Int32, g = q_142 := ⟨_, rfl⟩
              obtain ⟨g_147, hg_147⟩ : ∃ g : Nat → Int32, g = q_143 := ⟨_, rfl⟩
              have hpg_147 : zRg g_147 (0) 99 := by rw [hg_147]; exact hpq_143
              obtain ⟨g_148, hg_148⟩ : ∃ g : Nat → Option Nat, g = q_144 := ⟨_, rfl⟩
              have hwg_148 : zWP po g_148 := by rw [hg_148]; exact hwq_144
              obtain ⟨v_149, hv_149⟩ : ∃ g : Int32, g = q_138 := ⟨_, rfl⟩
              have hbv_149 : 0 ≤ v_149.toInt ∧ v_149.toInt ≤ 8 := by rw [hv_149]; exact ⟨by omega, by omega⟩
              obtain ⟨v_150, hv_150⟩ : ∃ g : Int32, g = q_139 := ⟨_, rfl⟩
              have hbv_150 : 0 ≤ v_150.toInt ∧ v_150.toInt ≤ 9 := by rw [hv_150]; exact ⟨by omega, by omega⟩
              obtain ⟨v_151, hv_151⟩ : ∃ g : Int32, g = q_140 := ⟨_, rfl⟩
              have hbv_151 : 0 ≤ v_151.toInt ∧ v_151.toInt ≤ 60 := by rw [hv_151]; exact ⟨by omega, by omega⟩
              replace hP : va_P D vwCl [(xr, .inl (cI, 8, .inl fr)), (x0, .inr (7, [.ref xs, .ref j0, .ref k0, .ref w0, .ref rd, .ref mv, .ref xr, .int im, .int lf])), (j0, .inr (0, [.ref z0, .ref jp, .ref jc, .int cn, .int de, .int tr, .int se, .int hu, .int sd])), (w0, .inr (5, [.ref wk, .ref wl, .ref wc, .ref wp, .int v_149, .int v_150, .int v_151])), (wk, .inl (cI, 125, .inl g_145)), (wl, .inl (cI, 125, .inl g_146)), (wc, .inl (cI, 3, .inl g_147)), (wp, .inl (cP, 8, .inr (.inr (.inr (.inr g_148))))), (jp, .inl (cP, 8, .inr (.inr (.inr (.inr fp))))), (jc, .inl (cI, 3, .inl fjc))] H := by rw [hg_145, hg_146, hg_147, hg_148, hv_149, hv_150, hv_151]; exact hP
              replace hD : va_D (va_A [(x0, .inr (7, [.ref xs, .ref j0, .ref k0, .ref w0, .ref rd, .ref mv, .ref xr, .int im, .int lf])), (xr, .inl (cI, 8, .inl fr)), (j0, .inr (0, [.ref z0, .ref jp, .ref jc, .int cn, .int de, .int tr, .int se, .int hu, .int sd])), (w0, .inr (5, [.ref wk, .ref wl, .ref wc, .ref wp, .int wn, .int wh, .int wg])), (wk, .inl (cI, 125, .inl fk)), (wl, .inl (cI, 125, .inl fl)), (wc, .inl (cI, 3, .inl fc)), (wp, .inl (cP, 8, .inr (.inr (.inr (.inr fq))))), (jp, .inl (cP, 8, .inr (.inr (.inr (.inr fp))))), (jc, .inl (cI, 3, .inl fjc))] s.heap.size) [(xr, .inl (cI, 8, .inl fr)), (x0, .inr (7, [.ref xs, .ref j0, .ref k0, .ref w0, .ref rd, .ref mv, .ref xr, .int im, .int lf])), (j0, .inr (0, [.ref z0, .ref jp, .ref jc, .int cn, .int de, .int tr, .int se, .int hu, .int sd])), (w0, .inr (5, [.ref wk, .ref wl, .ref wc, .ref wp, .int v_149, .int v_150, .int v_151])), (wk, .inl (cI, 125, .inl g_145)), (wl, .inl (cI, 125, .inl g_146)), (wc, .inl (cI, 3, .inl g_147)), (wp, .inl (cP, 8, .inr (.inr (.inr (.inr g_148))))), (jp, .inl (cP, 8, .inr (.inr (.inr (.inr fp))))), (jc, .inl (cI, 3, .inl fjc))] := by rw [hg_145, hg_146, hg_147, hg_148, hv_149, hv_150, hv_151]; exact hD
              obtain ⟨v_152, hv_152⟩ : ∃ g : Int32, g = 0 := ⟨_, rfl⟩
              obtain ⟨v_153, hv_153⟩ : ∃ g : Int32, g = r_136 := ⟨_, rfl⟩
              replace hl : lv_has ls 7 [(5, .int i_71), (4, .int v_153), (3, .int v_152), (0, .ref x0), (1, .int 2), (2, .int w)] := by rw [hv_152, hv_153]; exact hl
              clear h1i_71 hi_71 hg_145 hg_146 hg_147 hg_148 hv_149 hv_150 hv_151 hv_152 hv_153
              skip
              revert hni_71
              revert hloi_71
              revert hbv_151
              revert hbv_150
              revert hbv_149
              revert hwg_148
              revert hpg_147
              revert hl
              revert hS
              revert hD
              revert hP
              revert ls
              revert locs
              revert H
              revert g_145
              revert g_146
              revert g_147
              revert g_148
              revert v_149
              revert v_150
              revert v_151
              revert v_153
              revert v_152
              revert i_71
              induction nfu with
              | zero =>
                intro i_71 v_152 v_153 v_151 v_150 v_149 g_148 g_147 g_146 g_145 H locs ls hP hD hS hl hpg_147 hwg_148 hbv_149 hbv_150 hbv_151 hloi_71 hni_71
                have hzi_71 : 10 ≤ i_71.toInt := by omega
                refine lv_iload hx hb dX7_haste_71 (lv_at hl 0 rfl) ?_
                refine lv_bipush (v := 9) hx hb dX7_haste_73 (by decide) ?_
                refine lv_icmp_gt (tgt := 107) hx hb dX7_haste_75 (by decide) (fun c_154 => ?_) (fun c_154 => ?_)
                · have fc_154 : 9 < i_71.toInt := zf_lt c_154 (by decide) rfl
                  refine lv_iload_n hx hb dX7_haste_107 rfl (lv_at hl 2 rfl) ?_
                  exact W.iret (v := v_152) hx hb hr (fun t ht hW => ⟨⟨v_152, (v_149, v_150, v_151, g_145, g_146, g_147, g_148, fr), rfl, ⟨(show 0 ≤ v_149.toInt ∧ v_149.toInt ≤ 8 from hbv_149), (show 0 ≤ v_150.toInt ∧ v_150.toInt ≤ 9 from hbv_150), (show 0 ≤ v_151.toInt ∧ v_151.toInt ≤ 60 from hbv_151), hpg_147, hwg_148, trivial⟩, zRet ht hP hD [1, 0, 2, 3, 4, 5, 6, 7, 8, 9] (by decide) rfl⟩, hS.F ht⟩) hS.2.2 dX7_haste_108
                · exfalso; have fc_154 : i_71.toInt ≤ 9 := zf_nlt c_154 (by decide) rfl; omega
              | succ nfu ih =>
                intro i_71 v_152 v_153 v_151 v_150 v_149 g_148 g_147 g_146 g_145 H locs ls hP hD hS hl hpg_147 hwg_148 hbv_149 hbv_150 hbv_151 hloi_71 hni_71
                refine lv_iload hx hb dX7_haste_71 (lv_at hl 0 rfl) ?_
                refine lv_bipush (v := 9) hx hb dX7_haste_73 (by decide) ?_
                refine lv_icmp_gt (tgt := 107) hx hb dX7_haste_75 (by decide) (fun c_155 => ?_) (fun c_155 => ?_)
                · have fc_155 : 9 < i_71.toInt := zf_lt c_155 (by decide) rfl
                  refine lv_iload_n hx hb dX7_haste_107 rfl (lv_at hl 2 rfl) ?_
                  exact W.iret (v := v_152) hx hb hr (fun t ht hW => ⟨⟨v_152, (v_149, v_150, v_151, g_145, g_146, g_147, g_148, fr), rfl, ⟨(show 0 ≤ v_149.toInt ∧ v_149.toInt ≤ 8 from hbv_149), (show 0 ≤ v_150.toInt ∧ v_150.toInt ≤ 9 from hbv_150), (show 0 ≤ v_151.toInt ∧ v_151.toInt ≤ 60 from hbv_151), hpg_147, hwg_148, trivial⟩, zRet ht hP hD [1, 0, 2, 3, 4, 5, 6, 7, 8, 9] (by decide) rfl⟩, hS.F ht⟩) hS.2.2 dX7_haste_108
                · have fc_155 : i_71.toInt ≤ 9 := zf_nlt c_155 (by decide) rfl
                  refine lv_aload_n hx hb dX7_haste_78 rfl (lv_at hl 3 rfl) ?_
                  refine lv_iload hx hb dX7_haste_79 (lv_at hl 0 rfl) ?_
                  refine lv_iload_n hx hb dX7_haste_81 rfl (lv_at hl 4 rfl) ?_
                  skip
                  refine zw_V (As := [.int i_71, .int 2]) (rest := []) (wr := [(xr, .inl (cI, 8, .inl fr))]) ⟨hx, hb, hml, hown, hts⟩ (c_X_casesBy_2 l D cI cJ cZ cP cS po x0 xs j0 k0 w0 rd mv xr (im) (lf) ((fun _ => 0)) j0 jp jc z0 0 0 (cn) (de) (tr) (se) (hu) (sd) wk wl wc wp (v_149) (v_150) (v_151) g_148 g_145 g_146 g_147 fjc fp kf af tf (i_71) hy0 hy1 hy2 hy3 hy4 hy5 hy6 hy7 hy8 hy9 hbv_149.1 hbv_149.2 hbv_150.1 hbv_150.2 hbv_151.1 hbv_151.2 hwg_148 hjp (by omega) (by omega) hpg_147 hp_fjc H.size) (cwV 2 hts gX7_haste_X7_casesBy rfl rfl rfl ⟨rfl, dh_X7_casesBy⟩ ⟨Nat.le_of_ble_eq_true rfl, Nat.le_of_ble_eq_true rfl⟩) hK hN (hZ.kept hS) hP hD hS hA [1, 2, 3, 4, 5, 6, 7, 8, 9] [0] rfl rfl (by decide) (by decide) (by decide) (va_recv (q := (RX7, TX7, 9)) hK hP (ci := 7) (q0 := 1) rfl rfl) rfl hl.1 rfl (Nat.le_of_ble_eq_true rfl) dX7_haste_82 ⟨Nat.le_of_ble_eq_true rfl, Nat.le_of_ble_eq_true rfl⟩ (fun r_156 u_157 H locs hr_156 hP hD hS => ?_)
                  obtain ⟨q_158, q_159, q_160, q_161, q_162, q_163, q_164⟩ := u_157
                  try dsimp only at hr_156
                  obtain ⟨hbq_158, hbq_159, hbq_160, hpq_163, hwq_164, hr_156⟩ := hr_156
                  have h9R := zRe (ws' := [(xr, .inl (cI, 8, .inl fr)), (x0, .inr (7, [.ref xs, .ref j0, .ref k0, .ref w0, .ref rd, .ref mv, .ref xr, .int im, .int lf])), (j0, .inr (0, [.ref z0, .ref jp, .ref jc, .int cn, .int de, .int tr, .int se, .int hu, .int sd])), (w0, .inr (5, [.ref wk, .ref wl, .ref wc, .ref wp, .int q_158, .int q_159, .int q_160])), (wk, .inl (cI, 125, .inl q_161)), (wl, .inl (cI, 125, .inl q_162)), (wc, .inl (cI, 3, .inl q_163)), (wp, .inl (cP, 8, .inr (.inr (.inr (.inr q_164))))), (jp, .inl (cP, 8, .inr (.inr (.inr (.inr fp))))), (jc, .inl (cI, 3, .inl fjc))]) hP hD rfl
                  clear hP hD
                  obtain ⟨hP, hD⟩ := h9R
                  refine lv_istore (lv' := [(6, .int r_156), (5, .int i_71), (4, .int v_153), (3, .int v_152), (0, .ref x0), (1, .int 2), (2, .int w)]) hx hb dX7_haste_85 hl (by decide) rfl (fun ls hl => ?_)
                  refine lv_iload hx hb dX7_haste_87 (lv_at hl 0 rfl) ?_
                  refine lv_iload hx hb dX7_haste_89 (lv_at hl 2 rfl) ?_
                  refine lv_icmp_le (tgt := 101) hx hb dX7_haste_91 (by decide) (fun c_165 => ?_) (fun c_165 => ?_)
                  · have fc_165 : r_156.toInt ≤ v_153.toInt := zf_le c_165 rfl rfl
                    obtain ⟨x_166, ex_166⟩ : ∃ y : Int32, y = i_71 + 1 := ⟨_, rfl⟩
                    have qx_166 : x_166.toInt = i_71.toInt + 1 := by rw [ex_166]; exact zf_add rfl (by decide) (by omega) (by omega)
                    refine lv_iinc (v := x_166) (lv' := [(5, .int x_166), (6, .int r_156), (4, .int v_153), (3, .int v_152), (0, .ref x0), (1, .int 2), (2, .int w)]) hx hb dX7_haste_101 hl (k := 1) rfl ex_166.symm (by decide) rfl (fun ls hl => ?_)
                    refine lv_goto (tgt := 71) hx hb dX7_haste_104 (by decide) ?_
                    exact ih x_166 v_152 v_153 (q_160) (q_159) (q_158) (q_164) (q_163) (q_162) (q_161) _ _ _ (hP.sub [0, 1, 2, 3, 4, 5, 6, 7, 8, 9] rfl) (hD.sub [0, 1, 2, 3, 4, 5, 6, 7, 8, 9] (by decide) rfl) hS (lv_sub hl [0, 2, 3, 4, 5, 6] rfl) hpq_163 hwq_164 hbq_158 hbq_159 hbq_160 (dw_lo hloi_71 qx_166) (dw_hn hni_71 qx_166)
                  · have fc_165 : v_153.toInt < r_156.toInt := zf_nle c_165 rfl rfl
                    refine lv_iload hx hb dX7_haste_94 (lv_at hl 0 rfl) ?_
                    refine lv_istore (lv' := [(4, .int r_156), (6, .int r_156), (5, .int i_71), (3, .int v_152), (0, .ref x0), (1, .int 2), (2, .int w)]) hx hb dX7_haste_96 hl (by decide) rfl (fun ls hl => ?_)
                    refine lv_iload hx hb dX7_haste_98 (lv_at hl 2 rfl) ?_
                    refine lv_istore_n (lv' := [(3, .int i_71), (4, .int r_156), (6, .int r_156), (5, .int i_71), (0, .ref x0), (1, .int 2), (2, .int w)]) hx hb dX7_haste_100 rfl hl (by decide) rfl (fun ls hl => ?_)
                    obtain ⟨x_167, ex_167⟩ : ∃ y : Int32, y = i_71 + 1 := ⟨_, rfl⟩
                    have qx_167 : x_167.toInt = i_71.toInt + 1 := by rw [ex_167]; exact zf_add rfl (by decide) (by omega) (by omega)
                    refine lv_iinc (v := x_167) (lv' := [(5, .int x_167), (3, .int i_71), (4, .int r_156), (6, .int r_156), (0, .ref x0), (1, .int 2), (2, .int w)]) hx hb dX7_haste_101 hl (k := 3) rfl ex_167.symm (by decide) rfl (fun ls hl => ?_)
                    refine lv_goto (tgt := 71) hx hb dX7_haste_104 (by decide) ?_
                    exact ih x_167 i_71 r_156 (q_160) (q_159) (q_158) (q_164) (q_163) (q_162) (q_161) _ _ _ (hP.sub [0, 1, 2, 3, 4, 5, 6, 7, 8, 9] rfl) (hD.sub [0, 1, 2, 3, 4, 5, 6, 7, 8, 9] (by decide) rfl) hS (lv_sub hl [0, 2, 1, 4, 5, 6] rfl) hpq_163 hwq_164 hbq_158 hbq_159 hbq_160 (dw_lo hloi_71 qx_167) (dw_hn hni_71 qx_167)
            · have fc_135 : w.toInt = 1 := zf_eq c_135 rfl (by decide)
              refine lv_aload_n hx hb dX7_haste_36 rfl (lv_at hl 0 rfl) ?_
              refine lv_bipush (v := 9) hx hb dX7_haste_37 (by decide) ?_
              refine lv_iload_n hx hb dX7_haste_39 rfl (lv_at hl 1 rfl) ?_
              have kc9 : (9 : Int32).toInt = 9 := by decide
              skip
              refine zw_V (As := [.int 9, .int 2]) (rest := []) (wr := [(xr, .inl (cI, 8, .inl fr))]) ⟨hx, hb, hml, hown, hts⟩ (c_X_casesBy_2 l D cI cJ cZ cP cS po x0 xs j0 k0 w0 rd mv xr (im) (lf) ((fun _ => 0)) j0 jp jc z0 0 0 (cn) (de) (tr) (se) (hu) (sd) wk wl wc wp (wn) (wh) (wg) fq fk fl fc fjc fp kf af tf (9) hy0 hy1 hy2 hy3 hy4 hy5 hy6 hy7 hy8 hy9 hy10 hy11 hy12 hy13 hy14 hy15 hwq hjp (by omega) (by omega) hp_fc hp_fjc H.size) (cwV 2 hts gX7_haste_X7_casesBy rfl rfl rfl ⟨rfl, dh_X7_casesBy⟩ ⟨Nat.le_of_ble_eq_true rfl, Nat.le_of_ble_eq_true rfl⟩) hK hN (hZ.kept hS) hP hD hS hA [0, 2, 3, 4, 5, 6, 7, 8, 9] [1] rfl rfl (by decide) (by decide) (by decide) (va_recv (q := (RX7, TX7, 9)) hK hP (ci := 7) (q0 := 0) rfl rfl) rfl hl.1 rfl (Nat.le_of_ble_eq_true rfl) dX7_haste_40 ⟨Nat.le_of_ble_eq_true rfl, Nat.le_of_ble_eq_true rfl⟩ (fun r_168 u_169 H locs hr_168 hP hD hS => ?_)
              obtain ⟨q_170, q_171, q_172, q_173, q_174, q_175, q_176⟩ := u_169
              try dsimp only at hr_168
              obtain ⟨hbq_170, hbq_171, hbq_172, hpq_175, hwq_176, hr_168⟩ := hr_168
              have h9R := zRe (ws' := [(xr, .inl (cI, 8, .inl fr)), (x0, .inr (7, [.ref xs, .ref j0, .ref k0, .ref w0, .ref rd, .ref mv, .ref xr, .int im, .int lf])), (j0, .inr (0, [.ref z0, .ref jp, .ref jc, .int cn, .int de, .int tr, .int se, .int hu, .int sd])), (w0, .inr (5, [.ref wk, .ref wl, .ref wc, .ref wp, .int q_170, .int q_171, .int q_172])), (wk, .inl (cI, 125, .inl q_173)), (wl, .inl (cI, 125, .inl q_174)), (wc, .inl (cI, 3, .inl q_175)), (wp, .inl (cP, 8, .inr (.inr (.inr (.inr q_176))))), (jp, .inl (cP, 8, .inr (.inr (.inr (.inr fp))))), (jc, .inl (cI, 3, .inl fjc))]) hP hD rfl
              clear hP hD
              obtain ⟨hP, hD⟩ := h9R
              refine lv_aload_n hx hb dX7_haste_43 rfl (lv_at hl 0 rfl) ?_
              refine lv_iconst (v := 0) hx hb dX7_haste_44 (by decide) ?_
              refine lv_iload_n hx hb dX7_haste_45 rfl (lv_at hl 1 rfl) ?_
              skip
              refine zw_V (As := [.int 0, .int 2]) (rest := [.int r_168]) (wr := [(xr, .inl (cI, 8, .inl fr))]) ⟨hx, hb, hml, hown, hts⟩ (c_X_casesBy_2 l D cI cJ cZ cP cS po x0 xs j0 k0 w0 rd mv xr (im) (lf) ((fun _ => 0)) j0 jp jc z0 0 0 (cn) (de) (tr) (se) (hu) (sd) wk wl wc wp (q_170) (q_171) (q_172) q_176 q_173 q_174 q_175 fjc fp kf af tf (0) hy0 hy1 hy2 hy3 hy4 hy5 hy6 hy7 hy8 hy9 hbq_170.1 hbq_170.2 hbq_171.1 hbq_171.2 hbq_172.1 hbq_172.2 hwq_176 hjp (by omega) (by omega) hpq_175 hp_fjc H.size) (cwV 2 hts gX7_haste_X7_casesBy rfl rfl rfl ⟨rfl, dh_X7_casesBy⟩ ⟨Nat.le_of_ble_eq_true rfl, Nat.le_of_ble_eq_true rfl⟩) hK hN (hZ.kept hS) hP hD hS hA [1, 2, 3, 4, 5, 6, 7, 8, 9] [0] rfl rfl (by decide) (by decide) (by decide) (va_recv (q := (RX7, TX7, 9)) hK hP (ci := 7) (q0 := 1) rfl rfl) rfl hl.1 rfl (Nat.le_of_ble_eq_true rfl) dX7_haste_46 ⟨Nat.le_of_ble_eq_true rfl, Nat.le_of_ble_eq_true rfl⟩ (fun r_177 u_178 H locs hr_177 hP hD hS => ?_)
              obtain ⟨q_179, q_180, q_181, q_182, q_183, q_184, q_185⟩ := u_178
              try dsimp only at hr_177
              obtain ⟨hbq_179, hbq_180, hbq_181, hpq_184, hwq_185, hr_177⟩ := hr_177
              have h9R := zRe (ws' := [(xr, .inl (cI, 8, .inl fr)), (x0, .inr (7, [.ref xs, .ref j0, .ref k0, .ref w0, .ref rd, .ref mv, .ref xr, .int im, .int lf])), (j0, .inr (0, [.ref z0, .ref jp, .ref jc, .int cn, .int de, .int tr, .int se, .int hu, .int sd])), (w0, .inr (5, [.ref wk, .ref wl, .ref wc, .ref wp, .int q_179, .int q_180, .int q_181])), (wk, .inl (cI, 125, .inl q_182)), (wl, .inl (cI, 125, .inl q_183)), (wc, .inl (cI, 3, .inl q_184)), (wp, .inl (cP, 8, .inr (.inr (.inr (.inr q_185))))), (jp, .inl (cP, 8, .inr (.inr (.inr (.inr fp))))), (jc, .inl (cI, 3, .inl fjc))]) hP hD rfl
              clear hP hD
              obtain ⟨hP, hD⟩ := h9R
              refine lv_icmp_ge (tgt := 56) hx hb dX7_haste_49 (by decide) (fun c_186 => ?_) (fun c_186 => ?_)
              · have fc_186 : r_177.toInt ≤ r_168.toInt := zf_le c_186 rfl rfl
                refine lv_iconst (v := 0) hx hb dX7_haste_56 (by decide) ?_
                exact W.iret (v := 0) hx hb hr (fun t ht hW => ⟨⟨0, (q_179, q_180, q_181, q_182, q_183, q_184, q_185, fr), rfl, ⟨(show 0 ≤ q_179.toInt ∧ q_179.toInt ≤ 8 from hbq_179), (show 0 ≤ q_180.toInt ∧ q_180.toInt ≤ 9 from hbq_180), (show 0 ≤ q_181.toInt ∧ q_181.toInt ≤ 60 from hbq_181), hpq_184, hwq_185, trivial⟩, zRet ht hP hD [1, 0, 2, 3, 4, 5, 6, 7, 8, 9] (by decide) rfl⟩, hS.F ht⟩) hS.2.2 dX7_haste_57
              · have fc_186 : r_168.toInt < r_177.toInt := zf_nle c_186 rfl rfl
                refine lv_iconst (v := 1) hx hb dX7_haste_52 (by decide) ?_
                refine lv_goto (tgt := 57) hx hb dX7_haste_53 (by decide) ?_
                exact W.iret (v := 1) hx hb hr (fun t ht hW => ⟨⟨1, (q_179, q_180, q_181, q_182, q_183, q_184, q_185, fr), rfl, ⟨(show 0 ≤ q_179.toInt ∧ q_179.toInt ≤ 8 from hbq_179), (show 0 ≤ q_180.toInt ∧ q_180.toInt ≤ 9 from hbq_180), (show 0 ≤ q_181.toInt ∧ q_181.toInt ≤ 60 from hbq_181), hpq_184, hwq_185, trivial⟩, zRet ht hP hD [1, 0, 2, 3, 4, 5, 6, 7, 8, 9] (by decide) rfl⟩, hS.F ht⟩) hS.2.2 dX7_haste_57
          · refine lv_iload_n hx hb dX7_haste_31 rfl (lv_at hl 2 rfl) ?_
            refine lv_iconst (v := 1) hx hb dX7_haste_32 (by decide) ?_
            refine lv_icmp_ne (tgt := 58) hx hb dX7_haste_33 (by decide) (fun c_187 => ?_) (fun c_187 => ?_)
            · have fc_187 : w.toInt ≠ 1 := zf_ne c_187 rfl (by decide)
              refine lv_iconst (v := 0) hx hb dX7_haste_58 (by decide) ?_
              refine lv_istore_n (lv' := [(3, .int 0), (0, .ref x0), (1, .int 3), (2, .int w)]) hx hb dX7_haste_59 rfl hl (by decide) rfl (fun ls hl => ?_)
              refine lv_aload_n hx hb dX7_haste_60 rfl (lv_at hl 1 rfl) ?_
              refine lv_iconst (v := 0) hx hb dX7_haste_61 (by decide) ?_
              refine lv_iload_n hx hb dX7_haste_62 rfl (lv_at hl 2 rfl) ?_
              skip
              refine zw_V (As := [.int 0, .int 3]) (rest := []) (wr := [(xr, .inl (cI, 8, .inl fr))]) ⟨hx, hb, hml, hown, hts⟩ (c_X_casesBy_3 l D cI cJ cZ cP cS po x0 xs j0 k0 w0 rd mv xr (im) (lf) ((fun _ => 0)) j0 jp jc z0 0 0 (cn) (de) (tr) (se) (hu) (sd) wk wl wc wp (wn) (wh) (wg) fq fk fl fc fjc fp kf af tf (0) hy0 hy1 hy2 hy3 hy4 hy5 hy6 hy7 hy8 hy9 hy10 hy11 hy12 hy13 hy14 hy15 hwq hjp (by omega) (by omega) hp_fc hp_fjc H.size) (cwV 2 hts gX7_haste_X7_casesBy rfl rfl rfl ⟨rfl, dh_X7_casesBy⟩ ⟨Nat.le_of_ble_eq_true rfl, Nat.le_of_ble_eq_true rfl⟩) hK hN (hZ.kept hS) hP hD hS hA [0, 2, 3, 4, 5, 6, 7, 8, 9] [1] rfl rfl (by decide) (by decide) (by decide) (va_recv (q := (RX7, TX7, 9)) hK hP (ci := 7) (q0 := 0) rfl rfl) rfl hl.1 rfl (Nat.le_of_ble_eq_true rfl) dX7_haste_63 ⟨Nat.le_of_ble_eq_true rfl, Nat.le_of_ble_eq_true rfl⟩ (fun r_188 u_189 H locs hr_188 hP hD hS => ?_)
              obtain ⟨q_190, q_191, q_192, q_193, q_194, q_195, q_196⟩ := u_189
              try dsimp only at hr_188
              obtain ⟨hbq_190, hbq_191, hbq_192, hpq_195, hwq_196, hr_188⟩ := hr_188
              have h9R := zRe (ws' := [(xr, .inl (cI, 8, .inl fr)), (x0, .inr (7, [.ref xs, .ref j0, .ref k0, .ref w0, .ref rd, .ref mv, .ref xr, .int im, .int lf])), (j0, .inr (0, [.ref z0, .ref jp, .ref jc, .int cn, .int de, .int tr, .int se, .int hu, .int sd])), (w0, .inr (5, [.ref wk, .ref wl, .ref wc, .ref wp, .int q_190, .int q_191, .int q_192])), (wk, .inl (cI, 125, .inl q_193)), (wl, .inl (cI, 125, .inl q_194)), (wc, .inl (cI, 3, .inl q_195)), (wp, .inl (cP, 8, .inr (.inr (.inr (.inr q_196))))), (jp, .inl (cP, 8, .inr (.inr (.inr (.inr fp))))), (jc, .inl (cI, 3, .inl fjc))]) hP hD rfl
              clear hP hD
              obtain ⟨hP, hD⟩ := h9R
              refine lv_istore (lv' := [(4, .int r_188), (3, .int 0), (0, .ref x0), (1, .int 3), (2, .int w)]) hx hb dX7_haste_66 hl (by decide) rfl (fun ls hl => ?_)
              refine lv_iconst (v := 1) hx hb dX7_haste_68 (by decide) ?_
              refine lv_istore (lv' := [(5, .int 1), (4, .int r_188), (3, .int 0), (0, .ref x0), (1, .int 3), (2, .int w)]) hx hb dX7_haste_69 hl (by decide) rfl (fun ls hl => ?_)
              obtain ⟨i_71, hi_71⟩ : ∃ i : Int32, i = 1 := ⟨_, rfl⟩
              replace hl : lv_has ls 7 [(5, .int i_71), (4, .int r_188), (3, .int 0), (0, .ref x0), (1, .int 3), (2, .int w)] := by rw [hi_71]; exact lv_sub hl [0, 1, 2, 3, 4, 5] rfl
              have h1i_71 : i_71.toInt = 1 := by rw [hi_71]; decide
              obtain ⟨nfu, hni_71⟩ : ∃ nq9 : Nat, 10 ≤ i_71.toInt + (nq9 : Int) := ⟨((10 : Int) - 1).toNat, by omega⟩
              have hloi_71 : 1 ≤ i_71.toInt := by omega
              obtain ⟨g_197, hg_197⟩ : ∃ g : Nat → Int32, g = q_193 := ⟨_, rfl⟩
              obtain ⟨g_198, hg_198⟩ : ∃ g : Nat → Int32, g = q_194 := ⟨_, rfl⟩
              obtain ⟨g_199, hg_199⟩ : ∃ g : Nat → Int32, g = q_195 := ⟨_, rfl⟩
              have hpg_199 : zRg g_199 (0) 99 := by rw [hg_199]; exact hpq_195
              obtain ⟨g_200, hg_200⟩ : ∃ g : Nat → Option Nat, g = q_196 := ⟨_, rfl⟩
              have hwg_200 : zWP po g_200 := by rw [hg_200]; exact hwq_196
              obtain ⟨v_201, hv_201⟩ : ∃ g : Int32, g = q_190 := ⟨_, rfl⟩
              have hbv_201 : 0 ≤ v_201.toInt ∧ v_201.toInt ≤ 8 := by rw [hv_201]; exact ⟨by omega, by omega⟩
              obtain ⟨v_202, hv_202⟩ : ∃ g : Int32, g = q_191 := ⟨_, rfl⟩
              have hbv_202 : 0 ≤ v_202.toInt ∧ v_202.toInt ≤ 9 := by rw [hv_202]; exact ⟨by omega, by omega⟩
              obtain ⟨v_203, hv_203⟩ : ∃ g : Int32, g = q_192 := ⟨_, rfl⟩
              have hbv_203 : 0 ≤ v_203.toInt ∧ v_203.toInt ≤ 60 := by rw [hv_203]; exact ⟨by omega, by omega⟩
              replace hP : va_P D vwCl [(xr, .inl (cI, 8, .inl fr)), (x0, .inr (7, [.ref xs, .ref j0, .ref k0, .ref w0, .ref rd, .ref mv, .ref xr, .int im, .int lf])), (j0, .inr (0, [.ref z0, .ref jp, .ref jc, .int cn, .int de, .int tr, .int se, .int hu, .int sd])), (w0, .inr (5, [.ref wk, .ref wl, .ref wc, .ref wp, .int v_201, .int v_202, .int v_203])), (wk, .inl (cI, 125, .inl g_197)), (wl, .inl (cI, 125, .inl g_198)), (wc, .inl (cI, 3, .inl g_199)), (wp, .inl (cP, 8, .inr (.inr (.inr (.inr g_200))))), (jp, .inl (cP, 8, .inr (.inr (.inr (.inr fp))))), (jc, .inl (cI, 3, .inl fjc))] H := by rw [hg_197, hg_198, hg_199, hg_200, hv_201, hv_202, hv_203]; exact hP
              replace hD : va_D (va_A [(x0, .inr (7, [.ref xs, .ref j0, .ref k0, .ref w0, .ref rd, .ref mv, .ref xr, .int im, .int lf])), (xr, .inl (cI, 8, .inl fr)), (j0, .inr (0, [.ref z0, .ref jp, .ref jc, .int cn, .int de, .int tr, .int se, .int hu, .int sd])), (w0, .inr (5, [.ref wk, .ref wl, .ref wc, .ref wp, .int wn, .int wh, .int wg])), (wk, .inl (cI, 125, .inl fk)), (wl, .inl (cI, 125, .inl fl)), (wc, .inl (cI, 3, .inl fc)), (wp, .inl (cP, 8, .inr (.inr (.inr (.inr fq))))), (jp, .inl (cP, 8, .inr (.inr (.inr (.inr fp))))), (jc, .inl (cI, 3, .inl fjc))] s.heap.size) [(xr, .inl (cI, 8, .inl fr)), (x0, .inr (7, [.ref xs, .ref j0, .ref k0, .ref w0, .ref rd, .ref mv, .ref xr, .int im, .int lf])), (j0, .inr (0, [.ref z0, .ref jp, .ref jc, .int cn, .int de, .int tr, .int se, .int hu, .int sd])), (w0, .inr (5, [.ref wk, .ref wl, .ref wc, .ref wp, .int v_201, .int v_202, .int v_203])), (wk, .inl (cI, 125, .inl g_197)), (wl, .inl (cI, 125, .inl g_198)), (wc, .inl (cI, 3, .inl g_199)), (wp, .inl (cP, 8, .inr (.inr (.inr (.inr g_200))))), (jp, .inl (cP, 8, .inr (.inr (.inr (.inr fp))))), (jc, .inl (cI, 3, .inl fjc))] := by rw [hg_197, hg_198, hg_199, hg_200, hv_201, hv_202, hv_203]; exact hD
              obtain ⟨v_204, hv_204⟩ : ∃ g : Int32, g = 0 := ⟨_, rfl⟩
              obtain ⟨v_205, hv_205⟩ : ∃ g : Int32, g = r_188 := ⟨_, rfl⟩
              replace hl : lv_has ls 7 [(5, .int i_71), (4, .int v_205), (3, .int v_204), (0, .ref x0), (1, .int 3), (2, .int w)] := by rw [hv_204, hv_205]; exact hl
              clear h1i_71 hi_71 hg_197 hg_198 hg_199 hg_200 hv_201 hv_202 hv_203 hv_204 hv_205
              skip
              revert hni_71
              revert hloi_71
              revert hbv_203
              revert hbv_202
              revert hbv_201
              revert hwg_200
              revert hpg_199
              revert hl
              revert hS
              revert hD
              revert hP
              revert ls
              revert locs
              revert H
              revert g_197
              revert g_198
              revert g_199
              revert g_200
              revert v_201
              revert v_202
              revert v_203
              revert v_205
              revert v_204
              revert i_71
              induction nfu with
              | zero =>
                intro i_71 v_204 v_205 v_203 v_202 v_201 g_200 g_199 g_198 g_197 H locs ls hP hD hS hl hpg_199 hwg_200 hbv_201 hbv_202 hbv_203 hloi_71 hni_71
                have hzi_71 : 10 ≤ i_71.toInt := by omega
                refine lv_iload hx hb dX7_haste_71 (lv_at hl 0 rfl) ?_
                refine lv_bipush (v := 9) hx hb dX7_haste_73 (by decide) ?_
                refine lv_icmp_gt (tgt := 107) hx hb dX7_haste_75 (by decide) (fun c_206 => ?_) (fun c_206 => ?_)
                · have fc_206 : 9 < i_71.toInt := zf_lt c_206 (by decide) rfl
                  refine lv_iload_n hx hb dX7_haste_107 rfl (lv_at hl 2 rfl) ?_
                  exact W.iret (v := v_204) hx hb hr (fun t ht hW => ⟨⟨v_204, (v_201, v_202, v_203, g_197, g_198, g_199, g_200, fr), rfl, ⟨(show 0 ≤ v_201.toInt ∧ v_201.toInt ≤ 8 from hbv_201), (show 0 ≤ v_202.toInt ∧ v_202.toInt ≤ 9 from hbv_202), (show 0 ≤ v_203.toInt ∧ v_203.toInt ≤ 60 from hbv_203), hpg_199, hwg_200, trivial⟩, zRet ht hP hD [1, 0, 2, 3, 4, 5, 6, 7, 8, 9] (by decide) rfl⟩, hS.F ht⟩) hS.2.2 dX7_haste_108
                · exfalso; have fc_206 : i_71.toInt ≤ 9 := zf_nlt c_206 (by decide) rfl; omega
              | succ nfu ih =>
                intro i_71 v_204 v_205 v_203 v_202 v_201 g_200 g_199 g_198 g_197 H locs ls hP hD hS hl hpg_199 hwg_200 hbv_201 hbv_202 hbv_203 hloi_71 hni_71
                refine lv_iload hx hb dX7_haste_71 (lv_at hl 0 rfl) ?_
                refine lv_bipush (v := 9) hx hb dX7_haste_73 (by decide) ?_
                refine lv_icmp_gt (tgt := 107) hx hb dX7_haste_75 (by decide) (fun c_207 => ?_) (fun c_207 => ?_)
                · have fc_207 : 9 < i_71.toInt := zf_lt c_207 (by decide) rfl
                  refine lv_iload_n hx hb dX7_haste_107 rfl (lv_at hl 2 rfl) ?_
                  exact W.iret (v := v_204) hx hb hr (fun t ht hW => ⟨⟨v_204, (v_201, v_202, v_203, g_197, g_198, g_199, g_200, fr), rfl, ⟨(show 0 ≤ v_201.toInt ∧ v_201.toInt ≤ 8 from hbv_201), (show 0 ≤ v_202.toInt ∧ v_202.toInt ≤ 9 from hbv_202), (show 0 ≤ v_203.toInt ∧ v_203.toInt ≤ 60 from hbv_203), hpg_199, hwg_200, trivial⟩, zRet ht hP hD [1, 0, 2, 3, 4, 5, 6, 7, 8, 9] (by decide) rfl⟩, hS.F ht⟩) hS.2.2 dX7_haste_108
                · have fc_207 : i_71.toInt ≤ 9 := zf_nlt c_207 (by decide) rfl
                  refine lv_aload_n hx hb dX7_haste_78 rfl (lv_at hl 3 rfl) ?_
                  refine lv_iload hx hb dX7_haste_79 (lv_at hl 0 rfl) ?_
                  refine lv_iload_n hx hb dX7_haste_81 rfl (lv_at hl 4 rfl) ?_
                  skip
                  refine zw_V (As := [.int i_71, .int 3]) (rest := []) (wr := [(xr, .inl (cI, 8, .inl fr))]) ⟨hx, hb, hml, hown, hts⟩ (c_X_casesBy_3 l D cI cJ cZ cP cS po x0 xs j0 k0 w0 rd mv xr (im) (lf) ((fun _ => 0)) j0 jp jc z0 0 0 (cn) (de) (tr) (se) (hu) (sd) wk wl wc wp (v_201) (v_202) (v_203) g_200 g_197 g_198 g_199 fjc fp kf af tf (i_71) hy0 hy1 hy2 hy3 hy4 hy5 hy6 hy7 hy8 hy9 hbv_201.1 hbv_201.2 hbv_202.1 hbv_202.2 hbv_203.1 hbv_203.2 hwg_200 hjp (by omega) (by omega) hpg_199 hp_fjc H.size) (cwV 2 hts gX7_haste_X7_casesBy rfl rfl rfl ⟨rfl, dh_X7_casesBy⟩ ⟨Nat.le_of_ble_eq_true rfl, Nat.le_of_ble_eq_true rfl⟩) hK hN (hZ.kept hS) hP hD hS hA [1, 2, 3, 4, 5, 6, 7, 8, 9] [0] rfl rfl (by decide) (by decide) (by decide) (va_recv (q := (RX7, TX7, 9)) hK hP (ci := 7) (q0 := 1) rfl rfl) rfl hl.1 rfl (Nat.le_of_ble_eq_true rfl) dX7_haste_82 ⟨Nat.le_of_ble_eq_true rfl, Nat.le_of_ble_eq_true rfl⟩ (fun r_208 u_209 H locs hr_208 hP hD hS => ?_)
                  obtain ⟨q_210, q_211, q_212, q_213, q_214, q_215, q_216⟩ := u_209
                  try dsimp only at hr_208
                  obtain ⟨hbq_210, hbq_211, hbq_212, hpq_215, hwq_216, hr_208⟩ := hr_208
                  have h9R := zRe (ws' := [(xr, .inl (cI, 8, .inl fr)), (x0, .inr (7, [.ref xs, .ref j0, .ref k0, .ref w0, .ref rd, .ref mv, .ref xr, .int im, .int lf])), (j0, .inr (0, [.ref z0, .ref jp, .ref jc, .int cn, .int de, .int tr, .int se, .int hu, .int sd])), (w0, .inr (5, [.ref wk, .ref wl, .ref wc, .ref wp, .int q_210, .int q_211, .int q_212])), (wk, .inl (cI, 125, .inl q_213)), (wl, .inl (cI, 125, .inl q_214)), (wc, .inl (cI, 3, .inl q_215)), (wp, .inl (cP, 8, .inr (.inr (.inr (.inr q_216))))), (jp, .inl (cP, 8, .inr (.inr (.inr (.inr fp))))), (jc, .inl (cI, 3, .inl fjc))]) hP hD rfl
                  clear hP hD
                  obtain ⟨hP, hD⟩ := h9R
                  refine lv_istore (lv' := [(6, .int r_208), (5, .int i_71), (4, .int v_205), (3, .int v_204), (0, .ref x0), (1, .int 3), (2, .int w)]) hx hb dX7_haste_85 hl (by decide) rfl (fun ls hl => ?_)
                  refine lv_iload hx hb dX7_haste_87 (lv_at hl 0 rfl) ?_
                  refine lv_iload hx hb dX7_haste_89 (lv_at hl 2 rfl) ?_
                  refine lv_icmp_le (tgt := 101) hx hb dX7_haste_91 (by decide) (fun c_217 => ?_) (fun c_217 => ?_)
                  · have fc_217 : r_208.toInt ≤ v_205.toInt := zf_le c_217 rfl rfl
                    obtain ⟨x_218, ex_218⟩ : ∃ y : Int32, y = i_71 + 1 := ⟨_, rfl⟩
                    have qx_218 : x_218.toInt = i_71.toInt + 1 := by rw [ex_218]; exact zf_add rfl (by decide) (by omega) (by omega)
                    refine lv_iinc (v := x_218) (lv' := [(5, .int x_218), (6, .int r_208), (4, .int v_205), (3, .int v_204), (0, .ref x0), (1, .int 3), (2, .int w)]) hx hb dX7_haste_101 hl (k := 1) rfl ex_218.symm (by decide) rfl (fun ls hl => ?_)
                    refine lv_goto (tgt := 71) hx hb dX7_haste_104 (by decide) ?_
                    exact ih x_218 v_204 v_205 (q_212) (q_211) (q_210) (q_216) (q_215) (q_214) (q_213) _ _ _ (hP.sub [0, 1, 2, 3, 4, 5, 6, 7, 8, 9] rfl) (hD.sub [0, 1, 2, 3, 4, 5, 6, 7, 8, 9] (by decide) rfl) hS (lv_sub hl [0, 2, 3, 4, 5, 6] rfl) hpq_215 hwq_216 hbq_210 hbq_211 hbq_212 (dw_lo hloi_71 qx_218) (dw_hn hni_71 qx_218)
                  · have fc_217 : v_205.toInt < r_208.toInt := zf_nle c_217 rfl rfl
                    refine lv_iload hx hb dX7_haste_94 (lv_at hl 0 rfl) ?_
                    refine lv_istore (lv' := [(4, .int r_208), (6, .int r_208), (5, .int i_71), (3, .int v_204), (0, .ref x0), (1, .int 3), (2, .int w)]) hx hb dX7_haste_96 hl (by decide) rfl (fun ls hl => ?_)
                    refine lv_iload hx hb dX7_haste_98 (lv_at hl 2 rfl) ?_
                    refine lv_istore_n (lv' := [(3, .int i_71), (4, .int r_208), (6, .int r_208), (5, .int i_71), (0, .ref x0), (1, .int 3), (2, .int w)]) hx hb dX7_haste_100 rfl hl (by decide) rfl (fun ls hl => ?_)
                    obtain ⟨x_219, ex_219⟩ : ∃ y : Int32, y = i_71 + 1 := ⟨_, rfl⟩
                    have qx_219 : x_219.toInt = i_71.toInt + 1 := by rw [ex_219]; exact zf_add rfl (by decide) (by omega) (by omega)
                    refine lv_iinc (v := x_219) (lv' := [(5, .int x_219), (3, .int i_71), (4, .int r_208), (6, .int r_208), (0, .ref x0), (1, .int 3), (2, .int w)]) hx hb dX7_haste_101 hl (k := 3) rfl ex_219.symm (by decide) rfl (fun ls hl => ?_)
                    refine lv_goto (tgt := 71) hx hb dX7_haste_104 (by decide) ?_
                    exact ih x_219 i_71 r_208 (q_212) (q_211) (q_210) (q_216) (q_215) (q_214) (q_213) _ _ _ (hP.sub [0, 1, 2, 3, 4, 5, 6, 7, 8, 9] rfl) (hD.sub [0, 1, 2, 3, 4, 5, 6, 7, 8, 9] (by decide) rfl) hS (lv_sub hl [0, 2, 1, 4, 5, 6] rfl) hpq_215 hwq_216 hbq_210 hbq_211 hbq_212 (dw_lo hloi_71 qx_219) (dw_hn hni_71 qx_219)
            · have fc_187 : w.toInt = 1 := zf_eq c_187 rfl (by decide)
              refine lv_aload_n hx hb dX7_haste_36 rfl (lv_at hl 0 rfl) ?_
              refine lv_bipush (v := 9) hx hb dX7_haste_37 (by decide) ?_
              refine lv_iload_n hx hb dX7_haste_39 rfl (lv_at hl 1 rfl) ?_
              have kc9 : (9 : Int32).toInt = 9 := by decide
              skip
              refine zw_V (As := [.int 9, .int 3]) (rest := []) (wr := [(xr, .inl (cI, 8, .inl fr))]) ⟨hx, hb, hml, hown, hts⟩ (c_X_casesBy_3 l D cI cJ cZ cP cS po x0 xs j0 k0 w0 rd mv xr (im) (lf) ((fun _ => 0)) j0 jp jc z0 0 0 (cn) (de) (tr) (se) (hu) (sd) wk wl wc wp (wn) (wh) (wg) fq fk fl fc fjc fp kf af tf (9) hy0 hy1 hy2 hy3 hy4 hy5 hy6 hy7 hy8 hy9 hy10 hy11 hy12 hy13 hy14 hy15 hwq hjp (by omega) (by omega) hp_fc hp_fjc H.size) (cwV 2 hts gX7_haste_X7_casesBy rfl rfl rfl ⟨rfl, dh_X7_casesBy⟩ ⟨Nat.le_of_ble_eq_true rfl, Nat.le_of_ble_eq_true rfl⟩) hK hN (hZ.kept hS) hP hD hS hA [0, 2, 3, 4, 5, 6, 7, 8, 9] [1] rfl rfl (by decide) (by decide) (by decide) (va_recv (q := (RX7, TX7, 9)) hK hP (ci := 7) (q0 := 0) rfl rfl) rfl hl.1 rfl (Nat.le_of_ble_eq_true rfl) dX7_haste_40 ⟨Nat.le_of_ble_eq_true rfl, Nat.le_of_ble_eq_true rfl⟩ (fun r_220 u_221 H locs hr_220 hP hD hS => ?_)
              obtain ⟨q_222, q_223, q_224, q_225, q_226, q_227, q_228⟩ := u_221
              try dsimp only at hr_220
              obtain ⟨hbq_222, hbq_223, hbq_224, hpq_227, hwq_228, hr_220⟩ := hr_220
              have h9R := zRe (ws' := [(xr, .inl (cI, 8, .inl fr)), (x0, .inr (7, [.ref xs, .ref j0, .ref k0, .ref w0, .ref rd, .ref mv, .ref xr, .int im, .int lf])), (j0, .inr (0, [.ref z0, .ref jp, .ref jc, .int cn, .int de, .int tr, .int se, .int hu, .int sd])), (w0, .inr (5, [.ref wk, .ref wl, .ref wc, .ref wp, .int q_222, .int q_223, .int q_224])), (wk, .inl (cI, 125, .inl q_225)), (wl, .inl (cI, 125, .inl q_226)), (wc, .inl (cI, 3, .inl q_227)), (wp, .inl (cP, 8, .inr (.inr (.inr (.inr q_228))))), (jp, .inl (cP, 8, .inr (.inr (.inr (.inr fp))))), (jc, .inl (cI, 3, .inl fjc))]) hP hD rfl
              clear hP hD
              obtain ⟨hP, hD⟩ := h9R
              refine lv_aload_n hx hb dX7_haste_43 rfl (lv_at hl 0 rfl) ?_
              refine lv_iconst (v := 0) hx hb dX7_haste_44 (by decide) ?_
              refine lv_iload_n hx hb dX7_haste_45 rfl (lv_at hl 1 rfl) ?_
              skip
              refine zw_V (As := [.int 0, .int 3]) (rest := [.int r_220]) (wr := [(xr, .inl (cI, 8, .inl fr))]) ⟨hx, hb, hml, hown, hts⟩ (c_X_casesBy_3 l D cI cJ cZ cP cS po x0 xs j0 k0 w0 rd mv xr (im) (lf) ((fun _ => 0)) j0 jp jc z0 0 0 (cn) (de) (tr) (se) (hu) (sd) wk wl wc wp (q_222) (q_223) (q_224) q_228 q_225 q_226 q_227 fjc fp kf af tf (0) hy0 hy1 hy2 hy3 hy4 hy5 hy6 hy7 hy8 hy9 hbq_222.1 hbq_222.2 hbq_223.1 hbq_223.2 hbq_224.1 hbq_224.2 hwq_228 hjp (by omega) (by omega) hpq_227 hp_fjc H.size) (cwV 2 hts gX7_haste_X7_casesBy rfl rfl rfl ⟨rfl, dh_X7_casesBy⟩ ⟨Nat.le_of_ble_eq_true rfl, Nat.le_of_ble_eq_true rfl⟩) hK hN (hZ.kept hS) hP hD hS hA [1, 2, 3, 4, 5, 6, 7, 8, 9] [0] rfl rfl (by decide) (by decide) (by decide) (va_recv (q := (RX7, TX7, 9)) hK hP (ci := 7) (q0 := 1) rfl rfl) rfl hl.1 rfl (Nat.le_of_ble_eq_true rfl) dX7_haste_46 ⟨Nat.le_of_ble_eq_true rfl, Nat.le_of_ble_eq_true rfl⟩ (fun r_229 u_230 H locs hr_229 hP hD hS => ?_)
              obtain ⟨q_231, q_232, q_233, q_234, q_235, q_236, q_237⟩ := u_230
              try dsimp only at hr_229
              obtain ⟨hbq_231, hbq_232, hbq_233, hpq_236, hwq_237, hr_229⟩ := hr_229
              have h9R := zRe (ws' := [(xr, .inl (cI, 8, .inl fr)), (x0, .inr (7, [.ref xs, .ref j0, .ref k0, .ref w0, .ref rd, .ref mv, .ref xr, .int im, .int lf])), (j0, .inr (0, [.ref z0, .ref jp, .ref jc, .int cn, .int de, .int tr, .int se, .int hu, .int sd])), (w0, .inr (5, [.ref wk, .ref wl, .ref wc, .ref wp, .int q_231, .int q_232, .int q_233])), (wk, .inl (cI, 125, .inl q_234)), (wl, .inl (cI, 125, .inl q_235)), (wc, .inl (cI, 3, .inl q_236)), (wp, .inl (cP, 8, .inr (.inr (.inr (.inr q_237))))), (jp, .inl (cP, 8, .inr (.inr (.inr (.inr fp))))), (jc, .inl (cI, 3, .inl fjc))]) hP hD rfl
              clear hP hD
              obtain ⟨hP, hD⟩ := h9R
              refine lv_icmp_ge (tgt := 56) hx hb dX7_haste_49 (by decide) (fun c_238 => ?_) (fun c_238 => ?_)
              · have fc_238 : r_229.toInt ≤ r_220.toInt := zf_le c_238 rfl rfl
                refine lv_iconst (v := 0) hx hb dX7_haste_56 (by decide) ?_
                exact W.iret (v := 0) hx hb hr (fun t ht hW => ⟨⟨0, (q_231, q_232, q_233, q_234, q_235, q_236, q_237, fr), rfl, ⟨(show 0 ≤ q_231.toInt ∧ q_231.toInt ≤ 8 from hbq_231), (show 0 ≤ q_232.toInt ∧ q_232.toInt ≤ 9 from hbq_232), (show 0 ≤ q_233.toInt ∧ q_233.toInt ≤ 60 from hbq_233), hpq_236, hwq_237, trivial⟩, zRet ht hP hD [1, 0, 2, 3, 4, 5, 6, 7, 8, 9] (by decide) rfl⟩, hS.F ht⟩) hS.2.2 dX7_haste_57
              · have fc_238 : r_220.toInt < r_229.toInt := zf_nle c_238 rfl rfl
                refine lv_iconst (v := 1) hx hb dX7_haste_52 (by decide) ?_
                refine lv_goto (tgt := 57) hx hb dX7_haste_53 (by decide) ?_
                exact W.iret (v := 1) hx hb hr (fun t ht hW => ⟨⟨1, (q_231, q_232, q_233, q_234, q_235, q_236, q_237, fr), rfl, ⟨(show 0 ≤ q_231.toInt ∧ q_231.toInt ≤ 8 from hbq_231), (show 0 ≤ q_232.toInt ∧ q_232.toInt ≤ 9 from hbq_232), (show 0 ≤ q_233.toInt ∧ q_233.toInt ≤ 60 from hbq_233), hpq_236, hwq_237, trivial⟩, zRet ht hP hD [1, 0, 2, 3, 4, 5, 6, 7, 8, 9] (by decide) rfl⟩, hS.F ht⟩) hS.2.2 dX7_haste_57
          · refine lv_iload_n hx hb dX7_haste_31 rfl (lv_at hl 2 rfl) ?_
            refine lv_iconst (v := 1) hx hb dX7_haste_32 (by decide) ?_
            refine lv_icmp_ne (tgt := 58) hx hb dX7_haste_33 (by decide) (fun c_239 => ?_) (fun c_239 => ?_)
            · have fc_239 : w.toInt ≠ 1 := zf_ne c_239 rfl (by decide)
              refine lv_iconst (v := 0) hx hb dX7_haste_58 (by decide) ?_
              refine lv_istore_n (lv' := [(3, .int 0), (0, .ref x0), (1, .int 4), (2, .int w)]) hx hb dX7_haste_59 rfl hl (by decide) rfl (fun ls hl => ?_)
              refine lv_aload_n hx hb dX7_haste_60 rfl (lv_at hl 1 rfl) ?_
              refine lv_iconst (v := 0) hx hb dX7_haste_61 (by decide) ?_
              refine lv_iload_n hx hb dX7_haste_62 rfl (lv_at hl 2 rfl) ?_
              skip
              refine zw_V (As := [.int 0, .int 4]) (rest := []) (wr := [(xr, .inl (cI, 8, .inl fr))]) ⟨hx, hb, hml, hown, hts⟩ (c_X_casesBy_4 l D cI cJ cZ cP cS po x0 xs j0 k0 w0 rd mv xr (im) (lf) ((fun _ => 0)) j0 jp jc z0 0 0 (cn) (de) (tr) (se) (hu) (sd) wk wl wc wp (wn) (wh) (wg) fq fk fl fc fjc fp kf af tf (0) hy0 hy1 hy2 hy3 hy4 hy5 hy6 hy7 hy8 hy9 hy10 hy11 hy12 hy13 hy14 hy15 hwq hjp (by omega) (by omega) hp_fc hp_fjc H.size) (cwV 2 hts gX7_haste_X7_casesBy rfl rfl rfl ⟨rfl, dh_X7_casesBy⟩ ⟨Nat.le_of_ble_eq_true rfl, Nat.le_of_ble_eq_true rfl⟩) hK hN (hZ.kept hS) hP hD hS hA [0, 2, 3, 4, 5, 6, 7, 8, 9] [1] rfl rfl (by decide) (by decide) (by decide) (va_recv (q := (RX7, TX7, 9)) hK hP (ci := 7) (q0 := 0) rfl rfl) rfl hl.1 rfl (Nat.le_of_ble_eq_true rfl) dX7_haste_63 ⟨Nat.le_of_ble_eq_true rfl, Nat.le_of_ble_eq_true rfl⟩ (fun r_240 u_241 H locs hr_240 hP hD hS => ?_)
              obtain ⟨q_242, q_243, q_244, q_245, q_246, q_247, q_248⟩ := u_241
              try dsimp only at hr_240
              obtain ⟨hbq_242, hbq_243, hbq_244, hpq_247, hwq_248, hr_240⟩ := hr_240
              have h9R := zRe (ws' := [(xr, .inl (cI, 8, .inl fr)), (x0, .inr (7, [.ref xs, .ref j0, .ref k0, .ref w0, .ref rd, .ref mv, .ref xr, .int im, .int lf])), (j0, .inr (0, [.ref z0, .ref jp, .ref jc, .int cn, .int de, .int tr, .int se, .int hu, .int sd])), (w0, .inr (5, [.ref wk, .ref wl, .ref wc, .ref wp, .int q_242, .int q_243, .int q_244])), (wk, .inl (cI, 125, .inl q_245)), (wl, .inl (cI, 125, .inl q_246)), (wc, .inl (cI, 3, .inl q_247)), (wp, .inl (cP, 8, .inr (.inr (.inr (.inr q_248))))), (jp, .inl (cP, 8, .inr (.inr (.inr (.inr fp))))), (jc, .inl (cI, 3, .inl fjc))]) hP hD rfl
              clear hP hD
              obtain ⟨hP, hD⟩ := h9R
              refine lv_istore (lv' := [(4, .int r_240), (3, .int 0), (0, .ref x0), (1, .int 4), (2, .int w)]) hx hb dX7_haste_66 hl (by decide) rfl (fun ls hl => ?_)
              refine lv_iconst (v := 1) hx hb dX7_haste_68 (by decide) ?_
              refine lv_istore (lv' := [(5, .int 1), (4, .int r_240), (3, .int 0), (0, .ref x0), (1, .int 4), (2, .int w)]) hx hb dX7_haste_69 hl (by decide) rfl (fun ls hl => ?_)
              obtain ⟨i_71, hi_71⟩ : ∃ i : Int32, i = 1 := ⟨_, rfl⟩
              replace hl : lv_has ls 7 [(5, .int i_71), (4, .int r_240), (3, .int 0), (0, .ref x0), (1, .int 4), (2, .int w)] := by rw [hi_71]; exact lv_sub hl [0, 1, 2, 3, 4, 5] rfl
              have h1i_71 : i_71.toInt = 1 := by rw [hi_71]; decide
              obtain ⟨nfu, hni_71⟩ : ∃ nq9 : Nat, 10 ≤ i_71.toInt + (nq9 : Int) := ⟨((10 : Int) - 1).toNat, by omega⟩
              have hloi_71 : 1 ≤ i_71.toInt := by omega
              obtain ⟨g_249, hg_249⟩ : ∃ g : Nat → Int32, g = q_245 := ⟨_, rfl⟩
              obtain ⟨g_250, hg_250⟩ : ∃ g : Nat → Int32, g = q_246 := ⟨_, rfl⟩
              obtain ⟨g_251, hg_251⟩ : ∃ g : Nat → Int32, g = q_247 := ⟨_, rfl⟩
              have hpg_251 : zRg g_251 (0) 99 := by rw [hg_251]; exact hpq_247
              obtain ⟨g_252, hg_252⟩ : ∃ g : Nat → Option Nat, g = q_248 := ⟨_, rfl⟩
              have hwg_252 : zWP po g_252 := by rw [hg_252]; exact hwq_248
              obtain ⟨v_253, hv_253⟩ : ∃ g : Int32, g = q_242 := ⟨_, rfl⟩
              have hbv_253 : 0 ≤ v_253.toInt ∧ v_253.toInt ≤ 8 := by rw [hv_253]; exact ⟨by omega, by omega⟩
              obtain ⟨v_254, hv_254⟩ : ∃ g : Int32, g = q_243 := ⟨_, rfl⟩
              have hbv_254 : 0 ≤ v_254.toInt ∧ v_254.toInt ≤ 9 := by rw [hv_254]; exact ⟨by omega, by omega⟩
              obtain ⟨v_255, hv_255⟩ : ∃ g : Int32, g = q_244 := ⟨_, rfl⟩
              have hbv_255 : 0 ≤ v_255.toInt ∧ v_255.toInt ≤ 60 := by rw [hv_255]; exact ⟨by omega, by omega⟩
              replace hP : va_P D vwCl [(xr, .inl (cI, 8, .inl fr)), (x0, .inr (7, [.ref xs, .ref j0, .ref k0, .ref w0, .ref rd, .ref mv, .ref xr, .int im, .int lf])), (j0, .inr (0, [.ref z0, .ref jp, .ref jc, .int cn, .int de, .int tr, .int se, .int hu, .int sd])), (w0, .inr (5, [.ref wk, .ref wl, .ref wc, .ref wp, .int v_253, .int v_254, .int v_255])), (wk, .inl (cI, 125, .inl g_249)), (wl, .inl (cI, 125, .inl g_250)), (wc, .inl (cI, 3, .inl g_251)), (wp, .inl (cP, 8, .inr (.inr (.inr (.inr g_252))))), (jp, .inl (cP, 8, .inr (.inr (.inr (.inr fp))))), (jc, .inl (cI, 3, .inl fjc))] H := by rw [hg_249, hg_250, hg_251, hg_252, hv_253, hv_254, hv_255]; exact hP
              replace hD : va_D (va_A [(x0, .inr (7, [.ref xs, .ref j0, .ref k0, .ref w0, .ref rd, .ref mv, .ref xr, .int im, .int lf])), (xr, .inl (cI, 8, .inl fr)), (j0, .inr (0, [.ref z0, .ref jp, .ref jc, .int cn, .int de, .int tr, .int se, .int hu, .int sd])), (w0, .inr (5, [.ref wk, .ref wl, .ref wc, .ref wp, .int wn, .int wh, .int wg])), (wk, .inl (cI, 125, .inl fk)), (wl, .inl (cI, 125, .inl fl)), (wc, .inl (cI, 3, .inl fc)), (wp, .inl (cP, 8, .inr (.inr (.inr (.inr fq))))), (jp, .inl (cP, 8, .inr (.inr (.inr (.inr fp))))), (jc, .inl (cI, 3, .inl fjc))] s.heap.size) [(xr, .inl (cI, 8, .inl fr)), (x0, .inr (7, [.ref xs, .ref j0, .ref k0, .ref w0, .ref rd, .ref mv, .ref xr, .int im, .int lf])), (j0, .inr (0, [.ref z0, .ref jp, .ref jc, .int cn, .int de, .int tr, .int se, .int hu, .int sd])), (w0, .inr (5, [.ref wk, .ref wl, .ref wc, .ref wp, .int v_253, .int v_254, .int v_255])), (wk, .inl (cI, 125, .inl g_249)), (wl, .inl (cI, 125, .inl g_250)), (wc, .inl (cI, 3, .inl g_251)), (wp, .inl (cP, 8, .inr (.inr (.inr (.inr g_252))))), (jp, .inl (cP, 8, .inr (.inr (.inr (.inr fp))))), (jc, .inl (cI, 3, .inl fjc))] := by rw [hg_249, hg_250, hg_251, hg_252, hv_253, hv_254, hv_255]; exact hD
              obtain ⟨v_256, hv_256⟩ : ∃ g : Int32, g = 0 := ⟨_, rfl⟩
              obtain ⟨v_257, hv_257⟩ : ∃ g : Int32, g = r_240 := ⟨_, rfl⟩
              replace hl : lv_has ls 7 [(5, .int i_71), (4, .int v_257), (3, .int v_256), (0, .ref x0), (1, .int 4), (2, .int w)] := by rw [hv_256, hv_257]; exact hl
              clear h1i_71 hi_71 hg_249 hg_250 hg_251 hg_252 hv_253 hv_254 hv_255 hv_256 hv_257
              skip
              revert hni_71
              revert hloi_71
              revert hbv_255
              revert hbv_254
              revert hbv_253
              revert hwg_252
              revert hpg_251
              revert hl
              revert hS
              revert hD
              revert hP
              revert ls
              revert locs
              revert H
              revert g_249
              revert g_250
              revert g_251
              revert g_252
              revert v_253
              revert v_254
              revert v_255
              revert v_257
              revert v_256
              revert i_71
              induction nfu with
              | zero =>
                intro i_71 v_256 v_257 v_255 v_254 v_253 g_252 g_251 g_250 g_249 H locs ls hP hD hS hl hpg_251 hwg_252 hbv_253 hbv_254 hbv_255 hloi_71 hni_71
                have hzi_71 : 10 ≤ i_71.toInt := by omega
                refine lv_iload hx hb dX7_haste_71 (lv_at hl 0 rfl) ?_
                refine lv_bipush (v := 9) hx hb dX7_haste_73 (by decide) ?_
                refine lv_icmp_gt (tgt := 107) hx hb dX7_haste_75 (by decide) (fun c_258 => ?_) (fun c_258 => ?_)
                · have fc_258 : 9 < i_71.toInt := zf_lt c_258 (by decide) rfl
                  refine lv_iload_n hx hb dX7_haste_107 rfl (lv_at hl 2 rfl) ?_
                  exact W.iret (v := v_256) hx hb hr (fun t ht hW => ⟨⟨v_256, (v_253, v_254, v_255, g_249, g_250, g_251, g_252, fr), rfl, ⟨(show 0 ≤ v_253.toInt ∧ v_253.toInt ≤ 8 from hbv_253), (show 0 ≤ v_254.toInt ∧ v_254.toInt ≤ 9 from hbv_254), (show 0 ≤ v_255.toInt ∧ v_255.toInt ≤ 60 from hbv_255), hpg_251, hwg_252, trivial⟩, zRet ht hP hD [1, 0, 2, 3, 4, 5, 6, 7, 8, 9] (by decide) rfl⟩, hS.F ht⟩) hS.2.2 dX7_haste_108
                · exfalso; have fc_258 : i_71.toInt ≤ 9 := zf_nlt c_258 (by decide) rfl; omega
              | succ nfu ih =>
                intro i_71 v_256 v_257 v_255 v_254 v_253 g_252 g_251 g_250 g_249 H locs ls hP hD hS hl hpg_251 hwg_252 hbv_253 hbv_254 hbv_255 hloi_71 hni_71
                refine lv_iload hx hb dX7_haste_71 (lv_at hl 0 rfl) ?_
                refine lv_bipush (v := 9) hx hb dX7_haste_73 (by decide) ?_
                refine lv_icmp_gt (tgt := 107) hx hb dX7_haste_75 (by decide) (fun c_259 => ?_) (fun c_259 => ?_)
                · have fc_259 : 9 < i_71.toInt := zf_lt c_259 (by decide) rfl
                  refine lv_iload_n hx hb dX7_haste_107 rfl (lv_at hl 2 rfl) ?_
                  exact W.iret (v := v_256) hx hb hr (fun t ht hW => ⟨⟨v_256, (v_253, v_254, v_255, g_249, g_250, g_251, g_252, fr), rfl, ⟨(show 0 ≤ v_253.toInt ∧ v_253.toInt ≤ 8 from hbv_253), (show 0 ≤ v_254.toInt ∧ v_254.toInt ≤ 9 from hbv_254), (show 0 ≤ v_255.toInt ∧ v_255.toInt ≤ 60 from hbv_255), hpg_251, hwg_252, trivial⟩, zRet ht hP hD [1, 0, 2, 3, 4, 5, 6, 7, 8, 9] (by decide) rfl⟩, hS.F ht⟩) hS.2.2 dX7_haste_108
                · have fc_259 : i_71.toInt ≤ 9 := zf_nlt c_259 (by decide) rfl
                  refine lv_aload_n hx hb dX7_haste_78 rfl (lv_at hl 3 rfl) ?_
                  refine lv_iload hx hb dX7_haste_79 (lv_at hl 0 rfl) ?_
                  refine lv_iload_n hx hb dX7_haste_81 rfl (lv_at hl 4 rfl) ?_
                  skip
                  refine zw_V (As := [.int i_71, .int 4]) (rest := []) (wr := [(xr, .inl (cI, 8, .inl fr))]) ⟨hx, hb, hml, hown, hts⟩ (c_X_casesBy_4 l D cI cJ cZ cP cS po x0 xs j0 k0 w0 rd mv xr (im) (lf) ((fun _ => 0)) j0 jp jc z0 0 0 (cn) (de) (tr) (se) (hu) (sd) wk wl wc wp (v_253) (v_254) (v_255) g_252 g_249 g_250 g_251 fjc fp kf af tf (i_71) hy0 hy1 hy2 hy3 hy4 hy5 hy6 hy7 hy8 hy9 hbv_253.1 hbv_253.2 hbv_254.1 hbv_254.2 hbv_255.1 hbv_255.2 hwg_252 hjp (by omega) (by omega) hpg_251 hp_fjc H.size) (cwV 2 hts gX7_haste_X7_casesBy rfl rfl rfl ⟨rfl, dh_X7_casesBy⟩ ⟨Nat.le_of_ble_eq_true rfl, Nat.le_of_ble_eq_true rfl⟩) hK hN (hZ.kept hS) hP hD hS hA [1, 2, 3, 4, 5, 6, 7, 8, 9] [0] rfl rfl (by decide) (by decide) (by decide) (va_recv (q := (RX7, TX7, 9)) hK hP (ci := 7) (q0 := 1) rfl rfl) rfl hl.1 rfl (Nat.le_of_ble_eq_true rfl) dX7_haste_82 ⟨Nat.le_of_ble_eq_true rfl, Nat.le_of_ble_eq_true rfl⟩ (fun r_260 u_261 H locs hr_260 hP hD hS => ?_)
                  obtain ⟨q_262, q_263, q_264, q_265, q_266, q_267, q_268⟩ := u_261
                  try dsimp only at hr_260
                  obtain ⟨hbq_262, hbq_263, hbq_264, hpq_267, hwq_268, hr_260⟩ := hr_260
                  have h9R := zRe (ws' := [(xr, .inl (cI, 8, .inl fr)), (x0, .inr (7, [.ref xs, .ref j0, .ref k0, .ref w0, .ref rd, .ref mv, .ref xr, .int im, .int lf])), (j0, .inr (0, [.ref z0, .ref jp, .ref jc, .int cn, .int de, .int tr, .int se, .int hu, .int sd])), (w0, .inr (5, [.ref wk, .ref wl, .ref wc, .ref wp, .int q_262, .int q_263, .int q_264])), (wk, .inl (cI, 125, .inl q_265)), (wl, .inl (cI, 125, .inl q_266)), (wc, .inl (cI, 3, .inl q_267)), (wp, .inl (cP, 8, .inr (.inr (.inr (.inr q_268))))), (jp, .inl (cP, 8, .inr (.inr (.inr (.inr fp))))), (jc, .inl (cI, 3, .inl fjc))]) hP hD rfl
                  clear hP hD
                  obtain ⟨hP, hD⟩ := h9R
                  refine lv_istore (lv' := [(6, .int r_260), (5, .int i_71), (4, .int v_257), (3, .int v_256), (0, .ref x0), (1, .int 4), (2, .int w)]) hx hb dX7_haste_85 hl (by decide) rfl (fun ls hl => ?_)
                  refine lv_iload hx hb dX7_haste_87 (lv_at hl 0 rfl) ?_
                  refine lv_iload hx hb dX7_haste_89 (lv_at hl 2 rfl) ?_
                  refine lv_icmp_le (tgt := 101) hx hb dX7_haste_91 (by decide) (fun c_269 => ?_) (fun c_269 => ?_)
                  · have fc_269 : r_260.toInt ≤ v_257.toInt := zf_le c_269 rfl rfl
                    obtain ⟨x_270, ex_270⟩ : ∃ y : Int32, y = i_71 + 1 := ⟨_, rfl⟩
                    have qx_270 : x_270.toInt = i_71.toInt + 1 := by rw [ex_270]; exact zf_add rfl (by decide) (by omega) (by omega)
                    refine lv_iinc (v := x_270) (lv' := [(5, .int x_270), (6, .int r_260), (4, .int v_257), (3, .int v_256), (0, .ref x0), (1, .int 4), (2, .int w)]) hx hb dX7_haste_101 hl (k := 1) rfl ex_270.symm (by decide) rfl (fun ls hl => ?_)
                    refine lv_goto (tgt := 71) hx hb dX7_haste_104 (by decide) ?_
                    exact ih x_270 v_256 v_257 (q_264) (q_263) (q_262) (q_268) (q_267) (q_266) (q_265) _ _ _ (hP.sub [0, 1, 2, 3, 4, 5, 6, 7, 8, 9] rfl) (hD.sub [0, 1, 2, 3, 4, 5, 6, 7, 8, 9] (by decide) rfl) hS (lv_sub hl [0, 2, 3, 4, 5, 6] rfl) hpq_267 hwq_268 hbq_262 hbq_263 hbq_264 (dw_lo hloi_71 qx_270) (dw_hn hni_71 qx_270)
                  · have fc_269 : v_257.toInt < r_260.toInt := zf_nle c_269 rfl rfl
                    refine lv_iload hx hb dX7_haste_94 (lv_at hl 0 rfl) ?_
                    refine lv_istore (lv' := [(4, .int r_260), (6, .int r_260), (5, .int i_71), (3, .int v_256), (0, .ref x0), (1, .int 4), (2, .int w)]) hx hb dX7_haste_96 hl (by decide) rfl (fun ls hl => ?_)
                    refine lv_iload hx hb dX7_haste_98 (lv_at hl 2 rfl) ?_
                    refine lv_istore_n (lv' := [(3, .int i_71), (4, .int r_260), (6, .int r_260), (5, .int i_71), (0, .ref x0), (1, .int 4), (2, .int w)]) hx hb dX7_haste_100 rfl hl (by decide) rfl (fun ls hl => ?_)
                    obtain ⟨x_271, ex_271⟩ : ∃ y : Int32, y = i_71 + 1 := ⟨_, rfl⟩
                    have qx_271 : x_271.toInt = i_71.toInt + 1 := by rw [ex_271]; exact zf_add rfl (by decide) (by omega) (by omega)
                    refine lv_iinc (v := x_271) (lv' := [(5, .int x_271), (3, .int i_71), (4, .int r_260), (6, .int r_260), (0, .ref x0), (1, .int 4), (2, .int w)]) hx hb dX7_haste_101 hl (k := 3) rfl ex_271.symm (by decide) rfl (fun ls hl => ?_)
                    refine lv_goto (tgt := 71) hx hb dX7_haste_104 (by decide) ?_
                    exact ih x_271 i_71 r_260 (q_264) (q_263) (q_262) (q_268) (q_267) (q_266) (q_265) _ _ _ (hP.sub [0, 1, 2, 3, 4, 5, 6, 7, 8, 9] rfl) (hD.sub [0, 1, 2, 3, 4, 5, 6, 7, 8, 9] (by decide) rfl) hS (lv_sub hl [0, 2, 1, 4, 5, 6] rfl) hpq_267 hwq_268 hbq_262 hbq_263 hbq_264 (dw_lo hloi_71 qx_271) (dw_hn hni_71 qx_271)
            · have fc_239 : w.toInt = 1 := zf_eq c_239 rfl (by decide)
              refine lv_aload_n hx hb dX7_haste_36 rfl (lv_at hl 0 rfl) ?_
              refine lv_bipush (v := 9) hx hb dX7_haste_37 (by decide) ?_
              refine lv_iload_n hx hb dX7_haste_39 rfl (lv_at hl 1 rfl) ?_
              have kc9 : (9 : Int32).toInt = 9 := by decide
              skip
              refine zw_V (As := [.int 9, .int 4]) (rest := []) (wr := [(xr, .inl (cI, 8, .inl fr))]) ⟨hx, hb, hml, hown, hts⟩ (c_X_casesBy_4 l D cI cJ cZ cP cS po x0 xs j0 k0 w0 rd mv xr (im) (lf) ((fun _ => 0)) j0 jp jc z0 0 0 (cn) (de) (tr) (se) (hu) (sd) wk wl wc wp (wn) (wh) (wg) fq fk fl fc fjc fp kf af tf (9) hy0 hy1 hy2 hy3 hy4 hy5 hy6 hy7 hy8 hy9 hy10 hy11 hy12 hy13 hy14 hy15 hwq hjp (by omega) (by omega) hp_fc hp_fjc H.size) (cwV 2 hts gX7_haste_X7_casesBy rfl rfl rfl ⟨rfl, dh_X7_casesBy⟩ ⟨Nat.le_of_ble_eq_true rfl, Nat.le_of_ble_eq_true rfl⟩) hK hN (hZ.kept hS) hP hD hS hA [0, 2, 3, 4, 5, 6, 7, 8, 9] [1] rfl rfl (by decide) (by decide) (by decide) (va_recv (q := (RX7, TX7, 9)) hK hP (ci := 7) (q0 := 0) rfl rfl) rfl hl.1 rfl (Nat.le_of_ble_eq_true rfl) dX7_haste_40 ⟨Nat.le_of_ble_eq_true rfl, Nat.le_of_ble_eq_true rfl⟩ (fun r_272 u_273 H locs hr_272 hP hD hS => ?_)
              obtain ⟨q_274, q_275, q_276, q_277, q_278, q_279, q_280⟩ := u_273
              try dsimp only at hr_272
              obtain ⟨hbq_274, hbq_275, hbq_276, hpq_279, hwq_280, hr_272⟩ := hr_272
              have h9R := zRe (ws' := [(xr, .inl (cI, 8, .inl fr)), (x0, .inr (7, [.ref xs, .ref j0, .ref k0, .ref w0, .ref rd, .ref mv, .ref xr, .int im, .int lf])), (j0, .inr (0, [.ref z0, .ref jp, .ref jc, .int cn, .int de, .int tr, .int se, .int hu, .int sd])), (w0, .inr (5, [.ref wk, .ref wl, .ref wc, .ref wp, .int q_274, .int q_275, .int q_276])), (wk, .inl (cI, 125, .inl q_277)), (wl, .inl (cI, 125, .inl q_278)), (wc, .inl (cI, 3, .inl q_279)), (wp, .inl (cP, 8, .inr (.inr (.inr (.inr q_280))))), (jp, .inl (cP, 8, .inr (.inr (.inr (.inr fp))))), (jc, .inl (cI, 3, .inl fjc))]) hP hD rfl
              clear hP hD
              obtain ⟨hP, hD⟩ := h9R
              refine lv_aload_n hx hb dX7_haste_43 rfl (lv_at hl 0 rfl) ?_
              refine lv_iconst (v := 0) hx hb dX7_haste_44 (by decide) ?_
              refine lv_iload_n hx hb dX7_haste_45 rfl (lv_at hl 1 rfl) ?_
              skip
              refine zw_V (As := [.int 0, .int 4]) (rest := [.int r_272]) (wr := [(xr, .inl (cI, 8, .inl fr))]) ⟨hx, hb, hml, hown, hts⟩ (c_X_casesBy_4 l D cI cJ cZ cP cS po x0 xs j0 k0 w0 rd mv xr (im) (lf) ((fun _ => 0)) j0 jp jc z0 0 0 (cn) (de) (tr) (se) (hu) (sd) wk wl wc wp (q_274) (q_275) (q_276) q_280 q_277 q_278 q_279 fjc fp kf af tf (0) hy0 hy1 hy2 hy3 hy4 hy5 hy6 hy7 hy8 hy9 hbq_274.1 hbq_274.2 hbq_275.1 hbq_275.2 hbq_276.1 hbq_276.2 hwq_280 hjp (by omega) (by omega) hpq_279 hp_fjc H.size) (cwV 2 hts gX7_haste_X7_casesBy rfl rfl rfl ⟨rfl, dh_X7_casesBy⟩ ⟨Nat.le_of_ble_eq_true rfl, Nat.le_of_ble_eq_true rfl⟩) hK hN (hZ.kept hS) hP hD hS hA [1, 2, 3, 4, 5, 6, 7, 8, 9] [0] rfl rfl (by decide) (by decide) (by decide) (va_recv (q := (RX7, TX7, 9)) hK hP (ci := 7) (q0 := 1) rfl rfl) rfl hl.1 rfl (Nat.le_of_ble_eq_true rfl) dX7_haste_46 ⟨Nat.le_of_ble_eq_true rfl, Nat.le_of_ble_eq_true rfl⟩ (fun r_281 u_282 H locs hr_281 hP hD hS => ?_)
              obtain ⟨q_283, q_284, q_285, q_286, q_287, q_288, q_289⟩ := u_282
              try dsimp only at hr_281
              obtain ⟨hbq_283, hbq_284, hbq_285, hpq_288, hwq_289, hr_281⟩ := hr_281
              have h9R := zRe (ws' := [(xr, .inl (cI, 8, .inl fr)), (x0, .inr (7, [.ref xs, .ref j0, .ref k0, .ref w0, .ref rd, .ref mv, .ref xr, .int im, .int lf])), (j0, .inr (0, [.ref z0, .ref jp, .ref jc, .int cn, .int de, .int tr, .int se, .int hu, .int sd])), (w0, .inr (5, [.ref wk, .ref wl, .ref wc, .ref wp, .int q_283, .int q_284, .int q_285])), (wk, .inl (cI, 125, .inl q_286)), (wl, .inl (cI, 125, .inl q_287)), (wc, .inl (cI, 3, .inl q_288)), (wp, .inl (cP, 8, .inr (.inr (.inr (.inr q_289))))), (jp, .inl (cP, 8, .inr (.inr (.inr (.inr fp))))), (jc, .inl (cI, 3, .inl fjc))]) hP hD rfl
              clear hP hD
              obtain ⟨hP, hD⟩ := h9R
              refine lv_icmp_ge (tgt := 56) hx hb dX7_haste_49 (by decide) (fun c_290 => ?_) (fun c_290 => ?_)
              · have fc_290 : r_281.toInt ≤ r_272.toInt := zf_le c_290 rfl rfl
                refine lv_iconst (v := 0) hx hb dX7_haste_56 (by decide) ?_
                exact W.iret (v := 0) hx hb hr (fun t ht hW => ⟨⟨0, (q_283, q_284, q_285, q_286, q_287, q_288, q_289, fr), rfl, ⟨(show 0 ≤ q_283.toInt ∧ q_283.toInt ≤ 8 from hbq_283), (show 0 ≤ q_284.toInt ∧ q_284.toInt ≤ 9 from hbq_284), (show 0 ≤ q_285.toInt ∧ q_285.toInt ≤ 60 from hbq_285), hpq_288, hwq_289, trivial⟩, zRet ht hP hD [1, 0, 2, 3, 4, 5, 6, 7, 8, 9] (by decide) rfl⟩, hS.F ht⟩) hS.2.2 dX7_haste_57
              · have fc_290 : r_272.toInt < r_281.toInt := zf_nle c_290 rfl rfl
                refine lv_iconst (v := 1) hx hb dX7_haste_52 (by decide) ?_
                refine lv_goto (tgt := 57) hx hb dX7_haste_53 (by decide) ?_
                exact W.iret (v := 1) hx hb hr (fun t ht hW => ⟨⟨1, (q_283, q_284, q_285, q_286, q_287, q_288, q_289, fr), rfl, ⟨(show 0 ≤ q_283.toInt ∧ q_283.toInt ≤ 8 from hbq_283), (show 0 ≤ q_284.toInt ∧ q_284.toInt ≤ 9 from hbq_284), (show 0 ≤ q_285.toInt ∧ q_285.toInt ≤ 60 from hbq_285), hpq_288, hwq_289, trivial⟩, zRet ht hP hD [1, 0, 2, 3, 4, 5, 6, 7, 8, 9] (by decide) rfl⟩, hS.F ht⟩) hS.2.2 dX7_haste_57
        · exact absurd c_30 (by decide)
    · exact absurd c_15 (by decide)
theorem hi_X7_winter_7 : ∀ w ∈ u_ws RX7 TX7 9, w ∈ wsX7_winter := fun w h => (gl_X7_winter_X70 w h).1
theorem hi_X7_winter_0 : ∀ w ∈ u_ws RX0 TX0 9, w ∈ wsX7_winter := fun w h => (gl_X7_winter_X00 w h).1
set_option maxHeartbeats 4000000 in
set_option maxRecDepth 100000 in
theorem c_X_winter (l : Launch) (D : va_G) (cI cJ cZ cP cS : ClassId) (po : zPool) (x0 xs j0 k0 w0 rd mv xr : Nat) (im lf : Int32) (fr : Nat → Int32) (j0 jp jc z0 zl zs : Nat) (cn de tr se hu sd : Int32) (sz at_ gp : Int32) (wk wl wc wp : Nat) (wn wh wg : Int32) (fq : Nat → Option Nat) (fk fl fc fjc : Nat → Int32) (fp : Nat → Option Nat) (kf af tf : Nat → Int32) (zfl zfs : Nat → Int32) (n : Int32) (hy0 : 0 ≤ im.toInt) (hy1 : im.toInt ≤ 1) (hy2 : (-1) ≤ lf.toInt) (hy3 : lf.toInt ≤ 160) (hy4 : 0 ≤ cn.toInt) (hy5 : cn.toInt ≤ 8) (hy6 : 0 ≤ de.toInt) (hy7 : de.toInt ≤ 24) (hy8 : 0 ≤ hu.toInt) (hy9 : hu.toInt ≤ 9) (hy10 : 4 ≤ sz.toInt) (hy11 : sz.toInt ≤ 40) (hy12 : 0 ≤ at_.toInt) (hy13 : at_.toInt ≤ 40) (hy14 : 1 ≤ gp.toInt) (hy15 : gp.toInt ≤ 9) (hy16 : 0 ≤ wn.toInt) (hy17 : wn.toInt ≤ 8) (hy18 : 0 ≤ wh.toInt) (hy19 : wh.toInt ≤ 9) (hy20 : 0 ≤ wg.toInt) (hy21 : wg.toInt ≤ 60) (hwq : zWP po fq) (hjp : zJP po fp cn kf af tf) (hp_fc : zRg fc (0) 99) (hp_fjc : zRg fjc (0) 99) (hp_zfl : zRg zfl (0) 1) (hp_zfs : zRg zfs (0) 9) (hpz : Nat) : Met l yX7_winter wsX7_winter ({ frames := 8, cells := 0, slots := 0, locals := 199 }) (va_Pc [.ref x0, .int n] (zW D (zKT cI cJ cZ cP cS) po [(x0, .inr (7, [.ref xs, .ref j0, .ref k0, .ref w0, .ref rd, .ref mv, .ref xr, .int im, .int lf])), (xr, .inl (cI, 8, .inl fr)), (j0, .inr (0, [.ref z0, .ref jp, .ref jc, .int cn, .int de, .int tr, .int se, .int hu, .int sd])), (z0, .inr (6, [.ref zl, .ref zs, .int sz, .int at_, .int gp])), (w0, .inr (5, [.ref wk, .ref wl, .ref wc, .ref wp, .int wn, .int wh, .int wg])), (wk, .inl (cI, 125, .inl fk)), (wl, .inl (cI, 125, .inl fl)), (wc, .inl (cI, 3, .inl fc)), (wp, .inl (cP, 8, .inr (.inr (.inr (.inr fq))))), (jp, .inl (cP, 8, .inr (.inr (.inr (.inr fp))))), (jc, .inl (cI, 3, .inl fjc)), (zl, .inl (cZ, 40, .inl zfl)), (zs, .inl (cI, 40, .inl zfs))] hpz)) (va_Qi (fun (r : Int32) (u : (Int32) × (Int32) × (Int32) × (Nat → Int32) × (Nat → Int32) × (Nat → Int32) × (Nat → Option Nat) × (Int32) × (Int32) × (Int32) × (Int32) × (Int32) × (Nat → Int32)) => (0 ≤ u.1.toInt ∧ u.1.toInt ≤ 8) ∧ (0 ≤ u.2.1.toInt ∧ u.2.1.toInt ≤ 9) ∧ (0 ≤ u.2.2.1.toInt ∧ u.2.2.1.toInt ≤ 60) ∧ zRg u.2.2.2.2.2.1 (0) 99 ∧ zWP po u.2.2.2.2.2.2.1 ∧ (0 ≤ u.2.2.2.2.2.2.2.1.toInt ∧ u.2.2.2.2.2.2.2.1.toInt ≤ 24) ∧ (0 ≤ u.2.2.2.2.2.2.2.2.2.2.2.1.toInt ∧ u.2.2.2.2.2.2.2.2.2.2.2.1.toInt ≤ 40) ∧ (True)) (zB D [(x0, .inr (7, [.ref xs, .ref j0, .ref k0, .ref w0, .ref rd, .ref mv, .ref xr, .int im, .int lf])), (xr, .inl (cI, 8, .inl fr)), (j0, .inr (0, [.ref z0, .ref jp, .ref jc, .int cn, .int de, .int tr, .int se, .int hu, .int sd])), (z0, .inr (6, [.ref zl, .ref zs, .int sz, .int at_, .int gp])), (w0, .inr (5, [.ref wk, .ref wl, .ref wc, .ref wp, .int wn, .int wh, .int wg])), (wk, .inl (cI, 125, .inl fk)), (wl, .inl (cI, 125, .inl fl)), (wc, .inl (cI, 3, .inl fc)), (wp, .inl (cP, 8, .inr (.inr (.inr (.inr fq))))), (jp, .inl (cP, 8, .inr (.inr (.inr (.inr fp))))), (jc, .inl (cI, 3, .inl fjc)), (zl, .inl (cZ, 40, .inl zfl)), (zs, .inl (cI, 40, .inl zfs))] hpz (fun (u : (Int32) × (Int32) × (Int32) × (Nat → Int32) × (Nat → Int32) × (Nat → Int32) × (Nat → Option Nat) × (Int32) × (Int32) × (Int32) × (Int32) × (Int32) × (Nat → Int32)) => [(x0, .inr (7, [.ref xs, .ref j0, .ref k0, .ref w0, .ref rd, .ref mv, .ref xr, .int im, .int lf])), (xr, .inl (cI, 8, .inl u.2.2.2.2.2.2.2.2.2.2.2.2)), (j0, .inr (0, [.ref z0, .ref jp, .ref jc, .int cn, .int u.2.2.2.2.2.2.2.1, .int u.2.2.2.2.2.2.2.2.1, .int u.2.2.2.2.2.2.2.2.2.1, .int hu, .int u.2.2.2.2.2.2.2.2.2.2.1])), (z0, .inr (6, [.ref zl, .ref zs, .int sz, .int u.2.2.2.2.2.2.2.2.2.2.2.1, .int gp])), (w0, .inr (5, [.ref wk, .ref wl, .ref wc, .ref wp, .int u.1, .int u.2.1, .int u.2.2.1])), (wk, .inl (cI, 125, .inl u.2.2.2.1)), (wl, .inl (cI, 125, .inl u.2.2.2.2.1)), (wc, .inl (cI, 3, .inl u.2.2.2.2.2.1)), (wp, .inl (cP, 8, .inr (.inr (.inr (.inr u.2.2.2.2.2.2.1))))), (jp, .inl (cP, 8, .inr (.inr (.inr (.inr fp))))), (jc, .inl (cI, 3, .inl fjc)), (zl, .inl (cZ, 40, .inl zfl)), (zs, .inl (cI, 40, .inl zfs))])) (va_A [(x0, .inr (7, [.ref xs, .ref j0, .ref k0, .ref w0, .ref rd, .ref mv, .ref xr, .int im, .int lf])), (xr, .inl (cI, 8, .inl fr)), (j0, .inr (0, [.ref z0, .ref jp, .ref jc, .int cn, .int de, .int tr, .int se, .int hu, .int sd])), (z0, .inr (6, [.ref zl, .ref zs, .int sz, .int at_, .int gp])), (w0, .inr (5, [.ref wk, .ref wl, .ref wc, .ref wp, .int wn, .int wh, .int wg])), (wk, .inl (cI, 125, .inl fk)), (wl, .inl (cI, 125, .inl fl)), (wc, .inl (cI, 3, .inl fc)), (wp, .inl (cP, 8, .inr (.inr (.inr (.inr fq))))), (jp, .inl (cP, 8, .inr (.inr (.inr (.inr fp))))), (jc, .inl (cI, 3, .inl fjc)), (zl, .inl (cZ, 40, .inl zfl)), (zs, .inl (cI, 40, .inl zfs))] hpz)) 0 0 (va_A [(x0, .inr (7, [.ref xs, .ref j0, .ref k0, .ref w0, .ref rd, .ref mv, .ref xr, .int im, .int lf])), (xr, .inl (cI, 8, .inl fr)), (j0, .inr (0, [.ref z0, .ref jp, .ref jc, .int cn, .int de, .int tr, .int se, .int hu, .int sd])), (z0, .inr (6, [.ref zl, .ref zs, .int sz, .int at_, .int gp])), (w0, .inr (5, [.ref wk, .ref wl, .ref wc, .ref wp, .int wn, .int wh, .int wg])), (wk, .inl (cI, 125, .inl fk)), (wl, .inl (cI, 125, .inl fl)), (wc, .inl (cI, 3, .inl fc)), (wp, .inl (cP, 8, .inr (.inr (.inr (.inr fq))))), (jp, .inl (cP, 8, .inr (.inr (.inr (.inr fp))))), (jc, .inl (cI, 3, .inl fjc)), (zl, .inl (cZ, 40, .inl zfl)), (zs, .inl (cI, 40, .inl zfs))] hpz) := by
  refine Met.ofW (cc := cX7_winter) (maxL := 4) (ret := (some .int)) (by decide) rfl ?_
  intro p e s m args below meth c s₁ B hml hv
  obtain ⟨rfl, hsz, hP, hK, hD0, hN, hZ⟩ := hv
  have hx := B.exec
  have hb := B.bytes
  have hr := B.returns
  have hts := atoms_spec (ws := wsX7_winter) B.pre
  have hown : s.vm.findClass RX7 = some m.cls := findClass_of_methodNamed B.named
  have hlocks := B.notSynchronized
  subst hsz
  have hD := hD0.self (sz := s.heap.size)
  have hA := zA_of hD
  have hl := lv_entry ([.ref x0, .int n]) (n := 4) (Nat.le_of_ble_eq_true rfl)
  rw [lg_entry_eq]
  generalize (lg_sl ([.ref x0, .int n]) ++ List.replicate (4 - (lg_sl ([.ref x0, .int n])).length) Slot.unset).toArray = ls at hl ⊢
  replace hl : lv_has ls 4 [(0, .ref x0), (1, .int n)] := hl
  refine zw_begin hP hD (fun H locs hP1 hS => ?_)
  clear hP
  have hP := hP1
  clear hP1
  refine lv_iload_n hx hb dX7_winter_0 rfl (lv_at hl 1 rfl) ?_
  refine lv_iconst (v := 1) hx hb dX7_winter_1 (by decide) ?_
  refine lv_bipush (v := 60) hx hb dX7_winter_2 (by decide) ?_
  have kc1 : (1 : Int32).toInt = 1 := by decide
  have kc60 : (60 : Int32).toInt = 60 := by decide
  refine zc_S (As := [.int n, .int 1, .int 60]) (rest := []) ⟨hx, hb, hml, hown, hts⟩ (c_within l D cI cJ cZ cP cS po (n) (1) (60) ) (va_cwS 3 hts gX7_winter_X7_within rfl rfl rfl dh_X7_within ⟨Nat.le_of_ble_eq_true rfl, Nat.le_of_ble_eq_true rfl⟩) hK hN (hZ.kept hS) rfl hl.1 rfl (Nat.le_of_ble_eq_true rfl) dX7_winter_4 ⟨Nat.le_of_ble_eq_true rfl, Nat.le_of_ble_eq_true rfl⟩ (fun r_1 hr_1 => ?_)
  rcases hr_1 with ⟨rfl, g_2⟩ | ⟨rfl, g_3, g_4⟩ | ⟨rfl, g_5, g_6⟩
  · refine lv_if_ne (tgt := 17) hx hb dX7_winter_7 (by decide) (fun c_7 => ?_) (fun c_7 => ?_)
    · exact absurd c_7 (by decide)
    · refine lv_aload_n hx hb dX7_winter_10 rfl (lv_at hl 0 rfl) ?_
      refine lv_bipush (v := 6) hx hb dX7_winter_11 (by decide) ?_
      skip
      refine zw_V (As := [.int 6]) (rest := []) (wr := [(j0, .inr (0, [.ref z0, .ref jp, .ref jc, .int cn, .int de, .int tr, .int se, .int hu, .int sd])), (z0, .inr (6, [.ref zl, .ref zs, .int sz, .int at_, .int gp])), (w0, .inr (5, [.ref wk, .ref wl, .ref wc, .ref wp, .int wn, .int wh, .int wg])), (wk, .inl (cI, 125, .inl fk)), (wl, .inl (cI, 125, .inl fl)), (wc, .inl (cI, 3, .inl fc)), (wp, .inl (cP, 8, .inr (.inr (.inr (.inr fq))))), (jp, .inl (cP, 8, .inr (.inr (.inr (.inr fp))))), (jc, .inl (cI, 3, .inl fjc)), (zl, .inl (cZ, 40, .inl zfl)), (zs, .inl (cI, 40, .inl zfs))]) ⟨hx, hb, hml, hown, hts⟩ (c_X_refuse_6 l D cI cJ cZ cP cS po x0 xs j0 k0 w0 rd mv xr (im) (lf) fr hy0 hy1 hy2 hy3 H.size) (cwV 1 hts gX7_winter_X7_refuse rfl rfl rfl ⟨rfl, dh_X7_refuse⟩ ⟨Nat.le_of_ble_eq_true rfl, Nat.le_of_ble_eq_true rfl⟩) hK hN (hZ.kept hS) hP hD hS hA [0, 1] [2, 3, 4, 5, 6, 7, 8, 9, 10, 11, 12] rfl rfl (by decide) (by decide) (by decide) (va_recv (q := (RX7, TX7, 9)) hK hP (ci := 7) (q0 := 0) rfl rfl) rfl hl.1 rfl (Nat.le_of_ble_eq_true rfl) dX7_winter_13 ⟨Nat.le_of_ble_eq_true rfl, Nat.le_of_ble_eq_true rfl⟩ (fun r_8 u_9 H locs hr_8 hP hD hS => ?_)
      obtain ⟨q_10, rfl⟩ : ∃ z, z = u_9 := ⟨_, rfl⟩
      have h9R := zRe (ws' := [(j0, .inr (0, [.ref z0, .ref jp, .ref jc, .int cn, .int de, .int tr, .int se, .int hu, .int sd])), (z0, .inr (6, [.ref zl, .ref zs, .int sz, .int at_, .int gp])), (w0, .inr (5, [.ref wk, .ref wl, .ref wc, .ref wp, .int wn, .int wh, .int wg])), (wk, .inl (cI, 125, .inl fk)), (wl, .inl (cI, 125, .inl fl)), (wc, .inl (cI, 3, .inl fc)), (wp, .inl (cP, 8, .inr (.inr (.inr (.inr fq))))), (jp, .inl (cP, 8, .inr (.inr (.inr (.inr fp))))), (jc, .inl (cI, 3, .inl fjc)), (zl, .inl (cZ, 40, .inl zfl)), (zs, .inl (cI, 40, .inl zfs)), (x0, .inr (7, [.ref xs, .ref j0, .ref k0, .ref w0, .ref rd, .ref mv, .ref xr, .int im, .int lf])), (xr, .inl (cI, 8, .inl q_10))]) hP hD rfl
      clear hP hD
      obtain ⟨hP, hD⟩ := h9R
      obtain rfl := hr_8
      exact W.iret (v := (-6)) hx hb hr (fun t ht hW => ⟨⟨(-6), (wn, wh, wg, fk, fl, fc, fq, de, tr, se, sd, at_, q_10), rfl, ⟨(show 0 ≤ wn.toInt ∧ wn.toInt ≤ 8 from ⟨hy16, hy17⟩), (show 0 ≤ wh.toInt ∧ wh.toInt ≤ 9 from ⟨hy18, hy19⟩), (show 0 ≤ wg.toInt ∧ wg.toInt ≤ 60 from ⟨hy20, hy21⟩), hp_fc, hwq, (show 0 ≤ de.toInt ∧ de.toInt ≤ 24 from ⟨hy6, hy7⟩), (show 0 ≤ at_.toInt ∧ at_.toInt ≤ 40 from ⟨hy12, hy13⟩), trivial⟩, zRet ht hP hD [11, 12, 0, 1, 2, 3, 4, 5, 6, 7, 8, 9, 10] (by decide) rfl⟩, hS.F ht⟩) hS.2.2 dX7_winter_16
  · refine lv_if_ne (tgt := 17) hx hb dX7_winter_7 (by decide) (fun c_11 => ?_) (fun c_11 => ?_)
    · exact absurd c_11 (by decide)
    · refine lv_aload_n hx hb dX7_winter_10 rfl (lv_at hl 0 rfl) ?_
      refine lv_bipush (v := 6) hx hb dX7_winter_11 (by decide) ?_
      skip
      refine zw_V (As := [.int 6]) (rest := []) (wr := [(j0, .inr (0, [.ref z0, .ref jp, .ref jc, .int cn, .int de, .int tr, .int se, .int hu, .int sd])), (z0, .inr (6, [.ref zl, .ref zs, .int sz, .int at_, .int gp])), (w0, .inr (5, [.ref wk, .ref wl, .ref wc, .ref wp, .int wn, .int wh, .int wg])), (wk, .inl (cI, 125, .inl fk)), (wl, .inl (cI, 125, .inl fl)), (wc, .inl (cI, 3, .inl fc)), (wp, .inl (cP, 8, .inr (.inr (.inr (.inr fq))))), (jp, .inl (cP, 8, .inr (.inr (.inr (.inr fp))))), (jc, .inl (cI, 3, .inl fjc)), (zl, .inl (cZ, 40, .inl zfl)), (zs, .inl (cI, 40, .inl zfs))]) ⟨hx, hb, hml, hown, hts⟩ (c_X_refuse_6 l D cI cJ cZ cP cS po x0 xs j0 k0 w0 rd mv xr (im) (lf) fr hy0 hy1 hy2 hy3 H.size) (cwV 1 hts gX7_winter_X7_refuse rfl rfl rfl ⟨rfl, dh_X7_refuse⟩ ⟨Nat.le_of_ble_eq_true rfl, Nat.le_of_ble_eq_true rfl⟩) hK hN (hZ.kept hS) hP hD hS hA [0, 1] [2, 3, 4, 5, 6, 7, 8, 9, 10, 11, 12] rfl rfl (by decide) (by decide) (by decide) (va_recv (q := (RX7, TX7, 9)) hK hP (ci := 7) (q0 := 0) rfl rfl) rfl hl.1 rfl (Nat.le_of_ble_eq_true rfl) dX7_winter_13 ⟨Nat.le_of_ble_eq_true rfl, Nat.le_of_ble_eq_true rfl⟩ (fun r_12 u_13 H locs hr_12 hP hD hS => ?_)
      obtain ⟨q_14, rfl⟩ : ∃ z, z = u_13 := ⟨_, rfl⟩
      have h9R := zRe (ws' := [(j0, .inr (0, [.ref z0, .ref jp, .ref jc, .int cn, .int de, .int tr, .int se, .int hu, .int sd])), (z0, .inr (6, [.ref zl, .ref zs, .int sz, .int at_, .int gp])), (w0, .inr (5, [.ref wk, .ref wl, .ref wc, .ref wp, .int wn, .int wh, .int wg])), (wk, .inl (cI, 125, .inl fk)), (wl, .inl (cI, 125, .inl fl)), (wc, .inl (cI, 3, .inl fc)), (wp, .inl (cP, 8, .inr (.inr (.inr (.inr fq))))), (jp, .inl (cP, 8, .inr (.inr (.inr (.inr fp))))), (jc, .inl (cI, 3, .inl fjc)), (zl, .inl (cZ, 40, .inl zfl)), (zs, .inl (cI, 40, .inl zfs)), (x0, .inr (7, [.ref xs, .ref j0, .ref k0, .ref w0, .ref rd, .ref mv, .ref xr, .int im, .int lf])), (xr, .inl (cI, 8, .inl q_14))]) hP hD rfl
      clear hP hD
      obtain ⟨hP, hD⟩ := h9R
      obtain rfl := hr_12
      exact W.iret (v := (-6)) hx hb hr (fun t ht hW => ⟨⟨(-6), (wn, wh, wg, fk, fl, fc, fq, de, tr, se, sd, at_, q_14), rfl, ⟨(show 0 ≤ wn.toInt ∧ wn.toInt ≤ 8 from ⟨hy16, hy17⟩), (show 0 ≤ wh.toInt ∧ wh.toInt ≤ 9 from ⟨hy18, hy19⟩), (show 0 ≤ wg.toInt ∧ wg.toInt ≤ 60 from ⟨hy20, hy21⟩), hp_fc, hwq, (show 0 ≤ de.toInt ∧ de.toInt ≤ 24 from ⟨hy6, hy7⟩), (show 0 ≤ at_.toInt ∧ at_.toInt ≤ 40 from ⟨hy12, hy13⟩), trivial⟩, zRet ht hP hD [11, 12, 0, 1, 2, 3, 4, 5, 6, 7, 8, 9, 10] (by decide) rfl⟩, hS.F ht⟩) hS.2.2 dX7_winter_16
  · refine lv_if_ne (tgt := 17) hx hb dX7_winter_7 (by decide) (fun c_15 => ?_) (fun c_15 => ?_)
    · refine lv_aload_n hx hb dX7_winter_17 rfl (lv_at hl 0 rfl) ?_
      refine va_get (D := D) (ci := 7) (v := .ref w0) (C := RX7) (T := TX7) (N := 9) hx hb hts hi_X7_winter_7 hown hK hP 0 rfl rfl 3 (by decide) (hts (.fieldLink RX7 28 "TheLiningsInIt" "ways" "LTheLiningsInIt$Ways;") (List.mem_of_getElem? (i := 1) rfl)) (fun _ h9 => h9) rfl dX7_winter_18 ?_
      refine lv_aload_n hx hb dX7_winter_21 rfl (lv_at hl 0 rfl) ?_
      refine va_get (D := D) (ci := 7) (v := .ref j0) (C := RX7) (T := TX7) (N := 9) hx hb hts hi_X7_winter_7 hown hK hP 0 rfl rfl 1 (by decide) (hts (.fieldLink RX7 18 "TheLiningsInIt" "now" "LTheLiningsInIt$Jacket;") (List.mem_of_getElem? (i := 2) rfl)) (fun _ h9 => h9) rfl dX7_winter_22 ?_
      refine lv_aload_n hx hb dX7_winter_25 rfl (lv_at hl 0 rfl) ?_
      refine va_get (D := D) (ci := 7) (v := .ref j0) (C := RX7) (T := TX7) (N := 9) hx hb hts hi_X7_winter_7 hown hK hP 0 rfl rfl 1 (by decide) (hts (.fieldLink RX7 18 "TheLiningsInIt" "now" "LTheLiningsInIt$Jacket;") (List.mem_of_getElem? (i := 2) rfl)) (fun _ h9 => h9) rfl dX7_winter_26 ?_
      refine va_get (D := D) (ci := 0) (v := .int hu) (C := RX0) (T := TX0) (N := 9) hx hb hts hi_X7_winter_0 hown hK hP 2 rfl rfl 7 (by decide) (hts (.fieldLink RX7 116 "TheLiningsInIt$Jacket" "hurry" "I") (List.mem_of_getElem? (i := 3) rfl)) (fun _ h9 => h9) rfl dX7_winter_29 ?_
      refine lv_iconst (v := 1) hx hb dX7_winter_32 (by decide) ?_
      skip
      refine zw_Vv (As := [.ref j0, .int hu, .int 1]) (rest := []) (wr := [(x0, .inr (7, [.ref xs, .ref j0, .ref k0, .ref w0, .ref rd, .ref mv, .ref xr, .int im, .int lf])), (xr, .inl (cI, 8, .inl fr)), (z0, .inr (6, [.ref zl, .ref zs, .int sz, .int at_, .int gp])), (zl, .inl (cZ, 40, .inl zfl)), (zs, .inl (cI, 40, .inl zfs))]) ⟨hx, hb, hml, hown, hts⟩ (c_W_look l D cI cJ cZ cP cS po w0 wk wl wc wp (wn) (wh) (wg) j0 jp jc z0 0 0 (cn) (de) (tr) (se) (hu) (sd) fp fq kf af tf fk fl fc fjc (hu) (1) hy16 hy17 hy18 hy19 hy20 hy21 hy4 hy5 hy6 hy7 hy8 hy9 hy8 hy9 hwq hjp hp_fc hp_fjc H.size) (cwV 3 hts gX7_winter_X5_look rfl rfl rfl ⟨rfl, dh_X5_look⟩ ⟨Nat.le_of_ble_eq_true rfl, Nat.le_of_ble_eq_true rfl⟩) hK hN (hZ.kept hS) hP hD hS hA [4, 5, 6, 7, 8, 2, 9, 10] [0, 1, 3, 11, 12] rfl rfl (by decide) (by decide) (by decide) (va_recv (q := (RX5, TX5, 7)) hK hP (ci := 5) (q0 := 4) rfl rfl) rfl hl.1 rfl (Nat.le_of_ble_eq_true rfl) dX7_winter_33 ⟨Nat.le_of_ble_eq_true rfl, Nat.le_of_ble_eq_true rfl⟩ (fun u_17 H locs hr_16 hP hD hS => ?_)
      obtain ⟨q_18, q_19, q_20, q_21, q_22, q_23, q_24⟩ := u_17
      try dsimp only at hr_16
      obtain ⟨hbq_18, hbq_19, hbq_20, hpq_23, hwq_24, hr_16⟩ := hr_16
      have h9R := zRe (ws' := [(x0, .inr (7, [.ref xs, .ref j0, .ref k0, .ref w0, .ref rd, .ref mv, .ref xr, .int im, .int lf])), (xr, .inl (cI, 8, .inl fr)), (z0, .inr (6, [.ref zl, .ref zs, .int sz, .int at_, .int gp])), (zl, .inl (cZ, 40, .inl zfl)), (zs, .inl (cI, 40, .inl zfs)), (w0, .inr (5, [.ref wk, .ref wl, .ref wc, .ref wp, .int q_18, .int q_19, .int q_20])), (wk, .inl (cI, 125, .inl q_21)), (wl, .inl (cI, 125, .inl q_22)), (wc, .inl (cI, 3, .inl q_23)), (wp, .inl (cP, 8, .inr (.inr (.inr (.inr q_24))))), (j0, .inr (0, [.ref z0, .ref jp, .ref jc, .int cn, .int de, .int tr, .int se, .int hu, .int sd])), (jp, .inl (cP, 8, .inr (.inr (.inr (.inr fp))))), (jc, .inl (cI, 3, .inl fjc))]) hP hD rfl
      clear hP hD
      obtain ⟨hP, hD⟩ := h9R
      refine lv_iconst (v := 0) hx hb dX7_winter_36 (by decide) ?_
      refine lv_istore_n (lv' := [(2, .int 0), (0, .ref x0), (1, .int n)]) hx hb dX7_winter_37 rfl hl (by decide) rfl (fun ls hl => ?_)
      refine lv_iconst (v := 0) hx hb dX7_winter_38 (by decide) ?_
      refine lv_istore_n (lv' := [(3, .int 0), (2, .int 0), (0, .ref x0), (1, .int n)]) hx hb dX7_winter_39 rfl hl (by decide) rfl (fun ls hl => ?_)
      obtain ⟨i_40, hi_40⟩ : ∃ i : Int32, i = 0 := ⟨_, rfl⟩
      replace hl : lv_has ls 4 [(3, .int i_40), (2, .int 0), (0, .ref x0), (1, .int n)] := by rw [hi_40]; exact lv_sub hl [0, 1, 2, 3] rfl
      have h1i_40 : i_40.toInt = 0 := by rw [hi_40]; decide
      obtain ⟨nfu, hni_40⟩ : ∃ nq9 : Nat, n.toInt ≤ i_40.toInt + (nq9 : Int) := ⟨((n.toInt : Int) - 0).toNat, by omega⟩
      have hloi_40 : 0 ≤ i_40.toInt := by omega
      obtain ⟨g_25, hg_25⟩ : ∃ g : Nat → Int32, g = q_21 := ⟨_, rfl⟩
      obtain ⟨v_26, hv_26⟩ : ∃ g : Int32, g = de := ⟨_, rfl⟩
      have hbv_26 : 0 ≤ v_26.toInt ∧ v_26.toInt ≤ 24 := by rw [hv_26]; exact ⟨by omega, by omega⟩
      obtain ⟨v_27, hv_27⟩ : ∃ g : Int32, g = tr := ⟨_, rfl⟩
      obtain ⟨v_28, hv_28⟩ : ∃ g : Int32, g = se := ⟨_, rfl⟩
      obtain ⟨v_29, hv_29⟩ : ∃ g : Int32, g = sd := ⟨_, rfl⟩
      obtain ⟨v_30, hv_30⟩ : ∃ g : Int32, g = at_ := ⟨_, rfl⟩
      have hbv_30 : 0 ≤ v_30.toInt ∧ v_30.toInt ≤ 40 := by rw [hv_30]; exact ⟨by omega, by omega⟩
      replace hP : va_P D vwCl [(x0, .inr (7, [.ref xs, .ref j0, .ref k0, .ref w0, .ref rd, .ref mv, .ref xr, .int im, .int lf])), (xr, .inl (cI, 8, .inl fr)), (z0, .inr (6, [.ref zl, .ref zs, .int sz, .int v_30, .int gp])), (zl, .inl (cZ, 40, .inl zfl)), (zs, .inl (cI, 40, .inl zfs)), (w0, .inr (5, [.ref wk, .ref wl, .ref wc, .ref wp, .int q_18, .int q_19, .int q_20])), (wk, .inl (cI, 125, .inl g_25)), (wl, .inl (cI, 125, .inl q_22)), (wc, .inl (cI, 3, .inl q_23)), (wp, .inl (cP, 8, .inr (.inr (.inr (.inr q_24))))), (j0, .inr (0, [.ref z0, .ref jp, .ref jc, .int cn, .int v_26, .int v_27, .int v_28, .int hu, .int v_29])), (jp, .inl (cP, 8, .inr (.inr (.inr (.inr fp))))), (jc, .inl (cI, 3, .inl fjc))] H := by rw [hg_25, hv_26, hv_27, hv_28, hv_29, hv_30]; exact hP
      replace hD : va_D (va_A [(x0, .inr (7, [.ref xs, .ref j0, .ref k0, .ref w0, .ref rd, .ref mv, .ref xr, .int im, .int lf])), (xr, .inl (cI, 8, .inl fr)), (j0, .inr (0, [.ref z0, .ref jp, .ref jc, .int cn, .int de, .int tr, .int se, .int hu, .int sd])), (z0, .inr (6, [.ref zl, .ref zs, .int sz, .int at_, .int gp])), (w0, .inr (5, [.ref wk, .ref wl, .ref wc, .ref wp, .int wn, .int wh, .int wg])), (wk, .inl (cI, 125, .inl fk)), (wl, .inl (cI, 125, .inl fl)), (wc, .inl (cI, 3, .inl fc)), (wp, .inl (cP, 8, .inr (.inr (.inr (.inr fq))))), (jp, .inl (cP, 8, .inr (.inr (.inr (.inr fp))))), (jc, .inl (cI, 3, .inl fjc)), (zl, .inl (cZ, 40, .inl zfl)), (zs, .inl (cI, 40, .inl zfs))] s.heap.size) [(x0, .inr (7, [.ref xs, .ref j0, .ref k0, .ref w0, .ref rd, .ref mv, .ref xr, .int im, .int lf])), (xr, .inl (cI, 8, .inl fr)), (z0, .inr (6, [.ref zl, .ref zs, .int sz, .int v_30, .int gp])), (zl, .inl (cZ, 40, .inl zfl)), (zs, .inl (cI, 40, .inl zfs)), (w0, .inr (5, [.ref wk, .ref wl, .ref wc, .ref wp, .int q_18, .int q_19, .int q_20])), (wk, .inl (cI, 125, .inl g_25)), (wl, .inl (cI, 125, .inl q_22)), (wc, .inl (cI, 3, .inl q_23)), (wp, .inl (cP, 8, .inr (.inr (.inr (.inr q_24))))), (j0, .inr (0, [.ref z0, .ref jp, .ref jc, .int cn, .int v_26, .int v_27, .int v_28, .int hu, .int v_29])), (jp, .inl (cP, 8, .inr (.inr (.inr (.inr fp))))), (jc, .inl (cI, 3, .inl fjc))] := by rw [hg_25, hv_26, hv_27, hv_28, hv_29, hv_30]; exact hD
      obtain ⟨v_31, hv_31⟩ : ∃ g : Int32, g = 0 := ⟨_, rfl⟩
      replace hl : lv_has ls 4 [(3, .int i_40), (2, .int v_31), (0, .ref x0), (1, .int n)] := by rw [hv_31]; exact hl
      clear h1i_40 hi_40 hg_25 hv_26 hv_27 hv_28 hv_29 hv_30 hv_31
      skip
      revert hni_40
      revert hloi_40
      revert hbv_30
      revert hbv_26
      revert hl
      revert hS
      revert hD
      revert hP
      revert ls
      revert locs
      revert H
      revert g_25
      revert v_26
      revert v_27
      revert v_28
      revert v_29
      revert v_30
      revert v_31
      revert i_40
      induction nfu with
      | zero =>
        intro i_40 v_31 v_30 v_29 v_28 v_27 v_26 g_25 H locs ls hP hD hS hl hbv_26 hbv_30 hloi_40 hni_40
        have hzi_40 : n.toInt ≤ i_40.toInt := by omega
        refine lv_iload_n hx hb dX7_winter_40 rfl (lv_at hl 0 rfl) ?_
        refine lv_iload_n hx hb dX7_winter_41 rfl (lv_at hl 3 rfl) ?_
        refine lv_icmp_ge (tgt := 68) hx hb dX7_winter_42 (by decide) (fun c_32 => ?_) (fun c_32 => ?_)
        · have fc_32 : n.toInt ≤ i_40.toInt := zf_le c_32 rfl rfl
          refine lv_iload_n hx hb dX7_winter_68 rfl (lv_at hl 1 rfl) ?_
          exact W.iret (v := v_31) hx hb hr (fun t ht hW => ⟨⟨v_31, (q_18, q_19, q_20, g_25, q_22, q_23, q_24, v_26, v_27, v_28, v_29, v_30, fr), rfl, ⟨(show 0 ≤ q_18.toInt ∧ q_18.toInt ≤ 8 from hbq_18), (show 0 ≤ q_19.toInt ∧ q_19.toInt ≤ 9 from hbq_19), (show 0 ≤ q_20.toInt ∧ q_20.toInt ≤ 60 from hbq_20), hpq_23, hwq_24, (show 0 ≤ v_26.toInt ∧ v_26.toInt ≤ 24 from hbv_26), (show 0 ≤ v_30.toInt ∧ v_30.toInt ≤ 40 from hbv_30), trivial⟩, zRet ht hP hD [0, 1, 10, 2, 5, 6, 7, 8, 9, 11, 12, 3, 4] (by decide) rfl⟩, hS.F ht⟩) hS.2.2 dX7_winter_69
        · exfalso; have fc_32 : i_40.toInt < n.toInt := zf_nle c_32 rfl rfl; omega
      | succ nfu ih =>
        intro i_40 v_31 v_30 v_29 v_28 v_27 v_26 g_25 H locs ls hP hD hS hl hbv_26 hbv_30 hloi_40 hni_40
        refine lv_iload_n hx hb dX7_winter_40 rfl (lv_at hl 0 rfl) ?_
        refine lv_iload_n hx hb dX7_winter_41 rfl (lv_at hl 3 rfl) ?_
        refine lv_icmp_ge (tgt := 68) hx hb dX7_winter_42 (by decide) (fun c_33 => ?_) (fun c_33 => ?_)
        · have fc_33 : n.toInt ≤ i_40.toInt := zf_le c_33 rfl rfl
          refine lv_iload_n hx hb dX7_winter_68 rfl (lv_at hl 1 rfl) ?_
          exact W.iret (v := v_31) hx hb hr (fun t ht hW => ⟨⟨v_31, (q_18, q_19, q_20, g_25, q_22, q_23, q_24, v_26, v_27, v_28, v_29, v_30, fr), rfl, ⟨(show 0 ≤ q_18.toInt ∧ q_18.toInt ≤ 8 from hbq_18), (show 0 ≤ q_19.toInt ∧ q_19.toInt ≤ 9 from hbq_19), (show 0 ≤ q_20.toInt ∧ q_20.toInt ≤ 60 from hbq_20), hpq_23, hwq_24, (show 0 ≤ v_26.toInt ∧ v_26.toInt ≤ 24 from hbv_26), (show 0 ≤ v_30.toInt ∧ v_30.toInt ≤ 40 from hbv_30), trivial⟩, zRet ht hP hD [0, 1, 10, 2, 5, 6, 7, 8, 9, 11, 12, 3, 4] (by decide) rfl⟩, hS.F ht⟩) hS.2.2 dX7_winter_69
        · have fc_33 : i_40.toInt < n.toInt := zf_nle c_33 rfl rfl
          refine lv_aload_n hx hb dX7_winter_45 rfl (lv_at hl 2 rfl) ?_
          refine va_get (D := D) (ci := 7) (v := .ref j0) (C := RX7) (T := TX7) (N := 9) hx hb hts hi_X7_winter_7 hown hK hP 0 rfl rfl 1 (by decide) (hts (.fieldLink RX7 18 "TheLiningsInIt" "now" "LTheLiningsInIt$Jacket;") (List.mem_of_getElem? (i := 2) rfl)) (fun _ h9 => h9) rfl dX7_winter_46 ?_
          refine lv_aload_n hx hb dX7_winter_49 rfl (lv_at hl 2 rfl) ?_
          refine va_get (D := D) (ci := 7) (v := .ref w0) (C := RX7) (T := TX7) (N := 9) hx hb hts hi_X7_winter_7 hown hK hP 0 rfl rfl 3 (by decide) (hts (.fieldLink RX7 28 "TheLiningsInIt" "ways" "LTheLiningsInIt$Ways;") (List.mem_of_getElem? (i := 1) rfl)) (fun _ h9 => h9) rfl dX7_winter_50 ?_
          skip
          refine zw_V (As := [.ref w0]) (rest := []) (wr := [(x0, .inr (7, [.ref xs, .ref j0, .ref k0, .ref w0, .ref rd, .ref mv, .ref xr, .int im, .int lf])), (xr, .inl (cI, 8, .inl fr)), (wl, .inl (cI, 125, .inl q_22)), (wc, .inl (cI, 3, .inl q_23)), (jc, .inl (cI, 3, .inl fjc))]) ⟨hx, hb, hml, hown, hts⟩ (c_J_dayInTruth l D cI cJ cZ cP cS po w0 wk wl wc wp (q_18) (q_19) (q_20) j0 jp jc z0 zl zs (cn) (v_26) (v_27) (v_28) (hu) (v_29) (sz) (v_30) (gp) zfl zfs fp q_24 kf af tf g_25 hbq_18.1 hbq_18.2 hbq_19.1 hbq_19.2 hbq_20.1 hbq_20.2 hy4 hy5 hbv_26.1 hbv_26.2 hy8 hy9 hy10 hy11 hbv_30.1 hbv_30.2 hy14 hy15 hwq_24 hjp hp_zfl hp_zfs H.size) (cwV 1 hts gX7_winter_X0_dayInTruth rfl rfl rfl ⟨rfl, dh_X0_dayInTruth⟩ ⟨Nat.le_of_ble_eq_true rfl, Nat.le_of_ble_eq_true rfl⟩) hK hN (hZ.kept hS) hP hD hS hA [5, 6, 9, 10, 11, 2, 3, 4] [0, 1, 7, 8, 12] rfl rfl (by decide) (by decide) (by decide) (va_recv (q := (RX0, TX0, 9)) hK hP (ci := 0) (q0 := 10) rfl rfl) rfl hl.1 rfl (Nat.le_of_ble_eq_true rfl) dX7_winter_53 ⟨Nat.le_of_ble_eq_true rfl, Nat.le_of_ble_eq_true rfl⟩ (fun r_34 u_35 H locs hr_34 hP hD hS => ?_)
          obtain ⟨q_36, q_37, q_38, q_39, q_40, q_41⟩ := u_35
          try dsimp only at hr_34
          obtain ⟨hbq_36, hbq_40, hr_34⟩ := hr_34
          have h9R := zRe (ws' := [(x0, .inr (7, [.ref xs, .ref j0, .ref k0, .ref w0, .ref rd, .ref mv, .ref xr, .int im, .int lf])), (xr, .inl (cI, 8, .inl fr)), (wl, .inl (cI, 125, .inl q_22)), (wc, .inl (cI, 3, .inl q_23)), (jc, .inl (cI, 3, .inl fjc)), (w0, .inr (5, [.ref wk, .ref wl, .ref wc, .ref wp, .int q_18, .int q_19, .int q_20])), (wk, .inl (cI, 125, .inl q_41)), (wp, .inl (cP, 8, .inr (.inr (.inr (.inr q_24))))), (j0, .inr (0, [.ref z0, .ref jp, .ref jc, .int cn, .int q_36, .int q_37, .int q_38, .int hu, .int q_39])), (jp, .inl (cP, 8, .inr (.inr (.inr (.inr fp))))), (z0, .inr (6, [.ref zl, .ref zs, .int sz, .int q_40, .int gp])), (zl, .inl (cZ, 40, .inl zfl)), (zs, .inl (cI, 40, .inl zfs))]) hP hD rfl
          clear hP hD
          obtain ⟨hP, hD⟩ := h9R
          obtain ⟨g_42, g_43⟩ := hr_34
          refine lv_if_eq (tgt := 62) hx hb dX7_winter_56 (by decide) (fun c_44 => ?_) (fun c_44 => ?_)
          · have fc_44 : r_34.toInt = 0 := zf_eq c_44 rfl (by decide)
            obtain ⟨x_45, ex_45⟩ : ∃ y : Int32, y = i_40 + 1 := ⟨_, rfl⟩
            have qx_45 : x_45.toInt = i_40.toInt + 1 := dw_inc ex_45 fc_33
            refine lv_iinc (v := x_45) (lv' := [(3, .int x_45), (2, .int v_31), (0, .ref x0), (1, .int n)]) hx hb dX7_winter_62 hl (k := 0) rfl ex_45.symm (by decide) rfl (fun ls hl => ?_)
            refine lv_goto (tgt := 40) hx hb dX7_winter_65 (by decide) ?_
            exact ih x_45 v_31 (q_40) (q_39) (q_38) (q_37) (q_36) (q_41) _ _ _ (hP.sub [0, 1, 10, 11, 12, 5, 6, 2, 3, 7, 8, 9, 4] rfl) (hD.sub [0, 1, 10, 11, 12, 5, 6, 2, 3, 7, 8, 9, 4] (by decide) rfl) hS (lv_sub hl [0, 1, 2, 3] rfl) hbq_36 hbq_40 (dw_lo hloi_40 qx_45) (dw_hn hni_40 qx_45)
          · have fc_44 : r_34.toInt ≠ 0 := zf_ne c_44 rfl (by decide)
            obtain ⟨x_46, ex_46⟩ : ∃ y : Int32, y = v_31 + 1 := ⟨_, rfl⟩
            refine lv_iinc (v := x_46) (lv' := [(2, .int x_46), (3, .int i_40), (0, .ref x0), (1, .int n)]) hx hb dX7_winter_59 hl (k := 1) rfl ex_46.symm (by decide) rfl (fun ls hl => ?_)
            obtain ⟨x_47, ex_47⟩ : ∃ y : Int32, y = i_40 + 1 := ⟨_, rfl⟩
            have qx_47 : x_47.toInt = i_40.toInt + 1 := dw_inc ex_47 fc_33
            refine lv_iinc (v := x_47) (lv' := [(3, .int x_47), (2, .int x_46), (0, .ref x0), (1, .int n)]) hx hb dX7_winter_62 hl (k := 1) rfl ex_47.symm (by decide) rfl (fun ls hl => ?_)
            refine lv_goto (tgt := 40) hx hb dX7_winter_65 (by decide) ?_
            exact ih x_47 x_46 (q_40) (q_39) (q_38) (q_37) (q_36) (q_41) _ _ _ (hP.sub [0, 1, 10, 11, 12, 5, 6, 2, 3, 7, 8, 9, 4] rfl) (hD.sub [0, 1, 10, 11, 12, 5, 6, 2, 3, 7, 8, 9, 4] (by decide) rfl) hS (lv_sub hl [0, 1, 2, 3] rfl) hbq_36 hbq_40 (dw_lo hloi_40 qx_47) (dw_hn hni_40 qx_47)
    · exact absurd c_15 (by decide)
end
section
theorem gl_X7_freedWeight_X70 : GoodIn wsX7_freedWeight wsX70 := (dg_t (dg_l (dg_l (dg_l (dg_r gw_wsX70)))))
theorem hi_X7_freedWeight_7 : ∀ w ∈ u_ws RX7 TX7 9, w ∈ wsX7_freedWeight := fun w h => (gl_X7_freedWeight_X70 w h).1
theorem gl_X7_freedWeight_X00 : GoodIn wsX7_freedWeight wsX00 := (dg_t (dg_l (dg_l (dg_r gw_wsX00))))
theorem hi_X7_freedWeight_0 : ∀ w ∈ u_ws RX0 TX0 9, w ∈ wsX7_freedWeight := fun w h => (gl_X7_freedWeight_X00 w h).1
theorem hi_X7_freed_7 : ∀ w ∈ u_ws RX7 TX7 9, w ∈ wsX7_freed := fun w h => (gl_X7_freed_X70 w h).1
theorem hi_X7_best_7 : ∀ w ∈ u_ws RX7 TX7 9, w ∈ wsX7_best := fun w h => (gl_X7_best_X70 w h).1
theorem hi_X7_best_0 : ∀ w ∈ u_ws RX0 TX0 9, w ∈ wsX7_best := fun w h => (gl_X7_best_X00 w h).1
theorem hi_X7_behind_7 : ∀ w ∈ u_ws RX7 TX7 9, w ∈ wsX7_behind := fun w h => (gl_X7_behind_X70 w h).1
theorem hi_X7_behind_0 : ∀ w ∈ u_ws RX0 TX0 9, w ∈ wsX7_behind := fun w h => (gl_X7_behind_X00 w h).1
theorem gl_X7_firstWrong_X70 : GoodIn wsX7_firstWrong wsX70 := (dg_t (dg_l (dg_l (dg_l (dg_r gw_wsX70)))))
theorem hi_X7_firstWrong_7 : ∀ w ∈ u_ws RX7 TX7 9, w ∈ wsX7_firstWrong := fun w h => (gl_X7_firstWrong_X70 w h).1
theorem hi_X7_firstWrong_0 : ∀ w ∈ u_ws RX0 TX0 9, w ∈ wsX7_firstWrong := fun w h => (gl_X7_firstWrong_X00 w h).1
theorem hi_X7_firstWrong_2 : ∀ w ∈ u_ws RX2 TX2 3, w ∈ wsX7_firstWrong := fun w h => (gl_X7_firstWrong_X20 w h).1
set_option maxHeartbeats 4000000 in
set_option maxRecDepth 100000 in
theorem c_X_firstWrong (l : Launch) (D : va_G) (cI cJ cZ cP cS : ClassId) (po : zPool) (x0 xs j0 k0 w0 rd mv xr : Nat) (im lf : Int32) (fr : Nat → Int32) (j0 jp jc z0 zl zs : Nat) (cn de tr se hu sd : Int32) (fp : Nat → Option Nat) (kf af tf : Nat → Int32) (h0 e0 : Nat) (he si : Int32) (fe : Nat → Int64) (n : Int32) (hy0 : 0 ≤ im.toInt) (hy1 : im.toInt ≤ 1) (hy2 : (-1) ≤ lf.toInt) (hy3 : lf.toInt ≤ 160) (hy4 : 0 ≤ cn.toInt) (hy5 : cn.toInt ≤ 8) (hy6 : 0 ≤ de.toInt) (hy7 : de.toInt ≤ 24) (hy8 : 0 ≤ hu.toInt) (hy9 : hu.toInt ≤ 9) (hy10 : (-1) ≤ he.toInt) (hy11 : he.toInt ≤ 103) (hy12 : 0 ≤ si.toInt) (hy13 : si.toInt ≤ 160) (hjp : zJP po fp cn kf af tf) (hy15 : 0 ≤ n.toInt) (hy16 : n.toInt ≤ 20) : Met l yX7_firstWrong wsX7_firstWrong ({ frames := 2, cells := 0, slots := 0, locals := 44 }) (va_Pc [.ref x0, .ref h0, .int n] (zR D (zKT cI cJ cZ cP cS) po [(x0, .inr (7, [.ref xs, .ref j0, .ref k0, .ref w0, .ref rd, .ref mv, .ref xr, .int im, .int lf])), (j0, .inr (0, [.ref z0, .ref jp, .ref jc, .int cn, .int de, .int tr, .int se, .int hu, .int sd])), (jp, .inl (cP, 8, .inr (.inr (.inr (.inr fp))))), (h0, .inr (4, [.ref e0, .int he, .int si])), (e0, .inl (cJ, 160, .inr (.inl fe)))])) (vp_Si (fun r => True)) 0 0 (fun _ => False) := by
  refine Met.ofW (cc := cX7_firstWrong) (maxL := 8) (ret := (some .int)) (by decide) rfl ?_
  intro p e s m args below meth c s₁ B hml hv
  obtain ⟨rfl, hP, hK, hN, hZ⟩ := hv
  have hx := B.exec
  have hb := B.bytes
  have hr := B.returns
  have hts := atoms_spec (ws := wsX7_firstWrong) B.pre
  have hown : s.vm.findClass RX7 = some m.cls := findClass_of_methodNamed B.named
  have hlocks := B.notSynchronized
  have hl := lv_entry ([.ref x0, .ref h0, .int n]) (n := 8) (Nat.le_of_ble_eq_true rfl)
  rw [lg_entry_eq]
  generalize (lg_sl ([.ref x0, .ref h0, .int n]) ++ List.replicate (8 - (lg_sl ([.ref x0, .ref h0, .int n])).length) Slot.unset).toArray = ls at hl ⊢
  replace hl : lv_has ls 8 [(0, .ref x0), (1, .ref h0), (2, .int n)] := hl
  refine lv_aload_n hx hb dX7_firstWrong_0 rfl (lv_at hl 0 rfl) ?_
  refine va_get (D := D) (ci := 7) (v := .ref j0) (C := RX7) (T := TX7) (N := 9) hx hb hts hi_X7_firstWrong_7 hown hK hP 0 rfl rfl 1 (by decide) (hts (.fieldLink RX7 18 "TheLiningsInIt" "now" "LTheLiningsInIt$Jacket;") (List.mem_of_getElem? (i := 1) rfl)) (fun _ h9 => h9) rfl dX7_firstWrong_1 ?_
  refine va_get (D := D) (ci := 0) (v := .int de) (C := RX0) (T := TX0) (N := 9) hx hb hts hi_X7_firstWrong_0 hown hK hP 1 rfl rfl 4 (by decide) (hts (.fieldLink RX7 199 "TheLiningsInIt$Jacket" "depth" "I") (List.mem_of_getElem? (i := 2) rfl)) (fun _ h9 => h9) rfl dX7_firstWrong_4 ?_
  refine lv_istore_n (lv' := [(3, .int de), (0, .ref x0), (1, .ref h0), (2, .int n)]) hx hb dX7_firstWrong_7 rfl hl (by decide) rfl (fun ls hl => ?_)
  refine lv_aload_n hx hb dX7_firstWrong_8 rfl (lv_at hl 1 rfl) ?_
  refine va_get (D := D) (ci := 7) (v := .ref j0) (C := RX7) (T := TX7) (N := 9) hx hb hts hi_X7_firstWrong_7 hown hK hP 0 rfl rfl 1 (by decide) (hts (.fieldLink RX7 18 "TheLiningsInIt" "now" "LTheLiningsInIt$Jacket;") (List.mem_of_getElem? (i := 1) rfl)) (fun _ h9 => h9) rfl dX7_firstWrong_9 ?_
  refine va_get (D := D) (ci := 0) (v := .int se) (C := RX0) (T := TX0) (N := 9) hx hb hts hi_X7_firstWrong_0 hown hK hP 1 rfl rfl 6 (by decide) (hts (.fieldLink RX7 202 "TheLiningsInIt$Jacket" "seconds" "I") (List.mem_of_getElem? (i := 3) rfl)) (fun _ h9 => h9) rfl dX7_firstWrong_12 ?_
  refine lv_istore (lv' := [(4, .int se), (3, .int de), (0, .ref x0), (1, .ref h0), (2, .int n)]) hx hb dX7_firstWrong_15 hl (by decide) rfl (fun ls hl => ?_)
  refine lv_iconst (v := 0) hx hb dX7_firstWrong_17 (by decide) ?_
  refine lv_istore (lv' := [(5, .int 0), (4, .int se), (3, .int de), (0, .ref x0), (1, .ref h0), (2, .int n)]) hx hb dX7_firstWrong_18 hl (by decide) rfl (fun ls hl => ?_)
  obtain ⟨i_20, hi_20⟩ : ∃ i : Int32, i = 0 := ⟨_, rfl⟩
  replace hl : lv_has ls 8 [(5, .int i_20), (4, .int se), (3, .int de), (0, .ref x0), (1, .ref h0), (2, .int n)] := by rw [hi_20]; exact lv_sub hl [0, 1, 2, 3, 4, 5] rfl
  have h1i_20 : i_20.toInt = 0 := by rw [hi_20]; decide
  obtain ⟨nfu, hni_20⟩ : ∃ nq9 : Nat, n.toInt ≤ i_20.toInt + (nq9 : Int) := ⟨((n.toInt : Int) - 0).toNat, by omega⟩
  have hloi_20 : 0 ≤ i_20.toInt := by omega
  obtain ⟨v_1, hv_1⟩ : ∃ g : Int32, g = de := ⟨_, rfl⟩
  obtain ⟨v_2, hv_2⟩ : ∃ g : Int32, g = se := ⟨_, rfl⟩
  replace hl : lv_has ls 8 [(5, .int i_20), (4, .int v_2), (3, .int v_1), (0, .ref x0), (1, .ref h0), (2, .int n)] := by rw [hv_1, hv_2]; exact hl
  have hbv_1 : 0 ≤ v_1.toInt ∧ v_1.toInt ≤ 24 := by rw [hv_1]; exact ⟨by omega, by omega⟩
  clear h1i_20 hi_20 hv_1 hv_2
  revert hni_20
  revert hloi_20
  revert hbv_1
  revert hl
  revert ls
  revert v_2
  revert v_1
  revert i_20
  induction nfu with
  | zero =>
    intro i_20 v_1 v_2 ls hl hbv_1 hloi_20 hni_20
    have hzi_20 : n.toInt ≤ i_20.toInt := by omega
    refine lv_iload hx hb dX7_firstWrong_20 (lv_at hl 0 rfl) ?_
    refine lv_iload_n hx hb dX7_firstWrong_22 rfl (lv_at hl 5 rfl) ?_
    refine lv_icmp_ge (tgt := 129) hx hb dX7_firstWrong_23 (by decide) (fun c_3 => ?_) (fun c_3 => ?_)
    · have fc_3 : n.toInt ≤ i_20.toInt := zf_le c_3 rfl rfl
      refine lv_iconst (v := (-1)) hx hb dX7_firstWrong_129 (by decide) ?_
      exact W.iret (v := (-1)) hx hb hr (fun t ht hW => ⟨(-1), rfl, trivial, ht⟩) (fun q hq => by cases hq) dX7_firstWrong_130
    · exfalso; have fc_3 : i_20.toInt < n.toInt := zf_nle c_3 rfl rfl; omega
  | succ nfu ih =>
    intro i_20 v_1 v_2 ls hl hbv_1 hloi_20 hni_20
    refine lv_iload hx hb dX7_firstWrong_20 (lv_at hl 0 rfl) ?_
    refine lv_iload_n hx hb dX7_firstWrong_22 rfl (lv_at hl 5 rfl) ?_
    refine lv_icmp_ge (tgt := 129) hx hb dX7_firstWrong_23 (by decide) (fun c_4 => ?_) (fun c_4 => ?_)
    · have fc_4 : n.toInt ≤ i_20.toInt := zf_le c_4 rfl rfl
      refine lv_iconst (v := (-1)) hx hb dX7_firstWrong_129 (by decide) ?_
      exact W.iret (v := (-1)) hx hb hr (fun t ht hW => ⟨(-1), rfl, trivial, ht⟩) (fun q hq => by cases hq) dX7_firstWrong_130
    · have fc_4 : i_20.toInt < n.toInt := zf_nle c_4 rfl rfl
      refine lv_aload_n hx hb dX7_firstWrong_26 rfl (lv_at hl 3 rfl) ?_
      refine va_get (D := D) (ci := 7) (v := .ref j0) (C := RX7) (T := TX7) (N := 9) hx hb hts hi_X7_firstWrong_7 hown hK hP 0 rfl rfl 1 (by decide) (hts (.fieldLink RX7 18 "TheLiningsInIt" "now" "LTheLiningsInIt$Jacket;") (List.mem_of_getElem? (i := 1) rfl)) (fun _ h9 => h9) rfl dX7_firstWrong_27 ?_
      refine lv_aload_n hx hb dX7_firstWrong_30 rfl (lv_at hl 4 rfl) ?_
      refine lv_iload hx hb dX7_firstWrong_31 (lv_at hl 0 rfl) ?_
      refine zc_V (As := [.int i_20]) (rest := [.ref j0]) ⟨hx, hb, hml, hown, hts⟩ (c_Sh_tells l D cI cJ cZ cP cS po h0 e0 (he) (si) fe (i_20) hy10 hy11 hy12 hy13) (cwV 1 hts gX7_firstWrong_X4_tells rfl rfl rfl ⟨rfl, dh_X4_tells⟩ ⟨Nat.le_of_ble_eq_true rfl, Nat.le_of_ble_eq_true rfl⟩) hK hN hZ hP (hP.sub [3, 4] rfl) (va_recv (q := (RX4, TX4, 3)) hK hP (ci := 4) (q0 := 3) rfl rfl) rfl hl.1 rfl (Nat.le_of_ble_eq_true rfl) dX7_firstWrong_33 ⟨Nat.le_of_ble_eq_true rfl, Nat.le_of_ble_eq_true rfl⟩ (fun r_5 hr_5 => ?_)
      refine zc_Vq (As := [.int r_5]) (rest := []) ⟨hx, hb, hml, hown, hts⟩ (c_J_pullAt l D cI cJ cZ cP cS po j0 jp jc z0 0 0 (cn) (de) (tr) (se) (hu) (sd) fp kf af tf (r_5) hy4 hy5 hy6 hy7 hy8 hy9 hjp) (cwV 1 hts gX7_firstWrong_X0_pullAt rfl rfl rfl ⟨rfl, dh_X0_pullAt⟩ ⟨Nat.le_of_ble_eq_true rfl, Nat.le_of_ble_eq_true rfl⟩) hK hN hZ hP (hP.sub [1, 2] rfl) (va_recv (q := (RX0, TX0, 9)) hK hP (ci := 0) (q0 := 1) rfl rfl) rfl hl.1 rfl (Nat.le_of_ble_eq_true rfl) dX7_firstWrong_36 ⟨Nat.le_of_ble_eq_true rfl, Nat.le_of_ble_eq_true rfl⟩ (fun r_6 hr_6 => ?_)
      rcases hr_6 with ⟨rfl, g_7⟩ | ⟨rfl, g_8⟩ | ⟨⟨u_10, kiu_10, au_10, tu_10, rfl, huu_10, hkku_10⟩, g_9⟩
      · refine lv_astoreN (lv' := [(6, .null), (5, .int i_20), (4, .int v_2), (3, .int v_1), (0, .ref x0), (1, .ref h0), (2, .int n)]) hx hb dX7_firstWrong_39 hl (by decide) rfl (fun ls hl => ?_)
        refine lv_aloadN hx hb dX7_firstWrong_41 (lv_at hl 0 rfl) ?_
        refine lv_ifnullN (tgt := 57) hx hb dX7_firstWrong_43 (by decide) ?_
        refine lv_iload hx hb dX7_firstWrong_57 (lv_at hl 1 rfl) ?_
        exact W.iret (v := i_20) hx hb hr (fun t ht hW => ⟨i_20, rfl, trivial, ht⟩) (fun q hq => by cases hq) dX7_firstWrong_59
      · refine lv_astoreN (lv' := [(6, .null), (5, .int i_20), (4, .int v_2), (3, .int v_1), (0, .ref x0), (1, .ref h0), (2, .int n)]) hx hb dX7_firstWrong_39 hl (by decide) rfl (fun ls hl => ?_)
        refine lv_aloadN hx hb dX7_firstWrong_41 (lv_at hl 0 rfl) ?_
        refine lv_ifnullN (tgt := 57) hx hb dX7_firstWrong_43 (by decide) ?_
        refine lv_iload hx hb dX7_firstWrong_57 (lv_at hl 1 rfl) ?_
        exact W.iret (v := i_20) hx hb hr (fun t ht hW => ⟨i_20, rfl, trivial, ht⟩) (fun q hq => by cases hq) dX7_firstWrong_59
      · refine W.eq (g2 := F0 m 39 ls (.ref u_10 :: [])) rfl ?_
        obtain ⟨hku_10, hau_10, htu_10⟩ := zPu_pr hZ huu_10
        refine lv_astore (lv' := [(6, .ref u_10), (5, .int i_20), (4, .int v_2), (3, .int v_1), (0, .ref x0), (1, .ref h0), (2, .int n)]) hx hb dX7_firstWrong_39 hl (by decide) rfl (fun ls hl => ?_)
        refine lv_aload hx hb dX7_firstWrong_41 (lv_at hl 0 rfl) ?_
        refine lv_ifnull hx hb dX7_firstWrong_43 ?_
        refine lv_aload hx hb dX7_firstWrong_46 (lv_at hl 0 rfl) ?_
        refine lv_iload_n hx hb dX7_firstWrong_48 rfl (lv_at hl 3 rfl) ?_
        refine lv_iload hx hb dX7_firstWrong_49 (lv_at hl 2 rfl) ?_
        refine zc_V (As := [.int v_1, .int v_2]) (rest := []) ⟨hx, hb, hml, hown, hts⟩ (c_Pull_mayBe l D cI cJ cZ cP cS po (v_1) (v_2) u_10 (kiu_10) (au_10) (tu_10) huu_10 ⟨by omega, by omega, by omega, by omega⟩) (cwV 2 hts gX7_firstWrong_X2_mayBe rfl rfl rfl ⟨rfl, dh_X2_mayBe⟩ ⟨Nat.le_of_ble_eq_true rfl, Nat.le_of_ble_eq_true rfl⟩) hK hN hZ hP zP_nil (va_recv (q := (RX2, TX2, 3)) hK (zPu_P hZ huu_10) (ci := 2) (q0 := 0) rfl rfl) rfl hl.1 rfl (Nat.le_of_ble_eq_true rfl) dX7_firstWrong_51 ⟨Nat.le_of_ble_eq_true rfl, Nat.le_of_ble_eq_true rfl⟩ (fun r_11 hr_11 => ?_)
        rcases hr_11 with ⟨rfl, g_12⟩ | ⟨rfl, g_13, g_14⟩ | ⟨rfl, g_15, g_16⟩
        · refine lv_if_ne (tgt := 60) hx hb dX7_firstWrong_54 (by decide) (fun c_17 => ?_) (fun c_17 => ?_)
          · exact absurd c_17 (by decide)
          · refine lv_iload hx hb dX7_firstWrong_57 (lv_at hl 1 rfl) ?_
            exact W.iret (v := i_20) hx hb hr (fun t ht hW => ⟨i_20, rfl, trivial, ht⟩) (fun q hq => by cases hq) dX7_firstWrong_59
        · refine lv_if_ne (tgt := 60) hx hb dX7_firstWrong_54 (by decide) (fun c_18 => ?_) (fun c_18 => ?_)
          · exact absurd c_18 (by decide)
          · refine lv_iload hx hb dX7_firstWrong_57 (lv_at hl 1 rfl) ?_
            exact W.iret (v := i_20) hx hb hr (fun t ht hW => ⟨i_20, rfl, trivial, ht⟩) (fun q hq => by cases hq) dX7_firstWrong_59
        · refine lv_if_ne (tgt := 60) hx hb dX7_firstWrong_54 (by decide) (fun c_19 => ?_) (fun c_19 => ?_)
          · refine lv_aload hx hb dX7_firstWrong_60 (lv_at hl 0 rfl) ?_
            refine lv_iload_n hx hb dX7_firstWrong_62 rfl (lv_at hl 3 rfl) ?_
            refine lv_aload_n hx hb dX7_firstWrong_63 rfl (lv_at hl 4 rfl) ?_
            refine va_get (D := D) (ci := 7) (v := .ref j0) (C := RX7) (T := TX7) (N := 9) hx hb hts hi_X7_firstWrong_7 hown hK hP 0 rfl rfl 1 (by decide) (hts (.fieldLink RX7 18 "TheLiningsInIt" "now" "LTheLiningsInIt$Jacket;") (List.mem_of_getElem? (i := 1) rfl)) (fun _ h9 => h9) rfl dX7_firstWrong_64 ?_
            refine va_get (D := D) (ci := 0) (v := .int hu) (C := RX0) (T := TX0) (N := 9) hx hb hts hi_X7_firstWrong_0 hown hK hP 1 rfl rfl 7 (by decide) (hts (.fieldLink RX7 116 "TheLiningsInIt$Jacket" "hurry" "I") (List.mem_of_getElem? (i := 4) rfl)) (fun _ h9 => h9) rfl dX7_firstWrong_67 ?_
            refine zc_V (As := [.int v_1, .int hu]) (rest := []) ⟨hx, hb, hml, hown, hts⟩ (c_Pull_waysAt l D cI cJ cZ cP cS po (v_1) (hu) u_10 (kiu_10) (au_10) (tu_10) huu_10 ⟨by omega, by omega, by omega, by omega⟩ hbv_1.1 hbv_1.2 hy8 hy9) (cwV 2 hts gX7_firstWrong_X2_waysAt rfl rfl rfl ⟨rfl, dh_X2_waysAt⟩ ⟨Nat.le_of_ble_eq_true rfl, Nat.le_of_ble_eq_true rfl⟩) hK hN hZ hP zP_nil (va_recv (q := (RX2, TX2, 3)) hK (zPu_P hZ huu_10) (ci := 2) (q0 := 0) rfl rfl) rfl hl.1 rfl (Nat.le_of_ble_eq_true rfl) dX7_firstWrong_70 ⟨Nat.le_of_ble_eq_true rfl, Nat.le_of_ble_eq_true rfl⟩ (fun r_20 hr_20 => ?_)
            obtain ⟨g_21, g_22⟩ := hr_20
            refine lv_bipush (v := 6) hx hb dX7_firstWrong_73 (by decide) ?_
            refine lv_icmp_lt (tgt := 82) hx hb dX7_firstWrong_75 (by decide) (fun c_23 => ?_) (fun c_23 => ?_)
            · have fc_23 : r_20.toInt < 6 := zf_lt c_23 rfl (by decide)
              refine lv_iconst (v := 0) hx hb dX7_firstWrong_82 (by decide) ?_
              refine lv_istore (lv' := [(7, .int 0), (6, .ref u_10), (5, .int i_20), (4, .int v_2), (3, .int v_1), (0, .ref x0), (1, .ref h0), (2, .int n)]) hx hb dX7_firstWrong_83 hl (by decide) rfl (fun ls hl => ?_)
              refine lv_iload hx hb dX7_firstWrong_85 (lv_at hl 0 rfl) ?_
              refine lv_if_eq (tgt := 99) hx hb dX7_firstWrong_87 (by decide) (fun c_24 => ?_) (fun c_24 => ?_)
              · refine lv_aload hx hb dX7_firstWrong_99 (lv_at hl 1 rfl) ?_
                refine lv_iload_n hx hb dX7_firstWrong_101 rfl (lv_at hl 4 rfl) ?_
                refine lv_aload_n hx hb dX7_firstWrong_102 rfl (lv_at hl 5 rfl) ?_
                refine va_get (D := D) (ci := 7) (v := .ref j0) (C := RX7) (T := TX7) (N := 9) hx hb hts hi_X7_firstWrong_7 hown hK hP 0 rfl rfl 1 (by decide) (hts (.fieldLink RX7 18 "TheLiningsInIt" "now" "LTheLiningsInIt$Jacket;") (List.mem_of_getElem? (i := 1) rfl)) (fun _ h9 => h9) rfl dX7_firstWrong_103 ?_
                refine va_get (D := D) (ci := 0) (v := .int hu) (C := RX0) (T := TX0) (N := 9) hx hb hts hi_X7_firstWrong_0 hown hK hP 1 rfl rfl 7 (by decide) (hts (.fieldLink RX7 116 "TheLiningsInIt$Jacket" "hurry" "I") (List.mem_of_getElem? (i := 4) rfl)) (fun _ h9 => h9) rfl dX7_firstWrong_106 ?_
                refine zc_V (As := [.int v_1, .int hu]) (rest := []) ⟨hx, hb, hml, hown, hts⟩ (c_Pull_deeper l D cI cJ cZ cP cS po (v_1) (hu) u_10 (kiu_10) (au_10) (tu_10) huu_10 ⟨by omega, by omega, by omega, by omega⟩ hbv_1.1 hbv_1.2 hy8 hy9) (cwV 2 hts gX7_firstWrong_X2_deeper rfl rfl rfl ⟨rfl, dh_X2_deeper⟩ ⟨Nat.le_of_ble_eq_true rfl, Nat.le_of_ble_eq_true rfl⟩) hK hN hZ hP zP_nil (va_recv (q := (RX2, TX2, 3)) hK (zPu_P hZ huu_10) (ci := 2) (q0 := 0) rfl rfl) rfl hl.1 rfl (Nat.le_of_ble_eq_true rfl) dX7_firstWrong_109 ⟨Nat.le_of_ble_eq_true rfl, Nat.le_of_ble_eq_true rfl⟩ (fun r_25 hr_25 => ?_)
                obtain ⟨g_26, g_27⟩ := hr_25
                refine lv_istore_n (lv' := [(3, .int r_25), (7, .int 0), (6, .ref u_10), (5, .int i_20), (4, .int v_2), (0, .ref x0), (1, .ref h0), (2, .int n)]) hx hb dX7_firstWrong_112 rfl hl (by decide) rfl (fun ls hl => ?_)
                refine lv_iload hx hb dX7_firstWrong_113 (lv_at hl 4 rfl) ?_
                refine lv_aload hx hb dX7_firstWrong_115 (lv_at hl 2 rfl) ?_
                refine va_get (D := D) (ci := 2) (v := .int tu_10) (C := RX2) (T := TX2) (N := 3) hx hb hts hi_X7_firstWrong_2 hown hK (zPu_P hZ huu_10) 0 rfl rfl 2 (by decide) (hts (.fieldLink RX7 110 "TheLiningsInIt$Pull" "takes" "I") (List.mem_of_getElem? (i := 5) rfl)) (fun _ h9 => h9) rfl dX7_firstWrong_117 ?_
                refine lv_isub hx hb dX7_firstWrong_120 ?_
                refine lv_topi (fun x_28 ex_28 => ?_)
                have rax_28 := zf_rng v_2
                have qx_28 : x_28.toInt = v_2.toInt - tu_10.toInt := by rw [ex_28]; exact zf_sub rfl rfl (by omega) (by omega)
                refine lv_istore (lv' := [(4, .int x_28), (3, .int r_25), (7, .int 0), (6, .ref u_10), (5, .int i_20), (0, .ref x0), (1, .ref h0), (2, .int n)]) hx hb dX7_firstWrong_121 hl (by decide) rfl (fun ls hl => ?_)
                obtain ⟨x_29, ex_29⟩ : ∃ y : Int32, y = i_20 + 1 := ⟨_, rfl⟩
                have qx_29 : x_29.toInt = i_20.toInt + 1 := dw_inc ex_29 fc_4
                refine lv_iinc (v := x_29) (lv' := [(5, .int x_29), (4, .int x_28), (3, .int r_25), (7, .int 0), (6, .ref u_10), (0, .ref x0), (1, .ref h0), (2, .int n)]) hx hb dX7_firstWrong_123 hl (k := 4) rfl ex_29.symm (by decide) rfl (fun ls hl => ?_)
                refine lv_goto (tgt := 20) hx hb dX7_firstWrong_126 (by decide) ?_
                exact ih x_29 r_25 x_28 _ (lv_sub hl [0, 1, 2, 5, 6, 7] rfl) ⟨by omega, by omega⟩ (dw_lo hloi_20 qx_29) (dw_hn hni_20 qx_29)
              · exact absurd c_24 (by decide)
            · have fc_23 : 6 ≤ r_20.toInt := zf_nlt c_23 rfl (by decide)
              refine lv_iconst (v := 1) hx hb dX7_firstWrong_78 (by decide) ?_
              refine lv_goto (tgt := 83) hx hb dX7_firstWrong_79 (by decide) ?_
              refine lv_istore (lv' := [(7, .int 1), (6, .ref u_10), (5, .int i_20), (4, .int v_2), (3, .int v_1), (0, .ref x0), (1, .ref h0), (2, .int n)]) hx hb dX7_firstWrong_83 hl (by decide) rfl (fun ls hl => ?_)
              refine lv_iload hx hb dX7_firstWrong_85 (lv_at hl 0 rfl) ?_
              refine lv_if_eq (tgt := 99) hx hb dX7_firstWrong_87 (by decide) (fun c_30 => ?_) (fun c_30 => ?_)
              · exact absurd c_30 (by decide)
              · refine lv_aload hx hb dX7_firstWrong_90 (lv_at hl 1 rfl) ?_
                refine lv_iload_n hx hb dX7_firstWrong_92 rfl (lv_at hl 4 rfl) ?_
                refine zc_V (As := [.int v_1]) (rest := []) ⟨hx, hb, hml, hown, hts⟩ (c_Pull_shallower l D cI cJ cZ cP cS po (v_1) u_10 (kiu_10) (au_10) (tu_10) huu_10 ⟨by omega, by omega, by omega, by omega⟩ hbv_1.1 hbv_1.2) (cwV 1 hts gX7_firstWrong_X2_shallower rfl rfl rfl ⟨rfl, dh_X2_shallower⟩ ⟨Nat.le_of_ble_eq_true rfl, Nat.le_of_ble_eq_true rfl⟩) hK hN hZ hP zP_nil (va_recv (q := (RX2, TX2, 3)) hK (zPu_P hZ huu_10) (ci := 2) (q0 := 0) rfl rfl) rfl hl.1 rfl (Nat.le_of_ble_eq_true rfl) dX7_firstWrong_93 ⟨Nat.le_of_ble_eq_true rfl, Nat.le_of_ble_eq_true rfl⟩ (fun r_31 hr_31 => ?_)
                obtain ⟨g_32, g_33⟩ := hr_31
                refine lv_goto (tgt := 112) hx hb dX7_firstWrong_96 (by decide) ?_
                refine lv_istore_n (lv' := [(3, .int r_31), (7, .int 1), (6, .ref u_10), (5, .int i_20), (4, .int v_2), (0, .ref x0), (1, .ref h0), (2, .int n)]) hx hb dX7_firstWrong_112 rfl hl (by decide) rfl (fun ls hl => ?_)
                refine lv_iload hx hb dX7_firstWrong_113 (lv_at hl 4 rfl) ?_
                refine lv_aload hx hb dX7_firstWrong_115 (lv_at hl 2 rfl) ?_
                refine va_get (D := D) (ci := 2) (v := .int tu_10) (C := RX2) (T := TX2) (N := 3) hx hb hts hi_X7_firstWrong_2 hown hK (zPu_P hZ huu_10) 0 rfl rfl 2 (by decide) (hts (.fieldLink RX7 110 "TheLiningsInIt$Pull" "takes" "I") (List.mem_of_getElem? (i := 5) rfl)) (fun _ h9 => h9) rfl dX7_firstWrong_117 ?_
                refine lv_isub hx hb dX7_firstWrong_120 ?_
                refine lv_topi (fun x_34 ex_34 => ?_)
                have rax_34 := zf_rng v_2
                have qx_34 : x_34.toInt = v_2.toInt - tu_10.toInt := by rw [ex_34]; exact zf_sub rfl rfl (by omega) (by omega)
                refine lv_istore (lv' := [(4, .int x_34), (3, .int r_31), (7, .int 1), (6, .ref u_10), (5, .int i_20), (0, .ref x0), (1, .ref h0), (2, .int n)]) hx hb dX7_firstWrong_121 hl (by decide) rfl (fun ls hl => ?_)
                obtain ⟨x_35, ex_35⟩ : ∃ y : Int32, y = i_20 + 1 := ⟨_, rfl⟩
                have qx_35 : x_35.toInt = i_20.toInt + 1 := dw_inc ex_35 fc_4
                refine lv_iinc (v := x_35) (lv' := [(5, .int x_35), (4, .int x_34), (3, .int r_31), (7, .int 1), (6, .ref u_10), (0, .ref x0), (1, .ref h0), (2, .int n)]) hx hb dX7_firstWrong_123 hl (k := 4) rfl ex_35.symm (by decide) rfl (fun ls hl => ?_)
                refine lv_goto (tgt := 20) hx hb dX7_firstWrong_126 (by decide) ?_
                exact ih x_35 r_31 x_34 _ (lv_sub hl [0, 1, 2, 5, 6, 7] rfl) ⟨by omega, by omega⟩ (dw_lo hloi_20 qx_35) (dw_hn hni_20 qx_35)
          · exact absurd c_19 (by decide)
theorem gl_X7_rowsMeant_X70 : GoodIn wsX7_rowsMeant wsX70 := (dg_t (dg_l (dg_l (dg_l (dg_r gw_wsX70)))))
theorem hi_X7_rowsMeant_7 : ∀ w ∈ u_ws RX7 TX7 9, w ∈ wsX7_rowsMeant := fun w h => (gl_X7_rowsMeant_X70 w h).1
theorem hi_X7_rowsMeant_0 : ∀ w ∈ u_ws RX0 TX0 9, w ∈ wsX7_rowsMeant := fun w h => (gl_X7_rowsMeant_X00 w h).1
set_option maxHeartbeats 4000000 in
set_option maxRecDepth 100000 in
theorem c_X_rowsMeant (l : Launch) (D : va_G) (cI cJ cZ cP cS : ClassId) (po : zPool) (x0 xs j0 k0 w0 rd mv xr : Nat) (im lf : Int32) (fr : Nat → Int32) (j0 jp jc z0 zl zs : Nat) (cn de tr se hu sd : Int32) (fp : Nat → Option Nat) (kf af tf : Nat → Int32) (h0 e0 : Nat) (he si : Int32) (fe : Nat → Int64) (n : Int32) (hy0 : 0 ≤ im.toInt) (hy1 : im.toInt ≤ 1) (hy2 : (-1) ≤ lf.toInt) (hy3 : lf.toInt ≤ 160) (hy4 : 0 ≤ cn.toInt) (hy5 : cn.toInt ≤ 8) (hy6 : 0 ≤ de.toInt) (hy7 : de.toInt ≤ 24) (hy8 : 0 ≤ hu.toInt) (hy9 : hu.toInt ≤ 9) (hy10 : (-1) ≤ he.toInt) (hy11 : he.toInt ≤ 103) (hy12 : 0 ≤ si.toInt) (hy13 : si.toInt ≤ 160) (hjp : zJP po fp cn kf af tf) (hy15 : 1 ≤ n.toInt) (hy16 : n.toInt ≤ 20) : Met l yX7_rowsMeant wsX7_rowsMeant ({ frames := 4, cells := 0, slots := 0, locals := 93 }) (va_Pc [.ref x0, .ref h0, .int n] (zR D (zKT cI cJ cZ cP cS) po [(x0, .inr (7, [.ref xs, .ref j0, .ref k0, .ref w0, .ref rd, .ref mv, .ref xr, .int im, .int lf])), (j0, .inr (0, [.ref z0, .ref jp, .ref jc, .int cn, .int de, .int tr, .int se, .int hu, .int sd])), (jp, .inl (cP, 8, .inr (.inr (.inr (.inr fp))))), (h0, .inr (4, [.ref e0, .int he, .int si])), (e0, .inl (cJ, 160, .inr (.inl fe)))])) (vp_Si (fun r => True)) 0 0 (fun _ => False) := by
  refine Met.ofW (cc := cX7_rowsMeant) (maxL := 7) (ret := (some .int)) (by decide) rfl ?_
  intro p e s m args below meth c s₁ B hml hv
  obtain ⟨rfl, hP, hK, hN, hZ⟩ := hv
  have hx := B.exec
  have hb := B.bytes
  have hr := B.returns
  have hts := atoms_spec (ws := wsX7_rowsMeant) B.pre
  have hown : s.vm.findClass RX7 = some m.cls := findClass_of_methodNamed B.named
  have hlocks := B.notSynchronized
  have hl := lv_entry ([.ref x0, .ref h0, .int n]) (n := 7) (Nat.le_of_ble_eq_true rfl)
  rw [lg_entry_eq]
  generalize (lg_sl ([.ref x0, .ref h0, .int n]) ++ List.replicate (7 - (lg_sl ([.ref x0, .ref h0, .int n])).length) Slot.unset).toArray = ls at hl ⊢
  replace hl : lv_has ls 7 [(0, .ref x0), (1, .ref h0), (2, .int n)] := hl
  refine lv_iconst (v := 1) hx hb dX7_rowsMeant_0 (by decide) ?_
  refine lv_istore_n (lv' := [(3, .int 1), (0, .ref x0), (1, .ref h0), (2, .int n)]) hx hb dX7_rowsMeant_1 rfl hl (by decide) rfl (fun ls hl => ?_)
  refine lv_aload_n hx hb dX7_rowsMeant_2 rfl (lv_at hl 1 rfl) ?_
  refine va_get (D := D) (ci := 7) (v := .ref j0) (C := RX7) (T := TX7) (N := 9) hx hb hts hi_X7_rowsMeant_7 hown hK hP 0 rfl rfl 1 (by decide) (hts (.fieldLink RX7 18 "TheLiningsInIt" "now" "LTheLiningsInIt$Jacket;") (List.mem_of_getElem? (i := 1) rfl)) (fun _ h9 => h9) rfl dX7_rowsMeant_3 ?_
  refine va_get (D := D) (ci := 0) (v := .int de) (C := RX0) (T := TX0) (N := 9) hx hb hts hi_X7_rowsMeant_0 hown hK hP 1 rfl rfl 4 (by decide) (hts (.fieldLink RX7 199 "TheLiningsInIt$Jacket" "depth" "I") (List.mem_of_getElem? (i := 2) rfl)) (fun _ h9 => h9) rfl dX7_rowsMeant_6 ?_
  refine lv_istore (lv' := [(4, .int de), (3, .int 1), (0, .ref x0), (1, .ref h0), (2, .int n)]) hx hb dX7_rowsMeant_9 hl (by decide) rfl (fun ls hl => ?_)
  refine lv_iconst (v := 0) hx hb dX7_rowsMeant_11 (by decide) ?_
  refine lv_istore (lv' := [(5, .int 0), (4, .int de), (3, .int 1), (0, .ref x0), (1, .ref h0), (2, .int n)]) hx hb dX7_rowsMeant_12 hl (by decide) rfl (fun ls hl => ?_)
  obtain ⟨i_14, hi_14⟩ : ∃ i : Int32, i = 0 := ⟨_, rfl⟩
  replace hl : lv_has ls 7 [(5, .int i_14), (4, .int de), (3, .int 1), (0, .ref x0), (1, .ref h0), (2, .int n)] := by rw [hi_14]; exact lv_sub hl [0, 1, 2, 3, 4, 5] rfl
  have h1i_14 : i_14.toInt = 0 := by rw [hi_14]; decide
  obtain ⟨nfu, hni_14⟩ : ∃ nq9 : Nat, n.toInt ≤ i_14.toInt + (nq9 : Int) := ⟨((n.toInt : Int) - 0).toNat, by omega⟩
  have hloi_14 : 0 ≤ i_14.toInt := by omega
  obtain ⟨v_1, hv_1⟩ : ∃ g : Int32, g = 1 := ⟨_, rfl⟩
  obtain ⟨v_2, hv_2⟩ : ∃ g : Int32, g = de := ⟨_, rfl⟩
  replace hl : lv_has ls 7 [(5, .int i_14), (4, .int v_2), (3, .int v_1), (0, .ref x0), (1, .ref h0), (2, .int n)] := by rw [hv_1, hv_2]; exact hl
  clear h1i_14 hi_14 hv_1 hv_2
  revert hni_14
  revert hloi_14
  revert hl
  revert ls
  revert v_2
  revert v_1
  revert i_14
  induction nfu with
  | zero =>
    intro i_14 v_1 v_2 ls hl hloi_14 hni_14
    have hzi_14 : n.toInt ≤ i_14.toInt := by omega
    refine lv_iload hx hb dX7_rowsMeant_14 (lv_at hl 0 rfl) ?_
    refine lv_iload_n hx hb dX7_rowsMeant_16 rfl (lv_at hl 5 rfl) ?_
    refine lv_icmp_ge (tgt := 58) hx hb dX7_rowsMeant_17 (by decide) (fun c_3 => ?_) (fun c_3 => ?_)
    · have fc_3 : n.toInt ≤ i_14.toInt := zf_le c_3 rfl rfl
      refine lv_iload_n hx hb dX7_rowsMeant_58 rfl (lv_at hl 2 rfl) ?_
      exact W.iret (v := v_1) hx hb hr (fun t ht hW => ⟨v_1, rfl, trivial, ht⟩) (fun q hq => by cases hq) dX7_rowsMeant_59
    · exfalso; have fc_3 : i_14.toInt < n.toInt := zf_nle c_3 rfl rfl; omega
  | succ nfu ih =>
    intro i_14 v_1 v_2 ls hl hloi_14 hni_14
    refine lv_iload hx hb dX7_rowsMeant_14 (lv_at hl 0 rfl) ?_
    refine lv_iload_n hx hb dX7_rowsMeant_16 rfl (lv_at hl 5 rfl) ?_
    refine lv_icmp_ge (tgt := 58) hx hb dX7_rowsMeant_17 (by decide) (fun c_4 => ?_) (fun c_4 => ?_)
    · have fc_4 : n.toInt ≤ i_14.toInt := zf_le c_4 rfl rfl
      refine lv_iload_n hx hb dX7_rowsMeant_58 rfl (lv_at hl 2 rfl) ?_
      exact W.iret (v := v_1) hx hb hr (fun t ht hW => ⟨v_1, rfl, trivial, ht⟩) (fun q hq => by cases hq) dX7_rowsMeant_59
    · have fc_4 : i_14.toInt < n.toInt := zf_nle c_4 rfl rfl
      refine lv_aload_n hx hb dX7_rowsMeant_20 rfl (lv_at hl 4 rfl) ?_
      refine lv_iload hx hb dX7_rowsMeant_21 (lv_at hl 0 rfl) ?_
      refine zc_V (As := [.int i_14]) (rest := []) ⟨hx, hb, hml, hown, hts⟩ (c_Sh_tells l D cI cJ cZ cP cS po h0 e0 (he) (si) fe (i_14) hy10 hy11 hy12 hy13) (cwV 1 hts gX7_rowsMeant_X4_tells rfl rfl rfl ⟨rfl, dh_X4_tells⟩ ⟨Nat.le_of_ble_eq_true rfl, Nat.le_of_ble_eq_true rfl⟩) hK hN hZ hP (hP.sub [3, 4] rfl) (va_recv (q := (RX4, TX4, 3)) hK hP (ci := 4) (q0 := 3) rfl rfl) rfl hl.1 rfl (Nat.le_of_ble_eq_true rfl) dX7_rowsMeant_23 ⟨Nat.le_of_ble_eq_true rfl, Nat.le_of_ble_eq_true rfl⟩ (fun r_5 hr_5 => ?_)
      refine lv_istore (lv' := [(6, .int r_5), (5, .int i_14), (4, .int v_2), (3, .int v_1), (0, .ref x0), (1, .ref h0), (2, .int n)]) hx hb dX7_rowsMeant_26 hl (by decide) rfl (fun ls hl => ?_)
      refine lv_ldcw (own := RX7) (v := 1000000) hx hb hown (hts _ (List.mem_of_getElem? (i := 3) rfl)) dX7_rowsMeant_28 ?_
      refine lv_iload_n hx hb dX7_rowsMeant_31 rfl (lv_at hl 3 rfl) ?_
      refine lv_aload_n hx hb dX7_rowsMeant_32 rfl (lv_at hl 4 rfl) ?_
      refine va_get (D := D) (ci := 7) (v := .ref j0) (C := RX7) (T := TX7) (N := 9) hx hb hts hi_X7_rowsMeant_7 hown hK hP 0 rfl rfl 1 (by decide) (hts (.fieldLink RX7 18 "TheLiningsInIt" "now" "LTheLiningsInIt$Jacket;") (List.mem_of_getElem? (i := 1) rfl)) (fun _ h9 => h9) rfl dX7_rowsMeant_33 ?_
      refine lv_iload hx hb dX7_rowsMeant_36 (lv_at hl 2 rfl) ?_
      refine lv_iload hx hb dX7_rowsMeant_38 (lv_at hl 0 rfl) ?_
      refine zc_V (As := [.int v_2, .int r_5]) (rest := [.int v_1, .int 1000000]) ⟨hx, hb, hml, hown, hts⟩ (c_J_pullsMaking_any l D cI cJ cZ cP cS po j0 jp jc z0 0 0 (cn) (de) (tr) (se) (hu) (sd) fp kf af tf (v_2) (r_5) hy4 hy5 hy6 hy7 hy8 hy9 hjp) (cwV 2 hts gX7_rowsMeant_X0_pullsMaking rfl rfl rfl ⟨rfl, dh_X0_pullsMaking⟩ ⟨Nat.le_of_ble_eq_true rfl, Nat.le_of_ble_eq_true rfl⟩) hK hN hZ hP (hP.sub [1, 2] rfl) (va_recv (q := (RX0, TX0, 9)) hK hP (ci := 0) (q0 := 1) rfl rfl) rfl hl.1 rfl (Nat.le_of_ble_eq_true rfl) dX7_rowsMeant_40 ⟨Nat.le_of_ble_eq_true rfl, Nat.le_of_ble_eq_true rfl⟩ (fun r_6 hr_6 => ?_)
      refine lv_imul hx hb dX7_rowsMeant_43 ?_
      refine lv_topi (fun x_7 ex_7 => ?_)
      refine va_mmin hx hb (hml.trans hl.1.symm) hown (hts (.methodLink RX7 316 Lib.Math.min.name) (List.mem_of_getElem? (i := 4) rfl)) (hts _ (List.mem_of_getElem? (i := 5) rfl)) (hts _ (List.mem_of_getElem? (i := 6) rfl)) (hts _ (List.mem_of_getElem? (i := 7) rfl)) (Nat.le_of_ble_eq_true rfl) (Nat.le_of_ble_eq_true rfl) (Nat.le_of_ble_eq_true rfl) (Nat.le_of_ble_eq_true rfl) dX7_rowsMeant_44 ?_
      refine lv_topi (fun x_8 ex_8 => ?_)
      have qx_8 := zf_min ex_8 (x1 := 1000000) (y1 := x_7.toInt) (by decide) rfl
      refine lv_istore_n (lv' := [(3, .int x_8), (6, .int r_5), (5, .int i_14), (4, .int v_2), (0, .ref x0), (1, .ref h0), (2, .int n)]) hx hb dX7_rowsMeant_47 rfl hl (by decide) rfl (fun ls hl => ?_)
      refine lv_iload hx hb dX7_rowsMeant_48 (lv_at hl 1 rfl) ?_
      refine lv_istore (lv' := [(4, .int r_5), (3, .int x_8), (6, .int r_5), (5, .int i_14), (0, .ref x0), (1, .ref h0), (2, .int n)]) hx hb dX7_rowsMeant_50 hl (by decide) rfl (fun ls hl => ?_)
      obtain ⟨x_9, ex_9⟩ : ∃ y : Int32, y = i_14 + 1 := ⟨_, rfl⟩
      have qx_9 : x_9.toInt = i_14.toInt + 1 := dw_inc ex_9 fc_4
      refine lv_iinc (v := x_9) (lv' := [(5, .int x_9), (4, .int r_5), (3, .int x_8), (6, .int r_5), (0, .ref x0), (1, .ref h0), (2, .int n)]) hx hb dX7_rowsMeant_52 hl (k := 3) rfl ex_9.symm (by decide) rfl (fun ls hl => ?_)
      refine lv_goto (tgt := 14) hx hb dX7_rowsMeant_55 (by decide) ?_
      exact ih x_9 x_8 r_5 _ (lv_sub hl [0, 1, 2, 4, 5, 6] rfl) (dw_lo hloi_14 qx_9) (dw_hn hni_14 qx_9)
set_option maxHeartbeats 4000000 in
set_option maxRecDepth 100000 in
theorem c_X_judge (l : Launch) (D : va_G) (cI cJ cZ cP cS : ClassId) (po : zPool) (x0 xs j0 k0 w0 rd mv xr : Nat) (im lf : Int32) (fr : Nat → Int32) (fh : Nat → Option Nat) (s_ : Int32) (h0 e0 : Nat) (he si : Int32) (fe : Nat → Int64) (j0 jp jc z0 zl zs : Nat) (cn de tr se hu sd : Int32) (fp : Nat → Option Nat) (kf af tf : Nat → Int32) (n : Int32) (hy0 : 0 ≤ im.toInt) (hy1 : im.toInt ≤ 1) (hy2 : (-1) ≤ lf.toInt) (hy3 : lf.toInt ≤ 160) (hy4 : (-1) ≤ he.toInt) (hy5 : he.toInt ≤ 103) (hy6 : 0 ≤ si.toInt) (hy7 : si.toInt ≤ 160) (hfs : 0 ≤ s_.toInt → s_.toInt ≤ 7 → fh s_.toNatClampNeg = some h0) (hy9 : 0 ≤ cn.toInt) (hy10 : cn.toInt ≤ 8) (hy11 : 0 ≤ de.toInt) (hy12 : de.toInt ≤ 24) (hy13 : 0 ≤ hu.toInt) (hy14 : hu.toInt ≤ 9) (hjp : zJP po fp cn kf af tf) (hpz : Nat) : Met l yX7_judge wsX7_judge ({ frames := 3, cells := 0, slots := 0, locals := 71 }) (va_Pc [.ref x0, .int s_, .int n] (zW D (zKT cI cJ cZ cP cS) po [(x0, .inr (7, [.ref xs, .ref j0, .ref k0, .ref w0, .ref rd, .ref mv, .ref xr, .int im, .int lf])), (xr, .inl (cI, 8, .inl fr)), (xs, .inl (cS, 8, .inr (.inr (.inr (.inr fh))))), (h0, .inr (4, [.ref e0, .int he, .int si])), (e0, .inl (cJ, 160, .inr (.inl fe))), (j0, .inr (0, [.ref z0, .ref jp, .ref jc, .int cn, .int de, .int tr, .int se, .int hu, .int sd])), (jp, .inl (cP, 8, .inr (.inr (.inr (.inr fp)))))] hpz)) (va_Qi (fun (r : Int32) (fr2 : (Nat → Int32)) => True) (zB D [(x0, .inr (7, [.ref xs, .ref j0, .ref k0, .ref w0, .ref rd, .ref mv, .ref xr, .int im, .int lf])), (xr, .inl (cI, 8, .inl fr)), (xs, .inl (cS, 8, .inr (.inr (.inr (.inr fh))))), (h0, .inr (4, [.ref e0, .int he, .int si])), (e0, .inl (cJ, 160, .inr (.inl fe))), (j0, .inr (0, [.ref z0, .ref jp, .ref jc, .int cn, .int de, .int tr, .int se, .int hu, .int sd])), (jp, .inl (cP, 8, .inr (.inr (.inr (.inr fp)))))] hpz (fun (fr2 : Nat → Int32) => [(x0, .inr (7, [.ref xs, .ref j0, .ref k0, .ref w0, .ref rd, .ref mv, .ref xr, .int im, .int lf])), (xr, .inl (cI, 8, .inl fr2)), (xs, .inl (cS, 8, .inr (.inr (.inr (.inr fh))))), (h0, .inr (4, [.ref e0, .int he, .int si])), (e0, .inl (cJ, 160, .inr (.inl fe))), (j0, .inr (0, [.ref z0, .ref jp, .ref jc, .int cn, .int de, .int tr, .int se, .int hu, .int sd])), (jp, .inl (cP, 8, .inr (.inr (.inr (.inr fp)))))])) (va_A [(x0, .inr (7, [.ref xs, .ref j0, .ref k0, .ref w0, .ref rd, .ref mv, .ref xr, .int im, .int lf])), (xr, .inl (cI, 8, .inl fr)), (xs, .inl (cS, 8, .inr (.inr (.inr (.inr fh))))), (h0, .inr (4, [.ref e0, .int he, .int si])), (e0, .inl (cJ, 160, .inr (.inl fe))), (j0, .inr (0, [.ref z0, .ref jp, .ref jc, .int cn, .int de, .int tr, .int se, .int hu, .int sd])), (jp, .inl (cP, 8, .inr (.inr (.inr (.inr fp)))))] hpz)) 0 0 (va_A [(x0, .inr (7, [.ref xs, .ref j0, .ref k0, .ref w0, .ref rd, .ref mv, .ref xr, .int im, .int lf])), (xr, .inl (cI, 8, .inl fr)), (xs, .inl (cS, 8, .inr (.inr (.inr (.inr fh))))), (h0, .inr (4, [.ref e0, .int he, .int si])), (e0, .inl (cJ, 160, .inr (.inl fe))), (j0, .inr (0, [.ref z0, .ref jp, .ref jc, .int cn, .int de, .int tr, .int se, .int hu, .int sd])), (jp, .inl (cP, 8, .inr (.inr (.inr (.inr fp)))))] hpz) := by
  refine Met.ofW (cc := cX7_judge) (maxL := 5) (ret := (some .int)) (by decide) rfl ?_
  intro p e s m args below meth c s₁ B hml hv
  obtain ⟨rfl, hsz, hP, hK, hD0, hN, hZ⟩ := hv
  have hx := B.exec
  have hb := B.bytes
  have hr := B.returns
  have hts := atoms_spec (ws := wsX7_judge) B.pre
  have hown : s.vm.findClass RX7 = some m.cls := findClass_of_methodNamed B.named
  have hlocks := B.notSynchronized
  subst hsz
  have hD := hD0.self (sz := s.heap.size)
  have hA := zA_of hD
  have hl := lv_entry ([.ref x0, .int s_, .int n]) (n := 5) (Nat.le_of_ble_eq_true rfl)
  rw [lg_entry_eq]
  generalize (lg_sl ([.ref x0, .int s_, .int n]) ++ List.replicate (5 - (lg_sl ([.ref x0, .int s_, .int n])).length) Slot.unset).toArray = ls at hl ⊢
  replace hl : lv_has ls 5 [(0, .ref x0), (1, .int s_), (2, .int n)] := hl
  refine zw_begin hP hD (fun H locs hP1 hS => ?_)
  clear hP
  have hP := hP1
  clear hP1
  refine lv_aload_n hx hb dX7_judge_0 rfl (lv_at hl 0 rfl) ?_
  refine lv_iload_n hx hb dX7_judge_1 rfl (lv_at hl 1 rfl) ?_
  refine zc_Vq (As := [.int s_]) (rest := []) ⟨hx, hb, hml, hown, hts⟩ (c_X_shelfAt l D cI cJ cZ cP cS po x0 xs j0 k0 w0 rd mv xr (im) (lf) ((fun _ => 0)) fh (s_) hy0 hy1 hy2 hy3) (cwV 1 hts gX7_judge_X7_shelfAt rfl rfl rfl ⟨rfl, dh_X7_shelfAt⟩ ⟨Nat.le_of_ble_eq_true rfl, Nat.le_of_ble_eq_true rfl⟩) hK hN (hZ.kept hS) hP (hP.sub [0, 2] rfl) (va_recv (q := (RX7, TX7, 9)) hK hP (ci := 7) (q0 := 0) rfl rfl) rfl hl.1 rfl (Nat.le_of_ble_eq_true rfl) dX7_judge_2 ⟨Nat.le_of_ble_eq_true rfl, Nat.le_of_ble_eq_true rfl⟩ (fun r_1 hr_1 => ?_)
  rcases hr_1 with ⟨rfl, g_2⟩ | ⟨rfl, g_3, g_4⟩ | ⟨rfl, g_5, g_6⟩
  · refine lv_astore_nN (lv' := [(3, .null), (0, .ref x0), (1, .int s_), (2, .int n)]) hx hb dX7_judge_5 rfl hl (by decide) rfl (fun ls hl => ?_)
    refine lv_aload_nN hx hb dX7_judge_6 rfl (lv_at hl 0 rfl) ?_
    refine lv_ifnonnullN hx hb dX7_judge_7 ?_
    refine lv_aload_n hx hb dX7_judge_10 rfl (lv_at hl 1 rfl) ?_
    refine lv_iconst (v := 1) hx hb dX7_judge_11 (by decide) ?_
    skip
    refine zw_V (As := [.int 1]) (rest := []) (wr := [(xs, .inl (cS, 8, .inr (.inr (.inr (.inr fh))))), (h0, .inr (4, [.ref e0, .int he, .int si])), (e0, .inl (cJ, 160, .inr (.inl fe))), (j0, .inr (0, [.ref z0, .ref jp, .ref jc, .int cn, .int de, .int tr, .int se, .int hu, .int sd])), (jp, .inl (cP, 8, .inr (.inr (.inr (.inr fp)))))]) ⟨hx, hb, hml, hown, hts⟩ (c_X_refuseLower_1 l D cI cJ cZ cP cS po x0 xs j0 k0 w0 rd mv xr (im) (lf) fr hy0 hy1 hy2 hy3 H.size) (cwV 1 hts gX7_judge_X7_refuseLower rfl rfl rfl ⟨rfl, dh_X7_refuseLower⟩ ⟨Nat.le_of_ble_eq_true rfl, Nat.le_of_ble_eq_true rfl⟩) hK hN (hZ.kept hS) hP hD hS hA [0, 1] [2, 3, 4, 5, 6] rfl rfl (by decide) (by decide) (by decide) (va_recv (q := (RX7, TX7, 9)) hK hP (ci := 7) (q0 := 0) rfl rfl) rfl hl.1 rfl (Nat.le_of_ble_eq_true rfl) dX7_judge_12 ⟨Nat.le_of_ble_eq_true rfl, Nat.le_of_ble_eq_true rfl⟩ (fun r_7 u_8 H locs hr_7 hP hD hS => ?_)
    obtain ⟨q_9, rfl⟩ : ∃ z, z = u_8 := ⟨_, rfl⟩
    have h9R := zRe (ws' := [(xs, .inl (cS, 8, .inr (.inr (.inr (.inr fh))))), (h0, .inr (4, [.ref e0, .int he, .int si])), (e0, .inl (cJ, 160, .inr (.inl fe))), (j0, .inr (0, [.ref z0, .ref jp, .ref jc, .int cn, .int de, .int tr, .int se, .int hu, .int sd])), (jp, .inl (cP, 8, .inr (.inr (.inr (.inr fp))))), (x0, .inr (7, [.ref xs, .ref j0, .ref k0, .ref w0, .ref rd, .ref mv, .ref xr, .int im, .int lf])), (xr, .inl (cI, 8, .inl q_9))]) hP hD rfl
    clear hP hD
    obtain ⟨hP, hD⟩ := h9R
    obtain rfl := hr_7
    exact W.iret (v := (-11)) hx hb hr (fun t ht hW => ⟨⟨(-11), q_9, rfl, trivial, zRet ht hP hD [5, 6, 0, 1, 2, 3, 4] (by decide) rfl⟩, hS.F ht⟩) hS.2.2 dX7_judge_15
  · refine lv_astore_nN (lv' := [(3, .null), (0, .ref x0), (1, .int s_), (2, .int n)]) hx hb dX7_judge_5 rfl hl (by decide) rfl (fun ls hl => ?_)
    refine lv_aload_nN hx hb dX7_judge_6 rfl (lv_at hl 0 rfl) ?_
    refine lv_ifnonnullN hx hb dX7_judge_7 ?_
    refine lv_aload_n hx hb dX7_judge_10 rfl (lv_at hl 1 rfl) ?_
    refine lv_iconst (v := 1) hx hb dX7_judge_11 (by decide) ?_
    skip
    refine zw_V (As := [.int 1]) (rest := []) (wr := [(xs, .inl (cS, 8, .inr (.inr (.inr (.inr fh))))), (h0, .inr (4, [.ref e0, .int he, .int si])), (e0, .inl (cJ, 160, .inr (.inl fe))), (j0, .inr (0, [.ref z0, .ref jp, .ref jc, .int cn, .int de, .int tr, .int se, .int hu, .int sd])), (jp, .inl (cP, 8, .inr (.inr (.inr (.inr fp)))))]) ⟨hx, hb, hml, hown, hts⟩ (c_X_refuseLower_1 l D cI cJ cZ cP cS po x0 xs j0 k0 w0 rd mv xr (im) (lf) fr hy0 hy1 hy2 hy3 H.size) (cwV 1 hts gX7_judge_X7_refuseLower rfl rfl rfl ⟨rfl, dh_X7_refuseLower⟩ ⟨Nat.le_of_ble_eq_true rfl, Nat.le_of_ble_eq_true rfl⟩) hK hN (hZ.kept hS) hP hD hS hA [0, 1] [2, 3, 4, 5, 6] rfl rfl (by decide) (by decide) (by decide) (va_recv (q := (RX7, TX7, 9)) hK hP (ci := 7) (q0 := 0) rfl rfl) rfl hl.1 rfl (Nat.le_of_ble_eq_true rfl) dX7_judge_12 ⟨Nat.le_of_ble_eq_true rfl, Nat.le_of_ble_eq_true rfl⟩ (fun r_10 u_11 H locs hr_10 hP hD hS => ?_)
    obtain ⟨q_12, rfl⟩ : ∃ z, z = u_11 := ⟨_, rfl⟩
    have h9R := zRe (ws' := [(xs, .inl (cS, 8, .inr (.inr (.inr (.inr fh))))), (h0, .inr (4, [.ref e0, .int he, .int si])), (e0, .inl (cJ, 160, .inr (.inl fe))), (j0, .inr (0, [.ref z0, .ref jp, .ref jc, .int cn, .int de, .int tr, .int se, .int hu, .int sd])), (jp, .inl (cP, 8, .inr (.inr (.inr (.inr fp))))), (x0, .inr (7, [.ref xs, .ref j0, .ref k0, .ref w0, .ref rd, .ref mv, .ref xr, .int im, .int lf])), (xr, .inl (cI, 8, .inl q_12))]) hP hD rfl
    clear hP hD
    obtain ⟨hP, hD⟩ := h9R
    obtain rfl := hr_10
    exact W.iret (v := (-11)) hx hb hr (fun t ht hW => ⟨⟨(-11), q_12, rfl, trivial, zRet ht hP hD [5, 6, 0, 1, 2, 3, 4] (by decide) rfl⟩, hS.F ht⟩) hS.2.2 dX7_judge_15
  · rw [hfs (by omega) (by omega)]
    refine W.eq (g2 := F0 m 5 ls (.ref h0 :: [])) rfl ?_
    refine lv_astore_n (lv' := [(3, .ref h0), (0, .ref x0), (1, .int s_), (2, .int n)]) hx hb dX7_judge_5 rfl hl (by decide) rfl (fun ls hl => ?_)
    refine lv_aload_n hx hb dX7_judge_6 rfl (lv_at hl 0 rfl) ?_
    refine lv_ifnonnull (tgt := 16) hx hb dX7_judge_7 (by decide) ?_
    refine lv_aload_n hx hb dX7_judge_16 rfl (lv_at hl 0 rfl) ?_
    refine lv_iload_n hx hb dX7_judge_17 rfl (lv_at hl 3 rfl) ?_
    refine zc_V (As := [.int n]) (rest := []) ⟨hx, hb, hml, hown, hts⟩ (c_Sh_noTelling l D cI cJ cZ cP cS po h0 e0 (he) (si) (n) hy4 hy5 hy6 hy7) (cwV 1 hts gX7_judge_X4_noTelling rfl rfl rfl ⟨rfl, dh_X4_noTelling⟩ ⟨Nat.le_of_ble_eq_true rfl, Nat.le_of_ble_eq_true rfl⟩) hK hN (hZ.kept hS) hP (hP.sub [3] rfl) (va_recv (q := (RX4, TX4, 3)) hK hP (ci := 4) (q0 := 3) rfl rfl) rfl hl.1 rfl (Nat.le_of_ble_eq_true rfl) dX7_judge_18 ⟨Nat.le_of_ble_eq_true rfl, Nat.le_of_ble_eq_true rfl⟩ (fun r_13 hr_13 => ?_)
    rcases hr_13 with ⟨rfl, g_14, g_15⟩ | ⟨rfl, g_16, g_17⟩ | ⟨rfl, g_18, g_19, g_20⟩ | ⟨rfl, g_21, g_22, g_23⟩ | ⟨rfl, g_24, g_25⟩
    · refine lv_istore (lv' := [(4, .int 2), (3, .ref h0), (0, .ref x0), (1, .int s_), (2, .int n)]) hx hb dX7_judge_21 hl (by decide) rfl (fun ls hl => ?_)
      refine lv_iload hx hb dX7_judge_23 (lv_at hl 0 rfl) ?_
      refine lv_if_eq (tgt := 35) hx hb dX7_judge_25 (by decide) (fun c_26 => ?_) (fun c_26 => ?_)
      · exact absurd c_26 (by decide)
      · refine lv_aload_n hx hb dX7_judge_28 rfl (lv_at hl 2 rfl) ?_
        refine lv_iload hx hb dX7_judge_29 (lv_at hl 0 rfl) ?_
        skip
        refine zw_V (As := [.int 2]) (rest := []) (wr := [(xs, .inl (cS, 8, .inr (.inr (.inr (.inr fh))))), (h0, .inr (4, [.ref e0, .int he, .int si])), (e0, .inl (cJ, 160, .inr (.inl fe))), (j0, .inr (0, [.ref z0, .ref jp, .ref jc, .int cn, .int de, .int tr, .int se, .int hu, .int sd])), (jp, .inl (cP, 8, .inr (.inr (.inr (.inr fp)))))]) ⟨hx, hb, hml, hown, hts⟩ (c_X_refuseLower_2 l D cI cJ cZ cP cS po x0 xs j0 k0 w0 rd mv xr (im) (lf) fr hy0 hy1 hy2 hy3 H.size) (cwV 1 hts gX7_judge_X7_refuseLower rfl rfl rfl ⟨rfl, dh_X7_refuseLower⟩ ⟨Nat.le_of_ble_eq_true rfl, Nat.le_of_ble_eq_true rfl⟩) hK hN (hZ.kept hS) hP hD hS hA [0, 1] [2, 3, 4, 5, 6] rfl rfl (by decide) (by decide) (by decide) (va_recv (q := (RX7, TX7, 9)) hK hP (ci := 7) (q0 := 0) rfl rfl) rfl hl.1 rfl (Nat.le_of_ble_eq_true rfl) dX7_judge_31 ⟨Nat.le_of_ble_eq_true rfl, Nat.le_of_ble_eq_true rfl⟩ (fun r_27 u_28 H locs hr_27 hP hD hS => ?_)
        obtain ⟨q_29, rfl⟩ : ∃ z, z = u_28 := ⟨_, rfl⟩
        have h9R := zRe (ws' := [(xs, .inl (cS, 8, .inr (.inr (.inr (.inr fh))))), (h0, .inr (4, [.ref e0, .int he, .int si])), (e0, .inl (cJ, 160, .inr (.inl fe))), (j0, .inr (0, [.ref z0, .ref jp, .ref jc, .int cn, .int de, .int tr, .int se, .int hu, .int sd])), (jp, .inl (cP, 8, .inr (.inr (.inr (.inr fp))))), (x0, .inr (7, [.ref xs, .ref j0, .ref k0, .ref w0, .ref rd, .ref mv, .ref xr, .int im, .int lf])), (xr, .inl (cI, 8, .inl q_29))]) hP hD rfl
        clear hP hD
        obtain ⟨hP, hD⟩ := h9R
        obtain rfl := hr_27
        exact W.iret (v := (-12)) hx hb hr (fun t ht hW => ⟨⟨(-12), q_29, rfl, trivial, zRet ht hP hD [5, 6, 0, 1, 2, 3, 4] (by decide) rfl⟩, hS.F ht⟩) hS.2.2 dX7_judge_34
    · refine lv_istore (lv' := [(4, .int 3), (3, .ref h0), (0, .ref x0), (1, .int s_), (2, .int n)]) hx hb dX7_judge_21 hl (by decide) rfl (fun ls hl => ?_)
      refine lv_iload hx hb dX7_judge_23 (lv_at hl 0 rfl) ?_
      refine lv_if_eq (tgt := 35) hx hb dX7_judge_25 (by decide) (fun c_30 => ?_) (fun c_30 => ?_)
      · exact absurd c_30 (by decide)
      · refine lv_aload_n hx hb dX7_judge_28 rfl (lv_at hl 2 rfl) ?_
        refine lv_iload hx hb dX7_judge_29 (lv_at hl 0 rfl) ?_
        skip
        refine zw_V (As := [.int 3]) (rest := []) (wr := [(xs, .inl (cS, 8, .inr (.inr (.inr (.inr fh))))), (h0, .inr (4, [.ref e0, .int he, .int si])), (e0, .inl (cJ, 160, .inr (.inl fe))), (j0, .inr (0, [.ref z0, .ref jp, .ref jc, .int cn, .int de, .int tr, .int se, .int hu, .int sd])), (jp, .inl (cP, 8, .inr (.inr (.inr (.inr fp)))))]) ⟨hx, hb, hml, hown, hts⟩ (c_X_refuseLower_3 l D cI cJ cZ cP cS po x0 xs j0 k0 w0 rd mv xr (im) (lf) fr hy0 hy1 hy2 hy3 H.size) (cwV 1 hts gX7_judge_X7_refuseLower rfl rfl rfl ⟨rfl, dh_X7_refuseLower⟩ ⟨Nat.le_of_ble_eq_true rfl, Nat.le_of_ble_eq_true rfl⟩) hK hN (hZ.kept hS) hP hD hS hA [0, 1] [2, 3, 4, 5, 6] rfl rfl (by decide) (by decide) (by decide) (va_recv (q := (RX7, TX7, 9)) hK hP (ci := 7) (q0 := 0) rfl rfl) rfl hl.1 rfl (Nat.le_of_ble_eq_true rfl) dX7_judge_31 ⟨Nat.le_of_ble_eq_true rfl, Nat.le_of_ble_eq_true rfl⟩ (fun r_31 u_32 H locs hr_31 hP hD hS => ?_)
        obtain ⟨q_33, rfl⟩ : ∃ z, z = u_32 := ⟨_, rfl⟩
        have h9R := zRe (ws' := [(xs, .inl (cS, 8, .inr (.inr (.inr (.inr fh))))), (h0, .inr (4, [.ref e0, .int he, .int si])), (e0, .inl (cJ, 160, .inr (.inl fe))), (j0, .inr (0, [.ref z0, .ref jp, .ref jc, .int cn, .int de, .int tr, .int se, .int hu, .int sd])), (jp, .inl (cP, 8, .inr (.inr (.inr (.inr fp))))), (x0, .inr (7, [.ref xs, .ref j0, .ref k0, .ref w0, .ref rd, .ref mv, .ref xr, .int im, .int lf])), (xr, .inl (cI, 8, .inl q_33))]) hP hD rfl
        clear hP hD
        obtain ⟨hP, hD⟩ := h9R
        obtain rfl := hr_31
        exact W.iret (v := (-13)) hx hb hr (fun t ht hW => ⟨⟨(-13), q_33, rfl, trivial, zRet ht hP hD [5, 6, 0, 1, 2, 3, 4] (by decide) rfl⟩, hS.F ht⟩) hS.2.2 dX7_judge_34
    · refine lv_istore (lv' := [(4, .int 0), (3, .ref h0), (0, .ref x0), (1, .int s_), (2, .int n)]) hx hb dX7_judge_21 hl (by decide) rfl (fun ls hl => ?_)
      refine lv_iload hx hb dX7_judge_23 (lv_at hl 0 rfl) ?_
      refine lv_if_eq (tgt := 35) hx hb dX7_judge_25 (by decide) (fun c_34 => ?_) (fun c_34 => ?_)
      · refine lv_iload_n hx hb dX7_judge_35 rfl (lv_at hl 4 rfl) ?_
        refine lv_bipush (v := 20) hx hb dX7_judge_36 (by decide) ?_
        refine lv_icmp_le (tgt := 48) hx hb dX7_judge_38 (by decide) (fun c_35 => ?_) (fun c_35 => ?_)
        · have fc_35 : n.toInt ≤ 20 := zf_le c_35 rfl (by decide)
          refine lv_aload_n hx hb dX7_judge_48 rfl (lv_at hl 2 rfl) ?_
          refine lv_aload_n hx hb dX7_judge_49 rfl (lv_at hl 1 rfl) ?_
          refine lv_iload_n hx hb dX7_judge_50 rfl (lv_at hl 4 rfl) ?_
          refine zc_V (As := [.ref h0, .int n]) (rest := []) ⟨hx, hb, hml, hown, hts⟩ (c_X_firstWrong l D cI cJ cZ cP cS po x0 xs j0 k0 w0 rd mv xr (im) (lf) ((fun _ => 0)) j0 jp jc z0 0 0 (cn) (de) (tr) (se) (hu) (sd) fp kf af tf h0 e0 (he) (si) fe (n) hy0 hy1 hy2 hy3 hy9 hy10 hy11 hy12 hy13 hy14 hy4 hy5 hy6 hy7 hjp (by omega) (by omega)) (cwV 2 hts gX7_judge_X7_firstWrong rfl rfl rfl ⟨rfl, dh_X7_firstWrong⟩ ⟨Nat.le_of_ble_eq_true rfl, Nat.le_of_ble_eq_true rfl⟩) hK hN (hZ.kept hS) hP (hP.sub [0, 5, 6, 3, 4] rfl) (va_recv (q := (RX7, TX7, 9)) hK hP (ci := 7) (q0 := 0) rfl rfl) rfl hl.1 rfl (Nat.le_of_ble_eq_true rfl) dX7_judge_51 ⟨Nat.le_of_ble_eq_true rfl, Nat.le_of_ble_eq_true rfl⟩ (fun r_36 hr_36 => ?_)
          exact W.iret (v := r_36) hx hb hr (fun t ht hW => ⟨⟨r_36, fr, rfl, trivial, zRet ht hP hD [0, 1, 2, 3, 4, 5, 6] (by decide) rfl⟩, hS.F ht⟩) hS.2.2 dX7_judge_54
        · have fc_35 : 20 < n.toInt := zf_nle c_35 rfl (by decide)
          refine lv_aload_n hx hb dX7_judge_41 rfl (lv_at hl 2 rfl) ?_
          refine lv_bipush (v := 6) hx hb dX7_judge_42 (by decide) ?_
          skip
          refine zw_V (As := [.int 6]) (rest := []) (wr := [(xs, .inl (cS, 8, .inr (.inr (.inr (.inr fh))))), (h0, .inr (4, [.ref e0, .int he, .int si])), (e0, .inl (cJ, 160, .inr (.inl fe))), (j0, .inr (0, [.ref z0, .ref jp, .ref jc, .int cn, .int de, .int tr, .int se, .int hu, .int sd])), (jp, .inl (cP, 8, .inr (.inr (.inr (.inr fp)))))]) ⟨hx, hb, hml, hown, hts⟩ (c_X_refuseLower_6 l D cI cJ cZ cP cS po x0 xs j0 k0 w0 rd mv xr (im) (lf) fr hy0 hy1 hy2 hy3 H.size) (cwV 1 hts gX7_judge_X7_refuseLower rfl rfl rfl ⟨rfl, dh_X7_refuseLower⟩ ⟨Nat.le_of_ble_eq_true rfl, Nat.le_of_ble_eq_true rfl⟩) hK hN (hZ.kept hS) hP hD hS hA [0, 1] [2, 3, 4, 5, 6] rfl rfl (by decide) (by decide) (by decide) (va_recv (q := (RX7, TX7, 9)) hK hP (ci := 7) (q0 := 0) rfl rfl) rfl hl.1 rfl (Nat.le_of_ble_eq_true rfl) dX7_judge_44 ⟨Nat.le_of_ble_eq_true rfl, Nat.le_of_ble_eq_true rfl⟩ (fun r_37 u_38 H locs hr_37 hP hD hS => ?_)
          obtain ⟨q_39, rfl⟩ : ∃ z, z = u_38 := ⟨_, rfl⟩
          have h9R := zRe (ws' := [(xs, .inl (cS, 8, .inr (.inr (.inr (.inr fh))))), (h0, .inr (4, [.ref e0, .int he, .int si])), (e0, .inl (cJ, 160, .inr (.inl fe))), (j0, .inr (0, [.ref z0, .ref jp, .ref jc, .int cn, .int de, .int tr, .int se, .int hu, .int sd])), (jp, .inl (cP, 8, .inr (.inr (.inr (.inr fp))))), (x0, .inr (7, [.ref xs, .ref j0, .ref k0, .ref w0, .ref rd, .ref mv, .ref xr, .int im, .int lf])), (xr, .inl (cI, 8, .inl q_39))]) hP hD rfl
          clear hP hD
          obtain ⟨hP, hD⟩ := h9R
          obtain rfl := hr_37
          exact W.iret (v := (-16)) hx hb hr (fun t ht hW => ⟨⟨(-16), q_39, rfl, trivial, zRet ht hP hD [5, 6, 0, 1, 2, 3, 4] (by decide) rfl⟩, hS.F ht⟩) hS.2.2 dX7_judge_47
      · exact absurd c_34 (by decide)
    · refine lv_istore (lv' := [(4, .int 5), (3, .ref h0), (0, .ref x0), (1, .int s_), (2, .int n)]) hx hb dX7_judge_21 hl (by decide) rfl (fun ls hl => ?_)
      refine lv_iload hx hb dX7_judge_23 (lv_at hl 0 rfl) ?_
      refine lv_if_eq (tgt := 35) hx hb dX7_judge_25 (by decide) (fun c_40 => ?_) (fun c_40 => ?_)
      · exact absurd c_40 (by decide)
      · refine lv_aload_n hx hb dX7_judge_28 rfl (lv_at hl 2 rfl) ?_
        refine lv_iload hx hb dX7_judge_29 (lv_at hl 0 rfl) ?_
        skip
        refine zw_V (As := [.int 5]) (rest := []) (wr := [(xs, .inl (cS, 8, .inr (.inr (.inr (.inr fh))))), (h0, .inr (4, [.ref e0, .int he, .int si])), (e0, .inl (cJ, 160, .inr (.inl fe))), (j0, .inr (0, [.ref z0, .ref jp, .ref jc, .int cn, .int de, .int tr, .int se, .int hu, .int sd])), (jp, .inl (cP, 8, .inr (.inr (.inr (.inr fp)))))]) ⟨hx, hb, hml, hown, hts⟩ (c_X_refuseLower_5 l D cI cJ cZ cP cS po x0 xs j0 k0 w0 rd mv xr (im) (lf) fr hy0 hy1 hy2 hy3 H.size) (cwV 1 hts gX7_judge_X7_refuseLower rfl rfl rfl ⟨rfl, dh_X7_refuseLower⟩ ⟨Nat.le_of_ble_eq_true rfl, Nat.le_of_ble_eq_true rfl⟩) hK hN (hZ.kept hS) hP hD hS hA [0, 1] [2, 3, 4, 5, 6] rfl rfl (by decide) (by decide) (by decide) (va_recv (q := (RX7, TX7, 9)) hK hP (ci := 7) (q0 := 0) rfl rfl) rfl hl.1 rfl (Nat.le_of_ble_eq_true rfl) dX7_judge_31 ⟨Nat.le_of_ble_eq_true rfl, Nat.le_of_ble_eq_true rfl⟩ (fun r_41 u_42 H locs hr_41 hP hD hS => ?_)
        obtain ⟨q_43, rfl⟩ : ∃ z, z = u_42 := ⟨_, rfl⟩
        have h9R := zRe (ws' := [(xs, .inl (cS, 8, .inr (.inr (.inr (.inr fh))))), (h0, .inr (4, [.ref e0, .int he, .int si])), (e0, .inl (cJ, 160, .inr (.inl fe))), (j0, .inr (0, [.ref z0, .ref jp, .ref jc, .int cn, .int de, .int tr, .int se, .int hu, .int sd])), (jp, .inl (cP, 8, .inr (.inr (.inr (.inr fp))))), (x0, .inr (7, [.ref xs, .ref j0, .ref k0, .ref w0, .ref rd, .ref mv, .ref xr, .int im, .int lf])), (xr, .inl (cI, 8, .inl q_43))]) hP hD rfl
        clear hP hD
        obtain ⟨hP, hD⟩ := h9R
        obtain rfl := hr_41
        exact W.iret (v := (-15)) hx hb hr (fun t ht hW => ⟨⟨(-15), q_43, rfl, trivial, zRet ht hP hD [5, 6, 0, 1, 2, 3, 4] (by decide) rfl⟩, hS.F ht⟩) hS.2.2 dX7_judge_34
    · refine lv_istore (lv' := [(4, .int 4), (3, .ref h0), (0, .ref x0), (1, .int s_), (2, .int n)]) hx hb dX7_judge_21 hl (by decide) rfl (fun ls hl => ?_)
      refine lv_iload hx hb dX7_judge_23 (lv_at hl 0 rfl) ?_
      refine lv_if_eq (tgt := 35) hx hb dX7_judge_25 (by decide) (fun c_44 => ?_) (fun c_44 => ?_)
      · exact absurd c_44 (by decide)
      · refine lv_aload_n hx hb dX7_judge_28 rfl (lv_at hl 2 rfl) ?_
        refine lv_iload hx hb dX7_judge_29 (lv_at hl 0 rfl) ?_
        skip
        refine zw_V (As := [.int 4]) (rest := []) (wr := [(xs, .inl (cS, 8, .inr (.inr (.inr (.inr fh))))), (h0, .inr (4, [.ref e0, .int he, .int si])), (e0, .inl (cJ, 160, .inr (.inl fe))), (j0, .inr (0, [.ref z0, .ref jp, .ref jc, .int cn, .int de, .int tr, .int se, .int hu, .int sd])), (jp, .inl (cP, 8, .inr (.inr (.inr (.inr fp)))))]) ⟨hx, hb, hml, hown, hts⟩ (c_X_refuseLower_4 l D cI cJ cZ cP cS po x0 xs j0 k0 w0 rd mv xr (im) (lf) fr hy0 hy1 hy2 hy3 H.size) (cwV 1 hts gX7_judge_X7_refuseLower rfl rfl rfl ⟨rfl, dh_X7_refuseLower⟩ ⟨Nat.le_of_ble_eq_true rfl, Nat.le_of_ble_eq_true rfl⟩) hK hN (hZ.kept hS) hP hD hS hA [0, 1] [2, 3, 4, 5, 6] rfl rfl (by decide) (by decide) (by decide) (va_recv (q := (RX7, TX7, 9)) hK hP (ci := 7) (q0 := 0) rfl rfl) rfl hl.1 rfl (Nat.le_of_ble_eq_true rfl) dX7_judge_31 ⟨Nat.le_of_ble_eq_true rfl, Nat.le_of_ble_eq_true rfl⟩ (fun r_45 u_46 H locs hr_45 hP hD hS => ?_)
        obtain ⟨q_47, rfl⟩ : ∃ z, z = u_46 := ⟨_, rfl⟩
        have h9R := zRe (ws' := [(xs, .inl (cS, 8, .inr (.inr (.inr (.inr fh))))), (h0, .inr (4, [.ref e0, .int he, .int si])), (e0, .inl (cJ, 160, .inr (.inl fe))), (j0, .inr (0, [.ref z0, .ref jp, .ref jc, .int cn, .int de, .int tr, .int se, .int hu, .int sd])), (jp, .inl (cP, 8, .inr (.inr (.inr (.inr fp))))), (x0, .inr (7, [.ref xs, .ref j0, .ref k0, .ref w0, .ref rd, .ref mv, .ref xr, .int im, .int lf])), (xr, .inl (cI, 8, .inl q_47))]) hP hD rfl
        clear hP hD
        obtain ⟨hP, hD⟩ := h9R
        obtain rfl := hr_45
        exact W.iret (v := (-14)) hx hb hr (fun t ht hW => ⟨⟨(-14), q_47, rfl, trivial, zRet ht hP hD [5, 6, 0, 1, 2, 3, 4] (by decide) rfl⟩, hS.F ht⟩) hS.2.2 dX7_judge_34
theorem hi_X7_meant_7 : ∀ w ∈ u_ws RX7 TX7 9, w ∈ wsX7_meant := fun w h => (gl_X7_meant_X70 w h).1
theorem hi_X7_meant_0 : ∀ w ∈ u_ws RX0 TX0 9, w ∈ wsX7_meant := fun w h => (gl_X7_meant_X00 w h).1
set_option maxHeartbeats 4000000 in
set_option maxRecDepth 100000 in
theorem c_X_meant (l : Launch) (D : va_G) (cI cJ cZ cP cS : ClassId) (po : zPool) (x0 xs j0 k0 w0 rd mv xr : Nat) (im lf : Int32) (fr : Nat → Int32) (fh : Nat → Option Nat) (s_ : Int32) (h0 e0 : Nat) (he si : Int32) (fe : Nat → Int64) (j0 jp jc z0 zl zs : Nat) (cn de tr se hu sd : Int32) (fp : Nat → Option Nat) (kf af tf : Nat → Int32) (n i : Int32) (hy0 : 0 ≤ im.toInt) (hy1 : im.toInt ≤ 1) (hy2 : (-1) ≤ lf.toInt) (hy3 : lf.toInt ≤ 160) (hy4 : (-1) ≤ he.toInt) (hy5 : he.toInt ≤ 103) (hy6 : 0 ≤ si.toInt) (hy7 : si.toInt ≤ 160) (hfs : 0 ≤ s_.toInt → s_.toInt ≤ 7 → fh s_.toNatClampNeg = some h0) (hy9 : 0 ≤ cn.toInt) (hy10 : cn.toInt ≤ 8) (hy11 : 0 ≤ de.toInt) (hy12 : de.toInt ≤ 24) (hy13 : 0 ≤ hu.toInt) (hy14 : hu.toInt ≤ 9) (hjp : zJP po fp cn kf af tf) (hpz : Nat) : Met l yX7_meant wsX7_meant ({ frames := 5, cells := 0, slots := 0, locals := 119 }) (va_Pc [.ref x0, .int s_, .int n, .int i] (zW D (zKT cI cJ cZ cP cS) po [(x0, .inr (7, [.ref xs, .ref j0, .ref k0, .ref w0, .ref rd, .ref mv, .ref xr, .int im, .int lf])), (xr, .inl (cI, 8, .inl fr)), (xs, .inl (cS, 8, .inr (.inr (.inr (.inr fh))))), (h0, .inr (4, [.ref e0, .int he, .int si])), (e0, .inl (cJ, 160, .inr (.inl fe))), (j0, .inr (0, [.ref z0, .ref jp, .ref jc, .int cn, .int de, .int tr, .int se, .int hu, .int sd])), (jp, .inl (cP, 8, .inr (.inr (.inr (.inr fp)))))] hpz)) (va_Qi (fun (r : Int32) (fr2 : (Nat → Int32)) => True) (zB D [(x0, .inr (7, [.ref xs, .ref j0, .ref k0, .ref w0, .ref rd, .ref mv, .ref xr, .int im, .int lf])), (xr, .inl (cI, 8, .inl fr)), (xs, .inl (cS, 8, .inr (.inr (.inr (.inr fh))))), (h0, .inr (4, [.ref e0, .int he, .int si])), (e0, .inl (cJ, 160, .inr (.inl fe))), (j0, .inr (0, [.ref z0, .ref jp, .ref jc, .int cn, .int de, .int tr, .int se, .int hu, .int sd])), (jp, .inl (cP, 8, .inr (.inr (.inr (.inr fp)))))] hpz (fun (fr2 : Nat → Int32) => [(x0, .inr (7, [.ref xs, .ref j0, .ref k0, .ref w0, .ref rd, .ref mv, .ref xr, .int im, .int lf])), (xr, .inl (cI, 8, .inl fr2)), (xs, .inl (cS, 8, .inr (.inr (.inr (.inr fh))))), (h0, .inr (4, [.ref e0, .int he, .int si])), (e0, .inl (cJ, 160, .inr (.inl fe))), (j0, .inr (0, [.ref z0, .ref jp, .ref jc, .int cn, .int de, .int tr, .int se, .int hu, .int sd])), (jp, .inl (cP, 8, .inr (.inr (.inr (.inr fp)))))])) (va_A [(x0, .inr (7, [.ref xs, .ref j0, .ref k0, .ref w0, .ref rd, .ref mv, .ref xr, .int im, .int lf])), (xr, .inl (cI, 8, .inl fr)), (xs, .inl (cS, 8, .inr (.inr (.inr (.inr fh))))), (h0, .inr (4, [.ref e0, .int he, .int si])), (e0, .inl (cJ, 160, .inr (.inl fe))), (j0, .inr (0, [.ref z0, .ref jp, .ref jc, .int cn, .int de, .int tr, .int se, .int hu, .int sd])), (jp, .inl (cP, 8, .inr (.inr (.inr (.inr fp)))))] hpz)) 0 0 (va_A [(x0, .inr (7, [.ref xs, .ref j0, .ref k0, .ref w0, .ref rd, .ref mv, .ref xr, .int im, .int lf])), (xr, .inl (cI, 8, .inl fr)), (xs, .inl (cS, 8, .inr (.inr (.inr (.inr fh))))), (h0, .inr (4, [.ref e0, .int he, .int si])), (e0, .inl (cJ, 160, .inr (.inl fe))), (j0, .inr (0, [.ref z0, .ref jp, .ref jc, .int cn, .int de, .int tr, .int se, .int hu, .int sd])), (jp, .inl (cP, 8, .inr (.inr (.inr (.inr fp)))))] hpz) := by
  refine Met.ofW (cc := cX7_meant) (maxL := 8) (ret := (some .int)) (by decide) rfl ?_
  intro p e s m args below meth c s₁ B hml hv
  obtain ⟨rfl, hsz, hP, hK, hD0, hN, hZ⟩ := hv
  have hx := B.exec
  have hb := B.bytes
  have hr := B.returns
  have hts := atoms_spec (ws := wsX7_meant) B.pre
  have hown : s.vm.findClass RX7 = some m.cls := findClass_of_methodNamed B.named
  have hlocks := B.notSynchronized
  subst hsz
  have hD := hD0.self (sz := s.heap.size)
  have hA := zA_of hD
  have hl := lv_entry ([.ref x0, .int s_, .int n, .int i]) (n := 8) (Nat.le_of_ble_eq_true rfl)
  rw [lg_entry_eq]
  generalize (lg_sl ([.ref x0, .int s_, .int n, .int i]) ++ List.replicate (8 - (lg_sl ([.ref x0, .int s_, .int n, .int i])).length) Slot.unset).toArray = ls at hl ⊢
  replace hl : lv_has ls 8 [(0, .ref x0), (1, .int s_), (2, .int n), (3, .int i)] := hl
  refine zw_begin hP hD (fun H locs hP1 hS => ?_)
  clear hP
  have hP := hP1
  clear hP1
  refine lv_aload_n hx hb dX7_meant_0 rfl (lv_at hl 0 rfl) ?_
  refine lv_iload_n hx hb dX7_meant_1 rfl (lv_at hl 1 rfl) ?_
  refine zc_Vq (As := [.int s_]) (rest := []) ⟨hx, hb, hml, hown, hts⟩ (c_X_shelfAt l D cI cJ cZ cP cS po x0 xs j0 k0 w0 rd mv xr (im) (lf) ((fun _ => 0)) fh (s_) hy0 hy1 hy2 hy3) (cwV 1 hts gX7_meant_X7_shelfAt rfl rfl rfl ⟨rfl, dh_X7_shelfAt⟩ ⟨Nat.le_of_ble_eq_true rfl, Nat.le_of_ble_eq_true rfl⟩) hK hN (hZ.kept hS) hP (hP.sub [0, 2] rfl) (va_recv (q := (RX7, TX7, 9)) hK hP (ci := 7) (q0 := 0) rfl rfl) rfl hl.1 rfl (Nat.le_of_ble_eq_true rfl) dX7_meant_2 ⟨Nat.le_of_ble_eq_true rfl, Nat.le_of_ble_eq_true rfl⟩ (fun r_1 hr_1 => ?_)
  rcases hr_1 with ⟨rfl, g_2⟩ | ⟨rfl, g_3, g_4⟩ | ⟨rfl, g_5, g_6⟩
  · refine lv_astoreN (lv' := [(4, .null), (0, .ref x0), (1, .int s_), (2, .int n), (3, .int i)]) hx hb dX7_meant_5 hl (by decide) rfl (fun ls hl => ?_)
    refine lv_aloadN hx hb dX7_meant_7 (lv_at hl 0 rfl) ?_
    refine lv_ifnonnullN hx hb dX7_meant_9 ?_
    refine lv_aload_n hx hb dX7_meant_12 rfl (lv_at hl 1 rfl) ?_
    refine lv_iconst (v := 1) hx hb dX7_meant_13 (by decide) ?_
    skip
    refine zw_V (As := [.int 1]) (rest := []) (wr := [(xs, .inl (cS, 8, .inr (.inr (.inr (.inr fh))))), (h0, .inr (4, [.ref e0, .int he, .int si])), (e0, .inl (cJ, 160, .inr (.inl fe))), (j0, .inr (0, [.ref z0, .ref jp, .ref jc, .int cn, .int de, .int tr, .int se, .int hu, .int sd])), (jp, .inl (cP, 8, .inr (.inr (.inr (.inr fp)))))]) ⟨hx, hb, hml, hown, hts⟩ (c_X_refuse_1 l D cI cJ cZ cP cS po x0 xs j0 k0 w0 rd mv xr (im) (lf) fr hy0 hy1 hy2 hy3 H.size) (cwV 1 hts gX7_meant_X7_refuse rfl rfl rfl ⟨rfl, dh_X7_refuse⟩ ⟨Nat.le_of_ble_eq_true rfl, Nat.le_of_ble_eq_true rfl⟩) hK hN (hZ.kept hS) hP hD hS hA [0, 1] [2, 3, 4, 5, 6] rfl rfl (by decide) (by decide) (by decide) (va_recv (q := (RX7, TX7, 9)) hK hP (ci := 7) (q0 := 0) rfl rfl) rfl hl.1 rfl (Nat.le_of_ble_eq_true rfl) dX7_meant_14 ⟨Nat.le_of_ble_eq_true rfl, Nat.le_of_ble_eq_true rfl⟩ (fun r_7 u_8 H locs hr_7 hP hD hS => ?_)
    obtain ⟨q_9, rfl⟩ : ∃ z, z = u_8 := ⟨_, rfl⟩
    have h9R := zRe (ws' := [(xs, .inl (cS, 8, .inr (.inr (.inr (.inr fh))))), (h0, .inr (4, [.ref e0, .int he, .int si])), (e0, .inl (cJ, 160, .inr (.inl fe))), (j0, .inr (0, [.ref z0, .ref jp, .ref jc, .int cn, .int de, .int tr, .int se, .int hu, .int sd])), (jp, .inl (cP, 8, .inr (.inr (.inr (.inr fp))))), (x0, .inr (7, [.ref xs, .ref j0, .ref k0, .ref w0, .ref rd, .ref mv, .ref xr, .int im, .int lf])), (xr, .inl (cI, 8, .inl q_9))]) hP hD rfl
    clear hP hD
    obtain ⟨hP, hD⟩ := h9R
    obtain rfl := hr_7
    exact W.iret (v := (-1)) hx hb hr (fun t ht hW => ⟨⟨(-1), q_9, rfl, trivial, zRet ht hP hD [5, 6, 0, 1, 2, 3, 4] (by decide) rfl⟩, hS.F ht⟩) hS.2.2 dX7_meant_17
  · refine lv_astoreN (lv' := [(4, .null), (0, .ref x0), (1, .int s_), (2, .int n), (3, .int i)]) hx hb dX7_meant_5 hl (by decide) rfl (fun ls hl => ?_)
    refine lv_aloadN hx hb dX7_meant_7 (lv_at hl 0 rfl) ?_
    refine lv_ifnonnullN hx hb dX7_meant_9 ?_
    refine lv_aload_n hx hb dX7_meant_12 rfl (lv_at hl 1 rfl) ?_
    refine lv_iconst (v := 1) hx hb dX7_meant_13 (by decide) ?_
    skip
    refine zw_V (As := [.int 1]) (rest := []) (wr := [(xs, .inl (cS, 8, .inr (.inr (.inr (.inr fh))))), (h0, .inr (4, [.ref e0, .int he, .int si])), (e0, .inl (cJ, 160, .inr (.inl fe))), (j0, .inr (0, [.ref z0, .ref jp, .ref jc, .int cn, .int de, .int tr, .int se, .int hu, .int sd])), (jp, .inl (cP, 8, .inr (.inr (.inr (.inr fp)))))]) ⟨hx, hb, hml, hown, hts⟩ (c_X_refuse_1 l D cI cJ cZ cP cS po x0 xs j0 k0 w0 rd mv xr (im) (lf) fr hy0 hy1 hy2 hy3 H.size) (cwV 1 hts gX7_meant_X7_refuse rfl rfl rfl ⟨rfl, dh_X7_refuse⟩ ⟨Nat.le_of_ble_eq_true rfl, Nat.le_of_ble_eq_true rfl⟩) hK hN (hZ.kept hS) hP hD hS hA [0, 1] [2, 3, 4, 5, 6] rfl rfl (by decide) (by decide) (by decide) (va_recv (q := (RX7, TX7, 9)) hK hP (ci := 7) (q0 := 0) rfl rfl) rfl hl.1 rfl (Nat.le_of_ble_eq_true rfl) dX7_meant_14 ⟨Nat.le_of_ble_eq_true rfl, Nat.le_of_ble_eq_true rfl⟩ (fun r_10 u_11 H locs hr_10 hP hD hS => ?_)
    obtain ⟨q_12, rfl⟩ : ∃ z, z = u_11 := ⟨_, rfl⟩
    have h9R := zRe (ws' := [(xs, .inl (cS, 8, .inr (.inr (.inr (.inr fh))))), (h0, .inr (4, [.ref e0, .int he, .int si])), (e0, .inl (cJ, 160, .inr (.inl fe))), (j0, .inr (0, [.ref z0, .ref jp, .ref jc, .int cn, .int de, .int tr, .int se, .int hu, .int sd])), (jp, .inl (cP, 8, .inr (.inr (.inr (.inr fp))))), (x0, .inr (7, [.ref xs, .ref j0, .ref k0, .ref w0, .ref rd, .ref mv, .ref xr, .int im, .int lf])), (xr, .inl (cI, 8, .inl q_12))]) hP hD rfl
    clear hP hD
    obtain ⟨hP, hD⟩ := h9R
    obtain rfl := hr_10
    exact W.iret (v := (-1)) hx hb hr (fun t ht hW => ⟨⟨(-1), q_12, rfl, trivial, zRet ht hP hD [5, 6, 0, 1, 2, 3, 4] (by decide) rfl⟩, hS.F ht⟩) hS.2.2 dX7_meant_17
  · rw [hfs (by omega) (by omega)]
    refine W.eq (g2 := F0 m 5 ls (.ref h0 :: [])) rfl ?_
    refine lv_astore (lv' := [(4, .ref h0), (0, .ref x0), (1, .int s_), (2, .int n), (3, .int i)]) hx hb dX7_meant_5 hl (by decide) rfl (fun ls hl => ?_)
    refine lv_aload hx hb dX7_meant_7 (lv_at hl 0 rfl) ?_
    refine lv_ifnonnull (tgt := 18) hx hb dX7_meant_9 (by decide) ?_
    refine lv_aload hx hb dX7_meant_18 (lv_at hl 0 rfl) ?_
    refine lv_iload_n hx hb dX7_meant_20 rfl (lv_at hl 3 rfl) ?_
    refine zc_V (As := [.int n]) (rest := []) ⟨hx, hb, hml, hown, hts⟩ (c_Sh_noTelling l D cI cJ cZ cP cS po h0 e0 (he) (si) (n) hy4 hy5 hy6 hy7) (cwV 1 hts gX7_meant_X4_noTelling rfl rfl rfl ⟨rfl, dh_X4_noTelling⟩ ⟨Nat.le_of_ble_eq_true rfl, Nat.le_of_ble_eq_true rfl⟩) hK hN (hZ.kept hS) hP (hP.sub [3] rfl) (va_recv (q := (RX4, TX4, 3)) hK hP (ci := 4) (q0 := 3) rfl rfl) rfl hl.1 rfl (Nat.le_of_ble_eq_true rfl) dX7_meant_21 ⟨Nat.le_of_ble_eq_true rfl, Nat.le_of_ble_eq_true rfl⟩ (fun r_13 hr_13 => ?_)
    rcases hr_13 with ⟨rfl, g_14, g_15⟩ | ⟨rfl, g_16, g_17⟩ | ⟨rfl, g_18, g_19, g_20⟩ | ⟨rfl, g_21, g_22, g_23⟩ | ⟨rfl, g_24, g_25⟩
    · refine lv_istore (lv' := [(5, .int 2), (4, .ref h0), (0, .ref x0), (1, .int s_), (2, .int n), (3, .int i)]) hx hb dX7_meant_24 hl (by decide) rfl (fun ls hl => ?_)
      refine lv_iload hx hb dX7_meant_26 (lv_at hl 0 rfl) ?_
      refine lv_if_eq (tgt := 38) hx hb dX7_meant_28 (by decide) (fun c_26 => ?_) (fun c_26 => ?_)
      · exact absurd c_26 (by decide)
      · refine lv_aload_n hx hb dX7_meant_31 rfl (lv_at hl 2 rfl) ?_
        refine lv_iload hx hb dX7_meant_32 (lv_at hl 0 rfl) ?_
        skip
        refine zw_V (As := [.int 2]) (rest := []) (wr := [(xs, .inl (cS, 8, .inr (.inr (.inr (.inr fh))))), (h0, .inr (4, [.ref e0, .int he, .int si])), (e0, .inl (cJ, 160, .inr (.inl fe))), (j0, .inr (0, [.ref z0, .ref jp, .ref jc, .int cn, .int de, .int tr, .int se, .int hu, .int sd])), (jp, .inl (cP, 8, .inr (.inr (.inr (.inr fp)))))]) ⟨hx, hb, hml, hown, hts⟩ (c_X_refuse_2 l D cI cJ cZ cP cS po x0 xs j0 k0 w0 rd mv xr (im) (lf) fr hy0 hy1 hy2 hy3 H.size) (cwV 1 hts gX7_meant_X7_refuse rfl rfl rfl ⟨rfl, dh_X7_refuse⟩ ⟨Nat.le_of_ble_eq_true rfl, Nat.le_of_ble_eq_true rfl⟩) hK hN (hZ.kept hS) hP hD hS hA [0, 1] [2, 3, 4, 5, 6] rfl rfl (by decide) (by decide) (by decide) (va_recv (q := (RX7, TX7, 9)) hK hP (ci := 7) (q0 := 0) rfl rfl) rfl hl.1 rfl (Nat.le_of_ble_eq_true rfl) dX7_meant_34 ⟨Nat.le_of_ble_eq_true rfl, Nat.le_of_ble_eq_true rfl⟩ (fun r_27 u_28 H locs hr_27 hP hD hS => ?_)
        obtain ⟨q_29, rfl⟩ : ∃ z, z = u_28 := ⟨_, rfl⟩
        have h9R := zRe (ws' := [(xs, .inl (cS, 8, .inr (.inr (.inr (.inr fh))))), (h0, .inr (4, [.ref e0, .int he, .int si])), (e0, .inl (cJ, 160, .inr (.inl fe))), (j0, .inr (0, [.ref z0, .ref jp, .ref jc, .int cn, .int de, .int tr, .int se, .int hu, .int sd])), (jp, .inl (cP, 8, .inr (.inr (.inr (.inr fp))))), (x0, .inr (7, [.ref xs, .ref j0, .ref k0, .ref w0, .ref rd, .ref mv, .ref xr, .int im, .int lf])), (xr, .inl (cI, 8, .inl q_29))]) hP hD rfl
        clear hP hD
        obtain ⟨hP, hD⟩ := h9R
        obtain rfl := hr_27
        exact W.iret (v := (-2)) hx hb hr (fun t ht hW => ⟨⟨(-2), q_29, rfl, trivial, zRet ht hP hD [5, 6, 0, 1, 2, 3, 4] (by decide) rfl⟩, hS.F ht⟩) hS.2.2 dX7_meant_37
    · refine lv_istore (lv' := [(5, .int 3), (4, .ref h0), (0, .ref x0), (1, .int s_), (2, .int n), (3, .int i)]) hx hb dX7_meant_24 hl (by decide) rfl (fun ls hl => ?_)
      refine lv_iload hx hb dX7_meant_26 (lv_at hl 0 rfl) ?_
      refine lv_if_eq (tgt := 38) hx hb dX7_meant_28 (by decide) (fun c_30 => ?_) (fun c_30 => ?_)
      · exact absurd c_30 (by decide)
      · refine lv_aload_n hx hb dX7_meant_31 rfl (lv_at hl 2 rfl) ?_
        refine lv_iload hx hb dX7_meant_32 (lv_at hl 0 rfl) ?_
        skip
        refine zw_V (As := [.int 3]) (rest := []) (wr := [(xs, .inl (cS, 8, .inr (.inr (.inr (.inr fh))))), (h0, .inr (4, [.ref e0, .int he, .int si])), (e0, .inl (cJ, 160, .inr (.inl fe))), (j0, .inr (0, [.ref z0, .ref jp, .ref jc, .int cn, .int de, .int tr, .int se, .int hu, .int sd])), (jp, .inl (cP, 8, .inr (.inr (.inr (.inr fp)))))]) ⟨hx, hb, hml, hown, hts⟩ (c_X_refuse_3 l D cI cJ cZ cP cS po x0 xs j0 k0 w0 rd mv xr (im) (lf) fr hy0 hy1 hy2 hy3 H.size) (cwV 1 hts gX7_meant_X7_refuse rfl rfl rfl ⟨rfl, dh_X7_refuse⟩ ⟨Nat.le_of_ble_eq_true rfl, Nat.le_of_ble_eq_true rfl⟩) hK hN (hZ.kept hS) hP hD hS hA [0, 1] [2, 3, 4, 5, 6] rfl rfl (by decide) (by decide) (by decide) (va_recv (q := (RX7, TX7, 9)) hK hP (ci := 7) (q0 := 0) rfl rfl) rfl hl.1 rfl (Nat.le_of_ble_eq_true rfl) dX7_meant_34 ⟨Nat.le_of_ble_eq_true rfl, Nat.le_of_ble_eq_true rfl⟩ (fun r_31 u_32 H locs hr_31 hP hD hS => ?_)
        obtain ⟨q_33, rfl⟩ : ∃ z, z = u_32 := ⟨_, rfl⟩
        have h9R := zRe (ws' := [(xs, .inl (cS, 8, .inr (.inr (.inr (.inr fh))))), (h0, .inr (4, [.ref e0, .int he, .int si])), (e0, .inl (cJ, 160, .inr (.inl fe))), (j0, .inr (0, [.ref z0, .ref jp, .ref jc, .int cn, .int de, .int tr, .int se, .int hu, .int sd])), (jp, .inl (cP, 8, .inr (.inr (.inr (.inr fp))))), (x0, .inr (7, [.ref xs, .ref j0, .ref k0, .ref w0, .ref rd, .ref mv, .ref xr, .int im, .int lf])), (xr, .inl (cI, 8, .inl q_33))]) hP hD rfl
        clear hP hD
        obtain ⟨hP, hD⟩ := h9R
        obtain rfl := hr_31
        exact W.iret (v := (-3)) hx hb hr (fun t ht hW => ⟨⟨(-3), q_33, rfl, trivial, zRet ht hP hD [5, 6, 0, 1, 2, 3, 4] (by decide) rfl⟩, hS.F ht⟩) hS.2.2 dX7_meant_37
    · refine lv_istore (lv' := [(5, .int 0), (4, .ref h0), (0, .ref x0), (1, .int s_), (2, .int n), (3, .int i)]) hx hb dX7_meant_24 hl (by decide) rfl (fun ls hl => ?_)
      refine lv_iload hx hb dX7_meant_26 (lv_at hl 0 rfl) ?_
      refine lv_if_eq (tgt := 38) hx hb dX7_meant_28 (by decide) (fun c_34 => ?_) (fun c_34 => ?_)
      · refine lv_iload_n hx hb dX7_meant_38 rfl (lv_at hl 4 rfl) ?_
        refine lv_iconst (v := 1) hx hb dX7_meant_39 (by decide) ?_
        refine lv_bipush (v := 20) hx hb dX7_meant_40 (by decide) ?_
        have kc1 : (1 : Int32).toInt = 1 := by decide
        have kc20 : (20 : Int32).toInt = 20 := by decide
        refine zc_S (As := [.int n, .int 1, .int 20]) (rest := []) ⟨hx, hb, hml, hown, hts⟩ (c_within l D cI cJ cZ cP cS po (n) (1) (20) ) (va_cwS 3 hts gX7_meant_X7_within rfl rfl rfl dh_X7_within ⟨Nat.le_of_ble_eq_true rfl, Nat.le_of_ble_eq_true rfl⟩) hK hN (hZ.kept hS) rfl hl.1 rfl (Nat.le_of_ble_eq_true rfl) dX7_meant_42 ⟨Nat.le_of_ble_eq_true rfl, Nat.le_of_ble_eq_true rfl⟩ (fun r_35 hr_35 => ?_)
        rcases hr_35 with ⟨rfl, g_36⟩ | ⟨rfl, g_37, g_38⟩ | ⟨rfl, g_39, g_40⟩
        · refine lv_if_ne (tgt := 55) hx hb dX7_meant_45 (by decide) (fun c_41 => ?_) (fun c_41 => ?_)
          · exact absurd c_41 (by decide)
          · refine lv_aload_n hx hb dX7_meant_48 rfl (lv_at hl 2 rfl) ?_
            refine lv_bipush (v := 6) hx hb dX7_meant_49 (by decide) ?_
            skip
            refine zw_V (As := [.int 6]) (rest := []) (wr := [(xs, .inl (cS, 8, .inr (.inr (.inr (.inr fh))))), (h0, .inr (4, [.ref e0, .int he, .int si])), (e0, .inl (cJ, 160, .inr (.inl fe))), (j0, .inr (0, [.ref z0, .ref jp, .ref jc, .int cn, .int de, .int tr, .int se, .int hu, .int sd])), (jp, .inl (cP, 8, .inr (.inr (.inr (.inr fp)))))]) ⟨hx, hb, hml, hown, hts⟩ (c_X_refuse_6 l D cI cJ cZ cP cS po x0 xs j0 k0 w0 rd mv xr (im) (lf) fr hy0 hy1 hy2 hy3 H.size) (cwV 1 hts gX7_meant_X7_refuse rfl rfl rfl ⟨rfl, dh_X7_refuse⟩ ⟨Nat.le_of_ble_eq_true rfl, Nat.le_of_ble_eq_true rfl⟩) hK hN (hZ.kept hS) hP hD hS hA [0, 1] [2, 3, 4, 5, 6] rfl rfl (by decide) (by decide) (by decide) (va_recv (q := (RX7, TX7, 9)) hK hP (ci := 7) (q0 := 0) rfl rfl) rfl hl.1 rfl (Nat.le_of_ble_eq_true rfl) dX7_meant_51 ⟨Nat.le_of_ble_eq_true rfl, Nat.le_of_ble_eq_true rfl⟩ (fun r_42 u_43 H locs hr_42 hP hD hS => ?_)
            obtain ⟨q_44, rfl⟩ : ∃ z, z = u_43 := ⟨_, rfl⟩
            have h9R := zRe (ws' := [(xs, .inl (cS, 8, .inr (.inr (.inr (.inr fh))))), (h0, .inr (4, [.ref e0, .int he, .int si])), (e0, .inl (cJ, 160, .inr (.inl fe))), (j0, .inr (0, [.ref z0, .ref jp, .ref jc, .int cn, .int de, .int tr, .int se, .int hu, .int sd])), (jp, .inl (cP, 8, .inr (.inr (.inr (.inr fp))))), (x0, .inr (7, [.ref xs, .ref j0, .ref k0, .ref w0, .ref rd, .ref mv, .ref xr, .int im, .int lf])), (xr, .inl (cI, 8, .inl q_44))]) hP hD rfl
            clear hP hD
            obtain ⟨hP, hD⟩ := h9R
            obtain rfl := hr_42
            exact W.iret (v := (-6)) hx hb hr (fun t ht hW => ⟨⟨(-6), q_44, rfl, trivial, zRet ht hP hD [5, 6, 0, 1, 2, 3, 4] (by decide) rfl⟩, hS.F ht⟩) hS.2.2 dX7_meant_54
        · refine lv_if_ne (tgt := 55) hx hb dX7_meant_45 (by decide) (fun c_45 => ?_) (fun c_45 => ?_)
          · exact absurd c_45 (by decide)
          · refine lv_aload_n hx hb dX7_meant_48 rfl (lv_at hl 2 rfl) ?_
            refine lv_bipush (v := 6) hx hb dX7_meant_49 (by decide) ?_
            skip
            refine zw_V (As := [.int 6]) (rest := []) (wr := [(xs, .inl (cS, 8, .inr (.inr (.inr (.inr fh))))), (h0, .inr (4, [.ref e0, .int he, .int si])), (e0, .inl (cJ, 160, .inr (.inl fe))), (j0, .inr (0, [.ref z0, .ref jp, .ref jc, .int cn, .int de, .int tr, .int se, .int hu, .int sd])), (jp, .inl (cP, 8, .inr (.inr (.inr (.inr fp)))))]) ⟨hx, hb, hml, hown, hts⟩ (c_X_refuse_6 l D cI cJ cZ cP cS po x0 xs j0 k0 w0 rd mv xr (im) (lf) fr hy0 hy1 hy2 hy3 H.size) (cwV 1 hts gX7_meant_X7_refuse rfl rfl rfl ⟨rfl, dh_X7_refuse⟩ ⟨Nat.le_of_ble_eq_true rfl, Nat.le_of_ble_eq_true rfl⟩) hK hN (hZ.kept hS) hP hD hS hA [0, 1] [2, 3, 4, 5, 6] rfl rfl (by decide) (by decide) (by decide) (va_recv (q := (RX7, TX7, 9)) hK hP (ci := 7) (q0 := 0) rfl rfl) rfl hl.1 rfl (Nat.le_of_ble_eq_true rfl) dX7_meant_51 ⟨Nat.le_of_ble_eq_true rfl, Nat.le_of_ble_eq_true rfl⟩ (fun r_46 u_47 H locs hr_46 hP hD hS => ?_)
            obtain ⟨q_48, rfl⟩ : ∃ z, z = u_47 := ⟨_, rfl⟩
            have h9R := zRe (ws' := [(xs, .inl (cS, 8, .inr (.inr (.inr (.inr fh))))), (h0, .inr (4, [.ref e0, .int he, .int si])), (e0, .inl (cJ, 160, .inr (.inl fe))), (j0, .inr (0, [.ref z0, .ref jp, .ref jc, .int cn, .int de, .int tr, .int se, .int hu, .int sd])), (jp, .inl (cP, 8, .inr (.inr (.inr (.inr fp))))), (x0, .inr (7, [.ref xs, .ref j0, .ref k0, .ref w0, .ref rd, .ref mv, .ref xr, .int im, .int lf])), (xr, .inl (cI, 8, .inl q_48))]) hP hD rfl
            clear hP hD
            obtain ⟨hP, hD⟩ := h9R
            obtain rfl := hr_46
            exact W.iret (v := (-6)) hx hb hr (fun t ht hW => ⟨⟨(-6), q_48, rfl, trivial, zRet ht hP hD [5, 6, 0, 1, 2, 3, 4] (by decide) rfl⟩, hS.F ht⟩) hS.2.2 dX7_meant_54
        · refine lv_if_ne (tgt := 55) hx hb dX7_meant_45 (by decide) (fun c_49 => ?_) (fun c_49 => ?_)
          · refine lv_iload_n hx hb dX7_meant_55 rfl (lv_at hl 5 rfl) ?_
            refine lv_iconst (v := (-1)) hx hb dX7_meant_56 (by decide) ?_
            refine lv_iload_n hx hb dX7_meant_57 rfl (lv_at hl 4 rfl) ?_
            refine lv_iconst (v := 1) hx hb dX7_meant_58 (by decide) ?_
            refine lv_isub hx hb dX7_meant_59 ?_
            refine lv_topi (fun x_50 ex_50 => ?_)
            have qx_50 : x_50.toInt = n.toInt - 1 := by rw [ex_50]; exact zf_sub rfl (by decide) (by omega) (by omega)
            have kcm1 : ((-1) : Int32).toInt = (-1) := by decide
            refine zc_S (As := [.int i, .int (-1), .int x_50]) (rest := []) ⟨hx, hb, hml, hown, hts⟩ (c_within l D cI cJ cZ cP cS po (i) ((-1)) (x_50) ) (va_cwS 3 hts gX7_meant_X7_within rfl rfl rfl dh_X7_within ⟨Nat.le_of_ble_eq_true rfl, Nat.le_of_ble_eq_true rfl⟩) hK hN (hZ.kept hS) rfl hl.1 rfl (Nat.le_of_ble_eq_true rfl) dX7_meant_60 ⟨Nat.le_of_ble_eq_true rfl, Nat.le_of_ble_eq_true rfl⟩ (fun r_51 hr_51 => ?_)
            rcases hr_51 with ⟨rfl, g_52⟩ | ⟨rfl, g_53, g_54⟩ | ⟨rfl, g_55, g_56⟩
            · refine lv_if_ne (tgt := 72) hx hb dX7_meant_63 (by decide) (fun c_57 => ?_) (fun c_57 => ?_)
              · exact absurd c_57 (by decide)
              · refine lv_aload_n hx hb dX7_meant_66 rfl (lv_at hl 2 rfl) ?_
                refine lv_iconst (v := 5) hx hb dX7_meant_67 (by decide) ?_
                skip
                refine zw_V (As := [.int 5]) (rest := []) (wr := [(xs, .inl (cS, 8, .inr (.inr (.inr (.inr fh))))), (h0, .inr (4, [.ref e0, .int he, .int si])), (e0, .inl (cJ, 160, .inr (.inl fe))), (j0, .inr (0, [.ref z0, .ref jp, .ref jc, .int cn, .int de, .int tr, .int se, .int hu, .int sd])), (jp, .inl (cP, 8, .inr (.inr (.inr (.inr fp)))))]) ⟨hx, hb, hml, hown, hts⟩ (c_X_refuse_5 l D cI cJ cZ cP cS po x0 xs j0 k0 w0 rd mv xr (im) (lf) fr hy0 hy1 hy2 hy3 H.size) (cwV 1 hts gX7_meant_X7_refuse rfl rfl rfl ⟨rfl, dh_X7_refuse⟩ ⟨Nat.le_of_ble_eq_true rfl, Nat.le_of_ble_eq_true rfl⟩) hK hN (hZ.kept hS) hP hD hS hA [0, 1] [2, 3, 4, 5, 6] rfl rfl (by decide) (by decide) (by decide) (va_recv (q := (RX7, TX7, 9)) hK hP (ci := 7) (q0 := 0) rfl rfl) rfl hl.1 rfl (Nat.le_of_ble_eq_true rfl) dX7_meant_68 ⟨Nat.le_of_ble_eq_true rfl, Nat.le_of_ble_eq_true rfl⟩ (fun r_58 u_59 H locs hr_58 hP hD hS => ?_)
                obtain ⟨q_60, rfl⟩ : ∃ z, z = u_59 := ⟨_, rfl⟩
                have h9R := zRe (ws' := [(xs, .inl (cS, 8, .inr (.inr (.inr (.inr fh))))), (h0, .inr (4, [.ref e0, .int he, .int si])), (e0, .inl (cJ, 160, .inr (.inl fe))), (j0, .inr (0, [.ref z0, .ref jp, .ref jc, .int cn, .int de, .int tr, .int se, .int hu, .int sd])), (jp, .inl (cP, 8, .inr (.inr (.inr (.inr fp))))), (x0, .inr (7, [.ref xs, .ref j0, .ref k0, .ref w0, .ref rd, .ref mv, .ref xr, .int im, .int lf])), (xr, .inl (cI, 8, .inl q_60))]) hP hD rfl
                clear hP hD
                obtain ⟨hP, hD⟩ := h9R
                obtain rfl := hr_58
                exact W.iret (v := (-5)) hx hb hr (fun t ht hW => ⟨⟨(-5), q_60, rfl, trivial, zRet ht hP hD [5, 6, 0, 1, 2, 3, 4] (by decide) rfl⟩, hS.F ht⟩) hS.2.2 dX7_meant_71
            · refine lv_if_ne (tgt := 72) hx hb dX7_meant_63 (by decide) (fun c_61 => ?_) (fun c_61 => ?_)
              · exact absurd c_61 (by decide)
              · refine lv_aload_n hx hb dX7_meant_66 rfl (lv_at hl 2 rfl) ?_
                refine lv_iconst (v := 5) hx hb dX7_meant_67 (by decide) ?_
                skip
                refine zw_V (As := [.int 5]) (rest := []) (wr := [(xs, .inl (cS, 8, .inr (.inr (.inr (.inr fh))))), (h0, .inr (4, [.ref e0, .int he, .int si])), (e0, .inl (cJ, 160, .inr (.inl fe))), (j0, .inr (0, [.ref z0, .ref jp, .ref jc, .int cn, .int de, .int tr, .int se, .int hu, .int sd])), (jp, .inl (cP, 8, .inr (.inr (.inr (.inr fp)))))]) ⟨hx, hb, hml, hown, hts⟩ (c_X_refuse_5 l D cI cJ cZ cP cS po x0 xs j0 k0 w0 rd mv xr (im) (lf) fr hy0 hy1 hy2 hy3 H.size) (cwV 1 hts gX7_meant_X7_refuse rfl rfl rfl ⟨rfl, dh_X7_refuse⟩ ⟨Nat.le_of_ble_eq_true rfl, Nat.le_of_ble_eq_true rfl⟩) hK hN (hZ.kept hS) hP hD hS hA [0, 1] [2, 3, 4, 5, 6] rfl rfl (by decide) (by decide) (by decide) (va_recv (q := (RX7, TX7, 9)) hK hP (ci := 7) (q0 := 0) rfl rfl) rfl hl.1 rfl (Nat.le_of_ble_eq_true rfl) dX7_meant_68 ⟨Nat.le_of_ble_eq_true rfl, Nat.le_of_ble_eq_true rfl⟩ (fun r_62 u_63 H locs hr_62 hP hD hS => ?_)
                obtain ⟨q_64, rfl⟩ : ∃ z, z = u_63 := ⟨_, rfl⟩
                have h9R := zRe (ws' := [(xs, .inl (cS, 8, .inr (.inr (.inr (.inr fh))))), (h0, .inr (4, [.ref e0, .int he, .int si])), (e0, .inl (cJ, 160, .inr (.inl fe))), (j0, .inr (0, [.ref z0, .ref jp, .ref jc, .int cn, .int de, .int tr, .int se, .int hu, .int sd])), (jp, .inl (cP, 8, .inr (.inr (.inr (.inr fp))))), (x0, .inr (7, [.ref xs, .ref j0, .ref k0, .ref w0, .ref rd, .ref mv, .ref xr, .int im, .int lf])), (xr, .inl (cI, 8, .inl q_64))]) hP hD rfl
                clear hP hD
                obtain ⟨hP, hD⟩ := h9R
                obtain rfl := hr_62
                exact W.iret (v := (-5)) hx hb hr (fun t ht hW => ⟨⟨(-5), q_64, rfl, trivial, zRet ht hP hD [5, 6, 0, 1, 2, 3, 4] (by decide) rfl⟩, hS.F ht⟩) hS.2.2 dX7_meant_71
            · refine lv_if_ne (tgt := 72) hx hb dX7_meant_63 (by decide) (fun c_65 => ?_) (fun c_65 => ?_)
              · refine lv_aload hx hb dX7_meant_72 (lv_at hl 1 rfl) ?_
                refine lv_iload_n hx hb dX7_meant_74 rfl (lv_at hl 4 rfl) ?_
                refine lv_iconst (v := 0) hx hb dX7_meant_75 (by decide) ?_
                refine lv_bipush (v := 24) hx hb dX7_meant_76 (by decide) ?_
                refine zc_V (As := [.int n, .int 0, .int 24]) (rest := []) ⟨hx, hb, hml, hown, hts⟩ (c_Sh_tellsWithin l D cI cJ cZ cP cS po h0 e0 (he) (si) fe (n) (0) (24) hy4 hy5 hy6 hy7 (by omega) (by omega)) (cwV 3 hts gX7_meant_X4_tellsWithin rfl rfl rfl ⟨rfl, dh_X4_tellsWithin⟩ ⟨Nat.le_of_ble_eq_true rfl, Nat.le_of_ble_eq_true rfl⟩) hK hN (hZ.kept hS) hP (hP.sub [3, 4] rfl) (va_recv (q := (RX4, TX4, 3)) hK hP (ci := 4) (q0 := 3) rfl rfl) rfl hl.1 rfl (Nat.le_of_ble_eq_true rfl) dX7_meant_78 ⟨Nat.le_of_ble_eq_true rfl, Nat.le_of_ble_eq_true rfl⟩ (fun r_66 hr_66 => ?_)
                obtain ⟨g_67, g_68⟩ := hr_66
                refine lv_if_ne (tgt := 91) hx hb dX7_meant_81 (by decide) (fun c_69 => ?_) (fun c_69 => ?_)
                · have fc_69 : r_66.toInt ≠ 0 := zf_ne c_69 rfl (by decide)
                  refine lv_aload_n hx hb dX7_meant_91 rfl (lv_at hl 2 rfl) ?_
                  refine lv_aload hx hb dX7_meant_92 (lv_at hl 1 rfl) ?_
                  refine lv_iload_n hx hb dX7_meant_94 rfl (lv_at hl 4 rfl) ?_
                  refine zc_V (As := [.ref h0, .int n]) (rest := []) ⟨hx, hb, hml, hown, hts⟩ (c_X_rowsMeant l D cI cJ cZ cP cS po x0 xs j0 k0 w0 rd mv xr (im) (lf) ((fun _ => 0)) j0 jp jc z0 0 0 (cn) (de) (tr) (se) (hu) (sd) fp kf af tf h0 e0 (he) (si) fe (n) hy0 hy1 hy2 hy3 hy9 hy10 hy11 hy12 hy13 hy14 hy4 hy5 hy6 hy7 hjp (by omega) (by omega)) (cwV 2 hts gX7_meant_X7_rowsMeant rfl rfl rfl ⟨rfl, dh_X7_rowsMeant⟩ ⟨Nat.le_of_ble_eq_true rfl, Nat.le_of_ble_eq_true rfl⟩) hK hN (hZ.kept hS) hP (hP.sub [0, 5, 6, 3, 4] rfl) (va_recv (q := (RX7, TX7, 9)) hK hP (ci := 7) (q0 := 0) rfl rfl) rfl hl.1 rfl (Nat.le_of_ble_eq_true rfl) dX7_meant_95 ⟨Nat.le_of_ble_eq_true rfl, Nat.le_of_ble_eq_true rfl⟩ (fun r_70 hr_70 => ?_)
                  refine lv_istore (lv' := [(6, .int r_70), (5, .int 0), (4, .ref h0), (0, .ref x0), (1, .int s_), (2, .int n), (3, .int i)]) hx hb dX7_meant_98 hl (by decide) rfl (fun ls hl => ?_)
                  refine lv_iload_n hx hb dX7_meant_100 rfl (lv_at hl 6 rfl) ?_
                  refine lv_iconst (v := (-1)) hx hb dX7_meant_101 (by decide) ?_
                  refine lv_icmp_ne (tgt := 108) hx hb dX7_meant_102 (by decide) (fun c_71 => ?_) (fun c_71 => ?_)
                  · have fc_71 : i.toInt ≠ (-1) := zf_ne c_71 rfl (by decide)
                    refine lv_iload hx hb dX7_meant_108 (lv_at hl 0 rfl) ?_
                    refine lv_if_ne (tgt := 119) hx hb dX7_meant_110 (by decide) (fun c_72 => ?_) (fun c_72 => ?_)
                    · have fc_72 : r_70.toInt ≠ 0 := zf_ne c_72 rfl (by decide)
                      refine lv_iload_n hx hb dX7_meant_119 rfl (lv_at hl 6 rfl) ?_
                      refine lv_if_ne (tgt := 133) hx hb dX7_meant_120 (by decide) (fun c_73 => ?_) (fun c_73 => ?_)
                      · have fc_73 : i.toInt ≠ 0 := zf_ne c_73 rfl (by decide)
                        refine lv_aload hx hb dX7_meant_133 (lv_at hl 2 rfl) ?_
                        refine lv_iload_n hx hb dX7_meant_135 rfl (lv_at hl 6 rfl) ?_
                        refine lv_iconst (v := 1) hx hb dX7_meant_136 (by decide) ?_
                        refine lv_isub hx hb dX7_meant_137 ?_
                        refine lv_topi (fun x_74 ex_74 => ?_)
                        have qx_74 : x_74.toInt = i.toInt - 1 := by rw [ex_74]; exact zf_sub rfl (by decide) (by omega) (by omega)
                        refine zc_V (As := [.int x_74]) (rest := []) ⟨hx, hb, hml, hown, hts⟩ (c_Sh_tells l D cI cJ cZ cP cS po h0 e0 (he) (si) fe (x_74) hy4 hy5 hy6 hy7) (cwV 1 hts gX7_meant_X4_tells rfl rfl rfl ⟨rfl, dh_X4_tells⟩ ⟨Nat.le_of_ble_eq_true rfl, Nat.le_of_ble_eq_true rfl⟩) hK hN (hZ.kept hS) hP (hP.sub [3, 4] rfl) (va_recv (q := (RX4, TX4, 3)) hK hP (ci := 4) (q0 := 3) rfl rfl) rfl hl.1 rfl (Nat.le_of_ble_eq_true rfl) dX7_meant_138 ⟨Nat.le_of_ble_eq_true rfl, Nat.le_of_ble_eq_true rfl⟩ (fun r_75 hr_75 => ?_)
                        refine lv_istore (lv' := [(7, .int r_75), (6, .int r_70), (5, .int 0), (4, .ref h0), (0, .ref x0), (1, .int s_), (2, .int n), (3, .int i)]) hx hb dX7_meant_141 hl (by decide) rfl (fun ls hl => ?_)
                        refine lv_aload_n hx hb dX7_meant_143 rfl (lv_at hl 4 rfl) ?_
                        refine va_get (D := D) (ci := 7) (v := .ref j0) (C := RX7) (T := TX7) (N := 9) hx hb hts hi_X7_meant_7 hown hK hP 0 rfl rfl 1 (by decide) (hts (.fieldLink RX7 18 "TheLiningsInIt" "now" "LTheLiningsInIt$Jacket;") (List.mem_of_getElem? (i := 1) rfl)) (fun _ h9 => h9) rfl dX7_meant_144 ?_
                        refine lv_iload hx hb dX7_meant_147 (lv_at hl 0 rfl) ?_
                        refine lv_aload hx hb dX7_meant_149 (lv_at hl 3 rfl) ?_
                        refine lv_iload_n hx hb dX7_meant_151 rfl (lv_at hl 7 rfl) ?_
                        refine zc_V (As := [.int i]) (rest := [.int r_75, .ref j0]) ⟨hx, hb, hml, hown, hts⟩ (c_Sh_tells l D cI cJ cZ cP cS po h0 e0 (he) (si) fe (i) hy4 hy5 hy6 hy7) (cwV 1 hts gX7_meant_X4_tells rfl rfl rfl ⟨rfl, dh_X4_tells⟩ ⟨Nat.le_of_ble_eq_true rfl, Nat.le_of_ble_eq_true rfl⟩) hK hN (hZ.kept hS) hP (hP.sub [3, 4] rfl) (va_recv (q := (RX4, TX4, 3)) hK hP (ci := 4) (q0 := 3) rfl rfl) rfl hl.1 rfl (Nat.le_of_ble_eq_true rfl) dX7_meant_152 ⟨Nat.le_of_ble_eq_true rfl, Nat.le_of_ble_eq_true rfl⟩ (fun r_76 hr_76 => ?_)
                        refine zc_V (As := [.int r_75, .int r_76]) (rest := []) ⟨hx, hb, hml, hown, hts⟩ (c_J_firstMaking_any l D cI cJ cZ cP cS po j0 jp jc z0 0 0 (cn) (de) (tr) (se) (hu) (sd) fp kf af tf (r_75) (r_76) hy9 hy10 hy11 hy12 hy13 hy14 hjp) (cwV 2 hts gX7_meant_X0_firstMaking rfl rfl rfl ⟨rfl, dh_X0_firstMaking⟩ ⟨Nat.le_of_ble_eq_true rfl, Nat.le_of_ble_eq_true rfl⟩) hK hN (hZ.kept hS) hP (hP.sub [5, 6] rfl) (va_recv (q := (RX0, TX0, 9)) hK hP (ci := 0) (q0 := 5) rfl rfl) rfl hl.1 rfl (Nat.le_of_ble_eq_true rfl) dX7_meant_155 ⟨Nat.le_of_ble_eq_true rfl, Nat.le_of_ble_eq_true rfl⟩ (fun r_77 hr_77 => ?_)
                        exact W.iret (v := r_77) hx hb hr (fun t ht hW => ⟨⟨r_77, fr, rfl, trivial, zRet ht hP hD [0, 1, 2, 3, 4, 5, 6] (by decide) rfl⟩, hS.F ht⟩) hS.2.2 dX7_meant_158
                      · have fc_73 : i.toInt = 0 := zf_eq c_73 rfl (by decide)
                        refine lv_aload_n hx hb dX7_meant_123 rfl (lv_at hl 3 rfl) ?_
                        refine va_get (D := D) (ci := 7) (v := .ref j0) (C := RX7) (T := TX7) (N := 9) hx hb hts hi_X7_meant_7 hown hK hP 0 rfl rfl 1 (by decide) (hts (.fieldLink RX7 18 "TheLiningsInIt" "now" "LTheLiningsInIt$Jacket;") (List.mem_of_getElem? (i := 1) rfl)) (fun _ h9 => h9) rfl dX7_meant_124 ?_
                        refine va_get (D := D) (ci := 0) (v := .int de) (C := RX0) (T := TX0) (N := 9) hx hb hts hi_X7_meant_0 hown hK hP 5 rfl rfl 4 (by decide) (hts (.fieldLink RX7 199 "TheLiningsInIt$Jacket" "depth" "I") (List.mem_of_getElem? (i := 2) rfl)) (fun _ h9 => h9) rfl dX7_meant_127 ?_
                        refine lv_goto (tgt := 141) hx hb dX7_meant_130 (by decide) ?_
                        refine lv_istore (lv' := [(7, .int de), (6, .int r_70), (5, .int 0), (4, .ref h0), (0, .ref x0), (1, .int s_), (2, .int n), (3, .int i)]) hx hb dX7_meant_141 hl (by decide) rfl (fun ls hl => ?_)
                        refine lv_aload_n hx hb dX7_meant_143 rfl (lv_at hl 4 rfl) ?_
                        refine va_get (D := D) (ci := 7) (v := .ref j0) (C := RX7) (T := TX7) (N := 9) hx hb hts hi_X7_meant_7 hown hK hP 0 rfl rfl 1 (by decide) (hts (.fieldLink RX7 18 "TheLiningsInIt" "now" "LTheLiningsInIt$Jacket;") (List.mem_of_getElem? (i := 1) rfl)) (fun _ h9 => h9) rfl dX7_meant_144 ?_
                        refine lv_iload hx hb dX7_meant_147 (lv_at hl 0 rfl) ?_
                        refine lv_aload hx hb dX7_meant_149 (lv_at hl 3 rfl) ?_
                        refine lv_iload_n hx hb dX7_meant_151 rfl (lv_at hl 7 rfl) ?_
                        refine zc_V (As := [.int i]) (rest := [.int de, .ref j0]) ⟨hx, hb, hml, hown, hts⟩ (c_Sh_tells l D cI cJ cZ cP cS po h0 e0 (he) (si) fe (i) hy4 hy5 hy6 hy7) (cwV 1 hts gX7_meant_X4_tells rfl rfl rfl ⟨rfl, dh_X4_tells⟩ ⟨Nat.le_of_ble_eq_true rfl, Nat.le_of_ble_eq_true rfl⟩) hK hN (hZ.kept hS) hP (hP.sub [3, 4] rfl) (va_recv (q := (RX4, TX4, 3)) hK hP (ci := 4) (q0 := 3) rfl rfl) rfl hl.1 rfl (Nat.le_of_ble_eq_true rfl) dX7_meant_152 ⟨Nat.le_of_ble_eq_true rfl, Nat.le_of_ble_eq_true rfl⟩ (fun r_78 hr_78 => ?_)
                        refine zc_V (As := [.int de, .int r_78]) (rest := []) ⟨hx, hb, hml, hown, hts⟩ (c_J_firstMaking_any l D cI cJ cZ cP cS po j0 jp jc z0 0 0 (cn) (de) (tr) (se) (hu) (sd) fp kf af tf (de) (r_78) hy9 hy10 hy11 hy12 hy13 hy14 hjp) (cwV 2 hts gX7_meant_X0_firstMaking rfl rfl rfl ⟨rfl, dh_X0_firstMaking⟩ ⟨Nat.le_of_ble_eq_true rfl, Nat.le_of_ble_eq_true rfl⟩) hK hN (hZ.kept hS) hP (hP.sub [5, 6] rfl) (va_recv (q := (RX0, TX0, 9)) hK hP (ci := 0) (q0 := 5) rfl rfl) rfl hl.1 rfl (Nat.le_of_ble_eq_true rfl) dX7_meant_155 ⟨Nat.le_of_ble_eq_true rfl, Nat.le_of_ble_eq_true rfl⟩ (fun r_79 hr_79 => ?_)
                        exact W.iret (v := r_79) hx hb hr (fun t ht hW => ⟨⟨r_79, fr, rfl, trivial, zRet ht hP hD [0, 1, 2, 3, 4, 5, 6] (by decide) rfl⟩, hS.F ht⟩) hS.2.2 dX7_meant_158
                    · have fc_72 : r_70.toInt = 0 := zf_eq c_72 rfl (by decide)
                      refine lv_aload_n hx hb dX7_meant_113 rfl (lv_at hl 3 rfl) ?_
                      refine lv_iconst (v := 5) hx hb dX7_meant_114 (by decide) ?_
                      skip
                      refine zw_V (As := [.int 5]) (rest := []) (wr := [(xs, .inl (cS, 8, .inr (.inr (.inr (.inr fh))))), (h0, .inr (4, [.ref e0, .int he, .int si])), (e0, .inl (cJ, 160, .inr (.inl fe))), (j0, .inr (0, [.ref z0, .ref jp, .ref jc, .int cn, .int de, .int tr, .int se, .int hu, .int sd])), (jp, .inl (cP, 8, .inr (.inr (.inr (.inr fp)))))]) ⟨hx, hb, hml, hown, hts⟩ (c_X_refuse_5 l D cI cJ cZ cP cS po x0 xs j0 k0 w0 rd mv xr (im) (lf) fr hy0 hy1 hy2 hy3 H.size) (cwV 1 hts gX7_meant_X7_refuse rfl rfl rfl ⟨rfl, dh_X7_refuse⟩ ⟨Nat.le_of_ble_eq_true rfl, Nat.le_of_ble_eq_true rfl⟩) hK hN (hZ.kept hS) hP hD hS hA [0, 1] [2, 3, 4, 5, 6] rfl rfl (by decide) (by decide) (by decide) (va_recv (q := (RX7, TX7, 9)) hK hP (ci := 7) (q0 := 0) rfl rfl) rfl hl.1 rfl (Nat.le_of_ble_eq_true rfl) dX7_meant_115 ⟨Nat.le_of_ble_eq_true rfl, Nat.le_of_ble_eq_true rfl⟩ (fun r_80 u_81 H locs hr_80 hP hD hS => ?_)
                      obtain ⟨q_82, rfl⟩ : ∃ z, z = u_81 := ⟨_, rfl⟩
                      have h9R := zRe (ws' := [(xs, .inl (cS, 8, .inr (.inr (.inr (.inr fh))))), (h0, .inr (4, [.ref e0, .int he, .int si])), (e0, .inl (cJ, 160, .inr (.inl fe))), (j0, .inr (0, [.ref z0, .ref jp, .ref jc, .int cn, .int de, .int tr, .int se, .int hu, .int sd])), (jp, .inl (cP, 8, .inr (.inr (.inr (.inr fp))))), (x0, .inr (7, [.ref xs, .ref j0, .ref k0, .ref w0, .ref rd, .ref mv, .ref xr, .int im, .int lf])), (xr, .inl (cI, 8, .inl q_82))]) hP hD rfl
                      clear hP hD
                      obtain ⟨hP, hD⟩ := h9R
                      obtain rfl := hr_80
                      exact W.iret (v := (-5)) hx hb hr (fun t ht hW => ⟨⟨(-5), q_82, rfl, trivial, zRet ht hP hD [5, 6, 0, 1, 2, 3, 4] (by decide) rfl⟩, hS.F ht⟩) hS.2.2 dX7_meant_118
                  · have fc_71 : i.toInt = (-1) := zf_eq c_71 rfl (by decide)
                    refine lv_iload hx hb dX7_meant_105 (lv_at hl 0 rfl) ?_
                    exact W.iret (v := r_70) hx hb hr (fun t ht hW => ⟨⟨r_70, fr, rfl, trivial, zRet ht hP hD [0, 1, 2, 3, 4, 5, 6] (by decide) rfl⟩, hS.F ht⟩) hS.2.2 dX7_meant_107
                · have fc_69 : r_66.toInt = 0 := zf_eq c_69 rfl (by decide)
                  refine lv_aload_n hx hb dX7_meant_84 rfl (lv_at hl 2 rfl) ?_
                  refine lv_bipush (v := 6) hx hb dX7_meant_85 (by decide) ?_
                  skip
                  refine zw_V (As := [.int 6]) (rest := []) (wr := [(xs, .inl (cS, 8, .inr (.inr (.inr (.inr fh))))), (h0, .inr (4, [.ref e0, .int he, .int si])), (e0, .inl (cJ, 160, .inr (.inl fe))), (j0, .inr (0, [.ref z0, .ref jp, .ref jc, .int cn, .int de, .int tr, .int se, .int hu, .int sd])), (jp, .inl (cP, 8, .inr (.inr (.inr (.inr fp)))))]) ⟨hx, hb, hml, hown, hts⟩ (c_X_refuse_6 l D cI cJ cZ cP cS po x0 xs j0 k0 w0 rd mv xr (im) (lf) fr hy0 hy1 hy2 hy3 H.size) (cwV 1 hts gX7_meant_X7_refuse rfl rfl rfl ⟨rfl, dh_X7_refuse⟩ ⟨Nat.le_of_ble_eq_true rfl, Nat.le_of_ble_eq_true rfl⟩) hK hN (hZ.kept hS) hP hD hS hA [0, 1] [2, 3, 4, 5, 6] rfl rfl (by decide) (by decide) (by decide) (va_recv (q := (RX7, TX7, 9)) hK hP (ci := 7) (q0 := 0) rfl rfl) rfl hl.1 rfl (Nat.le_of_ble_eq_true rfl) dX7_meant_87 ⟨Nat.le_of_ble_eq_true rfl, Nat.le_of_ble_eq_true rfl⟩ (fun r_83 u_84 H locs hr_83 hP hD hS => ?_)
                  obtain ⟨q_85, rfl⟩ : ∃ z, z = u_84 := ⟨_, rfl⟩
                  have h9R := zRe (ws' := [(xs, .inl (cS, 8, .inr (.inr (.inr (.inr fh))))), (h0, .inr (4, [.ref e0, .int he, .int si])), (e0, .inl (cJ, 160, .inr (.inl fe))), (j0, .inr (0, [.ref z0, .ref jp, .ref jc, .int cn, .int de, .int tr, .int se, .int hu, .int sd])), (jp, .inl (cP, 8, .inr (.inr (.inr (.inr fp))))), (x0, .inr (7, [.ref xs, .ref j0, .ref k0, .ref w0, .ref rd, .ref mv, .ref xr, .int im, .int lf])), (xr, .inl (cI, 8, .inl q_85))]) hP hD rfl
                  clear hP hD
                  obtain ⟨hP, hD⟩ := h9R
                  obtain rfl := hr_83
                  exact W.iret (v := (-6)) hx hb hr (fun t ht hW => ⟨⟨(-6), q_85, rfl, trivial, zRet ht hP hD [5, 6, 0, 1, 2, 3, 4] (by decide) rfl⟩, hS.F ht⟩) hS.2.2 dX7_meant_90
              · exact absurd c_65 (by decide)
          · exact absurd c_49 (by decide)
      · exact absurd c_34 (by decide)
    · refine lv_istore (lv' := [(5, .int 5), (4, .ref h0), (0, .ref x0), (1, .int s_), (2, .int n), (3, .int i)]) hx hb dX7_meant_24 hl (by decide) rfl (fun ls hl => ?_)
      refine lv_iload hx hb dX7_meant_26 (lv_at hl 0 rfl) ?_
      refine lv_if_eq (tgt := 38) hx hb dX7_meant_28 (by decide) (fun c_86 => ?_) (fun c_86 => ?_)
      · exact absurd c_86 (by decide)
      · refine lv_aload_n hx hb dX7_meant_31 rfl (lv_at hl 2 rfl) ?_
        refine lv_iload hx hb dX7_meant_32 (lv_at hl 0 rfl) ?_
        skip
        refine zw_V (As := [.int 5]) (rest := []) (wr := [(xs, .inl (cS, 8, .inr (.inr (.inr (.inr fh))))), (h0, .inr (4, [.ref e0, .int he, .int si])), (e0, .inl (cJ, 160, .inr (.inl fe))), (j0, .inr (0, [.ref z0, .ref jp, .ref jc, .int cn, .int de, .int tr, .int se, .int hu, .int sd])), (jp, .inl (cP, 8, .inr (.inr (.inr (.inr fp)))))]) ⟨hx, hb, hml, hown, hts⟩ (c_X_refuse_5 l D cI cJ cZ cP cS po x0 xs j0 k0 w0 rd mv xr (im) (lf) fr hy0 hy1 hy2 hy3 H.size) (cwV 1 hts gX7_meant_X7_refuse rfl rfl rfl ⟨rfl, dh_X7_refuse⟩ ⟨Nat.le_of_ble_eq_true rfl, Nat.le_of_ble_eq_true rfl⟩) hK hN (hZ.kept hS) hP hD hS hA [0, 1] [2, 3, 4, 5, 6] rfl rfl (by decide) (by decide) (by decide) (va_recv (q := (RX7, TX7, 9)) hK hP (ci := 7) (q0 := 0) rfl rfl) rfl hl.1 rfl (Nat.le_of_ble_eq_true rfl) dX7_meant_34 ⟨Nat.le_of_ble_eq_true rfl, Nat.le_of_ble_eq_true rfl⟩ (fun r_87 u_88 H locs hr_87 hP hD hS => ?_)
        obtain ⟨q_89, rfl⟩ : ∃ z, z = u_88 := ⟨_, rfl⟩
        have h9R := zRe (ws' := [(xs, .inl (cS, 8, .inr (.inr (.inr (.inr fh))))), (h0, .inr (4, [.ref e0, .int he, .int si])), (e0, .inl (cJ, 160, .inr (.inl fe))), (j0, .inr (0, [.ref z0, .ref jp, .ref jc, .int cn, .int de, .int tr, .int se, .int hu, .int sd])), (jp, .inl (cP, 8, .inr (.inr (.inr (.inr fp))))), (x0, .inr (7, [.ref xs, .ref j0, .ref k0, .ref w0, .ref rd, .ref mv, .ref xr, .int im, .int lf])), (xr, .inl (cI, 8, .inl q_89))]) hP hD rfl
        clear hP hD
        obtain ⟨hP, hD⟩ := h9R
        obtain rfl := hr_87
        exact W.iret (v := (-5)) hx hb hr (fun t ht hW => ⟨⟨(-5), q_89, rfl, trivial, zRet ht hP hD [5, 6, 0, 1, 2, 3, 4] (by decide) rfl⟩, hS.F ht⟩) hS.2.2 dX7_meant_37
    · refine lv_istore (lv' := [(5, .int 4), (4, .ref h0), (0, .ref x0), (1, .int s_), (2, .int n), (3, .int i)]) hx hb dX7_meant_24 hl (by decide) rfl (fun ls hl => ?_)
      refine lv_iload hx hb dX7_meant_26 (lv_at hl 0 rfl) ?_
      refine lv_if_eq (tgt := 38) hx hb dX7_meant_28 (by decide) (fun c_90 => ?_) (fun c_90 => ?_)
      · exact absurd c_90 (by decide)
      · refine lv_aload_n hx hb dX7_meant_31 rfl (lv_at hl 2 rfl) ?_
        refine lv_iload hx hb dX7_meant_32 (lv_at hl 0 rfl) ?_
        skip
        refine zw_V (As := [.int 4]) (rest := []) (wr := [(xs, .inl (cS, 8, .inr (.inr (.inr (.inr fh))))), (h0, .inr (4, [.ref e0, .int he, .int si])), (e0, .inl (cJ, 160, .inr (.inl fe))), (j0, .inr (0, [.ref z0, .ref jp, .ref jc, .int cn, .int de, .int tr, .int se, .int hu, .int sd])), (jp, .inl (cP, 8, .inr (.inr (.inr (.inr fp)))))]) ⟨hx, hb, hml, hown, hts⟩ (c_X_refuse_4 l D cI cJ cZ cP cS po x0 xs j0 k0 w0 rd mv xr (im) (lf) fr hy0 hy1 hy2 hy3 H.size) (cwV 1 hts gX7_meant_X7_refuse rfl rfl rfl ⟨rfl, dh_X7_refuse⟩ ⟨Nat.le_of_ble_eq_true rfl, Nat.le_of_ble_eq_true rfl⟩) hK hN (hZ.kept hS) hP hD hS hA [0, 1] [2, 3, 4, 5, 6] rfl rfl (by decide) (by decide) (by decide) (va_recv (q := (RX7, TX7, 9)) hK hP (ci := 7) (q0 := 0) rfl rfl) rfl hl.1 rfl (Nat.le_of_ble_eq_true rfl) dX7_meant_34 ⟨Nat.le_of_ble_eq_true rfl, Nat.le_of_ble_eq_true rfl⟩ (fun r_91 u_92 H locs hr_91 hP hD hS => ?_)
        obtain ⟨q_93, rfl⟩ : ∃ z, z = u_92 := ⟨_, rfl⟩
        have h9R := zRe (ws' := [(xs, .inl (cS, 8, .inr (.inr (.inr (.inr fh))))), (h0, .inr (4, [.ref e0, .int he, .int si])), (e0, .inl (cJ, 160, .inr (.inl fe))), (j0, .inr (0, [.ref z0, .ref jp, .ref jc, .int cn, .int de, .int tr, .int se, .int hu, .int sd])), (jp, .inl (cP, 8, .inr (.inr (.inr (.inr fp))))), (x0, .inr (7, [.ref xs, .ref j0, .ref k0, .ref w0, .ref rd, .ref mv, .ref xr, .int im, .int lf])), (xr, .inl (cI, 8, .inl q_93))]) hP hD rfl
        clear hP hD
        obtain ⟨hP, hD⟩ := h9R
        obtain rfl := hr_91
        exact W.iret (v := (-4)) hx hb hr (fun t ht hW => ⟨⟨(-4), q_93, rfl, trivial, zRet ht hP hD [5, 6, 0, 1, 2, 3, 4] (by decide) rfl⟩, hS.F ht⟩) hS.2.2 dX7_meant_37
end
