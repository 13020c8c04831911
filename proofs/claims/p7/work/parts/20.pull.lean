set_option maxHeartbeats 4000000 in
set_option maxRecDepth 100000 in
theorem c_within (l : Launch) (D : va_G) (cI cJ cZ cP cS : ClassId) (po : zPool) (v lo hi : Int32)  : Met l yX7_within wsX7_within ({ frames := 0, cells := 0, slots := 0, locals := 0 }) (va_Pc [.int v, .int lo, .int hi] (zR D (zKT cI cJ cZ cP cS) po [])) (vp_Si (fun r => (r = 0 ∧ v.toInt < lo.toInt) ∨ (r = 0 ∧ lo.toInt ≤ v.toInt ∧ hi.toInt < v.toInt) ∨ (r = 1 ∧ lo.toInt ≤ v.toInt ∧ v.toInt ≤ hi.toInt))) 0 0 (fun _ => False) := by
  refine Met.ofW (cc := cX7_within) (maxL := 3) (ret := (some .boolean)) (by decide) rfl ?_
  intro p e s m args below meth c s₁ B hml hv
  obtain ⟨rfl, hP, hK, hN, hZ⟩ := hv
  have hx := B.exec
  have hb := B.bytes
  have hr := B.returns
  have hts := atoms_spec (ws := wsX7_within) B.pre
  have hown : s.vm.findClass RX7 = some m.cls := findClass_of_methodNamed B.named
  have hlocks := B.notSynchronized
  have hl := lv_entry ([.int v, .int lo, .int hi]) (n := 3) (Nat.le_of_ble_eq_true rfl)
  rw [lg_entry_eq]
  generalize (lg_sl ([.int v, .int lo, .int hi]) ++ List.replicate (3 - (lg_sl ([.int v, .int lo, .int hi])).length) Slot.unset).toArray = ls at hl ⊢
  replace hl : lv_has ls 3 [(0, .int v), (1, .int lo), (2, .int hi)] := hl
  refine lv_iload_n hx hb dX7_within_0 rfl (lv_at hl 0 rfl) ?_
  refine lv_iload_n hx hb dX7_within_1 rfl (lv_at hl 1 rfl) ?_
  refine lv_icmp_lt (tgt := 14) hx hb dX7_within_2 (by decide) (fun c_1 => ?_) (fun c_1 => ?_)
  · have fc_1 : v.toInt < lo.toInt := zf_lt c_1 rfl rfl
    refine lv_iconst (v := 0) hx hb dX7_within_14 (by decide) ?_
    exact W.zret (v := 0) hx hb hr (by decide) (fun t ht hW => ⟨0, rfl, Or.inl (⟨rfl, (by first | omega | decide)⟩), ht⟩) (fun q hq => by cases hq) dX7_within_15
  · have fc_1 : lo.toInt ≤ v.toInt := zf_nlt c_1 rfl rfl
    refine lv_iload_n hx hb dX7_within_5 rfl (lv_at hl 0 rfl) ?_
    refine lv_iload_n hx hb dX7_within_6 rfl (lv_at hl 2 rfl) ?_
    refine lv_icmp_gt (tgt := 14) hx hb dX7_within_7 (by decide) (fun c_2 => ?_) (fun c_2 => ?_)
    · have fc_2 : hi.toInt < v.toInt := zf_lt c_2 rfl rfl
      refine lv_iconst (v := 0) hx hb dX7_within_14 (by decide) ?_
      exact W.zret (v := 0) hx hb hr (by decide) (fun t ht hW => ⟨0, rfl, Or.inr (Or.inl (⟨rfl, (by first | omega | decide), (by first | omega | decide)⟩)), ht⟩) (fun q hq => by cases hq) dX7_within_15
    · have fc_2 : v.toInt ≤ hi.toInt := zf_nlt c_2 rfl rfl
      refine lv_iconst (v := 1) hx hb dX7_within_10 (by decide) ?_
      refine lv_goto (tgt := 15) hx hb dX7_within_11 (by decide) ?_
      exact W.zret (v := 1) hx hb hr (by decide) (fun t ht hW => ⟨1, rfl, Or.inr (Or.inr (⟨rfl, (by first | omega | decide), (by first | omega | decide)⟩)), ht⟩) (fun q hq => by cases hq) dX7_within_15
theorem hi_X2_mayBe_2 : ∀ w ∈ u_ws RX2 TX2 3, w ∈ wsX2_mayBe := fun w h => (goodIn_r (u_ws RX2 TX2 3) [2, 3, 4] rfl (by decide +kernel) w h).1
set_option maxHeartbeats 4000000 in
set_option maxRecDepth 100000 in
theorem c_Pull_mayBe (l : Launch) (D : va_G) (cI cJ cZ cP cS : ClassId) (po : zPool) (d sec : Int32) (u0 : Nat) (ki a_ ta : Int32) (hu_u0 : zPu po u0 ki a_ ta) (hr_u0 : zPr ki a_ ta) : Met l yX2_mayBe wsX2_mayBe ({ frames := 0, cells := 0, slots := 0, locals := 0 }) (va_Pc [.ref u0, .int d, .int sec] (zR D (zKT cI cJ cZ cP cS) po [])) (vp_Si (fun r => (r = 0 ∧ d.toInt < 1) ∨ (r = 0 ∧ 1 ≤ d.toInt ∧ sec.toInt < ta.toInt) ∨ (r = 1 ∧ 1 ≤ d.toInt ∧ ta.toInt ≤ sec.toInt))) 0 0 (fun _ => False) := by
  refine Met.ofW (cc := cX2_mayBe) (maxL := 3) (ret := (some .boolean)) (by decide) rfl ?_
  intro p e s m args below meth c s₁ B hml hv
  obtain ⟨rfl, hP, hK, hN, hZ⟩ := hv
  have hx := B.exec
  have hb := B.bytes
  have hr := B.returns
  have hts := atoms_spec (ws := wsX2_mayBe) B.pre
  have hown : s.vm.findClass RX2 = some m.cls := findClass_of_methodNamed B.named
  have hlocks := B.notSynchronized
  have hl := lv_entry ([.ref u0, .int d, .int sec]) (n := 3) (Nat.le_of_ble_eq_true rfl)
  rw [lg_entry_eq]
  generalize (lg_sl ([.ref u0, .int d, .int sec]) ++ List.replicate (3 - (lg_sl ([.ref u0, .int d, .int sec])).length) Slot.unset).toArray = ls at hl ⊢
  replace hl : lv_has ls 3 [(0, .ref u0), (1, .int d), (2, .int sec)] := hl
  obtain ⟨⟨p1_u0, p2_u0⟩, ⟨p3_u0, p4_u0⟩, p5_u0, p6_u0⟩ := id hr_u0
  refine lv_iload_n hx hb dX2_mayBe_0 rfl (lv_at hl 1 rfl) ?_
  refine lv_iconst (v := 1) hx hb dX2_mayBe_1 (by decide) ?_
  refine lv_icmp_lt (tgt := 17) hx hb dX2_mayBe_2 (by decide) (fun c_1 => ?_) (fun c_1 => ?_)
  · have fc_1 : d.toInt < 1 := zf_lt c_1 rfl (by decide)
    refine lv_iconst (v := 0) hx hb dX2_mayBe_17 (by decide) ?_
    exact W.zret (v := 0) hx hb hr (by decide) (fun t ht hW => ⟨0, rfl, Or.inl (⟨rfl, (by first | omega | decide)⟩), ht⟩) (fun q hq => by cases hq) dX2_mayBe_18
  · have fc_1 : 1 ≤ d.toInt := zf_nlt c_1 rfl (by decide)
    refine lv_iload_n hx hb dX2_mayBe_5 rfl (lv_at hl 2 rfl) ?_
    refine lv_aload_n hx hb dX2_mayBe_6 rfl (lv_at hl 0 rfl) ?_
    refine va_get (D := D) (ci := 2) (v := .int ta) (C := RX2) (T := TX2) (N := 3) hx hb hts hi_X2_mayBe_2 hown hK (zPu_P hZ hu_u0) 0 rfl rfl 2 (by decide) (hts (.fieldLink RX2 18 "TheLiningsInIt$Pull" "takes" "I") (List.mem_of_getElem? (i := 1) rfl)) (fun _ h9 => h9) rfl dX2_mayBe_7 ?_
    refine lv_icmp_lt (tgt := 17) hx hb dX2_mayBe_10 (by decide) (fun c_2 => ?_) (fun c_2 => ?_)
    · have fc_2 : sec.toInt < ta.toInt := zf_lt c_2 rfl rfl
      refine lv_iconst (v := 0) hx hb dX2_mayBe_17 (by decide) ?_
      exact W.zret (v := 0) hx hb hr (by decide) (fun t ht hW => ⟨0, rfl, Or.inr (Or.inl (⟨rfl, (by first | omega | decide), (by first | omega | decide)⟩)), ht⟩) (fun q hq => by cases hq) dX2_mayBe_18
    · have fc_2 : ta.toInt ≤ sec.toInt := zf_nlt c_2 rfl rfl
      refine lv_iconst (v := 1) hx hb dX2_mayBe_13 (by decide) ?_
      refine lv_goto (tgt := 18) hx hb dX2_mayBe_14 (by decide) ?_
      exact W.zret (v := 1) hx hb hr (by decide) (fun t ht hW => ⟨1, rfl, Or.inr (Or.inr (⟨rfl, (by first | omega | decide), (by first | omega | decide)⟩)), ht⟩) (fun q hq => by cases hq) dX2_mayBe_18
theorem hi_X2_step_2 : ∀ w ∈ u_ws RX2 TX2 3, w ∈ wsX2_step := fun w h => (goodIn_r (u_ws RX2 TX2 3) [3, 4, 5] rfl (by decide +kernel) w h).1
set_option maxHeartbeats 4000000 in
set_option maxRecDepth 100000 in
theorem c_Pull_step (l : Launch) (D : va_G) (cI cJ cZ cP cS : ClassId) (po : zPool)  (u0 : Nat) (ki a_ ta : Int32) (hu_u0 : zPu po u0 ki a_ ta) (hr_u0 : zPr ki a_ ta) : Met l yX2_step wsX2_step ({ frames := 0, cells := 0, slots := 0, locals := 0 }) (va_Pc [.ref u0] (zR D (zKT cI cJ cZ cP cS) po [])) (vp_Si (fun r => 1 ≤ r.toInt ∧ r.toInt ≤ 5)) 0 0 (fun _ => False) := by
  refine Met.ofW (cc := cX2_step) (maxL := 1) (ret := (some .int)) (by decide) rfl ?_
  intro p e s m args below meth c s₁ B hml hv
  obtain ⟨rfl, hP, hK, hN, hZ⟩ := hv
  have hx := B.exec
  have hb := B.bytes
  have hr := B.returns
  have hts := atoms_spec (ws := wsX2_step) B.pre
  have hown : s.vm.findClass RX2 = some m.cls := findClass_of_methodNamed B.named
  have hlocks := B.notSynchronized
  have hl := lv_entry ([.ref u0]) (n := 1) (Nat.le_of_ble_eq_true rfl)
  rw [lg_entry_eq]
  generalize (lg_sl ([.ref u0]) ++ List.replicate (1 - (lg_sl ([.ref u0])).length) Slot.unset).toArray = ls at hl ⊢
  replace hl : lv_has ls 1 [(0, .ref u0)] := hl
  obtain ⟨⟨p1_u0, p2_u0⟩, ⟨p3_u0, p4_u0⟩, p5_u0, p6_u0⟩ := id hr_u0
  refine lv_aload_n hx hb dX2_step_0 rfl (lv_at hl 0 rfl) ?_
  refine va_get (D := D) (ci := 2) (v := .int ki) (C := RX2) (T := TX2) (N := 3) hx hb hts hi_X2_step_2 hown hK (zPu_P hZ hu_u0) 0 rfl rfl 0 (by decide) (hts (.fieldLink RX2 9 "TheLiningsInIt$Pull" "kind" "I") (List.mem_of_getElem? (i := 1) rfl)) (fun _ h9 => h9) rfl dX2_step_1 ?_
  have hsp : ki = 0 ∨ ki = 1 ∨ ki = 2 ∨ ki = 3 ∨ ki = 4 ∨ ki = 5 ∨ ki = 6 := by
    rcases (show ki.toInt = 0 ∨ ki.toInt = 1 ∨ ki.toInt = 2 ∨ ki.toInt = 3 ∨ ki.toInt = 4 ∨ ki.toInt = 5 ∨ ki.toInt = 6 by omega) with h9 | h9 | h9 | h9 | h9 | h9 | h9
    · refine Or.inl ?_; exact zf_val h9 (by decide)
    · refine Or.inr (Or.inl ?_); exact zf_val h9 (by decide)
    · refine Or.inr (Or.inr (Or.inl ?_)); exact zf_val h9 (by decide)
    · refine Or.inr (Or.inr (Or.inr (Or.inl ?_))); exact zf_val h9 (by decide)
    · refine Or.inr (Or.inr (Or.inr (Or.inr (Or.inl ?_)))); exact zf_val h9 (by decide)
    · refine Or.inr (Or.inr (Or.inr (Or.inr (Or.inr (Or.inl ?_))))); exact zf_val h9 (by decide)
    · refine Or.inr (Or.inr (Or.inr (Or.inr (Or.inr (Or.inr (?_)))))); exact zf_val h9 (by decide)
  rcases hsp with rfl | rfl | rfl | rfl | rfl | rfl | rfl
  · have kc0 : (0 : Int32).toInt = 0 := by decide
    refine lv_tableOut (tgt := 53) hx hb dX2_step_4 (by decide) (by decide) ?_
    refine lv_iconst (v := 1) hx hb dX2_step_53 (by decide) ?_
    exact W.iret (v := 1) hx hb hr (fun t ht hW => ⟨1, rfl, ⟨by decide, by decide⟩, ht⟩) (fun q hq => by cases hq) dX2_step_54
  · have kc1 : (1 : Int32).toInt = 1 := by decide
    refine lv_tableOut (tgt := 53) hx hb dX2_step_4 (by decide) (by decide) ?_
    refine lv_iconst (v := 1) hx hb dX2_step_53 (by decide) ?_
    exact W.iret (v := 1) hx hb hr (fun t ht hW => ⟨1, rfl, ⟨by decide, by decide⟩, ht⟩) (fun q hq => by cases hq) dX2_step_54
  · have kc2 : (2 : Int32).toInt = 2 := by decide
    refine lv_tableIn (tgt := 40) hx hb dX2_step_4 (by decide) (by decide) rfl (by decide) ?_
    refine lv_iconst (v := 2) hx hb dX2_step_40 (by decide) ?_
    refine lv_aload_n hx hb dX2_step_41 rfl (lv_at hl 0 rfl) ?_
    refine va_get (D := D) (ci := 2) (v := .int a_) (C := RX2) (T := TX2) (N := 3) hx hb hts hi_X2_step_2 hown hK (zPu_P hZ hu_u0) 0 rfl rfl 1 (by decide) (hts (.fieldLink RX2 15 "TheLiningsInIt$Pull" "a" "I") (List.mem_of_getElem? (i := 2) rfl)) (fun _ h9 => h9) rfl dX2_step_42 ?_
    refine lv_iconst (v := 3) hx hb dX2_step_45 (by decide) ?_
    refine lv_idiv hx hb dX2_step_46 (by decide) ?_
    refine lv_topi (fun x_1 ex_1 => ?_)
    have qx_1 : x_1.toInt = a_.toInt / 3 := by rw [ex_1]; exact zf_div rfl (by decide) (by omega) (by omega)
    refine lv_iadd hx hb dX2_step_47 ?_
    refine lv_topi (fun x_2 ex_2 => ?_)
    have qx_2 : x_2.toInt = 2 + x_1.toInt := by rw [ex_2]; exact zf_add (by decide) rfl (by omega) (by omega)
    exact W.iret (v := x_2) hx hb hr (fun t ht hW => ⟨x_2, rfl, ⟨by omega, by omega⟩, ht⟩) (fun q hq => by cases hq) dX2_step_48
  · have kc3 : (3 : Int32).toInt = 3 := by decide
    refine lv_tableIn (tgt := 53) hx hb dX2_step_4 (by decide) (by decide) rfl (by decide) ?_
    refine lv_iconst (v := 1) hx hb dX2_step_53 (by decide) ?_
    exact W.iret (v := 1) hx hb hr (fun t ht hW => ⟨1, rfl, ⟨by decide, by decide⟩, ht⟩) (fun q hq => by cases hq) dX2_step_54
  · have kc4 : (4 : Int32).toInt = 4 := by decide
    refine lv_tableIn (tgt := 49) hx hb dX2_step_4 (by decide) (by decide) rfl (by decide) ?_
    refine lv_iconst (v := 2) hx hb dX2_step_49 (by decide) ?_
    exact W.iret (v := 2) hx hb hr (fun t ht hW => ⟨2, rfl, ⟨by decide, by decide⟩, ht⟩) (fun q hq => by cases hq) dX2_step_50
  · have kc5 : (5 : Int32).toInt = 5 := by decide
    refine lv_tableIn (tgt := 51) hx hb dX2_step_4 (by decide) (by decide) rfl (by decide) ?_
    refine lv_iconst (v := 4) hx hb dX2_step_51 (by decide) ?_
    exact W.iret (v := 4) hx hb hr (fun t ht hW => ⟨4, rfl, ⟨by decide, by decide⟩, ht⟩) (fun q hq => by cases hq) dX2_step_52
  · have kc6 : (6 : Int32).toInt = 6 := by decide
    refine lv_tableIn (tgt := 49) hx hb dX2_step_4 (by decide) (by decide) rfl (by decide) ?_
    refine lv_iconst (v := 2) hx hb dX2_step_49 (by decide) ?_
    exact W.iret (v := 2) hx hb hr (fun t ht hW => ⟨2, rfl, ⟨by decide, by decide⟩, ht⟩) (fun q hq => by cases hq) dX2_step_50
theorem hi_X2_calmWaysAt_2 : ∀ w ∈ u_ws RX2 TX2 3, w ∈ wsX2_calmWaysAt := fun w h => (goodIn_r (u_ws RX2 TX2 3) [3, 4, 5] rfl (by decide +kernel) w h).1
set_option maxHeartbeats 4000000 in
set_option maxRecDepth 100000 in
theorem c_Pull_calm (l : Launch) (D : va_G) (cI cJ cZ cP cS : ClassId) (po : zPool) (d : Int32) (u0 : Nat) (ki a_ ta : Int32) (hu_u0 : zPu po u0 ki a_ ta) (hr_u0 : zPr ki a_ ta) (hy2 : 0 ≤ d.toInt) (hy3 : d.toInt ≤ 24) : Met l yX2_calmWaysAt wsX2_calmWaysAt ({ frames := 0, cells := 0, slots := 0, locals := 0 }) (va_Pc [.ref u0, .int d] (zR D (zKT cI cJ cZ cP cS) po [])) (vp_Si (fun r => 0 ≤ r.toInt ∧ r.toInt ≤ 12)) 0 0 (fun _ => False) := by
  refine Met.ofW (cc := cX2_calmWaysAt) (maxL := 2) (ret := (some .int)) (by decide) rfl ?_
  intro p e s m args below meth c s₁ B hml hv
  obtain ⟨rfl, hP, hK, hN, hZ⟩ := hv
  have hx := B.exec
  have hb := B.bytes
  have hr := B.returns
  have hts := atoms_spec (ws := wsX2_calmWaysAt) B.pre
  have hown : s.vm.findClass RX2 = some m.cls := findClass_of_methodNamed B.named
  have hlocks := B.notSynchronized
  have hl := lv_entry ([.ref u0, .int d]) (n := 2) (Nat.le_of_ble_eq_true rfl)
  rw [lg_entry_eq]
  generalize (lg_sl ([.ref u0, .int d]) ++ List.replicate (2 - (lg_sl ([.ref u0, .int d])).length) Slot.unset).toArray = ls at hl ⊢
  replace hl : lv_has ls 2 [(0, .ref u0), (1, .int d)] := hl
  obtain ⟨⟨p1_u0, p2_u0⟩, ⟨p3_u0, p4_u0⟩, p5_u0, p6_u0⟩ := id hr_u0
  refine lv_aload_n hx hb dX2_calmWaysAt_0 rfl (lv_at hl 0 rfl) ?_
  refine va_get (D := D) (ci := 2) (v := .int ki) (C := RX2) (T := TX2) (N := 3) hx hb hts hi_X2_calmWaysAt_2 hown hK (zPu_P hZ hu_u0) 0 rfl rfl 0 (by decide) (hts (.fieldLink RX2 9 "TheLiningsInIt$Pull" "kind" "I") (List.mem_of_getElem? (i := 1) rfl)) (fun _ h9 => h9) rfl dX2_calmWaysAt_1 ?_
  have hsp : ki = 0 ∨ ki = 1 ∨ ki = 2 ∨ ki = 3 ∨ ki = 4 ∨ ki = 5 ∨ ki = 6 := by
    rcases (show ki.toInt = 0 ∨ ki.toInt = 1 ∨ ki.toInt = 2 ∨ ki.toInt = 3 ∨ ki.toInt = 4 ∨ ki.toInt = 5 ∨ ki.toInt = 6 by omega) with h9 | h9 | h9 | h9 | h9 | h9 | h9
    · refine Or.inl ?_; exact zf_val h9 (by decide)
    · refine Or.inr (Or.inl ?_); exact zf_val h9 (by decide)
    · refine Or.inr (Or.inr (Or.inl ?_)); exact zf_val h9 (by decide)
    · refine Or.inr (Or.inr (Or.inr (Or.inl ?_))); exact zf_val h9 (by decide)
    · refine Or.inr (Or.inr (Or.inr (Or.inr (Or.inl ?_)))); exact zf_val h9 (by decide)
    · refine Or.inr (Or.inr (Or.inr (Or.inr (Or.inr (Or.inl ?_))))); exact zf_val h9 (by decide)
    · refine Or.inr (Or.inr (Or.inr (Or.inr (Or.inr (Or.inr (?_)))))); exact zf_val h9 (by decide)
  rcases hsp with rfl | rfl | rfl | rfl | rfl | rfl | rfl
  · have kc0 : (0 : Int32).toInt = 0 := by decide
    refine lv_tableOut (tgt := 95) hx hb dX2_calmWaysAt_4 (by decide) (by decide) ?_
    refine lv_bipush (v := 6) hx hb dX2_calmWaysAt_95 (by decide) ?_
    refine lv_iload_n hx hb dX2_calmWaysAt_97 rfl (lv_at hl 1 rfl) ?_
    refine lv_iconst (v := 4) hx hb dX2_calmWaysAt_98 (by decide) ?_
    refine lv_idiv hx hb dX2_calmWaysAt_99 (by decide) ?_
    refine lv_topi (fun x_1 ex_1 => ?_)
    have qx_1 : x_1.toInt = d.toInt / 4 := by rw [ex_1]; exact zf_div rfl (by decide) (by omega) (by omega)
    refine lv_isub hx hb dX2_calmWaysAt_100 ?_
    refine lv_topi (fun x_2 ex_2 => ?_)
    have qx_2 : x_2.toInt = 6 - x_1.toInt := by rw [ex_2]; exact zf_sub (by decide) rfl (by omega) (by omega)
    exact W.iret (v := x_2) hx hb hr (fun t ht hW => ⟨x_2, rfl, ⟨by omega, by omega⟩, ht⟩) (fun q hq => by cases hq) dX2_calmWaysAt_101
  · have kc1 : (1 : Int32).toInt = 1 := by decide
    refine lv_tableIn (tgt := 44) hx hb dX2_calmWaysAt_4 (by decide) (by decide) rfl (by decide) ?_
    refine lv_bipush (v := 8) hx hb dX2_calmWaysAt_44 (by decide) ?_
    refine lv_iload_n hx hb dX2_calmWaysAt_46 rfl (lv_at hl 1 rfl) ?_
    refine lv_iconst (v := 4) hx hb dX2_calmWaysAt_47 (by decide) ?_
    refine lv_idiv hx hb dX2_calmWaysAt_48 (by decide) ?_
    refine lv_topi (fun x_3 ex_3 => ?_)
    have qx_3 : x_3.toInt = d.toInt / 4 := by rw [ex_3]; exact zf_div rfl (by decide) (by omega) (by omega)
    refine lv_isub hx hb dX2_calmWaysAt_49 ?_
    refine lv_topi (fun x_4 ex_4 => ?_)
    have qx_4 : x_4.toInt = 8 - x_3.toInt := by rw [ex_4]; exact zf_sub (by decide) rfl (by omega) (by omega)
    exact W.iret (v := x_4) hx hb hr (fun t ht hW => ⟨x_4, rfl, ⟨by omega, by omega⟩, ht⟩) (fun q hq => by cases hq) dX2_calmWaysAt_50
  · have kc2 : (2 : Int32).toInt = 2 := by decide
    refine lv_tableIn (tgt := 65) hx hb dX2_calmWaysAt_4 (by decide) (by decide) rfl (by decide) ?_
    refine lv_bipush (v := 6) hx hb dX2_calmWaysAt_65 (by decide) ?_
    refine lv_iload_n hx hb dX2_calmWaysAt_67 rfl (lv_at hl 1 rfl) ?_
    refine lv_iconst (v := 4) hx hb dX2_calmWaysAt_68 (by decide) ?_
    refine lv_idiv hx hb dX2_calmWaysAt_69 (by decide) ?_
    refine lv_topi (fun x_5 ex_5 => ?_)
    have qx_5 : x_5.toInt = d.toInt / 4 := by rw [ex_5]; exact zf_div rfl (by decide) (by omega) (by omega)
    refine lv_isub hx hb dX2_calmWaysAt_70 ?_
    refine lv_topi (fun x_6 ex_6 => ?_)
    have qx_6 : x_6.toInt = 6 - x_5.toInt := by rw [ex_6]; exact zf_sub (by decide) rfl (by omega) (by omega)
    refine lv_aload_n hx hb dX2_calmWaysAt_71 rfl (lv_at hl 0 rfl) ?_
    refine va_get (D := D) (ci := 2) (v := .int a_) (C := RX2) (T := TX2) (N := 3) hx hb hts hi_X2_calmWaysAt_2 hown hK (zPu_P hZ hu_u0) 0 rfl rfl 1 (by decide) (hts (.fieldLink RX2 15 "TheLiningsInIt$Pull" "a" "I") (List.mem_of_getElem? (i := 2) rfl)) (fun _ h9 => h9) rfl dX2_calmWaysAt_72 ?_
    refine lv_iconst (v := 3) hx hb dX2_calmWaysAt_75 (by decide) ?_
    refine lv_idiv hx hb dX2_calmWaysAt_76 (by decide) ?_
    refine lv_topi (fun x_7 ex_7 => ?_)
    have qx_7 : x_7.toInt = a_.toInt / 3 := by rw [ex_7]; exact zf_div rfl (by decide) (by omega) (by omega)
    refine lv_iadd hx hb dX2_calmWaysAt_77 ?_
    refine lv_topi (fun x_8 ex_8 => ?_)
    have qx_8 : x_8.toInt = x_6.toInt + x_7.toInt := by rw [ex_8]; exact zf_add rfl rfl (by omega) (by omega)
    exact W.iret (v := x_8) hx hb hr (fun t ht hW => ⟨x_8, rfl, ⟨by omega, by omega⟩, ht⟩) (fun q hq => by cases hq) dX2_calmWaysAt_78
  · have kc3 : (3 : Int32).toInt = 3 := by decide
    refine lv_tableIn (tgt := 51) hx hb dX2_calmWaysAt_4 (by decide) (by decide) rfl (by decide) ?_
    refine lv_bipush (v := 8) hx hb dX2_calmWaysAt_51 (by decide) ?_
    refine lv_iload_n hx hb dX2_calmWaysAt_53 rfl (lv_at hl 1 rfl) ?_
    refine lv_iconst (v := 4) hx hb dX2_calmWaysAt_54 (by decide) ?_
    refine lv_idiv hx hb dX2_calmWaysAt_55 (by decide) ?_
    refine lv_topi (fun x_9 ex_9 => ?_)
    have qx_9 : x_9.toInt = d.toInt / 4 := by rw [ex_9]; exact zf_div rfl (by decide) (by omega) (by omega)
    refine lv_isub hx hb dX2_calmWaysAt_56 ?_
    refine lv_topi (fun x_10 ex_10 => ?_)
    have qx_10 : x_10.toInt = 8 - x_9.toInt := by rw [ex_10]; exact zf_sub (by decide) rfl (by omega) (by omega)
    refine lv_aload_n hx hb dX2_calmWaysAt_57 rfl (lv_at hl 0 rfl) ?_
    refine va_get (D := D) (ci := 2) (v := .int a_) (C := RX2) (T := TX2) (N := 3) hx hb hts hi_X2_calmWaysAt_2 hown hK (zPu_P hZ hu_u0) 0 rfl rfl 1 (by decide) (hts (.fieldLink RX2 15 "TheLiningsInIt$Pull" "a" "I") (List.mem_of_getElem? (i := 2) rfl)) (fun _ h9 => h9) rfl dX2_calmWaysAt_58 ?_
    refine lv_iconst (v := 2) hx hb dX2_calmWaysAt_61 (by decide) ?_
    refine lv_idiv hx hb dX2_calmWaysAt_62 (by decide) ?_
    refine lv_topi (fun x_11 ex_11 => ?_)
    have qx_11 : x_11.toInt = a_.toInt / 2 := by rw [ex_11]; exact zf_div rfl (by decide) (by omega) (by omega)
    refine lv_iadd hx hb dX2_calmWaysAt_63 ?_
    refine lv_topi (fun x_12 ex_12 => ?_)
    have qx_12 : x_12.toInt = x_10.toInt + x_11.toInt := by rw [ex_12]; exact zf_add rfl rfl (by omega) (by omega)
    exact W.iret (v := x_12) hx hb hr (fun t ht hW => ⟨x_12, rfl, ⟨by omega, by omega⟩, ht⟩) (fun q hq => by cases hq) dX2_calmWaysAt_64
  · have kc4 : (4 : Int32).toInt = 4 := by decide
    refine lv_tableIn (tgt := 79) hx hb dX2_calmWaysAt_4 (by decide) (by decide) rfl (by decide) ?_
    refine lv_bipush (v := 8) hx hb dX2_calmWaysAt_79 (by decide) ?_
    refine lv_iload_n hx hb dX2_calmWaysAt_81 rfl (lv_at hl 1 rfl) ?_
    refine lv_bipush (v := 6) hx hb dX2_calmWaysAt_82 (by decide) ?_
    refine lv_idiv hx hb dX2_calmWaysAt_84 (by decide) ?_
    refine lv_topi (fun x_13 ex_13 => ?_)
    have qx_13 : x_13.toInt = d.toInt / 6 := by rw [ex_13]; exact zf_div rfl (by decide) (by omega) (by omega)
    refine lv_isub hx hb dX2_calmWaysAt_85 ?_
    refine lv_topi (fun x_14 ex_14 => ?_)
    have qx_14 : x_14.toInt = 8 - x_13.toInt := by rw [ex_14]; exact zf_sub (by decide) rfl (by omega) (by omega)
    exact W.iret (v := x_14) hx hb hr (fun t ht hW => ⟨x_14, rfl, ⟨by omega, by omega⟩, ht⟩) (fun q hq => by cases hq) dX2_calmWaysAt_86
  · have kc5 : (5 : Int32).toInt = 5 := by decide
    refine lv_tableIn (tgt := 95) hx hb dX2_calmWaysAt_4 (by decide) (by decide) rfl (by decide) ?_
    refine lv_bipush (v := 6) hx hb dX2_calmWaysAt_95 (by decide) ?_
    refine lv_iload_n hx hb dX2_calmWaysAt_97 rfl (lv_at hl 1 rfl) ?_
    refine lv_iconst (v := 4) hx hb dX2_calmWaysAt_98 (by decide) ?_
    refine lv_idiv hx hb dX2_calmWaysAt_99 (by decide) ?_
    refine lv_topi (fun x_15 ex_15 => ?_)
    have qx_15 : x_15.toInt = d.toInt / 4 := by rw [ex_15]; exact zf_div rfl (by decide) (by omega) (by omega)
    refine lv_isub hx hb dX2_calmWaysAt_100 ?_
    refine lv_topi (fun x_16 ex_16 => ?_)
    have qx_16 : x_16.toInt = 6 - x_15.toInt := by rw [ex_16]; exact zf_sub (by decide) rfl (by omega) (by omega)
    exact W.iret (v := x_16) hx hb hr (fun t ht hW => ⟨x_16, rfl, ⟨by omega, by omega⟩, ht⟩) (fun q hq => by cases hq) dX2_calmWaysAt_101
  · have kc6 : (6 : Int32).toInt = 6 := by decide
    refine lv_tableIn (tgt := 87) hx hb dX2_calmWaysAt_4 (by decide) (by decide) rfl (by decide) ?_
    refine lv_bipush (v := 10) hx hb dX2_calmWaysAt_87 (by decide) ?_
    refine lv_iload_n hx hb dX2_calmWaysAt_89 rfl (lv_at hl 1 rfl) ?_
    refine lv_bipush (v := 6) hx hb dX2_calmWaysAt_90 (by decide) ?_
    refine lv_idiv hx hb dX2_calmWaysAt_92 (by decide) ?_
    refine lv_topi (fun x_17 ex_17 => ?_)
    have qx_17 : x_17.toInt = d.toInt / 6 := by rw [ex_17]; exact zf_div rfl (by decide) (by omega) (by omega)
    refine lv_isub hx hb dX2_calmWaysAt_93 ?_
    refine lv_topi (fun x_18 ex_18 => ?_)
    have qx_18 : x_18.toInt = 10 - x_17.toInt := by rw [ex_18]; exact zf_sub (by decide) rfl (by omega) (by omega)
    exact W.iret (v := x_18) hx hb hr (fun t ht hW => ⟨x_18, rfl, ⟨by omega, by omega⟩, ht⟩) (fun q hq => by cases hq) dX2_calmWaysAt_94
theorem hi_X2_waysAt_2 : ∀ w ∈ u_ws RX2 TX2 3, w ∈ wsX2_waysAt := fun w h => (goodIn_r (u_ws RX2 TX2 3) [15, 16, 17] rfl (by decide +kernel) w h).1
set_option maxHeartbeats 4000000 in
set_option maxRecDepth 100000 in
theorem c_Pull_waysAt (l : Launch) (D : va_G) (cI cJ cZ cP cS : ClassId) (po : zPool) (d h : Int32) (u0 : Nat) (ki a_ ta : Int32) (hu_u0 : zPu po u0 ki a_ ta) (hr_u0 : zPr ki a_ ta) (hy2 : 0 ≤ d.toInt) (hy3 : d.toInt ≤ 24) (hy4 : 0 ≤ h.toInt) (hy5 : h.toInt ≤ 9) : Met l yX2_waysAt wsX2_waysAt ({ frames := 1, cells := 0, slots := 0, locals := 21 }) (va_Pc [.ref u0, .int d, .int h] (zR D (zKT cI cJ cZ cP cS) po [])) (vp_Si (fun r => 0 ≤ r.toInt ∧ r.toInt ≤ 12)) 0 0 (fun _ => False) := by
  refine Met.ofW (cc := cX2_waysAt) (maxL := 3) (ret := (some .int)) (by decide) rfl ?_
  intro p e s m args below meth c s₁ B hml hv
  obtain ⟨rfl, hP, hK, hN, hZ⟩ := hv
  have hx := B.exec
  have hb := B.bytes
  have hr := B.returns
  have hts := atoms_spec (ws := wsX2_waysAt) B.pre
  have hown : s.vm.findClass RX2 = some m.cls := findClass_of_methodNamed B.named
  have hlocks := B.notSynchronized
  have hl := lv_entry ([.ref u0, .int d, .int h]) (n := 3) (Nat.le_of_ble_eq_true rfl)
  rw [lg_entry_eq]
  generalize (lg_sl ([.ref u0, .int d, .int h]) ++ List.replicate (3 - (lg_sl ([.ref u0, .int d, .int h])).length) Slot.unset).toArray = ls at hl ⊢
  replace hl : lv_has ls 3 [(0, .ref u0), (1, .int d), (2, .int h)] := hl
  obtain ⟨⟨p1_u0, p2_u0⟩, ⟨p3_u0, p4_u0⟩, p5_u0, p6_u0⟩ := id hr_u0
  refine lv_aload_n hx hb dX2_waysAt_0 rfl (lv_at hl 0 rfl) ?_
  refine va_get (D := D) (ci := 2) (v := .int ki) (C := RX2) (T := TX2) (N := 3) hx hb hts hi_X2_waysAt_2 hown hK (zPu_P hZ hu_u0) 0 rfl rfl 0 (by decide) (hts (.fieldLink RX2 9 "TheLiningsInIt$Pull" "kind" "I") (List.mem_of_getElem? (i := 1) rfl)) (fun _ h9 => h9) rfl dX2_waysAt_1 ?_
  refine lv_iconst (v := 5) hx hb dX2_waysAt_4 (by decide) ?_
  refine lv_icmp_ne (tgt := 11) hx hb dX2_waysAt_5 (by decide) (fun c_1 => ?_) (fun c_1 => ?_)
  · have fc_1 : ki.toInt ≠ 5 := zf_ne c_1 rfl (by decide)
    refine lv_iconst (v := 0) hx hb dX2_waysAt_11 (by decide) ?_
    refine lv_bipush (v := 12) hx hb dX2_waysAt_12 (by decide) ?_
    refine lv_aload_n hx hb dX2_waysAt_14 rfl (lv_at hl 0 rfl) ?_
    refine lv_iload_n hx hb dX2_waysAt_15 rfl (lv_at hl 1 rfl) ?_
    refine zc_V (As := [.int d]) (rest := [.int 12, .int 0]) ⟨hx, hb, hml, hown, hts⟩ (c_Pull_calm l D cI cJ cZ cP cS po (d) u0 (ki) (a_) (ta) hu_u0 ⟨by omega, by omega, by omega, by omega⟩ hy2 hy3) (cwV 1 hts gX2_waysAt_X2_calmWaysAt rfl rfl rfl (by decide +kernel) ⟨Nat.le_of_ble_eq_true rfl, Nat.le_of_ble_eq_true rfl⟩) hK hN hZ hP zP_nil (va_recv hK (zPu_P hZ hu_u0) (ci := 2) (q0 := 0) rfl rfl) rfl hl.1 rfl (Nat.le_of_ble_eq_true rfl) dX2_waysAt_16 ⟨Nat.le_of_ble_eq_true rfl, Nat.le_of_ble_eq_true rfl⟩ (fun r_2 hr_2 => ?_)
    obtain ⟨g_3, g_4⟩ := hr_2
    refine lv_iload_n hx hb dX2_waysAt_19 rfl (lv_at hl 2 rfl) ?_
    refine lv_iconst (v := 3) hx hb dX2_waysAt_20 (by decide) ?_
    refine lv_idiv hx hb dX2_waysAt_21 (by decide) ?_
    refine lv_topi (fun x_5 ex_5 => ?_)
    have qx_5 : x_5.toInt = h.toInt / 3 := by rw [ex_5]; exact zf_div rfl (by decide) (by omega) (by omega)
    refine lv_isub hx hb dX2_waysAt_22 ?_
    refine lv_topi (fun x_6 ex_6 => ?_)
    have qx_6 : x_6.toInt = r_2.toInt - x_5.toInt := by rw [ex_6]; exact zf_sub rfl rfl (by omega) (by omega)
    refine va_mmin hx hb (hml.trans hl.1.symm) hown (hts (.methodLink RX2 33 Lib.Math.min.name) (List.mem_of_getElem? (i := 2) rfl)) (hts _ (List.mem_of_getElem? (i := 3) rfl)) (hts _ (List.mem_of_getElem? (i := 4) rfl)) (hts _ (List.mem_of_getElem? (i := 5) rfl)) (Nat.le_of_ble_eq_true rfl) (Nat.le_of_ble_eq_true rfl) (Nat.le_of_ble_eq_true rfl) (Nat.le_of_ble_eq_true rfl) dX2_waysAt_23 ?_
    refine lv_topi (fun x_7 ex_7 => ?_)
    have qx_7 := zf_min ex_7 (x1 := 12) (y1 := x_6.toInt) (by decide) rfl
    refine va_mmax hx hb (hml.trans hl.1.symm) hown (hts (.methodLink RX2 39 Lib.Math.max.name) (List.mem_of_getElem? (i := 6) rfl)) (hts _ (List.mem_of_getElem? (i := 7) rfl)) (hts _ (List.mem_of_getElem? (i := 4) rfl)) (hts _ (List.mem_of_getElem? (i := 8) rfl)) (Nat.le_of_ble_eq_true rfl) (Nat.le_of_ble_eq_true rfl) (Nat.le_of_ble_eq_true rfl) (Nat.le_of_ble_eq_true rfl) dX2_waysAt_26 ?_
    refine lv_topi (fun x_8 ex_8 => ?_)
    have qx_8 := zf_max ex_8 (x1 := 0) (y1 := x_7.toInt) (by decide) rfl
    exact W.iret (v := x_8) hx hb hr (fun t ht hW => ⟨x_8, rfl, ⟨by omega, by omega⟩, ht⟩) (fun q hq => by cases hq) dX2_waysAt_29
  · have fc_1 : ki.toInt = 5 := zf_eq c_1 rfl (by decide)
    refine lv_bipush (v := 12) hx hb dX2_waysAt_8 (by decide) ?_
    exact W.iret (v := 12) hx hb hr (fun t ht hW => ⟨12, rfl, ⟨by decide, by decide⟩, ht⟩) (fun q hq => by cases hq) dX2_waysAt_10
set_option maxHeartbeats 4000000 in
set_option maxRecDepth 100000 in
theorem c_Pull_shallower (l : Launch) (D : va_G) (cI cJ cZ cP cS : ClassId) (po : zPool) (d : Int32) (u0 : Nat) (ki a_ ta : Int32) (hu_u0 : zPu po u0 ki a_ ta) (hr_u0 : zPr ki a_ ta) (hy2 : 0 ≤ d.toInt) (hy3 : d.toInt ≤ 24) : Met l yX2_shallower wsX2_shallower ({ frames := 1, cells := 0, slots := 0, locals := 21 }) (va_Pc [.ref u0, .int d] (zR D (zKT cI cJ cZ cP cS) po [])) (vp_Si (fun r => 0 ≤ r.toInt ∧ r.toInt ≤ 24)) 0 0 (fun _ => False) := by
  refine Met.ofW (cc := cX2_shallower) (maxL := 2) (ret := (some .int)) (by decide) rfl ?_
  intro p e s m args below meth c s₁ B hml hv
  obtain ⟨rfl, hP, hK, hN, hZ⟩ := hv
  have hx := B.exec
  have hb := B.bytes
  have hr := B.returns
  have hts := atoms_spec (ws := wsX2_shallower) B.pre
  have hown : s.vm.findClass RX2 = some m.cls := findClass_of_methodNamed B.named
  have hlocks := B.notSynchronized
  have hl := lv_entry ([.ref u0, .int d]) (n := 2) (Nat.le_of_ble_eq_true rfl)
  rw [lg_entry_eq]
  generalize (lg_sl ([.ref u0, .int d]) ++ List.replicate (2 - (lg_sl ([.ref u0, .int d])).length) Slot.unset).toArray = ls at hl ⊢
  replace hl : lv_has ls 2 [(0, .ref u0), (1, .int d)] := hl
  obtain ⟨⟨p1_u0, p2_u0⟩, ⟨p3_u0, p4_u0⟩, p5_u0, p6_u0⟩ := id hr_u0
  refine lv_iconst (v := 0) hx hb dX2_shallower_0 (by decide) ?_
  refine lv_iload_n hx hb dX2_shallower_1 rfl (lv_at hl 1 rfl) ?_
  refine lv_aload_n hx hb dX2_shallower_2 rfl (lv_at hl 0 rfl) ?_
  refine zc_V (As := []) (rest := [.int d, .int 0]) ⟨hx, hb, hml, hown, hts⟩ (c_Pull_step l D cI cJ cZ cP cS po u0 (ki) (a_) (ta) hu_u0 ⟨by omega, by omega, by omega, by omega⟩) (cwV 0 hts gX2_shallower_X2_step rfl rfl rfl (by decide +kernel) ⟨Nat.le_of_ble_eq_true rfl, Nat.le_of_ble_eq_true rfl⟩) hK hN hZ hP zP_nil (va_recv hK (zPu_P hZ hu_u0) (ci := 2) (q0 := 0) rfl rfl) rfl hl.1 rfl (Nat.le_of_ble_eq_true rfl) dX2_shallower_3 ⟨Nat.le_of_ble_eq_true rfl, Nat.le_of_ble_eq_true rfl⟩ (fun r_1 hr_1 => ?_)
  obtain ⟨g_2, g_3⟩ := hr_1
  refine lv_isub hx hb dX2_shallower_6 ?_
  refine lv_topi (fun x_4 ex_4 => ?_)
  have qx_4 : x_4.toInt = d.toInt - r_1.toInt := by rw [ex_4]; exact zf_sub rfl rfl (by omega) (by omega)
  refine va_mmax hx hb (hml.trans hl.1.symm) hown (hts (.methodLink RX2 39 Lib.Math.max.name) (List.mem_of_getElem? (i := 1) rfl)) (hts _ (List.mem_of_getElem? (i := 2) rfl)) (hts _ (List.mem_of_getElem? (i := 3) rfl)) (hts _ (List.mem_of_getElem? (i := 4) rfl)) (Nat.le_of_ble_eq_true rfl) (Nat.le_of_ble_eq_true rfl) (Nat.le_of_ble_eq_true rfl) (Nat.le_of_ble_eq_true rfl) dX2_shallower_7 ?_
  refine lv_topi (fun x_5 ex_5 => ?_)
  have qx_5 := zf_max ex_5 (x1 := 0) (y1 := x_4.toInt) (by decide) rfl
  exact W.iret (v := x_5) hx hb hr (fun t ht hW => ⟨x_5, rfl, ⟨by omega, by omega⟩, ht⟩) (fun q hq => by cases hq) dX2_shallower_10
theorem hi_X2_deeper_2 : ∀ w ∈ u_ws RX2 TX2 3, w ∈ wsX2_deeper := fun w h => (goodIn_r (u_ws RX2 TX2 3) [7, 8, 9] rfl (by decide +kernel) w h).1
set_option maxHeartbeats 4000000 in
set_option maxRecDepth 100000 in
theorem c_Pull_deeper (l : Launch) (D : va_G) (cI cJ cZ cP cS : ClassId) (po : zPool) (d h : Int32) (u0 : Nat) (ki a_ ta : Int32) (hu_u0 : zPu po u0 ki a_ ta) (hr_u0 : zPr ki a_ ta) (hy2 : 0 ≤ d.toInt) (hy3 : d.toInt ≤ 24) (hy4 : 0 ≤ h.toInt) (hy5 : h.toInt ≤ 9) : Met l yX2_deeper wsX2_deeper ({ frames := 1, cells := 0, slots := 0, locals := 21 }) (va_Pc [.ref u0, .int d, .int h] (zR D (zKT cI cJ cZ cP cS) po [])) (vp_Si (fun r => 0 ≤ r.toInt ∧ r.toInt ≤ 24)) 0 0 (fun _ => False) := by
  refine Met.ofW (cc := cX2_deeper) (maxL := 4) (ret := (some .int)) (by decide) rfl ?_
  intro p e s m args below meth c s₁ B hml hv
  obtain ⟨rfl, hP, hK, hN, hZ⟩ := hv
  have hx := B.exec
  have hb := B.bytes
  have hr := B.returns
  have hts := atoms_spec (ws := wsX2_deeper) B.pre
  have hown : s.vm.findClass RX2 = some m.cls := findClass_of_methodNamed B.named
  have hlocks := B.notSynchronized
  have hl := lv_entry ([.ref u0, .int d, .int h]) (n := 4) (Nat.le_of_ble_eq_true rfl)
  rw [lg_entry_eq]
  generalize (lg_sl ([.ref u0, .int d, .int h]) ++ List.replicate (4 - (lg_sl ([.ref u0, .int d, .int h])).length) Slot.unset).toArray = ls at hl ⊢
  replace hl : lv_has ls 4 [(0, .ref u0), (1, .int d), (2, .int h)] := hl
  obtain ⟨⟨p1_u0, p2_u0⟩, ⟨p3_u0, p4_u0⟩, p5_u0, p6_u0⟩ := id hr_u0
  refine lv_aload_n hx hb dX2_deeper_0 rfl (lv_at hl 0 rfl) ?_
  refine va_get (D := D) (ci := 2) (v := .int ki) (C := RX2) (T := TX2) (N := 3) hx hb hts hi_X2_deeper_2 hown hK (zPu_P hZ hu_u0) 0 rfl rfl 0 (by decide) (hts (.fieldLink RX2 9 "TheLiningsInIt$Pull" "kind" "I") (List.mem_of_getElem? (i := 1) rfl)) (fun _ h9 => h9) rfl dX2_deeper_1 ?_
  refine lv_iconst (v := 5) hx hb dX2_deeper_4 (by decide) ?_
  refine lv_icmp_ne (tgt := 10) hx hb dX2_deeper_5 (by decide) (fun c_1 => ?_) (fun c_1 => ?_)
  · have fc_1 : ki.toInt ≠ 5 := zf_ne c_1 rfl (by decide)
    refine lv_aload_n hx hb dX2_deeper_10 rfl (lv_at hl 0 rfl) ?_
    refine va_get (D := D) (ci := 2) (v := .int ki) (C := RX2) (T := TX2) (N := 3) hx hb hts hi_X2_deeper_2 hown hK (zPu_P hZ hu_u0) 0 rfl rfl 0 (by decide) (hts (.fieldLink RX2 9 "TheLiningsInIt$Pull" "kind" "I") (List.mem_of_getElem? (i := 1) rfl)) (fun _ h9 => h9) rfl dX2_deeper_11 ?_
    refine lv_iconst (v := 2) hx hb dX2_deeper_14 (by decide) ?_
    refine lv_icmp_ne (tgt := 29) hx hb dX2_deeper_15 (by decide) (fun c_2 => ?_) (fun c_2 => ?_)
    · have fc_2 : ki.toInt ≠ 2 := zf_ne c_2 rfl (by decide)
      refine lv_iconst (v := 0) hx hb dX2_deeper_29 (by decide) ?_
      refine lv_istore_n (lv' := [(3, .int 0), (0, .ref u0), (1, .int d), (2, .int h)]) hx hb dX2_deeper_30 rfl hl (by decide) rfl (fun ls hl => ?_)
      refine lv_iload_n hx hb dX2_deeper_31 rfl (lv_at hl 3 rfl) ?_
      refine lv_bipush (v := 6) hx hb dX2_deeper_32 (by decide) ?_
      refine lv_icmp_lt (tgt := 40) hx hb dX2_deeper_34 (by decide) (fun c_3 => ?_) (fun c_3 => ?_)
      · have fc_3 : h.toInt < 6 := zf_lt c_3 rfl (by decide)
        refine lv_bipush (v := 24) hx hb dX2_deeper_40 (by decide) ?_
        refine lv_iload_n hx hb dX2_deeper_42 rfl (lv_at hl 2 rfl) ?_
        refine lv_iload_n hx hb dX2_deeper_43 rfl (lv_at hl 0 rfl) ?_
        refine lv_iadd hx hb dX2_deeper_44 ?_
        refine lv_topi (fun y_4 ey_4 => ?_)
        obtain rfl : d = y_4 := (ey_4.trans (Int32.add_zero d)).symm
        refine va_mmin hx hb (hml.trans hl.1.symm) hown (hts (.methodLink RX2 33 Lib.Math.min.name) (List.mem_of_getElem? (i := 3) rfl)) (hts _ (List.mem_of_getElem? (i := 4) rfl)) (hts _ (List.mem_of_getElem? (i := 5) rfl)) (hts _ (List.mem_of_getElem? (i := 6) rfl)) (Nat.le_of_ble_eq_true rfl) (Nat.le_of_ble_eq_true rfl) (Nat.le_of_ble_eq_true rfl) (Nat.le_of_ble_eq_true rfl) dX2_deeper_45 ?_
        refine lv_topi (fun x_5 ex_5 => ?_)
        have qx_5 := zf_min ex_5 (x1 := 24) (y1 := d.toInt) (by decide) rfl
        exact W.iret (v := x_5) hx hb hr (fun t ht hW => ⟨x_5, rfl, ⟨by omega, by omega⟩, ht⟩) (fun q hq => by cases hq) dX2_deeper_48
      · have fc_3 : 6 ≤ h.toInt := zf_nlt c_3 rfl (by decide)
        refine lv_iinc (v := 1) (lv' := [(3, .int 1), (0, .ref u0), (1, .int d), (2, .int h)]) hx hb dX2_deeper_37 hl (k := 0) rfl (by decide) (by decide) rfl (fun ls hl => ?_)
        refine lv_bipush (v := 24) hx hb dX2_deeper_40 (by decide) ?_
        refine lv_iload_n hx hb dX2_deeper_42 rfl (lv_at hl 2 rfl) ?_
        refine lv_iload_n hx hb dX2_deeper_43 rfl (lv_at hl 0 rfl) ?_
        refine lv_iadd hx hb dX2_deeper_44 ?_
        refine lv_topi (fun x_6 ex_6 => ?_)
        have qx_6 : x_6.toInt = d.toInt + 1 := by rw [ex_6]; exact zf_add rfl (by decide) (by omega) (by omega)
        refine va_mmin hx hb (hml.trans hl.1.symm) hown (hts (.methodLink RX2 33 Lib.Math.min.name) (List.mem_of_getElem? (i := 3) rfl)) (hts _ (List.mem_of_getElem? (i := 4) rfl)) (hts _ (List.mem_of_getElem? (i := 5) rfl)) (hts _ (List.mem_of_getElem? (i := 6) rfl)) (Nat.le_of_ble_eq_true rfl) (Nat.le_of_ble_eq_true rfl) (Nat.le_of_ble_eq_true rfl) (Nat.le_of_ble_eq_true rfl) dX2_deeper_45 ?_
        refine lv_topi (fun x_7 ex_7 => ?_)
        have qx_7 := zf_min ex_7 (x1 := 24) (y1 := x_6.toInt) (by decide) rfl
        exact W.iret (v := x_7) hx hb hr (fun t ht hW => ⟨x_7, rfl, ⟨by omega, by omega⟩, ht⟩) (fun q hq => by cases hq) dX2_deeper_48
    · have fc_2 : ki.toInt = 2 := zf_eq c_2 rfl (by decide)
      refine lv_iconst (v := 1) hx hb dX2_deeper_18 (by decide) ?_
      refine lv_aload_n hx hb dX2_deeper_19 rfl (lv_at hl 0 rfl) ?_
      refine va_get (D := D) (ci := 2) (v := .int a_) (C := RX2) (T := TX2) (N := 3) hx hb hts hi_X2_deeper_2 hown hK (zPu_P hZ hu_u0) 0 rfl rfl 1 (by decide) (hts (.fieldLink RX2 15 "TheLiningsInIt$Pull" "a" "I") (List.mem_of_getElem? (i := 2) rfl)) (fun _ h9 => h9) rfl dX2_deeper_20 ?_
      refine lv_iconst (v := 3) hx hb dX2_deeper_23 (by decide) ?_
      refine lv_idiv hx hb dX2_deeper_24 (by decide) ?_
      refine lv_topi (fun x_8 ex_8 => ?_)
      have qx_8 : x_8.toInt = a_.toInt / 3 := by rw [ex_8]; exact zf_div rfl (by decide) (by omega) (by omega)
      refine lv_iadd hx hb dX2_deeper_25 ?_
      refine lv_topi (fun x_9 ex_9 => ?_)
      have qx_9 : x_9.toInt = 1 + x_8.toInt := by rw [ex_9]; exact zf_add (by decide) rfl (by omega) (by omega)
      refine lv_goto (tgt := 30) hx hb dX2_deeper_26 (by decide) ?_
      refine lv_istore_n (lv' := [(3, .int x_9), (0, .ref u0), (1, .int d), (2, .int h)]) hx hb dX2_deeper_30 rfl hl (by decide) rfl (fun ls hl => ?_)
      refine lv_iload_n hx hb dX2_deeper_31 rfl (lv_at hl 3 rfl) ?_
      refine lv_bipush (v := 6) hx hb dX2_deeper_32 (by decide) ?_
      refine lv_icmp_lt (tgt := 40) hx hb dX2_deeper_34 (by decide) (fun c_10 => ?_) (fun c_10 => ?_)
      · have fc_10 : h.toInt < 6 := zf_lt c_10 rfl (by decide)
        refine lv_bipush (v := 24) hx hb dX2_deeper_40 (by decide) ?_
        refine lv_iload_n hx hb dX2_deeper_42 rfl (lv_at hl 2 rfl) ?_
        refine lv_iload_n hx hb dX2_deeper_43 rfl (lv_at hl 0 rfl) ?_
        refine lv_iadd hx hb dX2_deeper_44 ?_
        refine lv_topi (fun x_11 ex_11 => ?_)
        have qx_11 : x_11.toInt = d.toInt + x_9.toInt := by rw [ex_11]; exact zf_add rfl rfl (by omega) (by omega)
        refine va_mmin hx hb (hml.trans hl.1.symm) hown (hts (.methodLink RX2 33 Lib.Math.min.name) (List.mem_of_getElem? (i := 3) rfl)) (hts _ (List.mem_of_getElem? (i := 4) rfl)) (hts _ (List.mem_of_getElem? (i := 5) rfl)) (hts _ (List.mem_of_getElem? (i := 6) rfl)) (Nat.le_of_ble_eq_true rfl) (Nat.le_of_ble_eq_true rfl) (Nat.le_of_ble_eq_true rfl) (Nat.le_of_ble_eq_true rfl) dX2_deeper_45 ?_
        refine lv_topi (fun x_12 ex_12 => ?_)
        have qx_12 := zf_min ex_12 (x1 := 24) (y1 := x_11.toInt) (by decide) rfl
        exact W.iret (v := x_12) hx hb hr (fun t ht hW => ⟨x_12, rfl, ⟨by omega, by omega⟩, ht⟩) (fun q hq => by cases hq) dX2_deeper_48
      · have fc_10 : 6 ≤ h.toInt := zf_nlt c_10 rfl (by decide)
        obtain ⟨x_13, ex_13⟩ : ∃ y : Int32, y = x_9 + 1 := ⟨_, rfl⟩
        have qx_13 : x_13.toInt = x_9.toInt + 1 := by rw [ex_13]; exact zf_add rfl (by decide) (by omega) (by omega)
        refine lv_iinc (v := x_13) (lv' := [(3, .int x_13), (0, .ref u0), (1, .int d), (2, .int h)]) hx hb dX2_deeper_37 hl (k := 0) rfl ex_13.symm (by decide) rfl (fun ls hl => ?_)
        refine lv_bipush (v := 24) hx hb dX2_deeper_40 (by decide) ?_
        refine lv_iload_n hx hb dX2_deeper_42 rfl (lv_at hl 2 rfl) ?_
        refine lv_iload_n hx hb dX2_deeper_43 rfl (lv_at hl 0 rfl) ?_
        refine lv_iadd hx hb dX2_deeper_44 ?_
        refine lv_topi (fun x_14 ex_14 => ?_)
        have qx_14 : x_14.toInt = d.toInt + x_13.toInt := by rw [ex_14]; exact zf_add rfl rfl (by omega) (by omega)
        refine va_mmin hx hb (hml.trans hl.1.symm) hown (hts (.methodLink RX2 33 Lib.Math.min.name) (List.mem_of_getElem? (i := 3) rfl)) (hts _ (List.mem_of_getElem? (i := 4) rfl)) (hts _ (List.mem_of_getElem? (i := 5) rfl)) (hts _ (List.mem_of_getElem? (i := 6) rfl)) (Nat.le_of_ble_eq_true rfl) (Nat.le_of_ble_eq_true rfl) (Nat.le_of_ble_eq_true rfl) (Nat.le_of_ble_eq_true rfl) dX2_deeper_45 ?_
        refine lv_topi (fun x_15 ex_15 => ?_)
        have qx_15 := zf_min ex_15 (x1 := 24) (y1 := x_14.toInt) (by decide) rfl
        exact W.iret (v := x_15) hx hb hr (fun t ht hW => ⟨x_15, rfl, ⟨by omega, by omega⟩, ht⟩) (fun q hq => by cases hq) dX2_deeper_48
  · have fc_1 : ki.toInt = 5 := zf_eq c_1 rfl (by decide)
    refine lv_iload_n hx hb dX2_deeper_8 rfl (lv_at hl 1 rfl) ?_
    exact W.iret (v := d) hx hb hr (fun t ht hW => ⟨d, rfl, ⟨by omega, by omega⟩, ht⟩) (fun q hq => by cases hq) dX2_deeper_9
theorem hi_X2_isOf_2 : ∀ w ∈ u_ws RX2 TX2 3, w ∈ wsX2_isOf := fun w h => (goodIn_r (u_ws RX2 TX2 3) [5, 6, 7] rfl (by decide +kernel) w h).1
set_option maxHeartbeats 4000000 in
set_option maxRecDepth 100000 in
theorem c_Pull_isOf (l : Launch) (D : va_G) (cI cJ cZ cP cS : ClassId) (po : zPool) (w : Int32) (u0 : Nat) (ki a_ ta : Int32) (hu_u0 : zPu po u0 ki a_ ta) (hr_u0 : zPr ki a_ ta) : Met l yX2_isOf wsX2_isOf ({ frames := 1, cells := 0, slots := 0, locals := 22 }) (va_Pc [.ref u0, .int w] (zR D (zKT cI cJ cZ cP cS) po [])) (vp_Si (fun r => 0 ≤ r.toInt ∧ r.toInt ≤ 1)) 0 0 (fun _ => False) := by
  refine Met.ofW (cc := cX2_isOf) (maxL := 4) (ret := (some .boolean)) (by decide) rfl ?_
  intro p e s m args below meth c s₁ B hml hv
  obtain ⟨rfl, hP, hK, hN, hZ⟩ := hv
  have hx := B.exec
  have hb := B.bytes
  have hr := B.returns
  have hts := atoms_spec (ws := wsX2_isOf) B.pre
  have hown : s.vm.findClass RX2 = some m.cls := findClass_of_methodNamed B.named
  have hlocks := B.notSynchronized
  have hl := lv_entry ([.ref u0, .int w]) (n := 4) (Nat.le_of_ble_eq_true rfl)
  rw [lg_entry_eq]
  generalize (lg_sl ([.ref u0, .int w]) ++ List.replicate (4 - (lg_sl ([.ref u0, .int w])).length) Slot.unset).toArray = ls at hl ⊢
  replace hl : lv_has ls 4 [(0, .ref u0), (1, .int w)] := hl
  obtain ⟨⟨p1_u0, p2_u0⟩, ⟨p3_u0, p4_u0⟩, p5_u0, p6_u0⟩ := id hr_u0
  refine lv_aload_n hx hb dX2_isOf_0 rfl (lv_at hl 0 rfl) ?_
  refine va_get (D := D) (ci := 2) (v := .int ki) (C := RX2) (T := TX2) (N := 3) hx hb hts hi_X2_isOf_2 hown hK (zPu_P hZ hu_u0) 0 rfl rfl 0 (by decide) (hts (.fieldLink RX2 9 "TheLiningsInIt$Pull" "kind" "I") (List.mem_of_getElem? (i := 1) rfl)) (fun _ h9 => h9) rfl dX2_isOf_1 ?_
  refine lv_istore_n (lv' := [(2, .int ki), (0, .ref u0), (1, .int w)]) hx hb dX2_isOf_4 rfl hl (by decide) rfl (fun ls hl => ?_)
  refine lv_iconst (v := 0) hx hb dX2_isOf_5 (by decide) ?_
  refine lv_istore_n (lv' := [(3, .int 0), (2, .int ki), (0, .ref u0), (1, .int w)]) hx hb dX2_isOf_6 rfl hl (by decide) rfl (fun ls hl => ?_)
  obtain ⟨i_7, hi_7⟩ : ∃ i : Int32, i = 0 := ⟨_, rfl⟩
  replace hl : lv_has ls 4 [(3, .int i_7), (2, .int ki), (0, .ref u0), (1, .int w)] := by rw [hi_7]; exact lv_sub hl [0, 1, 2, 3] rfl
  have h1i_7 : i_7.toInt = 0 := by rw [hi_7]; decide
  obtain ⟨nfu, hni_7⟩ : ∃ nq9 : Nat, 7 ≤ i_7.toInt + (nq9 : Int) := ⟨((7 : Int) - 0).toNat, by omega⟩
  have hloi_7 : 0 ≤ i_7.toInt := by omega
  obtain ⟨v_1, hv_1⟩ : ∃ g : Int32, g = ki := ⟨_, rfl⟩
  replace hl : lv_has ls 4 [(3, .int i_7), (2, .int v_1), (0, .ref u0), (1, .int w)] := by rw [hv_1]; exact hl
  clear h1i_7 hi_7 hv_1
  revert hni_7
  revert hloi_7
  revert hl
  revert ls
  revert v_1
  revert i_7
  induction nfu with
  | zero =>
    intro i_7 v_1 ls hl hloi_7 hni_7
    have hzi_7 : 7 ≤ i_7.toInt := by omega
    refine lv_iload_n hx hb dX2_isOf_7 rfl (lv_at hl 0 rfl) ?_
    refine lv_bipush (v := 7) hx hb dX2_isOf_8 (by decide) ?_
    refine lv_icmp_ge (tgt := 42) hx hb dX2_isOf_10 (by decide) (fun c_2 => ?_) (fun c_2 => ?_)
    · have fc_2 : 7 ≤ i_7.toInt := zf_le c_2 (by decide) rfl
      refine lv_iconst (v := 0) hx hb dX2_isOf_42 (by decide) ?_
      exact W.zret (v := 0) hx hb hr (by decide) (fun t ht hW => ⟨0, rfl, ⟨by decide, by decide⟩, ht⟩) (fun q hq => by cases hq) dX2_isOf_43
    · exfalso; have fc_2 : i_7.toInt < 7 := zf_nle c_2 (by decide) rfl; omega
  | succ nfu ih =>
    intro i_7 v_1 ls hl hloi_7 hni_7
    refine lv_iload_n hx hb dX2_isOf_7 rfl (lv_at hl 0 rfl) ?_
    refine lv_bipush (v := 7) hx hb dX2_isOf_8 (by decide) ?_
    refine lv_icmp_ge (tgt := 42) hx hb dX2_isOf_10 (by decide) (fun c_3 => ?_) (fun c_3 => ?_)
    · have fc_3 : 7 ≤ i_7.toInt := zf_le c_3 (by decide) rfl
      refine lv_iconst (v := 0) hx hb dX2_isOf_42 (by decide) ?_
      exact W.zret (v := 0) hx hb hr (by decide) (fun t ht hW => ⟨0, rfl, ⟨by decide, by decide⟩, ht⟩) (fun q hq => by cases hq) dX2_isOf_43
    · have fc_3 : i_7.toInt < 7 := zf_nle c_3 (by decide) rfl
      refine lv_iload_n hx hb dX2_isOf_13 rfl (lv_at hl 1 rfl) ?_
      refine lv_iconst (v := 0) hx hb dX2_isOf_14 (by decide) ?_
      refine lv_bipush (v := 6) hx hb dX2_isOf_15 (by decide) ?_
      have kc0 : (0 : Int32).toInt = 0 := by decide
      have kc6 : (6 : Int32).toInt = 6 := by decide
      refine zc_SN (As := [.int v_1, .int 0, .int 6]) (rest := []) ⟨hx, hb, hml, hown, hts⟩ (c_within l D cI cJ cZ cP cS po (v_1) (0) (6) ) ⟨(va_cnB 3 hts gX2_isOf_X7_within_n21 rfl rfl rfl (hN.1 (RX2, 21, yX7_within) (List.mem_of_getElem? (i := 7) rfl)) (hts _ (List.mem_of_getElem? (i := 3) rfl)) (by decide +kernel) ⟨Nat.le_of_ble_eq_true rfl, Nat.le_of_ble_eq_true rfl⟩), (hts _ (List.mem_of_getElem? (i := 2) rfl)), trivial⟩ hK hN hZ rfl hl.1 rfl (Nat.le_of_ble_eq_true rfl) dX2_isOf_17 ⟨Nat.le_of_ble_eq_true rfl, Nat.le_of_ble_eq_true rfl⟩ (fun r_4 hr_4 => ?_)
      rcases hr_4 with ⟨rfl, g_5⟩ | ⟨rfl, g_6, g_7⟩ | ⟨rfl, g_8, g_9⟩
      · refine lv_if_eq (tgt := 42) hx hb dX2_isOf_20 (by decide) (fun c_10 => ?_) (fun c_10 => ?_)
        · refine lv_iconst (v := 0) hx hb dX2_isOf_42 (by decide) ?_
          exact W.zret (v := 0) hx hb hr (by decide) (fun t ht hW => ⟨0, rfl, ⟨by decide, by decide⟩, ht⟩) (fun q hq => by cases hq) dX2_isOf_43
        · exact absurd c_10 (by decide)
      · refine lv_if_eq (tgt := 42) hx hb dX2_isOf_20 (by decide) (fun c_11 => ?_) (fun c_11 => ?_)
        · refine lv_iconst (v := 0) hx hb dX2_isOf_42 (by decide) ?_
          exact W.zret (v := 0) hx hb hr (by decide) (fun t ht hW => ⟨0, rfl, ⟨by decide, by decide⟩, ht⟩) (fun q hq => by cases hq) dX2_isOf_43
        · exact absurd c_11 (by decide)
      · refine lv_if_eq (tgt := 42) hx hb dX2_isOf_20 (by decide) (fun c_12 => ?_) (fun c_12 => ?_)
        · exact absurd c_12 (by decide)
        · refine lv_iload_n hx hb dX2_isOf_23 rfl (lv_at hl 1 rfl) ?_
          refine lv_iload_n hx hb dX2_isOf_24 rfl (lv_at hl 3 rfl) ?_
          refine lv_icmp_ne (tgt := 30) hx hb dX2_isOf_25 (by decide) (fun c_13 => ?_) (fun c_13 => ?_)
          · have fc_13 : v_1.toInt ≠ w.toInt := zf_ne c_13 rfl rfl
            obtain ⟨t_14, zt_14, yt_14⟩ := hZ.1.2
            refine va_getsN hx hb zt_14 va_S.rf hown (va_Nw.use rfl (hN.2.1 (RX2, 25) (List.mem_of_getElem? (i := 0) rfl))) (fun _ h9 => h9) dX2_isOf_30 ?_
            refine lv_iload_n hx hb dX2_isOf_33 rfl (lv_at hl 1 rfl) ?_
            refine va_ti hx hb yt_14 va_S.rf (zf_in (by omega) (by omega)) (v := .int (zABV v_1.toNatClampNeg)) rfl dX2_isOf_34 ?_
            refine lv_topi (fun x_15 ex_15 => ?_)
            have bx_15 := zABV_rg v_1.toNatClampNeg
            rw [← ex_15] at bx_15
            refine lv_istore_n (lv' := [(2, .int x_15), (3, .int i_7), (0, .ref u0), (1, .int w)]) hx hb dX2_isOf_35 rfl hl (by decide) rfl (fun ls hl => ?_)
            obtain ⟨x_16, ex_16⟩ : ∃ y : Int32, y = i_7 + 1 := ⟨_, rfl⟩
            have qx_16 : x_16.toInt = i_7.toInt + 1 := by rw [ex_16]; exact zf_add rfl (by decide) (by omega) (by omega)
            refine lv_iinc (v := x_16) (lv' := [(3, .int x_16), (2, .int x_15), (0, .ref u0), (1, .int w)]) hx hb dX2_isOf_36 hl (k := 1) rfl ex_16.symm (by decide) rfl (fun ls hl => ?_)
            refine lv_goto (tgt := 7) hx hb dX2_isOf_39 (by decide) ?_
            exact ih x_16 x_15 _ (lv_sub hl [0, 1, 2, 3] rfl) (by omega) (by omega)
          · have fc_13 : v_1.toInt = w.toInt := zf_eq c_13 rfl rfl
            refine lv_iconst (v := 1) hx hb dX2_isOf_28 (by decide) ?_
            exact W.zret (v := 1) hx hb hr (by decide) (fun t ht hW => ⟨1, rfl, ⟨by decide, by decide⟩, ht⟩) (fun q hq => by cases hq) dX2_isOf_29

