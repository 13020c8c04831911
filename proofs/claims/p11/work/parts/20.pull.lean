section
set_option maxHeartbeats 4000000 in
set_option maxRecDepth 100000 in
theorem c_within (l : Launch) (D : va_G) (cI cJ cZ cP cS : ClassId) (po : zPool) (v lo hi : Int32)  : Met l yX7_within wsX7_within ({ frames := 0, cells := 0, slots := 0, locals := 0 }) (va_Pc [.int v, .int lo, .int hi] (zR D (zKT cI cJ cZ cP cS) po [])) (vp_Si (fun r => (r = 0 ∧ v.toInt < lo.toInt) ∨ (r = 0 ∧ lo.toInt ≤ v.toInt ∧ hi.toInt < v.toInt) ∨ (r = 1 ∧ lo.toInt ≤ v.toInt ∧ v.toInt ≤ hi.toInt))) 0 0 (fun _ => False) := by
  refine Met.ofW (cc := cX7_within) (maxL := 3) (ret := (some .boolean)) (by decide) rfl ?_
  intro p e s m args below meth c s₁ B hml hv
  obtain ⟨rfl, hP, hK, hN, hZ⟩ := hv
  have hx := B.exec
  have hb := B.bytes
  have hr := B.returns
  have hts := atoms_spec (ws := wsX7_within) B.pre
  have hown : s.vm.findClass RX7 = some m.cls := findClass_of_methodNamed B.named
  have hlocks := B.notSynchronized
  have hl := lv_entry ([.int v, .int lo, .int hi]) (n := 3) (Nat.le_of_ble_eq_true rfl)
  rw [lg_entry_eq]
  generalize (lg_sl ([.int v, .int lo, .int hi]) ++ List.replicate (3 - (lg_sl ([.int v, .int lo, .int hi])).length) Slot.unset).toArray = ls at hl ⊢
  replace hl : lv_has ls 3 [(0, .int v), (1, .int lo), (2, .int hi)] := hl
  refine lv_iload_n hx hb dX7_within_0 rfl (lv_at hl 0 rfl) ?_
  refine lv_iload_n hx hb dX7_within_1 rfl (lv_at hl 1 rfl) ?_
  refine lv_icmp_lt (tgt := 14) hx hb dX7_within_2 (by decide) (fun c_1 => ?_) (fun c_1 => ?_)
  · have fc_1 : v.toInt < lo.toInt := zf_lt c_1 rfl rfl
    refine lv_iconst (v := 0) hx hb dX7_within_14 (by decide) ?_
    exact W.zret (v := 0) hx hb hr (by decide) (fun t ht hW => ⟨0, rfl, Or.inl (⟨rfl, (by first | omega | decide)⟩), ht⟩) (fun q hq => by cases hq) dX7_within_15
  · have fc_1 : lo.toInt ≤ v.toInt := zf_nlt c_1 rfl rfl
    refine lv_iload_n hx hb dX7_within_5 rfl (lv_at hl 0 rfl) ?_
    refine lv_iload_n hx hb dX7_within_6 rfl (lv_at hl 2 rfl) ?_
    refine lv_icmp_gt (tgt := 14) hx hb dX7_within_7 (by decide) (fun c_2 => ?_) (fun c_2 => ?_)
    · have fc_2 : hi.toInt < v.toInt := zf_lt c_2 rfl rfl
      refine lv_iconst (v := 0) hx hb dX7_within_14 (by decide) ?_
      exact W.zret (v := 0) hx hb hr (by decide) (fun t ht hW => ⟨0, rfl, Or.inr (Or.inl (⟨rfl, (by first | omega | decide), (by first | omega | decide)⟩)), ht⟩) (fun q hq => by cases hq) dX7_within_15
    · have fc_2 : v.toInt ≤ hi.toInt := zf_nlt c_2 rfl rfl
      refine lv_iconst (v := 1) hx hb dX7_within_10 (by decide) ?_
      refine lv_goto (tgt := 15) hx hb dX7_within_11 (by decide) ?_
      exact W.zret (v := 1) hx hb hr (by decide) (fun t ht hW => ⟨1, rfl, Or.inr (Or.inr (⟨rfl, (by first | omega | decide), (by first | omega | decide)⟩)), ht⟩) (fun q hq => by cases hq) dX7_within_15
theorem gl_X2_mayBe_X20 : GoodIn wsX2_mayBe wsX20 := (dg_t (dg_t gw_wsX20))
theorem hi_X2_mayBe_2 : ∀ w ∈ u_ws RX2 TX2 3, w ∈ wsX2_mayBe := fun w h => (gl_X2_mayBe_X20 w h).1
set_option maxHeartbeats 4000000 in
set_option maxRecDepth 100000 in
theorem c_Pull_mayBe (l : Launch) (D : va_G) (cI cJ cZ cP cS : ClassId) (po : zPool) (d sec : Int32) (u0 : Nat) (ki a_ ta : Int32) (hu_u0 : zPu po u0 ki a_ ta) (hr_u0 : zPr ki a_ ta) : Met l yX2_mayBe wsX2_mayBe ({ frames := 0, cells := 0, slots := 0, locals := 0 }) (va_Pc [.ref u0, .int d, .int sec] (zR D (zKT cI cJ cZ cP cS) po [])) (vp_Si (fun r => (r = 0 ∧ d.toInt < 1) ∨ (r = 0 ∧ 1 ≤ d.toInt ∧ sec.toInt < ta.toInt) ∨ (r = 1 ∧ 1 ≤ d.toInt ∧ ta.toInt ≤ sec.toInt))) 0 0 (fun _ => False) := by
  refine Met.ofW (cc := cX2_mayBe) (maxL := 3) (ret := (some .boolean)) (by decide) rfl ?_
  intro p e s m args below meth c s₁ B hml hv
  obtain ⟨rfl, hP, hK, hN, hZ⟩ := hv
  have hx := B.exec
  have hb := B.bytes
  have hr := B.returns
  have hts := atoms_spec (ws := wsX2_mayBe) B.pre
  have hown : s.vm.findClass RX2 = some m.cls := findClass_of_methodNamed B.named
  have hlocks := B.notSynchronized
  have hl := lv_entry ([.ref u0, .int d, .int sec]) (n := 3) (Nat.le_of_ble_eq_true rfl)
  rw [lg_entry_eq]
  generalize (lg_sl ([.ref u0, .int d, .int sec]) ++ List.replicate (3 - (lg_sl ([.ref u0, .int d, .int sec])).length) Slot.unset).toArray = ls at hl ⊢
  replace hl : lv_has ls 3 [(0, .ref u0), (1, .int d), (2, .int sec)] := hl
  obtain ⟨⟨p1_u0, p2_u0⟩, ⟨p3_u0, p4_u0⟩, p5_u0, p6_u0⟩ := id hr_u0
  refine lv_iload_n hx hb dX2_mayBe_0 rfl (lv_at hl 1 rfl) ?_
  refine lv_iconst (v := 1) hx hb dX2_mayBe_1 (by decide) ?_
  refine lv_icmp_lt (tgt := 17) hx hb dX2_mayBe_2 (by decide) (fun c_1 => ?_) (fun c_1 => ?_)
  · have fc_1 : d.toInt < 1 := zf_lt c_1 rfl (by decide)
    refine lv_iconst (v := 0) hx hb dX2_mayBe_17 (by decide) ?_
    exact W.zret (v := 0) hx hb hr (by decide) (fun t ht hW => ⟨0, rfl, Or.inl (⟨rfl, (by first | omega | decide)⟩), ht⟩) (fun q hq => by cases hq) dX2_mayBe_18
  · have fc_1 : 1 ≤ d.toInt := zf_nlt c_1 rfl (by decide)
    refine lv_iload_n hx hb dX2_mayBe_5 rfl (lv_at hl 2 rfl) ?_
    refine lv_aload_n hx hb dX2_mayBe_6 rfl (lv_at hl 0 rfl) ?_
    refine va_get (D := D) (ci := 2) (v := .int ta) (C := RX2) (T := TX2) (N := 3) hx hb hts hi_X2_mayBe_2 hown hK (zPu_P hZ hu_u0) 0 rfl rfl 2 (by decide) (hts (.fieldLink RX2 18 "TheLiningsInIt$Pull" "takes" "I") (List.mem_of_getElem? (i := 1) rfl)) (fun _ h9 => h9) rfl dX2_mayBe_7 ?_
    refine lv_icmp_lt (tgt := 17) hx hb dX2_mayBe_10 (by decide) (fun c_2 => ?_) (fun c_2 => ?_)
    · have fc_2 : sec.toInt < ta.toInt := zf_lt c_2 rfl rfl
      refine lv_iconst (v := 0) hx hb dX2_mayBe_17 (by decide) ?_
      exact W.zret (v := 0) hx hb hr (by decide) (fun t ht hW => ⟨0, rfl, Or.inr (Or.inl (⟨rfl, (by first | omega | decide), (by first | omega | decide)⟩)), ht⟩) (fun q hq => by cases hq) dX2_mayBe_18
    · have fc_2 : ta.toInt ≤ sec.toInt := zf_nlt c_2 rfl rfl
      refine lv_iconst (v := 1) hx hb dX2_mayBe_13 (by decide) ?_
      refine lv_goto (tgt := 18) hx hb dX2_mayBe_14 (by decide) ?_
      exact W.zret (v := 1) hx hb hr (by decide) (fun t ht hW => ⟨1, rfl, Or.inr (Or.inr (⟨rfl, (by first | omega | decide), (by first | omega | decide)⟩)), ht⟩) (fun q hq => by cases hq) dX2_mayBe_18
theorem gl_X2_step_X20 : GoodIn wsX2_step wsX20 := (dg_t (dg_t (dg_t gw_wsX20)))
theorem hi_X2_step_2 : ∀ w ∈ u_ws RX2 TX2 3, w ∈ wsX2_step := fun w h => (gl_X2_step_X20 w h).1
set_option maxHeartbeats 4000000 in
set_option maxRecDepth 100000 in
theorem c_Pull_step (l : Launch) (D : va_G) (cI cJ cZ cP cS : ClassId) (po : zPool)  (u0 : Nat) (ki a_ ta : Int32) (hu_u0 : zPu po u0 ki a_ ta) (hr_u0 : zPr ki a_ ta) : Met l yX2_step wsX2_step ({ frames := 0, cells := 0, slots := 0, locals := 0 }) (va_Pc [.ref u0] (zR D (zKT cI cJ cZ cP cS) po [])) (vp_Si (fun r => 1 ≤ r.toInt ∧ r.toInt ≤ 5)) 0 0 (fun _ => False) := by
  refine Met.ofW (cc := cX2_step) (maxL := 1) (ret := (some .int)) (by decide) rfl ?_
  intro p e s m args below meth c s₁ B hml hv
  obtain ⟨rfl, hP, hK, hN, hZ⟩ := hv
  have hx := B.exec
  have hb := B.bytes
  have hr := B.returns
  have hts := atoms_spec (ws := wsX2_step) B.pre
  have hown : s.vm.findClass RX2 = some m.cls := findClass_of_methodNamed B.named
  have hlocks := B.notSynchronized
  have hl := lv_entry ([.ref u0]) (n := 1) (Nat.le_of_ble_eq_true rfl)
  rw [lg_entry_eq]
  generalize (lg_sl ([.ref u0]) ++ List.replicate (1 - (lg_sl ([.ref u0])).length) Slot.unset).toArray = ls at hl ⊢
  replace hl : lv_has ls 1 [(0, .ref u0)] := hl
  obtain ⟨⟨p1_u0, p2_u0⟩, ⟨p3_u0, p4_u0⟩, p5_u0, p6_u0⟩ := id hr_u0
  refine lv_aload_n hx hb dX2_step_0 rfl (lv_at hl 0 rfl) ?_
  refine va_get (D := D) (ci := 2) (v := .int ki) (C := RX2) (T := TX2) (N := 3) hx hb hts hi_X2_step_2 hown hK (zPu_P hZ hu_u0) 0 rfl rfl 0 (by decide) (hts (.fieldLink RX2 9 "TheLiningsInIt$Pull" "kind" "I") (List.mem_of_getElem? (i := 1) rfl)) (fun _ h9 => h9) rfl dX2_step_1 ?_
  have hsp : ki = 0 ∨ ki = 1 ∨ ki = 2 ∨ ki = 3 ∨ ki = 4 ∨ ki = 5 ∨ ki = 6 := by
    rcases (show ki.toInt = 0 ∨ ki.toInt = 1 ∨ ki.toInt = 2 ∨ ki.toInt = 3 ∨ ki.toInt = 4 ∨ ki.toInt = 5 ∨ ki.toInt = 6 by omega) with h9 | h9 | h9 | h9 | h9 | h9 | h9
    · refine Or.inl ?_; exact zf_val h9 (by decide)
    · refine Or.inr (Or.inl ?_); exact zf_val h9 (by decide)
    · refine Or.inr (Or.inr (Or.inl ?_)); exact zf_val h9 (by decide)
    · refine Or.inr (Or.inr (Or.inr (Or.inl ?_))); exact zf_val h9 (by decide)
    · refine Or.inr (Or.inr (Or.inr (Or.inr (Or.inl ?_)))); exact zf_val h9 (by decide)
    · refine Or.inr (Or.inr (Or.inr (Or.inr (Or.inr (Or.inl ?_))))); exact zf_val h9 (by decide)
    · refine Or.inr (Or.inr (Or.inr (Or.inr (Or.inr (Or.inr (?_)))))); exact zf_val h9 (by decide)
  rcases hsp with rfl | rfl | rfl | rfl | rfl | rfl | rfl
  · have kc0 : (0 : Int32).toInt = 0 := by decide
    refine lv_tableOut (tgt := 53) hx hb dX2_step_4 (by decide) (by decide) ?_
    refine lv_iconst (v := 1) hx hb dX2_step_53 (by decide) ?_
    exact W.iret (v := 1) hx hb hr (fun t ht hW => ⟨1, rfl, ⟨by decide, by decide⟩, ht⟩) (fun q hq => by cases hq) dX2_step_54
  · have kc1 : (1 : Int32).toInt = 1 := by decide
    refine lv_tableOut (tgt := 53) hx hb dX2_step_4 (by decide) (by decide) ?_
    refine lv_iconst (v := 1) hx hb dX2_step_53 (by decide) ?_
    exact W.iret (v := 1) hx hb hr (fun t ht hW => ⟨1, rfl, ⟨by decide, by decide⟩, ht⟩) (fun q hq => by cases hq) dX2_step_54
  · have kc2 : (2 : Int32).toInt = 2 := by decide
    refine lv_tableIn (tgt := 40) hx hb dX2_step_4 (by decide) (by decide) rfl (by decide) ?_
    refine lv_iconst (v := 2) hx hb dX2_step_40 (by decide) ?_
    refine lv_aload_n hx hb dX2_step_41 rfl (lv_at hl 0 rfl) ?_
    refine va_get (D := D) (ci := 2) (v := .int a_) (C := RX2) (T := TX2) (N := 3) hx hb hts hi_X2_step_2 hown hK (zPu_P hZ hu_u0) 0 rfl rfl 1 (by decide) (hts (.fieldLink RX2 15 "TheLiningsInIt$Pull" "a" "I") (List.mem_of_getElem? (i := 2) rfl)) (fun _ h9 => h9) rfl dX2_step_42 ?_
    refine lv_iconst (v := 3) hx hb dX2_step_45 (by decide) ?_
    refine lv_idiv hx hb dX2_step_46 (by decide) ?_
    refine lv_topi (fun x_1 ex_1 => ?_)
    have qx_1 : x_1.toInt = a_.toInt / 3 := by rw [ex_1]; exact zf_div rfl (by decide) (by omega) (by omega)
    refine lv_iadd hx hb dX2_step_47 ?_
    refine lv_topi (fun x_2 ex_2 => ?_)
    have qx_2 : x_2.toInt = 2 + x_1.toInt := by rw [ex_2]; exact zf_add (by decide) rfl (by omega) (by omega)
    exact W.iret (v := x_2) hx hb hr (fun t ht hW => ⟨x_2, rfl, ⟨by omega, by omega⟩, ht⟩) (fun q hq => by cases hq) dX2_step_48
  · have kc3 : (3 : Int32).toInt = 3 := by decide
    refine lv_tableIn (tgt := 53) hx hb dX2_step_4 (by decide) (by decide) rfl (by decide) ?_
    refine lv_iconst (v := 1) hx hb dX2_step_53 (by decide) ?_
    exact W.iret (v := 1) hx hb hr (fun t ht hW => ⟨1, rfl, ⟨by decide, by decide⟩, ht⟩) (fun q hq => by cases hq) dX2_step_54
  · have kc4 : (4 : Int32).toInt = 4 := by decide
    refine lv_tableIn (tgt := 49) hx hb dX2_step_4 (by decide) (by decide) rfl (by decide) ?_
    refine lv_iconst (v := 2) hx hb dX2_step_49 (by decide) ?_
    exact W.iret (v := 2) hx hb hr (fun t ht hW => ⟨2, rfl, ⟨by decide, by decide⟩, ht⟩) (fun q hq => by cases hq) dX2_step_50
  · have kc5 : (5 : Int32).toInt = 5 := by decide
    refine lv_tableIn (tgt := 51) hx hb dX2_step_4 (by decide) (by decide) rfl (by decide) ?_
    refine lv_iconst (v := 4) hx hb dX2_step_51 (by decide) ?_
    exact W.iret (v := 4) hx hb hr (fun t ht hW => ⟨4, rfl, ⟨by decide, by decide⟩, ht⟩) (fun q hq => by cases hq) dX2_step_52
  · have kc6 : (6 : Int32).toInt = 6 := by decide
    refine lv_tableIn (tgt := 49) hx hb dX2_step_4 (by decide) (by decide) rfl (by decide) ?_
    refine lv_iconst (v := 2) hx hb dX2_step_49 (by decide) ?_
    exact W.iret (v := 2) hx hb hr (fun t ht hW => ⟨2, rfl, ⟨by decide, by decide⟩, ht⟩) (fun q hq => by cases hq) dX2_step_50
theorem gl_X2_calmWaysAt_X20 : GoodIn wsX2_calmWaysAt wsX20 := (dg_t (dg_t (dg_t gw_wsX20)))
theorem hi_X2_calmWaysAt_2 : ∀ w ∈ u_ws RX2 TX2 3, w ∈ wsX2_calmWaysAt := fun w h => (gl_X2_calmWaysAt_X20 w h).1
set_option maxHeartbeats 4000000 in
set_option maxRecDepth 100000 in
theorem c_Pull_calm (l : Launch) (D : va_G) (cI cJ cZ cP cS : ClassId) (po : zPool) (d : Int32) (u0 : Nat) (ki a_ ta : Int32) (hu_u0 : zPu po u0 ki a_ ta) (hr_u0 : zPr ki a_ ta) (hy2 : 0 ≤ d.toInt) (hy3 : d.toInt ≤ 24) : Met l yX2_calmWaysAt wsX2_calmWaysAt ({ frames := 0, cells := 0, slots := 0, locals := 0 }) (va_Pc [.ref u0, .int d] (zR D (zKT cI cJ cZ cP cS) po [])) (vp_Si (fun r => 0 ≤ r.toInt ∧ r.toInt ≤ 12)) 0 0 (fun _ => False) := by
  refine Met.ofW (cc := cX2_calmWaysAt) (maxL := 2) (ret := (some .int)) (by decide) rfl ?_
  intro p e s m args below meth c s₁ B hml hv
  obtain ⟨rfl, hP, hK, hN, hZ⟩ := hv
  have hx := B.exec
  have hb := B.bytes
  have hr := B.returns
  have hts := atoms_spec (ws := wsX2_calmWaysAt) B.pre
  have hown : s.vm.findClass RX2 = some m.cls := findClass_of_methodNamed B.named
  have hlocks := B.notSynchronized
  have hl := lv_entry ([.ref u0, .int d]) (n := 2) (Nat.le_of_ble_eq_true rfl)
  rw [lg_entry_eq]
  generalize (lg_sl ([.ref u0, .int d]) ++ List.replicate (2 - (lg_sl ([.ref u0, .int d])).length) Slot.unset).toArray = ls at hl ⊢
  replace hl : lv_has ls 2 [(0, .ref u0), (1, .int d)] := hl
  obtain ⟨⟨p1_u0, p2_u0⟩, ⟨p3_u0, p4_u0⟩, p5_u0, p6_u0⟩ := id hr_u0
  refine lv_aload_n hx hb dX2_calmWaysAt_0 rfl (lv_at hl 0 rfl) ?_
  refine va_get (D := D) (ci := 2) (v := .int ki) (C := RX2) (T := TX2) (N := 3) hx hb hts hi_X2_calmWaysAt_2 hown hK (zPu_P hZ hu_u0) 0 rfl rfl 0 (by decide) (hts (.fieldLink RX2 9 "TheLiningsInIt$Pull" "kind" "I") (List.mem_of_getElem? (i := 1) rfl)) (fun _ h9 => h9) rfl dX2_calmWaysAt_1 ?_
  have hsp : ki = 0 ∨ ki = 1 ∨ ki = 2 ∨ ki = 3 ∨ ki = 4 ∨ ki = 5 ∨ ki = 6 := by
    rcases (show ki.toInt = 0 ∨ ki.toInt = 1 ∨ ki.toInt = 2 ∨ ki.toInt = 3 ∨ ki.toInt = 4 ∨ ki.toInt = 5 ∨ ki.toInt = 6 by omega) with h9 | h9 | h9 | h9 | h9 | h9 | h9
    · refine Or.inl ?_; exact zf_val h9 (by decide)
    · refine Or.inr (Or.inl ?_); exact zf_val h9 (by decide)
    · refine Or.inr (Or.inr (Or.inl ?_)); exact zf_val h9 (by decide)
    · refine Or.inr (Or.inr (Or.inr (Or.inl ?_))); exact zf_val h9 (by decide)
    · refine Or.inr (Or.inr (Or.inr (Or.inr (Or.inl ?_)))); exact zf_val h9 (by decide)
    · refine Or.inr (Or.inr (Or.inr (Or.inr (Or.inr (Or.inl ?_))))); exact zf_val h9 (by decide)
    · refine Or.inr (Or.inr (Or.inr (Or.inr (Or.inr (Or.inr (?_)))))); exact zf_val h9 (by decide)
  rcases hsp with rfl | rfl | rfl | rfl | rfl | rfl | rfl
  · have kc0 : (0 : Int32).toInt = 0 := by decide
    refine lv_tableOut (tgt := 95) hx hb dX2_calmWaysAt_4 (by decide) (by decide) ?_
    refine lv_bipush (v := 6) hx hb dX2_calmWaysAt_95 (by decide) ?_
    refine lv_iload_n hx hb dX2_calmWaysAt_97 rfl (lv_at hl 1 rfl) ?_
    refine lv_iconst (v := 4) hx hb dX2_calmWaysAt_98 (by decide) ?_
    refine lv_idiv hx hb dX2_calmWaysAt_99 (by decide) ?_
    refine lv_topi (fun x_1 ex_1 => ?_)
    have qx_1 : x_1.toInt = d.toInt / 4 := by rw [ex_1]; exact zf_div rfl (by decide) (by omega) (by omega)
    refine lv_isub hx hb dX2_calmWaysAt_100 ?_
    refine lv_topi (fun x_2 ex_2 => ?_)
    have qx_2 : x_2.toInt = 6 - x_1.toInt := by rw [ex_2]; exact zf_sub (by decide) rfl (by omega) (by omega)
    exact W.iret (v := x_2) hx hb hr (fun t ht hW => ⟨x_2, rfl, ⟨by omega, by omega⟩, ht⟩) (fun q hq => by cases hq) dX2_calmWaysAt_101
  · have kc1 : (1 : Int32).toInt = 1 := by decide
    refine lv_tableIn (tgt := 44) hx hb dX2_calmWaysAt_4 (by decide) (by decide) rfl (by decide) ?_
    refine lv_bipush (v := 8) hx hb dX2_calmWaysAt_44 (by decide) ?_
    refine lv_iload_n hx hb dX2_calmWaysAt_46 rfl (lv_at hl 1 rfl) ?_
    refine lv_iconst (v := 4) hx hb dX2_calmWaysAt_47 (by decide) ?_
    refine lv_idiv hx hb dX2_calmWaysAt_48 (by decide) ?_
    refine lv_topi (fun x_3 ex_3 => ?_)
    have qx_3 : x_3.toInt = d.toInt / 4 := by rw [ex_3]; exact zf_div rfl (by decide) (by omega) (by omega)
    refine lv_isub hx hb dX2_calmWaysAt_49 ?_
    refine lv_topi (fun x_4 ex_4 => ?_)
    have qx_4 : x_4.toInt = 8 - x_3.toInt := by rw [ex_4]; exact zf_sub (by decide) rfl (by omega) (by omega)
    exact W.iret (v := x_4) hx hb hr (fun t ht hW => ⟨x_4, rfl, ⟨by omega, by omega⟩, ht⟩) (fun q hq => by cases hq) dX2_calmWaysAt_50
  · have kc2 : (2 : Int32).toInt = 2 := by decide
    refine lv_tableIn (tgt := 65) hx hb dX2_calmWaysAt_4 (by decide) (by decide) rfl (by decide) ?_
    refine lv_bipush (v := 6) hx hb dX2_calmWaysAt_65 (by decide) ?_
    refine lv_iload_n hx hb dX2_calmWaysAt_67 rfl (lv_at hl 1 rfl) ?_
    refine lv_iconst (v := 4) hx hb dX2_calmWaysAt_68 (by decide) ?_
    refine lv_idiv hx hb dX2_calmWaysAt_69 (by decide) ?_
    refine lv_topi (fun x_5 ex_5 => ?_)
    have qx_5 : x_5.toInt = d.toInt / 4 := by rw [ex_5]; exact zf_div rfl (by decide) (by omega) (by omega)
    refine lv_isub hx hb dX2_calmWaysAt_70 ?_
    refine lv_topi (fun x_6 ex_6 => ?_)
    have qx_6 : x_6.toInt = 6 - x_5.toInt := by rw [ex_6]; exact zf_sub (by decide) rfl (by omega) (by omega)
    refine lv_aload_n hx hb dX2_calmWaysAt_71 rfl (lv_at hl 0 rfl) ?_
    refine va_get (D := D) (ci := 2) (v := .int a_) (C := RX2) (T := TX2) (N := 3) hx hb hts hi_X2_calmWaysAt_2 hown hK (zPu_P hZ hu_u0) 0 rfl rfl 1 (by decide) (hts (.fieldLink RX2 15 "TheLiningsInIt$Pull" "a" "I") (List.mem_of_getElem? (i := 2) rfl)) (fun _ h9 => h9) rfl dX2_calmWaysAt_72 ?_
    refine lv_iconst (v := 3) hx hb dX2_calmWaysAt_75 (by decide) ?_
    refine lv_idiv hx hb dX2_calmWaysAt_76 (by decide) ?_
    refine lv_topi (fun x_7 ex_7 => ?_)
    have qx_7 : x_7.toInt = a_.toInt / 3 := by rw [ex_7]; exact zf_div rfl (by decide) (by omega) (by omega)
    refine lv_iadd hx hb dX2_calmWaysAt_77 ?_
    refine lv_topi (fun x_8 ex_8 => ?_)
    have qx_8 : x_8.toInt = x_6.toInt + x_7.toInt := by rw [ex_8]; exact zf_add rfl rfl (by omega) (by omega)
    exact W.iret (v := x_8) hx hb hr (fun t ht hW => ⟨x_8, rfl, ⟨by omega, by omega⟩, ht⟩) (fun q hq => by cases hq) dX2_calmWaysAt_78
  · have kc3 : (3 : Int32).toInt = 3 := by decide
    refine lv_tableIn (tgt := 51) hx hb dX2_calmWaysAt_4 (by decide) (by decide) rfl (by decide) ?_
    refine lv_bipush (v := 8) hx hb dX2_calmWaysAt_51 (by decide) ?_
    refine lv_iload_n hx hb dX2_calmWaysAt_53 rfl (lv_at hl 1 rfl) ?_
    refine lv_iconst (v := 4) hx hb dX2_calmWaysAt_54 (by decide) ?_
    refine lv_idiv hx hb dX2_calmWaysAt_55 (by decide) ?_
    refine lv_topi (fun x_9 ex_9 => ?_)
    have qx_9 : x_9.toInt = d.toInt / 4 := by rw [ex_9]; exact zf_div rfl (by decide) (by omega) (by omega)
    refine lv_isub hx hb dX2_calmWaysAt_56 ?_
    refine lv_topi (fun x_10 ex_10 => ?_)
    have qx_10 : x_10.toInt = 8 - x_9.toInt := by rw [ex_10]; exact zf_sub (by decide) rfl (by omega) (by omega)
    refine lv_aload_n hx hb dX2_calmWaysAt_57 rfl (lv_at hl 0 rfl) ?_
    refine va_get (D := D) (ci := 2) (v := .int a_) (C := RX2) (T := TX2) (N := 3) hx hb hts hi_X2_calmWaysAt_2 hown hK (zPu_P hZ hu_u0) 0 rfl rfl 1 (by decide) (hts (.fieldLink RX2 15 "TheLiningsInIt$Pull" "a" "I") (List.mem_of_getElem? (i := 2) rfl)) (fun _ h9 => h9) rfl dX2_calmWaysAt_58 ?_
    refine lv_iconst (v := 2) hx hb dX2_calmWaysAt_61 (by decide) ?_
    refine lv_idiv hx hb dX2_calmWaysAt_62 (by decide) ?_
    refine lv_topi (fun x_11 ex_11 => ?_)
    have qx_11 : x_11.toInt = a_.toInt / 2 := by rw [ex_11]; exact zf_div rfl (by decide) (by omega) (by omega)
    refine lv_iadd hx hb dX2_calmWaysAt_63 ?_
    refine lv_topi (fun x_12 ex_12 => ?_)
    have qx_12 : x_12.toInt = x_10.toInt + x_11.toInt := by rw [ex_12]; exact zf_add rfl rfl (by omega) (by omega)
    exact W.iret (v := x_12) hx hb hr (fun t ht hW => ⟨x_12, rfl, ⟨by omega, by omega⟩, ht⟩) (fun q hq => by cases hq) dX2_calmWaysAt_64
  · have kc4 : (4 : Int32).toInt = 4 := by decide
    refine lv_tableIn (tgt := 79) hx hb dX2_calmWaysAt_4 (by decide) (by decide) rfl (by decide) ?_
    refine lv_bipush (v := 8) hx hb dX2_calmWaysAt_79 (by decide) ?_
    refine lv_iload_n hx hb dX2_calmWaysAt_81 rfl (lv_at hl 1 rfl) ?_
    refine lv_bipush (v := 6) hx hb dX2_calmWaysAt_82 (by decide) ?_
    refine lv_idiv hx hb dX2_calmWaysAt_84 (by decide) ?_
    refine lv_topi (fun x_13 ex_13 => ?_)
    have qx_13 : x_13.toInt = d.toInt / 6 := by rw [ex_13]; exact zf_div rfl (by decide) (by omega) (by omega)
    refine lv_isub hx hb dX2_calmWaysAt_85 ?_
    refine lv_topi (fun x_14 ex_14 => ?_)
    have qx_14 : x_14.toInt = 8 - x_13.toInt := by rw [ex_14]; exact zf_sub (by decide) rfl (by omega) (by omega)
    exact W.iret (v := x_14) hx hb hr (fun t ht hW => ⟨x_14, rfl, ⟨by omega, by omega⟩, ht⟩) (fun q hq => by cases hq) dX2_calmWaysAt_86
  · have kc5 : (5 : Int32).toInt = 5 := by decide
    refine lv_tableIn (tgt := 95) hx hb dX2_calmWaysAt_4 (by decide) (by decide) rfl (by decide) ?_
    refine lv_bipush (v := 6) hx hb dX2_calmWaysAt_95 (by decide) ?_
    refine lv_iload_n hx hb dX2_calmWaysAt_97 rfl (lv_at hl 1 rfl) ?_
    refine lv_iconst (v := 4) hx hb dX2_calmWaysAt_98 (by decide) ?_
    refine lv_idiv hx hb dX2_calmWaysAt_99 (by decide) ?_
    refine lv_topi (fun x_15 ex_15 => ?_)
    have qx_15 : x_15.toInt = d.toInt / 4 := by rw [ex_15]; exact zf_div rfl (by decide) (by omega) (by omega)
    refine lv_isub hx hb dX2_calmWaysAt_100 ?_
    refine lv_topi (fun x_16 ex_16 => ?_)
    have qx_16 : x_16.toInt = 6 - x_15.toInt := by rw [ex_16]; exact zf_sub (by decide) rfl (by omega) (by omega)
    exact W.iret (v := x_16) hx hb hr (fun t ht hW => ⟨x_16, rfl, ⟨by omega, by omega⟩, ht⟩) (fun q hq => by cases hq) dX2_calmWaysAt_101
  · have kc6 : (6 : Int32).toInt = 6 := by decide
    refine lv_tableIn (tgt := 87) hx hb dX2_calmWaysAt_4 (by decide) (by decide) rfl (by decide) ?_
    refine lv_bipush (v := 10) hx hb dX2_calmWaysAt_87 (by decide) ?_
    refine lv_iload_n hx hb dX2_calmWaysAt_89 rfl (lv_at hl 1 rfl) ?_
    refine lv_bipush (v := 6) hx hb dX2_calmWaysAt_90 (by decide) ?_
    refine lv_idiv hx hb dX2_calmWaysAt_92 (by decide) ?_
    refine lv_topi (fun x_17 ex_17 => ?_)
    have qx_17 : x_17.toInt = d.toInt / 6 := by rw [ex_17]; exact zf_div rfl (by decide) (by omega) (by omega)
    refine lv_isub hx hb dX2_calmWaysAt_93 ?_
    refine lv_topi (fun x_18 ex_18 => ?_)
    have qx_18 : x_18.toInt = 10 - x_17.toInt := by rw [ex_18]; exact zf_sub (by decide) rfl (by omega) (by omega)
    exact W.iret (v := x_18) hx hb hr (fun t ht hW => ⟨x_18, rfl, ⟨by omega, by omega⟩, ht⟩) (fun q hq => by cases hq) dX2_calmWaysAt_94
theorem hi_X2_waysAt_2 : ∀ w ∈ u_ws RX2 TX2 3, w ∈ wsX2_waysAt := fun w h => (gl_X2_waysAt_X20 w h).1
set_option maxHeartbeats 4000000 in
set_option maxRecDepth 100000 in
theorem c_Pull_waysAt (l : Launch) (D : va_G) (cI cJ cZ cP cS : ClassId) (po : zPool) (d h : Int32) (u0 : Nat) (ki a_ ta : Int32) (hu_u0 : zPu po u0 ki a_ ta) (hr_u0 : zPr ki a_ ta) (hy2 : 0 ≤ d.toInt) (hy3 : d.toInt ≤ 24) (hy4 : 0 ≤ h.toInt) (hy5 : h.toInt ≤ 9) : Met l yX2_waysAt wsX2_waysAt ({ frames := 1, cells := 0, slots := 0, locals := 21 }) (va_Pc [.ref u0, .int d, .int h] (zR D (zKT cI cJ cZ cP cS) po [])) (vp_Si (fun r => 0 ≤ r.toInt ∧ r.toInt ≤ 12)) 0 0 (fun _ => False) := by
  refine Met.ofW (cc := cX2_waysAt) (maxL := 3) (ret := (some .int)) (by decide) rfl ?_
  intro p e s m args below meth c s₁ B hml hv
  obtain ⟨rfl, hP, hK, hN, hZ⟩ := hv
  have hx := B.exec
  have hb := B.bytes
  have hr := B.returns
  have hts := atoms_spec (ws := wsX2_waysAt) B.pre
  have hown : s.vm.findClass RX2 = some m.cls := findClass_of_methodNamed B.named
  have hlocks := B.notSynchronized
  have hl := lv_entry ([.ref u0, .int d, .int h]) (n := 3) (Nat.le_of_ble_eq_true rfl)
  rw [lg_entry_eq]
  generalize (lg_sl ([.ref u0, .int d, .int h]) ++ List.replicate (3 - (lg_sl ([.ref u0, .int d, .int h])).length) Slot.unset).toArray = ls at hl ⊢
  replace hl : lv_has ls 3 [(0, .ref u0), (1, .int d), (2, .int h)] := hl
  obtain ⟨⟨p1_u0, p2_u0⟩, ⟨p3_u0, p4_u0⟩, p5_u0, p6_u0⟩ := id hr_u0
  refine lv_aload_n hx hb dX2_waysAt_0 rfl (lv_at hl 0 rfl) ?_
  refine va_get (D := D) (ci := 2) (v := .int ki) (C := RX2) (T := TX2) (N := 3) hx hb hts hi_X2_waysAt_2 hown hK (zPu_P hZ hu_u0) 0 rfl rfl 0 (by decide) (hts (.fieldLink RX2 9 "TheLiningsInIt$Pull" "kind" "I") (List.mem_of_getElem? (i := 1) rfl)) (fun _ h9 => h9) rfl dX2_waysAt_1 ?_
  refine lv_iconst (v := 5) hx hb dX2_waysAt_4 (by decide) ?_
  refine lv_icmp_ne (tgt := 11) hx hb dX2_waysAt_5 (by decide) (fun c_1 => ?_) (fun c_1 => ?_)
  · have fc_1 : ki.toInt ≠ 5 := zf_ne c_1 rfl (by decide)
    refine lv_iconst (v := 0) hx hb dX2_waysAt_11 (by decide) ?_
    refine lv_bipush (v := 12) hx hb dX2_waysAt_12 (by decide) ?_
    refine lv_aload_n hx hb dX2_waysAt_14 rfl (lv_at hl 0 rfl) ?_
    refine lv_iload_n hx hb dX2_waysAt_15 rfl (lv_at hl 1 rfl) ?_
    refine zc_V (As := [.int d]) (rest := [.int 12, .int 0]) ⟨hx, hb, hml, hown, hts⟩ (c_Pull_calm l D cI cJ cZ cP cS po (d) u0 (ki) (a_) (ta) hu_u0 ⟨by omega, by omega, by omega, by omega⟩ hy2 hy3) (cwV 1 hts gX2_waysAt_X2_calmWaysAt rfl rfl rfl ⟨rfl, dh_X2_calmWaysAt⟩ ⟨Nat.le_of_ble_eq_true rfl, Nat.le_of_ble_eq_true rfl⟩) hK hN hZ hP zP_nil (va_recv (q := (RX2, TX2, 3)) hK (zPu_P hZ hu_u0) (ci := 2) (q0 := 0) rfl rfl) rfl hl.1 rfl (Nat.le_of_ble_eq_true rfl) dX2_waysAt_16 ⟨Nat.le_of_ble_eq_true rfl, Nat.le_of_ble_eq_true rfl⟩ (fun r_2 hr_2 => ?_)
    obtain ⟨g_3, g_4⟩ := hr_2
    refine lv_iload_n hx hb dX2_waysAt_19 rfl (lv_at hl 2 rfl) ?_
    refine lv_iconst (v := 3) hx hb dX2_waysAt_20 (by decide) ?_
    refine lv_idiv hx hb dX2_waysAt_21 (by decide) ?_
    refine lv_topi (fun x_5 ex_5 => ?_)
    have qx_5 : x_5.toInt = h.toInt / 3 := by rw [ex_5]; exact zf_div rfl (by decide) (by omega) (by omega)
    refine lv_isub hx hb dX2_waysAt_22 ?_
    refine lv_topi (fun x_6 ex_6 => ?_)
    have qx_6 : x_6.toInt = r_2.toInt - x_5.toInt := by rw [ex_6]; exact zf_sub rfl rfl (by omega) (by omega)
    refine va_mmin hx hb (hml.trans hl.1.symm) hown (hts (.methodLink RX2 33 Lib.Math.min.name) (List.mem_of_getElem? (i := 2) rfl)) (hts _ (List.mem_of_getElem? (i := 3) rfl)) (hts _ (List.mem_of_getElem? (i := 4) rfl)) (hts _ (List.mem_of_getElem? (i := 5) rfl)) (Nat.le_of_ble_eq_true rfl) (Nat.le_of_ble_eq_true rfl) (Nat.le_of_ble_eq_true rfl) (Nat.le_of_ble_eq_true rfl) dX2_waysAt_23 ?_
    refine lv_topi (fun x_7 ex_7 => ?_)
    have qx_7 := zf_min ex_7 (x1 := 12) (y1 := x_6.toInt) (by decide) rfl
    refine va_mmax hx hb (hml.trans hl.1.symm) hown (hts (.methodLink RX2 39 Lib.Math.max.name) (List.mem_of_getElem? (i := 6) rfl)) (hts _ (List.mem_of_getElem? (i := 7) rfl)) (hts _ (List.mem_of_getElem? (i := 4) rfl)) (hts _ (List.mem_of_getElem? (i := 8) rfl)) (Nat.le_of_ble_eq_true rfl) (Nat.le_of_ble_eq_true rfl) (Nat.le_of_ble_eq_true rfl) (Nat.le_of_ble_eq_true rfl) dX2_waysAt_26 ?_
    refine lv_topi (fun x_8 ex_8 => ?_)
    have qx_8 := zf_max ex_8 (x1 := 0) (y1 := x_7.toInt) (by decide) rfl
    exact W.iret (v := x_8) hx hb hr (fun t ht hW => ⟨x_8, rfl, ⟨by omega, by omega⟩, ht⟩) (fun q hq => by cases hq) dX2_waysAt_29
  · have fc_1 : ki.toInt = 5 := zf_eq c_1 rfl (by decide)
    refine lv_bipush (v := 12) hx hb dX2_waysAt_8 (by decide) ?_
    exact W.iret (v := 12) hx hb hr (fun t ht hW => ⟨12, rfl, ⟨by decide, by decide⟩, ht⟩) (fun q hq => by cases hq) dX2_waysAt_10
set_option maxHeartbeats 4000000 in
set_option maxRecDepth 100000 in
theorem c_Pull_shallower (l : Launch) (D : va_G) (cI cJ cZ cP cS : ClassId) (po : zPool) (d : Int32) (u0 : Nat) (ki a_ ta : Int32) (hu_u0 : zPu po u0 ki a_ ta) (hr_u0 : zPr ki a_ ta) (hy2 : 0 ≤ d.toInt) (hy3 : d.toInt ≤ 24) : Met l yX2_shallower wsX2_shallower ({ frames := 1, cells := 0, slots := 0, locals := 21 }) (va_Pc [.ref u0, .int d] (zR D (zKT cI cJ cZ cP cS) po [])) (vp_Si (fun r => 0 ≤ r.toInt ∧ r.toInt ≤ 24)) 0 0 (fun _ => False) := by
  refine Met.ofW (cc := cX2_shallower) (maxL := 2) (ret := (some .int)) (by decide) rfl ?_
  intro p e s m args below meth c s₁ B hml hv
  obtain ⟨rfl, hP, hK, hN, hZ⟩ := hv
  have hx := B.exec
  have hb := B.bytes
  have hr := B.returns
  have hts := atoms_spec (ws := wsX2_shallower) B.pre
  have hown : s.vm.findClass RX2 = some m.cls := findClass_of_methodNamed B.named
  have hlocks := B.notSynchronized
  have hl := lv_entry ([.ref u0, .int d]) (n := 2) (Nat.le_of_ble_eq_true rfl)
  rw [lg_entry_eq]
  generalize (lg_sl ([.ref u0, .int d]) ++ List.replicate (2 - (lg_sl ([.ref u0, .int d])).length) Slot.unset).toArray = ls at hl ⊢
  replace hl : lv_has ls 2 [(0, .ref u0), (1, .int d)] := hl
  obtain ⟨⟨p1_u0, p2_u0⟩, ⟨p3_u0, p4_u0⟩, p5_u0, p6_u0⟩ := id hr_u0
  refine lv_iconst (v := 0) hx hb dX2_shallower_0 (by decide) ?_
  refine lv_iload_n hx hb dX2_shallower_1 rfl (lv_at hl 1 rfl) ?_
  refine lv_aload_n hx hb dX2_shallower_2 rfl (lv_at hl 0 rfl) ?_
  refine zc_V (As := []) (rest := [.int d, .int 0]) ⟨hx, hb, hml, hown, hts⟩ (c_Pull_step l D cI cJ cZ cP cS po u0 (ki) (a_) (ta) hu_u0 ⟨by omega, by omega, by omega, by omega⟩) (cwV 0 hts gX2_shallower_X2_step rfl rfl rfl ⟨rfl, dh_X2_step⟩ ⟨Nat.le_of_ble_eq_true rfl, Nat.le_of_ble_eq_true rfl⟩) hK hN hZ hP zP_nil (va_recv (q := (RX2, TX2, 3)) hK (zPu_P hZ hu_u0) (ci := 2) (q0 := 0) rfl rfl) rfl hl.1 rfl (Nat.le_of_ble_eq_true rfl) dX2_shallower_3 ⟨Nat.le_of_ble_eq_true rfl, Nat.le_of_ble_eq_true rfl⟩ (fun r_1 hr_1 => ?_)
  obtain ⟨g_2, g_3⟩ := hr_1
  refine lv_isub hx hb dX2_shallower_6 ?_
  refine lv_topi (fun x_4 ex_4 => ?_)
  have qx_4 : x_4.toInt = d.toInt - r_1.toInt := by rw [ex_4]; exact zf_sub rfl rfl (by omega) (by omega)
  refine va_mmax hx hb (hml.trans hl.1.symm) hown (hts (.methodLink RX2 39 Lib.Math.max.name) (List.mem_of_getElem? (i := 1) rfl)) (hts _ (List.mem_of_getElem? (i := 2) rfl)) (hts _ (List.mem_of_getElem? (i := 3) rfl)) (hts _ (List.mem_of_getElem? (i := 4) rfl)) (Nat.le_of_ble_eq_true rfl) (Nat.le_of_ble_eq_true rfl) (Nat.le_of_ble_eq_true rfl) (Nat.le_of_ble_eq_true rfl) dX2_shallower_7 ?_
  refine lv_topi (fun x_5 ex_5 => ?_)
  have qx_5 := zf_max ex_5 (x1 := 0) (y1 := x_4.toInt) (by decide) rfl
  exact W.iret (v := x_5) hx hb hr (fun t ht hW => ⟨x_5, rfl, ⟨by omega, by omega⟩, ht⟩) (fun q hq => by cases hq) dX2_shallower_10
theorem gl_X2_deeper_X20 : GoodIn wsX2_deeper wsX20 := (dg_t (dg_t (dg_t (dg_t (dg_t (dg_t (dg_t gw_wsX20)))))))
theorem hi_X2_deeper_2 : ∀ w ∈ u_ws RX2 TX2 3, w ∈ wsX2_deeper := fun w h => (gl_X2_deeper_X20 w h).1
set_option maxHeartbeats 4000000 in
set_option maxRecDepth 100000 in
theorem c_Pull_deeper (l : Launch) (D : va_G) (cI cJ cZ cP cS : ClassId) (po : zPool) (d h : Int32) (u0 : Nat) (ki a_ ta : Int32) (hu_u0 : zPu po u0 ki a_ ta) (hr_u0 : zPr ki a_ ta) (hy2 : 0 ≤ d.toInt) (hy3 : d.toInt ≤ 24) (hy4 : 0 ≤ h.toInt) (hy5 : h.toInt ≤ 9) : Met l yX2_deeper wsX2_deeper ({ frames := 1, cells := 0, slots := 0, locals := 21 }) (va_Pc [.ref u0, .int d, .int h] (zR D (zKT cI cJ cZ cP cS) po [])) (vp_Si (fun r => 0 ≤ r.toInt ∧ r.toInt ≤ 24)) 0 0 (fun _ => False) := by
  refine Met.ofW (cc := cX2_deeper) (maxL := 4) (ret := (some .int)) (by decide) rfl ?_
  intro p e s m args below meth c s₁ B hml hv
  obtain ⟨rfl, hP, hK, hN, hZ⟩ := hv
  have hx := B.exec
  have hb := B.bytes
  have hr := B.returns
  have hts := atoms_spec (ws := wsX2_deeper) B.pre
  have hown : s.vm.findClass RX2 = some m.cls := findClass_of_methodNamed B.named
  have hlocks := B.notSynchronized
  have hl := lv_entry ([.ref u0, .int d, .int h]) (n := 4) (Nat.le_of_ble_eq_true rfl)
  rw [lg_entry_eq]
  generalize (lg_sl ([.ref u0, .int d, .int h]) ++ List.replicate (4 - (lg_sl ([.ref u0, .int d, .int h])).length) Slot.unset).toArray = ls at hl ⊢
  replace hl : lv_has ls 4 [(0, .ref u0), (1, .int d), (2, .int h)] := hl
  obtain ⟨⟨p1_u0, p2_u0⟩, ⟨p3_u0, p4_u0⟩, p5_u0, p6_u0⟩ := id hr_u0
  refine lv_aload_n hx hb dX2_deeper_0 rfl (lv_at hl 0 rfl) ?_
  refine va_get (D := D) (ci := 2) (v := .int ki) (C := RX2) (T := TX2) (N := 3) hx hb hts hi_X2_deeper_2 hown hK (zPu_P hZ hu_u0) 0 rfl rfl 0 (by decide) (hts (.fieldLink RX2 9 "TheLiningsInIt$Pull" "kind" "I") (List.mem_of_getElem? (i := 1) rfl)) (fun _ h9 => h9) rfl dX2_deeper_1 ?_
  refine lv_iconst (v := 5) hx hb dX2_deeper_4 (by decide) ?_
  refine lv_icmp_ne (tgt := 10) hx hb dX2_deeper_5 (by decide) (fun c_1 => ?_) (fun c_1 => ?_)
  · have fc_1 : ki.toInt ≠ 5 := zf_ne c_1 rfl (by decide)
    refine lv_aload_n hx hb dX2_deeper_10 rfl (lv_at hl 0 rfl) ?_
    refine va_get (D := D) (ci := 2) (v := .int ki) (C := RX2) (T := TX2) (N := 3) hx hb hts hi_X2_deeper_2 hown hK (zPu_P hZ hu_u0) 0 rfl rfl 0 (by decide) (hts (.fieldLink RX2 9 "TheLiningsInIt$Pull" "kind" "I") (List.mem_of_getElem? (i := 1) rfl)) (fun _ h9 => h9) rfl dX2_deeper_11 ?_
    refine lv_iconst (v := 2) hx hb dX2_deeper_14 (by decide) ?_
    refine lv_icmp_ne (tgt := 29) hx hb dX2_deeper_15 (by decide) (fun c_2 => ?_) (fun c_2 => ?_)
    · have fc_2 : ki.toInt ≠ 2 := zf_ne c_2 rfl (by decide)
      refine lv_iconst (v := 0) hx hb dX2_deeper_29 (by decide) ?_
      refine lv_istore_n (lv' := [(3, .int 0), (0, .ref u0), (1, .int d), (2, .int h)]) hx hb dX2_deeper_30 rfl hl (by decide) rfl (fun ls hl => ?_)
      refine lv_iload_n hx hb dX2_deeper_31 rfl (lv_at hl 3 rfl) ?_
      refine lv_bipush (v := 6) hx hb dX2_deeper_32 (by decide) ?_
      refine lv_icmp_lt (tgt := 40) hx hb dX2_deeper_34 (by decide) (fun c_3 => ?_) (fun c_3 => ?_)
      · have fc_3 : h.toInt < 6 := zf_lt c_3 rfl (by decide)
        refine lv_bipush (v := 24) hx hb dX2_deeper_40 (by decide) ?_
        refine lv_iload_n hx hb dX2_deeper_42 rfl (lv_at hl 2 rfl) ?_
        refine lv_iload_n hx hb dX2_deeper_43 rfl (lv_at hl 0 rfl) ?_
        refine lv_iadd hx hb dX2_deeper_44 ?_
        refine lv_topi (fun y_4 ey_4 => ?_)
        obtain rfl : d = y_4 := (ey_4.trans (Int32.add_zero d)).symm
        refine va_mmin hx hb (hml.trans hl.1.symm) hown (hts (.methodLink RX2 33 Lib.Math.min.name) (List.mem_of_getElem? (i := 3) rfl)) (hts _ (List.mem_of_getElem? (i := 4) rfl)) (hts _ (List.mem_of_getElem? (i := 5) rfl)) (hts _ (List.mem_of_getElem? (i := 6) rfl)) (Nat.le_of_ble_eq_true rfl) (Nat.le_of_ble_eq_true rfl) (Nat.le_of_ble_eq_true rfl) (Nat.le_of_ble_eq_true rfl) dX2_deeper_45 ?_
        refine lv_topi (fun x_5 ex_5 => ?_)
        have qx_5 := zf_min ex_5 (x1 := 24) (y1 := d.toInt) (by decide) rfl
        exact W.iret (v := x_5) hx hb hr (fun t ht hW => ⟨x_5, rfl, ⟨by omega, by omega⟩, ht⟩) (fun q hq => by cases hq) dX2_deeper_48
      · have fc_3 : 6 ≤ h.toInt := zf_nlt c_3 rfl (by decide)
        refine lv_iinc (v := 1) (lv' := [(3, .int 1), (0, .ref u0), (1, .int d), (2, .int h)]) hx hb dX2_deeper_37 hl (k := 0) rfl (by decide) (by decide) rfl (fun ls hl => ?_)
        refine lv_bipush (v := 24) hx hb dX2_deeper_40 (by decide) ?_
        refine lv_iload_n hx hb dX2_deeper_42 rfl (lv_at hl 2 rfl) ?_
        refine lv_iload_n hx hb dX2_deeper_43 rfl (lv_at hl 0 rfl) ?_
        refine lv_iadd hx hb dX2_deeper_44 ?_
        refine lv_topi (fun x_6 ex_6 => ?_)
        have qx_6 : x_6.toInt = d.toInt + 1 := by rw [ex_6]; exact zf_add rfl (by decide) (by omega) (by omega)
        refine va_mmin hx hb (hml.trans hl.1.symm) hown (hts (.methodLink RX2 33 Lib.Math.min.name) (List.mem_of_getElem? (i := 3) rfl)) (hts _ (List.mem_of_getElem? (i := 4) rfl)) (hts _ (List.mem_of_getElem? (i := 5) rfl)) (hts _ (List.mem_of_getElem? (i := 6) rfl)) (Nat.le_of_ble_eq_true rfl) (Nat.le_of_ble_eq_true rfl) (Nat.le_of_ble_eq_true rfl) (Nat.le_of_ble_eq_true rfl) dX2_deeper_45 ?_
        refine lv_topi (fun x_7 ex_7 => ?_)
        have qx_7 := zf_min ex_7 (x1 := 24) (y1 := x_6.toInt) (by decide) rfl
        exact W.iret (v := x_7) hx hb hr (fun t ht hW => ⟨x_7, rfl, ⟨by omega, by omega⟩, ht⟩) (fun q hq => by cases hq) dX2_deeper_48
    · have fc_2 : ki.toInt = 2 := zf_eq c_2 rfl (by decide)
      refine lv_iconst (v := 1) hx hb dX2_deeper_18 (by decide) ?_
      refine lv_aload_n hx hb dX2_deeper_19 rfl (lv_at hl 0 rfl) ?_
      refine va_get (D := D) (ci := 2) (v := .int a_) (C := RX2) (T := TX2) (N := 3) hx hb hts hi_X2_deeper_2 hown hK (zPu_P hZ hu_u0) 0 rfl rfl 1 (by decide) (hts (.fieldLink RX2 15 "TheLiningsInIt$Pull" "a" "I") (List.mem_of_getElem? (i := 2) rfl)) (fun _ h9 => h9) rfl dX2_deeper_20 ?_
      refine lv_iconst (v := 3) hx hb dX2_deeper_23 (by decide) ?_
      refine lv_idiv hx hb dX2_deeper_24 (by decide) ?_
      refine lv_topi (fun x_8 ex_8 => ?_)
      have qx_8 : x_8.toInt = a_.toInt / 3 := by rw [ex_8]; exact zf_div rfl (by decide) (by omega) (by omega)
      refine lv_iadd hx hb dX2_deeper_25 ?_
      refine lv_topi (fun x_9 ex_9 => ?_)
      have qx_9 : x_9.toInt = 1 + x_8.toInt := by rw [ex_9]; exact zf_add (by decide) rfl (by omega) (by omega)
      refine lv_goto (tgt := 30) hx hb dX2_deeper_26 (by decide) ?_
      refine lv_istore_n (lv' := [(3, .int x_9), (0, .ref u0), (1, .int d), (2, .int h)]) hx hb dX2_deeper_30 rfl hl (by decide) rfl (fun ls hl => ?_)
      refine lv_iload_n hx hb dX2_deeper_31 rfl (lv_at hl 3 rfl) ?_
      refine lv_bipush (v := 6) hx hb dX2_deeper_32 (by decide) ?_
      refine lv_icmp_lt (tgt := 40) hx hb dX2_deeper_34 (by decide) (fun c_10 => ?_) (fun c_10 => ?_)
      · have fc_10 : h.toInt < 6 := zf_lt c_10 rfl (by decide)
        refine lv_bipush (v := 24) hx hb dX2_deeper_40 (by decide) ?_
        refine lv_iload_n hx hb dX2_deeper_42 rfl (lv_at hl 2 rfl) ?_
        refine lv_iload_n hx hb dX2_deeper_43 rfl (lv_at hl 0 rfl) ?_
        refine lv_iadd hx hb dX2_deeper_44 ?_
        refine lv_topi (fun x_11 ex_11 => ?_)
        have qx_11 : x_11.toInt = d.toInt + x_9.toInt := by rw [ex_11]; exact zf_add rfl rfl (by omega) (by omega)
        refine va_mmin hx hb (hml.trans hl.1.symm) hown (hts (.methodLink RX2 33 Lib.Math.min.name) (List.mem_of_getElem? (i := 3) rfl)) (hts _ (List.mem_of_getElem? (i := 4) rfl)) (hts _ (List.mem_of_getElem? (i := 5) rfl)) (hts _ (List.mem_of_getElem? (i := 6) rfl)) (Nat.le_of_ble_eq_true rfl) (Nat.le_of_ble_eq_true rfl) (Nat.le_of_ble_eq_true rfl) (Nat.le_of_ble_eq_true rfl) dX2_deeper_45 ?_
        refine lv_topi (fun x_12 ex_12 => ?_)
        have qx_12 := zf_min ex_12 (x1 := 24) (y1 := x_11.toInt) (by decide) rfl
        exact W.iret (v := x_12) hx hb hr (fun t ht hW => ⟨x_12, rfl, ⟨by omega, by omega⟩, ht⟩) (fun q hq => by cases hq) dX2_deeper_48
      · have fc_10 : 6 ≤ h.toInt := zf_nlt c_10 rfl (by decide)
        obtain ⟨x_13, ex_13⟩ : ∃ y : Int32, y = x_9 + 1 := ⟨_, rfl⟩
        have qx_13 : x_13.toInt = x_9.toInt + 1 := by rw [ex_13]; exact zf_add rfl (by decide) (by omega) (by omega)
        refine lv_iinc (v := x_13) (lv' := [(3, .int x_13), (0, .ref u0), (1, .int d), (2, .int h)]) hx hb dX2_deeper_37 hl (k := 0) rfl ex_13.symm (by decide) rfl (fun ls hl => ?_)
        refine lv_bipush (v := 24) hx hb dX2_deeper_40 (by decide) ?_
        refine lv_iload_n hx hb dX2_deeper_42 rfl (lv_at hl 2 rfl) ?_
        refine lv_iload_n hx hb dX2_deeper_43 rfl (lv_at hl 0 rfl) ?_
        refine lv_iadd hx hb dX2_deeper_44 ?_
        refine lv_topi (fun x_14 ex_14 => ?_)
        have qx_14 : x_14.toInt = d.toInt + x_13.toInt := by rw [ex_14]; exact zf_add rfl rfl (by omega) (by omega)
        refine va_mmin hx hb (hml.trans hl.1.symm) hown (hts (.methodLink RX2 33 Lib.Math.min.name) (List.mem_of_getElem? (i := 3) rfl)) (hts _ (List.mem_of_getElem? (i := 4) rfl)) (hts _ (List.mem_of_getElem? (i := 5) rfl)) (hts _ (List.mem_of_getElem? (i := 6) rfl)) (Nat.le_of_ble_eq_true rfl) (Nat.le_of_ble_eq_true rfl) (Nat.le_of_ble_eq_true rfl) (Nat.le_of_ble_eq_true rfl) dX2_deeper_45 ?_
        refine lv_topi (fun x_15 ex_15 => ?_)
        have qx_15 := zf_min ex_15 (x1 := 24) (y1 := x_14.toInt) (by decide) rfl
        exact W.iret (v := x_15) hx hb hr (fun t ht hW => ⟨x_15, rfl, ⟨by omega, by omega⟩, ht⟩) (fun q hq => by cases hq) dX2_deeper_48
  · have fc_1 : ki.toInt = 5 := zf_eq c_1 rfl (by decide)
    refine lv_iload_n hx hb dX2_deeper_8 rfl (lv_at hl 1 rfl) ?_
    exact W.iret (v := d) hx hb hr (fun t ht hW => ⟨d, rfl, ⟨by omega, by omega⟩, ht⟩) (fun q hq => by cases hq) dX2_deeper_9
theorem gl_X2_isOf_X20 : GoodIn wsX2_isOf wsX20 := (dg_t (dg_t (dg_t (dg_t (dg_t gw_wsX20)))))
theorem hi_X2_isOf_2 : ∀ w ∈ u_ws RX2 TX2 3, w ∈ wsX2_isOf := fun w h => (gl_X2_isOf_X20 w h).1
set_option maxHeartbeats 4000000 in
set_option maxRecDepth 100000 in
theorem c_Pull_isOf (l : Launch) (D : va_G) (cI cJ cZ cP cS : ClassId) (po : zPool) (w : Int32) (u0 : Nat) (ki a_ ta : Int32) (hu_u0 : zPu po u0 ki a_ ta) (hr_u0 : zPr ki a_ ta) : Met l yX2_isOf wsX2_isOf ({ frames := 1, cells := 0, slots := 0, locals := 22 }) (va_Pc [.ref u0, .int w] (zR D (zKT cI cJ cZ cP cS) po [])) (vp_Si (fun r => 0 ≤ r.toInt ∧ r.toInt ≤ 1)) 0 0 (fun _ => False) := by
  refine Met.ofW (cc := cX2_isOf) (maxL := 4) (ret := (some .boolean)) (by decide) rfl ?_
  intro p e s m args below meth c s₁ B hml hv
  obtain ⟨rfl, hP, hK, hN, hZ⟩ := hv
  have hx := B.exec
  have hb := B.bytes
  have hr := B.returns
  have hts := atoms_spec (ws := wsX2_isOf) B.pre
  have hown : s.vm.findClass RX2 = some m.cls := findClass_of_methodNamed B.named
  have hlocks := B.notSynchronized
  have hl := lv_entry ([.ref u0, .int w]) (n := 4) (Nat.le_of_ble_eq_true rfl)
  rw [lg_entry_eq]
  generalize (lg_sl ([.ref u0, .int w]) ++ List.replicate (4 - (lg_sl ([.ref u0, .int w])).length) Slot.unset).toArray = ls at hl ⊢
  replace hl : lv_has ls 4 [(0, .ref u0), (1, .int w)] := hl
  obtain ⟨⟨p1_u0, p2_u0⟩, ⟨p3_u0, p4_u0⟩, p5_u0, p6_u0⟩ := id hr_u0
  refine lv_aload_n hx hb dX2_isOf_0 rfl (lv_at hl 0 rfl) ?_
  refine va_get (D := D) (ci := 2) (v := .int ki) (C := RX2) (T := TX2) (N := 3) hx hb hts hi_X2_isOf_2 hown hK (zPu_P hZ hu_u0) 0 rfl rfl 0 (by decide) (hts (.fieldLink RX2 9 "TheLiningsInIt$Pull" "kind" "I") (List.mem_of_getElem? (i := 1) rfl)) (fun _ h9 => h9) rfl dX2_isOf_1 ?_
  refine lv_istore_n (lv' := [(2, .int ki), (0, .ref u0), (1, .int w)]) hx hb dX2_isOf_4 rfl hl (by decide) rfl (fun ls hl => ?_)
  refine lv_iconst (v := 0) hx hb dX2_isOf_5 (by decide) ?_
  refine lv_istore_n (lv' := [(3, .int 0), (2, .int ki), (0, .ref u0), (1, .int w)]) hx hb dX2_isOf_6 rfl hl (by decide) rfl (fun ls hl => ?_)
  obtain ⟨i_7, hi_7⟩ : ∃ i : Int32, i = 0 := ⟨_, rfl⟩
  replace hl : lv_has ls 4 [(3, .int i_7), (2, .int ki), (0, .ref u0), (1, .int w)] := by rw [hi_7]; exact lv_sub hl [0, 1, 2, 3] rfl
  have h1i_7 : i_7.toInt = 0 := by rw [hi_7]; decide
  obtain ⟨nfu, hni_7⟩ : ∃ nq9 : Nat, 7 ≤ i_7.toInt + (nq9 : Int) := ⟨((7 : Int) - 0).toNat, by omega⟩
  have hloi_7 : 0 ≤ i_7.toInt := by omega
  obtain ⟨v_1, hv_1⟩ : ∃ g : Int32, g = ki := ⟨_, rfl⟩
  replace hl : lv_has ls 4 [(3, .int i_7), (2, .int v_1), (0, .ref u0), (1, .int w)] := by rw [hv_1]; exact hl
  clear h1i_7 hi_7 hv_1
  revert hni_7
  revert hloi_7
  revert hl
  revert ls
  revert v_1
  revert i_7
  induction nfu with
  | zero =>
    intro i_7 v_1 ls hl hloi_7 hni_7
    have hzi_7 : 7 ≤ i_7.toInt := by omega
    refine lv_iload_n hx hb dX2_isOf_7 rfl (lv_at hl 0 rfl) ?_
    refine lv_bipush (v := 7) hx hb dX2_isOf_8 (by decide) ?_
    refine lv_icmp_ge (tgt := 42) hx hb dX2_isOf_10 (by decide) (fun c_2 => ?_) (fun c_2 => ?_)
    · have fc_2 : 7 ≤ i_7.toInt := zf_le c_2 (by decide) rfl
      refine lv_iconst (v := 0) hx hb dX2_isOf_42 (by decide) ?_
      exact W.zret (v := 0) hx hb hr (by decide) (fun t ht hW => ⟨0, rfl, ⟨by decide, by decide⟩, ht⟩) (fun q hq => by cases hq) dX2_isOf_43
    · exfalso; have fc_2 : i_7.toInt < 7 := zf_nle c_2 (by decide) rfl; omega
  | succ nfu ih =>
    intro i_7 v_1 ls hl hloi_7 hni_7
    refine lv_iload_n hx hb dX2_isOf_7 rfl (lv_at hl 0 rfl) ?_
    refine lv_bipush (v := 7) hx hb dX2_isOf_8 (by decide) ?_
    refine lv_icmp_ge (tgt := 42) hx hb dX2_isOf_10 (by decide) (fun c_3 => ?_) (fun c_3 => ?_)
    · have fc_3 : 7 ≤ i_7.toInt := zf_le c_3 (by decide) rfl
      refine lv_iconst (v := 0) hx hb dX2_isOf_42 (by decide) ?_
      exact W.zret (v := 0) hx hb hr (by decide) (fun t ht hW => ⟨0, rfl, ⟨by decide, by decide⟩, ht⟩) (fun q hq => by cases hq) dX2_isOf_43
    · have fc_3 : i_7.toInt < 7 := zf_nle c_3 (by decide) rfl
      refine lv_iload_n hx hb dX2_isOf_13 rfl (lv_at hl 1 rfl) ?_
      refine lv_iconst (v := 0) hx hb dX2_isOf_14 (by decide) ?_
      refine lv_bipush (v := 6) hx hb dX2_isOf_15 (by decide) ?_
      have kc0 : (0 : Int32).toInt = 0 := by decide
      have kc6 : (6 : Int32).toInt = 6 := by decide
      refine zc_SN (As := [.int v_1, .int 0, .int 6]) (rest := []) ⟨hx, hb, hml, hown, hts⟩ (c_within l D cI cJ cZ cP cS po (v_1) (0) (6) ) ⟨(va_cnB 3 hts gX2_isOf_X7_within_n21 rfl rfl rfl (hN.1 (RX2, 21, yX7_within) (List.mem_of_getElem? (i := 7) rfl)) (hts _ (List.mem_of_getElem? (i := 3) rfl)) dh_X7_within ⟨Nat.le_of_ble_eq_true rfl, Nat.le_of_ble_eq_true rfl⟩), (hts _ (List.mem_of_getElem? (i := 2) rfl)), trivial⟩ hK hN hZ rfl hl.1 rfl (Nat.le_of_ble_eq_true rfl) dX2_isOf_17 ⟨Nat.le_of_ble_eq_true rfl, Nat.le_of_ble_eq_true rfl⟩ (fun r_4 hr_4 => ?_)
      rcases hr_4 with ⟨rfl, g_5⟩ | ⟨rfl, g_6, g_7⟩ | ⟨rfl, g_8, g_9⟩
      · refine lv_if_eq (tgt := 42) hx hb dX2_isOf_20 (by decide) (fun c_10 => ?_) (fun c_10 => ?_)
        · refine lv_iconst (v := 0) hx hb dX2_isOf_42 (by decide) ?_
          exact W.zret (v := 0) hx hb hr (by decide) (fun t ht hW => ⟨0, rfl, ⟨by decide, by decide⟩, ht⟩) (fun q hq => by cases hq) dX2_isOf_43
        · exact absurd c_10 (by decide)
      · refine lv_if_eq (tgt := 42) hx hb dX2_isOf_20 (by decide) (fun c_11 => ?_) (fun c_11 => ?_)
        · refine lv_iconst (v := 0) hx hb dX2_isOf_42 (by decide) ?_
          exact W.zret (v := 0) hx hb hr (by decide) (fun t ht hW => ⟨0, rfl, ⟨by decide, by decide⟩, ht⟩) (fun q hq => by cases hq) dX2_isOf_43
        · exact absurd c_11 (by decide)
      · refine lv_if_eq (tgt := 42) hx hb dX2_isOf_20 (by decide) (fun c_12 => ?_) (fun c_12 => ?_)
        · exact absurd c_12 (by decide)
        · refine lv_iload_n hx hb dX2_isOf_23 rfl (lv_at hl 1 rfl) ?_
          refine lv_iload_n hx hb dX2_isOf_24 rfl (lv_at hl 3 rfl) ?_
          refine lv_icmp_ne (tgt := 30) hx hb dX2_isOf_25 (by decide) (fun c_13 => ?_) (fun c_13 => ?_)
          · have fc_13 : v_1.toInt ≠ w.toInt := zf_ne c_13 rfl rfl
            obtain ⟨t_14, zt_14, yt_14⟩ := hZ.1.2
            refine va_getsN hx hb zt_14 va_S.rf hown (va_Nw.use rfl (hN.2.1 (RX2, 25) (List.mem_of_getElem? (i := 0) rfl))) (fun _ h9 => h9) dX2_isOf_30 ?_
            refine lv_iload_n hx hb dX2_isOf_33 rfl (lv_at hl 1 rfl) ?_
            refine va_ti hx hb yt_14 va_S.rf (zf_in (by omega) (by omega)) (v := .int (zABV v_1.toNatClampNeg)) rfl dX2_isOf_34 ?_
            refine lv_topi (fun x_15 ex_15 => ?_)
            have bx_15 := zABV_rg v_1.toNatClampNeg
            rw [← ex_15] at bx_15
            refine lv_istore_n (lv' := [(2, .int x_15), (3, .int i_7), (0, .ref u0), (1, .int w)]) hx hb dX2_isOf_35 rfl hl (by decide) rfl (fun ls hl => ?_)
            obtain ⟨x_16, ex_16⟩ : ∃ y : Int32, y = i_7 + 1 := ⟨_, rfl⟩
            have qx_16 : x_16.toInt = i_7.toInt + 1 := dw_incK ex_16 fc_3 (by decide)
            refine lv_iinc (v := x_16) (lv' := [(3, .int x_16), (2, .int x_15), (0, .ref u0), (1, .int w)]) hx hb dX2_isOf_36 hl (k := 1) rfl ex_16.symm (by decide) rfl (fun ls hl => ?_)
            refine lv_goto (tgt := 7) hx hb dX2_isOf_39 (by decide) ?_
            exact ih x_16 x_15 _ (lv_sub hl [0, 1, 2, 3] rfl) (dw_lo hloi_7 qx_16) (dw_hn hni_7 qx_16)
          · have fc_13 : v_1.toInt = w.toInt := zf_eq c_13 rfl rfl
            refine lv_iconst (v := 1) hx hb dX2_isOf_28 (by decide) ?_
            exact W.zret (v := 1) hx hb hr (by decide) (fun t ht hW => ⟨1, rfl, ⟨by decide, by decide⟩, ht⟩) (fun q hq => by cases hq) dX2_isOf_29
end
section
def wsX6_become : List Cond := (.code yX6_become cX6_become 3 none) :: (.fieldLink RX6 9 "TheLiningsInIt$Zip" "lacking" "[Z") :: (.fieldLink RX6 15 "TheLiningsInIt$Zip" "slacks" "[I") :: (.fieldLink RX6 19 "TheLiningsInIt$Zip" "size" "I") :: (.fieldLink RX6 23 "TheLiningsInIt$Zip" "at" "I") :: (.fieldLink RX6 26 "TheLiningsInIt$Zip" "gap" "I") :: wsX60
def wsX6_has : List Cond := (.code yX6_has cX6_has 2 (some .boolean)) :: (.fieldLink RX6 19 "TheLiningsInIt$Zip" "size" "I") :: wsX60
def wsX6_catchesAt : List Cond := (.code yX6_catchesAt cX6_catchesAt 2 (some .boolean)) :: (.fieldLink RX6 9 "TheLiningsInIt$Zip" "lacking" "[Z") :: (.fieldLink RX6 15 "TheLiningsInIt$Zip" "slacks" "[I") :: (.fieldLink RX6 26 "TheLiningsInIt$Zip" "gap" "I") :: (.methodLink RX6 29 yX6_has) :: (.instanceMethod yX6_has) :: (.selects RX6 yX6_has yX6_has) :: (.initialized RX6) :: (.code yX6_has cX6_has 2 (some .boolean)) :: (.fieldLink RX6 19 "TheLiningsInIt$Zip" "size" "I") :: wsX60
def wsX6_lacksAt : List Cond := (.code yX6_lacksAt cX6_lacksAt 2 (some .boolean)) :: (.fieldLink RX6 9 "TheLiningsInIt$Zip" "lacking" "[Z") :: (.methodLink RX6 29 yX6_has) :: (.instanceMethod yX6_has) :: (.selects RX6 yX6_has yX6_has) :: (.initialized RX6) :: (.code yX6_has cX6_has 2 (some .boolean)) :: (.fieldLink RX6 19 "TheLiningsInIt$Zip" "size" "I") :: wsX60
def wsX6_lacksThreeFrom : List Cond := (.code yX6_lacksThreeFrom cX6_lacksThreeFrom 2 (some .boolean)) :: (.methodLink RX6 33 yX6_lacksAt) :: (.instanceMethod yX6_lacksAt) :: (.selects RX6 yX6_lacksAt yX6_lacksAt) :: (.initialized RX6) :: (.code yX6_lacksAt cX6_lacksAt 2 (some .boolean)) :: (.fieldLink RX6 9 "TheLiningsInIt$Zip" "lacking" "[Z") :: (.methodLink RX6 29 yX6_has) :: (.instanceMethod yX6_has) :: (.selects RX6 yX6_has yX6_has) :: (.code yX6_has cX6_has 2 (some .boolean)) :: (.fieldLink RX6 19 "TheLiningsInIt$Zip" "size" "I") :: wsX60
def wsX6_renew : List Cond := (.code yX6_renew cX6_renew 3 none) :: (.fieldLink RX6 19 "TheLiningsInIt$Zip" "size" "I") :: (.fieldLink RX6 23 "TheLiningsInIt$Zip" "at" "I") :: (.fieldLink RX6 9 "TheLiningsInIt$Zip" "lacking" "[Z") :: (.fieldLink RX6 15 "TheLiningsInIt$Zip" "slacks" "[I") :: wsX60
def wsX6_isStrong : List Cond := (.code yX6_isStrong cX6_isStrong 2 (some .boolean)) :: (.fieldLink RX6 19 "TheLiningsInIt$Zip" "size" "I") :: (.methodLink RX6 36 yX6_lacksThreeFrom) :: (.instanceMethod yX6_lacksThreeFrom) :: (.selects RX6 yX6_lacksThreeFrom yX6_lacksThreeFrom) :: (.initialized RX6) :: (.code yX6_lacksThreeFrom cX6_lacksThreeFrom 2 (some .boolean)) :: (.methodLink RX6 33 yX6_lacksAt) :: (.instanceMethod yX6_lacksAt) :: (.selects RX6 yX6_lacksAt yX6_lacksAt) :: (.code yX6_lacksAt cX6_lacksAt 2 (some .boolean)) :: (.fieldLink RX6 9 "TheLiningsInIt$Zip" "lacking" "[Z") :: (.methodLink RX6 29 yX6_has) :: (.instanceMethod yX6_has) :: (.selects RX6 yX6_has yX6_has) :: (.code yX6_has cX6_has 2 (some .boolean)) :: wsX60
def wsX6_isFrail : List Cond := (.code yX6_isFrail cX6_isFrail 4 (some .boolean)) :: (.methodLink RX6 33 yX6_lacksAt) :: (.instanceMethod yX6_lacksAt) :: (.selects RX6 yX6_lacksAt yX6_lacksAt) :: (.initialized RX6) :: (.code yX6_lacksAt cX6_lacksAt 2 (some .boolean)) :: (.fieldLink RX6 9 "TheLiningsInIt$Zip" "lacking" "[Z") :: (.methodLink RX6 29 yX6_has) :: (.instanceMethod yX6_has) :: (.selects RX6 yX6_has yX6_has) :: (.code yX6_has cX6_has 2 (some .boolean)) :: (.fieldLink RX6 19 "TheLiningsInIt$Zip" "size" "I") :: wsX60
def wsX6_frailTeeth : List Cond := (.code yX6_frailTeeth cX6_frailTeeth 3 (some .int)) :: (.fieldLink RX6 19 "TheLiningsInIt$Zip" "size" "I") :: (.fieldLink RX6 9 "TheLiningsInIt$Zip" "lacking" "[Z") :: (.methodLink RX6 39 yX6_isStrong) :: (.instanceMethod yX6_isStrong) :: (.selects RX6 yX6_isStrong yX6_isStrong) :: (.initialized RX6) :: (.code yX6_isStrong cX6_isStrong 2 (some .boolean)) :: (.methodLink RX6 36 yX6_lacksThreeFrom) :: (.instanceMethod yX6_lacksThreeFrom) :: (.selects RX6 yX6_lacksThreeFrom yX6_lacksThreeFrom) :: (.code yX6_lacksThreeFrom cX6_lacksThreeFrom 2 (some .boolean)) :: (.methodLink RX6 33 yX6_lacksAt) :: (.instanceMethod yX6_lacksAt) :: (.selects RX6 yX6_lacksAt yX6_lacksAt) :: (.code yX6_lacksAt cX6_lacksAt 2 (some .boolean)) :: (.methodLink RX6 29 yX6_has) :: (.instanceMethod yX6_has) :: (.selects RX6 yX6_has yX6_has) :: (.code yX6_has cX6_has 2 (some .boolean)) :: (.methodLink RX6 43 yX6_isFrail) :: (.instanceMethod yX6_isFrail) :: (.selects RX6 yX6_isFrail yX6_isFrail) :: (.code yX6_isFrail cX6_isFrail 4 (some .boolean)) :: wsX60
def wsX6_spareTeeth : List Cond := (.code yX6_spareTeeth cX6_spareTeeth 8 (some .int)) :: (.fieldLink RX6 19 "TheLiningsInIt$Zip" "size" "I") :: (.fieldLink RX6 9 "TheLiningsInIt$Zip" "lacking" "[Z") :: (.methodLink RX6 46 Lib.Math.max.name) :: (.static Lib.Math.max.name) :: (.initialized "java/lang/Math") :: (.code Lib.Math.max.name Lib.Math.max.code 2 (some .int)) :: (.methodLink RX6 39 yX6_isStrong) :: (.instanceMethod yX6_isStrong) :: (.selects RX6 yX6_isStrong yX6_isStrong) :: (.initialized RX6) :: (.code yX6_isStrong cX6_isStrong 2 (some .boolean)) :: (.methodLink RX6 36 yX6_lacksThreeFrom) :: (.instanceMethod yX6_lacksThreeFrom) :: (.selects RX6 yX6_lacksThreeFrom yX6_lacksThreeFrom) :: (.code yX6_lacksThreeFrom cX6_lacksThreeFrom 2 (some .boolean)) :: (.methodLink RX6 33 yX6_lacksAt) :: (.instanceMethod yX6_lacksAt) :: (.selects RX6 yX6_lacksAt yX6_lacksAt) :: (.code yX6_lacksAt cX6_lacksAt 2 (some .boolean)) :: (.methodLink RX6 29 yX6_has) :: (.instanceMethod yX6_has) :: (.selects RX6 yX6_has yX6_has) :: (.code yX6_has cX6_has 2 (some .boolean)) :: wsX60
def wsX6_lackingTeeth : List Cond := (.code yX6_lackingTeeth cX6_lackingTeeth 3 (some .int)) :: (.fieldLink RX6 19 "TheLiningsInIt$Zip" "size" "I") :: (.fieldLink RX6 9 "TheLiningsInIt$Zip" "lacking" "[Z") :: wsX60
def wsX6_catchingTeeth : List Cond := (.code yX6_catchingTeeth cX6_catchingTeeth 4 (some .int)) :: (.fieldLink RX6 19 "TheLiningsInIt$Zip" "size" "I") :: (.methodLink RX6 52 yX6_catchesAt) :: (.instanceMethod yX6_catchesAt) :: (.selects RX6 yX6_catchesAt yX6_catchesAt) :: (.initialized RX6) :: (.code yX6_catchesAt cX6_catchesAt 2 (some .boolean)) :: (.fieldLink RX6 9 "TheLiningsInIt$Zip" "lacking" "[Z") :: (.fieldLink RX6 15 "TheLiningsInIt$Zip" "slacks" "[I") :: (.fieldLink RX6 26 "TheLiningsInIt$Zip" "gap" "I") :: (.methodLink RX6 29 yX6_has) :: (.instanceMethod yX6_has) :: (.selects RX6 yX6_has yX6_has) :: (.code yX6_has cX6_has 2 (some .boolean)) :: wsX60
def wsX6_stitchesNeeded : List Cond := (.code yX6_stitchesNeeded cX6_stitchesNeeded 6 (some .int)) :: (.fieldLink RX6 19 "TheLiningsInIt$Zip" "size" "I") :: (.methodLink RX6 55 Lib.Math.min.name) :: (.static Lib.Math.min.name) :: (.initialized "java/lang/Math") :: (.code Lib.Math.min.name Lib.Math.min.code 2 (some .int)) :: (.methodLink RX6 52 yX6_catchesAt) :: (.instanceMethod yX6_catchesAt) :: (.selects RX6 yX6_catchesAt yX6_catchesAt) :: (.initialized RX6) :: (.code yX6_catchesAt cX6_catchesAt 2 (some .boolean)) :: (.fieldLink RX6 9 "TheLiningsInIt$Zip" "lacking" "[Z") :: (.fieldLink RX6 15 "TheLiningsInIt$Zip" "slacks" "[I") :: (.fieldLink RX6 26 "TheLiningsInIt$Zip" "gap" "I") :: (.methodLink RX6 29 yX6_has) :: (.instanceMethod yX6_has) :: (.selects RX6 yX6_has yX6_has) :: (.code yX6_has cX6_has 2 (some .boolean)) :: wsX60
def wsX6_takeSlack : List Cond := (.code yX6_takeSlack cX6_takeSlack 4 (some .int)) :: (.fieldLink RX6 15 "TheLiningsInIt$Zip" "slacks" "[I") :: (.methodLink RX6 29 yX6_has) :: (.instanceMethod yX6_has) :: (.selects RX6 yX6_has yX6_has) :: (.initialized RX6) :: (.code yX6_has cX6_has 2 (some .boolean)) :: (.fieldLink RX6 19 "TheLiningsInIt$Zip" "size" "I") :: wsX60
def wsX6_runsTo : List Cond := (.code yX6_runsTo cX6_runsTo 2 (some .int)) :: (.fieldLink RX6 23 "TheLiningsInIt$Zip" "at" "I") :: (.fieldLink RX6 19 "TheLiningsInIt$Zip" "size" "I") :: (.methodLink RX6 52 yX6_catchesAt) :: (.instanceMethod yX6_catchesAt) :: (.selects RX6 yX6_catchesAt yX6_catchesAt) :: (.initialized RX6) :: (.code yX6_catchesAt cX6_catchesAt 2 (some .boolean)) :: (.fieldLink RX6 9 "TheLiningsInIt$Zip" "lacking" "[Z") :: (.fieldLink RX6 15 "TheLiningsInIt$Zip" "slacks" "[I") :: (.fieldLink RX6 26 "TheLiningsInIt$Zip" "gap" "I") :: (.methodLink RX6 29 yX6_has) :: (.instanceMethod yX6_has) :: (.selects RX6 yX6_has yX6_has) :: (.code yX6_has cX6_has 2 (some .boolean)) :: (.methodLink RX6 36 yX6_lacksThreeFrom) :: (.instanceMethod yX6_lacksThreeFrom) :: (.selects RX6 yX6_lacksThreeFrom yX6_lacksThreeFrom) :: (.code yX6_lacksThreeFrom cX6_lacksThreeFrom 2 (some .boolean)) :: (.methodLink RX6 33 yX6_lacksAt) :: (.instanceMethod yX6_lacksAt) :: (.selects RX6 yX6_lacksAt yX6_lacksAt) :: (.code yX6_lacksAt cX6_lacksAt 2 (some .boolean)) :: wsX60
theorem dX6_renew_0 : decode cX6_renew 0 = .ok (.aload_n 0, 1) := dq_42 dp_cX6_renew rfl
theorem dX6_renew_1 : decode cX6_renew 1 = .ok (.iload_n 1, 1) := dq_27 dp_cX6_renew rfl
theorem dX6_renew_2 : decode cX6_renew 2 = .ok (.putfield 19, 3) := dq_181 dp_cX6_renew rfl
theorem dX6_renew_5 : decode cX6_renew 5 = .ok (.aload_n 0, 1) := dq_42 dp_cX6_renew rfl
theorem dX6_renew_6 : decode cX6_renew 6 = .ok (.iconst 0, 1) := dq_3 dp_cX6_renew rfl
theorem dX6_renew_7 : decode cX6_renew 7 = .ok (.putfield 23, 3) := dq_181 dp_cX6_renew rfl
theorem dX6_renew_10 : decode cX6_renew 10 = .ok (.iconst 0, 1) := dq_3 dp_cX6_renew rfl
theorem dX6_renew_11 : decode cX6_renew 11 = .ok (.istore_n 2, 1) := dq_61 dp_cX6_renew rfl
theorem dX6_renew_12 : decode cX6_renew 12 = .ok (.iload_n 2, 1) := dq_28 dp_cX6_renew rfl
theorem dX6_renew_13 : decode cX6_renew 13 = .ok (.bipush 40, 2) := dq_16 (v := 40) dp_cX6_renew rfl rfl
theorem dX6_renew_15 : decode cX6_renew 15 = .ok (.if_icmp .ge 23, 3) := dq_162 (v := 23) dp_cX6_renew rfl rfl
theorem dX6_renew_18 : decode cX6_renew 18 = .ok (.aload_n 0, 1) := dq_42 dp_cX6_renew rfl
theorem dX6_renew_19 : decode cX6_renew 19 = .ok (.getfield 9, 3) := dq_180 dp_cX6_renew rfl
theorem dX6_renew_22 : decode cX6_renew 22 = .ok (.iload_n 2, 1) := dq_28 dp_cX6_renew rfl
theorem dX6_renew_23 : decode cX6_renew 23 = .ok (.iconst 0, 1) := dq_3 dp_cX6_renew rfl
theorem dX6_renew_24 : decode cX6_renew 24 = .ok (.bastore, 1) := dq_84 dp_cX6_renew rfl
theorem dX6_renew_25 : decode cX6_renew 25 = .ok (.aload_n 0, 1) := dq_42 dp_cX6_renew rfl
theorem dX6_renew_26 : decode cX6_renew 26 = .ok (.getfield 15, 3) := dq_180 dp_cX6_renew rfl
theorem dX6_renew_29 : decode cX6_renew 29 = .ok (.iload_n 2, 1) := dq_28 dp_cX6_renew rfl
theorem dX6_renew_30 : decode cX6_renew 30 = .ok (.iconst 0, 1) := dq_3 dp_cX6_renew rfl
theorem dX6_renew_31 : decode cX6_renew 31 = .ok (.iastore, 1) := dq_79 dp_cX6_renew rfl
theorem dX6_renew_32 : decode cX6_renew 32 = .ok (.iinc 2 1, 3) := dq_132 (v := 1) dp_cX6_renew rfl (by decide) rfl
theorem dX6_renew_35 : decode cX6_renew 35 = .ok (.goto (-23), 3) := dq_167 (v := 65513) dp_cX6_renew rfl rfl
theorem dX6_renew_38 : decode cX6_renew 38 = .ok (.return_, 1) := dq_177 dp_cX6_renew rfl
theorem dX6_become_0 : decode cX6_become 0 = .ok (.iconst 0, 1) := dq_3 dp_cX6_become rfl
theorem dX6_become_1 : decode cX6_become 1 = .ok (.istore_n 2, 1) := dq_61 dp_cX6_become rfl
theorem dX6_become_2 : decode cX6_become 2 = .ok (.iload_n 2, 1) := dq_28 dp_cX6_become rfl
theorem dX6_become_3 : decode cX6_become 3 = .ok (.bipush 40, 2) := dq_16 (v := 40) dp_cX6_become rfl rfl
theorem dX6_become_5 : decode cX6_become 5 = .ok (.if_icmp .ge 33, 3) := dq_162 (v := 33) dp_cX6_become rfl rfl
theorem dX6_become_8 : decode cX6_become 8 = .ok (.aload_n 0, 1) := dq_42 dp_cX6_become rfl
theorem dX6_become_9 : decode cX6_become 9 = .ok (.getfield 9, 3) := dq_180 dp_cX6_become rfl
theorem dX6_become_12 : decode cX6_become 12 = .ok (.iload_n 2, 1) := dq_28 dp_cX6_become rfl
theorem dX6_become_13 : decode cX6_become 13 = .ok (.aload_n 1, 1) := dq_43 dp_cX6_become rfl
theorem dX6_become_14 : decode cX6_become 14 = .ok (.getfield 9, 3) := dq_180 dp_cX6_become rfl
theorem dX6_become_17 : decode cX6_become 17 = .ok (.iload_n 2, 1) := dq_28 dp_cX6_become rfl
theorem dX6_become_18 : decode cX6_become 18 = .ok (.baload, 1) := dq_51 dp_cX6_become rfl
theorem dX6_become_19 : decode cX6_become 19 = .ok (.bastore, 1) := dq_84 dp_cX6_become rfl
theorem dX6_become_20 : decode cX6_become 20 = .ok (.aload_n 0, 1) := dq_42 dp_cX6_become rfl
theorem dX6_become_21 : decode cX6_become 21 = .ok (.getfield 15, 3) := dq_180 dp_cX6_become rfl
theorem dX6_become_24 : decode cX6_become 24 = .ok (.iload_n 2, 1) := dq_28 dp_cX6_become rfl
theorem dX6_become_25 : decode cX6_become 25 = .ok (.aload_n 1, 1) := dq_43 dp_cX6_become rfl
theorem dX6_become_26 : decode cX6_become 26 = .ok (.getfield 15, 3) := dq_180 dp_cX6_become rfl
theorem dX6_become_29 : decode cX6_become 29 = .ok (.iload_n 2, 1) := dq_28 dp_cX6_become rfl
theorem dX6_become_30 : decode cX6_become 30 = .ok (.iaload, 1) := dq_46 dp_cX6_become rfl
theorem dX6_become_31 : decode cX6_become 31 = .ok (.iastore, 1) := dq_79 dp_cX6_become rfl
theorem dX6_become_32 : decode cX6_become 32 = .ok (.iinc 2 1, 3) := dq_132 (v := 1) dp_cX6_become rfl (by decide) rfl
theorem dX6_become_35 : decode cX6_become 35 = .ok (.goto (-33), 3) := dq_167 (v := 65503) dp_cX6_become rfl rfl
theorem dX6_become_38 : decode cX6_become 38 = .ok (.aload_n 0, 1) := dq_42 dp_cX6_become rfl
theorem dX6_become_39 : decode cX6_become 39 = .ok (.aload_n 1, 1) := dq_43 dp_cX6_become rfl
theorem dX6_become_40 : decode cX6_become 40 = .ok (.getfield 19, 3) := dq_180 dp_cX6_become rfl
theorem dX6_become_43 : decode cX6_become 43 = .ok (.putfield 19, 3) := dq_181 dp_cX6_become rfl
theorem dX6_become_46 : decode cX6_become 46 = .ok (.aload_n 0, 1) := dq_42 dp_cX6_become rfl
theorem dX6_become_47 : decode cX6_become 47 = .ok (.aload_n 1, 1) := dq_43 dp_cX6_become rfl
theorem dX6_become_48 : decode cX6_become 48 = .ok (.getfield 23, 3) := dq_180 dp_cX6_become rfl
theorem dX6_become_51 : decode cX6_become 51 = .ok (.putfield 23, 3) := dq_181 dp_cX6_become rfl
theorem dX6_become_54 : decode cX6_become 54 = .ok (.aload_n 0, 1) := dq_42 dp_cX6_become rfl
theorem dX6_become_55 : decode cX6_become 55 = .ok (.aload_n 1, 1) := dq_43 dp_cX6_become rfl
theorem dX6_become_56 : decode cX6_become 56 = .ok (.getfield 26, 3) := dq_180 dp_cX6_become rfl
theorem dX6_become_59 : decode cX6_become 59 = .ok (.putfield 26, 3) := dq_181 dp_cX6_become rfl
theorem dX6_become_62 : decode cX6_become 62 = .ok (.return_, 1) := dq_177 dp_cX6_become rfl
theorem dX6_has_0 : decode cX6_has 0 = .ok (.iload_n 1, 1) := dq_27 dp_cX6_has rfl
theorem dX6_has_1 : decode cX6_has 1 = .ok (.ifCond .lt 15, 3) := dq_155 (v := 15) dp_cX6_has rfl rfl
theorem dX6_has_4 : decode cX6_has 4 = .ok (.iload_n 1, 1) := dq_27 dp_cX6_has rfl
theorem dX6_has_5 : decode cX6_has 5 = .ok (.aload_n 0, 1) := dq_42 dp_cX6_has rfl
theorem dX6_has_6 : decode cX6_has 6 = .ok (.getfield 19, 3) := dq_180 dp_cX6_has rfl
theorem dX6_has_9 : decode cX6_has 9 = .ok (.if_icmp .ge 7, 3) := dq_162 (v := 7) dp_cX6_has rfl rfl
theorem dX6_has_12 : decode cX6_has 12 = .ok (.iconst 1, 1) := dq_4 dp_cX6_has rfl
theorem dX6_has_13 : decode cX6_has 13 = .ok (.goto 4, 3) := dq_167 (v := 4) dp_cX6_has rfl rfl
theorem dX6_has_16 : decode cX6_has 16 = .ok (.iconst 0, 1) := dq_3 dp_cX6_has rfl
theorem dX6_has_17 : decode cX6_has 17 = .ok (.ireturn, 1) := dq_172 dp_cX6_has rfl
set_option maxRecDepth 20000 in
theorem gl_X6_lacksAt_X60 : GoodIn wsX6_lacksAt wsX60 := (dg_t (dg_t (dg_t (dg_t (dg_t (dg_t (dg_t (dg_t gw_wsX60))))))))
theorem ggX6_lacksAt_X6_has : GoodIn wsX6_lacksAt wsX6_has := (dg_c 6 rfl rfl (dg_c 7 rfl rfl gl_X6_lacksAt_X60))
set_option maxRecDepth 20000 in
theorem gX6_lacksAt_X6_has : GoodIn wsX6_lacksAt (wsV RX6 29 RX6 yX6_has wsX6_has) := goodIn_app (dg_c 2 rfl rfl (dg_c 3 rfl rfl (dg_c 4 rfl rfl (dg_c 5 rfl rfl dg_0)))) ggX6_lacksAt_X6_has
theorem dX6_lacksAt_0 : decode cX6_lacksAt 0 = .ok (.aload_n 0, 1) := dq_42 dp_cX6_lacksAt rfl
theorem dX6_lacksAt_1 : decode cX6_lacksAt 1 = .ok (.iload_n 1, 1) := dq_27 dp_cX6_lacksAt rfl
theorem dX6_lacksAt_2 : decode cX6_lacksAt 2 = .ok (.invokevirtual 29, 3) := dq_182 dp_cX6_lacksAt rfl
theorem dX6_lacksAt_5 : decode cX6_lacksAt 5 = .ok (.ifCond .eq 16, 3) := dq_153 (v := 16) dp_cX6_lacksAt rfl rfl
theorem dX6_lacksAt_8 : decode cX6_lacksAt 8 = .ok (.aload_n 0, 1) := dq_42 dp_cX6_lacksAt rfl
theorem dX6_lacksAt_9 : decode cX6_lacksAt 9 = .ok (.getfield 9, 3) := dq_180 dp_cX6_lacksAt rfl
theorem dX6_lacksAt_12 : decode cX6_lacksAt 12 = .ok (.iload_n 1, 1) := dq_27 dp_cX6_lacksAt rfl
theorem dX6_lacksAt_13 : decode cX6_lacksAt 13 = .ok (.baload, 1) := dq_51 dp_cX6_lacksAt rfl
theorem dX6_lacksAt_14 : decode cX6_lacksAt 14 = .ok (.ifCond .eq 7, 3) := dq_153 (v := 7) dp_cX6_lacksAt rfl rfl
theorem dX6_lacksAt_17 : decode cX6_lacksAt 17 = .ok (.iconst 1, 1) := dq_4 dp_cX6_lacksAt rfl
theorem dX6_lacksAt_18 : decode cX6_lacksAt 18 = .ok (.goto 4, 3) := dq_167 (v := 4) dp_cX6_lacksAt rfl rfl
theorem dX6_lacksAt_21 : decode cX6_lacksAt 21 = .ok (.iconst 0, 1) := dq_3 dp_cX6_lacksAt rfl
theorem dX6_lacksAt_22 : decode cX6_lacksAt 22 = .ok (.ireturn, 1) := dq_172 dp_cX6_lacksAt rfl
set_option maxRecDepth 20000 in
theorem gl_X6_catchesAt_X60 : GoodIn wsX6_catchesAt wsX60 := (dg_t (dg_t (dg_t (dg_t (dg_t (dg_t (dg_t (dg_t (dg_t (dg_t gw_wsX60))))))))))
theorem ggX6_catchesAt_X6_has : GoodIn wsX6_catchesAt wsX6_has := (dg_c 8 rfl rfl (dg_c 9 rfl rfl gl_X6_catchesAt_X60))
set_option maxRecDepth 20000 in
theorem gX6_catchesAt_X6_has : GoodIn wsX6_catchesAt (wsV RX6 29 RX6 yX6_has wsX6_has) := goodIn_app (dg_c 4 rfl rfl (dg_c 5 rfl rfl (dg_c 6 rfl rfl (dg_c 7 rfl rfl dg_0)))) ggX6_catchesAt_X6_has
theorem dX6_catchesAt_0 : decode cX6_catchesAt 0 = .ok (.aload_n 0, 1) := dq_42 dp_cX6_catchesAt rfl
theorem dX6_catchesAt_1 : decode cX6_catchesAt 1 = .ok (.iload_n 1, 1) := dq_27 dp_cX6_catchesAt rfl
theorem dX6_catchesAt_2 : decode cX6_catchesAt 2 = .ok (.invokevirtual 29, 3) := dq_182 dp_cX6_catchesAt rfl
theorem dX6_catchesAt_5 : decode cX6_catchesAt 5 = .ok (.ifCond .eq 29, 3) := dq_153 (v := 29) dp_cX6_catchesAt rfl rfl
theorem dX6_catchesAt_8 : decode cX6_catchesAt 8 = .ok (.aload_n 0, 1) := dq_42 dp_cX6_catchesAt rfl
theorem dX6_catchesAt_9 : decode cX6_catchesAt 9 = .ok (.getfield 9, 3) := dq_180 dp_cX6_catchesAt rfl
theorem dX6_catchesAt_12 : decode cX6_catchesAt 12 = .ok (.iload_n 1, 1) := dq_27 dp_cX6_catchesAt rfl
theorem dX6_catchesAt_13 : decode cX6_catchesAt 13 = .ok (.baload, 1) := dq_51 dp_cX6_catchesAt rfl
theorem dX6_catchesAt_14 : decode cX6_catchesAt 14 = .ok (.ifCond .ne 20, 3) := dq_154 (v := 20) dp_cX6_catchesAt rfl rfl
theorem dX6_catchesAt_17 : decode cX6_catchesAt 17 = .ok (.aload_n 0, 1) := dq_42 dp_cX6_catchesAt rfl
theorem dX6_catchesAt_18 : decode cX6_catchesAt 18 = .ok (.getfield 15, 3) := dq_180 dp_cX6_catchesAt rfl
theorem dX6_catchesAt_21 : decode cX6_catchesAt 21 = .ok (.iload_n 1, 1) := dq_27 dp_cX6_catchesAt rfl
theorem dX6_catchesAt_22 : decode cX6_catchesAt 22 = .ok (.iaload, 1) := dq_46 dp_cX6_catchesAt rfl
theorem dX6_catchesAt_23 : decode cX6_catchesAt 23 = .ok (.aload_n 0, 1) := dq_42 dp_cX6_catchesAt rfl
theorem dX6_catchesAt_24 : decode cX6_catchesAt 24 = .ok (.getfield 26, 3) := dq_180 dp_cX6_catchesAt rfl
theorem dX6_catchesAt_27 : decode cX6_catchesAt 27 = .ok (.if_icmp .lt 7, 3) := dq_161 (v := 7) dp_cX6_catchesAt rfl rfl
theorem dX6_catchesAt_30 : decode cX6_catchesAt 30 = .ok (.iconst 1, 1) := dq_4 dp_cX6_catchesAt rfl
theorem dX6_catchesAt_31 : decode cX6_catchesAt 31 = .ok (.goto 4, 3) := dq_167 (v := 4) dp_cX6_catchesAt rfl rfl
theorem dX6_catchesAt_34 : decode cX6_catchesAt 34 = .ok (.iconst 0, 1) := dq_3 dp_cX6_catchesAt rfl
theorem dX6_catchesAt_35 : decode cX6_catchesAt 35 = .ok (.ireturn, 1) := dq_172 dp_cX6_catchesAt rfl
set_option maxRecDepth 20000 in
theorem gl_X6_lacksThreeFrom_X60 : GoodIn wsX6_lacksThreeFrom wsX60 := (dg_t (dg_t (dg_t (dg_t (dg_t (dg_t (dg_t (dg_t (dg_t (dg_t (dg_t (dg_t gw_wsX60))))))))))))
theorem ggX6_lacksThreeFrom_X6_lacksAt : GoodIn wsX6_lacksThreeFrom wsX6_lacksAt := (dg_c 5 rfl rfl (dg_c 6 rfl rfl (dg_c 7 rfl rfl (dg_c 8 rfl rfl (dg_c 9 rfl rfl (dg_c 4 rfl rfl (dg_c 10 rfl rfl (dg_c 11 rfl rfl gl_X6_lacksThreeFrom_X60))))))))
set_option maxRecDepth 20000 in
theorem gX6_lacksThreeFrom_X6_lacksAt : GoodIn wsX6_lacksThreeFrom (wsV RX6 33 RX6 yX6_lacksAt wsX6_lacksAt) := goodIn_app (dg_c 1 rfl rfl (dg_c 2 rfl rfl (dg_c 3 rfl rfl (dg_c 4 rfl rfl dg_0)))) ggX6_lacksThreeFrom_X6_lacksAt
theorem dX6_lacksThreeFrom_0 : decode cX6_lacksThreeFrom 0 = .ok (.aload_n 0, 1) := dq_42 dp_cX6_lacksThreeFrom rfl
theorem dX6_lacksThreeFrom_1 : decode cX6_lacksThreeFrom 1 = .ok (.iload_n 1, 1) := dq_27 dp_cX6_lacksThreeFrom rfl
theorem dX6_lacksThreeFrom_2 : decode cX6_lacksThreeFrom 2 = .ok (.invokevirtual 33, 3) := dq_182 dp_cX6_lacksThreeFrom rfl
theorem dX6_lacksThreeFrom_5 : decode cX6_lacksThreeFrom 5 = .ok (.ifCond .eq 27, 3) := dq_153 (v := 27) dp_cX6_lacksThreeFrom rfl rfl
theorem dX6_lacksThreeFrom_8 : decode cX6_lacksThreeFrom 8 = .ok (.aload_n 0, 1) := dq_42 dp_cX6_lacksThreeFrom rfl
theorem dX6_lacksThreeFrom_9 : decode cX6_lacksThreeFrom 9 = .ok (.iload_n 1, 1) := dq_27 dp_cX6_lacksThreeFrom rfl
theorem dX6_lacksThreeFrom_10 : decode cX6_lacksThreeFrom 10 = .ok (.iconst 1, 1) := dq_4 dp_cX6_lacksThreeFrom rfl
theorem dX6_lacksThreeFrom_11 : decode cX6_lacksThreeFrom 11 = .ok (.iadd, 1) := dq_96 dp_cX6_lacksThreeFrom rfl
theorem dX6_lacksThreeFrom_12 : decode cX6_lacksThreeFrom 12 = .ok (.invokevirtual 33, 3) := dq_182 dp_cX6_lacksThreeFrom rfl
theorem dX6_lacksThreeFrom_15 : decode cX6_lacksThreeFrom 15 = .ok (.ifCond .eq 17, 3) := dq_153 (v := 17) dp_cX6_lacksThreeFrom rfl rfl
theorem dX6_lacksThreeFrom_18 : decode cX6_lacksThreeFrom 18 = .ok (.aload_n 0, 1) := dq_42 dp_cX6_lacksThreeFrom rfl
theorem dX6_lacksThreeFrom_19 : decode cX6_lacksThreeFrom 19 = .ok (.iload_n 1, 1) := dq_27 dp_cX6_lacksThreeFrom rfl
theorem dX6_lacksThreeFrom_20 : decode cX6_lacksThreeFrom 20 = .ok (.iconst 2, 1) := dq_5 dp_cX6_lacksThreeFrom rfl
theorem dX6_lacksThreeFrom_21 : decode cX6_lacksThreeFrom 21 = .ok (.iadd, 1) := dq_96 dp_cX6_lacksThreeFrom rfl
theorem dX6_lacksThreeFrom_22 : decode cX6_lacksThreeFrom 22 = .ok (.invokevirtual 33, 3) := dq_182 dp_cX6_lacksThreeFrom rfl
theorem dX6_lacksThreeFrom_25 : decode cX6_lacksThreeFrom 25 = .ok (.ifCond .eq 7, 3) := dq_153 (v := 7) dp_cX6_lacksThreeFrom rfl rfl
theorem dX6_lacksThreeFrom_28 : decode cX6_lacksThreeFrom 28 = .ok (.iconst 1, 1) := dq_4 dp_cX6_lacksThreeFrom rfl
theorem dX6_lacksThreeFrom_29 : decode cX6_lacksThreeFrom 29 = .ok (.goto 4, 3) := dq_167 (v := 4) dp_cX6_lacksThreeFrom rfl rfl
theorem dX6_lacksThreeFrom_32 : decode cX6_lacksThreeFrom 32 = .ok (.iconst 0, 1) := dq_3 dp_cX6_lacksThreeFrom rfl
theorem dX6_lacksThreeFrom_33 : decode cX6_lacksThreeFrom 33 = .ok (.ireturn, 1) := dq_172 dp_cX6_lacksThreeFrom rfl
set_option maxRecDepth 20000 in
theorem gl_X6_isStrong_X60 : GoodIn wsX6_isStrong wsX60 := (dg_t (dg_t (dg_t (dg_t (dg_t (dg_t (dg_t (dg_t (dg_t (dg_t (dg_t (dg_t (dg_t (dg_t (dg_t (dg_t gw_wsX60))))))))))))))))
theorem ggX6_isStrong_X6_lacksThreeFrom : GoodIn wsX6_isStrong wsX6_lacksThreeFrom := (dg_c 6 rfl rfl (dg_c 7 rfl rfl (dg_c 8 rfl rfl (dg_c 9 rfl rfl (dg_c 5 rfl rfl (dg_c 10 rfl rfl (dg_c 11 rfl rfl (dg_c 12 rfl rfl (dg_c 13 rfl rfl (dg_c 14 rfl rfl (dg_c 15 rfl rfl (dg_c 1 rfl rfl gl_X6_isStrong_X60))))))))))))
set_option maxRecDepth 20000 in
theorem gX6_isStrong_X6_lacksThreeFrom : GoodIn wsX6_isStrong (wsV RX6 36 RX6 yX6_lacksThreeFrom wsX6_lacksThreeFrom) := goodIn_app (dg_c 2 rfl rfl (dg_c 3 rfl rfl (dg_c 4 rfl rfl (dg_c 5 rfl rfl dg_0)))) ggX6_isStrong_X6_lacksThreeFrom
theorem dX6_isStrong_0 : decode cX6_isStrong 0 = .ok (.iconst 0, 1) := dq_3 dp_cX6_isStrong rfl
theorem dX6_isStrong_1 : decode cX6_isStrong 1 = .ok (.istore_n 1, 1) := dq_60 dp_cX6_isStrong rfl
theorem dX6_isStrong_2 : decode cX6_isStrong 2 = .ok (.iload_n 1, 1) := dq_27 dp_cX6_isStrong rfl
theorem dX6_isStrong_3 : decode cX6_isStrong 3 = .ok (.aload_n 0, 1) := dq_42 dp_cX6_isStrong rfl
theorem dX6_isStrong_4 : decode cX6_isStrong 4 = .ok (.getfield 19, 3) := dq_180 dp_cX6_isStrong rfl
theorem dX6_isStrong_7 : decode cX6_isStrong 7 = .ok (.if_icmp .ge 19, 3) := dq_162 (v := 19) dp_cX6_isStrong rfl rfl
theorem dX6_isStrong_10 : decode cX6_isStrong 10 = .ok (.aload_n 0, 1) := dq_42 dp_cX6_isStrong rfl
theorem dX6_isStrong_11 : decode cX6_isStrong 11 = .ok (.iload_n 1, 1) := dq_27 dp_cX6_isStrong rfl
theorem dX6_isStrong_12 : decode cX6_isStrong 12 = .ok (.invokevirtual 36, 3) := dq_182 dp_cX6_isStrong rfl
theorem dX6_isStrong_15 : decode cX6_isStrong 15 = .ok (.ifCond .eq 5, 3) := dq_153 (v := 5) dp_cX6_isStrong rfl rfl
theorem dX6_isStrong_18 : decode cX6_isStrong 18 = .ok (.iconst 0, 1) := dq_3 dp_cX6_isStrong rfl
theorem dX6_isStrong_19 : decode cX6_isStrong 19 = .ok (.ireturn, 1) := dq_172 dp_cX6_isStrong rfl
theorem dX6_isStrong_20 : decode cX6_isStrong 20 = .ok (.iinc 1 1, 3) := dq_132 (v := 1) dp_cX6_isStrong rfl (by decide) rfl
theorem dX6_isStrong_23 : decode cX6_isStrong 23 = .ok (.goto (-21), 3) := dq_167 (v := 65515) dp_cX6_isStrong rfl rfl
theorem dX6_isStrong_26 : decode cX6_isStrong 26 = .ok (.iconst 1, 1) := dq_4 dp_cX6_isStrong rfl
theorem dX6_isStrong_27 : decode cX6_isStrong 27 = .ok (.ireturn, 1) := dq_172 dp_cX6_isStrong rfl
set_option maxRecDepth 20000 in
theorem gl_X6_frailTeeth_X60 : GoodIn wsX6_frailTeeth wsX60 := (dg_t (dg_t (dg_t (dg_t (dg_t (dg_t (dg_t (dg_t (dg_t (dg_t (dg_t (dg_t (dg_t (dg_t (dg_t (dg_t (dg_t (dg_t (dg_t (dg_t (dg_t (dg_t (dg_t (dg_t gw_wsX60))))))))))))))))))))))))
theorem ggX6_frailTeeth_X6_isStrong : GoodIn wsX6_frailTeeth wsX6_isStrong := (dg_c 7 rfl rfl (dg_c 1 rfl rfl (dg_c 8 rfl rfl (dg_c 9 rfl rfl (dg_c 10 rfl rfl (dg_c 6 rfl rfl (dg_c 11 rfl rfl (dg_c 12 rfl rfl (dg_c 13 rfl rfl (dg_c 14 rfl rfl (dg_c 15 rfl rfl (dg_c 2 rfl rfl (dg_c 16 rfl rfl (dg_c 17 rfl rfl (dg_c 18 rfl rfl (dg_c 19 rfl rfl gl_X6_frailTeeth_X60))))))))))))))))
set_option maxRecDepth 20000 in
theorem gX6_frailTeeth_X6_isStrong : GoodIn wsX6_frailTeeth (wsV RX6 39 RX6 yX6_isStrong wsX6_isStrong) := goodIn_app (dg_c 3 rfl rfl (dg_c 4 rfl rfl (dg_c 5 rfl rfl (dg_c 6 rfl rfl dg_0)))) ggX6_frailTeeth_X6_isStrong
set_option maxRecDepth 20000 in
theorem ggX6_frailTeeth_X6_isFrail : GoodIn wsX6_frailTeeth wsX6_isFrail := (dg_c 23 rfl rfl (dg_c 12 rfl rfl (dg_c 13 rfl rfl (dg_c 14 rfl rfl (dg_c 6 rfl rfl (dg_c 15 rfl rfl (dg_c 2 rfl rfl (dg_c 16 rfl rfl (dg_c 17 rfl rfl (dg_c 18 rfl rfl (dg_c 19 rfl rfl (dg_c 1 rfl rfl gl_X6_frailTeeth_X60))))))))))))
set_option maxRecDepth 20000 in
theorem gX6_frailTeeth_X6_isFrail : GoodIn wsX6_frailTeeth (wsV RX6 43 RX6 yX6_isFrail wsX6_isFrail) := goodIn_app (dg_c 20 rfl rfl (dg_c 21 rfl rfl (dg_c 22 rfl rfl (dg_c 6 rfl rfl dg_0)))) ggX6_frailTeeth_X6_isFrail
theorem dX6_frailTeeth_0 : decode cX6_frailTeeth 0 = .ok (.aload_n 0, 1) := dq_42 dp_cX6_frailTeeth rfl
theorem dX6_frailTeeth_1 : decode cX6_frailTeeth 1 = .ok (.invokevirtual 39, 3) := dq_182 dp_cX6_frailTeeth rfl
theorem dX6_frailTeeth_4 : decode cX6_frailTeeth 4 = .ok (.ifCond .ne 5, 3) := dq_154 (v := 5) dp_cX6_frailTeeth rfl rfl
theorem dX6_frailTeeth_7 : decode cX6_frailTeeth 7 = .ok (.iconst 0, 1) := dq_3 dp_cX6_frailTeeth rfl
theorem dX6_frailTeeth_8 : decode cX6_frailTeeth 8 = .ok (.ireturn, 1) := dq_172 dp_cX6_frailTeeth rfl
theorem dX6_frailTeeth_9 : decode cX6_frailTeeth 9 = .ok (.iconst 0, 1) := dq_3 dp_cX6_frailTeeth rfl
theorem dX6_frailTeeth_10 : decode cX6_frailTeeth 10 = .ok (.istore_n 1, 1) := dq_60 dp_cX6_frailTeeth rfl
theorem dX6_frailTeeth_11 : decode cX6_frailTeeth 11 = .ok (.iconst 0, 1) := dq_3 dp_cX6_frailTeeth rfl
theorem dX6_frailTeeth_12 : decode cX6_frailTeeth 12 = .ok (.istore_n 2, 1) := dq_61 dp_cX6_frailTeeth rfl
theorem dX6_frailTeeth_13 : decode cX6_frailTeeth 13 = .ok (.iload_n 2, 1) := dq_28 dp_cX6_frailTeeth rfl
theorem dX6_frailTeeth_14 : decode cX6_frailTeeth 14 = .ok (.aload_n 0, 1) := dq_42 dp_cX6_frailTeeth rfl
theorem dX6_frailTeeth_15 : decode cX6_frailTeeth 15 = .ok (.getfield 19, 3) := dq_180 dp_cX6_frailTeeth rfl
theorem dX6_frailTeeth_18 : decode cX6_frailTeeth 18 = .ok (.if_icmp .ge 29, 3) := dq_162 (v := 29) dp_cX6_frailTeeth rfl rfl
theorem dX6_frailTeeth_21 : decode cX6_frailTeeth 21 = .ok (.aload_n 0, 1) := dq_42 dp_cX6_frailTeeth rfl
theorem dX6_frailTeeth_22 : decode cX6_frailTeeth 22 = .ok (.getfield 9, 3) := dq_180 dp_cX6_frailTeeth rfl
theorem dX6_frailTeeth_25 : decode cX6_frailTeeth 25 = .ok (.iload_n 2, 1) := dq_28 dp_cX6_frailTeeth rfl
theorem dX6_frailTeeth_26 : decode cX6_frailTeeth 26 = .ok (.baload, 1) := dq_51 dp_cX6_frailTeeth rfl
theorem dX6_frailTeeth_27 : decode cX6_frailTeeth 27 = .ok (.ifCond .ne 14, 3) := dq_154 (v := 14) dp_cX6_frailTeeth rfl rfl
theorem dX6_frailTeeth_30 : decode cX6_frailTeeth 30 = .ok (.aload_n 0, 1) := dq_42 dp_cX6_frailTeeth rfl
theorem dX6_frailTeeth_31 : decode cX6_frailTeeth 31 = .ok (.iload_n 2, 1) := dq_28 dp_cX6_frailTeeth rfl
theorem dX6_frailTeeth_32 : decode cX6_frailTeeth 32 = .ok (.invokevirtual 43, 3) := dq_182 dp_cX6_frailTeeth rfl
theorem dX6_frailTeeth_35 : decode cX6_frailTeeth 35 = .ok (.ifCond .eq 6, 3) := dq_153 (v := 6) dp_cX6_frailTeeth rfl rfl
theorem dX6_frailTeeth_38 : decode cX6_frailTeeth 38 = .ok (.iinc 1 1, 3) := dq_132 (v := 1) dp_cX6_frailTeeth rfl (by decide) rfl
theorem dX6_frailTeeth_41 : decode cX6_frailTeeth 41 = .ok (.iinc 2 1, 3) := dq_132 (v := 1) dp_cX6_frailTeeth rfl (by decide) rfl
theorem dX6_frailTeeth_44 : decode cX6_frailTeeth 44 = .ok (.goto (-31), 3) := dq_167 (v := 65505) dp_cX6_frailTeeth rfl rfl
theorem dX6_frailTeeth_47 : decode cX6_frailTeeth 47 = .ok (.iload_n 1, 1) := dq_27 dp_cX6_frailTeeth rfl
theorem dX6_frailTeeth_48 : decode cX6_frailTeeth 48 = .ok (.ireturn, 1) := dq_172 dp_cX6_frailTeeth rfl
set_option maxRecDepth 20000 in
theorem gl_X6_isFrail_X60 : GoodIn wsX6_isFrail wsX60 := (dg_t (dg_t (dg_t (dg_t (dg_t (dg_t (dg_t (dg_t (dg_t (dg_t (dg_t (dg_t gw_wsX60))))))))))))
theorem ggX6_isFrail_X6_lacksAt : GoodIn wsX6_isFrail wsX6_lacksAt := (dg_c 5 rfl rfl (dg_c 6 rfl rfl (dg_c 7 rfl rfl (dg_c 8 rfl rfl (dg_c 9 rfl rfl (dg_c 4 rfl rfl (dg_c 10 rfl rfl (dg_c 11 rfl rfl gl_X6_isFrail_X60))))))))
set_option maxRecDepth 20000 in
theorem gX6_isFrail_X6_lacksAt : GoodIn wsX6_isFrail (wsV RX6 33 RX6 yX6_lacksAt wsX6_lacksAt) := goodIn_app (dg_c 1 rfl rfl (dg_c 2 rfl rfl (dg_c 3 rfl rfl (dg_c 4 rfl rfl dg_0)))) ggX6_isFrail_X6_lacksAt
theorem dX6_isFrail_0 : decode cX6_isFrail 0 = .ok (.aload_n 0, 1) := dq_42 dp_cX6_isFrail rfl
theorem dX6_isFrail_1 : decode cX6_isFrail 1 = .ok (.iload_n 1, 1) := dq_27 dp_cX6_isFrail rfl
theorem dX6_isFrail_2 : decode cX6_isFrail 2 = .ok (.iconst 1, 1) := dq_4 dp_cX6_isFrail rfl
theorem dX6_isFrail_3 : decode cX6_isFrail 3 = .ok (.isub, 1) := dq_100 dp_cX6_isFrail rfl
theorem dX6_isFrail_4 : decode cX6_isFrail 4 = .ok (.invokevirtual 33, 3) := dq_182 dp_cX6_isFrail rfl
theorem dX6_isFrail_7 : decode cX6_isFrail 7 = .ok (.istore_n 2, 1) := dq_61 dp_cX6_isFrail rfl
theorem dX6_isFrail_8 : decode cX6_isFrail 8 = .ok (.aload_n 0, 1) := dq_42 dp_cX6_isFrail rfl
theorem dX6_isFrail_9 : decode cX6_isFrail 9 = .ok (.iload_n 1, 1) := dq_27 dp_cX6_isFrail rfl
theorem dX6_isFrail_10 : decode cX6_isFrail 10 = .ok (.iconst 1, 1) := dq_4 dp_cX6_isFrail rfl
theorem dX6_isFrail_11 : decode cX6_isFrail 11 = .ok (.iadd, 1) := dq_96 dp_cX6_isFrail rfl
theorem dX6_isFrail_12 : decode cX6_isFrail 12 = .ok (.invokevirtual 33, 3) := dq_182 dp_cX6_isFrail rfl
theorem dX6_isFrail_15 : decode cX6_isFrail 15 = .ok (.istore_n 3, 1) := dq_62 dp_cX6_isFrail rfl
theorem dX6_isFrail_16 : decode cX6_isFrail 16 = .ok (.iload_n 2, 1) := dq_28 dp_cX6_isFrail rfl
theorem dX6_isFrail_17 : decode cX6_isFrail 17 = .ok (.ifCond .eq 13, 3) := dq_153 (v := 13) dp_cX6_isFrail rfl rfl
theorem dX6_isFrail_20 : decode cX6_isFrail 20 = .ok (.aload_n 0, 1) := dq_42 dp_cX6_isFrail rfl
theorem dX6_isFrail_21 : decode cX6_isFrail 21 = .ok (.iload_n 1, 1) := dq_27 dp_cX6_isFrail rfl
theorem dX6_isFrail_22 : decode cX6_isFrail 22 = .ok (.iconst 2, 1) := dq_5 dp_cX6_isFrail rfl
theorem dX6_isFrail_23 : decode cX6_isFrail 23 = .ok (.isub, 1) := dq_100 dp_cX6_isFrail rfl
theorem dX6_isFrail_24 : decode cX6_isFrail 24 = .ok (.invokevirtual 33, 3) := dq_182 dp_cX6_isFrail rfl
theorem dX6_isFrail_27 : decode cX6_isFrail 27 = .ok (.ifCond .ne 25, 3) := dq_154 (v := 25) dp_cX6_isFrail rfl rfl
theorem dX6_isFrail_30 : decode cX6_isFrail 30 = .ok (.iload_n 2, 1) := dq_28 dp_cX6_isFrail rfl
theorem dX6_isFrail_31 : decode cX6_isFrail 31 = .ok (.ifCond .eq 7, 3) := dq_153 (v := 7) dp_cX6_isFrail rfl rfl
theorem dX6_isFrail_34 : decode cX6_isFrail 34 = .ok (.iload_n 3, 1) := dq_29 dp_cX6_isFrail rfl
theorem dX6_isFrail_35 : decode cX6_isFrail 35 = .ok (.ifCond .ne 17, 3) := dq_154 (v := 17) dp_cX6_isFrail rfl rfl
theorem dX6_isFrail_38 : decode cX6_isFrail 38 = .ok (.iload_n 3, 1) := dq_29 dp_cX6_isFrail rfl
theorem dX6_isFrail_39 : decode cX6_isFrail 39 = .ok (.ifCond .eq 17, 3) := dq_153 (v := 17) dp_cX6_isFrail rfl rfl
theorem dX6_isFrail_42 : decode cX6_isFrail 42 = .ok (.aload_n 0, 1) := dq_42 dp_cX6_isFrail rfl
theorem dX6_isFrail_43 : decode cX6_isFrail 43 = .ok (.iload_n 1, 1) := dq_27 dp_cX6_isFrail rfl
theorem dX6_isFrail_44 : decode cX6_isFrail 44 = .ok (.iconst 2, 1) := dq_5 dp_cX6_isFrail rfl
theorem dX6_isFrail_45 : decode cX6_isFrail 45 = .ok (.iadd, 1) := dq_96 dp_cX6_isFrail rfl
theorem dX6_isFrail_46 : decode cX6_isFrail 46 = .ok (.invokevirtual 33, 3) := dq_182 dp_cX6_isFrail rfl
theorem dX6_isFrail_49 : decode cX6_isFrail 49 = .ok (.ifCond .eq 7, 3) := dq_153 (v := 7) dp_cX6_isFrail rfl rfl
theorem dX6_isFrail_52 : decode cX6_isFrail 52 = .ok (.iconst 1, 1) := dq_4 dp_cX6_isFrail rfl
theorem dX6_isFrail_53 : decode cX6_isFrail 53 = .ok (.goto 4, 3) := dq_167 (v := 4) dp_cX6_isFrail rfl rfl
theorem dX6_isFrail_56 : decode cX6_isFrail 56 = .ok (.iconst 0, 1) := dq_3 dp_cX6_isFrail rfl
theorem dX6_isFrail_57 : decode cX6_isFrail 57 = .ok (.ireturn, 1) := dq_172 dp_cX6_isFrail rfl
set_option maxRecDepth 20000 in
theorem gl_X6_spareTeeth_X60 : GoodIn wsX6_spareTeeth wsX60 := (dg_t (dg_t (dg_t (dg_t (dg_t (dg_t (dg_t (dg_t (dg_t (dg_t (dg_t (dg_t (dg_t (dg_t (dg_t (dg_t (dg_t (dg_t (dg_t (dg_t (dg_t (dg_t (dg_t (dg_t gw_wsX60))))))))))))))))))))))))
theorem ggX6_spareTeeth_X6_isStrong : GoodIn wsX6_spareTeeth wsX6_isStrong := (dg_c 11 rfl rfl (dg_c 1 rfl rfl (dg_c 12 rfl rfl (dg_c 13 rfl rfl (dg_c 14 rfl rfl (dg_c 10 rfl rfl (dg_c 15 rfl rfl (dg_c 16 rfl rfl (dg_c 17 rfl rfl (dg_c 18 rfl rfl (dg_c 19 rfl rfl (dg_c 2 rfl rfl (dg_c 20 rfl rfl (dg_c 21 rfl rfl (dg_c 22 rfl rfl (dg_c 23 rfl rfl gl_X6_spareTeeth_X60))))))))))))))))
set_option maxRecDepth 20000 in
theorem gX6_spareTeeth_X6_isStrong : GoodIn wsX6_spareTeeth (wsV RX6 39 RX6 yX6_isStrong wsX6_isStrong) := goodIn_app (dg_c 7 rfl rfl (dg_c 8 rfl rfl (dg_c 9 rfl rfl (dg_c 10 rfl rfl dg_0)))) ggX6_spareTeeth_X6_isStrong
theorem dX6_spareTeeth_0 : decode cX6_spareTeeth 0 = .ok (.aload_n 0, 1) := dq_42 dp_cX6_spareTeeth rfl
theorem dX6_spareTeeth_1 : decode cX6_spareTeeth 1 = .ok (.invokevirtual 39, 3) := dq_182 dp_cX6_spareTeeth rfl
theorem dX6_spareTeeth_4 : decode cX6_spareTeeth 4 = .ok (.ifCond .ne 5, 3) := dq_154 (v := 5) dp_cX6_spareTeeth rfl rfl
theorem dX6_spareTeeth_7 : decode cX6_spareTeeth 7 = .ok (.iconst 0, 1) := dq_3 dp_cX6_spareTeeth rfl
theorem dX6_spareTeeth_8 : decode cX6_spareTeeth 8 = .ok (.ireturn, 1) := dq_172 dp_cX6_spareTeeth rfl
theorem dX6_spareTeeth_9 : decode cX6_spareTeeth 9 = .ok (.bipush (-41), 2) := dq_16 (v := 215) dp_cX6_spareTeeth rfl rfl
theorem dX6_spareTeeth_11 : decode cX6_spareTeeth 11 = .ok (.istore_n 1, 1) := dq_60 dp_cX6_spareTeeth rfl
theorem dX6_spareTeeth_12 : decode cX6_spareTeeth 12 = .ok (.iconst 0, 1) := dq_3 dp_cX6_spareTeeth rfl
theorem dX6_spareTeeth_13 : decode cX6_spareTeeth 13 = .ok (.istore_n 2, 1) := dq_61 dp_cX6_spareTeeth rfl
theorem dX6_spareTeeth_14 : decode cX6_spareTeeth 14 = .ok (.iload_n 1, 1) := dq_27 dp_cX6_spareTeeth rfl
theorem dX6_spareTeeth_15 : decode cX6_spareTeeth 15 = .ok (.istore_n 3, 1) := dq_62 dp_cX6_spareTeeth rfl
theorem dX6_spareTeeth_16 : decode cX6_spareTeeth 16 = .ok (.iload_n 1, 1) := dq_27 dp_cX6_spareTeeth rfl
theorem dX6_spareTeeth_17 : decode cX6_spareTeeth 17 = .ok (.istore 4, 2) := dq_54 dp_cX6_spareTeeth rfl
theorem dX6_spareTeeth_19 : decode cX6_spareTeeth 19 = .ok (.iconst 0, 1) := dq_3 dp_cX6_spareTeeth rfl
theorem dX6_spareTeeth_20 : decode cX6_spareTeeth 20 = .ok (.istore 5, 2) := dq_54 dp_cX6_spareTeeth rfl
theorem dX6_spareTeeth_22 : decode cX6_spareTeeth 22 = .ok (.iload 5, 2) := dq_21 dp_cX6_spareTeeth rfl
theorem dX6_spareTeeth_24 : decode cX6_spareTeeth 24 = .ok (.aload_n 0, 1) := dq_42 dp_cX6_spareTeeth rfl
theorem dX6_spareTeeth_25 : decode cX6_spareTeeth 25 = .ok (.getfield 19, 3) := dq_180 dp_cX6_spareTeeth rfl
theorem dX6_spareTeeth_28 : decode cX6_spareTeeth 28 = .ok (.if_icmp .ge 66, 3) := dq_162 (v := 66) dp_cX6_spareTeeth rfl rfl
theorem dX6_spareTeeth_31 : decode cX6_spareTeeth 31 = .ok (.aload_n 0, 1) := dq_42 dp_cX6_spareTeeth rfl
theorem dX6_spareTeeth_32 : decode cX6_spareTeeth 32 = .ok (.getfield 9, 3) := dq_180 dp_cX6_spareTeeth rfl
theorem dX6_spareTeeth_35 : decode cX6_spareTeeth 35 = .ok (.iload 5, 2) := dq_21 dp_cX6_spareTeeth rfl
theorem dX6_spareTeeth_37 : decode cX6_spareTeeth 37 = .ok (.baload, 1) := dq_51 dp_cX6_spareTeeth rfl
theorem dX6_spareTeeth_38 : decode cX6_spareTeeth 38 = .ok (.ifCond .eq 7, 3) := dq_153 (v := 7) dp_cX6_spareTeeth rfl rfl
theorem dX6_spareTeeth_41 : decode cX6_spareTeeth 41 = .ok (.iconst 0, 1) := dq_3 dp_cX6_spareTeeth rfl
theorem dX6_spareTeeth_42 : decode cX6_spareTeeth 42 = .ok (.goto 4, 3) := dq_167 (v := 4) dp_cX6_spareTeeth rfl rfl
theorem dX6_spareTeeth_45 : decode cX6_spareTeeth 45 = .ok (.iconst 1, 1) := dq_4 dp_cX6_spareTeeth rfl
theorem dX6_spareTeeth_46 : decode cX6_spareTeeth 46 = .ok (.istore 6, 2) := dq_54 dp_cX6_spareTeeth rfl
theorem dX6_spareTeeth_48 : decode cX6_spareTeeth 48 = .ok (.iload_n 2, 1) := dq_28 dp_cX6_spareTeeth rfl
theorem dX6_spareTeeth_49 : decode cX6_spareTeeth 49 = .ok (.iload_n 3, 1) := dq_29 dp_cX6_spareTeeth rfl
theorem dX6_spareTeeth_50 : decode cX6_spareTeeth 50 = .ok (.iload 4, 2) := dq_21 dp_cX6_spareTeeth rfl
theorem dX6_spareTeeth_52 : decode cX6_spareTeeth 52 = .ok (.invokestatic 46, 3) := dq_184 dp_cX6_spareTeeth rfl
theorem dX6_spareTeeth_55 : decode cX6_spareTeeth 55 = .ok (.invokestatic 46, 3) := dq_184 dp_cX6_spareTeeth rfl
theorem dX6_spareTeeth_58 : decode cX6_spareTeeth 58 = .ok (.istore 7, 2) := dq_54 dp_cX6_spareTeeth rfl
theorem dX6_spareTeeth_60 : decode cX6_spareTeeth 60 = .ok (.iload_n 3, 1) := dq_29 dp_cX6_spareTeeth rfl
theorem dX6_spareTeeth_61 : decode cX6_spareTeeth 61 = .ok (.iload 6, 2) := dq_21 dp_cX6_spareTeeth rfl
theorem dX6_spareTeeth_63 : decode cX6_spareTeeth 63 = .ok (.iadd, 1) := dq_96 dp_cX6_spareTeeth rfl
theorem dX6_spareTeeth_64 : decode cX6_spareTeeth 64 = .ok (.istore 4, 2) := dq_54 dp_cX6_spareTeeth rfl
theorem dX6_spareTeeth_66 : decode cX6_spareTeeth 66 = .ok (.iload_n 2, 1) := dq_28 dp_cX6_spareTeeth rfl
theorem dX6_spareTeeth_67 : decode cX6_spareTeeth 67 = .ok (.iload 6, 2) := dq_21 dp_cX6_spareTeeth rfl
theorem dX6_spareTeeth_69 : decode cX6_spareTeeth 69 = .ok (.iadd, 1) := dq_96 dp_cX6_spareTeeth rfl
theorem dX6_spareTeeth_70 : decode cX6_spareTeeth 70 = .ok (.istore_n 3, 1) := dq_62 dp_cX6_spareTeeth rfl
theorem dX6_spareTeeth_71 : decode cX6_spareTeeth 71 = .ok (.aload_n 0, 1) := dq_42 dp_cX6_spareTeeth rfl
theorem dX6_spareTeeth_72 : decode cX6_spareTeeth 72 = .ok (.getfield 9, 3) := dq_180 dp_cX6_spareTeeth rfl
theorem dX6_spareTeeth_75 : decode cX6_spareTeeth 75 = .ok (.iload 5, 2) := dq_21 dp_cX6_spareTeeth rfl
theorem dX6_spareTeeth_77 : decode cX6_spareTeeth 77 = .ok (.baload, 1) := dq_51 dp_cX6_spareTeeth rfl
theorem dX6_spareTeeth_78 : decode cX6_spareTeeth 78 = .ok (.ifCond .eq 7, 3) := dq_153 (v := 7) dp_cX6_spareTeeth rfl rfl
theorem dX6_spareTeeth_81 : decode cX6_spareTeeth 81 = .ok (.iload_n 1, 1) := dq_27 dp_cX6_spareTeeth rfl
theorem dX6_spareTeeth_82 : decode cX6_spareTeeth 82 = .ok (.goto 5, 3) := dq_167 (v := 5) dp_cX6_spareTeeth rfl rfl
theorem dX6_spareTeeth_85 : decode cX6_spareTeeth 85 = .ok (.iload 7, 2) := dq_21 dp_cX6_spareTeeth rfl
theorem dX6_spareTeeth_87 : decode cX6_spareTeeth 87 = .ok (.istore_n 2, 1) := dq_61 dp_cX6_spareTeeth rfl
theorem dX6_spareTeeth_88 : decode cX6_spareTeeth 88 = .ok (.iinc 5 1, 3) := dq_132 (v := 1) dp_cX6_spareTeeth rfl (by decide) rfl
theorem dX6_spareTeeth_91 : decode cX6_spareTeeth 91 = .ok (.goto (-69), 3) := dq_167 (v := 65467) dp_cX6_spareTeeth rfl rfl
theorem dX6_spareTeeth_94 : decode cX6_spareTeeth 94 = .ok (.iload_n 2, 1) := dq_28 dp_cX6_spareTeeth rfl
theorem dX6_spareTeeth_95 : decode cX6_spareTeeth 95 = .ok (.iload_n 3, 1) := dq_29 dp_cX6_spareTeeth rfl
theorem dX6_spareTeeth_96 : decode cX6_spareTeeth 96 = .ok (.iload 4, 2) := dq_21 dp_cX6_spareTeeth rfl
theorem dX6_spareTeeth_98 : decode cX6_spareTeeth 98 = .ok (.invokestatic 46, 3) := dq_184 dp_cX6_spareTeeth rfl
theorem dX6_spareTeeth_101 : decode cX6_spareTeeth 101 = .ok (.invokestatic 46, 3) := dq_184 dp_cX6_spareTeeth rfl
theorem dX6_spareTeeth_104 : decode cX6_spareTeeth 104 = .ok (.ireturn, 1) := dq_172 dp_cX6_spareTeeth rfl
theorem dX6_lackingTeeth_0 : decode cX6_lackingTeeth 0 = .ok (.iconst 0, 1) := dq_3 dp_cX6_lackingTeeth rfl
theorem dX6_lackingTeeth_1 : decode cX6_lackingTeeth 1 = .ok (.istore_n 1, 1) := dq_60 dp_cX6_lackingTeeth rfl
theorem dX6_lackingTeeth_2 : decode cX6_lackingTeeth 2 = .ok (.iconst 0, 1) := dq_3 dp_cX6_lackingTeeth rfl
theorem dX6_lackingTeeth_3 : decode cX6_lackingTeeth 3 = .ok (.istore_n 2, 1) := dq_61 dp_cX6_lackingTeeth rfl
theorem dX6_lackingTeeth_4 : decode cX6_lackingTeeth 4 = .ok (.iload_n 2, 1) := dq_28 dp_cX6_lackingTeeth rfl
theorem dX6_lackingTeeth_5 : decode cX6_lackingTeeth 5 = .ok (.aload_n 0, 1) := dq_42 dp_cX6_lackingTeeth rfl
theorem dX6_lackingTeeth_6 : decode cX6_lackingTeeth 6 = .ok (.getfield 19, 3) := dq_180 dp_cX6_lackingTeeth rfl
theorem dX6_lackingTeeth_9 : decode cX6_lackingTeeth 9 = .ok (.if_icmp .ge 21, 3) := dq_162 (v := 21) dp_cX6_lackingTeeth rfl rfl
theorem dX6_lackingTeeth_12 : decode cX6_lackingTeeth 12 = .ok (.aload_n 0, 1) := dq_42 dp_cX6_lackingTeeth rfl
theorem dX6_lackingTeeth_13 : decode cX6_lackingTeeth 13 = .ok (.getfield 9, 3) := dq_180 dp_cX6_lackingTeeth rfl
theorem dX6_lackingTeeth_16 : decode cX6_lackingTeeth 16 = .ok (.iload_n 2, 1) := dq_28 dp_cX6_lackingTeeth rfl
theorem dX6_lackingTeeth_17 : decode cX6_lackingTeeth 17 = .ok (.baload, 1) := dq_51 dp_cX6_lackingTeeth rfl
theorem dX6_lackingTeeth_18 : decode cX6_lackingTeeth 18 = .ok (.ifCond .eq 6, 3) := dq_153 (v := 6) dp_cX6_lackingTeeth rfl rfl
theorem dX6_lackingTeeth_21 : decode cX6_lackingTeeth 21 = .ok (.iinc 1 1, 3) := dq_132 (v := 1) dp_cX6_lackingTeeth rfl (by decide) rfl
theorem dX6_lackingTeeth_24 : decode cX6_lackingTeeth 24 = .ok (.iinc 2 1, 3) := dq_132 (v := 1) dp_cX6_lackingTeeth rfl (by decide) rfl
theorem dX6_lackingTeeth_27 : decode cX6_lackingTeeth 27 = .ok (.goto (-23), 3) := dq_167 (v := 65513) dp_cX6_lackingTeeth rfl rfl
theorem dX6_lackingTeeth_30 : decode cX6_lackingTeeth 30 = .ok (.iload_n 1, 1) := dq_27 dp_cX6_lackingTeeth rfl
theorem dX6_lackingTeeth_31 : decode cX6_lackingTeeth 31 = .ok (.ireturn, 1) := dq_172 dp_cX6_lackingTeeth rfl
set_option maxRecDepth 20000 in
theorem gl_X6_catchingTeeth_X60 : GoodIn wsX6_catchingTeeth wsX60 := (dg_t (dg_t (dg_t (dg_t (dg_t (dg_t (dg_t (dg_t (dg_t (dg_t (dg_t (dg_t (dg_t (dg_t gw_wsX60))))))))))))))
theorem ggX6_catchingTeeth_X6_catchesAt : GoodIn wsX6_catchingTeeth wsX6_catchesAt := (dg_c 6 rfl rfl (dg_c 7 rfl rfl (dg_c 8 rfl rfl (dg_c 9 rfl rfl (dg_c 10 rfl rfl (dg_c 11 rfl rfl (dg_c 12 rfl rfl (dg_c 5 rfl rfl (dg_c 13 rfl rfl (dg_c 1 rfl rfl gl_X6_catchingTeeth_X60))))))))))
set_option maxRecDepth 20000 in
theorem gX6_catchingTeeth_X6_catchesAt : GoodIn wsX6_catchingTeeth (wsV RX6 52 RX6 yX6_catchesAt wsX6_catchesAt) := goodIn_app (dg_c 2 rfl rfl (dg_c 3 rfl rfl (dg_c 4 rfl rfl (dg_c 5 rfl rfl dg_0)))) ggX6_catchingTeeth_X6_catchesAt
theorem dX6_catchingTeeth_0 : decode cX6_catchingTeeth 0 = .ok (.iconst 0, 1) := dq_3 dp_cX6_catchingTeeth rfl
theorem dX6_catchingTeeth_1 : decode cX6_catchingTeeth 1 = .ok (.istore_n 2, 1) := dq_61 dp_cX6_catchingTeeth rfl
theorem dX6_catchingTeeth_2 : decode cX6_catchingTeeth 2 = .ok (.iconst 0, 1) := dq_3 dp_cX6_catchingTeeth rfl
theorem dX6_catchingTeeth_3 : decode cX6_catchingTeeth 3 = .ok (.istore_n 3, 1) := dq_62 dp_cX6_catchingTeeth rfl
theorem dX6_catchingTeeth_4 : decode cX6_catchingTeeth 4 = .ok (.iload_n 3, 1) := dq_29 dp_cX6_catchingTeeth rfl
theorem dX6_catchingTeeth_5 : decode cX6_catchingTeeth 5 = .ok (.aload_n 0, 1) := dq_42 dp_cX6_catchingTeeth rfl
theorem dX6_catchingTeeth_6 : decode cX6_catchingTeeth 6 = .ok (.getfield 19, 3) := dq_180 dp_cX6_catchingTeeth rfl
theorem dX6_catchingTeeth_9 : decode cX6_catchingTeeth 9 = .ok (.if_icmp .ge 27, 3) := dq_162 (v := 27) dp_cX6_catchingTeeth rfl rfl
theorem dX6_catchingTeeth_12 : decode cX6_catchingTeeth 12 = .ok (.aload_n 0, 1) := dq_42 dp_cX6_catchingTeeth rfl
theorem dX6_catchingTeeth_13 : decode cX6_catchingTeeth 13 = .ok (.iload_n 3, 1) := dq_29 dp_cX6_catchingTeeth rfl
theorem dX6_catchingTeeth_14 : decode cX6_catchingTeeth 14 = .ok (.invokevirtual 52, 3) := dq_182 dp_cX6_catchingTeeth rfl
theorem dX6_catchingTeeth_17 : decode cX6_catchingTeeth 17 = .ok (.ifCond .eq 13, 3) := dq_153 (v := 13) dp_cX6_catchingTeeth rfl rfl
theorem dX6_catchingTeeth_20 : decode cX6_catchingTeeth 20 = .ok (.iload_n 2, 1) := dq_28 dp_cX6_catchingTeeth rfl
theorem dX6_catchingTeeth_21 : decode cX6_catchingTeeth 21 = .ok (.iload_n 1, 1) := dq_27 dp_cX6_catchingTeeth rfl
theorem dX6_catchingTeeth_22 : decode cX6_catchingTeeth 22 = .ok (.if_icmp .ne 5, 3) := dq_160 (v := 5) dp_cX6_catchingTeeth rfl rfl
theorem dX6_catchingTeeth_25 : decode cX6_catchingTeeth 25 = .ok (.iload_n 3, 1) := dq_29 dp_cX6_catchingTeeth rfl
theorem dX6_catchingTeeth_26 : decode cX6_catchingTeeth 26 = .ok (.ireturn, 1) := dq_172 dp_cX6_catchingTeeth rfl
theorem dX6_catchingTeeth_27 : decode cX6_catchingTeeth 27 = .ok (.iinc 2 1, 3) := dq_132 (v := 1) dp_cX6_catchingTeeth rfl (by decide) rfl
theorem dX6_catchingTeeth_30 : decode cX6_catchingTeeth 30 = .ok (.iinc 3 1, 3) := dq_132 (v := 1) dp_cX6_catchingTeeth rfl (by decide) rfl
theorem dX6_catchingTeeth_33 : decode cX6_catchingTeeth 33 = .ok (.goto (-29), 3) := dq_167 (v := 65507) dp_cX6_catchingTeeth rfl rfl
theorem dX6_catchingTeeth_36 : decode cX6_catchingTeeth 36 = .ok (.iload_n 1, 1) := dq_27 dp_cX6_catchingTeeth rfl
theorem dX6_catchingTeeth_37 : decode cX6_catchingTeeth 37 = .ok (.iconst (-1), 1) := dq_2 dp_cX6_catchingTeeth rfl
theorem dX6_catchingTeeth_38 : decode cX6_catchingTeeth 38 = .ok (.if_icmp .ne 7, 3) := dq_160 (v := 7) dp_cX6_catchingTeeth rfl rfl
theorem dX6_catchingTeeth_41 : decode cX6_catchingTeeth 41 = .ok (.iload_n 2, 1) := dq_28 dp_cX6_catchingTeeth rfl
theorem dX6_catchingTeeth_42 : decode cX6_catchingTeeth 42 = .ok (.goto 4, 3) := dq_167 (v := 4) dp_cX6_catchingTeeth rfl rfl
theorem dX6_catchingTeeth_45 : decode cX6_catchingTeeth 45 = .ok (.iconst (-1), 1) := dq_2 dp_cX6_catchingTeeth rfl
theorem dX6_catchingTeeth_46 : decode cX6_catchingTeeth 46 = .ok (.ireturn, 1) := dq_172 dp_cX6_catchingTeeth rfl
set_option maxRecDepth 20000 in
theorem gl_X6_stitchesNeeded_X60 : GoodIn wsX6_stitchesNeeded wsX60 := (dg_t (dg_t (dg_t (dg_t (dg_t (dg_t (dg_t (dg_t (dg_t (dg_t (dg_t (dg_t (dg_t (dg_t (dg_t (dg_t (dg_t (dg_t gw_wsX60))))))))))))))))))
theorem ggX6_stitchesNeeded_X6_catchesAt : GoodIn wsX6_stitchesNeeded wsX6_catchesAt := (dg_c 10 rfl rfl (dg_c 11 rfl rfl (dg_c 12 rfl rfl (dg_c 13 rfl rfl (dg_c 14 rfl rfl (dg_c 15 rfl rfl (dg_c 16 rfl rfl (dg_c 9 rfl rfl (dg_c 17 rfl rfl (dg_c 1 rfl rfl gl_X6_stitchesNeeded_X60))))))))))
set_option maxRecDepth 20000 in
theorem gX6_stitchesNeeded_X6_catchesAt : GoodIn wsX6_stitchesNeeded (wsV RX6 52 RX6 yX6_catchesAt wsX6_catchesAt) := goodIn_app (dg_c 6 rfl rfl (dg_c 7 rfl rfl (dg_c 8 rfl rfl (dg_c 9 rfl rfl dg_0)))) ggX6_stitchesNeeded_X6_catchesAt
theorem dX6_stitchesNeeded_0 : decode cX6_stitchesNeeded 0 = .ok (.iconst 0, 1) := dq_3 dp_cX6_stitchesNeeded rfl
theorem dX6_stitchesNeeded_1 : decode cX6_stitchesNeeded 1 = .ok (.istore_n 2, 1) := dq_61 dp_cX6_stitchesNeeded rfl
theorem dX6_stitchesNeeded_2 : decode cX6_stitchesNeeded 2 = .ok (.iconst 0, 1) := dq_3 dp_cX6_stitchesNeeded rfl
theorem dX6_stitchesNeeded_3 : decode cX6_stitchesNeeded 3 = .ok (.istore_n 3, 1) := dq_62 dp_cX6_stitchesNeeded rfl
theorem dX6_stitchesNeeded_4 : decode cX6_stitchesNeeded 4 = .ok (.iconst 0, 1) := dq_3 dp_cX6_stitchesNeeded rfl
theorem dX6_stitchesNeeded_5 : decode cX6_stitchesNeeded 5 = .ok (.istore 4, 2) := dq_54 dp_cX6_stitchesNeeded rfl
theorem dX6_stitchesNeeded_7 : decode cX6_stitchesNeeded 7 = .ok (.iload 4, 2) := dq_21 dp_cX6_stitchesNeeded rfl
theorem dX6_stitchesNeeded_9 : decode cX6_stitchesNeeded 9 = .ok (.aload_n 0, 1) := dq_42 dp_cX6_stitchesNeeded rfl
theorem dX6_stitchesNeeded_10 : decode cX6_stitchesNeeded 10 = .ok (.getfield 19, 3) := dq_180 dp_cX6_stitchesNeeded rfl
theorem dX6_stitchesNeeded_13 : decode cX6_stitchesNeeded 13 = .ok (.if_icmp .ge 55, 3) := dq_162 (v := 55) dp_cX6_stitchesNeeded rfl rfl
theorem dX6_stitchesNeeded_16 : decode cX6_stitchesNeeded 16 = .ok (.iload 4, 2) := dq_21 dp_cX6_stitchesNeeded rfl
theorem dX6_stitchesNeeded_18 : decode cX6_stitchesNeeded 18 = .ok (.iload_n 3, 1) := dq_29 dp_cX6_stitchesNeeded rfl
theorem dX6_stitchesNeeded_19 : decode cX6_stitchesNeeded 19 = .ok (.if_icmp .lt 43, 3) := dq_161 (v := 43) dp_cX6_stitchesNeeded rfl rfl
theorem dX6_stitchesNeeded_22 : decode cX6_stitchesNeeded 22 = .ok (.aload_n 0, 1) := dq_42 dp_cX6_stitchesNeeded rfl
theorem dX6_stitchesNeeded_23 : decode cX6_stitchesNeeded 23 = .ok (.iload 4, 2) := dq_21 dp_cX6_stitchesNeeded rfl
theorem dX6_stitchesNeeded_25 : decode cX6_stitchesNeeded 25 = .ok (.invokevirtual 52, 3) := dq_182 dp_cX6_stitchesNeeded rfl
theorem dX6_stitchesNeeded_28 : decode cX6_stitchesNeeded 28 = .ok (.ifCond .eq 34, 3) := dq_153 (v := 34) dp_cX6_stitchesNeeded rfl rfl
theorem dX6_stitchesNeeded_31 : decode cX6_stitchesNeeded 31 = .ok (.iload 4, 2) := dq_21 dp_cX6_stitchesNeeded rfl
theorem dX6_stitchesNeeded_33 : decode cX6_stitchesNeeded 33 = .ok (.iconst 2, 1) := dq_5 dp_cX6_stitchesNeeded rfl
theorem dX6_stitchesNeeded_34 : decode cX6_stitchesNeeded 34 = .ok (.iadd, 1) := dq_96 dp_cX6_stitchesNeeded rfl
theorem dX6_stitchesNeeded_35 : decode cX6_stitchesNeeded 35 = .ok (.aload_n 0, 1) := dq_42 dp_cX6_stitchesNeeded rfl
theorem dX6_stitchesNeeded_36 : decode cX6_stitchesNeeded 36 = .ok (.getfield 19, 3) := dq_180 dp_cX6_stitchesNeeded rfl
theorem dX6_stitchesNeeded_39 : decode cX6_stitchesNeeded 39 = .ok (.iconst 1, 1) := dq_4 dp_cX6_stitchesNeeded rfl
theorem dX6_stitchesNeeded_40 : decode cX6_stitchesNeeded 40 = .ok (.isub, 1) := dq_100 dp_cX6_stitchesNeeded rfl
theorem dX6_stitchesNeeded_41 : decode cX6_stitchesNeeded 41 = .ok (.invokestatic 55, 3) := dq_184 dp_cX6_stitchesNeeded rfl
theorem dX6_stitchesNeeded_44 : decode cX6_stitchesNeeded 44 = .ok (.istore 5, 2) := dq_54 dp_cX6_stitchesNeeded rfl
theorem dX6_stitchesNeeded_46 : decode cX6_stitchesNeeded 46 = .ok (.iload_n 2, 1) := dq_28 dp_cX6_stitchesNeeded rfl
theorem dX6_stitchesNeeded_47 : decode cX6_stitchesNeeded 47 = .ok (.iload_n 1, 1) := dq_27 dp_cX6_stitchesNeeded rfl
theorem dX6_stitchesNeeded_48 : decode cX6_stitchesNeeded 48 = .ok (.if_icmp .ne 6, 3) := dq_160 (v := 6) dp_cX6_stitchesNeeded rfl rfl
theorem dX6_stitchesNeeded_51 : decode cX6_stitchesNeeded 51 = .ok (.iload 5, 2) := dq_21 dp_cX6_stitchesNeeded rfl
theorem dX6_stitchesNeeded_53 : decode cX6_stitchesNeeded 53 = .ok (.ireturn, 1) := dq_172 dp_cX6_stitchesNeeded rfl
theorem dX6_stitchesNeeded_54 : decode cX6_stitchesNeeded 54 = .ok (.iinc 2 1, 3) := dq_132 (v := 1) dp_cX6_stitchesNeeded rfl (by decide) rfl
theorem dX6_stitchesNeeded_57 : decode cX6_stitchesNeeded 57 = .ok (.iload 5, 2) := dq_21 dp_cX6_stitchesNeeded rfl
theorem dX6_stitchesNeeded_59 : decode cX6_stitchesNeeded 59 = .ok (.iconst 3, 1) := dq_6 dp_cX6_stitchesNeeded rfl
theorem dX6_stitchesNeeded_60 : decode cX6_stitchesNeeded 60 = .ok (.iadd, 1) := dq_96 dp_cX6_stitchesNeeded rfl
theorem dX6_stitchesNeeded_61 : decode cX6_stitchesNeeded 61 = .ok (.istore_n 3, 1) := dq_62 dp_cX6_stitchesNeeded rfl
theorem dX6_stitchesNeeded_62 : decode cX6_stitchesNeeded 62 = .ok (.iinc 4 1, 3) := dq_132 (v := 1) dp_cX6_stitchesNeeded rfl (by decide) rfl
theorem dX6_stitchesNeeded_65 : decode cX6_stitchesNeeded 65 = .ok (.goto (-58), 3) := dq_167 (v := 65478) dp_cX6_stitchesNeeded rfl rfl
theorem dX6_stitchesNeeded_68 : decode cX6_stitchesNeeded 68 = .ok (.iload_n 1, 1) := dq_27 dp_cX6_stitchesNeeded rfl
theorem dX6_stitchesNeeded_69 : decode cX6_stitchesNeeded 69 = .ok (.iconst (-1), 1) := dq_2 dp_cX6_stitchesNeeded rfl
theorem dX6_stitchesNeeded_70 : decode cX6_stitchesNeeded 70 = .ok (.if_icmp .ne 7, 3) := dq_160 (v := 7) dp_cX6_stitchesNeeded rfl rfl
theorem dX6_stitchesNeeded_73 : decode cX6_stitchesNeeded 73 = .ok (.iload_n 2, 1) := dq_28 dp_cX6_stitchesNeeded rfl
theorem dX6_stitchesNeeded_74 : decode cX6_stitchesNeeded 74 = .ok (.goto 4, 3) := dq_167 (v := 4) dp_cX6_stitchesNeeded rfl rfl
theorem dX6_stitchesNeeded_77 : decode cX6_stitchesNeeded 77 = .ok (.iconst (-1), 1) := dq_2 dp_cX6_stitchesNeeded rfl
theorem dX6_stitchesNeeded_78 : decode cX6_stitchesNeeded 78 = .ok (.ireturn, 1) := dq_172 dp_cX6_stitchesNeeded rfl
set_option maxRecDepth 20000 in
theorem gl_X6_takeSlack_X60 : GoodIn wsX6_takeSlack wsX60 := (dg_t (dg_t (dg_t (dg_t (dg_t (dg_t (dg_t (dg_t gw_wsX60))))))))
theorem ggX6_takeSlack_X6_has : GoodIn wsX6_takeSlack wsX6_has := (dg_c 6 rfl rfl (dg_c 7 rfl rfl gl_X6_takeSlack_X60))
set_option maxRecDepth 20000 in
theorem gX6_takeSlack_X6_has : GoodIn wsX6_takeSlack (wsV RX6 29 RX6 yX6_has wsX6_has) := goodIn_app (dg_c 2 rfl rfl (dg_c 3 rfl rfl (dg_c 4 rfl rfl (dg_c 5 rfl rfl dg_0)))) ggX6_takeSlack_X6_has
theorem dX6_takeSlack_0 : decode cX6_takeSlack 0 = .ok (.iconst 0, 1) := dq_3 dp_cX6_takeSlack rfl
theorem dX6_takeSlack_1 : decode cX6_takeSlack 1 = .ok (.istore_n 2, 1) := dq_61 dp_cX6_takeSlack rfl
theorem dX6_takeSlack_2 : decode cX6_takeSlack 2 = .ok (.iload_n 1, 1) := dq_27 dp_cX6_takeSlack rfl
theorem dX6_takeSlack_3 : decode cX6_takeSlack 3 = .ok (.iconst 2, 1) := dq_5 dp_cX6_takeSlack rfl
theorem dX6_takeSlack_4 : decode cX6_takeSlack 4 = .ok (.isub, 1) := dq_100 dp_cX6_takeSlack rfl
theorem dX6_takeSlack_5 : decode cX6_takeSlack 5 = .ok (.istore_n 3, 1) := dq_62 dp_cX6_takeSlack rfl
theorem dX6_takeSlack_6 : decode cX6_takeSlack 6 = .ok (.iload_n 3, 1) := dq_29 dp_cX6_takeSlack rfl
theorem dX6_takeSlack_7 : decode cX6_takeSlack 7 = .ok (.iload_n 1, 1) := dq_27 dp_cX6_takeSlack rfl
theorem dX6_takeSlack_8 : decode cX6_takeSlack 8 = .ok (.iconst 2, 1) := dq_5 dp_cX6_takeSlack rfl
theorem dX6_takeSlack_9 : decode cX6_takeSlack 9 = .ok (.iadd, 1) := dq_96 dp_cX6_takeSlack rfl
theorem dX6_takeSlack_10 : decode cX6_takeSlack 10 = .ok (.if_icmp .gt 33, 3) := dq_163 (v := 33) dp_cX6_takeSlack rfl rfl
theorem dX6_takeSlack_13 : decode cX6_takeSlack 13 = .ok (.aload_n 0, 1) := dq_42 dp_cX6_takeSlack rfl
theorem dX6_takeSlack_14 : decode cX6_takeSlack 14 = .ok (.iload_n 3, 1) := dq_29 dp_cX6_takeSlack rfl
theorem dX6_takeSlack_15 : decode cX6_takeSlack 15 = .ok (.invokevirtual 29, 3) := dq_182 dp_cX6_takeSlack rfl
theorem dX6_takeSlack_18 : decode cX6_takeSlack 18 = .ok (.ifCond .eq 19, 3) := dq_153 (v := 19) dp_cX6_takeSlack rfl rfl
theorem dX6_takeSlack_21 : decode cX6_takeSlack 21 = .ok (.iload_n 2, 1) := dq_28 dp_cX6_takeSlack rfl
theorem dX6_takeSlack_22 : decode cX6_takeSlack 22 = .ok (.aload_n 0, 1) := dq_42 dp_cX6_takeSlack rfl
theorem dX6_takeSlack_23 : decode cX6_takeSlack 23 = .ok (.getfield 15, 3) := dq_180 dp_cX6_takeSlack rfl
theorem dX6_takeSlack_26 : decode cX6_takeSlack 26 = .ok (.iload_n 3, 1) := dq_29 dp_cX6_takeSlack rfl
theorem dX6_takeSlack_27 : decode cX6_takeSlack 27 = .ok (.iaload, 1) := dq_46 dp_cX6_takeSlack rfl
theorem dX6_takeSlack_28 : decode cX6_takeSlack 28 = .ok (.iadd, 1) := dq_96 dp_cX6_takeSlack rfl
theorem dX6_takeSlack_29 : decode cX6_takeSlack 29 = .ok (.istore_n 2, 1) := dq_61 dp_cX6_takeSlack rfl
theorem dX6_takeSlack_30 : decode cX6_takeSlack 30 = .ok (.aload_n 0, 1) := dq_42 dp_cX6_takeSlack rfl
theorem dX6_takeSlack_31 : decode cX6_takeSlack 31 = .ok (.getfield 15, 3) := dq_180 dp_cX6_takeSlack rfl
theorem dX6_takeSlack_34 : decode cX6_takeSlack 34 = .ok (.iload_n 3, 1) := dq_29 dp_cX6_takeSlack rfl
theorem dX6_takeSlack_35 : decode cX6_takeSlack 35 = .ok (.iconst 0, 1) := dq_3 dp_cX6_takeSlack rfl
theorem dX6_takeSlack_36 : decode cX6_takeSlack 36 = .ok (.iastore, 1) := dq_79 dp_cX6_takeSlack rfl
theorem dX6_takeSlack_37 : decode cX6_takeSlack 37 = .ok (.iinc 3 1, 3) := dq_132 (v := 1) dp_cX6_takeSlack rfl (by decide) rfl
theorem dX6_takeSlack_40 : decode cX6_takeSlack 40 = .ok (.goto (-34), 3) := dq_167 (v := 65502) dp_cX6_takeSlack rfl rfl
theorem dX6_takeSlack_43 : decode cX6_takeSlack 43 = .ok (.iload_n 2, 1) := dq_28 dp_cX6_takeSlack rfl
theorem dX6_takeSlack_44 : decode cX6_takeSlack 44 = .ok (.ireturn, 1) := dq_172 dp_cX6_takeSlack rfl
set_option maxRecDepth 20000 in
theorem gl_X6_runsTo_X60 : GoodIn wsX6_runsTo wsX60 := (dg_t (dg_t (dg_t (dg_t (dg_t (dg_t (dg_t (dg_t (dg_t (dg_t (dg_t (dg_t (dg_t (dg_t (dg_t (dg_t (dg_t (dg_t (dg_t (dg_t (dg_t (dg_t (dg_t gw_wsX60)))))))))))))))))))))))
theorem ggX6_runsTo_X6_catchesAt : GoodIn wsX6_runsTo wsX6_catchesAt := (dg_c 7 rfl rfl (dg_c 8 rfl rfl (dg_c 9 rfl rfl (dg_c 10 rfl rfl (dg_c 11 rfl rfl (dg_c 12 rfl rfl (dg_c 13 rfl rfl (dg_c 6 rfl rfl (dg_c 14 rfl rfl (dg_c 2 rfl rfl gl_X6_runsTo_X60))))))))))
set_option maxRecDepth 20000 in
theorem gX6_runsTo_X6_catchesAt : GoodIn wsX6_runsTo (wsV RX6 52 RX6 yX6_catchesAt wsX6_catchesAt) := goodIn_app (dg_c 3 rfl rfl (dg_c 4 rfl rfl (dg_c 5 rfl rfl (dg_c 6 rfl rfl dg_0)))) ggX6_runsTo_X6_catchesAt
set_option maxRecDepth 20000 in
theorem ggX6_runsTo_X6_lacksThreeFrom : GoodIn wsX6_runsTo wsX6_lacksThreeFrom := (dg_c 18 rfl rfl (dg_c 19 rfl rfl (dg_c 20 rfl rfl (dg_c 21 rfl rfl (dg_c 6 rfl rfl (dg_c 22 rfl rfl (dg_c 8 rfl rfl (dg_c 11 rfl rfl (dg_c 12 rfl rfl (dg_c 13 rfl rfl (dg_c 14 rfl rfl (dg_c 2 rfl rfl gl_X6_runsTo_X60))))))))))))
set_option maxRecDepth 20000 in
theorem gX6_runsTo_X6_lacksThreeFrom : GoodIn wsX6_runsTo (wsV RX6 36 RX6 yX6_lacksThreeFrom wsX6_lacksThreeFrom) := goodIn_app (dg_c 15 rfl rfl (dg_c 16 rfl rfl (dg_c 17 rfl rfl (dg_c 6 rfl rfl dg_0)))) ggX6_runsTo_X6_lacksThreeFrom
theorem dX6_runsTo_0 : decode cX6_runsTo 0 = .ok (.aload_n 0, 1) := dq_42 dp_cX6_runsTo rfl
theorem dX6_runsTo_1 : decode cX6_runsTo 1 = .ok (.getfield 23, 3) := dq_180 dp_cX6_runsTo rfl
theorem dX6_runsTo_4 : decode cX6_runsTo 4 = .ok (.istore_n 1, 1) := dq_60 dp_cX6_runsTo rfl
theorem dX6_runsTo_5 : decode cX6_runsTo 5 = .ok (.iload_n 1, 1) := dq_27 dp_cX6_runsTo rfl
theorem dX6_runsTo_6 : decode cX6_runsTo 6 = .ok (.aload_n 0, 1) := dq_42 dp_cX6_runsTo rfl
theorem dX6_runsTo_7 : decode cX6_runsTo 7 = .ok (.getfield 19, 3) := dq_180 dp_cX6_runsTo rfl
theorem dX6_runsTo_10 : decode cX6_runsTo 10 = .ok (.if_icmp .ge 27, 3) := dq_162 (v := 27) dp_cX6_runsTo rfl rfl
theorem dX6_runsTo_13 : decode cX6_runsTo 13 = .ok (.aload_n 0, 1) := dq_42 dp_cX6_runsTo rfl
theorem dX6_runsTo_14 : decode cX6_runsTo 14 = .ok (.iload_n 1, 1) := dq_27 dp_cX6_runsTo rfl
theorem dX6_runsTo_15 : decode cX6_runsTo 15 = .ok (.invokevirtual 52, 3) := dq_182 dp_cX6_runsTo rfl
theorem dX6_runsTo_18 : decode cX6_runsTo 18 = .ok (.ifCond .ne 11, 3) := dq_154 (v := 11) dp_cX6_runsTo rfl rfl
theorem dX6_runsTo_21 : decode cX6_runsTo 21 = .ok (.aload_n 0, 1) := dq_42 dp_cX6_runsTo rfl
theorem dX6_runsTo_22 : decode cX6_runsTo 22 = .ok (.iload_n 1, 1) := dq_27 dp_cX6_runsTo rfl
theorem dX6_runsTo_23 : decode cX6_runsTo 23 = .ok (.invokevirtual 36, 3) := dq_182 dp_cX6_runsTo rfl
theorem dX6_runsTo_26 : decode cX6_runsTo 26 = .ok (.ifCond .eq 5, 3) := dq_153 (v := 5) dp_cX6_runsTo rfl rfl
theorem dX6_runsTo_29 : decode cX6_runsTo 29 = .ok (.iload_n 1, 1) := dq_27 dp_cX6_runsTo rfl
theorem dX6_runsTo_30 : decode cX6_runsTo 30 = .ok (.ireturn, 1) := dq_172 dp_cX6_runsTo rfl
theorem dX6_runsTo_31 : decode cX6_runsTo 31 = .ok (.iinc 1 1, 3) := dq_132 (v := 1) dp_cX6_runsTo rfl (by decide) rfl
theorem dX6_runsTo_34 : decode cX6_runsTo 34 = .ok (.goto (-29), 3) := dq_167 (v := 65507) dp_cX6_runsTo rfl rfl
theorem dX6_runsTo_37 : decode cX6_runsTo 37 = .ok (.aload_n 0, 1) := dq_42 dp_cX6_runsTo rfl
theorem dX6_runsTo_38 : decode cX6_runsTo 38 = .ok (.getfield 19, 3) := dq_180 dp_cX6_runsTo rfl
theorem dX6_runsTo_41 : decode cX6_runsTo 41 = .ok (.ireturn, 1) := dq_172 dp_cX6_runsTo rfl
end
section
theorem gl_X6_has_X60 : GoodIn wsX6_has wsX60 := (dg_t (dg_t gw_wsX60))
theorem hi_X6_has_6 : ∀ w ∈ u_ws RX6 TX6 5, w ∈ wsX6_has := fun w h => (gl_X6_has_X60 w h).1
set_option maxHeartbeats 4000000 in
set_option maxRecDepth 100000 in
theorem c_Zip_has (l : Launch) (D : va_G) (cI cJ cZ cP cS : ClassId) (po : zPool) (z0 zl zs : Nat) (sz at_ gp : Int32) (t : Int32)  : Met l yX6_has wsX6_has ({ frames := 0, cells := 0, slots := 0, locals := 0 }) (va_Pc [.ref z0, .int t] (zR D (zKT cI cJ cZ cP cS) po [(z0, .inr (6, [.ref zl, .ref zs, .int sz, .int at_, .int gp]))])) (vp_Si (fun r => (r = 0 ∧ t.toInt < 0) ∨ (r = 0 ∧ 0 ≤ t.toInt ∧ sz.toInt ≤ t.toInt) ∨ (r = 1 ∧ 0 ≤ t.toInt ∧ t.toInt < sz.toInt))) 0 0 (fun _ => False) := by
  refine Met.ofW (cc := cX6_has) (maxL := 2) (ret := (some .boolean)) (by decide) rfl ?_
  intro p e s m args below meth c s₁ B hml hv
  obtain ⟨rfl, hP, hK, hN, hZ⟩ := hv
  have hx := B.exec
  have hb := B.bytes
  have hr := B.returns
  have hts := atoms_spec (ws := wsX6_has) B.pre
  have hown : s.vm.findClass RX6 = some m.cls := findClass_of_methodNamed B.named
  have hlocks := B.notSynchronized
  have hl := lv_entry ([.ref z0, .int t]) (n := 2) (Nat.le_of_ble_eq_true rfl)
  rw [lg_entry_eq]
  generalize (lg_sl ([.ref z0, .int t]) ++ List.replicate (2 - (lg_sl ([.ref z0, .int t])).length) Slot.unset).toArray = ls at hl ⊢
  replace hl : lv_has ls 2 [(0, .ref z0), (1, .int t)] := hl
  refine lv_iload_n hx hb dX6_has_0 rfl (lv_at hl 1 rfl) ?_
  refine lv_if_lt (tgt := 16) hx hb dX6_has_1 (by decide) (fun c_1 => ?_) (fun c_1 => ?_)
  · have fc_1 : t.toInt < 0 := zf_lt c_1 rfl (by decide)
    refine lv_iconst (v := 0) hx hb dX6_has_16 (by decide) ?_
    exact W.zret (v := 0) hx hb hr (by decide) (fun t ht hW => ⟨0, rfl, Or.inl (⟨rfl, (by first | omega | decide)⟩), ht⟩) (fun q hq => by cases hq) dX6_has_17
  · have fc_1 : 0 ≤ t.toInt := zf_nlt c_1 rfl (by decide)
    refine lv_iload_n hx hb dX6_has_4 rfl (lv_at hl 1 rfl) ?_
    refine lv_aload_n hx hb dX6_has_5 rfl (lv_at hl 0 rfl) ?_
    refine va_get (D := D) (ci := 6) (v := .int sz) (C := RX6) (T := TX6) (N := 5) hx hb hts hi_X6_has_6 hown hK hP 0 rfl rfl 2 (by decide) (hts (.fieldLink RX6 19 "TheLiningsInIt$Zip" "size" "I") (List.mem_of_getElem? (i := 1) rfl)) (fun _ h9 => h9) rfl dX6_has_6 ?_
    refine lv_icmp_ge (tgt := 16) hx hb dX6_has_9 (by decide) (fun c_2 => ?_) (fun c_2 => ?_)
    · have fc_2 : sz.toInt ≤ t.toInt := zf_le c_2 rfl rfl
      refine lv_iconst (v := 0) hx hb dX6_has_16 (by decide) ?_
      exact W.zret (v := 0) hx hb hr (by decide) (fun t ht hW => ⟨0, rfl, Or.inr (Or.inl (⟨rfl, (by first | omega | decide), (by first | omega | decide)⟩)), ht⟩) (fun q hq => by cases hq) dX6_has_17
    · have fc_2 : t.toInt < sz.toInt := zf_nle c_2 rfl rfl
      refine lv_iconst (v := 1) hx hb dX6_has_12 (by decide) ?_
      refine lv_goto (tgt := 17) hx hb dX6_has_13 (by decide) ?_
      exact W.zret (v := 1) hx hb hr (by decide) (fun t ht hW => ⟨1, rfl, Or.inr (Or.inr (⟨rfl, (by first | omega | decide), (by first | omega | decide)⟩)), ht⟩) (fun q hq => by cases hq) dX6_has_17
theorem hi_X6_lacksAt_6 : ∀ w ∈ u_ws RX6 TX6 5, w ∈ wsX6_lacksAt := fun w h => (gl_X6_lacksAt_X60 w h).1
set_option maxHeartbeats 4000000 in
set_option maxRecDepth 100000 in
theorem c_Zip_lacksAt (l : Launch) (D : va_G) (cI cJ cZ cP cS : ClassId) (po : zPool) (z0 zl zs : Nat) (sz at_ gp : Int32) (fl fs : Nat → Int32) (t : Int32) (hy0 : 4 ≤ sz.toInt) (hy1 : sz.toInt ≤ 40) (hy2 : 0 ≤ at_.toInt) (hy3 : at_.toInt ≤ 40) (hy4 : 1 ≤ gp.toInt) (hy5 : gp.toInt ≤ 9) (hp_fl : zRg fl (0) 1) : Met l yX6_lacksAt wsX6_lacksAt ({ frames := 1, cells := 0, slots := 0, locals := 21 }) (va_Pc [.ref z0, .int t] (zR D (zKT cI cJ cZ cP cS) po [(z0, .inr (6, [.ref zl, .ref zs, .int sz, .int at_, .int gp])), (zl, .inl (cZ, 40, .inl fl))])) (vp_Si (fun r => 0 ≤ r.toInt ∧ r.toInt ≤ 1)) 0 0 (fun _ => False) := by
  refine Met.ofW (cc := cX6_lacksAt) (maxL := 2) (ret := (some .boolean)) (by decide) rfl ?_
  intro p e s m args below meth c s₁ B hml hv
  obtain ⟨rfl, hP, hK, hN, hZ⟩ := hv
  have hx := B.exec
  have hb := B.bytes
  have hr := B.returns
  have hts := atoms_spec (ws := wsX6_lacksAt) B.pre
  have hown : s.vm.findClass RX6 = some m.cls := findClass_of_methodNamed B.named
  have hlocks := B.notSynchronized
  have hl := lv_entry ([.ref z0, .int t]) (n := 2) (Nat.le_of_ble_eq_true rfl)
  rw [lg_entry_eq]
  generalize (lg_sl ([.ref z0, .int t]) ++ List.replicate (2 - (lg_sl ([.ref z0, .int t])).length) Slot.unset).toArray = ls at hl ⊢
  replace hl : lv_has ls 2 [(0, .ref z0), (1, .int t)] := hl
  refine lv_aload_n hx hb dX6_lacksAt_0 rfl (lv_at hl 0 rfl) ?_
  refine lv_iload_n hx hb dX6_lacksAt_1 rfl (lv_at hl 1 rfl) ?_
  refine zc_V (As := [.int t]) (rest := []) ⟨hx, hb, hml, hown, hts⟩ (c_Zip_has l D cI cJ cZ cP cS po z0 zl zs (sz) (at_) (gp) (t) ) (cwV 1 hts gX6_lacksAt_X6_has rfl rfl rfl ⟨rfl, dh_X6_has⟩ ⟨Nat.le_of_ble_eq_true rfl, Nat.le_of_ble_eq_true rfl⟩) hK hN hZ hP (hP.sub [0] rfl) (va_recv (q := (RX6, TX6, 5)) hK hP (ci := 6) (q0 := 0) rfl rfl) rfl hl.1 rfl (Nat.le_of_ble_eq_true rfl) dX6_lacksAt_2 ⟨Nat.le_of_ble_eq_true rfl, Nat.le_of_ble_eq_true rfl⟩ (fun r_1 hr_1 => ?_)
  rcases hr_1 with ⟨rfl, g_2⟩ | ⟨rfl, g_3, g_4⟩ | ⟨rfl, g_5, g_6⟩
  · refine lv_if_eq (tgt := 21) hx hb dX6_lacksAt_5 (by decide) (fun c_7 => ?_) (fun c_7 => ?_)
    · refine lv_iconst (v := 0) hx hb dX6_lacksAt_21 (by decide) ?_
      exact W.zret (v := 0) hx hb hr (by decide) (fun t ht hW => ⟨0, rfl, ⟨by decide, by decide⟩, ht⟩) (fun q hq => by cases hq) dX6_lacksAt_22
    · exact absurd c_7 (by decide)
  · refine lv_if_eq (tgt := 21) hx hb dX6_lacksAt_5 (by decide) (fun c_8 => ?_) (fun c_8 => ?_)
    · refine lv_iconst (v := 0) hx hb dX6_lacksAt_21 (by decide) ?_
      exact W.zret (v := 0) hx hb hr (by decide) (fun t ht hW => ⟨0, rfl, ⟨by decide, by decide⟩, ht⟩) (fun q hq => by cases hq) dX6_lacksAt_22
    · exact absurd c_8 (by decide)
  · refine lv_if_eq (tgt := 21) hx hb dX6_lacksAt_5 (by decide) (fun c_9 => ?_) (fun c_9 => ?_)
    · exact absurd c_9 (by decide)
    · refine lv_aload_n hx hb dX6_lacksAt_8 rfl (lv_at hl 0 rfl) ?_
      refine va_get (D := D) (ci := 6) (v := .ref zl) (C := RX6) (T := TX6) (N := 5) hx hb hts hi_X6_lacksAt_6 hown hK hP 0 rfl rfl 0 (by decide) (hts (.fieldLink RX6 9 "TheLiningsInIt$Zip" "lacking" "[Z") (List.mem_of_getElem? (i := 1) rfl)) (fun _ h9 => h9) rfl dX6_lacksAt_9 ?_
      refine lv_iload_n hx hb dX6_lacksAt_12 rfl (lv_at hl 1 rfl) ?_
      refine va_zald hx hb hK hP 1 2 rfl rfl (zf_in (by omega) (by omega)) dX6_lacksAt_13 ?_
      refine lv_topi (fun x_10 ex_10 => ?_)
      have bx_10 : 0 ≤ x_10.toInt ∧ x_10.toInt ≤ 1 := by rw [ex_10]; exact hp_fl _
      refine lv_if_eq (tgt := 21) hx hb dX6_lacksAt_14 (by decide) (fun c_11 => ?_) (fun c_11 => ?_)
      · have fc_11 : x_10.toInt = 0 := zf_eq c_11 rfl (by decide)
        refine lv_iconst (v := 0) hx hb dX6_lacksAt_21 (by decide) ?_
        exact W.zret (v := 0) hx hb hr (by decide) (fun t ht hW => ⟨0, rfl, ⟨by decide, by decide⟩, ht⟩) (fun q hq => by cases hq) dX6_lacksAt_22
      · have fc_11 : x_10.toInt ≠ 0 := zf_ne c_11 rfl (by decide)
        refine lv_iconst (v := 1) hx hb dX6_lacksAt_17 (by decide) ?_
        refine lv_goto (tgt := 22) hx hb dX6_lacksAt_18 (by decide) ?_
        exact W.zret (v := 1) hx hb hr (by decide) (fun t ht hW => ⟨1, rfl, ⟨by decide, by decide⟩, ht⟩) (fun q hq => by cases hq) dX6_lacksAt_22
theorem hi_X6_catchesAt_6 : ∀ w ∈ u_ws RX6 TX6 5, w ∈ wsX6_catchesAt := fun w h => (gl_X6_catchesAt_X60 w h).1
set_option maxHeartbeats 4000000 in
set_option maxRecDepth 100000 in
theorem c_Zip_catchesAt (l : Launch) (D : va_G) (cI cJ cZ cP cS : ClassId) (po : zPool) (z0 zl zs : Nat) (sz at_ gp : Int32) (fl fs : Nat → Int32) (t : Int32) (hy0 : 4 ≤ sz.toInt) (hy1 : sz.toInt ≤ 40) (hy2 : 0 ≤ at_.toInt) (hy3 : at_.toInt ≤ 40) (hy4 : 1 ≤ gp.toInt) (hy5 : gp.toInt ≤ 9) (hp_fl : zRg fl (0) 1) (hp_fs : zRg fs (0) 9) : Met l yX6_catchesAt wsX6_catchesAt ({ frames := 1, cells := 0, slots := 0, locals := 21 }) (va_Pc [.ref z0, .int t] (zR D (zKT cI cJ cZ cP cS) po [(z0, .inr (6, [.ref zl, .ref zs, .int sz, .int at_, .int gp])), (zl, .inl (cZ, 40, .inl fl)), (zs, .inl (cI, 40, .inl fs))])) (vp_Si (fun r => 0 ≤ r.toInt ∧ r.toInt ≤ 1)) 0 0 (fun _ => False) := by
  refine Met.ofW (cc := cX6_catchesAt) (maxL := 2) (ret := (some .boolean)) (by decide) rfl ?_
  intro p e s m args below meth c s₁ B hml hv
  obtain ⟨rfl, hP, hK, hN, hZ⟩ := hv
  have hx := B.exec
  have hb := B.bytes
  have hr := B.returns
  have hts := atoms_spec (ws := wsX6_catchesAt) B.pre
  have hown : s.vm.findClass RX6 = some m.cls := findClass_of_methodNamed B.named
  have hlocks := B.notSynchronized
  have hl := lv_entry ([.ref z0, .int t]) (n := 2) (Nat.le_of_ble_eq_true rfl)
  rw [lg_entry_eq]
  generalize (lg_sl ([.ref z0, .int t]) ++ List.replicate (2 - (lg_sl ([.ref z0, .int t])).length) Slot.unset).toArray = ls at hl ⊢
  replace hl : lv_has ls 2 [(0, .ref z0), (1, .int t)] := hl
  refine lv_aload_n hx hb dX6_catchesAt_0 rfl (lv_at hl 0 rfl) ?_
  refine lv_iload_n hx hb dX6_catchesAt_1 rfl (lv_at hl 1 rfl) ?_
  refine zc_V (As := [.int t]) (rest := []) ⟨hx, hb, hml, hown, hts⟩ (c_Zip_has l D cI cJ cZ cP cS po z0 zl zs (sz) (at_) (gp) (t) ) (cwV 1 hts gX6_catchesAt_X6_has rfl rfl rfl ⟨rfl, dh_X6_has⟩ ⟨Nat.le_of_ble_eq_true rfl, Nat.le_of_ble_eq_true rfl⟩) hK hN hZ hP (hP.sub [0] rfl) (va_recv (q := (RX6, TX6, 5)) hK hP (ci := 6) (q0 := 0) rfl rfl) rfl hl.1 rfl (Nat.le_of_ble_eq_true rfl) dX6_catchesAt_2 ⟨Nat.le_of_ble_eq_true rfl, Nat.le_of_ble_eq_true rfl⟩ (fun r_1 hr_1 => ?_)
  rcases hr_1 with ⟨rfl, g_2⟩ | ⟨rfl, g_3, g_4⟩ | ⟨rfl, g_5, g_6⟩
  · refine lv_if_eq (tgt := 34) hx hb dX6_catchesAt_5 (by decide) (fun c_7 => ?_) (fun c_7 => ?_)
    · refine lv_iconst (v := 0) hx hb dX6_catchesAt_34 (by decide) ?_
      exact W.zret (v := 0) hx hb hr (by decide) (fun t ht hW => ⟨0, rfl, ⟨by decide, by decide⟩, ht⟩) (fun q hq => by cases hq) dX6_catchesAt_35
    · exact absurd c_7 (by decide)
  · refine lv_if_eq (tgt := 34) hx hb dX6_catchesAt_5 (by decide) (fun c_8 => ?_) (fun c_8 => ?_)
    · refine lv_iconst (v := 0) hx hb dX6_catchesAt_34 (by decide) ?_
      exact W.zret (v := 0) hx hb hr (by decide) (fun t ht hW => ⟨0, rfl, ⟨by decide, by decide⟩, ht⟩) (fun q hq => by cases hq) dX6_catchesAt_35
    · exact absurd c_8 (by decide)
  · refine lv_if_eq (tgt := 34) hx hb dX6_catchesAt_5 (by decide) (fun c_9 => ?_) (fun c_9 => ?_)
    · exact absurd c_9 (by decide)
    · refine lv_aload_n hx hb dX6_catchesAt_8 rfl (lv_at hl 0 rfl) ?_
      refine va_get (D := D) (ci := 6) (v := .ref zl) (C := RX6) (T := TX6) (N := 5) hx hb hts hi_X6_catchesAt_6 hown hK hP 0 rfl rfl 0 (by decide) (hts (.fieldLink RX6 9 "TheLiningsInIt$Zip" "lacking" "[Z") (List.mem_of_getElem? (i := 1) rfl)) (fun _ h9 => h9) rfl dX6_catchesAt_9 ?_
      refine lv_iload_n hx hb dX6_catchesAt_12 rfl (lv_at hl 1 rfl) ?_
      refine va_zald hx hb hK hP 1 2 rfl rfl (zf_in (by omega) (by omega)) dX6_catchesAt_13 ?_
      refine lv_topi (fun x_10 ex_10 => ?_)
      have bx_10 : 0 ≤ x_10.toInt ∧ x_10.toInt ≤ 1 := by rw [ex_10]; exact hp_fl _
      refine lv_if_ne (tgt := 34) hx hb dX6_catchesAt_14 (by decide) (fun c_11 => ?_) (fun c_11 => ?_)
      · have fc_11 : x_10.toInt ≠ 0 := zf_ne c_11 rfl (by decide)
        refine lv_iconst (v := 0) hx hb dX6_catchesAt_34 (by decide) ?_
        exact W.zret (v := 0) hx hb hr (by decide) (fun t ht hW => ⟨0, rfl, ⟨by decide, by decide⟩, ht⟩) (fun q hq => by cases hq) dX6_catchesAt_35
      · have fc_11 : x_10.toInt = 0 := zf_eq c_11 rfl (by decide)
        refine lv_aload_n hx hb dX6_catchesAt_17 rfl (lv_at hl 0 rfl) ?_
        refine va_get (D := D) (ci := 6) (v := .ref zs) (C := RX6) (T := TX6) (N := 5) hx hb hts hi_X6_catchesAt_6 hown hK hP 0 rfl rfl 1 (by decide) (hts (.fieldLink RX6 15 "TheLiningsInIt$Zip" "slacks" "[I") (List.mem_of_getElem? (i := 2) rfl)) (fun _ h9 => h9) rfl dX6_catchesAt_18 ?_
        refine lv_iload_n hx hb dX6_catchesAt_21 rfl (lv_at hl 1 rfl) ?_
        refine va_iald hx hb hK hP 2 0 rfl rfl (zf_in (by omega) (by omega)) dX6_catchesAt_22 ?_
        refine lv_topi (fun x_12 ex_12 => ?_)
        have bx_12 : 0 ≤ x_12.toInt ∧ x_12.toInt ≤ 9 := by rw [ex_12]; exact hp_fs _
        refine lv_aload_n hx hb dX6_catchesAt_23 rfl (lv_at hl 0 rfl) ?_
        refine va_get (D := D) (ci := 6) (v := .int gp) (C := RX6) (T := TX6) (N := 5) hx hb hts hi_X6_catchesAt_6 hown hK hP 0 rfl rfl 4 (by decide) (hts (.fieldLink RX6 26 "TheLiningsInIt$Zip" "gap" "I") (List.mem_of_getElem? (i := 3) rfl)) (fun _ h9 => h9) rfl dX6_catchesAt_24 ?_
        refine lv_icmp_lt (tgt := 34) hx hb dX6_catchesAt_27 (by decide) (fun c_13 => ?_) (fun c_13 => ?_)
        · have fc_13 : x_12.toInt < gp.toInt := zf_lt c_13 rfl rfl
          refine lv_iconst (v := 0) hx hb dX6_catchesAt_34 (by decide) ?_
          exact W.zret (v := 0) hx hb hr (by decide) (fun t ht hW => ⟨0, rfl, ⟨by decide, by decide⟩, ht⟩) (fun q hq => by cases hq) dX6_catchesAt_35
        · have fc_13 : gp.toInt ≤ x_12.toInt := zf_nlt c_13 rfl rfl
          refine lv_iconst (v := 1) hx hb dX6_catchesAt_30 (by decide) ?_
          refine lv_goto (tgt := 35) hx hb dX6_catchesAt_31 (by decide) ?_
          exact W.zret (v := 1) hx hb hr (by decide) (fun t ht hW => ⟨1, rfl, ⟨by decide, by decide⟩, ht⟩) (fun q hq => by cases hq) dX6_catchesAt_35
set_option maxHeartbeats 4000000 in
set_option maxRecDepth 100000 in
theorem c_Zip_lacks3 (l : Launch) (D : va_G) (cI cJ cZ cP cS : ClassId) (po : zPool) (z0 zl zs : Nat) (sz at_ gp : Int32) (fl fs : Nat → Int32) (t : Int32) (hy0 : 4 ≤ sz.toInt) (hy1 : sz.toInt ≤ 40) (hy2 : 0 ≤ at_.toInt) (hy3 : at_.toInt ≤ 40) (hy4 : 1 ≤ gp.toInt) (hy5 : gp.toInt ≤ 9) (hp_fl : zRg fl (0) 1) : Met l yX6_lacksThreeFrom wsX6_lacksThreeFrom ({ frames := 2, cells := 0, slots := 0, locals := 42 }) (va_Pc [.ref z0, .int t] (zR D (zKT cI cJ cZ cP cS) po [(z0, .inr (6, [.ref zl, .ref zs, .int sz, .int at_, .int gp])), (zl, .inl (cZ, 40, .inl fl))])) (vp_Si (fun r => 0 ≤ r.toInt ∧ r.toInt ≤ 1)) 0 0 (fun _ => False) := by
  refine Met.ofW (cc := cX6_lacksThreeFrom) (maxL := 2) (ret := (some .boolean)) (by decide) rfl ?_
  intro p e s m args below meth c s₁ B hml hv
  obtain ⟨rfl, hP, hK, hN, hZ⟩ := hv
  have hx := B.exec
  have hb := B.bytes
  have hr := B.returns
  have hts := atoms_spec (ws := wsX6_lacksThreeFrom) B.pre
  have hown : s.vm.findClass RX6 = some m.cls := findClass_of_methodNamed B.named
  have hlocks := B.notSynchronized
  have hl := lv_entry ([.ref z0, .int t]) (n := 2) (Nat.le_of_ble_eq_true rfl)
  rw [lg_entry_eq]
  generalize (lg_sl ([.ref z0, .int t]) ++ List.replicate (2 - (lg_sl ([.ref z0, .int t])).length) Slot.unset).toArray = ls at hl ⊢
  replace hl : lv_has ls 2 [(0, .ref z0), (1, .int t)] := hl
  refine lv_aload_n hx hb dX6_lacksThreeFrom_0 rfl (lv_at hl 0 rfl) ?_
  refine lv_iload_n hx hb dX6_lacksThreeFrom_1 rfl (lv_at hl 1 rfl) ?_
  refine zc_V (As := [.int t]) (rest := []) ⟨hx, hb, hml, hown, hts⟩ (c_Zip_lacksAt l D cI cJ cZ cP cS po z0 zl zs (sz) (at_) (gp) fl ((fun _ => 0)) (t) hy0 hy1 hy2 hy3 hy4 hy5 hp_fl) (cwV 1 hts gX6_lacksThreeFrom_X6_lacksAt rfl rfl rfl ⟨rfl, dh_X6_lacksAt⟩ ⟨Nat.le_of_ble_eq_true rfl, Nat.le_of_ble_eq_true rfl⟩) hK hN hZ hP (hP.sub [0, 1] rfl) (va_recv (q := (RX6, TX6, 5)) hK hP (ci := 6) (q0 := 0) rfl rfl) rfl hl.1 rfl (Nat.le_of_ble_eq_true rfl) dX6_lacksThreeFrom_2 ⟨Nat.le_of_ble_eq_true rfl, Nat.le_of_ble_eq_true rfl⟩ (fun r_1 hr_1 => ?_)
  obtain ⟨g_2, g_3⟩ := hr_1
  refine lv_if_eq (tgt := 32) hx hb dX6_lacksThreeFrom_5 (by decide) (fun c_4 => ?_) (fun c_4 => ?_)
  · have fc_4 : r_1.toInt = 0 := zf_eq c_4 rfl (by decide)
    refine lv_iconst (v := 0) hx hb dX6_lacksThreeFrom_32 (by decide) ?_
    exact W.zret (v := 0) hx hb hr (by decide) (fun t ht hW => ⟨0, rfl, ⟨by decide, by decide⟩, ht⟩) (fun q hq => by cases hq) dX6_lacksThreeFrom_33
  · have fc_4 : r_1.toInt ≠ 0 := zf_ne c_4 rfl (by decide)
    refine lv_aload_n hx hb dX6_lacksThreeFrom_8 rfl (lv_at hl 0 rfl) ?_
    refine lv_iload_n hx hb dX6_lacksThreeFrom_9 rfl (lv_at hl 1 rfl) ?_
    refine lv_iconst (v := 1) hx hb dX6_lacksThreeFrom_10 (by decide) ?_
    refine lv_iadd hx hb dX6_lacksThreeFrom_11 ?_
    refine lv_topi (fun x_5 ex_5 => ?_)
    refine zc_V (As := [.int x_5]) (rest := []) ⟨hx, hb, hml, hown, hts⟩ (c_Zip_lacksAt l D cI cJ cZ cP cS po z0 zl zs (sz) (at_) (gp) fl ((fun _ => 0)) (x_5) hy0 hy1 hy2 hy3 hy4 hy5 hp_fl) (cwV 1 hts gX6_lacksThreeFrom_X6_lacksAt rfl rfl rfl ⟨rfl, dh_X6_lacksAt⟩ ⟨Nat.le_of_ble_eq_true rfl, Nat.le_of_ble_eq_true rfl⟩) hK hN hZ hP (hP.sub [0, 1] rfl) (va_recv (q := (RX6, TX6, 5)) hK hP (ci := 6) (q0 := 0) rfl rfl) rfl hl.1 rfl (Nat.le_of_ble_eq_true rfl) dX6_lacksThreeFrom_12 ⟨Nat.le_of_ble_eq_true rfl, Nat.le_of_ble_eq_true rfl⟩ (fun r_6 hr_6 => ?_)
    obtain ⟨g_7, g_8⟩ := hr_6
    refine lv_if_eq (tgt := 32) hx hb dX6_lacksThreeFrom_15 (by decide) (fun c_9 => ?_) (fun c_9 => ?_)
    · have fc_9 : r_6.toInt = 0 := zf_eq c_9 rfl (by decide)
      refine lv_iconst (v := 0) hx hb dX6_lacksThreeFrom_32 (by decide) ?_
      exact W.zret (v := 0) hx hb hr (by decide) (fun t ht hW => ⟨0, rfl, ⟨by decide, by decide⟩, ht⟩) (fun q hq => by cases hq) dX6_lacksThreeFrom_33
    · have fc_9 : r_6.toInt ≠ 0 := zf_ne c_9 rfl (by decide)
      refine lv_aload_n hx hb dX6_lacksThreeFrom_18 rfl (lv_at hl 0 rfl) ?_
      refine lv_iload_n hx hb dX6_lacksThreeFrom_19 rfl (lv_at hl 1 rfl) ?_
      refine lv_iconst (v := 2) hx hb dX6_lacksThreeFrom_20 (by decide) ?_
      refine lv_iadd hx hb dX6_lacksThreeFrom_21 ?_
      refine lv_topi (fun x_10 ex_10 => ?_)
      refine zc_V (As := [.int x_10]) (rest := []) ⟨hx, hb, hml, hown, hts⟩ (c_Zip_lacksAt l D cI cJ cZ cP cS po z0 zl zs (sz) (at_) (gp) fl ((fun _ => 0)) (x_10) hy0 hy1 hy2 hy3 hy4 hy5 hp_fl) (cwV 1 hts gX6_lacksThreeFrom_X6_lacksAt rfl rfl rfl ⟨rfl, dh_X6_lacksAt⟩ ⟨Nat.le_of_ble_eq_true rfl, Nat.le_of_ble_eq_true rfl⟩) hK hN hZ hP (hP.sub [0, 1] rfl) (va_recv (q := (RX6, TX6, 5)) hK hP (ci := 6) (q0 := 0) rfl rfl) rfl hl.1 rfl (Nat.le_of_ble_eq_true rfl) dX6_lacksThreeFrom_22 ⟨Nat.le_of_ble_eq_true rfl, Nat.le_of_ble_eq_true rfl⟩ (fun r_11 hr_11 => ?_)
      obtain ⟨g_12, g_13⟩ := hr_11
      refine lv_if_eq (tgt := 32) hx hb dX6_lacksThreeFrom_25 (by decide) (fun c_14 => ?_) (fun c_14 => ?_)
      · have fc_14 : r_11.toInt = 0 := zf_eq c_14 rfl (by decide)
        refine lv_iconst (v := 0) hx hb dX6_lacksThreeFrom_32 (by decide) ?_
        exact W.zret (v := 0) hx hb hr (by decide) (fun t ht hW => ⟨0, rfl, ⟨by decide, by decide⟩, ht⟩) (fun q hq => by cases hq) dX6_lacksThreeFrom_33
      · have fc_14 : r_11.toInt ≠ 0 := zf_ne c_14 rfl (by decide)
        refine lv_iconst (v := 1) hx hb dX6_lacksThreeFrom_28 (by decide) ?_
        refine lv_goto (tgt := 33) hx hb dX6_lacksThreeFrom_29 (by decide) ?_
        exact W.zret (v := 1) hx hb hr (by decide) (fun t ht hW => ⟨1, rfl, ⟨by decide, by decide⟩, ht⟩) (fun q hq => by cases hq) dX6_lacksThreeFrom_33
theorem hi_X6_isStrong_6 : ∀ w ∈ u_ws RX6 TX6 5, w ∈ wsX6_isStrong := fun w h => (gl_X6_isStrong_X60 w h).1
set_option maxHeartbeats 4000000 in
set_option maxRecDepth 100000 in
theorem c_Zip_isStrong (l : Launch) (D : va_G) (cI cJ cZ cP cS : ClassId) (po : zPool) (z0 zl zs : Nat) (sz at_ gp : Int32) (fl fs : Nat → Int32)  (hy0 : 4 ≤ sz.toInt) (hy1 : sz.toInt ≤ 40) (hy2 : 0 ≤ at_.toInt) (hy3 : at_.toInt ≤ 40) (hy4 : 1 ≤ gp.toInt) (hy5 : gp.toInt ≤ 9) (hp_fl : zRg fl (0) 1) : Met l yX6_isStrong wsX6_isStrong ({ frames := 3, cells := 0, slots := 0, locals := 63 }) (va_Pc [.ref z0] (zR D (zKT cI cJ cZ cP cS) po [(z0, .inr (6, [.ref zl, .ref zs, .int sz, .int at_, .int gp])), (zl, .inl (cZ, 40, .inl fl))])) (vp_Si (fun r => 0 ≤ r.toInt ∧ r.toInt ≤ 1)) 0 0 (fun _ => False) := by
  refine Met.ofW (cc := cX6_isStrong) (maxL := 2) (ret := (some .boolean)) (by decide) rfl ?_
  intro p e s m args below meth c s₁ B hml hv
  obtain ⟨rfl, hP, hK, hN, hZ⟩ := hv
  have hx := B.exec
  have hb := B.bytes
  have hr := B.returns
  have hts := atoms_spec (ws := wsX6_isStrong) B.pre
  have hown : s.vm.findClass RX6 = some m.cls := findClass_of_methodNamed B.named
  have hlocks := B.notSynchronized
  have hl := lv_entry ([.ref z0]) (n := 2) (Nat.le_of_ble_eq_true rfl)
  rw [lg_entry_eq]
  generalize (lg_sl ([.ref z0]) ++ List.replicate (2 - (lg_sl ([.ref z0])).length) Slot.unset).toArray = ls at hl ⊢
  replace hl : lv_has ls 2 [(0, .ref z0)] := hl
  refine lv_iconst (v := 0) hx hb dX6_isStrong_0 (by decide) ?_
  refine lv_istore_n (lv' := [(1, .int 0), (0, .ref z0)]) hx hb dX6_isStrong_1 rfl hl (by decide) rfl (fun ls hl => ?_)
  obtain ⟨i_2, hi_2⟩ : ∃ i : Int32, i = 0 := ⟨_, rfl⟩
  replace hl : lv_has ls 2 [(1, .int i_2), (0, .ref z0)] := by rw [hi_2]; exact lv_sub hl [0, 1] rfl
  have h1i_2 : i_2.toInt = 0 := by rw [hi_2]; decide
  obtain ⟨nfu, hni_2⟩ : ∃ nq9 : Nat, sz.toInt ≤ i_2.toInt + (nq9 : Int) := ⟨((sz.toInt : Int) - 0).toNat, by omega⟩
  have hloi_2 : 0 ≤ i_2.toInt := by omega
  clear h1i_2 hi_2
  revert hni_2
  revert hloi_2
  revert hl
  revert ls
  revert i_2
  induction nfu with
  | zero =>
    intro i_2 ls hl hloi_2 hni_2
    have hzi_2 : sz.toInt ≤ i_2.toInt := by omega
    refine lv_iload_n hx hb dX6_isStrong_2 rfl (lv_at hl 0 rfl) ?_
    refine lv_aload_n hx hb dX6_isStrong_3 rfl (lv_at hl 1 rfl) ?_
    refine va_get (D := D) (ci := 6) (v := .int sz) (C := RX6) (T := TX6) (N := 5) hx hb hts hi_X6_isStrong_6 hown hK hP 0 rfl rfl 2 (by decide) (hts (.fieldLink RX6 19 "TheLiningsInIt$Zip" "size" "I") (List.mem_of_getElem? (i := 1) rfl)) (fun _ h9 => h9) rfl dX6_isStrong_4 ?_
    refine lv_icmp_ge (tgt := 26) hx hb dX6_isStrong_7 (by decide) (fun c_1 => ?_) (fun c_1 => ?_)
    · have fc_1 : sz.toInt ≤ i_2.toInt := zf_le c_1 rfl rfl
      refine lv_iconst (v := 1) hx hb dX6_isStrong_26 (by decide) ?_
      exact W.zret (v := 1) hx hb hr (by decide) (fun t ht hW => ⟨1, rfl, ⟨by decide, by decide⟩, ht⟩) (fun q hq => by cases hq) dX6_isStrong_27
    · exfalso; have fc_1 : i_2.toInt < sz.toInt := zf_nle c_1 rfl rfl; omega
  | succ nfu ih =>
    intro i_2 ls hl hloi_2 hni_2
    refine lv_iload_n hx hb dX6_isStrong_2 rfl (lv_at hl 0 rfl) ?_
    refine lv_aload_n hx hb dX6_isStrong_3 rfl (lv_at hl 1 rfl) ?_
    refine va_get (D := D) (ci := 6) (v := .int sz) (C := RX6) (T := TX6) (N := 5) hx hb hts hi_X6_isStrong_6 hown hK hP 0 rfl rfl 2 (by decide) (hts (.fieldLink RX6 19 "TheLiningsInIt$Zip" "size" "I") (List.mem_of_getElem? (i := 1) rfl)) (fun _ h9 => h9) rfl dX6_isStrong_4 ?_
    refine lv_icmp_ge (tgt := 26) hx hb dX6_isStrong_7 (by decide) (fun c_2 => ?_) (fun c_2 => ?_)
    · have fc_2 : sz.toInt ≤ i_2.toInt := zf_le c_2 rfl rfl
      refine lv_iconst (v := 1) hx hb dX6_isStrong_26 (by decide) ?_
      exact W.zret (v := 1) hx hb hr (by decide) (fun t ht hW => ⟨1, rfl, ⟨by decide, by decide⟩, ht⟩) (fun q hq => by cases hq) dX6_isStrong_27
    · have fc_2 : i_2.toInt < sz.toInt := zf_nle c_2 rfl rfl
      refine lv_aload_n hx hb dX6_isStrong_10 rfl (lv_at hl 1 rfl) ?_
      refine lv_iload_n hx hb dX6_isStrong_11 rfl (lv_at hl 0 rfl) ?_
      refine zc_V (As := [.int i_2]) (rest := []) ⟨hx, hb, hml, hown, hts⟩ (c_Zip_lacks3 l D cI cJ cZ cP cS po z0 zl zs (sz) (at_) (gp) fl ((fun _ => 0)) (i_2) hy0 hy1 hy2 hy3 hy4 hy5 hp_fl) (cwV 1 hts gX6_isStrong_X6_lacksThreeFrom rfl rfl rfl ⟨rfl, dh_X6_lacksThreeFrom⟩ ⟨Nat.le_of_ble_eq_true rfl, Nat.le_of_ble_eq_true rfl⟩) hK hN hZ hP (hP.sub [0, 1] rfl) (va_recv (q := (RX6, TX6, 5)) hK hP (ci := 6) (q0 := 0) rfl rfl) rfl hl.1 rfl (Nat.le_of_ble_eq_true rfl) dX6_isStrong_12 ⟨Nat.le_of_ble_eq_true rfl, Nat.le_of_ble_eq_true rfl⟩ (fun r_3 hr_3 => ?_)
      obtain ⟨g_4, g_5⟩ := hr_3
      refine lv_if_eq (tgt := 20) hx hb dX6_isStrong_15 (by decide) (fun c_6 => ?_) (fun c_6 => ?_)
      · have fc_6 : r_3.toInt = 0 := zf_eq c_6 rfl (by decide)
        obtain ⟨x_7, ex_7⟩ : ∃ y : Int32, y = i_2 + 1 := ⟨_, rfl⟩
        have qx_7 : x_7.toInt = i_2.toInt + 1 := dw_inc ex_7 fc_2
        refine lv_iinc (v := x_7) (lv' := [(1, .int x_7), (0, .ref z0)]) hx hb dX6_isStrong_20 hl (k := 0) rfl ex_7.symm (by decide) rfl (fun ls hl => ?_)
        refine lv_goto (tgt := 2) hx hb dX6_isStrong_23 (by decide) ?_
        exact ih x_7 _ (lv_sub hl [0, 1] rfl) (dw_lo hloi_2 qx_7) (dw_hn hni_2 qx_7)
      · have fc_6 : r_3.toInt ≠ 0 := zf_ne c_6 rfl (by decide)
        refine lv_iconst (v := 0) hx hb dX6_isStrong_18 (by decide) ?_
        exact W.zret (v := 0) hx hb hr (by decide) (fun t ht hW => ⟨0, rfl, ⟨by decide, by decide⟩, ht⟩) (fun q hq => by cases hq) dX6_isStrong_19
set_option maxHeartbeats 4000000 in
set_option maxRecDepth 100000 in
theorem c_Zip_isFrail (l : Launch) (D : va_G) (cI cJ cZ cP cS : ClassId) (po : zPool) (z0 zl zs : Nat) (sz at_ gp : Int32) (fl fs : Nat → Int32) (t : Int32) (hy0 : 4 ≤ sz.toInt) (hy1 : sz.toInt ≤ 40) (hy2 : 0 ≤ at_.toInt) (hy3 : at_.toInt ≤ 40) (hy4 : 1 ≤ gp.toInt) (hy5 : gp.toInt ≤ 9) (hp_fl : zRg fl (0) 1) : Met l yX6_isFrail wsX6_isFrail ({ frames := 2, cells := 0, slots := 0, locals := 42 }) (va_Pc [.ref z0, .int t] (zR D (zKT cI cJ cZ cP cS) po [(z0, .inr (6, [.ref zl, .ref zs, .int sz, .int at_, .int gp])), (zl, .inl (cZ, 40, .inl fl))])) (vp_Si (fun r => 0 ≤ r.toInt ∧ r.toInt ≤ 1)) 0 0 (fun _ => False) := by
  refine Met.ofW (cc := cX6_isFrail) (maxL := 4) (ret := (some .boolean)) (by decide) rfl ?_
  intro p e s m args below meth c s₁ B hml hv
  obtain ⟨rfl, hP, hK, hN, hZ⟩ := hv
  have hx := B.exec
  have hb := B.bytes
  have hr := B.returns
  have hts := atoms_spec (ws := wsX6_isFrail) B.pre
  have hown : s.vm.findClass RX6 = some m.cls := findClass_of_methodNamed B.named
  have hlocks := B.notSynchronized
  have hl := lv_entry ([.ref z0, .int t]) (n := 4) (Nat.le_of_ble_eq_true rfl)
  rw [lg_entry_eq]
  generalize (lg_sl ([.ref z0, .int t]) ++ List.replicate (4 - (lg_sl ([.ref z0, .int t])).length) Slot.unset).toArray = ls at hl ⊢
  replace hl : lv_has ls 4 [(0, .ref z0), (1, .int t)] := hl
  refine lv_aload_n hx hb dX6_isFrail_0 rfl (lv_at hl 0 rfl) ?_
  refine lv_iload_n hx hb dX6_isFrail_1 rfl (lv_at hl 1 rfl) ?_
  refine lv_iconst (v := 1) hx hb dX6_isFrail_2 (by decide) ?_
  refine lv_isub hx hb dX6_isFrail_3 ?_
  refine lv_topi (fun x_1 ex_1 => ?_)
  refine zc_V (As := [.int x_1]) (rest := []) ⟨hx, hb, hml, hown, hts⟩ (c_Zip_lacksAt l D cI cJ cZ cP cS po z0 zl zs (sz) (at_) (gp) fl ((fun _ => 0)) (x_1) hy0 hy1 hy2 hy3 hy4 hy5 hp_fl) (cwV 1 hts gX6_isFrail_X6_lacksAt rfl rfl rfl ⟨rfl, dh_X6_lacksAt⟩ ⟨Nat.le_of_ble_eq_true rfl, Nat.le_of_ble_eq_true rfl⟩) hK hN hZ hP (hP.sub [0, 1] rfl) (va_recv (q := (RX6, TX6, 5)) hK hP (ci := 6) (q0 := 0) rfl rfl) rfl hl.1 rfl (Nat.le_of_ble_eq_true rfl) dX6_isFrail_4 ⟨Nat.le_of_ble_eq_true rfl, Nat.le_of_ble_eq_true rfl⟩ (fun r_2 hr_2 => ?_)
  obtain ⟨g_3, g_4⟩ := hr_2
  refine lv_istore_n (lv' := [(2, .int r_2), (0, .ref z0), (1, .int t)]) hx hb dX6_isFrail_7 rfl hl (by decide) rfl (fun ls hl => ?_)
  refine lv_aload_n hx hb dX6_isFrail_8 rfl (lv_at hl 1 rfl) ?_
  refine lv_iload_n hx hb dX6_isFrail_9 rfl (lv_at hl 2 rfl) ?_
  refine lv_iconst (v := 1) hx hb dX6_isFrail_10 (by decide) ?_
  refine lv_iadd hx hb dX6_isFrail_11 ?_
  refine lv_topi (fun x_5 ex_5 => ?_)
  refine zc_V (As := [.int x_5]) (rest := []) ⟨hx, hb, hml, hown, hts⟩ (c_Zip_lacksAt l D cI cJ cZ cP cS po z0 zl zs (sz) (at_) (gp) fl ((fun _ => 0)) (x_5) hy0 hy1 hy2 hy3 hy4 hy5 hp_fl) (cwV 1 hts gX6_isFrail_X6_lacksAt rfl rfl rfl ⟨rfl, dh_X6_lacksAt⟩ ⟨Nat.le_of_ble_eq_true rfl, Nat.le_of_ble_eq_true rfl⟩) hK hN hZ hP (hP.sub [0, 1] rfl) (va_recv (q := (RX6, TX6, 5)) hK hP (ci := 6) (q0 := 0) rfl rfl) rfl hl.1 rfl (Nat.le_of_ble_eq_true rfl) dX6_isFrail_12 ⟨Nat.le_of_ble_eq_true rfl, Nat.le_of_ble_eq_true rfl⟩ (fun r_6 hr_6 => ?_)
  obtain ⟨g_7, g_8⟩ := hr_6
  refine lv_istore_n (lv' := [(3, .int r_6), (2, .int r_2), (0, .ref z0), (1, .int t)]) hx hb dX6_isFrail_15 rfl hl (by decide) rfl (fun ls hl => ?_)
  refine lv_iload_n hx hb dX6_isFrail_16 rfl (lv_at hl 1 rfl) ?_
  refine lv_if_eq (tgt := 30) hx hb dX6_isFrail_17 (by decide) (fun c_9 => ?_) (fun c_9 => ?_)
  · have fc_9 : r_2.toInt = 0 := zf_eq c_9 rfl (by decide)
    refine lv_iload_n hx hb dX6_isFrail_30 rfl (lv_at hl 1 rfl) ?_
    refine lv_if_eq (tgt := 38) hx hb dX6_isFrail_31 (by decide) (fun c_10 => ?_) (fun c_10 => ?_)
    · have fc_10 : r_2.toInt = 0 := zf_eq c_10 rfl (by decide)
      refine lv_iload_n hx hb dX6_isFrail_38 rfl (lv_at hl 0 rfl) ?_
      refine lv_if_eq (tgt := 56) hx hb dX6_isFrail_39 (by decide) (fun c_11 => ?_) (fun c_11 => ?_)
      · have fc_11 : r_6.toInt = 0 := zf_eq c_11 rfl (by decide)
        refine lv_iconst (v := 0) hx hb dX6_isFrail_56 (by decide) ?_
        exact W.zret (v := 0) hx hb hr (by decide) (fun t ht hW => ⟨0, rfl, ⟨by decide, by decide⟩, ht⟩) (fun q hq => by cases hq) dX6_isFrail_57
      · have fc_11 : r_6.toInt ≠ 0 := zf_ne c_11 rfl (by decide)
        refine lv_aload_n hx hb dX6_isFrail_42 rfl (lv_at hl 2 rfl) ?_
        refine lv_iload_n hx hb dX6_isFrail_43 rfl (lv_at hl 3 rfl) ?_
        refine lv_iconst (v := 2) hx hb dX6_isFrail_44 (by decide) ?_
        refine lv_iadd hx hb dX6_isFrail_45 ?_
        refine lv_topi (fun x_12 ex_12 => ?_)
        refine zc_V (As := [.int x_12]) (rest := []) ⟨hx, hb, hml, hown, hts⟩ (c_Zip_lacksAt l D cI cJ cZ cP cS po z0 zl zs (sz) (at_) (gp) fl ((fun _ => 0)) (x_12) hy0 hy1 hy2 hy3 hy4 hy5 hp_fl) (cwV 1 hts gX6_isFrail_X6_lacksAt rfl rfl rfl ⟨rfl, dh_X6_lacksAt⟩ ⟨Nat.le_of_ble_eq_true rfl, Nat.le_of_ble_eq_true rfl⟩) hK hN hZ hP (hP.sub [0, 1] rfl) (va_recv (q := (RX6, TX6, 5)) hK hP (ci := 6) (q0 := 0) rfl rfl) rfl hl.1 rfl (Nat.le_of_ble_eq_true rfl) dX6_isFrail_46 ⟨Nat.le_of_ble_eq_true rfl, Nat.le_of_ble_eq_true rfl⟩ (fun r_13 hr_13 => ?_)
        obtain ⟨g_14, g_15⟩ := hr_13
        refine lv_if_eq (tgt := 56) hx hb dX6_isFrail_49 (by decide) (fun c_16 => ?_) (fun c_16 => ?_)
        · have fc_16 : r_13.toInt = 0 := zf_eq c_16 rfl (by decide)
          refine lv_iconst (v := 0) hx hb dX6_isFrail_56 (by decide) ?_
          exact W.zret (v := 0) hx hb hr (by decide) (fun t ht hW => ⟨0, rfl, ⟨by decide, by decide⟩, ht⟩) (fun q hq => by cases hq) dX6_isFrail_57
        · have fc_16 : r_13.toInt ≠ 0 := zf_ne c_16 rfl (by decide)
          refine lv_iconst (v := 1) hx hb dX6_isFrail_52 (by decide) ?_
          refine lv_goto (tgt := 57) hx hb dX6_isFrail_53 (by decide) ?_
          exact W.zret (v := 1) hx hb hr (by decide) (fun t ht hW => ⟨1, rfl, ⟨by decide, by decide⟩, ht⟩) (fun q hq => by cases hq) dX6_isFrail_57
    · exfalso; have fc_10 : r_2.toInt ≠ 0 := zf_ne c_10 rfl (by decide); omega
  · have fc_9 : r_2.toInt ≠ 0 := zf_ne c_9 rfl (by decide)
    refine lv_aload_n hx hb dX6_isFrail_20 rfl (lv_at hl 2 rfl) ?_
    refine lv_iload_n hx hb dX6_isFrail_21 rfl (lv_at hl 3 rfl) ?_
    refine lv_iconst (v := 2) hx hb dX6_isFrail_22 (by decide) ?_
    refine lv_isub hx hb dX6_isFrail_23 ?_
    refine lv_topi (fun x_17 ex_17 => ?_)
    refine zc_V (As := [.int x_17]) (rest := []) ⟨hx, hb, hml, hown, hts⟩ (c_Zip_lacksAt l D cI cJ cZ cP cS po z0 zl zs (sz) (at_) (gp) fl ((fun _ => 0)) (x_17) hy0 hy1 hy2 hy3 hy4 hy5 hp_fl) (cwV 1 hts gX6_isFrail_X6_lacksAt rfl rfl rfl ⟨rfl, dh_X6_lacksAt⟩ ⟨Nat.le_of_ble_eq_true rfl, Nat.le_of_ble_eq_true rfl⟩) hK hN hZ hP (hP.sub [0, 1] rfl) (va_recv (q := (RX6, TX6, 5)) hK hP (ci := 6) (q0 := 0) rfl rfl) rfl hl.1 rfl (Nat.le_of_ble_eq_true rfl) dX6_isFrail_24 ⟨Nat.le_of_ble_eq_true rfl, Nat.le_of_ble_eq_true rfl⟩ (fun r_18 hr_18 => ?_)
    obtain ⟨g_19, g_20⟩ := hr_18
    refine lv_if_ne (tgt := 52) hx hb dX6_isFrail_27 (by decide) (fun c_21 => ?_) (fun c_21 => ?_)
    · have fc_21 : r_18.toInt ≠ 0 := zf_ne c_21 rfl (by decide)
      refine lv_iconst (v := 1) hx hb dX6_isFrail_52 (by decide) ?_
      refine lv_goto (tgt := 57) hx hb dX6_isFrail_53 (by decide) ?_
      exact W.zret (v := 1) hx hb hr (by decide) (fun t ht hW => ⟨1, rfl, ⟨by decide, by decide⟩, ht⟩) (fun q hq => by cases hq) dX6_isFrail_57
    · have fc_21 : r_18.toInt = 0 := zf_eq c_21 rfl (by decide)
      refine lv_iload_n hx hb dX6_isFrail_30 rfl (lv_at hl 1 rfl) ?_
      refine lv_if_eq (tgt := 38) hx hb dX6_isFrail_31 (by decide) (fun c_22 => ?_) (fun c_22 => ?_)
      · exfalso; have fc_22 : r_2.toInt = 0 := zf_eq c_22 rfl (by decide); omega
      · have fc_22 : r_2.toInt ≠ 0 := zf_ne c_22 rfl (by decide)
        refine lv_iload_n hx hb dX6_isFrail_34 rfl (lv_at hl 0 rfl) ?_
        refine lv_if_ne (tgt := 52) hx hb dX6_isFrail_35 (by decide) (fun c_23 => ?_) (fun c_23 => ?_)
        · have fc_23 : r_6.toInt ≠ 0 := zf_ne c_23 rfl (by decide)
          refine lv_iconst (v := 1) hx hb dX6_isFrail_52 (by decide) ?_
          refine lv_goto (tgt := 57) hx hb dX6_isFrail_53 (by decide) ?_
          exact W.zret (v := 1) hx hb hr (by decide) (fun t ht hW => ⟨1, rfl, ⟨by decide, by decide⟩, ht⟩) (fun q hq => by cases hq) dX6_isFrail_57
        · have fc_23 : r_6.toInt = 0 := zf_eq c_23 rfl (by decide)
          refine lv_iload_n hx hb dX6_isFrail_38 rfl (lv_at hl 0 rfl) ?_
          refine lv_if_eq (tgt := 56) hx hb dX6_isFrail_39 (by decide) (fun c_24 => ?_) (fun c_24 => ?_)
          · have fc_24 : r_6.toInt = 0 := zf_eq c_24 rfl (by decide)
            refine lv_iconst (v := 0) hx hb dX6_isFrail_56 (by decide) ?_
            exact W.zret (v := 0) hx hb hr (by decide) (fun t ht hW => ⟨0, rfl, ⟨by decide, by decide⟩, ht⟩) (fun q hq => by cases hq) dX6_isFrail_57
          · exfalso; have fc_24 : r_6.toInt ≠ 0 := zf_ne c_24 rfl (by decide); omega
theorem hi_X6_frailTeeth_6 : ∀ w ∈ u_ws RX6 TX6 5, w ∈ wsX6_frailTeeth := fun w h => (gl_X6_frailTeeth_X60 w h).1
set_option maxHeartbeats 4000000 in
set_option maxRecDepth 100000 in
theorem c_Zip_frailTeeth (l : Launch) (D : va_G) (cI cJ cZ cP cS : ClassId) (po : zPool) (z0 zl zs : Nat) (sz at_ gp : Int32) (fl fs : Nat → Int32)  (hy0 : 4 ≤ sz.toInt) (hy1 : sz.toInt ≤ 40) (hy2 : 0 ≤ at_.toInt) (hy3 : at_.toInt ≤ 40) (hy4 : 1 ≤ gp.toInt) (hy5 : gp.toInt ≤ 9) (hp_fl : zRg fl (0) 1) : Met l yX6_frailTeeth wsX6_frailTeeth ({ frames := 4, cells := 0, slots := 0, locals := 84 }) (va_Pc [.ref z0] (zR D (zKT cI cJ cZ cP cS) po [(z0, .inr (6, [.ref zl, .ref zs, .int sz, .int at_, .int gp])), (zl, .inl (cZ, 40, .inl fl))])) (vp_Si (fun r => True)) 0 0 (fun _ => False) := by
  refine Met.ofW (cc := cX6_frailTeeth) (maxL := 3) (ret := (some .int)) (by decide) rfl ?_
  intro p e s m args below meth c s₁ B hml hv
  obtain ⟨rfl, hP, hK, hN, hZ⟩ := hv
  have hx := B.exec
  have hb := B.bytes
  have hr := B.returns
  have hts := atoms_spec (ws := wsX6_frailTeeth) B.pre
  have hown : s.vm.findClass RX6 = some m.cls := findClass_of_methodNamed B.named
  have hlocks := B.notSynchronized
  have hl := lv_entry ([.ref z0]) (n := 3) (Nat.le_of_ble_eq_true rfl)
  rw [lg_entry_eq]
  generalize (lg_sl ([.ref z0]) ++ List.replicate (3 - (lg_sl ([.ref z0])).length) Slot.unset).toArray = ls at hl ⊢
  replace hl : lv_has ls 3 [(0, .ref z0)] := hl
  refine lv_aload_n hx hb dX6_frailTeeth_0 rfl (lv_at hl 0 rfl) ?_
  refine zc_V (As := []) (rest := []) ⟨hx, hb, hml, hown, hts⟩ (c_Zip_isStrong l D cI cJ cZ cP cS po z0 zl zs (sz) (at_) (gp) fl ((fun _ => 0)) hy0 hy1 hy2 hy3 hy4 hy5 hp_fl) (cwV 0 hts gX6_frailTeeth_X6_isStrong rfl rfl rfl ⟨rfl, dh_X6_isStrong⟩ ⟨Nat.le_of_ble_eq_true rfl, Nat.le_of_ble_eq_true rfl⟩) hK hN hZ hP (hP.sub [0, 1] rfl) (va_recv (q := (RX6, TX6, 5)) hK hP (ci := 6) (q0 := 0) rfl rfl) rfl hl.1 rfl (Nat.le_of_ble_eq_true rfl) dX6_frailTeeth_1 ⟨Nat.le_of_ble_eq_true rfl, Nat.le_of_ble_eq_true rfl⟩ (fun r_1 hr_1 => ?_)
  obtain ⟨g_2, g_3⟩ := hr_1
  refine lv_if_ne (tgt := 9) hx hb dX6_frailTeeth_4 (by decide) (fun c_4 => ?_) (fun c_4 => ?_)
  · have fc_4 : r_1.toInt ≠ 0 := zf_ne c_4 rfl (by decide)
    refine lv_iconst (v := 0) hx hb dX6_frailTeeth_9 (by decide) ?_
    refine lv_istore_n (lv' := [(1, .int 0), (0, .ref z0)]) hx hb dX6_frailTeeth_10 rfl hl (by decide) rfl (fun ls hl => ?_)
    refine lv_iconst (v := 0) hx hb dX6_frailTeeth_11 (by decide) ?_
    refine lv_istore_n (lv' := [(2, .int 0), (1, .int 0), (0, .ref z0)]) hx hb dX6_frailTeeth_12 rfl hl (by decide) rfl (fun ls hl => ?_)
    obtain ⟨i_13, hi_13⟩ : ∃ i : Int32, i = 0 := ⟨_, rfl⟩
    replace hl : lv_has ls 3 [(2, .int i_13), (1, .int 0), (0, .ref z0)] := by rw [hi_13]; exact lv_sub hl [0, 1, 2] rfl
    have h1i_13 : i_13.toInt = 0 := by rw [hi_13]; decide
    obtain ⟨nfu, hni_13⟩ : ∃ nq9 : Nat, sz.toInt ≤ i_13.toInt + (nq9 : Int) := ⟨((sz.toInt : Int) - 0).toNat, by omega⟩
    have hloi_13 : 0 ≤ i_13.toInt := by omega
    obtain ⟨v_5, hv_5⟩ : ∃ g : Int32, g = 0 := ⟨_, rfl⟩
    replace hl : lv_has ls 3 [(2, .int i_13), (1, .int v_5), (0, .ref z0)] := by rw [hv_5]; exact hl
    clear h1i_13 hi_13 hv_5
    revert hni_13
    revert hloi_13
    revert hl
    revert ls
    revert v_5
    revert i_13
    induction nfu with
    | zero =>
      intro i_13 v_5 ls hl hloi_13 hni_13
      have hzi_13 : sz.toInt ≤ i_13.toInt := by omega
      refine lv_iload_n hx hb dX6_frailTeeth_13 rfl (lv_at hl 0 rfl) ?_
      refine lv_aload_n hx hb dX6_frailTeeth_14 rfl (lv_at hl 2 rfl) ?_
      refine va_get (D := D) (ci := 6) (v := .int sz) (C := RX6) (T := TX6) (N := 5) hx hb hts hi_X6_frailTeeth_6 hown hK hP 0 rfl rfl 2 (by decide) (hts (.fieldLink RX6 19 "TheLiningsInIt$Zip" "size" "I") (List.mem_of_getElem? (i := 1) rfl)) (fun _ h9 => h9) rfl dX6_frailTeeth_15 ?_
      refine lv_icmp_ge (tgt := 47) hx hb dX6_frailTeeth_18 (by decide) (fun c_6 => ?_) (fun c_6 => ?_)
      · have fc_6 : sz.toInt ≤ i_13.toInt := zf_le c_6 rfl rfl
        refine lv_iload_n hx hb dX6_frailTeeth_47 rfl (lv_at hl 1 rfl) ?_
        exact W.iret (v := v_5) hx hb hr (fun t ht hW => ⟨v_5, rfl, trivial, ht⟩) (fun q hq => by cases hq) dX6_frailTeeth_48
      · exfalso; have fc_6 : i_13.toInt < sz.toInt := zf_nle c_6 rfl rfl; omega
    | succ nfu ih =>
      intro i_13 v_5 ls hl hloi_13 hni_13
      refine lv_iload_n hx hb dX6_frailTeeth_13 rfl (lv_at hl 0 rfl) ?_
      refine lv_aload_n hx hb dX6_frailTeeth_14 rfl (lv_at hl 2 rfl) ?_
      refine va_get (D := D) (ci := 6) (v := .int sz) (C := RX6) (T := TX6) (N := 5) hx hb hts hi_X6_frailTeeth_6 hown hK hP 0 rfl rfl 2 (by decide) (hts (.fieldLink RX6 19 "TheLiningsInIt$Zip" "size" "I") (List.mem_of_getElem? (i := 1) rfl)) (fun _ h9 => h9) rfl dX6_frailTeeth_15 ?_
      refine lv_icmp_ge (tgt := 47) hx hb dX6_frailTeeth_18 (by decide) (fun c_7 => ?_) (fun c_7 => ?_)
      · have fc_7 : sz.toInt ≤ i_13.toInt := zf_le c_7 rfl rfl
        refine lv_iload_n hx hb dX6_frailTeeth_47 rfl (lv_at hl 1 rfl) ?_
        exact W.iret (v := v_5) hx hb hr (fun t ht hW => ⟨v_5, rfl, trivial, ht⟩) (fun q hq => by cases hq) dX6_frailTeeth_48
      · have fc_7 : i_13.toInt < sz.toInt := zf_nle c_7 rfl rfl
        refine lv_aload_n hx hb dX6_frailTeeth_21 rfl (lv_at hl 2 rfl) ?_
        refine va_get (D := D) (ci := 6) (v := .ref zl) (C := RX6) (T := TX6) (N := 5) hx hb hts hi_X6_frailTeeth_6 hown hK hP 0 rfl rfl 0 (by decide) (hts (.fieldLink RX6 9 "TheLiningsInIt$Zip" "lacking" "[Z") (List.mem_of_getElem? (i := 2) rfl)) (fun _ h9 => h9) rfl dX6_frailTeeth_22 ?_
        refine lv_iload_n hx hb dX6_frailTeeth_25 rfl (lv_at hl 0 rfl) ?_
        refine va_zald hx hb hK hP 1 2 rfl rfl (zf_in (by omega) (by omega)) dX6_frailTeeth_26 ?_
        refine lv_topi (fun x_8 ex_8 => ?_)
        have bx_8 : 0 ≤ x_8.toInt ∧ x_8.toInt ≤ 1 := by rw [ex_8]; exact hp_fl _
        refine lv_if_ne (tgt := 41) hx hb dX6_frailTeeth_27 (by decide) (fun c_9 => ?_) (fun c_9 => ?_)
        · have fc_9 : x_8.toInt ≠ 0 := zf_ne c_9 rfl (by decide)
          obtain ⟨x_10, ex_10⟩ : ∃ y : Int32, y = i_13 + 1 := ⟨_, rfl⟩
          have qx_10 : x_10.toInt = i_13.toInt + 1 := dw_inc ex_10 fc_7
          refine lv_iinc (v := x_10) (lv' := [(2, .int x_10), (1, .int v_5), (0, .ref z0)]) hx hb dX6_frailTeeth_41 hl (k := 0) rfl ex_10.symm (by decide) rfl (fun ls hl => ?_)
          refine lv_goto (tgt := 13) hx hb dX6_frailTeeth_44 (by decide) ?_
          exact ih x_10 v_5 _ (lv_sub hl [0, 1, 2] rfl) (dw_lo hloi_13 qx_10) (dw_hn hni_13 qx_10)
        · have fc_9 : x_8.toInt = 0 := zf_eq c_9 rfl (by decide)
          refine lv_aload_n hx hb dX6_frailTeeth_30 rfl (lv_at hl 2 rfl) ?_
          refine lv_iload_n hx hb dX6_frailTeeth_31 rfl (lv_at hl 0 rfl) ?_
          refine zc_V (As := [.int i_13]) (rest := []) ⟨hx, hb, hml, hown, hts⟩ (c_Zip_isFrail l D cI cJ cZ cP cS po z0 zl zs (sz) (at_) (gp) fl ((fun _ => 0)) (i_13) hy0 hy1 hy2 hy3 hy4 hy5 hp_fl) (cwV 1 hts gX6_frailTeeth_X6_isFrail rfl rfl rfl ⟨rfl, dh_X6_isFrail⟩ ⟨Nat.le_of_ble_eq_true rfl, Nat.le_of_ble_eq_true rfl⟩) hK hN hZ hP (hP.sub [0, 1] rfl) (va_recv (q := (RX6, TX6, 5)) hK hP (ci := 6) (q0 := 0) rfl rfl) rfl hl.1 rfl (Nat.le_of_ble_eq_true rfl) dX6_frailTeeth_32 ⟨Nat.le_of_ble_eq_true rfl, Nat.le_of_ble_eq_true rfl⟩ (fun r_11 hr_11 => ?_)
          obtain ⟨g_12, g_13⟩ := hr_11
          refine lv_if_eq (tgt := 41) hx hb dX6_frailTeeth_35 (by decide) (fun c_14 => ?_) (fun c_14 => ?_)
          · have fc_14 : r_11.toInt = 0 := zf_eq c_14 rfl (by decide)
            obtain ⟨x_15, ex_15⟩ : ∃ y : Int32, y = i_13 + 1 := ⟨_, rfl⟩
            have qx_15 : x_15.toInt = i_13.toInt + 1 := dw_inc ex_15 fc_7
            refine lv_iinc (v := x_15) (lv' := [(2, .int x_15), (1, .int v_5), (0, .ref z0)]) hx hb dX6_frailTeeth_41 hl (k := 0) rfl ex_15.symm (by decide) rfl (fun ls hl => ?_)
            refine lv_goto (tgt := 13) hx hb dX6_frailTeeth_44 (by decide) ?_
            exact ih x_15 v_5 _ (lv_sub hl [0, 1, 2] rfl) (dw_lo hloi_13 qx_15) (dw_hn hni_13 qx_15)
          · have fc_14 : r_11.toInt ≠ 0 := zf_ne c_14 rfl (by decide)
            obtain ⟨x_16, ex_16⟩ : ∃ y : Int32, y = v_5 + 1 := ⟨_, rfl⟩
            refine lv_iinc (v := x_16) (lv' := [(1, .int x_16), (2, .int i_13), (0, .ref z0)]) hx hb dX6_frailTeeth_38 hl (k := 1) rfl ex_16.symm (by decide) rfl (fun ls hl => ?_)
            obtain ⟨x_17, ex_17⟩ : ∃ y : Int32, y = i_13 + 1 := ⟨_, rfl⟩
            have qx_17 : x_17.toInt = i_13.toInt + 1 := dw_inc ex_17 fc_7
            refine lv_iinc (v := x_17) (lv' := [(2, .int x_17), (1, .int x_16), (0, .ref z0)]) hx hb dX6_frailTeeth_41 hl (k := 1) rfl ex_17.symm (by decide) rfl (fun ls hl => ?_)
            refine lv_goto (tgt := 13) hx hb dX6_frailTeeth_44 (by decide) ?_
            exact ih x_17 x_16 _ (lv_sub hl [0, 1, 2] rfl) (dw_lo hloi_13 qx_17) (dw_hn hni_13 qx_17)
  · have fc_4 : r_1.toInt = 0 := zf_eq c_4 rfl (by decide)
    refine lv_iconst (v := 0) hx hb dX6_frailTeeth_7 (by decide) ?_
    exact W.iret (v := 0) hx hb hr (fun t ht hW => ⟨0, rfl, trivial, ht⟩) (fun q hq => by cases hq) dX6_frailTeeth_8
theorem hi_X6_spareTeeth_6 : ∀ w ∈ u_ws RX6 TX6 5, w ∈ wsX6_spareTeeth := fun w h => (gl_X6_spareTeeth_X60 w h).1
set_option maxHeartbeats 4000000 in
set_option maxRecDepth 100000 in
theorem c_Zip_spareTeeth (l : Launch) (D : va_G) (cI cJ cZ cP cS : ClassId) (po : zPool) (z0 zl zs : Nat) (sz at_ gp : Int32) (fl fs : Nat → Int32)  (hy0 : 4 ≤ sz.toInt) (hy1 : sz.toInt ≤ 40) (hy2 : 0 ≤ at_.toInt) (hy3 : at_.toInt ≤ 40) (hy4 : 1 ≤ gp.toInt) (hy5 : gp.toInt ≤ 9) (hp_fl : zRg fl (0) 1) : Met l yX6_spareTeeth wsX6_spareTeeth ({ frames := 4, cells := 0, slots := 0, locals := 84 }) (va_Pc [.ref z0] (zR D (zKT cI cJ cZ cP cS) po [(z0, .inr (6, [.ref zl, .ref zs, .int sz, .int at_, .int gp])), (zl, .inl (cZ, 40, .inl fl))])) (vp_Si (fun r => True)) 0 0 (fun _ => False) := by
  refine Met.ofW (cc := cX6_spareTeeth) (maxL := 8) (ret := (some .int)) (by decide) rfl ?_
  intro p e s m args below meth c s₁ B hml hv
  obtain ⟨rfl, hP, hK, hN, hZ⟩ := hv
  have hx := B.exec
  have hb := B.bytes
  have hr := B.returns
  have hts := atoms_spec (ws := wsX6_spareTeeth) B.pre
  have hown : s.vm.findClass RX6 = some m.cls := findClass_of_methodNamed B.named
  have hlocks := B.notSynchronized
  have hl := lv_entry ([.ref z0]) (n := 8) (Nat.le_of_ble_eq_true rfl)
  rw [lg_entry_eq]
  generalize (lg_sl ([.ref z0]) ++ List.replicate (8 - (lg_sl ([.ref z0])).length) Slot.unset).toArray = ls at hl ⊢
  replace hl : lv_has ls 8 [(0, .ref z0)] := hl
  refine lv_aload_n hx hb dX6_spareTeeth_0 rfl (lv_at hl 0 rfl) ?_
  refine zc_V (As := []) (rest := []) ⟨hx, hb, hml, hown, hts⟩ (c_Zip_isStrong l D cI cJ cZ cP cS po z0 zl zs (sz) (at_) (gp) fl ((fun _ => 0)) hy0 hy1 hy2 hy3 hy4 hy5 hp_fl) (cwV 0 hts gX6_spareTeeth_X6_isStrong rfl rfl rfl ⟨rfl, dh_X6_isStrong⟩ ⟨Nat.le_of_ble_eq_true rfl, Nat.le_of_ble_eq_true rfl⟩) hK hN hZ hP (hP.sub [0, 1] rfl) (va_recv (q := (RX6, TX6, 5)) hK hP (ci := 6) (q0 := 0) rfl rfl) rfl hl.1 rfl (Nat.le_of_ble_eq_true rfl) dX6_spareTeeth_1 ⟨Nat.le_of_ble_eq_true rfl, Nat.le_of_ble_eq_true rfl⟩ (fun r_1 hr_1 => ?_)
  obtain ⟨g_2, g_3⟩ := hr_1
  refine lv_if_ne (tgt := 9) hx hb dX6_spareTeeth_4 (by decide) (fun c_4 => ?_) (fun c_4 => ?_)
  · have fc_4 : r_1.toInt ≠ 0 := zf_ne c_4 rfl (by decide)
    refine lv_bipush (v := (-41)) hx hb dX6_spareTeeth_9 (by decide) ?_
    refine lv_istore_n (lv' := [(1, .int (-41)), (0, .ref z0)]) hx hb dX6_spareTeeth_11 rfl hl (by decide) rfl (fun ls hl => ?_)
    refine lv_iconst (v := 0) hx hb dX6_spareTeeth_12 (by decide) ?_
    refine lv_istore_n (lv' := [(2, .int 0), (1, .int (-41)), (0, .ref z0)]) hx hb dX6_spareTeeth_13 rfl hl (by decide) rfl (fun ls hl => ?_)
    refine lv_iload_n hx hb dX6_spareTeeth_14 rfl (lv_at hl 1 rfl) ?_
    refine lv_istore_n (lv' := [(3, .int (-41)), (2, .int 0), (1, .int (-41)), (0, .ref z0)]) hx hb dX6_spareTeeth_15 rfl hl (by decide) rfl (fun ls hl => ?_)
    refine lv_iload_n hx hb dX6_spareTeeth_16 rfl (lv_at hl 2 rfl) ?_
    refine lv_istore (lv' := [(4, .int (-41)), (3, .int (-41)), (2, .int 0), (1, .int (-41)), (0, .ref z0)]) hx hb dX6_spareTeeth_17 hl (by decide) rfl (fun ls hl => ?_)
    refine lv_iconst (v := 0) hx hb dX6_spareTeeth_19 (by decide) ?_
    refine lv_istore (lv' := [(5, .int 0), (4, .int (-41)), (3, .int (-41)), (2, .int 0), (1, .int (-41)), (0, .ref z0)]) hx hb dX6_spareTeeth_20 hl (by decide) rfl (fun ls hl => ?_)
    obtain ⟨i_22, hi_22⟩ : ∃ i : Int32, i = 0 := ⟨_, rfl⟩
    replace hl : lv_has ls 8 [(5, .int i_22), (4, .int (-41)), (3, .int (-41)), (2, .int 0), (1, .int (-41)), (0, .ref z0)] := by rw [hi_22]; exact lv_sub hl [0, 1, 2, 3, 4, 5] rfl
    have h1i_22 : i_22.toInt = 0 := by rw [hi_22]; decide
    obtain ⟨nfu, hni_22⟩ : ∃ nq9 : Nat, sz.toInt ≤ i_22.toInt + (nq9 : Int) := ⟨((sz.toInt : Int) - 0).toNat, by omega⟩
    have hloi_22 : 0 ≤ i_22.toInt := by omega
    obtain ⟨v_5, hv_5⟩ : ∃ g : Int32, g = 0 := ⟨_, rfl⟩
    obtain ⟨v_6, hv_6⟩ : ∃ g : Int32, g = (-41) := ⟨_, rfl⟩
    obtain ⟨v_7, hv_7⟩ : ∃ g : Int32, g = (-41) := ⟨_, rfl⟩
    replace hl : lv_has ls 8 [(5, .int i_22), (4, .int v_7), (3, .int v_6), (2, .int v_5), (1, .int (-41)), (0, .ref z0)] := by rw [hv_5, hv_6, hv_7]; exact hl
    clear h1i_22 hi_22 hv_5 hv_6 hv_7
    revert hni_22
    revert hloi_22
    revert hl
    revert ls
    revert v_7
    revert v_6
    revert v_5
    revert i_22
    induction nfu with
    | zero =>
      intro i_22 v_5 v_6 v_7 ls hl hloi_22 hni_22
      have hzi_22 : sz.toInt ≤ i_22.toInt := by omega
      refine lv_iload hx hb dX6_spareTeeth_22 (lv_at hl 0 rfl) ?_
      refine lv_aload_n hx hb dX6_spareTeeth_24 rfl (lv_at hl 5 rfl) ?_
      refine va_get (D := D) (ci := 6) (v := .int sz) (C := RX6) (T := TX6) (N := 5) hx hb hts hi_X6_spareTeeth_6 hown hK hP 0 rfl rfl 2 (by decide) (hts (.fieldLink RX6 19 "TheLiningsInIt$Zip" "size" "I") (List.mem_of_getElem? (i := 1) rfl)) (fun _ h9 => h9) rfl dX6_spareTeeth_25 ?_
      refine lv_icmp_ge (tgt := 94) hx hb dX6_spareTeeth_28 (by decide) (fun c_8 => ?_) (fun c_8 => ?_)
      · have fc_8 : sz.toInt ≤ i_22.toInt := zf_le c_8 rfl rfl
        refine lv_iload_n hx hb dX6_spareTeeth_94 rfl (lv_at hl 3 rfl) ?_
        refine lv_iload_n hx hb dX6_spareTeeth_95 rfl (lv_at hl 2 rfl) ?_
        refine lv_iload hx hb dX6_spareTeeth_96 (lv_at hl 1 rfl) ?_
        refine va_mmax hx hb (hml.trans hl.1.symm) hown (hts (.methodLink RX6 46 Lib.Math.max.name) (List.mem_of_getElem? (i := 3) rfl)) (hts _ (List.mem_of_getElem? (i := 4) rfl)) (hts _ (List.mem_of_getElem? (i := 5) rfl)) (hts _ (List.mem_of_getElem? (i := 6) rfl)) (Nat.le_of_ble_eq_true rfl) (Nat.le_of_ble_eq_true rfl) (Nat.le_of_ble_eq_true rfl) (Nat.le_of_ble_eq_true rfl) dX6_spareTeeth_98 ?_
        refine lv_topi (fun x_9 ex_9 => ?_)
        have qx_9 := zf_max ex_9 (x1 := v_6.toInt) (y1 := v_7.toInt) rfl rfl
        refine va_mmax hx hb (hml.trans hl.1.symm) hown (hts (.methodLink RX6 46 Lib.Math.max.name) (List.mem_of_getElem? (i := 3) rfl)) (hts _ (List.mem_of_getElem? (i := 4) rfl)) (hts _ (List.mem_of_getElem? (i := 5) rfl)) (hts _ (List.mem_of_getElem? (i := 6) rfl)) (Nat.le_of_ble_eq_true rfl) (Nat.le_of_ble_eq_true rfl) (Nat.le_of_ble_eq_true rfl) (Nat.le_of_ble_eq_true rfl) dX6_spareTeeth_101 ?_
        refine lv_topi (fun x_10 ex_10 => ?_)
        have qx_10 := zf_max ex_10 (x1 := v_5.toInt) (y1 := x_9.toInt) rfl rfl
        exact W.iret (v := x_10) hx hb hr (fun t ht hW => ⟨x_10, rfl, trivial, ht⟩) (fun q hq => by cases hq) dX6_spareTeeth_104
      · exfalso; have fc_8 : i_22.toInt < sz.toInt := zf_nle c_8 rfl rfl; omega
    | succ nfu ih =>
      intro i_22 v_5 v_6 v_7 ls hl hloi_22 hni_22
      refine lv_iload hx hb dX6_spareTeeth_22 (lv_at hl 0 rfl) ?_
      refine lv_aload_n hx hb dX6_spareTeeth_24 rfl (lv_at hl 5 rfl) ?_
      refine va_get (D := D) (ci := 6) (v := .int sz) (C := RX6) (T := TX6) (N := 5) hx hb hts hi_X6_spareTeeth_6 hown hK hP 0 rfl rfl 2 (by decide) (hts (.fieldLink RX6 19 "TheLiningsInIt$Zip" "size" "I") (List.mem_of_getElem? (i := 1) rfl)) (fun _ h9 => h9) rfl dX6_spareTeeth_25 ?_
      refine lv_icmp_ge (tgt := 94) hx hb dX6_spareTeeth_28 (by decide) (fun c_11 => ?_) (fun c_11 => ?_)
      · have fc_11 : sz.toInt ≤ i_22.toInt := zf_le c_11 rfl rfl
        refine lv_iload_n hx hb dX6_spareTeeth_94 rfl (lv_at hl 3 rfl) ?_
        refine lv_iload_n hx hb dX6_spareTeeth_95 rfl (lv_at hl 2 rfl) ?_
        refine lv_iload hx hb dX6_spareTeeth_96 (lv_at hl 1 rfl) ?_
        refine va_mmax hx hb (hml.trans hl.1.symm) hown (hts (.methodLink RX6 46 Lib.Math.max.name) (List.mem_of_getElem? (i := 3) rfl)) (hts _ (List.mem_of_getElem? (i := 4) rfl)) (hts _ (List.mem_of_getElem? (i := 5) rfl)) (hts _ (List.mem_of_getElem? (i := 6) rfl)) (Nat.le_of_ble_eq_true rfl) (Nat.le_of_ble_eq_true rfl) (Nat.le_of_ble_eq_true rfl) (Nat.le_of_ble_eq_true rfl) dX6_spareTeeth_98 ?_
        refine lv_topi (fun x_12 ex_12 => ?_)
        have qx_12 := zf_max ex_12 (x1 := v_6.toInt) (y1 := v_7.toInt) rfl rfl
        refine va_mmax hx hb (hml.trans hl.1.symm) hown (hts (.methodLink RX6 46 Lib.Math.max.name) (List.mem_of_getElem? (i := 3) rfl)) (hts _ (List.mem_of_getElem? (i := 4) rfl)) (hts _ (List.mem_of_getElem? (i := 5) rfl)) (hts _ (List.mem_of_getElem? (i := 6) rfl)) (Nat.le_of_ble_eq_true rfl) (Nat.le_of_ble_eq_true rfl) (Nat.le_of_ble_eq_true rfl) (Nat.le_of_ble_eq_true rfl) dX6_spareTeeth_101 ?_
        refine lv_topi (fun x_13 ex_13 => ?_)
        have qx_13 := zf_max ex_13 (x1 := v_5.toInt) (y1 := x_12.toInt) rfl rfl
        exact W.iret (v := x_13) hx hb hr (fun t ht hW => ⟨x_13, rfl, trivial, ht⟩) (fun q hq => by cases hq) dX6_spareTeeth_104
      · have fc_11 : i_22.toInt < sz.toInt := zf_nle c_11 rfl rfl
        refine lv_aload_n hx hb dX6_spareTeeth_31 rfl (lv_at hl 5 rfl) ?_
        refine va_get (D := D) (ci := 6) (v := .ref zl) (C := RX6) (T := TX6) (N := 5) hx hb hts hi_X6_spareTeeth_6 hown hK hP 0 rfl rfl 0 (by decide) (hts (.fieldLink RX6 9 "TheLiningsInIt$Zip" "lacking" "[Z") (List.mem_of_getElem? (i := 2) rfl)) (fun _ h9 => h9) rfl dX6_spareTeeth_32 ?_
        refine lv_iload hx hb dX6_spareTeeth_35 (lv_at hl 0 rfl) ?_
        refine va_zald hx hb hK hP 1 2 rfl rfl (zf_in (by omega) (by omega)) dX6_spareTeeth_37 ?_
        refine lv_topi (fun x_14 ex_14 => ?_)
        have bx_14 : 0 ≤ x_14.toInt ∧ x_14.toInt ≤ 1 := by rw [ex_14]; exact hp_fl _
        refine lv_if_eq (tgt := 45) hx hb dX6_spareTeeth_38 (by decide) (fun c_15 => ?_) (fun c_15 => ?_)
        · have fc_15 : x_14.toInt = 0 := zf_eq c_15 rfl (by decide)
          refine lv_iconst (v := 1) hx hb dX6_spareTeeth_45 (by decide) ?_
          refine lv_istore (lv' := [(6, .int 1), (5, .int i_22), (4, .int v_7), (3, .int v_6), (2, .int v_5), (1, .int (-41)), (0, .ref z0)]) hx hb dX6_spareTeeth_46 hl (by decide) rfl (fun ls hl => ?_)
          refine lv_iload_n hx hb dX6_spareTeeth_48 rfl (lv_at hl 4 rfl) ?_
          refine lv_iload_n hx hb dX6_spareTeeth_49 rfl (lv_at hl 3 rfl) ?_
          refine lv_iload hx hb dX6_spareTeeth_50 (lv_at hl 2 rfl) ?_
          refine va_mmax hx hb (hml.trans hl.1.symm) hown (hts (.methodLink RX6 46 Lib.Math.max.name) (List.mem_of_getElem? (i := 3) rfl)) (hts _ (List.mem_of_getElem? (i := 4) rfl)) (hts _ (List.mem_of_getElem? (i := 5) rfl)) (hts _ (List.mem_of_getElem? (i := 6) rfl)) (Nat.le_of_ble_eq_true rfl) (Nat.le_of_ble_eq_true rfl) (Nat.le_of_ble_eq_true rfl) (Nat.le_of_ble_eq_true rfl) dX6_spareTeeth_52 ?_
          refine lv_topi (fun x_16 ex_16 => ?_)
          have qx_16 := zf_max ex_16 (x1 := v_6.toInt) (y1 := v_7.toInt) rfl rfl
          refine va_mmax hx hb (hml.trans hl.1.symm) hown (hts (.methodLink RX6 46 Lib.Math.max.name) (List.mem_of_getElem? (i := 3) rfl)) (hts _ (List.mem_of_getElem? (i := 4) rfl)) (hts _ (List.mem_of_getElem? (i := 5) rfl)) (hts _ (List.mem_of_getElem? (i := 6) rfl)) (Nat.le_of_ble_eq_true rfl) (Nat.le_of_ble_eq_true rfl) (Nat.le_of_ble_eq_true rfl) (Nat.le_of_ble_eq_true rfl) dX6_spareTeeth_55 ?_
          refine lv_topi (fun x_17 ex_17 => ?_)
          have qx_17 := zf_max ex_17 (x1 := v_5.toInt) (y1 := x_16.toInt) rfl rfl
          refine lv_istore (lv' := [(7, .int x_17), (6, .int 1), (5, .int i_22), (4, .int v_7), (3, .int v_6), (2, .int v_5), (1, .int (-41)), (0, .ref z0)]) hx hb dX6_spareTeeth_58 hl (by decide) rfl (fun ls hl => ?_)
          refine lv_iload_n hx hb dX6_spareTeeth_60 rfl (lv_at hl 4 rfl) ?_
          refine lv_iload hx hb dX6_spareTeeth_61 (lv_at hl 1 rfl) ?_
          refine lv_iadd hx hb dX6_spareTeeth_63 ?_
          refine lv_topi (fun x_18 ex_18 => ?_)
          refine lv_istore (lv' := [(4, .int x_18), (7, .int x_17), (6, .int 1), (5, .int i_22), (3, .int v_6), (2, .int v_5), (1, .int (-41)), (0, .ref z0)]) hx hb dX6_spareTeeth_64 hl (by decide) rfl (fun ls hl => ?_)
          refine lv_iload_n hx hb dX6_spareTeeth_66 rfl (lv_at hl 5 rfl) ?_
          refine lv_iload hx hb dX6_spareTeeth_67 (lv_at hl 2 rfl) ?_
          refine lv_iadd hx hb dX6_spareTeeth_69 ?_
          refine lv_topi (fun x_19 ex_19 => ?_)
          refine lv_istore_n (lv' := [(3, .int x_19), (4, .int x_18), (7, .int x_17), (6, .int 1), (5, .int i_22), (2, .int v_5), (1, .int (-41)), (0, .ref z0)]) hx hb dX6_spareTeeth_70 rfl hl (by decide) rfl (fun ls hl => ?_)
          refine lv_aload_n hx hb dX6_spareTeeth_71 rfl (lv_at hl 7 rfl) ?_
          refine va_get (D := D) (ci := 6) (v := .ref zl) (C := RX6) (T := TX6) (N := 5) hx hb hts hi_X6_spareTeeth_6 hown hK hP 0 rfl rfl 0 (by decide) (hts (.fieldLink RX6 9 "TheLiningsInIt$Zip" "lacking" "[Z") (List.mem_of_getElem? (i := 2) rfl)) (fun _ h9 => h9) rfl dX6_spareTeeth_72 ?_
          refine lv_iload hx hb dX6_spareTeeth_75 (lv_at hl 4 rfl) ?_
          refine va_zald hx hb hK hP 1 2 rfl rfl (zf_in (by omega) (by omega)) dX6_spareTeeth_77 ?_
          refine lv_topi (fun x_20 ex_20 => ?_)
          have bx_20 : 0 ≤ x_20.toInt ∧ x_20.toInt ≤ 1 := by rw [ex_20]; exact hp_fl _
          refine lv_if_eq (tgt := 85) hx hb dX6_spareTeeth_78 (by decide) (fun c_21 => ?_) (fun c_21 => ?_)
          · have fc_21 : x_20.toInt = 0 := zf_eq c_21 rfl (by decide)
            refine lv_iload hx hb dX6_spareTeeth_85 (lv_at hl 2 rfl) ?_
            refine lv_istore_n (lv' := [(2, .int x_17), (3, .int x_19), (4, .int x_18), (7, .int x_17), (6, .int 1), (5, .int i_22), (1, .int (-41)), (0, .ref z0)]) hx hb dX6_spareTeeth_87 rfl hl (by decide) rfl (fun ls hl => ?_)
            obtain ⟨x_22, ex_22⟩ : ∃ y : Int32, y = i_22 + 1 := ⟨_, rfl⟩
            have qx_22 : x_22.toInt = i_22.toInt + 1 := dw_inc ex_22 fc_11
            refine lv_iinc (v := x_22) (lv' := [(5, .int x_22), (2, .int x_17), (3, .int x_19), (4, .int x_18), (7, .int x_17), (6, .int 1), (1, .int (-41)), (0, .ref z0)]) hx hb dX6_spareTeeth_88 hl (k := 5) rfl ex_22.symm (by decide) rfl (fun ls hl => ?_)
            refine lv_goto (tgt := 22) hx hb dX6_spareTeeth_91 (by decide) ?_
            exact ih x_22 x_17 x_19 x_18 _ (lv_sub hl [0, 3, 2, 1, 6, 7] rfl) (dw_lo hloi_22 qx_22) (dw_hn hni_22 qx_22)
          · have fc_21 : x_20.toInt ≠ 0 := zf_ne c_21 rfl (by decide)
            refine lv_iload_n hx hb dX6_spareTeeth_81 rfl (lv_at hl 6 rfl) ?_
            refine lv_goto (tgt := 87) hx hb dX6_spareTeeth_82 (by decide) ?_
            refine lv_istore_n (lv' := [(2, .int (-41)), (3, .int x_19), (4, .int x_18), (7, .int x_17), (6, .int 1), (5, .int i_22), (1, .int (-41)), (0, .ref z0)]) hx hb dX6_spareTeeth_87 rfl hl (by decide) rfl (fun ls hl => ?_)
            obtain ⟨x_23, ex_23⟩ : ∃ y : Int32, y = i_22 + 1 := ⟨_, rfl⟩
            have qx_23 : x_23.toInt = i_22.toInt + 1 := dw_inc ex_23 fc_11
            refine lv_iinc (v := x_23) (lv' := [(5, .int x_23), (2, .int (-41)), (3, .int x_19), (4, .int x_18), (7, .int x_17), (6, .int 1), (1, .int (-41)), (0, .ref z0)]) hx hb dX6_spareTeeth_88 hl (k := 5) rfl ex_23.symm (by decide) rfl (fun ls hl => ?_)
            refine lv_goto (tgt := 22) hx hb dX6_spareTeeth_91 (by decide) ?_
            exact ih x_23 (-41) x_19 x_18 _ (lv_sub hl [0, 3, 2, 1, 6, 7] rfl) (dw_lo hloi_22 qx_23) (dw_hn hni_22 qx_23)
        · have fc_15 : x_14.toInt ≠ 0 := zf_ne c_15 rfl (by decide)
          refine lv_iconst (v := 0) hx hb dX6_spareTeeth_41 (by decide) ?_
          refine lv_goto (tgt := 46) hx hb dX6_spareTeeth_42 (by decide) ?_
          refine lv_istore (lv' := [(6, .int 0), (5, .int i_22), (4, .int v_7), (3, .int v_6), (2, .int v_5), (1, .int (-41)), (0, .ref z0)]) hx hb dX6_spareTeeth_46 hl (by decide) rfl (fun ls hl => ?_)
          refine lv_iload_n hx hb dX6_spareTeeth_48 rfl (lv_at hl 4 rfl) ?_
          refine lv_iload_n hx hb dX6_spareTeeth_49 rfl (lv_at hl 3 rfl) ?_
          refine lv_iload hx hb dX6_spareTeeth_50 (lv_at hl 2 rfl) ?_
          refine va_mmax hx hb (hml.trans hl.1.symm) hown (hts (.methodLink RX6 46 Lib.Math.max.name) (List.mem_of_getElem? (i := 3) rfl)) (hts _ (List.mem_of_getElem? (i := 4) rfl)) (hts _ (List.mem_of_getElem? (i := 5) rfl)) (hts _ (List.mem_of_getElem? (i := 6) rfl)) (Nat.le_of_ble_eq_true rfl) (Nat.le_of_ble_eq_true rfl) (Nat.le_of_ble_eq_true rfl) (Nat.le_of_ble_eq_true rfl) dX6_spareTeeth_52 ?_
          refine lv_topi (fun x_24 ex_24 => ?_)
          have qx_24 := zf_max ex_24 (x1 := v_6.toInt) (y1 := v_7.toInt) rfl rfl
          refine va_mmax hx hb (hml.trans hl.1.symm) hown (hts (.methodLink RX6 46 Lib.Math.max.name) (List.mem_of_getElem? (i := 3) rfl)) (hts _ (List.mem_of_getElem? (i := 4) rfl)) (hts _ (List.mem_of_getElem? (i := 5) rfl)) (hts _ (List.mem_of_getElem? (i := 6) rfl)) (Nat.le_of_ble_eq_true rfl) (Nat.le_of_ble_eq_true rfl) (Nat.le_of_ble_eq_true rfl) (Nat.le_of_ble_eq_true rfl) dX6_spareTeeth_55 ?_
          refine lv_topi (fun x_25 ex_25 => ?_)
          have qx_25 := zf_max ex_25 (x1 := v_5.toInt) (y1 := x_24.toInt) rfl rfl
          refine lv_istore (lv' := [(7, .int x_25), (6, .int 0), (5, .int i_22), (4, .int v_7), (3, .int v_6), (2, .int v_5), (1, .int (-41)), (0, .ref z0)]) hx hb dX6_spareTeeth_58 hl (by decide) rfl (fun ls hl => ?_)
          refine lv_iload_n hx hb dX6_spareTeeth_60 rfl (lv_at hl 4 rfl) ?_
          refine lv_iload hx hb dX6_spareTeeth_61 (lv_at hl 1 rfl) ?_
          refine lv_iadd hx hb dX6_spareTeeth_63 ?_
          refine lv_topi (fun y_26 ey_26 => ?_)
          obtain rfl : v_6 = y_26 := (ey_26.trans (Int32.add_zero v_6)).symm
          refine lv_istore (lv' := [(4, .int v_6), (7, .int x_25), (6, .int 0), (5, .int i_22), (3, .int v_6), (2, .int v_5), (1, .int (-41)), (0, .ref z0)]) hx hb dX6_spareTeeth_64 hl (by decide) rfl (fun ls hl => ?_)
          refine lv_iload_n hx hb dX6_spareTeeth_66 rfl (lv_at hl 5 rfl) ?_
          refine lv_iload hx hb dX6_spareTeeth_67 (lv_at hl 2 rfl) ?_
          refine lv_iadd hx hb dX6_spareTeeth_69 ?_
          refine lv_topi (fun y_27 ey_27 => ?_)
          obtain rfl : v_5 = y_27 := (ey_27.trans (Int32.add_zero v_5)).symm
          refine lv_istore_n (lv' := [(3, .int v_5), (4, .int v_6), (7, .int x_25), (6, .int 0), (5, .int i_22), (2, .int v_5), (1, .int (-41)), (0, .ref z0)]) hx hb dX6_spareTeeth_70 rfl hl (by decide) rfl (fun ls hl => ?_)
          refine lv_aload_n hx hb dX6_spareTeeth_71 rfl (lv_at hl 7 rfl) ?_
          refine va_get (D := D) (ci := 6) (v := .ref zl) (C := RX6) (T := TX6) (N := 5) hx hb hts hi_X6_spareTeeth_6 hown hK hP 0 rfl rfl 0 (by decide) (hts (.fieldLink RX6 9 "TheLiningsInIt$Zip" "lacking" "[Z") (List.mem_of_getElem? (i := 2) rfl)) (fun _ h9 => h9) rfl dX6_spareTeeth_72 ?_
          refine lv_iload hx hb dX6_spareTeeth_75 (lv_at hl 4 rfl) ?_
          refine va_zald hx hb hK hP 1 2 rfl rfl (zf_in (by omega) (by omega)) dX6_spareTeeth_77 ?_
          refine lv_topi (fun x_28 ex_28 => ?_)
          have bx_28 : 0 ≤ x_28.toInt ∧ x_28.toInt ≤ 1 := by rw [ex_28]; exact hp_fl _
          refine lv_if_eq (tgt := 85) hx hb dX6_spareTeeth_78 (by decide) (fun c_29 => ?_) (fun c_29 => ?_)
          · have fc_29 : x_28.toInt = 0 := zf_eq c_29 rfl (by decide)
            refine lv_iload hx hb dX6_spareTeeth_85 (lv_at hl 2 rfl) ?_
            refine lv_istore_n (lv' := [(2, .int x_25), (3, .int v_5), (4, .int v_6), (7, .int x_25), (6, .int 0), (5, .int i_22), (1, .int (-41)), (0, .ref z0)]) hx hb dX6_spareTeeth_87 rfl hl (by decide) rfl (fun ls hl => ?_)
            obtain ⟨x_30, ex_30⟩ : ∃ y : Int32, y = i_22 + 1 := ⟨_, rfl⟩
            have qx_30 : x_30.toInt = i_22.toInt + 1 := dw_inc ex_30 fc_11
            refine lv_iinc (v := x_30) (lv' := [(5, .int x_30), (2, .int x_25), (3, .int v_5), (4, .int v_6), (7, .int x_25), (6, .int 0), (1, .int (-41)), (0, .ref z0)]) hx hb dX6_spareTeeth_88 hl (k := 5) rfl ex_30.symm (by decide) rfl (fun ls hl => ?_)
            refine lv_goto (tgt := 22) hx hb dX6_spareTeeth_91 (by decide) ?_
            exact ih x_30 x_25 v_5 v_6 _ (lv_sub hl [0, 3, 2, 1, 6, 7] rfl) (dw_lo hloi_22 qx_30) (dw_hn hni_22 qx_30)
          · have fc_29 : x_28.toInt ≠ 0 := zf_ne c_29 rfl (by decide)
            refine lv_iload_n hx hb dX6_spareTeeth_81 rfl (lv_at hl 6 rfl) ?_
            refine lv_goto (tgt := 87) hx hb dX6_spareTeeth_82 (by decide) ?_
            refine lv_istore_n (lv' := [(2, .int (-41)), (3, .int v_5), (4, .int v_6), (7, .int x_25), (6, .int 0), (5, .int i_22), (1, .int (-41)), (0, .ref z0)]) hx hb dX6_spareTeeth_87 rfl hl (by decide) rfl (fun ls hl => ?_)
            obtain ⟨x_31, ex_31⟩ : ∃ y : Int32, y = i_22 + 1 := ⟨_, rfl⟩
            have qx_31 : x_31.toInt = i_22.toInt + 1 := dw_inc ex_31 fc_11
            refine lv_iinc (v := x_31) (lv' := [(5, .int x_31), (2, .int (-41)), (3, .int v_5), (4, .int v_6), (7, .int x_25), (6, .int 0), (1, .int (-41)), (0, .ref z0)]) hx hb dX6_spareTeeth_88 hl (k := 5) rfl ex_31.symm (by decide) rfl (fun ls hl => ?_)
            refine lv_goto (tgt := 22) hx hb dX6_spareTeeth_91 (by decide) ?_
            exact ih x_31 (-41) v_5 v_6 _ (lv_sub hl [0, 3, 2, 1, 6, 7] rfl) (dw_lo hloi_22 qx_31) (dw_hn hni_22 qx_31)
  · have fc_4 : r_1.toInt = 0 := zf_eq c_4 rfl (by decide)
    refine lv_iconst (v := 0) hx hb dX6_spareTeeth_7 (by decide) ?_
    exact W.iret (v := 0) hx hb hr (fun t ht hW => ⟨0, rfl, trivial, ht⟩) (fun q hq => by cases hq) dX6_spareTeeth_8
theorem gl_X6_lackingTeeth_X60 : GoodIn wsX6_lackingTeeth wsX60 := (dg_t (dg_t (dg_t gw_wsX60)))
theorem hi_X6_lackingTeeth_6 : ∀ w ∈ u_ws RX6 TX6 5, w ∈ wsX6_lackingTeeth := fun w h => (gl_X6_lackingTeeth_X60 w h).1
set_option maxHeartbeats 4000000 in
set_option maxRecDepth 100000 in
theorem c_Zip_lackingTeeth (l : Launch) (D : va_G) (cI cJ cZ cP cS : ClassId) (po : zPool) (z0 zl zs : Nat) (sz at_ gp : Int32) (fl fs : Nat → Int32)  (hy0 : 4 ≤ sz.toInt) (hy1 : sz.toInt ≤ 40) (hy2 : 0 ≤ at_.toInt) (hy3 : at_.toInt ≤ 40) (hy4 : 1 ≤ gp.toInt) (hy5 : gp.toInt ≤ 9) (hp_fl : zRg fl (0) 1) : Met l yX6_lackingTeeth wsX6_lackingTeeth ({ frames := 0, cells := 0, slots := 0, locals := 0 }) (va_Pc [.ref z0] (zR D (zKT cI cJ cZ cP cS) po [(z0, .inr (6, [.ref zl, .ref zs, .int sz, .int at_, .int gp])), (zl, .inl (cZ, 40, .inl fl))])) (vp_Si (fun r => True)) 0 0 (fun _ => False) := by
  refine Met.ofW (cc := cX6_lackingTeeth) (maxL := 3) (ret := (some .int)) (by decide) rfl ?_
  intro p e s m args below meth c s₁ B hml hv
  obtain ⟨rfl, hP, hK, hN, hZ⟩ := hv
  have hx := B.exec
  have hb := B.bytes
  have hr := B.returns
  have hts := atoms_spec (ws := wsX6_lackingTeeth) B.pre
  have hown : s.vm.findClass RX6 = some m.cls := findClass_of_methodNamed B.named
  have hlocks := B.notSynchronized
  have hl := lv_entry ([.ref z0]) (n := 3) (Nat.le_of_ble_eq_true rfl)
  rw [lg_entry_eq]
  generalize (lg_sl ([.ref z0]) ++ List.replicate (3 - (lg_sl ([.ref z0])).length) Slot.unset).toArray = ls at hl ⊢
  replace hl : lv_has ls 3 [(0, .ref z0)] := hl
  refine lv_iconst (v := 0) hx hb dX6_lackingTeeth_0 (by decide) ?_
  refine lv_istore_n (lv' := [(1, .int 0), (0, .ref z0)]) hx hb dX6_lackingTeeth_1 rfl hl (by decide) rfl (fun ls hl => ?_)
  refine lv_iconst (v := 0) hx hb dX6_lackingTeeth_2 (by decide) ?_
  refine lv_istore_n (lv' := [(2, .int 0), (1, .int 0), (0, .ref z0)]) hx hb dX6_lackingTeeth_3 rfl hl (by decide) rfl (fun ls hl => ?_)
  obtain ⟨i_4, hi_4⟩ : ∃ i : Int32, i = 0 := ⟨_, rfl⟩
  replace hl : lv_has ls 3 [(2, .int i_4), (1, .int 0), (0, .ref z0)] := by rw [hi_4]; exact lv_sub hl [0, 1, 2] rfl
  have h1i_4 : i_4.toInt = 0 := by rw [hi_4]; decide
  obtain ⟨nfu, hni_4⟩ : ∃ nq9 : Nat, sz.toInt ≤ i_4.toInt + (nq9 : Int) := ⟨((sz.toInt : Int) - 0).toNat, by omega⟩
  have hloi_4 : 0 ≤ i_4.toInt := by omega
  obtain ⟨v_1, hv_1⟩ : ∃ g : Int32, g = 0 := ⟨_, rfl⟩
  replace hl : lv_has ls 3 [(2, .int i_4), (1, .int v_1), (0, .ref z0)] := by rw [hv_1]; exact hl
  clear h1i_4 hi_4 hv_1
  revert hni_4
  revert hloi_4
  revert hl
  revert ls
  revert v_1
  revert i_4
  induction nfu with
  | zero =>
    intro i_4 v_1 ls hl hloi_4 hni_4
    have hzi_4 : sz.toInt ≤ i_4.toInt := by omega
    refine lv_iload_n hx hb dX6_lackingTeeth_4 rfl (lv_at hl 0 rfl) ?_
    refine lv_aload_n hx hb dX6_lackingTeeth_5 rfl (lv_at hl 2 rfl) ?_
    refine va_get (D := D) (ci := 6) (v := .int sz) (C := RX6) (T := TX6) (N := 5) hx hb hts hi_X6_lackingTeeth_6 hown hK hP 0 rfl rfl 2 (by decide) (hts (.fieldLink RX6 19 "TheLiningsInIt$Zip" "size" "I") (List.mem_of_getElem? (i := 1) rfl)) (fun _ h9 => h9) rfl dX6_lackingTeeth_6 ?_
    refine lv_icmp_ge (tgt := 30) hx hb dX6_lackingTeeth_9 (by decide) (fun c_2 => ?_) (fun c_2 => ?_)
    · have fc_2 : sz.toInt ≤ i_4.toInt := zf_le c_2 rfl rfl
      refine lv_iload_n hx hb dX6_lackingTeeth_30 rfl (lv_at hl 1 rfl) ?_
      exact W.iret (v := v_1) hx hb hr (fun t ht hW => ⟨v_1, rfl, trivial, ht⟩) (fun q hq => by cases hq) dX6_lackingTeeth_31
    · exfalso; have fc_2 : i_4.toInt < sz.toInt := zf_nle c_2 rfl rfl; omega
  | succ nfu ih =>
    intro i_4 v_1 ls hl hloi_4 hni_4
    refine lv_iload_n hx hb dX6_lackingTeeth_4 rfl (lv_at hl 0 rfl) ?_
    refine lv_aload_n hx hb dX6_lackingTeeth_5 rfl (lv_at hl 2 rfl) ?_
    refine va_get (D := D) (ci := 6) (v := .int sz) (C := RX6) (T := TX6) (N := 5) hx hb hts hi_X6_lackingTeeth_6 hown hK hP 0 rfl rfl 2 (by decide) (hts (.fieldLink RX6 19 "TheLiningsInIt$Zip" "size" "I") (List.mem_of_getElem? (i := 1) rfl)) (fun _ h9 => h9) rfl dX6_lackingTeeth_6 ?_
    refine lv_icmp_ge (tgt := 30) hx hb dX6_lackingTeeth_9 (by decide) (fun c_3 => ?_) (fun c_3 => ?_)
    · have fc_3 : sz.toInt ≤ i_4.toInt := zf_le c_3 rfl rfl
      refine lv_iload_n hx hb dX6_lackingTeeth_30 rfl (lv_at hl 1 rfl) ?_
      exact W.iret (v := v_1) hx hb hr (fun t ht hW => ⟨v_1, rfl, trivial, ht⟩) (fun q hq => by cases hq) dX6_lackingTeeth_31
    · have fc_3 : i_4.toInt < sz.toInt := zf_nle c_3 rfl rfl
      refine lv_aload_n hx hb dX6_lackingTeeth_12 rfl (lv_at hl 2 rfl) ?_
      refine va_get (D := D) (ci := 6) (v := .ref zl) (C := RX6) (T := TX6) (N := 5) hx hb hts hi_X6_lackingTeeth_6 hown hK hP 0 rfl rfl 0 (by decide) (hts (.fieldLink RX6 9 "TheLiningsInIt$Zip" "lacking" "[Z") (List.mem_of_getElem? (i := 2) rfl)) (fun _ h9 => h9) rfl dX6_lackingTeeth_13 ?_
      refine lv_iload_n hx hb dX6_lackingTeeth_16 rfl (lv_at hl 0 rfl) ?_
      refine va_zald hx hb hK hP 1 2 rfl rfl (zf_in (by omega) (by omega)) dX6_lackingTeeth_17 ?_
      refine lv_topi (fun x_4 ex_4 => ?_)
      have bx_4 : 0 ≤ x_4.toInt ∧ x_4.toInt ≤ 1 := by rw [ex_4]; exact hp_fl _
      refine lv_if_eq (tgt := 24) hx hb dX6_lackingTeeth_18 (by decide) (fun c_5 => ?_) (fun c_5 => ?_)
      · have fc_5 : x_4.toInt = 0 := zf_eq c_5 rfl (by decide)
        obtain ⟨x_6, ex_6⟩ : ∃ y : Int32, y = i_4 + 1 := ⟨_, rfl⟩
        have qx_6 : x_6.toInt = i_4.toInt + 1 := dw_inc ex_6 fc_3
        refine lv_iinc (v := x_6) (lv' := [(2, .int x_6), (1, .int v_1), (0, .ref z0)]) hx hb dX6_lackingTeeth_24 hl (k := 0) rfl ex_6.symm (by decide) rfl (fun ls hl => ?_)
        refine lv_goto (tgt := 4) hx hb dX6_lackingTeeth_27 (by decide) ?_
        exact ih x_6 v_1 _ (lv_sub hl [0, 1, 2] rfl) (dw_lo hloi_4 qx_6) (dw_hn hni_4 qx_6)
      · have fc_5 : x_4.toInt ≠ 0 := zf_ne c_5 rfl (by decide)
        obtain ⟨x_7, ex_7⟩ : ∃ y : Int32, y = v_1 + 1 := ⟨_, rfl⟩
        refine lv_iinc (v := x_7) (lv' := [(1, .int x_7), (2, .int i_4), (0, .ref z0)]) hx hb dX6_lackingTeeth_21 hl (k := 1) rfl ex_7.symm (by decide) rfl (fun ls hl => ?_)
        obtain ⟨x_8, ex_8⟩ : ∃ y : Int32, y = i_4 + 1 := ⟨_, rfl⟩
        have qx_8 : x_8.toInt = i_4.toInt + 1 := dw_inc ex_8 fc_3
        refine lv_iinc (v := x_8) (lv' := [(2, .int x_8), (1, .int x_7), (0, .ref z0)]) hx hb dX6_lackingTeeth_24 hl (k := 1) rfl ex_8.symm (by decide) rfl (fun ls hl => ?_)
        refine lv_goto (tgt := 4) hx hb dX6_lackingTeeth_27 (by decide) ?_
        exact ih x_8 x_7 _ (lv_sub hl [0, 1, 2] rfl) (dw_lo hloi_4 qx_8) (dw_hn hni_4 qx_8)
theorem hi_X6_catchingTeeth_6 : ∀ w ∈ u_ws RX6 TX6 5, w ∈ wsX6_catchingTeeth := fun w h => (gl_X6_catchingTeeth_X60 w h).1
set_option maxHeartbeats 4000000 in
set_option maxRecDepth 100000 in
theorem c_Zip_catchingTeeth (l : Launch) (D : va_G) (cI cJ cZ cP cS : ClassId) (po : zPool) (z0 zl zs : Nat) (sz at_ gp : Int32) (fl fs : Nat → Int32) (i : Int32) (hy0 : 4 ≤ sz.toInt) (hy1 : sz.toInt ≤ 40) (hy2 : 0 ≤ at_.toInt) (hy3 : at_.toInt ≤ 40) (hy4 : 1 ≤ gp.toInt) (hy5 : gp.toInt ≤ 9) (hp_fl : zRg fl (0) 1) (hp_fs : zRg fs (0) 9) : Met l yX6_catchingTeeth wsX6_catchingTeeth ({ frames := 2, cells := 0, slots := 0, locals := 42 }) (va_Pc [.ref z0, .int i] (zR D (zKT cI cJ cZ cP cS) po [(z0, .inr (6, [.ref zl, .ref zs, .int sz, .int at_, .int gp])), (zl, .inl (cZ, 40, .inl fl)), (zs, .inl (cI, 40, .inl fs))])) (vp_Si (fun r => True)) 0 0 (fun _ => False) := by
  refine Met.ofW (cc := cX6_catchingTeeth) (maxL := 4) (ret := (some .int)) (by decide) rfl ?_
  intro p e s m args below meth c s₁ B hml hv
  obtain ⟨rfl, hP, hK, hN, hZ⟩ := hv
  have hx := B.exec
  have hb := B.bytes
  have hr := B.returns
  have hts := atoms_spec (ws := wsX6_catchingTeeth) B.pre
  have hown : s.vm.findClass RX6 = some m.cls := findClass_of_methodNamed B.named
  have hlocks := B.notSynchronized
  have hl := lv_entry ([.ref z0, .int i]) (n := 4) (Nat.le_of_ble_eq_true rfl)
  rw [lg_entry_eq]
  generalize (lg_sl ([.ref z0, .int i]) ++ List.replicate (4 - (lg_sl ([.ref z0, .int i])).length) Slot.unset).toArray = ls at hl ⊢
  replace hl : lv_has ls 4 [(0, .ref z0), (1, .int i)] := hl
  refine lv_iconst (v := 0) hx hb dX6_catchingTeeth_0 (by decide) ?_
  refine lv_istore_n (lv' := [(2, .int 0), (0, .ref z0), (1, .int i)]) hx hb dX6_catchingTeeth_1 rfl hl (by decide) rfl (fun ls hl => ?_)
  refine lv_iconst (v := 0) hx hb dX6_catchingTeeth_2 (by decide) ?_
  refine lv_istore_n (lv' := [(3, .int 0), (2, .int 0), (0, .ref z0), (1, .int i)]) hx hb dX6_catchingTeeth_3 rfl hl (by decide) rfl (fun ls hl => ?_)
  obtain ⟨i_4, hi_4⟩ : ∃ i : Int32, i = 0 := ⟨_, rfl⟩
  replace hl : lv_has ls 4 [(3, .int i_4), (2, .int 0), (0, .ref z0), (1, .int i)] := by rw [hi_4]; exact lv_sub hl [0, 1, 2, 3] rfl
  have h1i_4 : i_4.toInt = 0 := by rw [hi_4]; decide
  obtain ⟨nfu, hni_4⟩ : ∃ nq9 : Nat, sz.toInt ≤ i_4.toInt + (nq9 : Int) := ⟨((sz.toInt : Int) - 0).toNat, by omega⟩
  have hloi_4 : 0 ≤ i_4.toInt := by omega
  obtain ⟨v_1, hv_1⟩ : ∃ g : Int32, g = 0 := ⟨_, rfl⟩
  replace hl : lv_has ls 4 [(3, .int i_4), (2, .int v_1), (0, .ref z0), (1, .int i)] := by rw [hv_1]; exact hl
  clear h1i_4 hi_4 hv_1
  revert hni_4
  revert hloi_4
  revert hl
  revert ls
  revert v_1
  revert i_4
  induction nfu with
  | zero =>
    intro i_4 v_1 ls hl hloi_4 hni_4
    have hzi_4 : sz.toInt ≤ i_4.toInt := by omega
    refine lv_iload_n hx hb dX6_catchingTeeth_4 rfl (lv_at hl 0 rfl) ?_
    refine lv_aload_n hx hb dX6_catchingTeeth_5 rfl (lv_at hl 2 rfl) ?_
    refine va_get (D := D) (ci := 6) (v := .int sz) (C := RX6) (T := TX6) (N := 5) hx hb hts hi_X6_catchingTeeth_6 hown hK hP 0 rfl rfl 2 (by decide) (hts (.fieldLink RX6 19 "TheLiningsInIt$Zip" "size" "I") (List.mem_of_getElem? (i := 1) rfl)) (fun _ h9 => h9) rfl dX6_catchingTeeth_6 ?_
    refine lv_icmp_ge (tgt := 36) hx hb dX6_catchingTeeth_9 (by decide) (fun c_2 => ?_) (fun c_2 => ?_)
    · have fc_2 : sz.toInt ≤ i_4.toInt := zf_le c_2 rfl rfl
      refine lv_iload_n hx hb dX6_catchingTeeth_36 rfl (lv_at hl 3 rfl) ?_
      refine lv_iconst (v := (-1)) hx hb dX6_catchingTeeth_37 (by decide) ?_
      refine lv_icmp_ne (tgt := 45) hx hb dX6_catchingTeeth_38 (by decide) (fun c_3 => ?_) (fun c_3 => ?_)
      · have fc_3 : i.toInt ≠ (-1) := zf_ne c_3 rfl (by decide)
        refine lv_iconst (v := (-1)) hx hb dX6_catchingTeeth_45 (by decide) ?_
        exact W.iret (v := (-1)) hx hb hr (fun t ht hW => ⟨(-1), rfl, trivial, ht⟩) (fun q hq => by cases hq) dX6_catchingTeeth_46
      · have fc_3 : i.toInt = (-1) := zf_eq c_3 rfl (by decide)
        refine lv_iload_n hx hb dX6_catchingTeeth_41 rfl (lv_at hl 1 rfl) ?_
        refine lv_goto (tgt := 46) hx hb dX6_catchingTeeth_42 (by decide) ?_
        exact W.iret (v := v_1) hx hb hr (fun t ht hW => ⟨v_1, rfl, trivial, ht⟩) (fun q hq => by cases hq) dX6_catchingTeeth_46
    · exfalso; have fc_2 : i_4.toInt < sz.toInt := zf_nle c_2 rfl rfl; omega
  | succ nfu ih =>
    intro i_4 v_1 ls hl hloi_4 hni_4
    refine lv_iload_n hx hb dX6_catchingTeeth_4 rfl (lv_at hl 0 rfl) ?_
    refine lv_aload_n hx hb dX6_catchingTeeth_5 rfl (lv_at hl 2 rfl) ?_
    refine va_get (D := D) (ci := 6) (v := .int sz) (C := RX6) (T := TX6) (N := 5) hx hb hts hi_X6_catchingTeeth_6 hown hK hP 0 rfl rfl 2 (by decide) (hts (.fieldLink RX6 19 "TheLiningsInIt$Zip" "size" "I") (List.mem_of_getElem? (i := 1) rfl)) (fun _ h9 => h9) rfl dX6_catchingTeeth_6 ?_
    refine lv_icmp_ge (tgt := 36) hx hb dX6_catchingTeeth_9 (by decide) (fun c_4 => ?_) (fun c_4 => ?_)
    · have fc_4 : sz.toInt ≤ i_4.toInt := zf_le c_4 rfl rfl
      refine lv_iload_n hx hb dX6_catchingTeeth_36 rfl (lv_at hl 3 rfl) ?_
      refine lv_iconst (v := (-1)) hx hb dX6_catchingTeeth_37 (by decide) ?_
      refine lv_icmp_ne (tgt := 45) hx hb dX6_catchingTeeth_38 (by decide) (fun c_5 => ?_) (fun c_5 => ?_)
      · have fc_5 : i.toInt ≠ (-1) := zf_ne c_5 rfl (by decide)
        refine lv_iconst (v := (-1)) hx hb dX6_catchingTeeth_45 (by decide) ?_
        exact W.iret (v := (-1)) hx hb hr (fun t ht hW => ⟨(-1), rfl, trivial, ht⟩) (fun q hq => by cases hq) dX6_catchingTeeth_46
      · have fc_5 : i.toInt = (-1) := zf_eq c_5 rfl (by decide)
        refine lv_iload_n hx hb dX6_catchingTeeth_41 rfl (lv_at hl 1 rfl) ?_
        refine lv_goto (tgt := 46) hx hb dX6_catchingTeeth_42 (by decide) ?_
        exact W.iret (v := v_1) hx hb hr (fun t ht hW => ⟨v_1, rfl, trivial, ht⟩) (fun q hq => by cases hq) dX6_catchingTeeth_46
    · have fc_4 : i_4.toInt < sz.toInt := zf_nle c_4 rfl rfl
      refine lv_aload_n hx hb dX6_catchingTeeth_12 rfl (lv_at hl 2 rfl) ?_
      refine lv_iload_n hx hb dX6_catchingTeeth_13 rfl (lv_at hl 0 rfl) ?_
      refine zc_V (As := [.int i_4]) (rest := []) ⟨hx, hb, hml, hown, hts⟩ (c_Zip_catchesAt l D cI cJ cZ cP cS po z0 zl zs (sz) (at_) (gp) fl fs (i_4) hy0 hy1 hy2 hy3 hy4 hy5 hp_fl hp_fs) (cwV 1 hts gX6_catchingTeeth_X6_catchesAt rfl rfl rfl ⟨rfl, dh_X6_catchesAt⟩ ⟨Nat.le_of_ble_eq_true rfl, Nat.le_of_ble_eq_true rfl⟩) hK hN hZ hP (hP.sub [0, 1, 2] rfl) (va_recv (q := (RX6, TX6, 5)) hK hP (ci := 6) (q0 := 0) rfl rfl) rfl hl.1 rfl (Nat.le_of_ble_eq_true rfl) dX6_catchingTeeth_14 ⟨Nat.le_of_ble_eq_true rfl, Nat.le_of_ble_eq_true rfl⟩ (fun r_6 hr_6 => ?_)
      obtain ⟨g_7, g_8⟩ := hr_6
      refine lv_if_eq (tgt := 30) hx hb dX6_catchingTeeth_17 (by decide) (fun c_9 => ?_) (fun c_9 => ?_)
      · have fc_9 : r_6.toInt = 0 := zf_eq c_9 rfl (by decide)
        obtain ⟨x_10, ex_10⟩ : ∃ y : Int32, y = i_4 + 1 := ⟨_, rfl⟩
        have qx_10 : x_10.toInt = i_4.toInt + 1 := dw_inc ex_10 fc_4
        refine lv_iinc (v := x_10) (lv' := [(3, .int x_10), (2, .int v_1), (0, .ref z0), (1, .int i)]) hx hb dX6_catchingTeeth_30 hl (k := 0) rfl ex_10.symm (by decide) rfl (fun ls hl => ?_)
        refine lv_goto (tgt := 4) hx hb dX6_catchingTeeth_33 (by decide) ?_
        exact ih x_10 v_1 _ (lv_sub hl [0, 1, 2, 3] rfl) (dw_lo hloi_4 qx_10) (dw_hn hni_4 qx_10)
      · have fc_9 : r_6.toInt ≠ 0 := zf_ne c_9 rfl (by decide)
        refine lv_iload_n hx hb dX6_catchingTeeth_20 rfl (lv_at hl 1 rfl) ?_
        refine lv_iload_n hx hb dX6_catchingTeeth_21 rfl (lv_at hl 3 rfl) ?_
        refine lv_icmp_ne (tgt := 27) hx hb dX6_catchingTeeth_22 (by decide) (fun c_11 => ?_) (fun c_11 => ?_)
        · have fc_11 : v_1.toInt ≠ i.toInt := zf_ne c_11 rfl rfl
          obtain ⟨x_12, ex_12⟩ : ∃ y : Int32, y = v_1 + 1 := ⟨_, rfl⟩
          refine lv_iinc (v := x_12) (lv' := [(2, .int x_12), (3, .int i_4), (0, .ref z0), (1, .int i)]) hx hb dX6_catchingTeeth_27 hl (k := 1) rfl ex_12.symm (by decide) rfl (fun ls hl => ?_)
          obtain ⟨x_13, ex_13⟩ : ∃ y : Int32, y = i_4 + 1 := ⟨_, rfl⟩
          have qx_13 : x_13.toInt = i_4.toInt + 1 := dw_inc ex_13 fc_4
          refine lv_iinc (v := x_13) (lv' := [(3, .int x_13), (2, .int x_12), (0, .ref z0), (1, .int i)]) hx hb dX6_catchingTeeth_30 hl (k := 1) rfl ex_13.symm (by decide) rfl (fun ls hl => ?_)
          refine lv_goto (tgt := 4) hx hb dX6_catchingTeeth_33 (by decide) ?_
          exact ih x_13 x_12 _ (lv_sub hl [0, 1, 2, 3] rfl) (dw_lo hloi_4 qx_13) (dw_hn hni_4 qx_13)
        · have fc_11 : v_1.toInt = i.toInt := zf_eq c_11 rfl rfl
          refine lv_iload_n hx hb dX6_catchingTeeth_25 rfl (lv_at hl 0 rfl) ?_
          exact W.iret (v := i_4) hx hb hr (fun t ht hW => ⟨i_4, rfl, trivial, ht⟩) (fun q hq => by cases hq) dX6_catchingTeeth_26
theorem hi_X6_stitchesNeeded_6 : ∀ w ∈ u_ws RX6 TX6 5, w ∈ wsX6_stitchesNeeded := fun w h => (gl_X6_stitchesNeeded_X60 w h).1
set_option maxHeartbeats 4000000 in
set_option maxRecDepth 100000 in
theorem c_Zip_stitchesNeeded (l : Launch) (D : va_G) (cI cJ cZ cP cS : ClassId) (po : zPool) (z0 zl zs : Nat) (sz at_ gp : Int32) (fl fs : Nat → Int32) (i : Int32) (hy0 : 4 ≤ sz.toInt) (hy1 : sz.toInt ≤ 40) (hy2 : 0 ≤ at_.toInt) (hy3 : at_.toInt ≤ 40) (hy4 : 1 ≤ gp.toInt) (hy5 : gp.toInt ≤ 9) (hp_fl : zRg fl (0) 1) (hp_fs : zRg fs (0) 9) : Met l yX6_stitchesNeeded wsX6_stitchesNeeded ({ frames := 2, cells := 0, slots := 0, locals := 42 }) (va_Pc [.ref z0, .int i] (zR D (zKT cI cJ cZ cP cS) po [(z0, .inr (6, [.ref zl, .ref zs, .int sz, .int at_, .int gp])), (zl, .inl (cZ, 40, .inl fl)), (zs, .inl (cI, 40, .inl fs))])) (vp_Si (fun r => True)) 0 0 (fun _ => False) := by
  refine Met.ofW (cc := cX6_stitchesNeeded) (maxL := 6) (ret := (some .int)) (by decide) rfl ?_
  intro p e s m args below meth c s₁ B hml hv
  obtain ⟨rfl, hP, hK, hN, hZ⟩ := hv
  have hx := B.exec
  have hb := B.bytes
  have hr := B.returns
  have hts := atoms_spec (ws := wsX6_stitchesNeeded) B.pre
  have hown : s.vm.findClass RX6 = some m.cls := findClass_of_methodNamed B.named
  have hlocks := B.notSynchronized
  have hl := lv_entry ([.ref z0, .int i]) (n := 6) (Nat.le_of_ble_eq_true rfl)
  rw [lg_entry_eq]
  generalize (lg_sl ([.ref z0, .int i]) ++ List.replicate (6 - (lg_sl ([.ref z0, .int i])).length) Slot.unset).toArray = ls at hl ⊢
  replace hl : lv_has ls 6 [(0, .ref z0), (1, .int i)] := hl
  refine lv_iconst (v := 0) hx hb dX6_stitchesNeeded_0 (by decide) ?_
  refine lv_istore_n (lv' := [(2, .int 0), (0, .ref z0), (1, .int i)]) hx hb dX6_stitchesNeeded_1 rfl hl (by decide) rfl (fun ls hl => ?_)
  refine lv_iconst (v := 0) hx hb dX6_stitchesNeeded_2 (by decide) ?_
  refine lv_istore_n (lv' := [(3, .int 0), (2, .int 0), (0, .ref z0), (1, .int i)]) hx hb dX6_stitchesNeeded_3 rfl hl (by decide) rfl (fun ls hl => ?_)
  refine lv_iconst (v := 0) hx hb dX6_stitchesNeeded_4 (by decide) ?_
  refine lv_istore (lv' := [(4, .int 0), (3, .int 0), (2, .int 0), (0, .ref z0), (1, .int i)]) hx hb dX6_stitchesNeeded_5 hl (by decide) rfl (fun ls hl => ?_)
  obtain ⟨i_7, hi_7⟩ : ∃ i : Int32, i = 0 := ⟨_, rfl⟩
  replace hl : lv_has ls 6 [(4, .int i_7), (3, .int 0), (2, .int 0), (0, .ref z0), (1, .int i)] := by rw [hi_7]; exact lv_sub hl [0, 1, 2, 3, 4] rfl
  have h1i_7 : i_7.toInt = 0 := by rw [hi_7]; decide
  obtain ⟨nfu, hni_7⟩ : ∃ nq9 : Nat, sz.toInt ≤ i_7.toInt + (nq9 : Int) := ⟨((sz.toInt : Int) - 0).toNat, by omega⟩
  have hloi_7 : 0 ≤ i_7.toInt := by omega
  obtain ⟨v_1, hv_1⟩ : ∃ g : Int32, g = 0 := ⟨_, rfl⟩
  obtain ⟨v_2, hv_2⟩ : ∃ g : Int32, g = 0 := ⟨_, rfl⟩
  replace hl : lv_has ls 6 [(4, .int i_7), (3, .int v_2), (2, .int v_1), (0, .ref z0), (1, .int i)] := by rw [hv_1, hv_2]; exact hl
  clear h1i_7 hi_7 hv_1 hv_2
  revert hni_7
  revert hloi_7
  revert hl
  revert ls
  revert v_2
  revert v_1
  revert i_7
  induction nfu with
  | zero =>
    intro i_7 v_1 v_2 ls hl hloi_7 hni_7
    have hzi_7 : sz.toInt ≤ i_7.toInt := by omega
    refine lv_iload hx hb dX6_stitchesNeeded_7 (lv_at hl 0 rfl) ?_
    refine lv_aload_n hx hb dX6_stitchesNeeded_9 rfl (lv_at hl 3 rfl) ?_
    refine va_get (D := D) (ci := 6) (v := .int sz) (C := RX6) (T := TX6) (N := 5) hx hb hts hi_X6_stitchesNeeded_6 hown hK hP 0 rfl rfl 2 (by decide) (hts (.fieldLink RX6 19 "TheLiningsInIt$Zip" "size" "I") (List.mem_of_getElem? (i := 1) rfl)) (fun _ h9 => h9) rfl dX6_stitchesNeeded_10 ?_
    refine lv_icmp_ge (tgt := 68) hx hb dX6_stitchesNeeded_13 (by decide) (fun c_3 => ?_) (fun c_3 => ?_)
    · have fc_3 : sz.toInt ≤ i_7.toInt := zf_le c_3 rfl rfl
      refine lv_iload_n hx hb dX6_stitchesNeeded_68 rfl (lv_at hl 4 rfl) ?_
      refine lv_iconst (v := (-1)) hx hb dX6_stitchesNeeded_69 (by decide) ?_
      refine lv_icmp_ne (tgt := 77) hx hb dX6_stitchesNeeded_70 (by decide) (fun c_4 => ?_) (fun c_4 => ?_)
      · have fc_4 : i.toInt ≠ (-1) := zf_ne c_4 rfl (by decide)
        refine lv_iconst (v := (-1)) hx hb dX6_stitchesNeeded_77 (by decide) ?_
        exact W.iret (v := (-1)) hx hb hr (fun t ht hW => ⟨(-1), rfl, trivial, ht⟩) (fun q hq => by cases hq) dX6_stitchesNeeded_78
      · have fc_4 : i.toInt = (-1) := zf_eq c_4 rfl (by decide)
        refine lv_iload_n hx hb dX6_stitchesNeeded_73 rfl (lv_at hl 2 rfl) ?_
        refine lv_goto (tgt := 78) hx hb dX6_stitchesNeeded_74 (by decide) ?_
        exact W.iret (v := v_1) hx hb hr (fun t ht hW => ⟨v_1, rfl, trivial, ht⟩) (fun q hq => by cases hq) dX6_stitchesNeeded_78
    · exfalso; have fc_3 : i_7.toInt < sz.toInt := zf_nle c_3 rfl rfl; omega
  | succ nfu ih =>
    intro i_7 v_1 v_2 ls hl hloi_7 hni_7
    refine lv_iload hx hb dX6_stitchesNeeded_7 (lv_at hl 0 rfl) ?_
    refine lv_aload_n hx hb dX6_stitchesNeeded_9 rfl (lv_at hl 3 rfl) ?_
    refine va_get (D := D) (ci := 6) (v := .int sz) (C := RX6) (T := TX6) (N := 5) hx hb hts hi_X6_stitchesNeeded_6 hown hK hP 0 rfl rfl 2 (by decide) (hts (.fieldLink RX6 19 "TheLiningsInIt$Zip" "size" "I") (List.mem_of_getElem? (i := 1) rfl)) (fun _ h9 => h9) rfl dX6_stitchesNeeded_10 ?_
    refine lv_icmp_ge (tgt := 68) hx hb dX6_stitchesNeeded_13 (by decide) (fun c_5 => ?_) (fun c_5 => ?_)
    · have fc_5 : sz.toInt ≤ i_7.toInt := zf_le c_5 rfl rfl
      refine lv_iload_n hx hb dX6_stitchesNeeded_68 rfl (lv_at hl 4 rfl) ?_
      refine lv_iconst (v := (-1)) hx hb dX6_stitchesNeeded_69 (by decide) ?_
      refine lv_icmp_ne (tgt := 77) hx hb dX6_stitchesNeeded_70 (by decide) (fun c_6 => ?_) (fun c_6 => ?_)
      · have fc_6 : i.toInt ≠ (-1) := zf_ne c_6 rfl (by decide)
        refine lv_iconst (v := (-1)) hx hb dX6_stitchesNeeded_77 (by decide) ?_
        exact W.iret (v := (-1)) hx hb hr (fun t ht hW => ⟨(-1), rfl, trivial, ht⟩) (fun q hq => by cases hq) dX6_stitchesNeeded_78
      · have fc_6 : i.toInt = (-1) := zf_eq c_6 rfl (by decide)
        refine lv_iload_n hx hb dX6_stitchesNeeded_73 rfl (lv_at hl 2 rfl) ?_
        refine lv_goto (tgt := 78) hx hb dX6_stitchesNeeded_74 (by decide) ?_
        exact W.iret (v := v_1) hx hb hr (fun t ht hW => ⟨v_1, rfl, trivial, ht⟩) (fun q hq => by cases hq) dX6_stitchesNeeded_78
    · have fc_5 : i_7.toInt < sz.toInt := zf_nle c_5 rfl rfl
      refine lv_iload hx hb dX6_stitchesNeeded_16 (lv_at hl 0 rfl) ?_
      refine lv_iload_n hx hb dX6_stitchesNeeded_18 rfl (lv_at hl 1 rfl) ?_
      refine lv_icmp_lt (tgt := 62) hx hb dX6_stitchesNeeded_19 (by decide) (fun c_7 => ?_) (fun c_7 => ?_)
      · have fc_7 : i_7.toInt < v_2.toInt := zf_lt c_7 rfl rfl
        obtain ⟨x_8, ex_8⟩ : ∃ y : Int32, y = i_7 + 1 := ⟨_, rfl⟩
        have qx_8 : x_8.toInt = i_7.toInt + 1 := dw_inc ex_8 fc_7
        refine lv_iinc (v := x_8) (lv' := [(4, .int x_8), (3, .int v_2), (2, .int v_1), (0, .ref z0), (1, .int i)]) hx hb dX6_stitchesNeeded_62 hl (k := 0) rfl ex_8.symm (by decide) rfl (fun ls hl => ?_)
        refine lv_goto (tgt := 7) hx hb dX6_stitchesNeeded_65 (by decide) ?_
        exact ih x_8 v_1 v_2 _ (lv_sub hl [0, 1, 2, 3, 4] rfl) (dw_lo hloi_7 qx_8) (dw_hn hni_7 qx_8)
      · have fc_7 : v_2.toInt ≤ i_7.toInt := zf_nlt c_7 rfl rfl
        refine lv_aload_n hx hb dX6_stitchesNeeded_22 rfl (lv_at hl 3 rfl) ?_
        refine lv_iload hx hb dX6_stitchesNeeded_23 (lv_at hl 0 rfl) ?_
        refine zc_V (As := [.int i_7]) (rest := []) ⟨hx, hb, hml, hown, hts⟩ (c_Zip_catchesAt l D cI cJ cZ cP cS po z0 zl zs (sz) (at_) (gp) fl fs (i_7) hy0 hy1 hy2 hy3 hy4 hy5 hp_fl hp_fs) (cwV 1 hts gX6_stitchesNeeded_X6_catchesAt rfl rfl rfl ⟨rfl, dh_X6_catchesAt⟩ ⟨Nat.le_of_ble_eq_true rfl, Nat.le_of_ble_eq_true rfl⟩) hK hN hZ hP (hP.sub [0, 1, 2] rfl) (va_recv (q := (RX6, TX6, 5)) hK hP (ci := 6) (q0 := 0) rfl rfl) rfl hl.1 rfl (Nat.le_of_ble_eq_true rfl) dX6_stitchesNeeded_25 ⟨Nat.le_of_ble_eq_true rfl, Nat.le_of_ble_eq_true rfl⟩ (fun r_9 hr_9 => ?_)
        obtain ⟨g_10, g_11⟩ := hr_9
        refine lv_if_eq (tgt := 62) hx hb dX6_stitchesNeeded_28 (by decide) (fun c_12 => ?_) (fun c_12 => ?_)
        · have fc_12 : r_9.toInt = 0 := zf_eq c_12 rfl (by decide)
          obtain ⟨x_13, ex_13⟩ : ∃ y : Int32, y = i_7 + 1 := ⟨_, rfl⟩
          have qx_13 : x_13.toInt = i_7.toInt + 1 := dw_inc ex_13 fc_5
          refine lv_iinc (v := x_13) (lv' := [(4, .int x_13), (3, .int v_2), (2, .int v_1), (0, .ref z0), (1, .int i)]) hx hb dX6_stitchesNeeded_62 hl (k := 0) rfl ex_13.symm (by decide) rfl (fun ls hl => ?_)
          refine lv_goto (tgt := 7) hx hb dX6_stitchesNeeded_65 (by decide) ?_
          exact ih x_13 v_1 v_2 _ (lv_sub hl [0, 1, 2, 3, 4] rfl) (dw_lo hloi_7 qx_13) (dw_hn hni_7 qx_13)
        · have fc_12 : r_9.toInt ≠ 0 := zf_ne c_12 rfl (by decide)
          refine lv_iload hx hb dX6_stitchesNeeded_31 (lv_at hl 0 rfl) ?_
          refine lv_iconst (v := 2) hx hb dX6_stitchesNeeded_33 (by decide) ?_
          refine lv_iadd hx hb dX6_stitchesNeeded_34 ?_
          refine lv_topi (fun x_14 ex_14 => ?_)
          have qx_14 : x_14.toInt = i_7.toInt + 2 := by rw [ex_14]; exact zf_add rfl (by decide) (by omega) (by omega)
          refine lv_aload_n hx hb dX6_stitchesNeeded_35 rfl (lv_at hl 3 rfl) ?_
          refine va_get (D := D) (ci := 6) (v := .int sz) (C := RX6) (T := TX6) (N := 5) hx hb hts hi_X6_stitchesNeeded_6 hown hK hP 0 rfl rfl 2 (by decide) (hts (.fieldLink RX6 19 "TheLiningsInIt$Zip" "size" "I") (List.mem_of_getElem? (i := 1) rfl)) (fun _ h9 => h9) rfl dX6_stitchesNeeded_36 ?_
          refine lv_iconst (v := 1) hx hb dX6_stitchesNeeded_39 (by decide) ?_
          refine lv_isub hx hb dX6_stitchesNeeded_40 ?_
          refine lv_topi (fun x_15 ex_15 => ?_)
          have qx_15 : x_15.toInt = sz.toInt - 1 := by rw [ex_15]; exact zf_sub rfl (by decide) (by omega) (by omega)
          refine va_mmin hx hb (hml.trans hl.1.symm) hown (hts (.methodLink RX6 55 Lib.Math.min.name) (List.mem_of_getElem? (i := 2) rfl)) (hts _ (List.mem_of_getElem? (i := 3) rfl)) (hts _ (List.mem_of_getElem? (i := 4) rfl)) (hts _ (List.mem_of_getElem? (i := 5) rfl)) (Nat.le_of_ble_eq_true rfl) (Nat.le_of_ble_eq_true rfl) (Nat.le_of_ble_eq_true rfl) (Nat.le_of_ble_eq_true rfl) dX6_stitchesNeeded_41 ?_
          refine lv_topi (fun x_16 ex_16 => ?_)
          have qx_16 := zf_min ex_16 (x1 := x_14.toInt) (y1 := x_15.toInt) rfl rfl
          refine lv_istore (lv' := [(5, .int x_16), (4, .int i_7), (3, .int v_2), (2, .int v_1), (0, .ref z0), (1, .int i)]) hx hb dX6_stitchesNeeded_44 hl (by decide) rfl (fun ls hl => ?_)
          refine lv_iload_n hx hb dX6_stitchesNeeded_46 rfl (lv_at hl 3 rfl) ?_
          refine lv_iload_n hx hb dX6_stitchesNeeded_47 rfl (lv_at hl 5 rfl) ?_
          refine lv_icmp_ne (tgt := 54) hx hb dX6_stitchesNeeded_48 (by decide) (fun c_17 => ?_) (fun c_17 => ?_)
          · have fc_17 : v_1.toInt ≠ i.toInt := zf_ne c_17 rfl rfl
            obtain ⟨x_18, ex_18⟩ : ∃ y : Int32, y = v_1 + 1 := ⟨_, rfl⟩
            refine lv_iinc (v := x_18) (lv' := [(2, .int x_18), (5, .int x_16), (4, .int i_7), (3, .int v_2), (0, .ref z0), (1, .int i)]) hx hb dX6_stitchesNeeded_54 hl (k := 3) rfl ex_18.symm (by decide) rfl (fun ls hl => ?_)
            refine lv_iload hx hb dX6_stitchesNeeded_57 (lv_at hl 1 rfl) ?_
            refine lv_iconst (v := 3) hx hb dX6_stitchesNeeded_59 (by decide) ?_
            refine lv_iadd hx hb dX6_stitchesNeeded_60 ?_
            refine lv_topi (fun x_19 ex_19 => ?_)
            have qx_19 : x_19.toInt = x_16.toInt + 3 := by rw [ex_19]; exact zf_add rfl (by decide) (by omega) (by omega)
            refine lv_istore_n (lv' := [(3, .int x_19), (2, .int x_18), (5, .int x_16), (4, .int i_7), (0, .ref z0), (1, .int i)]) hx hb dX6_stitchesNeeded_61 rfl hl (by decide) rfl (fun ls hl => ?_)
            obtain ⟨x_20, ex_20⟩ : ∃ y : Int32, y = i_7 + 1 := ⟨_, rfl⟩
            have qx_20 : x_20.toInt = i_7.toInt + 1 := dw_inc ex_20 fc_5
            refine lv_iinc (v := x_20) (lv' := [(4, .int x_20), (3, .int x_19), (2, .int x_18), (5, .int x_16), (0, .ref z0), (1, .int i)]) hx hb dX6_stitchesNeeded_62 hl (k := 3) rfl ex_20.symm (by decide) rfl (fun ls hl => ?_)
            refine lv_goto (tgt := 7) hx hb dX6_stitchesNeeded_65 (by decide) ?_
            exact ih x_20 x_18 x_19 _ (lv_sub hl [0, 1, 2, 4, 5] rfl) (dw_lo hloi_7 qx_20) (dw_hn hni_7 qx_20)
          · have fc_17 : v_1.toInt = i.toInt := zf_eq c_17 rfl rfl
            refine lv_iload hx hb dX6_stitchesNeeded_51 (lv_at hl 0 rfl) ?_
            exact W.iret (v := x_16) hx hb hr (fun t ht hW => ⟨x_16, rfl, trivial, ht⟩) (fun q hq => by cases hq) dX6_stitchesNeeded_53
theorem hi_X6_runsTo_6 : ∀ w ∈ u_ws RX6 TX6 5, w ∈ wsX6_runsTo := fun w h => (gl_X6_runsTo_X60 w h).1
set_option maxHeartbeats 4000000 in
set_option maxRecDepth 100000 in
theorem c_Zip_runsTo (l : Launch) (D : va_G) (cI cJ cZ cP cS : ClassId) (po : zPool) (z0 zl zs : Nat) (sz at_ gp : Int32) (fl fs : Nat → Int32)  (hy0 : 4 ≤ sz.toInt) (hy1 : sz.toInt ≤ 40) (hy2 : 0 ≤ at_.toInt) (hy3 : at_.toInt ≤ 40) (hy4 : 1 ≤ gp.toInt) (hy5 : gp.toInt ≤ 9) (hp_fl : zRg fl (0) 1) (hp_fs : zRg fs (0) 9) : Met l yX6_runsTo wsX6_runsTo ({ frames := 3, cells := 0, slots := 0, locals := 63 }) (va_Pc [.ref z0] (zR D (zKT cI cJ cZ cP cS) po [(z0, .inr (6, [.ref zl, .ref zs, .int sz, .int at_, .int gp])), (zl, .inl (cZ, 40, .inl fl)), (zs, .inl (cI, 40, .inl fs))])) (vp_Si (fun r => True)) 0 0 (fun _ => False) := by
  refine Met.ofW (cc := cX6_runsTo) (maxL := 2) (ret := (some .int)) (by decide) rfl ?_
  intro p e s m args below meth c s₁ B hml hv
  obtain ⟨rfl, hP, hK, hN, hZ⟩ := hv
  have hx := B.exec
  have hb := B.bytes
  have hr := B.returns
  have hts := atoms_spec (ws := wsX6_runsTo) B.pre
  have hown : s.vm.findClass RX6 = some m.cls := findClass_of_methodNamed B.named
  have hlocks := B.notSynchronized
  have hl := lv_entry ([.ref z0]) (n := 2) (Nat.le_of_ble_eq_true rfl)
  rw [lg_entry_eq]
  generalize (lg_sl ([.ref z0]) ++ List.replicate (2 - (lg_sl ([.ref z0])).length) Slot.unset).toArray = ls at hl ⊢
  replace hl : lv_has ls 2 [(0, .ref z0)] := hl
  refine lv_aload_n hx hb dX6_runsTo_0 rfl (lv_at hl 0 rfl) ?_
  refine va_get (D := D) (ci := 6) (v := .int at_) (C := RX6) (T := TX6) (N := 5) hx hb hts hi_X6_runsTo_6 hown hK hP 0 rfl rfl 3 (by decide) (hts (.fieldLink RX6 23 "TheLiningsInIt$Zip" "at" "I") (List.mem_of_getElem? (i := 1) rfl)) (fun _ h9 => h9) rfl dX6_runsTo_1 ?_
  refine lv_istore_n (lv' := [(1, .int at_), (0, .ref z0)]) hx hb dX6_runsTo_4 rfl hl (by decide) rfl (fun ls hl => ?_)
  obtain ⟨i_5, hi_5⟩ : ∃ i : Int32, i = at_ := ⟨_, rfl⟩
  replace hl : lv_has ls 2 [(1, .int i_5), (0, .ref z0)] := by rw [hi_5]; exact lv_sub hl [0, 1] rfl
  have h1i_5 : i_5.toInt = at_.toInt := by rw [hi_5]
  obtain ⟨nfu, hni_5⟩ : ∃ nq9 : Nat, sz.toInt ≤ i_5.toInt + (nq9 : Int) := ⟨((sz.toInt : Int) - at_.toInt).toNat, by omega⟩
  have hloi_5 : 0 ≤ i_5.toInt := by omega
  clear h1i_5 hi_5
  revert hni_5
  revert hloi_5
  revert hl
  revert ls
  revert i_5
  induction nfu with
  | zero =>
    intro i_5 ls hl hloi_5 hni_5
    have hzi_5 : sz.toInt ≤ i_5.toInt := by omega
    refine lv_iload_n hx hb dX6_runsTo_5 rfl (lv_at hl 0 rfl) ?_
    refine lv_aload_n hx hb dX6_runsTo_6 rfl (lv_at hl 1 rfl) ?_
    refine va_get (D := D) (ci := 6) (v := .int sz) (C := RX6) (T := TX6) (N := 5) hx hb hts hi_X6_runsTo_6 hown hK hP 0 rfl rfl 2 (by decide) (hts (.fieldLink RX6 19 "TheLiningsInIt$Zip" "size" "I") (List.mem_of_getElem? (i := 2) rfl)) (fun _ h9 => h9) rfl dX6_runsTo_7 ?_
    refine lv_icmp_ge (tgt := 37) hx hb dX6_runsTo_10 (by decide) (fun c_1 => ?_) (fun c_1 => ?_)
    · have fc_1 : sz.toInt ≤ i_5.toInt := zf_le c_1 rfl rfl
      refine lv_aload_n hx hb dX6_runsTo_37 rfl (lv_at hl 1 rfl) ?_
      refine va_get (D := D) (ci := 6) (v := .int sz) (C := RX6) (T := TX6) (N := 5) hx hb hts hi_X6_runsTo_6 hown hK hP 0 rfl rfl 2 (by decide) (hts (.fieldLink RX6 19 "TheLiningsInIt$Zip" "size" "I") (List.mem_of_getElem? (i := 2) rfl)) (fun _ h9 => h9) rfl dX6_runsTo_38 ?_
      exact W.iret (v := sz) hx hb hr (fun t ht hW => ⟨sz, rfl, trivial, ht⟩) (fun q hq => by cases hq) dX6_runsTo_41
    · exfalso; have fc_1 : i_5.toInt < sz.toInt := zf_nle c_1 rfl rfl; omega
  | succ nfu ih =>
    intro i_5 ls hl hloi_5 hni_5
    refine lv_iload_n hx hb dX6_runsTo_5 rfl (lv_at hl 0 rfl) ?_
    refine lv_aload_n hx hb dX6_runsTo_6 rfl (lv_at hl 1 rfl) ?_
    refine va_get (D := D) (ci := 6) (v := .int sz) (C := RX6) (T := TX6) (N := 5) hx hb hts hi_X6_runsTo_6 hown hK hP 0 rfl rfl 2 (by decide) (hts (.fieldLink RX6 19 "TheLiningsInIt$Zip" "size" "I") (List.mem_of_getElem? (i := 2) rfl)) (fun _ h9 => h9) rfl dX6_runsTo_7 ?_
    refine lv_icmp_ge (tgt := 37) hx hb dX6_runsTo_10 (by decide) (fun c_2 => ?_) (fun c_2 => ?_)
    · have fc_2 : sz.toInt ≤ i_5.toInt := zf_le c_2 rfl rfl
      refine lv_aload_n hx hb dX6_runsTo_37 rfl (lv_at hl 1 rfl) ?_
      refine va_get (D := D) (ci := 6) (v := .int sz) (C := RX6) (T := TX6) (N := 5) hx hb hts hi_X6_runsTo_6 hown hK hP 0 rfl rfl 2 (by decide) (hts (.fieldLink RX6 19 "TheLiningsInIt$Zip" "size" "I") (List.mem_of_getElem? (i := 2) rfl)) (fun _ h9 => h9) rfl dX6_runsTo_38 ?_
      exact W.iret (v := sz) hx hb hr (fun t ht hW => ⟨sz, rfl, trivial, ht⟩) (fun q hq => by cases hq) dX6_runsTo_41
    · have fc_2 : i_5.toInt < sz.toInt := zf_nle c_2 rfl rfl
      refine lv_aload_n hx hb dX6_runsTo_13 rfl (lv_at hl 1 rfl) ?_
      refine lv_iload_n hx hb dX6_runsTo_14 rfl (lv_at hl 0 rfl) ?_
      refine zc_V (As := [.int i_5]) (rest := []) ⟨hx, hb, hml, hown, hts⟩ (c_Zip_catchesAt l D cI cJ cZ cP cS po z0 zl zs (sz) (at_) (gp) fl fs (i_5) hy0 hy1 hy2 hy3 hy4 hy5 hp_fl hp_fs) (cwV 1 hts gX6_runsTo_X6_catchesAt rfl rfl rfl ⟨rfl, dh_X6_catchesAt⟩ ⟨Nat.le_of_ble_eq_true rfl, Nat.le_of_ble_eq_true rfl⟩) hK hN hZ hP (hP.sub [0, 1, 2] rfl) (va_recv (q := (RX6, TX6, 5)) hK hP (ci := 6) (q0 := 0) rfl rfl) rfl hl.1 rfl (Nat.le_of_ble_eq_true rfl) dX6_runsTo_15 ⟨Nat.le_of_ble_eq_true rfl, Nat.le_of_ble_eq_true rfl⟩ (fun r_3 hr_3 => ?_)
      obtain ⟨g_4, g_5⟩ := hr_3
      refine lv_if_ne (tgt := 29) hx hb dX6_runsTo_18 (by decide) (fun c_6 => ?_) (fun c_6 => ?_)
      · have fc_6 : r_3.toInt ≠ 0 := zf_ne c_6 rfl (by decide)
        refine lv_iload_n hx hb dX6_runsTo_29 rfl (lv_at hl 0 rfl) ?_
        exact W.iret (v := i_5) hx hb hr (fun t ht hW => ⟨i_5, rfl, trivial, ht⟩) (fun q hq => by cases hq) dX6_runsTo_30
      · have fc_6 : r_3.toInt = 0 := zf_eq c_6 rfl (by decide)
        refine lv_aload_n hx hb dX6_runsTo_21 rfl (lv_at hl 1 rfl) ?_
        refine lv_iload_n hx hb dX6_runsTo_22 rfl (lv_at hl 0 rfl) ?_
        refine zc_V (As := [.int i_5]) (rest := []) ⟨hx, hb, hml, hown, hts⟩ (c_Zip_lacks3 l D cI cJ cZ cP cS po z0 zl zs (sz) (at_) (gp) fl ((fun _ => 0)) (i_5) hy0 hy1 hy2 hy3 hy4 hy5 hp_fl) (cwV 1 hts gX6_runsTo_X6_lacksThreeFrom rfl rfl rfl ⟨rfl, dh_X6_lacksThreeFrom⟩ ⟨Nat.le_of_ble_eq_true rfl, Nat.le_of_ble_eq_true rfl⟩) hK hN hZ hP (hP.sub [0, 1] rfl) (va_recv (q := (RX6, TX6, 5)) hK hP (ci := 6) (q0 := 0) rfl rfl) rfl hl.1 rfl (Nat.le_of_ble_eq_true rfl) dX6_runsTo_23 ⟨Nat.le_of_ble_eq_true rfl, Nat.le_of_ble_eq_true rfl⟩ (fun r_7 hr_7 => ?_)
        obtain ⟨g_8, g_9⟩ := hr_7
        refine lv_if_eq (tgt := 31) hx hb dX6_runsTo_26 (by decide) (fun c_10 => ?_) (fun c_10 => ?_)
        · have fc_10 : r_7.toInt = 0 := zf_eq c_10 rfl (by decide)
          obtain ⟨x_11, ex_11⟩ : ∃ y : Int32, y = i_5 + 1 := ⟨_, rfl⟩
          have qx_11 : x_11.toInt = i_5.toInt + 1 := dw_inc ex_11 fc_2
          refine lv_iinc (v := x_11) (lv' := [(1, .int x_11), (0, .ref z0)]) hx hb dX6_runsTo_31 hl (k := 0) rfl ex_11.symm (by decide) rfl (fun ls hl => ?_)
          refine lv_goto (tgt := 5) hx hb dX6_runsTo_34 (by decide) ?_
          exact ih x_11 _ (lv_sub hl [0, 1] rfl) (dw_lo hloi_5 qx_11) (dw_hn hni_5 qx_11)
        · have fc_10 : r_7.toInt ≠ 0 := zf_ne c_10 rfl (by decide)
          refine lv_iload_n hx hb dX6_runsTo_29 rfl (lv_at hl 0 rfl) ?_
          exact W.iret (v := i_5) hx hb hr (fun t ht hW => ⟨i_5, rfl, trivial, ht⟩) (fun q hq => by cases hq) dX6_runsTo_30
end
section
theorem hi_X6_takeSlack_6 : ∀ w ∈ u_ws RX6 TX6 5, w ∈ wsX6_takeSlack := fun w h => (gl_X6_takeSlack_X60 w h).1
set_option maxHeartbeats 4000000 in
set_option maxRecDepth 100000 in
theorem c_Zip_takeSlack (l : Launch) (D : va_G) (cI cJ cZ cP cS : ClassId) (po : zPool) (z0 zl zs : Nat) (sz at_ gp : Int32) (fl fs : Nat → Int32) (md : Int32) (hy0 : 4 ≤ sz.toInt) (hy1 : sz.toInt ≤ 40) (hy2 : 0 ≤ at_.toInt) (hy3 : at_.toInt ≤ 40) (hy4 : 1 ≤ gp.toInt) (hy5 : gp.toInt ≤ 9) (hy6 : 0 ≤ md.toInt) (hy7 : md.toInt ≤ 39) (hp_fs : zRg fs (0) 9) (hpz : Nat) : Met l yX6_takeSlack wsX6_takeSlack ({ frames := 1, cells := 0, slots := 0, locals := 21 }) (va_Pc [.ref z0, .int md] (zW D (zKT cI cJ cZ cP cS) po [(z0, .inr (6, [.ref zl, .ref zs, .int sz, .int at_, .int gp])), (zs, .inl (cI, 40, .inl fs))] hpz)) (va_Qi (fun (r : Int32) (fs2 : (Nat → Int32)) => zRg fs2 (0) 9 ∧ (True)) (zB D [(z0, .inr (6, [.ref zl, .ref zs, .int sz, .int at_, .int gp])), (zs, .inl (cI, 40, .inl fs))] hpz (fun (fs2 : Nat → Int32) => [(z0, .inr (6, [.ref zl, .ref zs, .int sz, .int at_, .int gp])), (zs, .inl (cI, 40, .inl fs2))])) (va_A [(z0, .inr (6, [.ref zl, .ref zs, .int sz, .int at_, .int gp])), (zs, .inl (cI, 40, .inl fs))] hpz)) 0 0 (va_A [(z0, .inr (6, [.ref zl, .ref zs, .int sz, .int at_, .int gp])), (zs, .inl (cI, 40, .inl fs))] hpz) := by
  refine Met.ofW (cc := cX6_takeSlack) (maxL := 4) (ret := (some .int)) (by decide) rfl ?_
  intro p e s m args below meth c s₁ B hml hv
  obtain ⟨rfl, hsz, hP, hK, hD0, hN, hZ⟩ := hv
  have hx := B.exec
  have hb := B.bytes
  have hr := B.returns
  have hts := atoms_spec (ws := wsX6_takeSlack) B.pre
  have hown : s.vm.findClass RX6 = some m.cls := findClass_of_methodNamed B.named
  have hlocks := B.notSynchronized
  subst hsz
  have hD := hD0.self (sz := s.heap.size)
  have hA := zA_of hD
  have hl := lv_entry ([.ref z0, .int md]) (n := 4) (Nat.le_of_ble_eq_true rfl)
  rw [lg_entry_eq]
  generalize (lg_sl ([.ref z0, .int md]) ++ List.replicate (4 - (lg_sl ([.ref z0, .int md])).length) Slot.unset).toArray = ls at hl ⊢
  replace hl : lv_has ls 4 [(0, .ref z0), (1, .int md)] := hl
  refine zw_begin hP hD (fun H locs hP1 hS => ?_)
  clear hP
  have hP := hP1
  clear hP1
  refine lv_iconst (v := 0) hx hb dX6_takeSlack_0 (by decide) ?_
  refine lv_istore_n (lv' := [(2, .int 0), (0, .ref z0), (1, .int md)]) hx hb dX6_takeSlack_1 rfl hl (by decide) rfl (fun ls hl => ?_)
  refine lv_iload_n hx hb dX6_takeSlack_2 rfl (lv_at hl 2 rfl) ?_
  refine lv_iconst (v := 2) hx hb dX6_takeSlack_3 (by decide) ?_
  refine lv_isub hx hb dX6_takeSlack_4 ?_
  refine lv_topi (fun x_1 ex_1 => ?_)
  have qx_1 : x_1.toInt = md.toInt - 2 := by rw [ex_1]; exact zf_sub rfl (by decide) (by omega) (by omega)
  refine lv_istore_n (lv' := [(3, .int x_1), (2, .int 0), (0, .ref z0), (1, .int md)]) hx hb dX6_takeSlack_5 rfl hl (by decide) rfl (fun ls hl => ?_)
  obtain ⟨i_6, hi_6⟩ : ∃ i : Int32, i = x_1 := ⟨_, rfl⟩
  replace hl : lv_has ls 4 [(3, .int i_6), (2, .int 0), (0, .ref z0), (1, .int md)] := by rw [hi_6]; exact lv_sub hl [0, 1, 2, 3] rfl
  have h1i_6 : i_6.toInt = x_1.toInt := by rw [hi_6]
  obtain ⟨nfu, hni_6⟩ : ∃ nq9 : Nat, md.toInt + 3 ≤ i_6.toInt + (nq9 : Int) := ⟨((md.toInt + 3 : Int) - x_1.toInt).toNat, by omega⟩
  have hloi_6 : -2 ≤ i_6.toInt := by omega
  obtain ⟨g_2, hg_2⟩ : ∃ g : Nat → Int32, g = fs := ⟨_, rfl⟩
  have hpg_2 : zRg g_2 (0) 9 := by rw [hg_2]; exact hp_fs
  replace hP : va_P D vwCl [(z0, .inr (6, [.ref zl, .ref zs, .int sz, .int at_, .int gp])), (zs, .inl (cI, 40, .inl g_2))] H := by rw [hg_2]; exact hP
  replace hD : va_D (va_A [(z0, .inr (6, [.ref zl, .ref zs, .int sz, .int at_, .int gp])), (zs, .inl (cI, 40, .inl fs))] s.heap.size) [(z0, .inr (6, [.ref zl, .ref zs, .int sz, .int at_, .int gp])), (zs, .inl (cI, 40, .inl g_2))] := by rw [hg_2]; exact hD
  obtain ⟨v_3, hv_3⟩ : ∃ g : Int32, g = 0 := ⟨_, rfl⟩
  replace hl : lv_has ls 4 [(3, .int i_6), (2, .int v_3), (0, .ref z0), (1, .int md)] := by rw [hv_3]; exact hl
  clear h1i_6 hi_6 hg_2 hv_3
  skip
  revert hni_6
  revert hloi_6
  revert hpg_2
  revert hl
  revert hS
  revert hD
  revert hP
  revert ls
  revert locs
  revert H
  revert g_2
  revert v_3
  revert i_6
  induction nfu with
  | zero =>
    intro i_6 v_3 g_2 H locs ls hP hD hS hl hpg_2 hloi_6 hni_6
    have hzi_6 : md.toInt + 3 ≤ i_6.toInt := by omega
    refine lv_iload_n hx hb dX6_takeSlack_6 rfl (lv_at hl 0 rfl) ?_
    refine lv_iload_n hx hb dX6_takeSlack_7 rfl (lv_at hl 3 rfl) ?_
    refine lv_iconst (v := 2) hx hb dX6_takeSlack_8 (by decide) ?_
    refine lv_iadd hx hb dX6_takeSlack_9 ?_
    refine lv_topi (fun x_4 ex_4 => ?_)
    have qx_4 : x_4.toInt = md.toInt + 2 := by rw [ex_4]; exact zf_add rfl (by decide) (by omega) (by omega)
    refine lv_icmp_gt (tgt := 43) hx hb dX6_takeSlack_10 (by decide) (fun c_5 => ?_) (fun c_5 => ?_)
    · have fc_5 : x_4.toInt < i_6.toInt := zf_lt c_5 rfl rfl
      refine lv_iload_n hx hb dX6_takeSlack_43 rfl (lv_at hl 1 rfl) ?_
      exact W.iret (v := v_3) hx hb hr (fun t ht hW => ⟨⟨v_3, g_2, rfl, ⟨hpg_2, trivial⟩, zRet ht hP hD [0, 1] (by decide) rfl⟩, hS.F ht⟩) hS.2.2 dX6_takeSlack_44
    · have fc_5 : i_6.toInt ≤ x_4.toInt := zf_nlt c_5 rfl rfl
      refine lv_aload_n hx hb dX6_takeSlack_13 rfl (lv_at hl 2 rfl) ?_
      refine lv_iload_n hx hb dX6_takeSlack_14 rfl (lv_at hl 0 rfl) ?_
      refine zc_V (As := [.int i_6]) (rest := []) ⟨hx, hb, hml, hown, hts⟩ (c_Zip_has l D cI cJ cZ cP cS po z0 zl zs (sz) (at_) (gp) (i_6) ) (cwV 1 hts gX6_takeSlack_X6_has rfl rfl rfl ⟨rfl, dh_X6_has⟩ ⟨Nat.le_of_ble_eq_true rfl, Nat.le_of_ble_eq_true rfl⟩) hK hN (hZ.kept hS) hP (hP.sub [0] rfl) (va_recv (q := (RX6, TX6, 5)) hK hP (ci := 6) (q0 := 0) rfl rfl) rfl hl.1 rfl (Nat.le_of_ble_eq_true rfl) dX6_takeSlack_15 ⟨Nat.le_of_ble_eq_true rfl, Nat.le_of_ble_eq_true rfl⟩ (fun r_6 hr_6 => ?_)
      rcases hr_6 with ⟨rfl, g_7⟩ | ⟨rfl, g_8, g_9⟩ | ⟨rfl, g_10, g_11⟩
      · refine lv_if_eq (tgt := 37) hx hb dX6_takeSlack_18 (by decide) (fun c_12 => ?_) (fun c_12 => ?_)
        · obtain ⟨x_13, ex_13⟩ : ∃ y : Int32, y = i_6 + 1 := ⟨_, rfl⟩
          have rax_13 := zf_rng i_6
          have qx_13 : x_13.toInt = i_6.toInt + 1 := by rw [ex_13]; exact zf_add rfl (by decide) (by omega) (by omega)
          refine lv_iinc (v := x_13) (lv' := [(3, .int x_13), (2, .int v_3), (0, .ref z0), (1, .int md)]) hx hb dX6_takeSlack_37 hl (k := 0) rfl ex_13.symm (by decide) rfl (fun ls hl => ?_)
          refine lv_goto (tgt := 6) hx hb dX6_takeSlack_40 (by decide) ?_
          exfalso; omega
        · exact absurd c_12 (by decide)
      · refine lv_if_eq (tgt := 37) hx hb dX6_takeSlack_18 (by decide) (fun c_14 => ?_) (fun c_14 => ?_)
        · obtain ⟨x_15, ex_15⟩ : ∃ y : Int32, y = i_6 + 1 := ⟨_, rfl⟩
          have qx_15 : x_15.toInt = i_6.toInt + 1 := by rw [ex_15]; exact zf_add rfl (by decide) (by omega) (by omega)
          refine lv_iinc (v := x_15) (lv' := [(3, .int x_15), (2, .int v_3), (0, .ref z0), (1, .int md)]) hx hb dX6_takeSlack_37 hl (k := 0) rfl ex_15.symm (by decide) rfl (fun ls hl => ?_)
          refine lv_goto (tgt := 6) hx hb dX6_takeSlack_40 (by decide) ?_
          exfalso; omega
        · exact absurd c_14 (by decide)
      · refine lv_if_eq (tgt := 37) hx hb dX6_takeSlack_18 (by decide) (fun c_16 => ?_) (fun c_16 => ?_)
        · exact absurd c_16 (by decide)
        · refine lv_iload_n hx hb dX6_takeSlack_21 rfl (lv_at hl 1 rfl) ?_
          refine lv_aload_n hx hb dX6_takeSlack_22 rfl (lv_at hl 2 rfl) ?_
          refine va_get (D := D) (ci := 6) (v := .ref zs) (C := RX6) (T := TX6) (N := 5) hx hb hts hi_X6_takeSlack_6 hown hK hP 0 rfl rfl 1 (by decide) (hts (.fieldLink RX6 15 "TheLiningsInIt$Zip" "slacks" "[I") (List.mem_of_getElem? (i := 1) rfl)) (fun _ h9 => h9) rfl dX6_takeSlack_23 ?_
          refine lv_iload_n hx hb dX6_takeSlack_26 rfl (lv_at hl 0 rfl) ?_
          refine va_iald hx hb hK hP 1 0 rfl rfl (zf_in (by omega) (by omega)) dX6_takeSlack_27 ?_
          refine lv_topi (fun x_17 ex_17 => ?_)
          have bx_17 : 0 ≤ x_17.toInt ∧ x_17.toInt ≤ 9 := by rw [ex_17]; exact hpg_2 _
          refine lv_iadd hx hb dX6_takeSlack_28 ?_
          refine lv_topi (fun x_18 ex_18 => ?_)
          refine lv_istore_n (lv' := [(2, .int x_18), (3, .int i_6), (0, .ref z0), (1, .int md)]) hx hb dX6_takeSlack_29 rfl hl (by decide) rfl (fun ls hl => ?_)
          refine lv_aload_n hx hb dX6_takeSlack_30 rfl (lv_at hl 2 rfl) ?_
          refine va_get (D := D) (ci := 6) (v := .ref zs) (C := RX6) (T := TX6) (N := 5) hx hb hts hi_X6_takeSlack_6 hown hK hP 0 rfl rfl 1 (by decide) (hts (.fieldLink RX6 15 "TheLiningsInIt$Zip" "slacks" "[I") (List.mem_of_getElem? (i := 1) rfl)) (fun _ h9 => h9) rfl dX6_takeSlack_31 ?_
          refine lv_iload_n hx hb dX6_takeSlack_34 rfl (lv_at hl 1 rfl) ?_
          refine lv_iconst (v := 0) hx hb dX6_takeSlack_35 (by decide) ?_
          refine va_iast hx hb hK hP hD hS 1 0 rfl rfl (zf_in (by omega) (by omega)) dX6_takeSlack_36 (fun H locs hP hD hS => ?_)
          have hpg_19 : zRg (upd g_2 i_6.toNatClampNeg 0) (0) 9 := zRg_upd hpg_2 (by decide) (by decide)
          obtain ⟨g_19, hg_19⟩ : ∃ g : Nat → Int32, g = upd g_2 i_6.toNatClampNeg 0 := ⟨_, rfl⟩
          rw [← hg_19] at hP hD hpg_19
          clear hg_19
          have h9R := zRe (ws' := [(z0, .inr (6, [.ref zl, .ref zs, .int sz, .int at_, .int gp])), (zs, .inl (cI, 40, .inl g_19))]) hP hD rfl
          clear hP hD
          obtain ⟨hP, hD⟩ := h9R
          obtain ⟨x_20, ex_20⟩ : ∃ y : Int32, y = i_6 + 1 := ⟨_, rfl⟩
          have qx_20 : x_20.toInt = i_6.toInt + 1 := by rw [ex_20]; exact zf_add rfl (by decide) (by omega) (by omega)
          refine lv_iinc (v := x_20) (lv' := [(3, .int x_20), (2, .int x_18), (0, .ref z0), (1, .int md)]) hx hb dX6_takeSlack_37 hl (k := 1) rfl ex_20.symm (by decide) rfl (fun ls hl => ?_)
          refine lv_goto (tgt := 6) hx hb dX6_takeSlack_40 (by decide) ?_
          exfalso; omega
  | succ nfu ih =>
    intro i_6 v_3 g_2 H locs ls hP hD hS hl hpg_2 hloi_6 hni_6
    refine lv_iload_n hx hb dX6_takeSlack_6 rfl (lv_at hl 0 rfl) ?_
    refine lv_iload_n hx hb dX6_takeSlack_7 rfl (lv_at hl 3 rfl) ?_
    refine lv_iconst (v := 2) hx hb dX6_takeSlack_8 (by decide) ?_
    refine lv_iadd hx hb dX6_takeSlack_9 ?_
    refine lv_topi (fun x_21 ex_21 => ?_)
    have qx_21 : x_21.toInt = md.toInt + 2 := by rw [ex_21]; exact zf_add rfl (by decide) (by omega) (by omega)
    refine lv_icmp_gt (tgt := 43) hx hb dX6_takeSlack_10 (by decide) (fun c_22 => ?_) (fun c_22 => ?_)
    · have fc_22 : x_21.toInt < i_6.toInt := zf_lt c_22 rfl rfl
      refine lv_iload_n hx hb dX6_takeSlack_43 rfl (lv_at hl 1 rfl) ?_
      exact W.iret (v := v_3) hx hb hr (fun t ht hW => ⟨⟨v_3, g_2, rfl, ⟨hpg_2, trivial⟩, zRet ht hP hD [0, 1] (by decide) rfl⟩, hS.F ht⟩) hS.2.2 dX6_takeSlack_44
    · have fc_22 : i_6.toInt ≤ x_21.toInt := zf_nlt c_22 rfl rfl
      refine lv_aload_n hx hb dX6_takeSlack_13 rfl (lv_at hl 2 rfl) ?_
      refine lv_iload_n hx hb dX6_takeSlack_14 rfl (lv_at hl 0 rfl) ?_
      refine zc_V (As := [.int i_6]) (rest := []) ⟨hx, hb, hml, hown, hts⟩ (c_Zip_has l D cI cJ cZ cP cS po z0 zl zs (sz) (at_) (gp) (i_6) ) (cwV 1 hts gX6_takeSlack_X6_has rfl rfl rfl ⟨rfl, dh_X6_has⟩ ⟨Nat.le_of_ble_eq_true rfl, Nat.le_of_ble_eq_true rfl⟩) hK hN (hZ.kept hS) hP (hP.sub [0] rfl) (va_recv (q := (RX6, TX6, 5)) hK hP (ci := 6) (q0 := 0) rfl rfl) rfl hl.1 rfl (Nat.le_of_ble_eq_true rfl) dX6_takeSlack_15 ⟨Nat.le_of_ble_eq_true rfl, Nat.le_of_ble_eq_true rfl⟩ (fun r_23 hr_23 => ?_)
      rcases hr_23 with ⟨rfl, g_24⟩ | ⟨rfl, g_25, g_26⟩ | ⟨rfl, g_27, g_28⟩
      · refine lv_if_eq (tgt := 37) hx hb dX6_takeSlack_18 (by decide) (fun c_29 => ?_) (fun c_29 => ?_)
        · obtain ⟨x_30, ex_30⟩ : ∃ y : Int32, y = i_6 + 1 := ⟨_, rfl⟩
          have qx_30 : x_30.toInt = i_6.toInt + 1 := by rw [ex_30]; exact zf_add rfl (by decide) (by omega) (by omega)
          refine lv_iinc (v := x_30) (lv' := [(3, .int x_30), (2, .int v_3), (0, .ref z0), (1, .int md)]) hx hb dX6_takeSlack_37 hl (k := 0) rfl ex_30.symm (by decide) rfl (fun ls hl => ?_)
          refine lv_goto (tgt := 6) hx hb dX6_takeSlack_40 (by decide) ?_
          exact ih x_30 v_3 (g_2) _ _ _ (hP.sub [0, 1] rfl) (hD.sub [0, 1] (by decide) rfl) hS (lv_sub hl [0, 1, 2, 3] rfl) hpg_2 (dw_lo hloi_6 qx_30) (dw_hn hni_6 qx_30)
        · exact absurd c_29 (by decide)
      · refine lv_if_eq (tgt := 37) hx hb dX6_takeSlack_18 (by decide) (fun c_31 => ?_) (fun c_31 => ?_)
        · obtain ⟨x_32, ex_32⟩ : ∃ y : Int32, y = i_6 + 1 := ⟨_, rfl⟩
          have qx_32 : x_32.toInt = i_6.toInt + 1 := by rw [ex_32]; exact zf_add rfl (by decide) (by omega) (by omega)
          refine lv_iinc (v := x_32) (lv' := [(3, .int x_32), (2, .int v_3), (0, .ref z0), (1, .int md)]) hx hb dX6_takeSlack_37 hl (k := 0) rfl ex_32.symm (by decide) rfl (fun ls hl => ?_)
          refine lv_goto (tgt := 6) hx hb dX6_takeSlack_40 (by decide) ?_
          exact ih x_32 v_3 (g_2) _ _ _ (hP.sub [0, 1] rfl) (hD.sub [0, 1] (by decide) rfl) hS (lv_sub hl [0, 1, 2, 3] rfl) hpg_2 (dw_lo hloi_6 qx_32) (dw_hn hni_6 qx_32)
        · exact absurd c_31 (by decide)
      · refine lv_if_eq (tgt := 37) hx hb dX6_takeSlack_18 (by decide) (fun c_33 => ?_) (fun c_33 => ?_)
        · exact absurd c_33 (by decide)
        · refine lv_iload_n hx hb dX6_takeSlack_21 rfl (lv_at hl 1 rfl) ?_
          refine lv_aload_n hx hb dX6_takeSlack_22 rfl (lv_at hl 2 rfl) ?_
          refine va_get (D := D) (ci := 6) (v := .ref zs) (C := RX6) (T := TX6) (N := 5) hx hb hts hi_X6_takeSlack_6 hown hK hP 0 rfl rfl 1 (by decide) (hts (.fieldLink RX6 15 "TheLiningsInIt$Zip" "slacks" "[I") (List.mem_of_getElem? (i := 1) rfl)) (fun _ h9 => h9) rfl dX6_takeSlack_23 ?_
          refine lv_iload_n hx hb dX6_takeSlack_26 rfl (lv_at hl 0 rfl) ?_
          refine va_iald hx hb hK hP 1 0 rfl rfl (zf_in (by omega) (by omega)) dX6_takeSlack_27 ?_
          refine lv_topi (fun x_34 ex_34 => ?_)
          have bx_34 : 0 ≤ x_34.toInt ∧ x_34.toInt ≤ 9 := by rw [ex_34]; exact hpg_2 _
          refine lv_iadd hx hb dX6_takeSlack_28 ?_
          refine lv_topi (fun x_35 ex_35 => ?_)
          refine lv_istore_n (lv' := [(2, .int x_35), (3, .int i_6), (0, .ref z0), (1, .int md)]) hx hb dX6_takeSlack_29 rfl hl (by decide) rfl (fun ls hl => ?_)
          refine lv_aload_n hx hb dX6_takeSlack_30 rfl (lv_at hl 2 rfl) ?_
          refine va_get (D := D) (ci := 6) (v := .ref zs) (C := RX6) (T := TX6) (N := 5) hx hb hts hi_X6_takeSlack_6 hown hK hP 0 rfl rfl 1 (by decide) (hts (.fieldLink RX6 15 "TheLiningsInIt$Zip" "slacks" "[I") (List.mem_of_getElem? (i := 1) rfl)) (fun _ h9 => h9) rfl dX6_takeSlack_31 ?_
          refine lv_iload_n hx hb dX6_takeSlack_34 rfl (lv_at hl 1 rfl) ?_
          refine lv_iconst (v := 0) hx hb dX6_takeSlack_35 (by decide) ?_
          refine va_iast hx hb hK hP hD hS 1 0 rfl rfl (zf_in (by omega) (by omega)) dX6_takeSlack_36 (fun H locs hP hD hS => ?_)
          have hpg_36 : zRg (upd g_2 i_6.toNatClampNeg 0) (0) 9 := zRg_upd hpg_2 (by decide) (by decide)
          obtain ⟨g_36, hg_36⟩ : ∃ g : Nat → Int32, g = upd g_2 i_6.toNatClampNeg 0 := ⟨_, rfl⟩
          rw [← hg_36] at hP hD hpg_36
          clear hg_36
          have h9R := zRe (ws' := [(z0, .inr (6, [.ref zl, .ref zs, .int sz, .int at_, .int gp])), (zs, .inl (cI, 40, .inl g_36))]) hP hD rfl
          clear hP hD
          obtain ⟨hP, hD⟩ := h9R
          obtain ⟨x_37, ex_37⟩ : ∃ y : Int32, y = i_6 + 1 := ⟨_, rfl⟩
          have qx_37 : x_37.toInt = i_6.toInt + 1 := by rw [ex_37]; exact zf_add rfl (by decide) (by omega) (by omega)
          refine lv_iinc (v := x_37) (lv' := [(3, .int x_37), (2, .int x_35), (0, .ref z0), (1, .int md)]) hx hb dX6_takeSlack_37 hl (k := 1) rfl ex_37.symm (by decide) rfl (fun ls hl => ?_)
          refine lv_goto (tgt := 6) hx hb dX6_takeSlack_40 (by decide) ?_
          exact ih x_37 x_35 (g_36) _ _ _ (hP.sub [0, 1] rfl) (hD.sub [0, 1] (by decide) rfl) hS (lv_sub hl [0, 1, 2, 3] rfl) hpg_36 (dw_lo hloi_6 qx_37) (dw_hn hni_6 qx_37)
theorem gl_X6_renew_X60 : GoodIn wsX6_renew wsX60 := (dg_t (dg_t (dg_t (dg_t (dg_t gw_wsX60)))))
theorem hi_X6_renew_6 : ∀ w ∈ u_ws RX6 TX6 5, w ∈ wsX6_renew := fun w h => (gl_X6_renew_X60 w h).1
theorem gl_X6_become_X60 : GoodIn wsX6_become wsX60 := (dg_t (dg_t (dg_t (dg_t (dg_t (dg_t gw_wsX60))))))
theorem hi_X6_become_6 : ∀ w ∈ u_ws RX6 TX6 5, w ∈ wsX6_become := fun w h => (gl_X6_become_X60 w h).1
end
section
def wsX4_hasSpan : List Cond := (.code yX4_hasSpan cX4_hasSpan 3 (some .boolean)) :: (.fieldLink RX4 19 "TheLiningsInIt$Shelf" "size" "I") :: wsX40
def wsX4_tells : List Cond := (.code yX4_tells cX4_tells 2 (some .int)) :: (.fieldLink RX4 9 "TheLiningsInIt$Shelf" "elements" "[J") :: (.methodLink RX4 36 yX4_hasSpan) :: (.instanceMethod yX4_hasSpan) :: (.selects RX4 yX4_hasSpan yX4_hasSpan) :: (.initialized RX4) :: (.code yX4_hasSpan cX4_hasSpan 3 (some .boolean)) :: (.fieldLink RX4 19 "TheLiningsInIt$Shelf" "size" "I") :: wsX40
def wsX4_noRow : List Cond := (.code yX4_noRow cX4_noRow 1 (some .int)) :: (.fieldLink RX4 15 "TheLiningsInIt$Shelf" "held" "I") :: wsX40
def wsX4_tellsWithin : List Cond := (.code yX4_tellsWithin cX4_tellsWithin 5 (some .boolean)) :: (.methodLink RX4 40 yX4_tells) :: (.instanceMethod yX4_tells) :: (.selects RX4 yX4_tells yX4_tells) :: (.initialized RX4) :: (.code yX4_tells cX4_tells 2 (some .int)) :: (.fieldLink RX4 9 "TheLiningsInIt$Shelf" "elements" "[J") :: (.methodLink RX4 36 yX4_hasSpan) :: (.instanceMethod yX4_hasSpan) :: (.selects RX4 yX4_hasSpan yX4_hasSpan) :: (.code yX4_hasSpan cX4_hasSpan 3 (some .boolean)) :: (.fieldLink RX4 19 "TheLiningsInIt$Shelf" "size" "I") :: (.static yX7_within) :: (.initialized RX7) :: (.code yX7_within cX7_within 3 (some .boolean)) :: wsX40
def wsX4_noBelief : List Cond := (.code yX4_noBelief cX4_noBelief 2 (some .int)) :: (.fieldLink RX4 19 "TheLiningsInIt$Shelf" "size" "I") :: (.methodLink RX4 28 yX4_noRow) :: (.instanceMethod yX4_noRow) :: (.selects RX4 yX4_noRow yX4_noRow) :: (.initialized RX4) :: (.code yX4_noRow cX4_noRow 1 (some .int)) :: (.fieldLink RX4 15 "TheLiningsInIt$Shelf" "held" "I") :: (.methodLink RX4 32 yX4_tellsWithin) :: (.instanceMethod yX4_tellsWithin) :: (.selects RX4 yX4_tellsWithin yX4_tellsWithin) :: (.code yX4_tellsWithin cX4_tellsWithin 5 (some .boolean)) :: (.methodLink RX4 40 yX4_tells) :: (.instanceMethod yX4_tells) :: (.selects RX4 yX4_tells yX4_tells) :: (.code yX4_tells cX4_tells 2 (some .int)) :: (.fieldLink RX4 9 "TheLiningsInIt$Shelf" "elements" "[J") :: (.methodLink RX4 36 yX4_hasSpan) :: (.instanceMethod yX4_hasSpan) :: (.selects RX4 yX4_hasSpan yX4_hasSpan) :: (.code yX4_hasSpan cX4_hasSpan 3 (some .boolean)) :: (.static yX7_within) :: (.initialized RX7) :: (.code yX7_within cX7_within 3 (some .boolean)) :: wsX40
def wsX4_noTelling : List Cond := (.code yX4_noTelling cX4_noTelling 3 (some .int)) :: (.fieldLink RX4 19 "TheLiningsInIt$Shelf" "size" "I") :: (.methodLink RX4 28 yX4_noRow) :: (.instanceMethod yX4_noRow) :: (.selects RX4 yX4_noRow yX4_noRow) :: (.initialized RX4) :: (.code yX4_noRow cX4_noRow 1 (some .int)) :: (.fieldLink RX4 15 "TheLiningsInIt$Shelf" "held" "I") :: wsX40
theorem dX4_noRow_0 : decode cX4_noRow 0 = .ok (.aload_n 0, 1) := dq_42 dp_cX4_noRow rfl
theorem dX4_noRow_1 : decode cX4_noRow 1 = .ok (.getfield 15, 3) := dq_180 dp_cX4_noRow rfl
theorem dX4_noRow_4 : decode cX4_noRow 4 = .ok (.bipush 100, 2) := dq_16 (v := 100) dp_cX4_noRow rfl rfl
theorem dX4_noRow_6 : decode cX4_noRow 6 = .ok (.if_icmp .lt 5, 3) := dq_161 (v := 5) dp_cX4_noRow rfl rfl
theorem dX4_noRow_9 : decode cX4_noRow 9 = .ok (.iconst 0, 1) := dq_3 dp_cX4_noRow rfl
theorem dX4_noRow_10 : decode cX4_noRow 10 = .ok (.ireturn, 1) := dq_172 dp_cX4_noRow rfl
theorem dX4_noRow_11 : decode cX4_noRow 11 = .ok (.aload_n 0, 1) := dq_42 dp_cX4_noRow rfl
theorem dX4_noRow_12 : decode cX4_noRow 12 = .ok (.getfield 15, 3) := dq_180 dp_cX4_noRow rfl
theorem dX4_noRow_15 : decode cX4_noRow 15 = .ok (.iconst (-1), 1) := dq_2 dp_cX4_noRow rfl
theorem dX4_noRow_16 : decode cX4_noRow 16 = .ok (.if_icmp .ne 7, 3) := dq_160 (v := 7) dp_cX4_noRow rfl rfl
theorem dX4_noRow_19 : decode cX4_noRow 19 = .ok (.iconst 3, 1) := dq_6 dp_cX4_noRow rfl
theorem dX4_noRow_20 : decode cX4_noRow 20 = .ok (.goto 4, 3) := dq_167 (v := 4) dp_cX4_noRow rfl rfl
theorem dX4_noRow_23 : decode cX4_noRow 23 = .ok (.iconst 2, 1) := dq_5 dp_cX4_noRow rfl
theorem dX4_noRow_24 : decode cX4_noRow 24 = .ok (.ireturn, 1) := dq_172 dp_cX4_noRow rfl
set_option maxRecDepth 20000 in
theorem gl_X4_noBelief_X40 : GoodIn wsX4_noBelief wsX40 := (dg_t (dg_t (dg_t (dg_t (dg_t (dg_t (dg_t (dg_t (dg_t (dg_t (dg_t (dg_t (dg_t (dg_t (dg_t (dg_t (dg_t (dg_t (dg_t (dg_t (dg_t (dg_t (dg_t (dg_t gw_wsX40))))))))))))))))))))))))
theorem ggX4_noBelief_X4_noRow : GoodIn wsX4_noBelief wsX4_noRow := (dg_c 6 rfl rfl (dg_c 7 rfl rfl gl_X4_noBelief_X40))
set_option maxRecDepth 20000 in
theorem gX4_noBelief_X4_noRow : GoodIn wsX4_noBelief (wsV RX4 28 RX4 yX4_noRow wsX4_noRow) := goodIn_app (dg_c 2 rfl rfl (dg_c 3 rfl rfl (dg_c 4 rfl rfl (dg_c 5 rfl rfl dg_0)))) ggX4_noBelief_X4_noRow
set_option maxRecDepth 20000 in
theorem ggX4_noBelief_X4_tellsWithin : GoodIn wsX4_noBelief wsX4_tellsWithin := (dg_c 11 rfl rfl (dg_c 12 rfl rfl (dg_c 13 rfl rfl (dg_c 14 rfl rfl (dg_c 5 rfl rfl (dg_c 15 rfl rfl (dg_c 16 rfl rfl (dg_c 17 rfl rfl (dg_c 18 rfl rfl (dg_c 19 rfl rfl (dg_c 20 rfl rfl (dg_c 1 rfl rfl (dg_c 21 rfl rfl (dg_c 22 rfl rfl (dg_c 23 rfl rfl gl_X4_noBelief_X40)))))))))))))))
set_option maxRecDepth 20000 in
theorem gX4_noBelief_X4_tellsWithin : GoodIn wsX4_noBelief (wsV RX4 32 RX4 yX4_tellsWithin wsX4_tellsWithin) := goodIn_app (dg_c 8 rfl rfl (dg_c 9 rfl rfl (dg_c 10 rfl rfl (dg_c 5 rfl rfl dg_0)))) ggX4_noBelief_X4_tellsWithin
theorem dX4_noBelief_0 : decode cX4_noBelief 0 = .ok (.aload_n 0, 1) := dq_42 dp_cX4_noBelief rfl
theorem dX4_noBelief_1 : decode cX4_noBelief 1 = .ok (.invokevirtual 28, 3) := dq_182 dp_cX4_noBelief rfl
theorem dX4_noBelief_4 : decode cX4_noBelief 4 = .ok (.istore_n 1, 1) := dq_60 dp_cX4_noBelief rfl
theorem dX4_noBelief_5 : decode cX4_noBelief 5 = .ok (.iload_n 1, 1) := dq_27 dp_cX4_noBelief rfl
theorem dX4_noBelief_6 : decode cX4_noBelief 6 = .ok (.ifCond .eq 5, 3) := dq_153 (v := 5) dp_cX4_noBelief rfl rfl
theorem dX4_noBelief_9 : decode cX4_noBelief 9 = .ok (.iload_n 1, 1) := dq_27 dp_cX4_noBelief rfl
theorem dX4_noBelief_10 : decode cX4_noBelief 10 = .ok (.ireturn, 1) := dq_172 dp_cX4_noBelief rfl
theorem dX4_noBelief_11 : decode cX4_noBelief 11 = .ok (.aload_n 0, 1) := dq_42 dp_cX4_noBelief rfl
theorem dX4_noBelief_12 : decode cX4_noBelief 12 = .ok (.getfield 19, 3) := dq_180 dp_cX4_noBelief rfl
theorem dX4_noBelief_15 : decode cX4_noBelief 15 = .ok (.bipush 25, 2) := dq_16 (v := 25) dp_cX4_noBelief rfl rfl
theorem dX4_noBelief_17 : decode cX4_noBelief 17 = .ok (.if_icmp .ge 5, 3) := dq_162 (v := 5) dp_cX4_noBelief rfl rfl
theorem dX4_noBelief_20 : decode cX4_noBelief 20 = .ok (.iconst 5, 1) := dq_8 dp_cX4_noBelief rfl
theorem dX4_noBelief_21 : decode cX4_noBelief 21 = .ok (.ireturn, 1) := dq_172 dp_cX4_noBelief rfl
theorem dX4_noBelief_22 : decode cX4_noBelief 22 = .ok (.aload_n 0, 1) := dq_42 dp_cX4_noBelief rfl
theorem dX4_noBelief_23 : decode cX4_noBelief 23 = .ok (.bipush 25, 2) := dq_16 (v := 25) dp_cX4_noBelief rfl rfl
theorem dX4_noBelief_25 : decode cX4_noBelief 25 = .ok (.iconst 0, 1) := dq_3 dp_cX4_noBelief rfl
theorem dX4_noBelief_26 : decode cX4_noBelief 26 = .ok (.bipush 99, 2) := dq_16 (v := 99) dp_cX4_noBelief rfl rfl
theorem dX4_noBelief_28 : decode cX4_noBelief 28 = .ok (.invokevirtual 32, 3) := dq_182 dp_cX4_noBelief rfl
theorem dX4_noBelief_31 : decode cX4_noBelief 31 = .ok (.ifCond .eq 7, 3) := dq_153 (v := 7) dp_cX4_noBelief rfl rfl
theorem dX4_noBelief_34 : decode cX4_noBelief 34 = .ok (.iconst 0, 1) := dq_3 dp_cX4_noBelief rfl
theorem dX4_noBelief_35 : decode cX4_noBelief 35 = .ok (.goto 5, 3) := dq_167 (v := 5) dp_cX4_noBelief rfl rfl
theorem dX4_noBelief_38 : decode cX4_noBelief 38 = .ok (.bipush 6, 2) := dq_16 (v := 6) dp_cX4_noBelief rfl rfl
theorem dX4_noBelief_40 : decode cX4_noBelief 40 = .ok (.ireturn, 1) := dq_172 dp_cX4_noBelief rfl
set_option maxRecDepth 20000 in
theorem gl_X4_noTelling_X40 : GoodIn wsX4_noTelling wsX40 := (dg_t (dg_t (dg_t (dg_t (dg_t (dg_t (dg_t (dg_t gw_wsX40))))))))
theorem ggX4_noTelling_X4_noRow : GoodIn wsX4_noTelling wsX4_noRow := (dg_c 6 rfl rfl (dg_c 7 rfl rfl gl_X4_noTelling_X40))
set_option maxRecDepth 20000 in
theorem gX4_noTelling_X4_noRow : GoodIn wsX4_noTelling (wsV RX4 28 RX4 yX4_noRow wsX4_noRow) := goodIn_app (dg_c 2 rfl rfl (dg_c 3 rfl rfl (dg_c 4 rfl rfl (dg_c 5 rfl rfl dg_0)))) ggX4_noTelling_X4_noRow
theorem dX4_noTelling_0 : decode cX4_noTelling 0 = .ok (.aload_n 0, 1) := dq_42 dp_cX4_noTelling rfl
theorem dX4_noTelling_1 : decode cX4_noTelling 1 = .ok (.invokevirtual 28, 3) := dq_182 dp_cX4_noTelling rfl
theorem dX4_noTelling_4 : decode cX4_noTelling 4 = .ok (.istore_n 2, 1) := dq_61 dp_cX4_noTelling rfl
theorem dX4_noTelling_5 : decode cX4_noTelling 5 = .ok (.iload_n 2, 1) := dq_28 dp_cX4_noTelling rfl
theorem dX4_noTelling_6 : decode cX4_noTelling 6 = .ok (.ifCond .eq 5, 3) := dq_153 (v := 5) dp_cX4_noTelling rfl rfl
theorem dX4_noTelling_9 : decode cX4_noTelling 9 = .ok (.iload_n 2, 1) := dq_28 dp_cX4_noTelling rfl
theorem dX4_noTelling_10 : decode cX4_noTelling 10 = .ok (.ireturn, 1) := dq_172 dp_cX4_noTelling rfl
theorem dX4_noTelling_11 : decode cX4_noTelling 11 = .ok (.iload_n 1, 1) := dq_27 dp_cX4_noTelling rfl
theorem dX4_noTelling_12 : decode cX4_noTelling 12 = .ok (.ifCond .ge 5, 3) := dq_156 (v := 5) dp_cX4_noTelling rfl rfl
theorem dX4_noTelling_15 : decode cX4_noTelling 15 = .ok (.iconst 4, 1) := dq_7 dp_cX4_noTelling rfl
theorem dX4_noTelling_16 : decode cX4_noTelling 16 = .ok (.ireturn, 1) := dq_172 dp_cX4_noTelling rfl
theorem dX4_noTelling_17 : decode cX4_noTelling 17 = .ok (.iload_n 1, 1) := dq_27 dp_cX4_noTelling rfl
theorem dX4_noTelling_18 : decode cX4_noTelling 18 = .ok (.aload_n 0, 1) := dq_42 dp_cX4_noTelling rfl
theorem dX4_noTelling_19 : decode cX4_noTelling 19 = .ok (.getfield 19, 3) := dq_180 dp_cX4_noTelling rfl
theorem dX4_noTelling_22 : decode cX4_noTelling 22 = .ok (.if_icmp .le 7, 3) := dq_164 (v := 7) dp_cX4_noTelling rfl rfl
theorem dX4_noTelling_25 : decode cX4_noTelling 25 = .ok (.iconst 5, 1) := dq_8 dp_cX4_noTelling rfl
theorem dX4_noTelling_26 : decode cX4_noTelling 26 = .ok (.goto 4, 3) := dq_167 (v := 4) dp_cX4_noTelling rfl rfl
theorem dX4_noTelling_29 : decode cX4_noTelling 29 = .ok (.iconst 0, 1) := dq_3 dp_cX4_noTelling rfl
theorem dX4_noTelling_30 : decode cX4_noTelling 30 = .ok (.ireturn, 1) := dq_172 dp_cX4_noTelling rfl
theorem dX4_hasSpan_0 : decode cX4_hasSpan 0 = .ok (.iload_n 1, 1) := dq_27 dp_cX4_hasSpan rfl
theorem dX4_hasSpan_1 : decode cX4_hasSpan 1 = .ok (.ifCond .lt 29, 3) := dq_155 (v := 29) dp_cX4_hasSpan rfl rfl
theorem dX4_hasSpan_4 : decode cX4_hasSpan 4 = .ok (.iload_n 2, 1) := dq_28 dp_cX4_hasSpan rfl
theorem dX4_hasSpan_5 : decode cX4_hasSpan 5 = .ok (.ifCond .lt 25, 3) := dq_155 (v := 25) dp_cX4_hasSpan rfl rfl
theorem dX4_hasSpan_8 : decode cX4_hasSpan 8 = .ok (.iload_n 2, 1) := dq_28 dp_cX4_hasSpan rfl
theorem dX4_hasSpan_9 : decode cX4_hasSpan 9 = .ok (.aload_n 0, 1) := dq_42 dp_cX4_hasSpan rfl
theorem dX4_hasSpan_10 : decode cX4_hasSpan 10 = .ok (.getfield 19, 3) := dq_180 dp_cX4_hasSpan rfl
theorem dX4_hasSpan_13 : decode cX4_hasSpan 13 = .ok (.if_icmp .gt 17, 3) := dq_163 (v := 17) dp_cX4_hasSpan rfl rfl
theorem dX4_hasSpan_16 : decode cX4_hasSpan 16 = .ok (.iload_n 1, 1) := dq_27 dp_cX4_hasSpan rfl
theorem dX4_hasSpan_17 : decode cX4_hasSpan 17 = .ok (.aload_n 0, 1) := dq_42 dp_cX4_hasSpan rfl
theorem dX4_hasSpan_18 : decode cX4_hasSpan 18 = .ok (.getfield 19, 3) := dq_180 dp_cX4_hasSpan rfl
theorem dX4_hasSpan_21 : decode cX4_hasSpan 21 = .ok (.iload_n 2, 1) := dq_28 dp_cX4_hasSpan rfl
theorem dX4_hasSpan_22 : decode cX4_hasSpan 22 = .ok (.isub, 1) := dq_100 dp_cX4_hasSpan rfl
theorem dX4_hasSpan_23 : decode cX4_hasSpan 23 = .ok (.if_icmp .gt 7, 3) := dq_163 (v := 7) dp_cX4_hasSpan rfl rfl
theorem dX4_hasSpan_26 : decode cX4_hasSpan 26 = .ok (.iconst 1, 1) := dq_4 dp_cX4_hasSpan rfl
theorem dX4_hasSpan_27 : decode cX4_hasSpan 27 = .ok (.goto 4, 3) := dq_167 (v := 4) dp_cX4_hasSpan rfl rfl
theorem dX4_hasSpan_30 : decode cX4_hasSpan 30 = .ok (.iconst 0, 1) := dq_3 dp_cX4_hasSpan rfl
theorem dX4_hasSpan_31 : decode cX4_hasSpan 31 = .ok (.ireturn, 1) := dq_172 dp_cX4_hasSpan rfl
set_option maxRecDepth 20000 in
theorem gl_X4_tells_X40 : GoodIn wsX4_tells wsX40 := (dg_t (dg_t (dg_t (dg_t (dg_t (dg_t (dg_t (dg_t gw_wsX40))))))))
theorem ggX4_tells_X4_hasSpan : GoodIn wsX4_tells wsX4_hasSpan := (dg_c 6 rfl rfl (dg_c 7 rfl rfl gl_X4_tells_X40))
set_option maxRecDepth 20000 in
theorem gX4_tells_X4_hasSpan : GoodIn wsX4_tells (wsV RX4 36 RX4 yX4_hasSpan wsX4_hasSpan) := goodIn_app (dg_c 2 rfl rfl (dg_c 3 rfl rfl (dg_c 4 rfl rfl (dg_c 5 rfl rfl dg_0)))) ggX4_tells_X4_hasSpan
theorem dX4_tells_0 : decode cX4_tells 0 = .ok (.aload_n 0, 1) := dq_42 dp_cX4_tells rfl
theorem dX4_tells_1 : decode cX4_tells 1 = .ok (.iload_n 1, 1) := dq_27 dp_cX4_tells rfl
theorem dX4_tells_2 : decode cX4_tells 2 = .ok (.iconst 1, 1) := dq_4 dp_cX4_tells rfl
theorem dX4_tells_3 : decode cX4_tells 3 = .ok (.invokevirtual 36, 3) := dq_182 dp_cX4_tells rfl
theorem dX4_tells_6 : decode cX4_tells 6 = .ok (.ifCond .eq 13, 3) := dq_153 (v := 13) dp_cX4_tells rfl rfl
theorem dX4_tells_9 : decode cX4_tells 9 = .ok (.aload_n 0, 1) := dq_42 dp_cX4_tells rfl
theorem dX4_tells_10 : decode cX4_tells 10 = .ok (.getfield 9, 3) := dq_180 dp_cX4_tells rfl
theorem dX4_tells_13 : decode cX4_tells 13 = .ok (.iload_n 1, 1) := dq_27 dp_cX4_tells rfl
theorem dX4_tells_14 : decode cX4_tells 14 = .ok (.laload, 1) := dq_47 dp_cX4_tells rfl
theorem dX4_tells_15 : decode cX4_tells 15 = .ok (.l2i, 1) := dq_136 dp_cX4_tells rfl
theorem dX4_tells_16 : decode cX4_tells 16 = .ok (.goto 4, 3) := dq_167 (v := 4) dp_cX4_tells rfl rfl
theorem dX4_tells_19 : decode cX4_tells 19 = .ok (.iconst 0, 1) := dq_3 dp_cX4_tells rfl
theorem dX4_tells_20 : decode cX4_tells 20 = .ok (.ireturn, 1) := dq_172 dp_cX4_tells rfl
set_option maxRecDepth 20000 in
theorem gl_X4_tellsWithin_X40 : GoodIn wsX4_tellsWithin wsX40 := (dg_t (dg_t (dg_t (dg_t (dg_t (dg_t (dg_t (dg_t (dg_t (dg_t (dg_t (dg_t (dg_t (dg_t (dg_t gw_wsX40)))))))))))))))
theorem ggX4_tellsWithin_X4_tells : GoodIn wsX4_tellsWithin wsX4_tells := (dg_c 5 rfl rfl (dg_c 6 rfl rfl (dg_c 7 rfl rfl (dg_c 8 rfl rfl (dg_c 9 rfl rfl (dg_c 4 rfl rfl (dg_c 10 rfl rfl (dg_c 11 rfl rfl gl_X4_tellsWithin_X40))))))))
set_option maxRecDepth 20000 in
theorem gX4_tellsWithin_X4_tells : GoodIn wsX4_tellsWithin (wsV RX4 40 RX4 yX4_tells wsX4_tells) := goodIn_app (dg_c 1 rfl rfl (dg_c 2 rfl rfl (dg_c 3 rfl rfl (dg_c 4 rfl rfl dg_0)))) ggX4_tellsWithin_X4_tells
set_option maxRecDepth 20000 in
theorem ggX4_tellsWithin_X7_within : GoodIn wsX4_tellsWithin wsX7_within := (dg_c 14 rfl rfl dg_0)
set_option maxRecDepth 20000 in
theorem gX4_tellsWithin_X7_within_n44 : GoodIn wsX4_tellsWithin (wsX7_within) := ggX4_tellsWithin_X7_within
theorem dX4_tellsWithin_0 : decode cX4_tellsWithin 0 = .ok (.iconst 0, 1) := dq_3 dp_cX4_tellsWithin rfl
theorem dX4_tellsWithin_1 : decode cX4_tellsWithin 1 = .ok (.istore 4, 2) := dq_54 dp_cX4_tellsWithin rfl
theorem dX4_tellsWithin_3 : decode cX4_tellsWithin 3 = .ok (.iload 4, 2) := dq_21 dp_cX4_tellsWithin rfl
theorem dX4_tellsWithin_5 : decode cX4_tellsWithin 5 = .ok (.iload_n 1, 1) := dq_27 dp_cX4_tellsWithin rfl
theorem dX4_tellsWithin_6 : decode cX4_tellsWithin 6 = .ok (.if_icmp .ge 25, 3) := dq_162 (v := 25) dp_cX4_tellsWithin rfl rfl
theorem dX4_tellsWithin_9 : decode cX4_tellsWithin 9 = .ok (.aload_n 0, 1) := dq_42 dp_cX4_tellsWithin rfl
theorem dX4_tellsWithin_10 : decode cX4_tellsWithin 10 = .ok (.iload 4, 2) := dq_21 dp_cX4_tellsWithin rfl
theorem dX4_tellsWithin_12 : decode cX4_tellsWithin 12 = .ok (.invokevirtual 40, 3) := dq_182 dp_cX4_tellsWithin rfl
theorem dX4_tellsWithin_15 : decode cX4_tellsWithin 15 = .ok (.iload_n 2, 1) := dq_28 dp_cX4_tellsWithin rfl
theorem dX4_tellsWithin_16 : decode cX4_tellsWithin 16 = .ok (.iload_n 3, 1) := dq_29 dp_cX4_tellsWithin rfl
theorem dX4_tellsWithin_17 : decode cX4_tellsWithin 17 = .ok (.invokestatic 44, 3) := dq_184 dp_cX4_tellsWithin rfl
theorem dX4_tellsWithin_20 : decode cX4_tellsWithin 20 = .ok (.ifCond .ne 5, 3) := dq_154 (v := 5) dp_cX4_tellsWithin rfl rfl
theorem dX4_tellsWithin_23 : decode cX4_tellsWithin 23 = .ok (.iconst 0, 1) := dq_3 dp_cX4_tellsWithin rfl
theorem dX4_tellsWithin_24 : decode cX4_tellsWithin 24 = .ok (.ireturn, 1) := dq_172 dp_cX4_tellsWithin rfl
theorem dX4_tellsWithin_25 : decode cX4_tellsWithin 25 = .ok (.iinc 4 1, 3) := dq_132 (v := 1) dp_cX4_tellsWithin rfl (by decide) rfl
theorem dX4_tellsWithin_28 : decode cX4_tellsWithin 28 = .ok (.goto (-25), 3) := dq_167 (v := 65511) dp_cX4_tellsWithin rfl rfl
theorem dX4_tellsWithin_31 : decode cX4_tellsWithin 31 = .ok (.iconst 1, 1) := dq_4 dp_cX4_tellsWithin rfl
theorem dX4_tellsWithin_32 : decode cX4_tellsWithin 32 = .ok (.ireturn, 1) := dq_172 dp_cX4_tellsWithin rfl
end
