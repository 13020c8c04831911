set_option maxHeartbeats 4000000 in
set_option maxRecDepth 100000 in
theorem c_F_M_step (l : Launch) (D : va_G) (cI cJ cZ cP cS : ClassId) (po : zPool) (m0 mrf mki mpa mta mla msl mco mhe mso msi msh mce mca mwo mnu mte mwa mke mma mth mtr : Nat) (npu nte nat_ nde nto nse nhu nga nsd nfa nba npl nen nnu nwr nra nik : Int32) (gki gpa : Nat → Int32) (p_ : Int32) (hy0 : 0 ≤ npu.toInt) (hy1 : npu.toInt ≤ 8) (hy2 : 4 ≤ nte.toInt) (hy3 : nte.toInt ≤ 40) (hy4 : 0 ≤ nat_.toInt) (hy5 : nat_.toInt ≤ 40) (hy6 : 0 ≤ nde.toInt) (hy7 : nde.toInt ≤ 24) (hy8 : 0 ≤ nhu.toInt) (hy9 : nhu.toInt ≤ 9) (hy10 : 0 ≤ nra.toInt) (hy11 : nra.toInt ≤ 2000) (hy12 : 0 ≤ nik.toInt) (hy13 : nik.toInt ≤ 1) (hy14 : 0 ≤ p_.toInt) (hy15 : p_.toInt ≤ 7) (hp_gki : zRg gki (0) 6) (hp_gpa : zRg gpa (0) 9) : Met l yX8_step wsX8_step ({ frames := 0, cells := 0, slots := 0, locals := 0 }) (va_Pc [.ref m0, .int p_] (zR D (zKT cI cJ cZ cP cS) po [(zMO m0 npu nte nat_ nde nto nse nhu nga nsd nfa mrf mki mpa mta mla msl mco mhe mso msi msh mce mca mwo mnu mte nba npl nen nnu nwr mwa mke mma mth mtr nra nik), (mki, .inl (cI, 8, .inl gki)), (mpa, .inl (cI, 8, .inl gpa))])) (vp_Si (fun r => 1 ≤ r.toInt ∧ r.toInt ≤ 5 ∧ (r.toInt = zStp (gki p_.toNatClampNeg).toInt (gpa p_.toNatClampNeg).toInt))) 0 0 (fun _ => False) := by
  refine Met.ofW (cc := cX8_step) (maxL := 2) (ret := (some .int)) (by decide) rfl ?_
  intro p e s m args below meth c s₁ B hml hv
  obtain ⟨rfl, hP, hK, hN, hZ⟩ := hv
  have hx := B.exec
  have hb := B.bytes
  have hr := B.returns
  have hts := atoms_spec (ws := wsX8_step) B.pre
  have hown : s.vm.findClass RX8 = some m.cls := findClass_of_methodNamed B.named
  have hlocks := B.notSynchronized
  have hl := lv_entry ([.ref m0, .int p_]) (n := 2) (Nat.le_of_ble_eq_true rfl)
  rw [lg_entry_eq]
  generalize (lg_sl ([.ref m0, .int p_]) ++ List.replicate (2 - (lg_sl ([.ref m0, .int p_])).length) Slot.unset).toArray = ls at hl ⊢
  replace hl : lv_has ls 2 [(0, .ref m0), (1, .int p_)] := hl
  refine lv_aload_n hx hb dX8_step_0 rfl (lv_at hl 0 rfl) ?_
  refine va_get (D := D) (ci := 8) (v := .ref mki) (C := RX8) (T := TX8) (N := 38) hx hb hts hi_X8_step_8 hown hK hP 0 rfl rfl 11 (by decide) (hts (.fieldLink RX8 29 "TheLiningsInItModel" "kind" "[I") (List.mem_of_getElem? (i := 1) rfl)) (fun _ h9 => h9) rfl dX8_step_1 ?_
  refine lv_iload_n hx hb dX8_step_4 rfl (lv_at hl 1 rfl) ?_
  refine va_iald hx hb hK hP 1 0 rfl rfl (zf_in (by omega) (by omega)) dX8_step_5 ?_
  refine lv_topi (fun x_1 ex_1 => ?_)
  have bx_1 : 0 ≤ x_1.toInt ∧ x_1.toInt ≤ 6 := by rw [ex_1]; exact hp_gki _
  have hsp : x_1 = 0 ∨ x_1 = 1 ∨ x_1 = 2 ∨ x_1 = 3 ∨ x_1 = 4 ∨ x_1 = 5 ∨ x_1 = 6 := by
    rcases (show x_1.toInt = 0 ∨ x_1.toInt = 1 ∨ x_1.toInt = 2 ∨ x_1.toInt = 3 ∨ x_1.toInt = 4 ∨ x_1.toInt = 5 ∨ x_1.toInt = 6 by omega) with h9 | h9 | h9 | h9 | h9 | h9 | h9
    · refine Or.inl ?_; exact zf_val h9 (by decide)
    · refine Or.inr (Or.inl ?_); exact zf_val h9 (by decide)
    · refine Or.inr (Or.inr (Or.inl ?_)); exact zf_val h9 (by decide)
    · refine Or.inr (Or.inr (Or.inr (Or.inl ?_))); exact zf_val h9 (by decide)
    · refine Or.inr (Or.inr (Or.inr (Or.inr (Or.inl ?_)))); exact zf_val h9 (by decide)
    · refine Or.inr (Or.inr (Or.inr (Or.inr (Or.inr (Or.inl ?_))))); exact zf_val h9 (by decide)
    · refine Or.inr (Or.inr (Or.inr (Or.inr (Or.inr (Or.inr (?_)))))); exact zf_val h9 (by decide)
  rcases hsp with rfl | rfl | rfl | rfl | rfl | rfl | rfl
  · have kc0 : (0 : Int32).toInt = 0 := by decide
    refine lv_tableOut (tgt := 55) hx hb dX8_step_6 (by decide) (by decide) ?_
    refine lv_iconst (v := 1) hx hb dX8_step_55 (by decide) ?_
    exact W.iret (v := 1) hx hb hr (fun t ht hW => ⟨1, rfl, ⟨by decide, by decide, (show (1 : Int32).toInt = zStp (gki p_.toNatClampNeg).toInt (gpa p_.toNatClampNeg).toInt from by ((try rw [← ex_1]); have k0 : (0 : Int32).toInt = 0 := (by decide); have k1 : (1 : Int32).toInt = 1 := (by decide); unfold zStp; (repeat (first | rw [if_pos (by omega)] | rw [if_neg (by omega)])) <;> first | rfl | omega))⟩, ht⟩) (fun q hq => by cases hq) dX8_step_56
  · have kc1 : (1 : Int32).toInt = 1 := by decide
    refine lv_tableOut (tgt := 55) hx hb dX8_step_6 (by decide) (by decide) ?_
    refine lv_iconst (v := 1) hx hb dX8_step_55 (by decide) ?_
    exact W.iret (v := 1) hx hb hr (fun t ht hW => ⟨1, rfl, ⟨by decide, by decide, (show (1 : Int32).toInt = zStp (gki p_.toNatClampNeg).toInt (gpa p_.toNatClampNeg).toInt from by ((try rw [← ex_1]); have k1 : (1 : Int32).toInt = 1 := (by decide); unfold zStp; (repeat (first | rw [if_pos (by omega)] | rw [if_neg (by omega)])) <;> first | rfl | omega))⟩, ht⟩) (fun q hq => by cases hq) dX8_step_56
  · have kc2 : (2 : Int32).toInt = 2 := by decide
    refine lv_tableIn (tgt := 40) hx hb dX8_step_6 (by decide) (by decide) rfl (by decide) ?_
    refine lv_iconst (v := 2) hx hb dX8_step_40 (by decide) ?_
    refine lv_aload_n hx hb dX8_step_41 rfl (lv_at hl 0 rfl) ?_
    refine va_get (D := D) (ci := 8) (v := .ref mpa) (C := RX8) (T := TX8) (N := 38) hx hb hts hi_X8_step_8 hown hK hP 0 rfl rfl 12 (by decide) (hts (.fieldLink RX8 32 "TheLiningsInItModel" "part" "[I") (List.mem_of_getElem? (i := 2) rfl)) (fun _ h9 => h9) rfl dX8_step_42 ?_
    refine lv_iload_n hx hb dX8_step_45 rfl (lv_at hl 1 rfl) ?_
    refine va_iald hx hb hK hP 2 0 rfl rfl (zf_in (by omega) (by omega)) dX8_step_46 ?_
    refine lv_topi (fun x_2 ex_2 => ?_)
    have bx_2 : 0 ≤ x_2.toInt ∧ x_2.toInt ≤ 9 := by rw [ex_2]; exact hp_gpa _
    refine lv_iconst (v := 3) hx hb dX8_step_47 (by decide) ?_
    refine lv_idiv hx hb dX8_step_48 (by decide) ?_
    refine lv_topi (fun x_3 ex_3 => ?_)
    have qx_3 : x_3.toInt = x_2.toInt / 3 := by rw [ex_3]; exact zf_div rfl (by decide) (by omega) (by omega)
    refine lv_iadd hx hb dX8_step_49 ?_
    refine lv_topi (fun x_4 ex_4 => ?_)
    have qx_4 : x_4.toInt = 2 + x_3.toInt := by rw [ex_4]; exact zf_add (by decide) rfl (by omega) (by omega)
    exact W.iret (v := x_4) hx hb hr (fun t ht hW => ⟨x_4, rfl, ⟨by omega, by omega, (show (x_4 : Int32).toInt = zStp (gki p_.toNatClampNeg).toInt (gpa p_.toNatClampNeg).toInt from by ((try rw [← ex_1]); (try rw [← ex_2]); have k2 : (2 : Int32).toInt = 2 := (by decide); unfold zStp; (repeat (first | rw [if_pos (by omega)] | rw [if_neg (by omega)])) <;> first | rfl | omega))⟩, ht⟩) (fun q hq => by cases hq) dX8_step_50
  · have kc3 : (3 : Int32).toInt = 3 := by decide
    refine lv_tableIn (tgt := 55) hx hb dX8_step_6 (by decide) (by decide) rfl (by decide) ?_
    refine lv_iconst (v := 1) hx hb dX8_step_55 (by decide) ?_
    exact W.iret (v := 1) hx hb hr (fun t ht hW => ⟨1, rfl, ⟨by decide, by decide, (show (1 : Int32).toInt = zStp (gki p_.toNatClampNeg).toInt (gpa p_.toNatClampNeg).toInt from by ((try rw [← ex_1]); have k1 : (1 : Int32).toInt = 1 := (by decide); have k3 : (3 : Int32).toInt = 3 := (by decide); unfold zStp; (repeat (first | rw [if_pos (by omega)] | rw [if_neg (by omega)])) <;> first | rfl | omega))⟩, ht⟩) (fun q hq => by cases hq) dX8_step_56
  · have kc4 : (4 : Int32).toInt = 4 := by decide
    refine lv_tableIn (tgt := 51) hx hb dX8_step_6 (by decide) (by decide) rfl (by decide) ?_
    refine lv_iconst (v := 2) hx hb dX8_step_51 (by decide) ?_
    exact W.iret (v := 2) hx hb hr (fun t ht hW => ⟨2, rfl, ⟨by decide, by decide, (show (2 : Int32).toInt = zStp (gki p_.toNatClampNeg).toInt (gpa p_.toNatClampNeg).toInt from by ((try rw [← ex_1]); have k2 : (2 : Int32).toInt = 2 := (by decide); have k4 : (4 : Int32).toInt = 4 := (by decide); unfold zStp; (repeat (first | rw [if_pos (by omega)] | rw [if_neg (by omega)])) <;> first | rfl | omega))⟩, ht⟩) (fun q hq => by cases hq) dX8_step_52
  · have kc5 : (5 : Int32).toInt = 5 := by decide
    refine lv_tableIn (tgt := 53) hx hb dX8_step_6 (by decide) (by decide) rfl (by decide) ?_
    refine lv_iconst (v := 4) hx hb dX8_step_53 (by decide) ?_
    exact W.iret (v := 4) hx hb hr (fun t ht hW => ⟨4, rfl, ⟨by decide, by decide, (show (4 : Int32).toInt = zStp (gki p_.toNatClampNeg).toInt (gpa p_.toNatClampNeg).toInt from by ((try rw [← ex_1]); have k4 : (4 : Int32).toInt = 4 := (by decide); have k5 : (5 : Int32).toInt = 5 := (by decide); unfold zStp; (repeat (first | rw [if_pos (by omega)] | rw [if_neg (by omega)])) <;> first | rfl | omega))⟩, ht⟩) (fun q hq => by cases hq) dX8_step_54
  · have kc6 : (6 : Int32).toInt = 6 := by decide
    refine lv_tableIn (tgt := 51) hx hb dX8_step_6 (by decide) (by decide) rfl (by decide) ?_
    refine lv_iconst (v := 2) hx hb dX8_step_51 (by decide) ?_
    exact W.iret (v := 2) hx hb hr (fun t ht hW => ⟨2, rfl, ⟨by decide, by decide, (show (2 : Int32).toInt = zStp (gki p_.toNatClampNeg).toInt (gpa p_.toNatClampNeg).toInt from by ((try rw [← ex_1]); have k2 : (2 : Int32).toInt = 2 := (by decide); have k6 : (6 : Int32).toInt = 6 := (by decide); unfold zStp; (repeat (first | rw [if_pos (by omega)] | rw [if_neg (by omega)])) <;> first | rfl | omega))⟩, ht⟩) (fun q hq => by cases hq) dX8_step_52
set_option maxHeartbeats 4000000 in
set_option maxRecDepth 100000 in
theorem c_F_M_ways (l : Launch) (D : va_G) (cI cJ cZ cP cS : ClassId) (po : zPool) (m0 mrf mki mpa mta mla msl mco mhe mso msi msh mce mca mwo mnu mte mwa mke mma mth mtr : Nat) (npu nte nat_ nde nto nse nhu nga nsd nfa nba npl nen nnu nwr nra nik : Int32) (gki gpa : Nat → Int32) (p_ d : Int32) (hy0 : 0 ≤ npu.toInt) (hy1 : npu.toInt ≤ 8) (hy2 : 4 ≤ nte.toInt) (hy3 : nte.toInt ≤ 40) (hy4 : 0 ≤ nat_.toInt) (hy5 : nat_.toInt ≤ 40) (hy6 : 0 ≤ nde.toInt) (hy7 : nde.toInt ≤ 24) (hy8 : 0 ≤ nhu.toInt) (hy9 : nhu.toInt ≤ 9) (hy10 : 0 ≤ nra.toInt) (hy11 : nra.toInt ≤ 2000) (hy12 : 0 ≤ nik.toInt) (hy13 : nik.toInt ≤ 1) (hy14 : 0 ≤ p_.toInt) (hy15 : p_.toInt ≤ 7) (hy16 : 0 ≤ d.toInt) (hy17 : d.toInt ≤ 24) (hp_gki : zRg gki (0) 6) (hp_gpa : zRg gpa (0) 9) : Met l yX8_ways wsX8_ways ({ frames := 0, cells := 0, slots := 0, locals := 0 }) (va_Pc [.ref m0, .int p_, .int d] (zR D (zKT cI cJ cZ cP cS) po [(zMO m0 npu nte nat_ nde nto nse nhu nga nsd nfa mrf mki mpa mta mla msl mco mhe mso msi msh mce mca mwo mnu mte nba npl nen nnu nwr mwa mke mma mth mtr nra nik), (mki, .inl (cI, 8, .inl gki)), (mpa, .inl (cI, 8, .inl gpa))])) (vp_Si (fun r => 0 ≤ r.toInt ∧ r.toInt ≤ 12 ∧ (r.toInt = zWy (gki p_.toNatClampNeg).toInt (gpa p_.toNatClampNeg).toInt nhu.toInt d.toInt))) 0 0 (fun _ => False) := by
  refine Met.ofW (cc := cX8_ways) (maxL := 4) (ret := (some .int)) (by decide) rfl ?_
  intro p e s m args below meth c s₁ B hml hv
  obtain ⟨rfl, hP, hK, hN, hZ⟩ := hv
  have hx := B.exec
  have hb := B.bytes
  have hr := B.returns
  have hts := atoms_spec (ws := wsX8_ways) B.pre
  have hown : s.vm.findClass RX8 = some m.cls := findClass_of_methodNamed B.named
  have hlocks := B.notSynchronized
  have hl := lv_entry ([.ref m0, .int p_, .int d]) (n := 4) (Nat.le_of_ble_eq_true rfl)
  rw [lg_entry_eq]
  generalize (lg_sl ([.ref m0, .int p_, .int d]) ++ List.replicate (4 - (lg_sl ([.ref m0, .int p_, .int d])).length) Slot.unset).toArray = ls at hl ⊢
  replace hl : lv_has ls 4 [(0, .ref m0), (1, .int p_), (2, .int d)] := hl
  refine lv_bipush (v := 6) hx hb dX8_ways_0 (by decide) ?_
  refine lv_iload_n hx hb dX8_ways_2 rfl (lv_at hl 2 rfl) ?_
  refine lv_iconst (v := 4) hx hb dX8_ways_3 (by decide) ?_
  refine lv_idiv hx hb dX8_ways_4 (by decide) ?_
  refine lv_topi (fun x_1 ex_1 => ?_)
  have qx_1 : x_1.toInt = d.toInt / 4 := by rw [ex_1]; exact zf_div rfl (by decide) (by omega) (by omega)
  refine lv_isub hx hb dX8_ways_5 ?_
  refine lv_topi (fun x_2 ex_2 => ?_)
  have qx_2 : x_2.toInt = 6 - x_1.toInt := by rw [ex_2]; exact zf_sub (by decide) rfl (by omega) (by omega)
  refine lv_istore_n (lv' := [(3, .int x_2), (0, .ref m0), (1, .int p_), (2, .int d)]) hx hb dX8_ways_6 rfl hl (by decide) rfl (fun ls hl => ?_)
  refine lv_aload_n hx hb dX8_ways_7 rfl (lv_at hl 1 rfl) ?_
  refine va_get (D := D) (ci := 8) (v := .ref mki) (C := RX8) (T := TX8) (N := 38) hx hb hts hi_X8_ways_8 hown hK hP 0 rfl rfl 11 (by decide) (hts (.fieldLink RX8 29 "TheLiningsInItModel" "kind" "[I") (List.mem_of_getElem? (i := 1) rfl)) (fun _ h9 => h9) rfl dX8_ways_8 ?_
  refine lv_iload_n hx hb dX8_ways_11 rfl (lv_at hl 2 rfl) ?_
  refine va_iald hx hb hK hP 1 0 rfl rfl (zf_in (by omega) (by omega)) dX8_ways_12 ?_
  refine lv_topi (fun x_3 ex_3 => ?_)
  have bx_3 : 0 ≤ x_3.toInt ∧ x_3.toInt ≤ 6 := by rw [ex_3]; exact hp_gki _
  have hsp : x_3 = 0 ∨ x_3 = 1 ∨ x_3 = 2 ∨ x_3 = 3 ∨ x_3 = 4 ∨ x_3 = 5 ∨ x_3 = 6 := by
    rcases (show x_3.toInt = 0 ∨ x_3.toInt = 1 ∨ x_3.toInt = 2 ∨ x_3.toInt = 3 ∨ x_3.toInt = 4 ∨ x_3.toInt = 5 ∨ x_3.toInt = 6 by omega) with h9 | h9 | h9 | h9 | h9 | h9 | h9
    · refine Or.inl ?_; exact zf_val h9 (by decide)
    · refine Or.inr (Or.inl ?_); exact zf_val h9 (by decide)
    · refine Or.inr (Or.inr (Or.inl ?_)); exact zf_val h9 (by decide)
    · refine Or.inr (Or.inr (Or.inr (Or.inl ?_))); exact zf_val h9 (by decide)
    · refine Or.inr (Or.inr (Or.inr (Or.inr (Or.inl ?_)))); exact zf_val h9 (by decide)
    · refine Or.inr (Or.inr (Or.inr (Or.inr (Or.inr (Or.inl ?_))))); exact zf_val h9 (by decide)
    · refine Or.inr (Or.inr (Or.inr (Or.inr (Or.inr (Or.inr (?_)))))); exact zf_val h9 (by decide)
  rcases hsp with rfl | rfl | rfl | rfl | rfl | rfl | rfl
  · have kc0 : (0 : Int32).toInt = 0 := by decide
    refine lv_tableOut (tgt := 113) hx hb dX8_ways_13 (by decide) (by decide) ?_
    refine lv_iload_n hx hb dX8_ways_113 rfl (lv_at hl 0 rfl) ?_
    refine lv_aload_n hx hb dX8_ways_114 rfl (lv_at hl 1 rfl) ?_
    refine va_get (D := D) (ci := 8) (v := .int nhu) (C := RX8) (T := TX8) (N := 38) hx hb hts hi_X8_ways_8 hown hK hP 0 rfl rfl 6 (by decide) (hts (.fieldLink RX8 135 "TheLiningsInItModel" "hurry" "I") (List.mem_of_getElem? (i := 3) rfl)) (fun _ h9 => h9) rfl dX8_ways_115 ?_
    refine lv_iconst (v := 3) hx hb dX8_ways_118 (by decide) ?_
    refine lv_idiv hx hb dX8_ways_119 (by decide) ?_
    refine lv_topi (fun x_4 ex_4 => ?_)
    have qx_4 : x_4.toInt = nhu.toInt / 3 := by rw [ex_4]; exact zf_div rfl (by decide) (by omega) (by omega)
    refine lv_isub hx hb dX8_ways_120 ?_
    refine lv_topi (fun x_5 ex_5 => ?_)
    have qx_5 : x_5.toInt = x_2.toInt - x_4.toInt := by rw [ex_5]; exact zf_sub rfl rfl (by omega) (by omega)
    refine lv_istore_n (lv' := [(3, .int x_5), (0, .ref m0), (1, .int p_), (2, .int d)]) hx hb dX8_ways_121 rfl hl (by decide) rfl (fun ls hl => ?_)
    refine lv_iload_n hx hb dX8_ways_122 rfl (lv_at hl 0 rfl) ?_
    refine lv_if_ge (tgt := 130) hx hb dX8_ways_123 (by decide) (fun c_6 => ?_) (fun c_6 => ?_)
    · have fc_6 : 0 ≤ x_5.toInt := zf_le c_6 (by decide) rfl
      refine lv_iload_n hx hb dX8_ways_130 rfl (lv_at hl 0 rfl) ?_
      refine lv_bipush (v := 12) hx hb dX8_ways_131 (by decide) ?_
      refine lv_icmp_le (tgt := 141) hx hb dX8_ways_133 (by decide) (fun c_7 => ?_) (fun c_7 => ?_)
      · have fc_7 : x_5.toInt ≤ 12 := zf_le c_7 rfl (by decide)
        refine lv_iload_n hx hb dX8_ways_141 rfl (lv_at hl 0 rfl) ?_
        exact W.iret (v := x_5) hx hb hr (fun t ht hW => ⟨x_5, rfl, ⟨by omega, by omega, (show (x_5 : Int32).toInt = zWy (gki p_.toNatClampNeg).toInt (gpa p_.toNatClampNeg).toInt nhu.toInt d.toInt from by ((try rw [← ex_3]); have k0 : (0 : Int32).toInt = 0 := (by decide); unfold zWy zWb; (repeat (first | rw [if_pos (by omega)] | rw [if_neg (by omega)])) <;> first | rfl | omega))⟩, ht⟩) (fun q hq => by cases hq) dX8_ways_142
      · exfalso; have fc_7 : 12 < x_5.toInt := zf_nle c_7 rfl (by decide); omega
    · have fc_6 : x_5.toInt < 0 := zf_nle c_6 (by decide) rfl
      refine lv_iconst (v := 0) hx hb dX8_ways_126 (by decide) ?_
      refine lv_goto (tgt := 142) hx hb dX8_ways_127 (by decide) ?_
      exact W.iret (v := 0) hx hb hr (fun t ht hW => ⟨0, rfl, ⟨by decide, by decide, (show (0 : Int32).toInt = zWy (gki p_.toNatClampNeg).toInt (gpa p_.toNatClampNeg).toInt nhu.toInt d.toInt from by ((try rw [← ex_3]); have k0 : (0 : Int32).toInt = 0 := (by decide); unfold zWy zWb; (repeat (first | rw [if_pos (by omega)] | rw [if_neg (by omega)])) <;> first | rfl | omega))⟩, ht⟩) (fun q hq => by cases hq) dX8_ways_142
  · have kc1 : (1 : Int32).toInt = 1 := by decide
    refine lv_tableIn (tgt := 52) hx hb dX8_ways_13 (by decide) (by decide) rfl (by decide) ?_
    obtain ⟨x_8, ex_8⟩ : ∃ y : Int32, y = x_2 + 2 := ⟨_, rfl⟩
    have qx_8 : x_8.toInt = x_2.toInt + 2 := by rw [ex_8]; exact zf_add rfl (by decide) (by omega) (by omega)
    refine lv_iinc (v := x_8) (lv' := [(3, .int x_8), (0, .ref m0), (1, .int p_), (2, .int d)]) hx hb dX8_ways_52 hl (k := 0) rfl ex_8.symm (by decide) rfl (fun ls hl => ?_)
    refine lv_goto (tgt := 113) hx hb dX8_ways_55 (by decide) ?_
    refine lv_iload_n hx hb dX8_ways_113 rfl (lv_at hl 0 rfl) ?_
    refine lv_aload_n hx hb dX8_ways_114 rfl (lv_at hl 1 rfl) ?_
    refine va_get (D := D) (ci := 8) (v := .int nhu) (C := RX8) (T := TX8) (N := 38) hx hb hts hi_X8_ways_8 hown hK hP 0 rfl rfl 6 (by decide) (hts (.fieldLink RX8 135 "TheLiningsInItModel" "hurry" "I") (List.mem_of_getElem? (i := 3) rfl)) (fun _ h9 => h9) rfl dX8_ways_115 ?_
    refine lv_iconst (v := 3) hx hb dX8_ways_118 (by decide) ?_
    refine lv_idiv hx hb dX8_ways_119 (by decide) ?_
    refine lv_topi (fun x_9 ex_9 => ?_)
    have qx_9 : x_9.toInt = nhu.toInt / 3 := by rw [ex_9]; exact zf_div rfl (by decide) (by omega) (by omega)
    refine lv_isub hx hb dX8_ways_120 ?_
    refine lv_topi (fun x_10 ex_10 => ?_)
    have qx_10 : x_10.toInt = x_8.toInt - x_9.toInt := by rw [ex_10]; exact zf_sub rfl rfl (by omega) (by omega)
    refine lv_istore_n (lv' := [(3, .int x_10), (0, .ref m0), (1, .int p_), (2, .int d)]) hx hb dX8_ways_121 rfl hl (by decide) rfl (fun ls hl => ?_)
    refine lv_iload_n hx hb dX8_ways_122 rfl (lv_at hl 0 rfl) ?_
    refine lv_if_ge (tgt := 130) hx hb dX8_ways_123 (by decide) (fun c_11 => ?_) (fun c_11 => ?_)
    · have fc_11 : 0 ≤ x_10.toInt := zf_le c_11 (by decide) rfl
      refine lv_iload_n hx hb dX8_ways_130 rfl (lv_at hl 0 rfl) ?_
      refine lv_bipush (v := 12) hx hb dX8_ways_131 (by decide) ?_
      refine lv_icmp_le (tgt := 141) hx hb dX8_ways_133 (by decide) (fun c_12 => ?_) (fun c_12 => ?_)
      · have fc_12 : x_10.toInt ≤ 12 := zf_le c_12 rfl (by decide)
        refine lv_iload_n hx hb dX8_ways_141 rfl (lv_at hl 0 rfl) ?_
        exact W.iret (v := x_10) hx hb hr (fun t ht hW => ⟨x_10, rfl, ⟨by omega, by omega, (show (x_10 : Int32).toInt = zWy (gki p_.toNatClampNeg).toInt (gpa p_.toNatClampNeg).toInt nhu.toInt d.toInt from by ((try rw [← ex_3]); have k1 : (1 : Int32).toInt = 1 := (by decide); unfold zWy zWb; (repeat (first | rw [if_pos (by omega)] | rw [if_neg (by omega)])) <;> first | rfl | omega))⟩, ht⟩) (fun q hq => by cases hq) dX8_ways_142
      · exfalso; have fc_12 : 12 < x_10.toInt := zf_nle c_12 rfl (by decide); omega
    · have fc_11 : x_10.toInt < 0 := zf_nle c_11 (by decide) rfl
      refine lv_iconst (v := 0) hx hb dX8_ways_126 (by decide) ?_
      refine lv_goto (tgt := 142) hx hb dX8_ways_127 (by decide) ?_
      exact W.iret (v := 0) hx hb hr (fun t ht hW => ⟨0, rfl, ⟨by decide, by decide, (show (0 : Int32).toInt = zWy (gki p_.toNatClampNeg).toInt (gpa p_.toNatClampNeg).toInt nhu.toInt d.toInt from by ((try rw [← ex_3]); have k0 : (0 : Int32).toInt = 0 := (by decide); have k1 : (1 : Int32).toInt = 1 := (by decide); unfold zWy zWb; (repeat (first | rw [if_pos (by omega)] | rw [if_neg (by omega)])) <;> first | rfl | omega))⟩, ht⟩) (fun q hq => by cases hq) dX8_ways_142
  · have kc2 : (2 : Int32).toInt = 2 := by decide
    refine lv_tableIn (tgt := 74) hx hb dX8_ways_13 (by decide) (by decide) rfl (by decide) ?_
    refine lv_iload_n hx hb dX8_ways_74 rfl (lv_at hl 0 rfl) ?_
    refine lv_aload_n hx hb dX8_ways_75 rfl (lv_at hl 1 rfl) ?_
    refine va_get (D := D) (ci := 8) (v := .ref mpa) (C := RX8) (T := TX8) (N := 38) hx hb hts hi_X8_ways_8 hown hK hP 0 rfl rfl 12 (by decide) (hts (.fieldLink RX8 32 "TheLiningsInItModel" "part" "[I") (List.mem_of_getElem? (i := 2) rfl)) (fun _ h9 => h9) rfl dX8_ways_76 ?_
    refine lv_iload_n hx hb dX8_ways_79 rfl (lv_at hl 2 rfl) ?_
    refine va_iald hx hb hK hP 2 0 rfl rfl (zf_in (by omega) (by omega)) dX8_ways_80 ?_
    refine lv_topi (fun x_13 ex_13 => ?_)
    have bx_13 : 0 ≤ x_13.toInt ∧ x_13.toInt ≤ 9 := by rw [ex_13]; exact hp_gpa _
    refine lv_iconst (v := 3) hx hb dX8_ways_81 (by decide) ?_
    refine lv_idiv hx hb dX8_ways_82 (by decide) ?_
    refine lv_topi (fun x_14 ex_14 => ?_)
    have qx_14 : x_14.toInt = x_13.toInt / 3 := by rw [ex_14]; exact zf_div rfl (by decide) (by omega) (by omega)
    refine lv_iadd hx hb dX8_ways_83 ?_
    refine lv_topi (fun x_15 ex_15 => ?_)
    have qx_15 : x_15.toInt = x_2.toInt + x_14.toInt := by rw [ex_15]; exact zf_add rfl rfl (by omega) (by omega)
    refine lv_istore_n (lv' := [(3, .int x_15), (0, .ref m0), (1, .int p_), (2, .int d)]) hx hb dX8_ways_84 rfl hl (by decide) rfl (fun ls hl => ?_)
    refine lv_goto (tgt := 113) hx hb dX8_ways_85 (by decide) ?_
    refine lv_iload_n hx hb dX8_ways_113 rfl (lv_at hl 0 rfl) ?_
    refine lv_aload_n hx hb dX8_ways_114 rfl (lv_at hl 1 rfl) ?_
    refine va_get (D := D) (ci := 8) (v := .int nhu) (C := RX8) (T := TX8) (N := 38) hx hb hts hi_X8_ways_8 hown hK hP 0 rfl rfl 6 (by decide) (hts (.fieldLink RX8 135 "TheLiningsInItModel" "hurry" "I") (List.mem_of_getElem? (i := 3) rfl)) (fun _ h9 => h9) rfl dX8_ways_115 ?_
    refine lv_iconst (v := 3) hx hb dX8_ways_118 (by decide) ?_
    refine lv_idiv hx hb dX8_ways_119 (by decide) ?_
    refine lv_topi (fun x_16 ex_16 => ?_)
    have qx_16 : x_16.toInt = nhu.toInt / 3 := by rw [ex_16]; exact zf_div rfl (by decide) (by omega) (by omega)
    refine lv_isub hx hb dX8_ways_120 ?_
    refine lv_topi (fun x_17 ex_17 => ?_)
    have qx_17 : x_17.toInt = x_15.toInt - x_16.toInt := by rw [ex_17]; exact zf_sub rfl rfl (by omega) (by omega)
    refine lv_istore_n (lv' := [(3, .int x_17), (0, .ref m0), (1, .int p_), (2, .int d)]) hx hb dX8_ways_121 rfl hl (by decide) rfl (fun ls hl => ?_)
    refine lv_iload_n hx hb dX8_ways_122 rfl (lv_at hl 0 rfl) ?_
    refine lv_if_ge (tgt := 130) hx hb dX8_ways_123 (by decide) (fun c_18 => ?_) (fun c_18 => ?_)
    · have fc_18 : 0 ≤ x_17.toInt := zf_le c_18 (by decide) rfl
      refine lv_iload_n hx hb dX8_ways_130 rfl (lv_at hl 0 rfl) ?_
      refine lv_bipush (v := 12) hx hb dX8_ways_131 (by decide) ?_
      refine lv_icmp_le (tgt := 141) hx hb dX8_ways_133 (by decide) (fun c_19 => ?_) (fun c_19 => ?_)
      · have fc_19 : x_17.toInt ≤ 12 := zf_le c_19 rfl (by decide)
        refine lv_iload_n hx hb dX8_ways_141 rfl (lv_at hl 0 rfl) ?_
        exact W.iret (v := x_17) hx hb hr (fun t ht hW => ⟨x_17, rfl, ⟨by omega, by omega, (show (x_17 : Int32).toInt = zWy (gki p_.toNatClampNeg).toInt (gpa p_.toNatClampNeg).toInt nhu.toInt d.toInt from by ((try rw [← ex_3]); (try rw [← ex_13]); have k2 : (2 : Int32).toInt = 2 := (by decide); unfold zWy zWb; (repeat (first | rw [if_pos (by omega)] | rw [if_neg (by omega)])) <;> first | rfl | omega))⟩, ht⟩) (fun q hq => by cases hq) dX8_ways_142
      · exfalso; have fc_19 : 12 < x_17.toInt := zf_nle c_19 rfl (by decide); omega
    · have fc_18 : x_17.toInt < 0 := zf_nle c_18 (by decide) rfl
      refine lv_iconst (v := 0) hx hb dX8_ways_126 (by decide) ?_
      refine lv_goto (tgt := 142) hx hb dX8_ways_127 (by decide) ?_
      exact W.iret (v := 0) hx hb hr (fun t ht hW => ⟨0, rfl, ⟨by decide, by decide, (show (0 : Int32).toInt = zWy (gki p_.toNatClampNeg).toInt (gpa p_.toNatClampNeg).toInt nhu.toInt d.toInt from by ((try rw [← ex_3]); (try rw [← ex_13]); have k0 : (0 : Int32).toInt = 0 := (by decide); have k2 : (2 : Int32).toInt = 2 := (by decide); unfold zWy zWb; (repeat (first | rw [if_pos (by omega)] | rw [if_neg (by omega)])) <;> first | rfl | omega))⟩, ht⟩) (fun q hq => by cases hq) dX8_ways_142
  · have kc3 : (3 : Int32).toInt = 3 := by decide
    refine lv_tableIn (tgt := 58) hx hb dX8_ways_13 (by decide) (by decide) rfl (by decide) ?_
    refine lv_iload_n hx hb dX8_ways_58 rfl (lv_at hl 0 rfl) ?_
    refine lv_iconst (v := 2) hx hb dX8_ways_59 (by decide) ?_
    refine lv_aload_n hx hb dX8_ways_60 rfl (lv_at hl 1 rfl) ?_
    refine va_get (D := D) (ci := 8) (v := .ref mpa) (C := RX8) (T := TX8) (N := 38) hx hb hts hi_X8_ways_8 hown hK hP 0 rfl rfl 12 (by decide) (hts (.fieldLink RX8 32 "TheLiningsInItModel" "part" "[I") (List.mem_of_getElem? (i := 2) rfl)) (fun _ h9 => h9) rfl dX8_ways_61 ?_
    refine lv_iload_n hx hb dX8_ways_64 rfl (lv_at hl 2 rfl) ?_
    refine va_iald hx hb hK hP 2 0 rfl rfl (zf_in (by omega) (by omega)) dX8_ways_65 ?_
    refine lv_topi (fun x_20 ex_20 => ?_)
    have bx_20 : 0 ≤ x_20.toInt ∧ x_20.toInt ≤ 9 := by rw [ex_20]; exact hp_gpa _
    refine lv_iconst (v := 2) hx hb dX8_ways_66 (by decide) ?_
    refine lv_idiv hx hb dX8_ways_67 (by decide) ?_
    refine lv_topi (fun x_21 ex_21 => ?_)
    have qx_21 : x_21.toInt = x_20.toInt / 2 := by rw [ex_21]; exact zf_div rfl (by decide) (by omega) (by omega)
    refine lv_iadd hx hb dX8_ways_68 ?_
    refine lv_topi (fun x_22 ex_22 => ?_)
    have qx_22 : x_22.toInt = 2 + x_21.toInt := by rw [ex_22]; exact zf_add (by decide) rfl (by omega) (by omega)
    refine lv_iadd hx hb dX8_ways_69 ?_
    refine lv_topi (fun x_23 ex_23 => ?_)
    have qx_23 : x_23.toInt = x_2.toInt + x_22.toInt := by rw [ex_23]; exact zf_add rfl rfl (by omega) (by omega)
    refine lv_istore_n (lv' := [(3, .int x_23), (0, .ref m0), (1, .int p_), (2, .int d)]) hx hb dX8_ways_70 rfl hl (by decide) rfl (fun ls hl => ?_)
    refine lv_goto (tgt := 113) hx hb dX8_ways_71 (by decide) ?_
    refine lv_iload_n hx hb dX8_ways_113 rfl (lv_at hl 0 rfl) ?_
    refine lv_aload_n hx hb dX8_ways_114 rfl (lv_at hl 1 rfl) ?_
    refine va_get (D := D) (ci := 8) (v := .int nhu) (C := RX8) (T := TX8) (N := 38) hx hb hts hi_X8_ways_8 hown hK hP 0 rfl rfl 6 (by decide) (hts (.fieldLink RX8 135 "TheLiningsInItModel" "hurry" "I") (List.mem_of_getElem? (i := 3) rfl)) (fun _ h9 => h9) rfl dX8_ways_115 ?_
    refine lv_iconst (v := 3) hx hb dX8_ways_118 (by decide) ?_
    refine lv_idiv hx hb dX8_ways_119 (by decide) ?_
    refine lv_topi (fun x_24 ex_24 => ?_)
    have qx_24 : x_24.toInt = nhu.toInt / 3 := by rw [ex_24]; exact zf_div rfl (by decide) (by omega) (by omega)
    refine lv_isub hx hb dX8_ways_120 ?_
    refine lv_topi (fun x_25 ex_25 => ?_)
    have qx_25 : x_25.toInt = x_23.toInt - x_24.toInt := by rw [ex_25]; exact zf_sub rfl rfl (by omega) (by omega)
    refine lv_istore_n (lv' := [(3, .int x_25), (0, .ref m0), (1, .int p_), (2, .int d)]) hx hb dX8_ways_121 rfl hl (by decide) rfl (fun ls hl => ?_)
    refine lv_iload_n hx hb dX8_ways_122 rfl (lv_at hl 0 rfl) ?_
    refine lv_if_ge (tgt := 130) hx hb dX8_ways_123 (by decide) (fun c_26 => ?_) (fun c_26 => ?_)
    · have fc_26 : 0 ≤ x_25.toInt := zf_le c_26 (by decide) rfl
      refine lv_iload_n hx hb dX8_ways_130 rfl (lv_at hl 0 rfl) ?_
      refine lv_bipush (v := 12) hx hb dX8_ways_131 (by decide) ?_
      refine lv_icmp_le (tgt := 141) hx hb dX8_ways_133 (by decide) (fun c_27 => ?_) (fun c_27 => ?_)
      · have fc_27 : x_25.toInt ≤ 12 := zf_le c_27 rfl (by decide)
        refine lv_iload_n hx hb dX8_ways_141 rfl (lv_at hl 0 rfl) ?_
        exact W.iret (v := x_25) hx hb hr (fun t ht hW => ⟨x_25, rfl, ⟨by omega, by omega, (show (x_25 : Int32).toInt = zWy (gki p_.toNatClampNeg).toInt (gpa p_.toNatClampNeg).toInt nhu.toInt d.toInt from by ((try rw [← ex_3]); (try rw [← ex_20]); have k3 : (3 : Int32).toInt = 3 := (by decide); unfold zWy zWb; (repeat (first | rw [if_pos (by omega)] | rw [if_neg (by omega)])) <;> first | rfl | omega))⟩, ht⟩) (fun q hq => by cases hq) dX8_ways_142
      · exfalso; have fc_27 : 12 < x_25.toInt := zf_nle c_27 rfl (by decide); omega
    · have fc_26 : x_25.toInt < 0 := zf_nle c_26 (by decide) rfl
      refine lv_iconst (v := 0) hx hb dX8_ways_126 (by decide) ?_
      refine lv_goto (tgt := 142) hx hb dX8_ways_127 (by decide) ?_
      exact W.iret (v := 0) hx hb hr (fun t ht hW => ⟨0, rfl, ⟨by decide, by decide, (show (0 : Int32).toInt = zWy (gki p_.toNatClampNeg).toInt (gpa p_.toNatClampNeg).toInt nhu.toInt d.toInt from by ((try rw [← ex_3]); (try rw [← ex_20]); have k0 : (0 : Int32).toInt = 0 := (by decide); have k3 : (3 : Int32).toInt = 3 := (by decide); unfold zWy zWb; (repeat (first | rw [if_pos (by omega)] | rw [if_neg (by omega)])) <;> first | rfl | omega))⟩, ht⟩) (fun q hq => by cases hq) dX8_ways_142
  · have kc4 : (4 : Int32).toInt = 4 := by decide
    refine lv_tableIn (tgt := 88) hx hb dX8_ways_13 (by decide) (by decide) rfl (by decide) ?_
    refine lv_bipush (v := 8) hx hb dX8_ways_88 (by decide) ?_
    refine lv_iload_n hx hb dX8_ways_90 rfl (lv_at hl 3 rfl) ?_
    refine lv_bipush (v := 6) hx hb dX8_ways_91 (by decide) ?_
    refine lv_idiv hx hb dX8_ways_93 (by decide) ?_
    refine lv_topi (fun x_28 ex_28 => ?_)
    have qx_28 : x_28.toInt = d.toInt / 6 := by rw [ex_28]; exact zf_div rfl (by decide) (by omega) (by omega)
    refine lv_isub hx hb dX8_ways_94 ?_
    refine lv_topi (fun x_29 ex_29 => ?_)
    have qx_29 : x_29.toInt = 8 - x_28.toInt := by rw [ex_29]; exact zf_sub (by decide) rfl (by omega) (by omega)
    refine lv_istore_n (lv' := [(3, .int x_29), (0, .ref m0), (1, .int p_), (2, .int d)]) hx hb dX8_ways_95 rfl hl (by decide) rfl (fun ls hl => ?_)
    refine lv_goto (tgt := 113) hx hb dX8_ways_96 (by decide) ?_
    refine lv_iload_n hx hb dX8_ways_113 rfl (lv_at hl 0 rfl) ?_
    refine lv_aload_n hx hb dX8_ways_114 rfl (lv_at hl 1 rfl) ?_
    refine va_get (D := D) (ci := 8) (v := .int nhu) (C := RX8) (T := TX8) (N := 38) hx hb hts hi_X8_ways_8 hown hK hP 0 rfl rfl 6 (by decide) (hts (.fieldLink RX8 135 "TheLiningsInItModel" "hurry" "I") (List.mem_of_getElem? (i := 3) rfl)) (fun _ h9 => h9) rfl dX8_ways_115 ?_
    refine lv_iconst (v := 3) hx hb dX8_ways_118 (by decide) ?_
    refine lv_idiv hx hb dX8_ways_119 (by decide) ?_
    refine lv_topi (fun x_30 ex_30 => ?_)
    have qx_30 : x_30.toInt = nhu.toInt / 3 := by rw [ex_30]; exact zf_div rfl (by decide) (by omega) (by omega)
    refine lv_isub hx hb dX8_ways_120 ?_
    refine lv_topi (fun x_31 ex_31 => ?_)
    have qx_31 : x_31.toInt = x_29.toInt - x_30.toInt := by rw [ex_31]; exact zf_sub rfl rfl (by omega) (by omega)
    refine lv_istore_n (lv' := [(3, .int x_31), (0, .ref m0), (1, .int p_), (2, .int d)]) hx hb dX8_ways_121 rfl hl (by decide) rfl (fun ls hl => ?_)
    refine lv_iload_n hx hb dX8_ways_122 rfl (lv_at hl 0 rfl) ?_
    refine lv_if_ge (tgt := 130) hx hb dX8_ways_123 (by decide) (fun c_32 => ?_) (fun c_32 => ?_)
    · have fc_32 : 0 ≤ x_31.toInt := zf_le c_32 (by decide) rfl
      refine lv_iload_n hx hb dX8_ways_130 rfl (lv_at hl 0 rfl) ?_
      refine lv_bipush (v := 12) hx hb dX8_ways_131 (by decide) ?_
      refine lv_icmp_le (tgt := 141) hx hb dX8_ways_133 (by decide) (fun c_33 => ?_) (fun c_33 => ?_)
      · have fc_33 : x_31.toInt ≤ 12 := zf_le c_33 rfl (by decide)
        refine lv_iload_n hx hb dX8_ways_141 rfl (lv_at hl 0 rfl) ?_
        exact W.iret (v := x_31) hx hb hr (fun t ht hW => ⟨x_31, rfl, ⟨by omega, by omega, (show (x_31 : Int32).toInt = zWy (gki p_.toNatClampNeg).toInt (gpa p_.toNatClampNeg).toInt nhu.toInt d.toInt from by ((try rw [← ex_3]); have k4 : (4 : Int32).toInt = 4 := (by decide); unfold zWy zWb; (repeat (first | rw [if_pos (by omega)] | rw [if_neg (by omega)])) <;> first | rfl | omega))⟩, ht⟩) (fun q hq => by cases hq) dX8_ways_142
      · exfalso; have fc_33 : 12 < x_31.toInt := zf_nle c_33 rfl (by decide); omega
    · exfalso; have fc_32 : x_31.toInt < 0 := zf_nle c_32 (by decide) rfl; omega
  · have kc5 : (5 : Int32).toInt = 5 := by decide
    refine lv_tableIn (tgt := 110) hx hb dX8_ways_13 (by decide) (by decide) rfl (by decide) ?_
    refine lv_bipush (v := 12) hx hb dX8_ways_110 (by decide) ?_
    exact W.iret (v := 12) hx hb hr (fun t ht hW => ⟨12, rfl, ⟨by decide, by decide, (show (12 : Int32).toInt = zWy (gki p_.toNatClampNeg).toInt (gpa p_.toNatClampNeg).toInt nhu.toInt d.toInt from by ((try rw [← ex_3]); have k5 : (5 : Int32).toInt = 5 := (by decide); have k12 : (12 : Int32).toInt = 12 := (by decide); unfold zWy zWb; (repeat (first | rw [if_pos (by omega)] | rw [if_neg (by omega)])) <;> first | rfl | omega))⟩, ht⟩) (fun q hq => by cases hq) dX8_ways_112
  · have kc6 : (6 : Int32).toInt = 6 := by decide
    refine lv_tableIn (tgt := 99) hx hb dX8_ways_13 (by decide) (by decide) rfl (by decide) ?_
    refine lv_bipush (v := 10) hx hb dX8_ways_99 (by decide) ?_
    refine lv_iload_n hx hb dX8_ways_101 rfl (lv_at hl 3 rfl) ?_
    refine lv_bipush (v := 6) hx hb dX8_ways_102 (by decide) ?_
    refine lv_idiv hx hb dX8_ways_104 (by decide) ?_
    refine lv_topi (fun x_34 ex_34 => ?_)
    have qx_34 : x_34.toInt = d.toInt / 6 := by rw [ex_34]; exact zf_div rfl (by decide) (by omega) (by omega)
    refine lv_isub hx hb dX8_ways_105 ?_
    refine lv_topi (fun x_35 ex_35 => ?_)
    have qx_35 : x_35.toInt = 10 - x_34.toInt := by rw [ex_35]; exact zf_sub (by decide) rfl (by omega) (by omega)
    refine lv_istore_n (lv' := [(3, .int x_35), (0, .ref m0), (1, .int p_), (2, .int d)]) hx hb dX8_ways_106 rfl hl (by decide) rfl (fun ls hl => ?_)
    refine lv_goto (tgt := 113) hx hb dX8_ways_107 (by decide) ?_
    refine lv_iload_n hx hb dX8_ways_113 rfl (lv_at hl 0 rfl) ?_
    refine lv_aload_n hx hb dX8_ways_114 rfl (lv_at hl 1 rfl) ?_
    refine va_get (D := D) (ci := 8) (v := .int nhu) (C := RX8) (T := TX8) (N := 38) hx hb hts hi_X8_ways_8 hown hK hP 0 rfl rfl 6 (by decide) (hts (.fieldLink RX8 135 "TheLiningsInItModel" "hurry" "I") (List.mem_of_getElem? (i := 3) rfl)) (fun _ h9 => h9) rfl dX8_ways_115 ?_
    refine lv_iconst (v := 3) hx hb dX8_ways_118 (by decide) ?_
    refine lv_idiv hx hb dX8_ways_119 (by decide) ?_
    refine lv_topi (fun x_36 ex_36 => ?_)
    have qx_36 : x_36.toInt = nhu.toInt / 3 := by rw [ex_36]; exact zf_div rfl (by decide) (by omega) (by omega)
    refine lv_isub hx hb dX8_ways_120 ?_
    refine lv_topi (fun x_37 ex_37 => ?_)
    have qx_37 : x_37.toInt = x_35.toInt - x_36.toInt := by rw [ex_37]; exact zf_sub rfl rfl (by omega) (by omega)
    refine lv_istore_n (lv' := [(3, .int x_37), (0, .ref m0), (1, .int p_), (2, .int d)]) hx hb dX8_ways_121 rfl hl (by decide) rfl (fun ls hl => ?_)
    refine lv_iload_n hx hb dX8_ways_122 rfl (lv_at hl 0 rfl) ?_
    refine lv_if_ge (tgt := 130) hx hb dX8_ways_123 (by decide) (fun c_38 => ?_) (fun c_38 => ?_)
    · have fc_38 : 0 ≤ x_37.toInt := zf_le c_38 (by decide) rfl
      refine lv_iload_n hx hb dX8_ways_130 rfl (lv_at hl 0 rfl) ?_
      refine lv_bipush (v := 12) hx hb dX8_ways_131 (by decide) ?_
      refine lv_icmp_le (tgt := 141) hx hb dX8_ways_133 (by decide) (fun c_39 => ?_) (fun c_39 => ?_)
      · have fc_39 : x_37.toInt ≤ 12 := zf_le c_39 rfl (by decide)
        refine lv_iload_n hx hb dX8_ways_141 rfl (lv_at hl 0 rfl) ?_
        exact W.iret (v := x_37) hx hb hr (fun t ht hW => ⟨x_37, rfl, ⟨by omega, by omega, (show (x_37 : Int32).toInt = zWy (gki p_.toNatClampNeg).toInt (gpa p_.toNatClampNeg).toInt nhu.toInt d.toInt from by ((try rw [← ex_3]); have k6 : (6 : Int32).toInt = 6 := (by decide); unfold zWy zWb; (repeat (first | rw [if_pos (by omega)] | rw [if_neg (by omega)])) <;> first | rfl | omega))⟩, ht⟩) (fun q hq => by cases hq) dX8_ways_142
      · exfalso; have fc_39 : 12 < x_37.toInt := zf_nle c_39 rfl (by decide); omega
    · exfalso; have fc_38 : x_37.toInt < 0 := zf_nle c_38 (by decide) rfl; omega
set_option maxHeartbeats 4000000 in
set_option maxRecDepth 100000 in
theorem c_F_M_deep (l : Launch) (D : va_G) (cI cJ cZ cP cS : ClassId) (po : zPool) (m0 mrf mki mpa mta mla msl mco mhe mso msi msh mce mca mwo mnu mte mwa mke mma mth mtr : Nat) (npu nte nat_ nde nto nse nhu nga nsd nfa nba npl nen nnu nwr nra nik : Int32) (gki gpa : Nat → Int32) (p_ d is_ : Int32) (hy0 : 0 ≤ npu.toInt) (hy1 : npu.toInt ≤ 8) (hy2 : 4 ≤ nte.toInt) (hy3 : nte.toInt ≤ 40) (hy4 : 0 ≤ nat_.toInt) (hy5 : nat_.toInt ≤ 40) (hy6 : 0 ≤ nde.toInt) (hy7 : nde.toInt ≤ 24) (hy8 : 0 ≤ nhu.toInt) (hy9 : nhu.toInt ≤ 9) (hy10 : 0 ≤ nra.toInt) (hy11 : nra.toInt ≤ 2000) (hy12 : 0 ≤ nik.toInt) (hy13 : nik.toInt ≤ 1) (hy14 : 0 ≤ p_.toInt) (hy15 : p_.toInt ≤ 7) (hy16 : 0 ≤ d.toInt) (hy17 : d.toInt ≤ 24) (hy18 : 0 ≤ is_.toInt) (hy19 : is_.toInt ≤ 1) (hp_gki : zRg gki (0) 6) (hp_gpa : zRg gpa (0) 9) : Met l yX8_deep wsX8_deep ({ frames := 1, cells := 0, slots := 0, locals := 21 }) (va_Pc [.ref m0, .int p_, .int d, .int is_] (zR D (zKT cI cJ cZ cP cS) po [(zMO m0 npu nte nat_ nde nto nse nhu nga nsd nfa mrf mki mpa mta mla msl mco mhe mso msi msh mce mca mwo mnu mte nba npl nen nnu nwr mwa mke mma mth mtr nra nik), (mki, .inl (cI, 8, .inl gki)), (mpa, .inl (cI, 8, .inl gpa))])) (vp_Si (fun r => 0 ≤ r.toInt ∧ r.toInt ≤ 24 ∧ ((is_.toInt ≠ 0 → r.toInt = zShl (gki p_.toNatClampNeg).toInt (gpa p_.toNatClampNeg).toInt d.toInt) ∧ (is_.toInt = 0 → r.toInt = zDpr (gki p_.toNatClampNeg).toInt (gpa p_.toNatClampNeg).toInt nhu.toInt d.toInt)))) 0 0 (fun _ => False) := by
  refine Met.ofW (cc := cX8_deep) (maxL := 5) (ret := (some .int)) (by decide) rfl ?_
  intro p e s m args below meth c s₁ B hml hv
  obtain ⟨rfl, hP, hK, hN, hZ⟩ := hv
  have hx := B.exec
  have hb := B.bytes
  have hr := B.returns
  have hts := atoms_spec (ws := wsX8_deep) B.pre
  have hown : s.vm.findClass RX8 = some m.cls := findClass_of_methodNamed B.named
  have hlocks := B.notSynchronized
  have hl := lv_entry ([.ref m0, .int p_, .int d, .int is_]) (n := 5) (Nat.le_of_ble_eq_true rfl)
  rw [lg_entry_eq]
  generalize (lg_sl ([.ref m0, .int p_, .int d, .int is_]) ++ List.replicate (5 - (lg_sl ([.ref m0, .int p_, .int d, .int is_])).length) Slot.unset).toArray = ls at hl ⊢
  replace hl : lv_has ls 5 [(0, .ref m0), (1, .int p_), (2, .int d), (3, .int is_)] := hl
  refine lv_iload_n hx hb dX8_deep_0 rfl (lv_at hl 3 rfl) ?_
  refine lv_if_eq (tgt := 25) hx hb dX8_deep_1 (by decide) (fun c_1 => ?_) (fun c_1 => ?_)
  · have fc_1 : is_.toInt = 0 := zf_eq c_1 rfl (by decide)
    refine lv_aload_n hx hb dX8_deep_25 rfl (lv_at hl 0 rfl) ?_
    refine va_get (D := D) (ci := 8) (v := .ref mki) (C := RX8) (T := TX8) (N := 38) hx hb hts hi_X8_deep_8 hown hK hP 0 rfl rfl 11 (by decide) (hts (.fieldLink RX8 29 "TheLiningsInItModel" "kind" "[I") (List.mem_of_getElem? (i := 1) rfl)) (fun _ h9 => h9) rfl dX8_deep_26 ?_
    refine lv_iload_n hx hb dX8_deep_29 rfl (lv_at hl 1 rfl) ?_
    refine va_iald hx hb hK hP 1 0 rfl rfl (zf_in (by omega) (by omega)) dX8_deep_30 ?_
    refine lv_topi (fun x_2 ex_2 => ?_)
    have bx_2 : 0 ≤ x_2.toInt ∧ x_2.toInt ≤ 6 := by rw [ex_2]; exact hp_gki _
    refine lv_iconst (v := 5) hx hb dX8_deep_31 (by decide) ?_
    refine lv_icmp_ne (tgt := 37) hx hb dX8_deep_32 (by decide) (fun c_3 => ?_) (fun c_3 => ?_)
    · have fc_3 : x_2.toInt ≠ 5 := zf_ne c_3 rfl (by decide)
      refine lv_iload_n hx hb dX8_deep_37 rfl (lv_at hl 2 rfl) ?_
      refine lv_aload_n hx hb dX8_deep_38 rfl (lv_at hl 0 rfl) ?_
      refine va_get (D := D) (ci := 8) (v := .ref mki) (C := RX8) (T := TX8) (N := 38) hx hb hts hi_X8_deep_8 hown hK hP 0 rfl rfl 11 (by decide) (hts (.fieldLink RX8 29 "TheLiningsInItModel" "kind" "[I") (List.mem_of_getElem? (i := 1) rfl)) (fun _ h9 => h9) rfl dX8_deep_39 ?_
      refine lv_iload_n hx hb dX8_deep_42 rfl (lv_at hl 1 rfl) ?_
      refine va_iald hx hb hK hP 1 0 rfl rfl (zf_in (by omega) (by omega)) dX8_deep_43 ?_
      refine lv_topi (fun y_4 ey_4 => ?_)
      obtain rfl : x_2 = y_4 := ex_2.trans ey_4.symm
      refine lv_iconst (v := 2) hx hb dX8_deep_44 (by decide) ?_
      refine lv_icmp_ne (tgt := 61) hx hb dX8_deep_45 (by decide) (fun c_5 => ?_) (fun c_5 => ?_)
      · have fc_5 : x_2.toInt ≠ 2 := zf_ne c_5 rfl (by decide)
        refine lv_iconst (v := 0) hx hb dX8_deep_61 (by decide) ?_
        refine lv_iadd hx hb dX8_deep_62 ?_
        refine lv_topi (fun y_6 ey_6 => ?_)
        obtain rfl : d = y_6 := (ey_6.trans (Int32.add_zero d)).symm
        refine lv_aload_n hx hb dX8_deep_63 rfl (lv_at hl 0 rfl) ?_
        refine va_get (D := D) (ci := 8) (v := .int nhu) (C := RX8) (T := TX8) (N := 38) hx hb hts hi_X8_deep_8 hown hK hP 0 rfl rfl 6 (by decide) (hts (.fieldLink RX8 135 "TheLiningsInItModel" "hurry" "I") (List.mem_of_getElem? (i := 3) rfl)) (fun _ h9 => h9) rfl dX8_deep_64 ?_
        refine lv_bipush (v := 6) hx hb dX8_deep_67 (by decide) ?_
        refine lv_icmp_lt (tgt := 76) hx hb dX8_deep_69 (by decide) (fun c_7 => ?_) (fun c_7 => ?_)
        · have fc_7 : nhu.toInt < 6 := zf_lt c_7 rfl (by decide)
          refine lv_iconst (v := 0) hx hb dX8_deep_76 (by decide) ?_
          refine lv_iadd hx hb dX8_deep_77 ?_
          refine lv_topi (fun y_8 ey_8 => ?_)
          obtain rfl : d = y_8 := (ey_8.trans (Int32.add_zero d)).symm
          refine lv_istore (lv' := [(4, .int d), (0, .ref m0), (1, .int p_), (2, .int d), (3, .int is_)]) hx hb dX8_deep_78 hl (by decide) rfl (fun ls hl => ?_)
          refine lv_iload hx hb dX8_deep_80 (lv_at hl 0 rfl) ?_
          refine lv_bipush (v := 24) hx hb dX8_deep_82 (by decide) ?_
          refine lv_icmp_le (tgt := 92) hx hb dX8_deep_84 (by decide) (fun c_9 => ?_) (fun c_9 => ?_)
          · have fc_9 : d.toInt ≤ 24 := zf_le c_9 rfl (by decide)
            refine lv_iload hx hb dX8_deep_92 (lv_at hl 0 rfl) ?_
            exact W.iret (v := d) hx hb hr (fun t ht hW => ⟨d, rfl, ⟨by omega, by omega, (show (is_.toInt ≠ 0 → (d : Int32).toInt = zShl (gki p_.toNatClampNeg).toInt (gpa p_.toNatClampNeg).toInt d.toInt) ∧ (is_.toInt = 0 → (d : Int32).toInt = zDpr (gki p_.toNatClampNeg).toInt (gpa p_.toNatClampNeg).toInt nhu.toInt d.toInt) from by (refine ⟨fun h => by (exfalso; omega), fun _ => ?_⟩; (try rw [← ex_2]); unfold zDpr; (repeat (first | rw [if_pos (by omega)] | rw [if_neg (by omega)])) <;> first | rfl | omega))⟩, ht⟩) (fun q hq => by cases hq) dX8_deep_94
          · exfalso; have fc_9 : 24 < d.toInt := zf_nle c_9 rfl (by decide); omega
        · have fc_7 : 6 ≤ nhu.toInt := zf_nlt c_7 rfl (by decide)
          refine lv_iconst (v := 1) hx hb dX8_deep_72 (by decide) ?_
          refine lv_goto (tgt := 77) hx hb dX8_deep_73 (by decide) ?_
          refine lv_iadd hx hb dX8_deep_77 ?_
          refine lv_topi (fun x_10 ex_10 => ?_)
          have qx_10 : x_10.toInt = d.toInt + 1 := by rw [ex_10]; exact zf_add rfl (by decide) (by omega) (by omega)
          refine lv_istore (lv' := [(4, .int x_10), (0, .ref m0), (1, .int p_), (2, .int d), (3, .int is_)]) hx hb dX8_deep_78 hl (by decide) rfl (fun ls hl => ?_)
          refine lv_iload hx hb dX8_deep_80 (lv_at hl 0 rfl) ?_
          refine lv_bipush (v := 24) hx hb dX8_deep_82 (by decide) ?_
          refine lv_icmp_le (tgt := 92) hx hb dX8_deep_84 (by decide) (fun c_11 => ?_) (fun c_11 => ?_)
          · have fc_11 : x_10.toInt ≤ 24 := zf_le c_11 rfl (by decide)
            refine lv_iload hx hb dX8_deep_92 (lv_at hl 0 rfl) ?_
            exact W.iret (v := x_10) hx hb hr (fun t ht hW => ⟨x_10, rfl, ⟨by omega, by omega, (show (is_.toInt ≠ 0 → (x_10 : Int32).toInt = zShl (gki p_.toNatClampNeg).toInt (gpa p_.toNatClampNeg).toInt d.toInt) ∧ (is_.toInt = 0 → (x_10 : Int32).toInt = zDpr (gki p_.toNatClampNeg).toInt (gpa p_.toNatClampNeg).toInt nhu.toInt d.toInt) from by (refine ⟨fun h => by (exfalso; omega), fun _ => ?_⟩; (try rw [← ex_2]); unfold zDpr; (repeat (first | rw [if_pos (by omega)] | rw [if_neg (by omega)])) <;> first | rfl | omega))⟩, ht⟩) (fun q hq => by cases hq) dX8_deep_94
          · have fc_11 : 24 < x_10.toInt := zf_nle c_11 rfl (by decide)
            refine lv_bipush (v := 24) hx hb dX8_deep_87 (by decide) ?_
            refine lv_goto (tgt := 94) hx hb dX8_deep_89 (by decide) ?_
            exact W.iret (v := 24) hx hb hr (fun t ht hW => ⟨24, rfl, ⟨by decide, by decide, (show (is_.toInt ≠ 0 → (24 : Int32).toInt = zShl (gki p_.toNatClampNeg).toInt (gpa p_.toNatClampNeg).toInt d.toInt) ∧ (is_.toInt = 0 → (24 : Int32).toInt = zDpr (gki p_.toNatClampNeg).toInt (gpa p_.toNatClampNeg).toInt nhu.toInt d.toInt) from by (refine ⟨fun h => by (exfalso; omega), fun _ => ?_⟩; (try rw [← ex_2]); have k24 : (24 : Int32).toInt = 24 := (by decide); unfold zDpr; (repeat (first | rw [if_pos (by omega)] | rw [if_neg (by omega)])) <;> first | rfl | omega))⟩, ht⟩) (fun q hq => by cases hq) dX8_deep_94
      · have fc_5 : x_2.toInt = 2 := zf_eq c_5 rfl (by decide)
        refine lv_iconst (v := 1) hx hb dX8_deep_48 (by decide) ?_
        refine lv_aload_n hx hb dX8_deep_49 rfl (lv_at hl 0 rfl) ?_
        refine va_get (D := D) (ci := 8) (v := .ref mpa) (C := RX8) (T := TX8) (N := 38) hx hb hts hi_X8_deep_8 hown hK hP 0 rfl rfl 12 (by decide) (hts (.fieldLink RX8 32 "TheLiningsInItModel" "part" "[I") (List.mem_of_getElem? (i := 2) rfl)) (fun _ h9 => h9) rfl dX8_deep_50 ?_
        refine lv_iload_n hx hb dX8_deep_53 rfl (lv_at hl 1 rfl) ?_
        refine va_iald hx hb hK hP 2 0 rfl rfl (zf_in (by omega) (by omega)) dX8_deep_54 ?_
        refine lv_topi (fun x_12 ex_12 => ?_)
        have bx_12 : 0 ≤ x_12.toInt ∧ x_12.toInt ≤ 9 := by rw [ex_12]; exact hp_gpa _
        refine lv_iconst (v := 3) hx hb dX8_deep_55 (by decide) ?_
        refine lv_idiv hx hb dX8_deep_56 (by decide) ?_
        refine lv_topi (fun x_13 ex_13 => ?_)
        have qx_13 : x_13.toInt = x_12.toInt / 3 := by rw [ex_13]; exact zf_div rfl (by decide) (by omega) (by omega)
        refine lv_iadd hx hb dX8_deep_57 ?_
        refine lv_topi (fun x_14 ex_14 => ?_)
        have qx_14 : x_14.toInt = 1 + x_13.toInt := by rw [ex_14]; exact zf_add (by decide) rfl (by omega) (by omega)
        refine lv_goto (tgt := 62) hx hb dX8_deep_58 (by decide) ?_
        refine lv_iadd hx hb dX8_deep_62 ?_
        refine lv_topi (fun x_15 ex_15 => ?_)
        have qx_15 : x_15.toInt = d.toInt + x_14.toInt := by rw [ex_15]; exact zf_add rfl rfl (by omega) (by omega)
        refine lv_aload_n hx hb dX8_deep_63 rfl (lv_at hl 0 rfl) ?_
        refine va_get (D := D) (ci := 8) (v := .int nhu) (C := RX8) (T := TX8) (N := 38) hx hb hts hi_X8_deep_8 hown hK hP 0 rfl rfl 6 (by decide) (hts (.fieldLink RX8 135 "TheLiningsInItModel" "hurry" "I") (List.mem_of_getElem? (i := 3) rfl)) (fun _ h9 => h9) rfl dX8_deep_64 ?_
        refine lv_bipush (v := 6) hx hb dX8_deep_67 (by decide) ?_
        refine lv_icmp_lt (tgt := 76) hx hb dX8_deep_69 (by decide) (fun c_16 => ?_) (fun c_16 => ?_)
        · have fc_16 : nhu.toInt < 6 := zf_lt c_16 rfl (by decide)
          refine lv_iconst (v := 0) hx hb dX8_deep_76 (by decide) ?_
          refine lv_iadd hx hb dX8_deep_77 ?_
          refine lv_topi (fun y_17 ey_17 => ?_)
          obtain rfl : x_15 = y_17 := (ey_17.trans (Int32.add_zero x_15)).symm
          refine lv_istore (lv' := [(4, .int x_15), (0, .ref m0), (1, .int p_), (2, .int d), (3, .int is_)]) hx hb dX8_deep_78 hl (by decide) rfl (fun ls hl => ?_)
          refine lv_iload hx hb dX8_deep_80 (lv_at hl 0 rfl) ?_
          refine lv_bipush (v := 24) hx hb dX8_deep_82 (by decide) ?_
          refine lv_icmp_le (tgt := 92) hx hb dX8_deep_84 (by decide) (fun c_18 => ?_) (fun c_18 => ?_)
          · have fc_18 : x_15.toInt ≤ 24 := zf_le c_18 rfl (by decide)
            refine lv_iload hx hb dX8_deep_92 (lv_at hl 0 rfl) ?_
            exact W.iret (v := x_15) hx hb hr (fun t ht hW => ⟨x_15, rfl, ⟨by omega, by omega, (show (is_.toInt ≠ 0 → (x_15 : Int32).toInt = zShl (gki p_.toNatClampNeg).toInt (gpa p_.toNatClampNeg).toInt d.toInt) ∧ (is_.toInt = 0 → (x_15 : Int32).toInt = zDpr (gki p_.toNatClampNeg).toInt (gpa p_.toNatClampNeg).toInt nhu.toInt d.toInt) from by (refine ⟨fun h => by (exfalso; omega), fun _ => ?_⟩; (try rw [← ex_2]); (try rw [← ex_12]); unfold zDpr; (repeat (first | rw [if_pos (by omega)] | rw [if_neg (by omega)])) <;> first | rfl | omega))⟩, ht⟩) (fun q hq => by cases hq) dX8_deep_94
          · have fc_18 : 24 < x_15.toInt := zf_nle c_18 rfl (by decide)
            refine lv_bipush (v := 24) hx hb dX8_deep_87 (by decide) ?_
            refine lv_goto (tgt := 94) hx hb dX8_deep_89 (by decide) ?_
            exact W.iret (v := 24) hx hb hr (fun t ht hW => ⟨24, rfl, ⟨by decide, by decide, (show (is_.toInt ≠ 0 → (24 : Int32).toInt = zShl (gki p_.toNatClampNeg).toInt (gpa p_.toNatClampNeg).toInt d.toInt) ∧ (is_.toInt = 0 → (24 : Int32).toInt = zDpr (gki p_.toNatClampNeg).toInt (gpa p_.toNatClampNeg).toInt nhu.toInt d.toInt) from by (refine ⟨fun h => by (exfalso; omega), fun _ => ?_⟩; (try rw [← ex_2]); (try rw [← ex_12]); have k24 : (24 : Int32).toInt = 24 := (by decide); unfold zDpr; (repeat (first | rw [if_pos (by omega)] | rw [if_neg (by omega)])) <;> first | rfl | omega))⟩, ht⟩) (fun q hq => by cases hq) dX8_deep_94
        · have fc_16 : 6 ≤ nhu.toInt := zf_nlt c_16 rfl (by decide)
          refine lv_iconst (v := 1) hx hb dX8_deep_72 (by decide) ?_
          refine lv_goto (tgt := 77) hx hb dX8_deep_73 (by decide) ?_
          refine lv_iadd hx hb dX8_deep_77 ?_
          refine lv_topi (fun x_19 ex_19 => ?_)
          have qx_19 : x_19.toInt = x_15.toInt + 1 := by rw [ex_19]; exact zf_add rfl (by decide) (by omega) (by omega)
          refine lv_istore (lv' := [(4, .int x_19), (0, .ref m0), (1, .int p_), (2, .int d), (3, .int is_)]) hx hb dX8_deep_78 hl (by decide) rfl (fun ls hl => ?_)
          refine lv_iload hx hb dX8_deep_80 (lv_at hl 0 rfl) ?_
          refine lv_bipush (v := 24) hx hb dX8_deep_82 (by decide) ?_
          refine lv_icmp_le (tgt := 92) hx hb dX8_deep_84 (by decide) (fun c_20 => ?_) (fun c_20 => ?_)
          · have fc_20 : x_19.toInt ≤ 24 := zf_le c_20 rfl (by decide)
            refine lv_iload hx hb dX8_deep_92 (lv_at hl 0 rfl) ?_
            exact W.iret (v := x_19) hx hb hr (fun t ht hW => ⟨x_19, rfl, ⟨by omega, by omega, (show (is_.toInt ≠ 0 → (x_19 : Int32).toInt = zShl (gki p_.toNatClampNeg).toInt (gpa p_.toNatClampNeg).toInt d.toInt) ∧ (is_.toInt = 0 → (x_19 : Int32).toInt = zDpr (gki p_.toNatClampNeg).toInt (gpa p_.toNatClampNeg).toInt nhu.toInt d.toInt) from by (refine ⟨fun h => by (exfalso; omega), fun _ => ?_⟩; (try rw [← ex_2]); (try rw [← ex_12]); unfold zDpr; (repeat (first | rw [if_pos (by omega)] | rw [if_neg (by omega)])) <;> first | rfl | omega))⟩, ht⟩) (fun q hq => by cases hq) dX8_deep_94
          · have fc_20 : 24 < x_19.toInt := zf_nle c_20 rfl (by decide)
            refine lv_bipush (v := 24) hx hb dX8_deep_87 (by decide) ?_
            refine lv_goto (tgt := 94) hx hb dX8_deep_89 (by decide) ?_
            exact W.iret (v := 24) hx hb hr (fun t ht hW => ⟨24, rfl, ⟨by decide, by decide, (show (is_.toInt ≠ 0 → (24 : Int32).toInt = zShl (gki p_.toNatClampNeg).toInt (gpa p_.toNatClampNeg).toInt d.toInt) ∧ (is_.toInt = 0 → (24 : Int32).toInt = zDpr (gki p_.toNatClampNeg).toInt (gpa p_.toNatClampNeg).toInt nhu.toInt d.toInt) from by (refine ⟨fun h => by (exfalso; omega), fun _ => ?_⟩; (try rw [← ex_2]); (try rw [← ex_12]); have k24 : (24 : Int32).toInt = 24 := (by decide); unfold zDpr; (repeat (first | rw [if_pos (by omega)] | rw [if_neg (by omega)])) <;> first | rfl | omega))⟩, ht⟩) (fun q hq => by cases hq) dX8_deep_94
    · have fc_3 : x_2.toInt = 5 := zf_eq c_3 rfl (by decide)
      refine lv_iload_n hx hb dX8_deep_35 rfl (lv_at hl 2 rfl) ?_
      exact W.iret (v := d) hx hb hr (fun t ht hW => ⟨d, rfl, ⟨by omega, by omega, (show (is_.toInt ≠ 0 → (d : Int32).toInt = zShl (gki p_.toNatClampNeg).toInt (gpa p_.toNatClampNeg).toInt d.toInt) ∧ (is_.toInt = 0 → (d : Int32).toInt = zDpr (gki p_.toNatClampNeg).toInt (gpa p_.toNatClampNeg).toInt nhu.toInt d.toInt) from by (refine ⟨fun h => by (exfalso; omega), fun _ => ?_⟩; (try rw [← ex_2]); unfold zDpr; (repeat (first | rw [if_pos (by omega)] | rw [if_neg (by omega)])) <;> first | rfl | omega))⟩, ht⟩) (fun q hq => by cases hq) dX8_deep_36
  · have fc_1 : is_.toInt ≠ 0 := zf_ne c_1 rfl (by decide)
    refine lv_iload_n hx hb dX8_deep_4 rfl (lv_at hl 2 rfl) ?_
    refine lv_aload_n hx hb dX8_deep_5 rfl (lv_at hl 0 rfl) ?_
    refine lv_iload_n hx hb dX8_deep_6 rfl (lv_at hl 1 rfl) ?_
    refine zc_V (As := [.int p_]) (rest := [.int d]) ⟨hx, hb, hml, hown, hts⟩ (c_F_M_step l D cI cJ cZ cP cS po m0 mrf mki mpa mta mla msl mco mhe mso msi msh mce mca mwo mnu mte mwa mke mma mth mtr (npu) (nte) (nat_) (nde) (nto) (nse) (nhu) (nga) (nsd) (nfa) (nba) (npl) (nen) (nnu) (nwr) (nra) (nik) gki gpa (p_) hy0 hy1 hy2 hy3 hy4 hy5 hy6 hy7 hy8 hy9 hy10 hy11 hy12 hy13 hy14 hy15 hp_gki hp_gpa) (cwV 1 hts gX8_deep_X8_step rfl rfl rfl ⟨rfl, dh_X8_step⟩ ⟨Nat.le_of_ble_eq_true rfl, Nat.le_of_ble_eq_true rfl⟩) hK hN hZ hP (hP.sub [0, 1, 2] rfl) (va_recv (q := (RX8, TX8, 38)) hK hP (ci := 8) (q0 := 0) rfl rfl) rfl hl.1 rfl (Nat.le_of_ble_eq_true rfl) dX8_deep_7 ⟨Nat.le_of_ble_eq_true rfl, Nat.le_of_ble_eq_true rfl⟩ (fun r_21 hr_21 => ?_)
    obtain ⟨g_22, g_23, hsr_21_0⟩ := hr_21
    refine lv_icmp_le (tgt := 23) hx hb dX8_deep_10 (by decide) (fun c_24 => ?_) (fun c_24 => ?_)
    · have fc_24 : d.toInt ≤ r_21.toInt := zf_le c_24 rfl rfl
      refine lv_iconst (v := 0) hx hb dX8_deep_23 (by decide) ?_
      exact W.iret (v := 0) hx hb hr (fun t ht hW => ⟨0, rfl, ⟨by decide, by decide, (show (is_.toInt ≠ 0 → (0 : Int32).toInt = zShl (gki p_.toNatClampNeg).toInt (gpa p_.toNatClampNeg).toInt d.toInt) ∧ (is_.toInt = 0 → (0 : Int32).toInt = zDpr (gki p_.toNatClampNeg).toInt (gpa p_.toNatClampNeg).toInt nhu.toInt d.toInt) from by (have zs := hsr_21_0; have k0 : (0 : Int32).toInt = 0 := (by decide); refine ⟨fun _ => ?_, fun h => by (exfalso; omega)⟩; unfold zShl; rw [← zs]; omega))⟩, ht⟩) (fun q hq => by cases hq) dX8_deep_24
    · have fc_24 : r_21.toInt < d.toInt := zf_nle c_24 rfl rfl
      refine lv_iload_n hx hb dX8_deep_13 rfl (lv_at hl 2 rfl) ?_
      refine lv_aload_n hx hb dX8_deep_14 rfl (lv_at hl 0 rfl) ?_
      refine lv_iload_n hx hb dX8_deep_15 rfl (lv_at hl 1 rfl) ?_
      refine zc_V (As := [.int p_]) (rest := [.int d]) ⟨hx, hb, hml, hown, hts⟩ (c_F_M_step l D cI cJ cZ cP cS po m0 mrf mki mpa mta mla msl mco mhe mso msi msh mce mca mwo mnu mte mwa mke mma mth mtr (npu) (nte) (nat_) (nde) (nto) (nse) (nhu) (nga) (nsd) (nfa) (nba) (npl) (nen) (nnu) (nwr) (nra) (nik) gki gpa (p_) hy0 hy1 hy2 hy3 hy4 hy5 hy6 hy7 hy8 hy9 hy10 hy11 hy12 hy13 hy14 hy15 hp_gki hp_gpa) (cwV 1 hts gX8_deep_X8_step rfl rfl rfl ⟨rfl, dh_X8_step⟩ ⟨Nat.le_of_ble_eq_true rfl, Nat.le_of_ble_eq_true rfl⟩) hK hN hZ hP (hP.sub [0, 1, 2] rfl) (va_recv (q := (RX8, TX8, 38)) hK hP (ci := 8) (q0 := 0) rfl rfl) rfl hl.1 rfl (Nat.le_of_ble_eq_true rfl) dX8_deep_16 ⟨Nat.le_of_ble_eq_true rfl, Nat.le_of_ble_eq_true rfl⟩ (fun r_25 hr_25 => ?_)
      obtain ⟨g_26, g_27, hsr_25_0⟩ := hr_25
      refine lv_isub hx hb dX8_deep_19 ?_
      refine lv_topi (fun x_28 ex_28 => ?_)
      have qx_28 : x_28.toInt = d.toInt - r_25.toInt := by rw [ex_28]; exact zf_sub rfl rfl (by omega) (by omega)
      refine lv_goto (tgt := 24) hx hb dX8_deep_20 (by decide) ?_
      exact W.iret (v := x_28) hx hb hr (fun t ht hW => ⟨x_28, rfl, ⟨by omega, by omega, (show (is_.toInt ≠ 0 → (x_28 : Int32).toInt = zShl (gki p_.toNatClampNeg).toInt (gpa p_.toNatClampNeg).toInt d.toInt) ∧ (is_.toInt = 0 → (x_28 : Int32).toInt = zDpr (gki p_.toNatClampNeg).toInt (gpa p_.toNatClampNeg).toInt nhu.toInt d.toInt) from by (have zs := hsr_25_0; refine ⟨fun _ => ?_, fun h => by (exfalso; omega)⟩; unfold zShl; rw [← zs]; omega))⟩, ht⟩) (fun q hq => by cases hq) dX8_deep_24
set_option maxHeartbeats 4000000 in
set_option maxRecDepth 100000 in
theorem c_F_M_says (l : Launch) (D : va_G) (cI cJ cZ cP cS : ClassId) (po : zPool) (m0 mrf mki mpa mta mla msl mco mhe mso msi msh mce mca mwo mnu mte mwa mke mma mth mtr : Nat) (npu nte nat_ nde nto nse nhu nga nsd nfa nba npl nen nnu nwr nra nik : Int32) (grf gki gpa gta ghe gsh : Nat → Int32) (s_ k : Int32) (hy0 : 0 ≤ npu.toInt) (hy1 : npu.toInt ≤ 8) (hy2 : 4 ≤ nte.toInt) (hy3 : nte.toInt ≤ 40) (hy4 : 0 ≤ nat_.toInt) (hy5 : nat_.toInt ≤ 40) (hy6 : 0 ≤ nde.toInt) (hy7 : nde.toInt ≤ 24) (hy8 : 0 ≤ nhu.toInt) (hy9 : nhu.toInt ≤ 9) (hy10 : 0 ≤ nra.toInt) (hy11 : nra.toInt ≤ 2000) (hy12 : 0 ≤ nik.toInt) (hy13 : nik.toInt ≤ 1) (hHS : zHS ghe gsh) (hp_gki : zRg gki (0) 6) (hp_gpa : zRg gpa (0) 9) (hp_gta : zRg gta (0) 60) (hp_ghe : zRg ghe (0) 2) (hp_gsh : zRg gsh (-1) 7) (hpz : Nat) : Met l yX8_says wsX8_says ({ frames := 1, cells := 0, slots := 0, locals := 23 }) (va_Pc [.ref m0, .int s_, .int k] (zW D (zKT cI cJ cZ cP cS) po [(zMO m0 npu nte nat_ nde nto nse nhu nga nsd nfa mrf mki mpa mta mla msl mco mhe mso msi msh mce mca mwo mnu mte nba npl nen nnu nwr mwa mke mma mth mtr nra nik), (mrf, .inl (cI, 8, .inl grf)), (mki, .inl (cI, 8, .inl gki)), (mpa, .inl (cI, 8, .inl gpa)), (mta, .inl (cI, 8, .inl gta)), (mhe, .inl (cI, 8, .inl ghe)), (msh, .inl (cI, 8, .inl gsh))] hpz)) (va_Qi (fun (r : Int32) (grf2 : (Nat → Int32)) => (((s_.toInt < 0 ∨ 7 < s_.toInt ∨ k.toInt < 0 ∨ 6 < k.toInt) ∧ r.toInt = -1) ∨ ((0 ≤ s_.toInt ∧ s_.toInt ≤ 7) ∧ (0 ≤ k.toInt ∧ k.toInt ≤ 6) ∧ (((ghe s_.toNatClampNeg).toInt = 1 ∧ r.toInt = -2) ∨ ((ghe s_.toNatClampNeg).toInt = 0 ∧ r.toInt = -3) ∨ ((ghe s_.toNatClampNeg).toInt = 2 ∧ r.toInt = zSy (gki (gsh s_.toNatClampNeg).toNatClampNeg).toInt (gpa (gsh s_.toNatClampNeg).toNatClampNeg).toInt (gta (gsh s_.toNatClampNeg).toNatClampNeg).toInt nhu.toInt k.toInt)))) ∧ (True)) (zB D [(zMO m0 npu nte nat_ nde nto nse nhu nga nsd nfa mrf mki mpa mta mla msl mco mhe mso msi msh mce mca mwo mnu mte nba npl nen nnu nwr mwa mke mma mth mtr nra nik), (mrf, .inl (cI, 8, .inl grf)), (mki, .inl (cI, 8, .inl gki)), (mpa, .inl (cI, 8, .inl gpa)), (mta, .inl (cI, 8, .inl gta)), (mhe, .inl (cI, 8, .inl ghe)), (msh, .inl (cI, 8, .inl gsh))] hpz (fun (grf2 : Nat → Int32) => [(zMO m0 npu nte nat_ nde nto nse nhu nga nsd nfa mrf mki mpa mta mla msl mco mhe mso msi msh mce mca mwo mnu mte nba npl nen nnu nwr mwa mke mma mth mtr nra nik), (mrf, .inl (cI, 8, .inl grf2)), (mki, .inl (cI, 8, .inl gki)), (mpa, .inl (cI, 8, .inl gpa)), (mta, .inl (cI, 8, .inl gta)), (mhe, .inl (cI, 8, .inl ghe)), (msh, .inl (cI, 8, .inl gsh))])) (va_A [(zMO m0 npu nte nat_ nde nto nse nhu nga nsd nfa mrf mki mpa mta mla msl mco mhe mso msi msh mce mca mwo mnu mte nba npl nen nnu nwr mwa mke mma mth mtr nra nik), (mrf, .inl (cI, 8, .inl grf)), (mki, .inl (cI, 8, .inl gki)), (mpa, .inl (cI, 8, .inl gpa)), (mta, .inl (cI, 8, .inl gta)), (mhe, .inl (cI, 8, .inl ghe)), (msh, .inl (cI, 8, .inl gsh))] hpz)) 0 0 (va_A [(zMO m0 npu nte nat_ nde nto nse nhu nga nsd nfa mrf mki mpa mta mla msl mco mhe mso msi msh mce mca mwo mnu mte nba npl nen nnu nwr mwa mke mma mth mtr nra nik), (mrf, .inl (cI, 8, .inl grf)), (mki, .inl (cI, 8, .inl gki)), (mpa, .inl (cI, 8, .inl gpa)), (mta, .inl (cI, 8, .inl gta)), (mhe, .inl (cI, 8, .inl ghe)), (msh, .inl (cI, 8, .inl gsh))] hpz) := by
  refine Met.ofW (cc := cX8_says) (maxL := 6) (ret := (some .int)) (by decide) rfl ?_
  intro p e s m args below meth c s₁ B hml hv
  obtain ⟨rfl, hsz, hP, hK, hD0, hN, hZ⟩ := hv
  have hx := B.exec
  have hb := B.bytes
  have hr := B.returns
  have hts := atoms_spec (ws := wsX8_says) B.pre
  have hown : s.vm.findClass RX8 = some m.cls := findClass_of_methodNamed B.named
  have hlocks := B.notSynchronized
  subst hsz
  have hD := hD0.self (sz := s.heap.size)
  have hA := zA_of hD
  have hl := lv_entry ([.ref m0, .int s_, .int k]) (n := 6) (Nat.le_of_ble_eq_true rfl)
  rw [lg_entry_eq]
  generalize (lg_sl ([.ref m0, .int s_, .int k]) ++ List.replicate (6 - (lg_sl ([.ref m0, .int s_, .int k])).length) Slot.unset).toArray = ls at hl ⊢
  replace hl : lv_has ls 6 [(0, .ref m0), (1, .int s_), (2, .int k)] := hl
  refine zw_begin hP hD (fun H locs hP1 hS => ?_)
  clear hP
  have hP := hP1
  clear hP1
  refine lv_aload_n hx hb dX8_says_0 rfl (lv_at hl 0 rfl) ?_
  refine lv_iload_n hx hb dX8_says_1 rfl (lv_at hl 1 rfl) ?_
  refine zc_V (As := [.int s_]) (rest := []) ⟨hx, hb, hml, hown, hts⟩ (c_M_isShelf l D cI cJ cZ cP cS po m0 mrf mki mpa mta mla msl mco mhe mso msi msh mce mca mwo mnu mte mwa mke mma mth mtr (npu) (nte) (nat_) (nde) (nto) (nse) (nhu) (nga) (nsd) (nfa) (nba) (npl) (nen) (nnu) (nwr) (nra) (nik) (s_) hy0 hy1 hy2 hy3 hy4 hy5 hy6 hy7 hy8 hy9 hy10 hy11 hy12 hy13) (cwV 1 hts gX8_says_X8_isShelf rfl rfl rfl ⟨rfl, dh_X8_isShelf⟩ ⟨Nat.le_of_ble_eq_true rfl, Nat.le_of_ble_eq_true rfl⟩) hK hN (hZ.kept hS) hP (hP.sub [0] rfl) (va_recv (q := (RX8, TX8, 38)) hK hP (ci := 8) (q0 := 0) rfl rfl) rfl hl.1 rfl (Nat.le_of_ble_eq_true rfl) dX8_says_2 ⟨Nat.le_of_ble_eq_true rfl, Nat.le_of_ble_eq_true rfl⟩ (fun r_1 hr_1 => ?_)
  rcases hr_1 with ⟨rfl, g_2⟩ | ⟨rfl, g_3, g_4⟩ | ⟨rfl, g_5, g_6⟩
  · refine lv_if_eq (tgt := 18) hx hb dX8_says_5 (by decide) (fun c_7 => ?_) (fun c_7 => ?_)
    · refine lv_aload_n hx hb dX8_says_18 rfl (lv_at hl 0 rfl) ?_
      refine lv_iconst (v := (-1)) hx hb dX8_says_19 (by decide) ?_
      skip
      refine zw_V (As := [.int (-1)]) (rest := []) (wr := [(mki, .inl (cI, 8, .inl gki)), (mpa, .inl (cI, 8, .inl gpa)), (mta, .inl (cI, 8, .inl gta)), (mhe, .inl (cI, 8, .inl ghe)), (msh, .inl (cI, 8, .inl gsh))]) ⟨hx, hb, hml, hown, hts⟩ (c_M_no_1 l D cI cJ cZ cP cS po m0 mrf mki mpa mta mla msl mco mhe mso msi msh mce mca mwo mnu mte mwa mke mma mth mtr (npu) (nte) (nat_) (nde) (nto) (nse) (nhu) (nga) (nsd) (nfa) (nba) (npl) (nen) (nnu) (nwr) (nra) (nik) grf hy0 hy1 hy2 hy3 hy4 hy5 hy6 hy7 hy8 hy9 hy10 hy11 hy12 hy13 H.size) (cwV 1 hts gX8_says_X8_no rfl rfl rfl ⟨rfl, dh_X8_no⟩ ⟨Nat.le_of_ble_eq_true rfl, Nat.le_of_ble_eq_true rfl⟩) hK hN (hZ.kept hS) hP hD hS hA [0, 1] [2, 3, 4, 5, 6] rfl rfl (by decide) (by decide) (by decide) (va_recv (q := (RX8, TX8, 38)) hK hP (ci := 8) (q0 := 0) rfl rfl) rfl hl.1 rfl (Nat.le_of_ble_eq_true rfl) dX8_says_20 ⟨Nat.le_of_ble_eq_true rfl, Nat.le_of_ble_eq_true rfl⟩ (fun r_8 u_9 H locs hr_8 hP hD hS => ?_)
      obtain ⟨q_10, rfl⟩ : ∃ z, z = u_9 := ⟨_, rfl⟩
      have h9R := zRe (ws' := [(mki, .inl (cI, 8, .inl gki)), (mpa, .inl (cI, 8, .inl gpa)), (mta, .inl (cI, 8, .inl gta)), (mhe, .inl (cI, 8, .inl ghe)), (msh, .inl (cI, 8, .inl gsh)), (zMO m0 npu nte nat_ nde nto nse nhu nga nsd nfa mrf mki mpa mta mla msl mco mhe mso msi msh mce mca mwo mnu mte nba npl nen nnu nwr mwa mke mma mth mtr nra nik), (mrf, .inl (cI, 8, .inl q_10))]) hP hD rfl
      clear hP hD
      obtain ⟨hP, hD⟩ := h9R
      obtain rfl := hr_8
      exact W.iret (v := (-1)) hx hb hr (fun t ht hW => ⟨⟨(-1), q_10, rfl, ⟨(show ((s_.toInt < 0 ∨ 7 < s_.toInt ∨ k.toInt < 0 ∨ 6 < k.toInt) ∧ ((-1) : Int32).toInt = -1) ∨ ((0 ≤ s_.toInt ∧ s_.toInt ≤ 7) ∧ (0 ≤ k.toInt ∧ k.toInt ≤ 6) ∧ (((ghe s_.toNatClampNeg).toInt = 1 ∧ ((-1) : Int32).toInt = -2) ∨ ((ghe s_.toNatClampNeg).toInt = 0 ∧ ((-1) : Int32).toInt = -3) ∨ ((ghe s_.toNatClampNeg).toInt = 2 ∧ ((-1) : Int32).toInt = zSy (gki (gsh s_.toNatClampNeg).toNatClampNeg).toInt (gpa (gsh s_.toNatClampNeg).toNatClampNeg).toInt (gta (gsh s_.toNatClampNeg).toNatClampNeg).toInt nhu.toInt k.toInt))) from by (have k1m : ((-1) : Int32).toInt = -1 := (by decide); omega)), trivial⟩, zRet ht hP hD [5, 6, 0, 1, 2, 3, 4] (by decide) rfl⟩, hS.F ht⟩) hS.2.2 dX8_says_23
    · exact absurd c_7 (by decide)
  · refine lv_if_eq (tgt := 18) hx hb dX8_says_5 (by decide) (fun c_11 => ?_) (fun c_11 => ?_)
    · refine lv_aload_n hx hb dX8_says_18 rfl (lv_at hl 0 rfl) ?_
      refine lv_iconst (v := (-1)) hx hb dX8_says_19 (by decide) ?_
      skip
      refine zw_V (As := [.int (-1)]) (rest := []) (wr := [(mki, .inl (cI, 8, .inl gki)), (mpa, .inl (cI, 8, .inl gpa)), (mta, .inl (cI, 8, .inl gta)), (mhe, .inl (cI, 8, .inl ghe)), (msh, .inl (cI, 8, .inl gsh))]) ⟨hx, hb, hml, hown, hts⟩ (c_M_no_1 l D cI cJ cZ cP cS po m0 mrf mki mpa mta mla msl mco mhe mso msi msh mce mca mwo mnu mte mwa mke mma mth mtr (npu) (nte) (nat_) (nde) (nto) (nse) (nhu) (nga) (nsd) (nfa) (nba) (npl) (nen) (nnu) (nwr) (nra) (nik) grf hy0 hy1 hy2 hy3 hy4 hy5 hy6 hy7 hy8 hy9 hy10 hy11 hy12 hy13 H.size) (cwV 1 hts gX8_says_X8_no rfl rfl rfl ⟨rfl, dh_X8_no⟩ ⟨Nat.le_of_ble_eq_true rfl, Nat.le_of_ble_eq_true rfl⟩) hK hN (hZ.kept hS) hP hD hS hA [0, 1] [2, 3, 4, 5, 6] rfl rfl (by decide) (by decide) (by decide) (va_recv (q := (RX8, TX8, 38)) hK hP (ci := 8) (q0 := 0) rfl rfl) rfl hl.1 rfl (Nat.le_of_ble_eq_true rfl) dX8_says_20 ⟨Nat.le_of_ble_eq_true rfl, Nat.le_of_ble_eq_true rfl⟩ (fun r_12 u_13 H locs hr_12 hP hD hS => ?_)
      obtain ⟨q_14, rfl⟩ : ∃ z, z = u_13 := ⟨_, rfl⟩
      have h9R := zRe (ws' := [(mki, .inl (cI, 8, .inl gki)), (mpa, .inl (cI, 8, .inl gpa)), (mta, .inl (cI, 8, .inl gta)), (mhe, .inl (cI, 8, .inl ghe)), (msh, .inl (cI, 8, .inl gsh)), (zMO m0 npu nte nat_ nde nto nse nhu nga nsd nfa mrf mki mpa mta mla msl mco mhe mso msi msh mce mca mwo mnu mte nba npl nen nnu nwr mwa mke mma mth mtr nra nik), (mrf, .inl (cI, 8, .inl q_14))]) hP hD rfl
      clear hP hD
      obtain ⟨hP, hD⟩ := h9R
      obtain rfl := hr_12
      exact W.iret (v := (-1)) hx hb hr (fun t ht hW => ⟨⟨(-1), q_14, rfl, ⟨(show ((s_.toInt < 0 ∨ 7 < s_.toInt ∨ k.toInt < 0 ∨ 6 < k.toInt) ∧ ((-1) : Int32).toInt = -1) ∨ ((0 ≤ s_.toInt ∧ s_.toInt ≤ 7) ∧ (0 ≤ k.toInt ∧ k.toInt ≤ 6) ∧ (((ghe s_.toNatClampNeg).toInt = 1 ∧ ((-1) : Int32).toInt = -2) ∨ ((ghe s_.toNatClampNeg).toInt = 0 ∧ ((-1) : Int32).toInt = -3) ∨ ((ghe s_.toNatClampNeg).toInt = 2 ∧ ((-1) : Int32).toInt = zSy (gki (gsh s_.toNatClampNeg).toNatClampNeg).toInt (gpa (gsh s_.toNatClampNeg).toNatClampNeg).toInt (gta (gsh s_.toNatClampNeg).toNatClampNeg).toInt nhu.toInt k.toInt))) from by (have k1m : ((-1) : Int32).toInt = -1 := (by decide); omega)), trivial⟩, zRet ht hP hD [5, 6, 0, 1, 2, 3, 4] (by decide) rfl⟩, hS.F ht⟩) hS.2.2 dX8_says_23
    · exact absurd c_11 (by decide)
  · refine lv_if_eq (tgt := 18) hx hb dX8_says_5 (by decide) (fun c_15 => ?_) (fun c_15 => ?_)
    · exact absurd c_15 (by decide)
    · refine lv_iload_n hx hb dX8_says_8 rfl (lv_at hl 2 rfl) ?_
      refine lv_if_lt (tgt := 18) hx hb dX8_says_9 (by decide) (fun c_16 => ?_) (fun c_16 => ?_)
      · have fc_16 : k.toInt < 0 := zf_lt c_16 rfl (by decide)
        refine lv_aload_n hx hb dX8_says_18 rfl (lv_at hl 0 rfl) ?_
        refine lv_iconst (v := (-1)) hx hb dX8_says_19 (by decide) ?_
        skip
        refine zw_V (As := [.int (-1)]) (rest := []) (wr := [(mki, .inl (cI, 8, .inl gki)), (mpa, .inl (cI, 8, .inl gpa)), (mta, .inl (cI, 8, .inl gta)), (mhe, .inl (cI, 8, .inl ghe)), (msh, .inl (cI, 8, .inl gsh))]) ⟨hx, hb, hml, hown, hts⟩ (c_M_no_1 l D cI cJ cZ cP cS po m0 mrf mki mpa mta mla msl mco mhe mso msi msh mce mca mwo mnu mte mwa mke mma mth mtr (npu) (nte) (nat_) (nde) (nto) (nse) (nhu) (nga) (nsd) (nfa) (nba) (npl) (nen) (nnu) (nwr) (nra) (nik) grf hy0 hy1 hy2 hy3 hy4 hy5 hy6 hy7 hy8 hy9 hy10 hy11 hy12 hy13 H.size) (cwV 1 hts gX8_says_X8_no rfl rfl rfl ⟨rfl, dh_X8_no⟩ ⟨Nat.le_of_ble_eq_true rfl, Nat.le_of_ble_eq_true rfl⟩) hK hN (hZ.kept hS) hP hD hS hA [0, 1] [2, 3, 4, 5, 6] rfl rfl (by decide) (by decide) (by decide) (va_recv (q := (RX8, TX8, 38)) hK hP (ci := 8) (q0 := 0) rfl rfl) rfl hl.1 rfl (Nat.le_of_ble_eq_true rfl) dX8_says_20 ⟨Nat.le_of_ble_eq_true rfl, Nat.le_of_ble_eq_true rfl⟩ (fun r_17 u_18 H locs hr_17 hP hD hS => ?_)
        obtain ⟨q_19, rfl⟩ : ∃ z, z = u_18 := ⟨_, rfl⟩
        have h9R := zRe (ws' := [(mki, .inl (cI, 8, .inl gki)), (mpa, .inl (cI, 8, .inl gpa)), (mta, .inl (cI, 8, .inl gta)), (mhe, .inl (cI, 8, .inl ghe)), (msh, .inl (cI, 8, .inl gsh)), (zMO m0 npu nte nat_ nde nto nse nhu nga nsd nfa mrf mki mpa mta mla msl mco mhe mso msi msh mce mca mwo mnu mte nba npl nen nnu nwr mwa mke mma mth mtr nra nik), (mrf, .inl (cI, 8, .inl q_19))]) hP hD rfl
        clear hP hD
        obtain ⟨hP, hD⟩ := h9R
        obtain rfl := hr_17
        exact W.iret (v := (-1)) hx hb hr (fun t ht hW => ⟨⟨(-1), q_19, rfl, ⟨(show ((s_.toInt < 0 ∨ 7 < s_.toInt ∨ k.toInt < 0 ∨ 6 < k.toInt) ∧ ((-1) : Int32).toInt = -1) ∨ ((0 ≤ s_.toInt ∧ s_.toInt ≤ 7) ∧ (0 ≤ k.toInt ∧ k.toInt ≤ 6) ∧ (((ghe s_.toNatClampNeg).toInt = 1 ∧ ((-1) : Int32).toInt = -2) ∨ ((ghe s_.toNatClampNeg).toInt = 0 ∧ ((-1) : Int32).toInt = -3) ∨ ((ghe s_.toNatClampNeg).toInt = 2 ∧ ((-1) : Int32).toInt = zSy (gki (gsh s_.toNatClampNeg).toNatClampNeg).toInt (gpa (gsh s_.toNatClampNeg).toNatClampNeg).toInt (gta (gsh s_.toNatClampNeg).toNatClampNeg).toInt nhu.toInt k.toInt))) from by (have k1m : ((-1) : Int32).toInt = -1 := (by decide); omega)), trivial⟩, zRet ht hP hD [5, 6, 0, 1, 2, 3, 4] (by decide) rfl⟩, hS.F ht⟩) hS.2.2 dX8_says_23
      · have fc_16 : 0 ≤ k.toInt := zf_nlt c_16 rfl (by decide)
        refine lv_iload_n hx hb dX8_says_12 rfl (lv_at hl 2 rfl) ?_
        refine lv_bipush (v := 6) hx hb dX8_says_13 (by decide) ?_
        refine lv_icmp_le (tgt := 24) hx hb dX8_says_15 (by decide) (fun c_20 => ?_) (fun c_20 => ?_)
        · have fc_20 : k.toInt ≤ 6 := zf_le c_20 rfl (by decide)
          refine lv_aload_n hx hb dX8_says_24 rfl (lv_at hl 0 rfl) ?_
          refine va_get (D := D) (ci := 8) (v := .ref mhe) (C := RX8) (T := TX8) (N := 38) hx hb hts hi_X8_says_8 hown hK hP 0 rfl rfl 17 (by decide) (hts (.fieldLink RX8 47 "TheLiningsInItModel" "held" "[I") (List.mem_of_getElem? (i := 1) rfl)) (fun _ h9 => h9) rfl dX8_says_25 ?_
          refine lv_iload_n hx hb dX8_says_28 rfl (lv_at hl 1 rfl) ?_
          refine va_iald hx hb hK hP 5 0 rfl rfl (zf_in (by omega) (by omega)) dX8_says_29 ?_
          refine lv_topi (fun x_21 ex_21 => ?_)
          have bx_21 : 0 ≤ x_21.toInt ∧ x_21.toInt ≤ 2 := by rw [ex_21]; exact hp_ghe _
          refine lv_iconst (v := 1) hx hb dX8_says_30 (by decide) ?_
          refine lv_icmp_ne (tgt := 41) hx hb dX8_says_31 (by decide) (fun c_22 => ?_) (fun c_22 => ?_)
          · have fc_22 : x_21.toInt ≠ 1 := zf_ne c_22 rfl (by decide)
            refine lv_aload_n hx hb dX8_says_41 rfl (lv_at hl 0 rfl) ?_
            refine va_get (D := D) (ci := 8) (v := .ref mhe) (C := RX8) (T := TX8) (N := 38) hx hb hts hi_X8_says_8 hown hK hP 0 rfl rfl 17 (by decide) (hts (.fieldLink RX8 47 "TheLiningsInItModel" "held" "[I") (List.mem_of_getElem? (i := 1) rfl)) (fun _ h9 => h9) rfl dX8_says_42 ?_
            refine lv_iload_n hx hb dX8_says_45 rfl (lv_at hl 1 rfl) ?_
            refine va_iald hx hb hK hP 5 0 rfl rfl (zf_in (by omega) (by omega)) dX8_says_46 ?_
            refine lv_topi (fun y_23 ey_23 => ?_)
            obtain rfl : x_21 = y_23 := ex_21.trans ey_23.symm
            refine lv_if_ne (tgt := 57) hx hb dX8_says_47 (by decide) (fun c_24 => ?_) (fun c_24 => ?_)
            · have fc_24 : x_21.toInt ≠ 0 := zf_ne c_24 rfl (by decide)
              refine lv_aload_n hx hb dX8_says_57 rfl (lv_at hl 0 rfl) ?_
              refine va_get (D := D) (ci := 8) (v := .ref msh) (C := RX8) (T := TX8) (N := 38) hx hb hts hi_X8_says_8 hown hK hP 0 rfl rfl 20 (by decide) (hts (.fieldLink RX8 56 "TheLiningsInItModel" "shown" "[I") (List.mem_of_getElem? (i := 2) rfl)) (fun _ h9 => h9) rfl dX8_says_58 ?_
              refine lv_iload_n hx hb dX8_says_61 rfl (lv_at hl 1 rfl) ?_
              refine va_iald hx hb hK hP 6 0 rfl rfl (zf_in (by omega) (by omega)) dX8_says_62 ?_
              refine lv_topi (fun x_25 ex_25 => ?_)
              have bx_25 : -1 ≤ x_25.toInt ∧ x_25.toInt ≤ 7 := by rw [ex_25]; exact hp_gsh _
              have hs9 : 0 ≤ x_25.toInt ∧ x_25.toInt ≤ 7 := by rw [ex_25]; exact hHS s_.toNatClampNeg (by rw [← ex_21]; omega)
              refine lv_istore_n (lv' := [(3, .int x_25), (0, .ref m0), (1, .int s_), (2, .int k)]) hx hb dX8_says_63 rfl hl (by decide) rfl (fun ls hl => ?_)
              refine lv_aload_n hx hb dX8_says_64 rfl (lv_at hl 1 rfl) ?_
              refine va_get (D := D) (ci := 8) (v := .ref mki) (C := RX8) (T := TX8) (N := 38) hx hb hts hi_X8_says_8 hown hK hP 0 rfl rfl 11 (by decide) (hts (.fieldLink RX8 29 "TheLiningsInItModel" "kind" "[I") (List.mem_of_getElem? (i := 3) rfl)) (fun _ h9 => h9) rfl dX8_says_65 ?_
              refine lv_iload_n hx hb dX8_says_68 rfl (lv_at hl 0 rfl) ?_
              refine va_iald hx hb hK hP 2 0 rfl rfl (zf_in (by omega) (by omega)) dX8_says_69 ?_
              refine lv_topi (fun x_26 ex_26 => ?_)
              have bx_26 : 0 ≤ x_26.toInt ∧ x_26.toInt ≤ 6 := by rw [ex_26]; exact hp_gki _
              refine lv_istore (lv' := [(4, .int x_26), (3, .int x_25), (0, .ref m0), (1, .int s_), (2, .int k)]) hx hb dX8_says_70 hl (by decide) rfl (fun ls hl => ?_)
              refine lv_iload_n hx hb dX8_says_72 rfl (lv_at hl 4 rfl) ?_
              refine lv_iconst (v := 1) hx hb dX8_says_73 (by decide) ?_
              refine lv_icmp_ne (tgt := 83) hx hb dX8_says_74 (by decide) (fun c_27 => ?_) (fun c_27 => ?_)
              · have fc_27 : k.toInt ≠ 1 := zf_ne c_27 rfl (by decide)
                refine lv_iload_n hx hb dX8_says_83 rfl (lv_at hl 4 rfl) ?_
                refine lv_iconst (v := 2) hx hb dX8_says_84 (by decide) ?_
                refine lv_icmp_ne (tgt := 94) hx hb dX8_says_85 (by decide) (fun c_28 => ?_) (fun c_28 => ?_)
                · have fc_28 : k.toInt ≠ 2 := zf_ne c_28 rfl (by decide)
                  refine lv_iload_n hx hb dX8_says_94 rfl (lv_at hl 4 rfl) ?_
                  refine lv_iconst (v := 4) hx hb dX8_says_95 (by decide) ?_
                  refine lv_icmp_ne (tgt := 110) hx hb dX8_says_96 (by decide) (fun c_29 => ?_) (fun c_29 => ?_)
                  · have fc_29 : k.toInt ≠ 4 := zf_ne c_29 rfl (by decide)
                    refine lv_iconst (v := 0) hx hb dX8_says_110 (by decide) ?_
                    refine lv_istore (lv' := [(5, .int 0), (4, .int x_26), (3, .int x_25), (0, .ref m0), (1, .int s_), (2, .int k)]) hx hb dX8_says_111 hl (by decide) rfl (fun ls hl => ?_)
                    refine lv_iload_n hx hb dX8_says_113 rfl (lv_at hl 5 rfl) ?_
                    refine lv_if_eq (tgt := 135) hx hb dX8_says_114 (by decide) (fun c_30 => ?_) (fun c_30 => ?_)
                    · have fc_30 : k.toInt = 0 := zf_eq c_30 rfl (by decide)
                      refine lv_iload_n hx hb dX8_says_135 rfl (lv_at hl 5 rfl) ?_
                      have hsp : k = 0 := by
                        rcases (show k.toInt = 0 by omega) with h9
                        · refine ?_; exact zf_val h9 (by decide)
                      rcases hsp with rfl
                      · have kc0 : (0 : Int32).toInt = 0 := by decide
                        refine lv_tableIn (tgt := 176) hx hb dX8_says_136 (by decide) (by decide) rfl (by decide) ?_
                        refine lv_aload_n hx hb dX8_says_176 rfl (lv_at hl 3 rfl) ?_
                        refine va_get (D := D) (ci := 8) (v := .ref mta) (C := RX8) (T := TX8) (N := 38) hx hb hts hi_X8_says_8 hown hK hP 0 rfl rfl 13 (by decide) (hts (.fieldLink RX8 35 "TheLiningsInItModel" "takes" "[I") (List.mem_of_getElem? (i := 4) rfl)) (fun _ h9 => h9) rfl dX8_says_177 ?_
                        refine lv_iload_n hx hb dX8_says_180 rfl (lv_at hl 2 rfl) ?_
                        refine va_iald hx hb hK hP 4 0 rfl rfl (zf_in (by omega) (by omega)) dX8_says_181 ?_
                        refine lv_topi (fun x_31 ex_31 => ?_)
                        have bx_31 : 0 ≤ x_31.toInt ∧ x_31.toInt ≤ 60 := by rw [ex_31]; exact hp_gta _
                        exact W.iret (v := x_31) hx hb hr (fun t ht hW => ⟨⟨x_31, grf, rfl, ⟨(show ((s_.toInt < 0 ∨ 7 < s_.toInt ∨ (0 : Int32).toInt < 0 ∨ 6 < (0 : Int32).toInt) ∧ (x_31 : Int32).toInt = -1) ∨ ((0 ≤ s_.toInt ∧ s_.toInt ≤ 7) ∧ (0 ≤ (0 : Int32).toInt ∧ (0 : Int32).toInt ≤ 6) ∧ (((ghe s_.toNatClampNeg).toInt = 1 ∧ (x_31 : Int32).toInt = -2) ∨ ((ghe s_.toNatClampNeg).toInt = 0 ∧ (x_31 : Int32).toInt = -3) ∨ ((ghe s_.toNatClampNeg).toInt = 2 ∧ (x_31 : Int32).toInt = zSy (gki (gsh s_.toNatClampNeg).toNatClampNeg).toInt (gpa (gsh s_.toNatClampNeg).toNatClampNeg).toInt (gta (gsh s_.toNatClampNeg).toNatClampNeg).toInt nhu.toInt (0 : Int32).toInt))) from by ((try rw [← ex_21]); (try rw [← ex_25]); (try rw [← ex_26]); (try rw [← ex_31]); have k0 : (0 : Int32).toInt = 0 := (by decide); refine Or.inr ⟨by omega, by omega, Or.inr (Or.inr ⟨by omega, ?_⟩)⟩; rw [zSy_yes (by unfold zIsOf; omega)]; (repeat (first | rw [if_pos (by omega)] | rw [if_neg (by omega)])); first | done | rfl | omega)), trivial⟩, zRet ht hP hD [0, 1, 2, 3, 4, 5, 6] (by decide) rfl⟩, hS.F ht⟩) hS.2.2 dX8_says_182
                    · have fc_30 : k.toInt ≠ 0 := zf_ne c_30 rfl (by decide)
                      refine lv_iload_n hx hb dX8_says_117 rfl (lv_at hl 5 rfl) ?_
                      refine lv_iload hx hb dX8_says_118 (lv_at hl 1 rfl) ?_
                      refine lv_icmp_eq (tgt := 135) hx hb dX8_says_120 (by decide) (fun c_32 => ?_) (fun c_32 => ?_)
                      · have fc_32 : k.toInt = x_26.toInt := zf_eq c_32 rfl rfl
                        refine lv_iload_n hx hb dX8_says_135 rfl (lv_at hl 5 rfl) ?_
                        have hsp : k = 1 ∨ k = 2 ∨ k = 3 ∨ k = 4 ∨ k = 5 ∨ k = 6 := by
                          rcases (show k.toInt = 1 ∨ k.toInt = 2 ∨ k.toInt = 3 ∨ k.toInt = 4 ∨ k.toInt = 5 ∨ k.toInt = 6 by omega) with h9 | h9 | h9 | h9 | h9 | h9
                          · refine Or.inl ?_; exact zf_val h9 (by decide)
                          · refine Or.inr (Or.inl ?_); exact zf_val h9 (by decide)
                          · refine Or.inr (Or.inr (Or.inl ?_)); exact zf_val h9 (by decide)
                          · refine Or.inr (Or.inr (Or.inr (Or.inl ?_))); exact zf_val h9 (by decide)
                          · refine Or.inr (Or.inr (Or.inr (Or.inr (Or.inl ?_)))); exact zf_val h9 (by decide)
                          · refine Or.inr (Or.inr (Or.inr (Or.inr (Or.inr (?_))))); exact zf_val h9 (by decide)
                        rcases hsp with rfl | rfl | rfl | rfl | rfl | rfl
                        · have kc1 : (1 : Int32).toInt = 1 := by decide
                          refine lv_tableIn (tgt := 197) hx hb dX8_says_136 (by decide) (by decide) rfl (by decide) ?_
                          refine lv_aload_n hx hb dX8_says_197 rfl (lv_at hl 3 rfl) ?_
                          refine lv_iload_n hx hb dX8_says_198 rfl (lv_at hl 2 rfl) ?_
                          refine lv_bipush (v := 8) hx hb dX8_says_199 (by decide) ?_
                          have kc8 : (8 : Int32).toInt = 8 := by decide
                          refine zc_V (As := [.int x_25, .int 8]) (rest := []) ⟨hx, hb, hml, hown, hts⟩ (c_F_M_ways l D cI cJ cZ cP cS po m0 mrf mki mpa mta mla msl mco mhe mso msi msh mce mca mwo mnu mte mwa mke mma mth mtr (npu) (nte) (nat_) (nde) (nto) (nse) (nhu) (nga) (nsd) (nfa) (nba) (npl) (nen) (nnu) (nwr) (nra) (nik) gki gpa (x_25) (8) hy0 hy1 hy2 hy3 hy4 hy5 hy6 hy7 hy8 hy9 hy10 hy11 hy12 hy13 (by omega) (by omega) (by omega) (by omega) hp_gki hp_gpa) (cwV 2 hts gX8_says_X8_ways rfl rfl rfl ⟨rfl, dh_X8_ways⟩ ⟨Nat.le_of_ble_eq_true rfl, Nat.le_of_ble_eq_true rfl⟩) hK hN (hZ.kept hS) hP (hP.sub [0, 2, 3] rfl) (va_recv (q := (RX8, TX8, 38)) hK hP (ci := 8) (q0 := 0) rfl rfl) rfl hl.1 rfl (Nat.le_of_ble_eq_true rfl) dX8_says_201 ⟨Nat.le_of_ble_eq_true rfl, Nat.le_of_ble_eq_true rfl⟩ (fun r_33 hr_33 => ?_)
                          obtain ⟨g_34, g_35, hsr_33_0⟩ := hr_33
                          exact W.iret (v := r_33) hx hb hr (fun t ht hW => ⟨⟨r_33, grf, rfl, ⟨(show ((s_.toInt < 0 ∨ 7 < s_.toInt ∨ (1 : Int32).toInt < 0 ∨ 6 < (1 : Int32).toInt) ∧ (r_33 : Int32).toInt = -1) ∨ ((0 ≤ s_.toInt ∧ s_.toInt ≤ 7) ∧ (0 ≤ (1 : Int32).toInt ∧ (1 : Int32).toInt ≤ 6) ∧ (((ghe s_.toNatClampNeg).toInt = 1 ∧ (r_33 : Int32).toInt = -2) ∨ ((ghe s_.toNatClampNeg).toInt = 0 ∧ (r_33 : Int32).toInt = -3) ∨ ((ghe s_.toNatClampNeg).toInt = 2 ∧ (r_33 : Int32).toInt = zSy (gki (gsh s_.toNatClampNeg).toNatClampNeg).toInt (gpa (gsh s_.toNatClampNeg).toNatClampNeg).toInt (gta (gsh s_.toNatClampNeg).toNatClampNeg).toInt nhu.toInt (1 : Int32).toInt))) from by ((try rw [← ex_21]); (try rw [← ex_25]); (try rw [← ex_26]); have k1 : (1 : Int32).toInt = 1 := (by decide); refine Or.inr ⟨by omega, by omega, Or.inr (Or.inr ⟨by omega, ?_⟩)⟩; rw [zSy_yes (by unfold zIsOf; omega)]; (repeat (first | rw [if_pos (by omega)] | rw [if_neg (by omega)])); first | done | omega | (have z := hsr_33_0; (try rw [← ex_21] at z); (try rw [← ex_25] at z); (try rw [← ex_26] at z); exact z) | exact hsr_33_0)), trivial⟩, zRet ht hP hD [0, 1, 2, 3, 4, 5, 6] (by decide) rfl⟩, hS.F ht⟩) hS.2.2 dX8_says_204
                        · have kc2 : (2 : Int32).toInt = 2 := by decide
                          refine lv_tableIn (tgt := 183) hx hb dX8_says_136 (by decide) (by decide) rfl (by decide) ?_
                          refine lv_aload_n hx hb dX8_says_183 rfl (lv_at hl 3 rfl) ?_
                          refine lv_iload_n hx hb dX8_says_184 rfl (lv_at hl 2 rfl) ?_
                          refine zc_V (As := [.int x_25]) (rest := []) ⟨hx, hb, hml, hown, hts⟩ (c_F_M_step l D cI cJ cZ cP cS po m0 mrf mki mpa mta mla msl mco mhe mso msi msh mce mca mwo mnu mte mwa mke mma mth mtr (npu) (nte) (nat_) (nde) (nto) (nse) (nhu) (nga) (nsd) (nfa) (nba) (npl) (nen) (nnu) (nwr) (nra) (nik) gki gpa (x_25) hy0 hy1 hy2 hy3 hy4 hy5 hy6 hy7 hy8 hy9 hy10 hy11 hy12 hy13 (by omega) (by omega) hp_gki hp_gpa) (cwV 1 hts gX8_says_X8_step rfl rfl rfl ⟨rfl, dh_X8_step⟩ ⟨Nat.le_of_ble_eq_true rfl, Nat.le_of_ble_eq_true rfl⟩) hK hN (hZ.kept hS) hP (hP.sub [0, 2, 3] rfl) (va_recv (q := (RX8, TX8, 38)) hK hP (ci := 8) (q0 := 0) rfl rfl) rfl hl.1 rfl (Nat.le_of_ble_eq_true rfl) dX8_says_185 ⟨Nat.le_of_ble_eq_true rfl, Nat.le_of_ble_eq_true rfl⟩ (fun r_36 hr_36 => ?_)
                          obtain ⟨g_37, g_38, hsr_36_0⟩ := hr_36
                          exact W.iret (v := r_36) hx hb hr (fun t ht hW => ⟨⟨r_36, grf, rfl, ⟨(show ((s_.toInt < 0 ∨ 7 < s_.toInt ∨ (2 : Int32).toInt < 0 ∨ 6 < (2 : Int32).toInt) ∧ (r_36 : Int32).toInt = -1) ∨ ((0 ≤ s_.toInt ∧ s_.toInt ≤ 7) ∧ (0 ≤ (2 : Int32).toInt ∧ (2 : Int32).toInt ≤ 6) ∧ (((ghe s_.toNatClampNeg).toInt = 1 ∧ (r_36 : Int32).toInt = -2) ∨ ((ghe s_.toNatClampNeg).toInt = 0 ∧ (r_36 : Int32).toInt = -3) ∨ ((ghe s_.toNatClampNeg).toInt = 2 ∧ (r_36 : Int32).toInt = zSy (gki (gsh s_.toNatClampNeg).toNatClampNeg).toInt (gpa (gsh s_.toNatClampNeg).toNatClampNeg).toInt (gta (gsh s_.toNatClampNeg).toNatClampNeg).toInt nhu.toInt (2 : Int32).toInt))) from by ((try rw [← ex_21]); (try rw [← ex_25]); (try rw [← ex_26]); have k2 : (2 : Int32).toInt = 2 := (by decide); refine Or.inr ⟨by omega, by omega, Or.inr (Or.inr ⟨by omega, ?_⟩)⟩; rw [zSy_yes (by unfold zIsOf; omega)]; (repeat (first | rw [if_pos (by omega)] | rw [if_neg (by omega)])); first | done | omega | (have z := hsr_36_0; (try rw [← ex_21] at z); (try rw [← ex_25] at z); (try rw [← ex_26] at z); exact z) | exact hsr_36_0)), trivial⟩, zRet ht hP hD [0, 1, 2, 3, 4, 5, 6] (by decide) rfl⟩, hS.F ht⟩) hS.2.2 dX8_says_188
                        · have kc3 : (3 : Int32).toInt = 3 := by decide
                          refine lv_tableIn (tgt := 197) hx hb dX8_says_136 (by decide) (by decide) rfl (by decide) ?_
                          refine lv_aload_n hx hb dX8_says_197 rfl (lv_at hl 3 rfl) ?_
                          refine lv_iload_n hx hb dX8_says_198 rfl (lv_at hl 2 rfl) ?_
                          refine lv_bipush (v := 8) hx hb dX8_says_199 (by decide) ?_
                          have kc8 : (8 : Int32).toInt = 8 := by decide
                          refine zc_V (As := [.int x_25, .int 8]) (rest := []) ⟨hx, hb, hml, hown, hts⟩ (c_F_M_ways l D cI cJ cZ cP cS po m0 mrf mki mpa mta mla msl mco mhe mso msi msh mce mca mwo mnu mte mwa mke mma mth mtr (npu) (nte) (nat_) (nde) (nto) (nse) (nhu) (nga) (nsd) (nfa) (nba) (npl) (nen) (nnu) (nwr) (nra) (nik) gki gpa (x_25) (8) hy0 hy1 hy2 hy3 hy4 hy5 hy6 hy7 hy8 hy9 hy10 hy11 hy12 hy13 (by omega) (by omega) (by omega) (by omega) hp_gki hp_gpa) (cwV 2 hts gX8_says_X8_ways rfl rfl rfl ⟨rfl, dh_X8_ways⟩ ⟨Nat.le_of_ble_eq_true rfl, Nat.le_of_ble_eq_true rfl⟩) hK hN (hZ.kept hS) hP (hP.sub [0, 2, 3] rfl) (va_recv (q := (RX8, TX8, 38)) hK hP (ci := 8) (q0 := 0) rfl rfl) rfl hl.1 rfl (Nat.le_of_ble_eq_true rfl) dX8_says_201 ⟨Nat.le_of_ble_eq_true rfl, Nat.le_of_ble_eq_true rfl⟩ (fun r_39 hr_39 => ?_)
                          obtain ⟨g_40, g_41, hsr_39_0⟩ := hr_39
                          exact W.iret (v := r_39) hx hb hr (fun t ht hW => ⟨⟨r_39, grf, rfl, ⟨(show ((s_.toInt < 0 ∨ 7 < s_.toInt ∨ (3 : Int32).toInt < 0 ∨ 6 < (3 : Int32).toInt) ∧ (r_39 : Int32).toInt = -1) ∨ ((0 ≤ s_.toInt ∧ s_.toInt ≤ 7) ∧ (0 ≤ (3 : Int32).toInt ∧ (3 : Int32).toInt ≤ 6) ∧ (((ghe s_.toNatClampNeg).toInt = 1 ∧ (r_39 : Int32).toInt = -2) ∨ ((ghe s_.toNatClampNeg).toInt = 0 ∧ (r_39 : Int32).toInt = -3) ∨ ((ghe s_.toNatClampNeg).toInt = 2 ∧ (r_39 : Int32).toInt = zSy (gki (gsh s_.toNatClampNeg).toNatClampNeg).toInt (gpa (gsh s_.toNatClampNeg).toNatClampNeg).toInt (gta (gsh s_.toNatClampNeg).toNatClampNeg).toInt nhu.toInt (3 : Int32).toInt))) from by ((try rw [← ex_21]); (try rw [← ex_25]); (try rw [← ex_26]); have k3 : (3 : Int32).toInt = 3 := (by decide); refine Or.inr ⟨by omega, by omega, Or.inr (Or.inr ⟨by omega, ?_⟩)⟩; rw [zSy_yes (by unfold zIsOf; omega)]; (repeat (first | rw [if_pos (by omega)] | rw [if_neg (by omega)])); first | done | omega | (have z := hsr_39_0; (try rw [← ex_21] at z); (try rw [← ex_25] at z); (try rw [← ex_26] at z); exact z) | exact hsr_39_0)), trivial⟩, zRet ht hP hD [0, 1, 2, 3, 4, 5, 6] (by decide) rfl⟩, hS.F ht⟩) hS.2.2 dX8_says_204
                        · have kc4 : (4 : Int32).toInt = 4 := by decide
                          refine lv_tableIn (tgt := 189) hx hb dX8_says_136 (by decide) (by decide) rfl (by decide) ?_
                          refine lv_aload_n hx hb dX8_says_189 rfl (lv_at hl 3 rfl) ?_
                          refine lv_iload_n hx hb dX8_says_190 rfl (lv_at hl 2 rfl) ?_
                          refine lv_bipush (v := 12) hx hb dX8_says_191 (by decide) ?_
                          have kc12 : (12 : Int32).toInt = 12 := by decide
                          refine zc_V (As := [.int x_25, .int 12]) (rest := []) ⟨hx, hb, hml, hown, hts⟩ (c_F_M_ways l D cI cJ cZ cP cS po m0 mrf mki mpa mta mla msl mco mhe mso msi msh mce mca mwo mnu mte mwa mke mma mth mtr (npu) (nte) (nat_) (nde) (nto) (nse) (nhu) (nga) (nsd) (nfa) (nba) (npl) (nen) (nnu) (nwr) (nra) (nik) gki gpa (x_25) (12) hy0 hy1 hy2 hy3 hy4 hy5 hy6 hy7 hy8 hy9 hy10 hy11 hy12 hy13 (by omega) (by omega) (by omega) (by omega) hp_gki hp_gpa) (cwV 2 hts gX8_says_X8_ways rfl rfl rfl ⟨rfl, dh_X8_ways⟩ ⟨Nat.le_of_ble_eq_true rfl, Nat.le_of_ble_eq_true rfl⟩) hK hN (hZ.kept hS) hP (hP.sub [0, 2, 3] rfl) (va_recv (q := (RX8, TX8, 38)) hK hP (ci := 8) (q0 := 0) rfl rfl) rfl hl.1 rfl (Nat.le_of_ble_eq_true rfl) dX8_says_193 ⟨Nat.le_of_ble_eq_true rfl, Nat.le_of_ble_eq_true rfl⟩ (fun r_42 hr_42 => ?_)
                          obtain ⟨g_43, g_44, hsr_42_0⟩ := hr_42
                          exact W.iret (v := r_42) hx hb hr (fun t ht hW => ⟨⟨r_42, grf, rfl, ⟨(show ((s_.toInt < 0 ∨ 7 < s_.toInt ∨ (4 : Int32).toInt < 0 ∨ 6 < (4 : Int32).toInt) ∧ (r_42 : Int32).toInt = -1) ∨ ((0 ≤ s_.toInt ∧ s_.toInt ≤ 7) ∧ (0 ≤ (4 : Int32).toInt ∧ (4 : Int32).toInt ≤ 6) ∧ (((ghe s_.toNatClampNeg).toInt = 1 ∧ (r_42 : Int32).toInt = -2) ∨ ((ghe s_.toNatClampNeg).toInt = 0 ∧ (r_42 : Int32).toInt = -3) ∨ ((ghe s_.toNatClampNeg).toInt = 2 ∧ (r_42 : Int32).toInt = zSy (gki (gsh s_.toNatClampNeg).toNatClampNeg).toInt (gpa (gsh s_.toNatClampNeg).toNatClampNeg).toInt (gta (gsh s_.toNatClampNeg).toNatClampNeg).toInt nhu.toInt (4 : Int32).toInt))) from by ((try rw [← ex_21]); (try rw [← ex_25]); (try rw [← ex_26]); have k4 : (4 : Int32).toInt = 4 := (by decide); refine Or.inr ⟨by omega, by omega, Or.inr (Or.inr ⟨by omega, ?_⟩)⟩; rw [zSy_yes (by unfold zIsOf; omega)]; (repeat (first | rw [if_pos (by omega)] | rw [if_neg (by omega)])); first | done | omega | (have z := hsr_42_0; (try rw [← ex_21] at z); (try rw [← ex_25] at z); (try rw [← ex_26] at z); exact z) | exact hsr_42_0)), trivial⟩, zRet ht hP hD [0, 1, 2, 3, 4, 5, 6] (by decide) rfl⟩, hS.F ht⟩) hS.2.2 dX8_says_196
                        · have kc5 : (5 : Int32).toInt = 5 := by decide
                          refine lv_tableIn (tgt := 183) hx hb dX8_says_136 (by decide) (by decide) rfl (by decide) ?_
                          refine lv_aload_n hx hb dX8_says_183 rfl (lv_at hl 3 rfl) ?_
                          refine lv_iload_n hx hb dX8_says_184 rfl (lv_at hl 2 rfl) ?_
                          refine zc_V (As := [.int x_25]) (rest := []) ⟨hx, hb, hml, hown, hts⟩ (c_F_M_step l D cI cJ cZ cP cS po m0 mrf mki mpa mta mla msl mco mhe mso msi msh mce mca mwo mnu mte mwa mke mma mth mtr (npu) (nte) (nat_) (nde) (nto) (nse) (nhu) (nga) (nsd) (nfa) (nba) (npl) (nen) (nnu) (nwr) (nra) (nik) gki gpa (x_25) hy0 hy1 hy2 hy3 hy4 hy5 hy6 hy7 hy8 hy9 hy10 hy11 hy12 hy13 (by omega) (by omega) hp_gki hp_gpa) (cwV 1 hts gX8_says_X8_step rfl rfl rfl ⟨rfl, dh_X8_step⟩ ⟨Nat.le_of_ble_eq_true rfl, Nat.le_of_ble_eq_true rfl⟩) hK hN (hZ.kept hS) hP (hP.sub [0, 2, 3] rfl) (va_recv (q := (RX8, TX8, 38)) hK hP (ci := 8) (q0 := 0) rfl rfl) rfl hl.1 rfl (Nat.le_of_ble_eq_true rfl) dX8_says_185 ⟨Nat.le_of_ble_eq_true rfl, Nat.le_of_ble_eq_true rfl⟩ (fun r_45 hr_45 => ?_)
                          obtain ⟨g_46, g_47, hsr_45_0⟩ := hr_45
                          exact W.iret (v := r_45) hx hb hr (fun t ht hW => ⟨⟨r_45, grf, rfl, ⟨(show ((s_.toInt < 0 ∨ 7 < s_.toInt ∨ (5 : Int32).toInt < 0 ∨ 6 < (5 : Int32).toInt) ∧ (r_45 : Int32).toInt = -1) ∨ ((0 ≤ s_.toInt ∧ s_.toInt ≤ 7) ∧ (0 ≤ (5 : Int32).toInt ∧ (5 : Int32).toInt ≤ 6) ∧ (((ghe s_.toNatClampNeg).toInt = 1 ∧ (r_45 : Int32).toInt = -2) ∨ ((ghe s_.toNatClampNeg).toInt = 0 ∧ (r_45 : Int32).toInt = -3) ∨ ((ghe s_.toNatClampNeg).toInt = 2 ∧ (r_45 : Int32).toInt = zSy (gki (gsh s_.toNatClampNeg).toNatClampNeg).toInt (gpa (gsh s_.toNatClampNeg).toNatClampNeg).toInt (gta (gsh s_.toNatClampNeg).toNatClampNeg).toInt nhu.toInt (5 : Int32).toInt))) from by ((try rw [← ex_21]); (try rw [← ex_25]); (try rw [← ex_26]); have k5 : (5 : Int32).toInt = 5 := (by decide); refine Or.inr ⟨by omega, by omega, Or.inr (Or.inr ⟨by omega, ?_⟩)⟩; rw [zSy_yes (by unfold zIsOf; omega)]; (repeat (first | rw [if_pos (by omega)] | rw [if_neg (by omega)])); first | done | omega | (have z := hsr_45_0; (try rw [← ex_21] at z); (try rw [← ex_25] at z); (try rw [← ex_26] at z); exact z) | exact hsr_45_0)), trivial⟩, zRet ht hP hD [0, 1, 2, 3, 4, 5, 6] (by decide) rfl⟩, hS.F ht⟩) hS.2.2 dX8_says_188
                        · have kc6 : (6 : Int32).toInt = 6 := by decide
                          refine lv_tableOut (tgt := 197) hx hb dX8_says_136 (by decide) (by decide) ?_
                          refine lv_aload_n hx hb dX8_says_197 rfl (lv_at hl 3 rfl) ?_
                          refine lv_iload_n hx hb dX8_says_198 rfl (lv_at hl 2 rfl) ?_
                          refine lv_bipush (v := 8) hx hb dX8_says_199 (by decide) ?_
                          have kc8 : (8 : Int32).toInt = 8 := by decide
                          refine zc_V (As := [.int x_25, .int 8]) (rest := []) ⟨hx, hb, hml, hown, hts⟩ (c_F_M_ways l D cI cJ cZ cP cS po m0 mrf mki mpa mta mla msl mco mhe mso msi msh mce mca mwo mnu mte mwa mke mma mth mtr (npu) (nte) (nat_) (nde) (nto) (nse) (nhu) (nga) (nsd) (nfa) (nba) (npl) (nen) (nnu) (nwr) (nra) (nik) gki gpa (x_25) (8) hy0 hy1 hy2 hy3 hy4 hy5 hy6 hy7 hy8 hy9 hy10 hy11 hy12 hy13 (by omega) (by omega) (by omega) (by omega) hp_gki hp_gpa) (cwV 2 hts gX8_says_X8_ways rfl rfl rfl ⟨rfl, dh_X8_ways⟩ ⟨Nat.le_of_ble_eq_true rfl, Nat.le_of_ble_eq_true rfl⟩) hK hN (hZ.kept hS) hP (hP.sub [0, 2, 3] rfl) (va_recv (q := (RX8, TX8, 38)) hK hP (ci := 8) (q0 := 0) rfl rfl) rfl hl.1 rfl (Nat.le_of_ble_eq_true rfl) dX8_says_201 ⟨Nat.le_of_ble_eq_true rfl, Nat.le_of_ble_eq_true rfl⟩ (fun r_48 hr_48 => ?_)
                          obtain ⟨g_49, g_50, hsr_48_0⟩ := hr_48
                          exact W.iret (v := r_48) hx hb hr (fun t ht hW => ⟨⟨r_48, grf, rfl, ⟨(show ((s_.toInt < 0 ∨ 7 < s_.toInt ∨ (6 : Int32).toInt < 0 ∨ 6 < (6 : Int32).toInt) ∧ (r_48 : Int32).toInt = -1) ∨ ((0 ≤ s_.toInt ∧ s_.toInt ≤ 7) ∧ (0 ≤ (6 : Int32).toInt ∧ (6 : Int32).toInt ≤ 6) ∧ (((ghe s_.toNatClampNeg).toInt = 1 ∧ (r_48 : Int32).toInt = -2) ∨ ((ghe s_.toNatClampNeg).toInt = 0 ∧ (r_48 : Int32).toInt = -3) ∨ ((ghe s_.toNatClampNeg).toInt = 2 ∧ (r_48 : Int32).toInt = zSy (gki (gsh s_.toNatClampNeg).toNatClampNeg).toInt (gpa (gsh s_.toNatClampNeg).toNatClampNeg).toInt (gta (gsh s_.toNatClampNeg).toNatClampNeg).toInt nhu.toInt (6 : Int32).toInt))) from by ((try rw [← ex_21]); (try rw [← ex_25]); (try rw [← ex_26]); have k6 : (6 : Int32).toInt = 6 := (by decide); refine Or.inr ⟨by omega, by omega, Or.inr (Or.inr ⟨by omega, ?_⟩)⟩; rw [zSy_yes (by unfold zIsOf; omega)]; (repeat (first | rw [if_pos (by omega)] | rw [if_neg (by omega)])); first | done | omega | (have z := hsr_48_0; (try rw [← ex_21] at z); (try rw [← ex_25] at z); (try rw [← ex_26] at z); exact z) | exact hsr_48_0)), trivial⟩, zRet ht hP hD [0, 1, 2, 3, 4, 5, 6] (by decide) rfl⟩, hS.F ht⟩) hS.2.2 dX8_says_204
                      · have fc_32 : k.toInt ≠ x_26.toInt := zf_ne c_32 rfl rfl
                        refine lv_iload hx hb dX8_says_123 (lv_at hl 0 rfl) ?_
                        refine lv_if_ne (tgt := 135) hx hb dX8_says_125 (by decide) (fun c_51 => ?_) (fun c_51 => ?_)
                        · exact absurd c_51 (by decide)
                        · refine lv_aload_n hx hb dX8_says_128 rfl (lv_at hl 3 rfl) ?_
                          refine lv_bipush (v := (-2)) hx hb dX8_says_129 (by decide) ?_
                          skip
                          refine zw_V (As := [.int (-2)]) (rest := []) (wr := [(mki, .inl (cI, 8, .inl gki)), (mpa, .inl (cI, 8, .inl gpa)), (mta, .inl (cI, 8, .inl gta)), (mhe, .inl (cI, 8, .inl ghe)), (msh, .inl (cI, 8, .inl gsh))]) ⟨hx, hb, hml, hown, hts⟩ (c_M_no_2 l D cI cJ cZ cP cS po m0 mrf mki mpa mta mla msl mco mhe mso msi msh mce mca mwo mnu mte mwa mke mma mth mtr (npu) (nte) (nat_) (nde) (nto) (nse) (nhu) (nga) (nsd) (nfa) (nba) (npl) (nen) (nnu) (nwr) (nra) (nik) grf hy0 hy1 hy2 hy3 hy4 hy5 hy6 hy7 hy8 hy9 hy10 hy11 hy12 hy13 H.size) (cwV 1 hts gX8_says_X8_no rfl rfl rfl ⟨rfl, dh_X8_no⟩ ⟨Nat.le_of_ble_eq_true rfl, Nat.le_of_ble_eq_true rfl⟩) hK hN (hZ.kept hS) hP hD hS hA [0, 1] [2, 3, 4, 5, 6] rfl rfl (by decide) (by decide) (by decide) (va_recv (q := (RX8, TX8, 38)) hK hP (ci := 8) (q0 := 0) rfl rfl) rfl hl.1 rfl (Nat.le_of_ble_eq_true rfl) dX8_says_131 ⟨Nat.le_of_ble_eq_true rfl, Nat.le_of_ble_eq_true rfl⟩ (fun r_52 u_53 H locs hr_52 hP hD hS => ?_)
                          obtain ⟨q_54, rfl⟩ : ∃ z, z = u_53 := ⟨_, rfl⟩
                          have h9R := zRe (ws' := [(mki, .inl (cI, 8, .inl gki)), (mpa, .inl (cI, 8, .inl gpa)), (mta, .inl (cI, 8, .inl gta)), (mhe, .inl (cI, 8, .inl ghe)), (msh, .inl (cI, 8, .inl gsh)), (zMO m0 npu nte nat_ nde nto nse nhu nga nsd nfa mrf mki mpa mta mla msl mco mhe mso msi msh mce mca mwo mnu mte nba npl nen nnu nwr mwa mke mma mth mtr nra nik), (mrf, .inl (cI, 8, .inl q_54))]) hP hD rfl
                          clear hP hD
                          obtain ⟨hP, hD⟩ := h9R
                          obtain rfl := hr_52
                          exact W.iret (v := (-2)) hx hb hr (fun t ht hW => ⟨⟨(-2), q_54, rfl, ⟨(show ((s_.toInt < 0 ∨ 7 < s_.toInt ∨ k.toInt < 0 ∨ 6 < k.toInt) ∧ ((-2) : Int32).toInt = -1) ∨ ((0 ≤ s_.toInt ∧ s_.toInt ≤ 7) ∧ (0 ≤ k.toInt ∧ k.toInt ≤ 6) ∧ (((ghe s_.toNatClampNeg).toInt = 1 ∧ ((-2) : Int32).toInt = -2) ∨ ((ghe s_.toNatClampNeg).toInt = 0 ∧ ((-2) : Int32).toInt = -3) ∨ ((ghe s_.toNatClampNeg).toInt = 2 ∧ ((-2) : Int32).toInt = zSy (gki (gsh s_.toNatClampNeg).toNatClampNeg).toInt (gpa (gsh s_.toNatClampNeg).toNatClampNeg).toInt (gta (gsh s_.toNatClampNeg).toNatClampNeg).toInt nhu.toInt k.toInt))) from by ((try rw [← ex_21]); (try rw [← ex_25]); (try rw [← ex_26]); have k2m : ((-2) : Int32).toInt = -2 := (by decide); refine Or.inr ⟨by omega, by omega, Or.inr (Or.inr ⟨by omega, ?_⟩)⟩; rw [zSy_no (by unfold zIsOf; omega)]; omega)), trivial⟩, zRet ht hP hD [5, 6, 0, 1, 2, 3, 4] (by decide) rfl⟩, hS.F ht⟩) hS.2.2 dX8_says_134
                  · have fc_29 : k.toInt = 4 := zf_eq c_29 rfl (by decide)
                    refine lv_iload hx hb dX8_says_99 (lv_at hl 0 rfl) ?_
                    refine lv_bipush (v := 6) hx hb dX8_says_101 (by decide) ?_
                    refine lv_icmp_ne (tgt := 110) hx hb dX8_says_103 (by decide) (fun c_55 => ?_) (fun c_55 => ?_)
                    · have fc_55 : x_26.toInt ≠ 6 := zf_ne c_55 rfl (by decide)
                      refine lv_iconst (v := 0) hx hb dX8_says_110 (by decide) ?_
                      refine lv_istore (lv' := [(5, .int 0), (4, .int x_26), (3, .int x_25), (0, .ref m0), (1, .int s_), (2, .int k)]) hx hb dX8_says_111 hl (by decide) rfl (fun ls hl => ?_)
                      refine lv_iload_n hx hb dX8_says_113 rfl (lv_at hl 5 rfl) ?_
                      refine lv_if_eq (tgt := 135) hx hb dX8_says_114 (by decide) (fun c_56 => ?_) (fun c_56 => ?_)
                      · exfalso; have fc_56 : k.toInt = 0 := zf_eq c_56 rfl (by decide); omega
                      · have fc_56 : k.toInt ≠ 0 := zf_ne c_56 rfl (by decide)
                        refine lv_iload_n hx hb dX8_says_117 rfl (lv_at hl 5 rfl) ?_
                        refine lv_iload hx hb dX8_says_118 (lv_at hl 1 rfl) ?_
                        refine lv_icmp_eq (tgt := 135) hx hb dX8_says_120 (by decide) (fun c_57 => ?_) (fun c_57 => ?_)
                        · have fc_57 : k.toInt = x_26.toInt := zf_eq c_57 rfl rfl
                          refine lv_iload_n hx hb dX8_says_135 rfl (lv_at hl 5 rfl) ?_
                          have hsp : k = 4 := by
                            rcases (show k.toInt = 4 by omega) with h9
                            · refine ?_; exact zf_val h9 (by decide)
                          rcases hsp with rfl
                          · have kc4 : (4 : Int32).toInt = 4 := by decide
                            refine lv_tableIn (tgt := 189) hx hb dX8_says_136 (by decide) (by decide) rfl (by decide) ?_
                            refine lv_aload_n hx hb dX8_says_189 rfl (lv_at hl 3 rfl) ?_
                            refine lv_iload_n hx hb dX8_says_190 rfl (lv_at hl 2 rfl) ?_
                            refine lv_bipush (v := 12) hx hb dX8_says_191 (by decide) ?_
                            have kc12 : (12 : Int32).toInt = 12 := by decide
                            refine zc_V (As := [.int x_25, .int 12]) (rest := []) ⟨hx, hb, hml, hown, hts⟩ (c_F_M_ways l D cI cJ cZ cP cS po m0 mrf mki mpa mta mla msl mco mhe mso msi msh mce mca mwo mnu mte mwa mke mma mth mtr (npu) (nte) (nat_) (nde) (nto) (nse) (nhu) (nga) (nsd) (nfa) (nba) (npl) (nen) (nnu) (nwr) (nra) (nik) gki gpa (x_25) (12) hy0 hy1 hy2 hy3 hy4 hy5 hy6 hy7 hy8 hy9 hy10 hy11 hy12 hy13 (by omega) (by omega) (by omega) (by omega) hp_gki hp_gpa) (cwV 2 hts gX8_says_X8_ways rfl rfl rfl ⟨rfl, dh_X8_ways⟩ ⟨Nat.le_of_ble_eq_true rfl, Nat.le_of_ble_eq_true rfl⟩) hK hN (hZ.kept hS) hP (hP.sub [0, 2, 3] rfl) (va_recv (q := (RX8, TX8, 38)) hK hP (ci := 8) (q0 := 0) rfl rfl) rfl hl.1 rfl (Nat.le_of_ble_eq_true rfl) dX8_says_193 ⟨Nat.le_of_ble_eq_true rfl, Nat.le_of_ble_eq_true rfl⟩ (fun r_58 hr_58 => ?_)
                            obtain ⟨g_59, g_60, hsr_58_0⟩ := hr_58
                            exact W.iret (v := r_58) hx hb hr (fun t ht hW => ⟨⟨r_58, grf, rfl, ⟨(show ((s_.toInt < 0 ∨ 7 < s_.toInt ∨ (4 : Int32).toInt < 0 ∨ 6 < (4 : Int32).toInt) ∧ (r_58 : Int32).toInt = -1) ∨ ((0 ≤ s_.toInt ∧ s_.toInt ≤ 7) ∧ (0 ≤ (4 : Int32).toInt ∧ (4 : Int32).toInt ≤ 6) ∧ (((ghe s_.toNatClampNeg).toInt = 1 ∧ (r_58 : Int32).toInt = -2) ∨ ((ghe s_.toNatClampNeg).toInt = 0 ∧ (r_58 : Int32).toInt = -3) ∨ ((ghe s_.toNatClampNeg).toInt = 2 ∧ (r_58 : Int32).toInt = zSy (gki (gsh s_.toNatClampNeg).toNatClampNeg).toInt (gpa (gsh s_.toNatClampNeg).toNatClampNeg).toInt (gta (gsh s_.toNatClampNeg).toNatClampNeg).toInt nhu.toInt (4 : Int32).toInt))) from by ((try rw [← ex_21]); (try rw [← ex_25]); (try rw [← ex_26]); have k4 : (4 : Int32).toInt = 4 := (by decide); refine Or.inr ⟨by omega, by omega, Or.inr (Or.inr ⟨by omega, ?_⟩)⟩; rw [zSy_yes (by unfold zIsOf; omega)]; (repeat (first | rw [if_pos (by omega)] | rw [if_neg (by omega)])); first | done | omega | (have z := hsr_58_0; (try rw [← ex_21] at z); (try rw [← ex_25] at z); (try rw [← ex_26] at z); exact z) | exact hsr_58_0)), trivial⟩, zRet ht hP hD [0, 1, 2, 3, 4, 5, 6] (by decide) rfl⟩, hS.F ht⟩) hS.2.2 dX8_says_196
                        · have fc_57 : k.toInt ≠ x_26.toInt := zf_ne c_57 rfl rfl
                          refine lv_iload hx hb dX8_says_123 (lv_at hl 0 rfl) ?_
                          refine lv_if_ne (tgt := 135) hx hb dX8_says_125 (by decide) (fun c_61 => ?_) (fun c_61 => ?_)
                          · exact absurd c_61 (by decide)
                          · refine lv_aload_n hx hb dX8_says_128 rfl (lv_at hl 3 rfl) ?_
                            refine lv_bipush (v := (-2)) hx hb dX8_says_129 (by decide) ?_
                            skip
                            refine zw_V (As := [.int (-2)]) (rest := []) (wr := [(mki, .inl (cI, 8, .inl gki)), (mpa, .inl (cI, 8, .inl gpa)), (mta, .inl (cI, 8, .inl gta)), (mhe, .inl (cI, 8, .inl ghe)), (msh, .inl (cI, 8, .inl gsh))]) ⟨hx, hb, hml, hown, hts⟩ (c_M_no_2 l D cI cJ cZ cP cS po m0 mrf mki mpa mta mla msl mco mhe mso msi msh mce mca mwo mnu mte mwa mke mma mth mtr (npu) (nte) (nat_) (nde) (nto) (nse) (nhu) (nga) (nsd) (nfa) (nba) (npl) (nen) (nnu) (nwr) (nra) (nik) grf hy0 hy1 hy2 hy3 hy4 hy5 hy6 hy7 hy8 hy9 hy10 hy11 hy12 hy13 H.size) (cwV 1 hts gX8_says_X8_no rfl rfl rfl ⟨rfl, dh_X8_no⟩ ⟨Nat.le_of_ble_eq_true rfl, Nat.le_of_ble_eq_true rfl⟩) hK hN (hZ.kept hS) hP hD hS hA [0, 1] [2, 3, 4, 5, 6] rfl rfl (by decide) (by decide) (by decide) (va_recv (q := (RX8, TX8, 38)) hK hP (ci := 8) (q0 := 0) rfl rfl) rfl hl.1 rfl (Nat.le_of_ble_eq_true rfl) dX8_says_131 ⟨Nat.le_of_ble_eq_true rfl, Nat.le_of_ble_eq_true rfl⟩ (fun r_62 u_63 H locs hr_62 hP hD hS => ?_)
                            obtain ⟨q_64, rfl⟩ : ∃ z, z = u_63 := ⟨_, rfl⟩
                            have h9R := zRe (ws' := [(mki, .inl (cI, 8, .inl gki)), (mpa, .inl (cI, 8, .inl gpa)), (mta, .inl (cI, 8, .inl gta)), (mhe, .inl (cI, 8, .inl ghe)), (msh, .inl (cI, 8, .inl gsh)), (zMO m0 npu nte nat_ nde nto nse nhu nga nsd nfa mrf mki mpa mta mla msl mco mhe mso msi msh mce mca mwo mnu mte nba npl nen nnu nwr mwa mke mma mth mtr nra nik), (mrf, .inl (cI, 8, .inl q_64))]) hP hD rfl
                            clear hP hD
                            obtain ⟨hP, hD⟩ := h9R
                            obtain rfl := hr_62
                            exact W.iret (v := (-2)) hx hb hr (fun t ht hW => ⟨⟨(-2), q_64, rfl, ⟨(show ((s_.toInt < 0 ∨ 7 < s_.toInt ∨ k.toInt < 0 ∨ 6 < k.toInt) ∧ ((-2) : Int32).toInt = -1) ∨ ((0 ≤ s_.toInt ∧ s_.toInt ≤ 7) ∧ (0 ≤ k.toInt ∧ k.toInt ≤ 6) ∧ (((ghe s_.toNatClampNeg).toInt = 1 ∧ ((-2) : Int32).toInt = -2) ∨ ((ghe s_.toNatClampNeg).toInt = 0 ∧ ((-2) : Int32).toInt = -3) ∨ ((ghe s_.toNatClampNeg).toInt = 2 ∧ ((-2) : Int32).toInt = zSy (gki (gsh s_.toNatClampNeg).toNatClampNeg).toInt (gpa (gsh s_.toNatClampNeg).toNatClampNeg).toInt (gta (gsh s_.toNatClampNeg).toNatClampNeg).toInt nhu.toInt k.toInt))) from by ((try rw [← ex_21]); (try rw [← ex_25]); (try rw [← ex_26]); have k2m : ((-2) : Int32).toInt = -2 := (by decide); refine Or.inr ⟨by omega, by omega, Or.inr (Or.inr ⟨by omega, ?_⟩)⟩; rw [zSy_no (by unfold zIsOf; omega)]; omega)), trivial⟩, zRet ht hP hD [5, 6, 0, 1, 2, 3, 4] (by decide) rfl⟩, hS.F ht⟩) hS.2.2 dX8_says_134
                    · have fc_55 : x_26.toInt = 6 := zf_eq c_55 rfl (by decide)
                      refine lv_iconst (v := 1) hx hb dX8_says_106 (by decide) ?_
                      refine lv_goto (tgt := 111) hx hb dX8_says_107 (by decide) ?_
                      refine lv_istore (lv' := [(5, .int 1), (4, .int x_26), (3, .int x_25), (0, .ref m0), (1, .int s_), (2, .int k)]) hx hb dX8_says_111 hl (by decide) rfl (fun ls hl => ?_)
                      refine lv_iload_n hx hb dX8_says_113 rfl (lv_at hl 5 rfl) ?_
                      refine lv_if_eq (tgt := 135) hx hb dX8_says_114 (by decide) (fun c_65 => ?_) (fun c_65 => ?_)
                      · exfalso; have fc_65 : k.toInt = 0 := zf_eq c_65 rfl (by decide); omega
                      · have fc_65 : k.toInt ≠ 0 := zf_ne c_65 rfl (by decide)
                        refine lv_iload_n hx hb dX8_says_117 rfl (lv_at hl 5 rfl) ?_
                        refine lv_iload hx hb dX8_says_118 (lv_at hl 1 rfl) ?_
                        refine lv_icmp_eq (tgt := 135) hx hb dX8_says_120 (by decide) (fun c_66 => ?_) (fun c_66 => ?_)
                        · exfalso; have fc_66 : k.toInt = x_26.toInt := zf_eq c_66 rfl rfl; omega
                        · have fc_66 : k.toInt ≠ x_26.toInt := zf_ne c_66 rfl rfl
                          refine lv_iload hx hb dX8_says_123 (lv_at hl 0 rfl) ?_
                          refine lv_if_ne (tgt := 135) hx hb dX8_says_125 (by decide) (fun c_67 => ?_) (fun c_67 => ?_)
                          · refine lv_iload_n hx hb dX8_says_135 rfl (lv_at hl 5 rfl) ?_
                            have hsp : k = 4 := by
                              rcases (show k.toInt = 4 by omega) with h9
                              · refine ?_; exact zf_val h9 (by decide)
                            rcases hsp with rfl
                            · have kc4 : (4 : Int32).toInt = 4 := by decide
                              refine lv_tableIn (tgt := 189) hx hb dX8_says_136 (by decide) (by decide) rfl (by decide) ?_
                              refine lv_aload_n hx hb dX8_says_189 rfl (lv_at hl 3 rfl) ?_
                              refine lv_iload_n hx hb dX8_says_190 rfl (lv_at hl 2 rfl) ?_
                              refine lv_bipush (v := 12) hx hb dX8_says_191 (by decide) ?_
                              have kc12 : (12 : Int32).toInt = 12 := by decide
                              refine zc_V (As := [.int x_25, .int 12]) (rest := []) ⟨hx, hb, hml, hown, hts⟩ (c_F_M_ways l D cI cJ cZ cP cS po m0 mrf mki mpa mta mla msl mco mhe mso msi msh mce mca mwo mnu mte mwa mke mma mth mtr (npu) (nte) (nat_) (nde) (nto) (nse) (nhu) (nga) (nsd) (nfa) (nba) (npl) (nen) (nnu) (nwr) (nra) (nik) gki gpa (x_25) (12) hy0 hy1 hy2 hy3 hy4 hy5 hy6 hy7 hy8 hy9 hy10 hy11 hy12 hy13 (by omega) (by omega) (by omega) (by omega) hp_gki hp_gpa) (cwV 2 hts gX8_says_X8_ways rfl rfl rfl ⟨rfl, dh_X8_ways⟩ ⟨Nat.le_of_ble_eq_true rfl, Nat.le_of_ble_eq_true rfl⟩) hK hN (hZ.kept hS) hP (hP.sub [0, 2, 3] rfl) (va_recv (q := (RX8, TX8, 38)) hK hP (ci := 8) (q0 := 0) rfl rfl) rfl hl.1 rfl (Nat.le_of_ble_eq_true rfl) dX8_says_193 ⟨Nat.le_of_ble_eq_true rfl, Nat.le_of_ble_eq_true rfl⟩ (fun r_68 hr_68 => ?_)
                              obtain ⟨g_69, g_70, hsr_68_0⟩ := hr_68
                              exact W.iret (v := r_68) hx hb hr (fun t ht hW => ⟨⟨r_68, grf, rfl, ⟨(show ((s_.toInt < 0 ∨ 7 < s_.toInt ∨ (4 : Int32).toInt < 0 ∨ 6 < (4 : Int32).toInt) ∧ (r_68 : Int32).toInt = -1) ∨ ((0 ≤ s_.toInt ∧ s_.toInt ≤ 7) ∧ (0 ≤ (4 : Int32).toInt ∧ (4 : Int32).toInt ≤ 6) ∧ (((ghe s_.toNatClampNeg).toInt = 1 ∧ (r_68 : Int32).toInt = -2) ∨ ((ghe s_.toNatClampNeg).toInt = 0 ∧ (r_68 : Int32).toInt = -3) ∨ ((ghe s_.toNatClampNeg).toInt = 2 ∧ (r_68 : Int32).toInt = zSy (gki (gsh s_.toNatClampNeg).toNatClampNeg).toInt (gpa (gsh s_.toNatClampNeg).toNatClampNeg).toInt (gta (gsh s_.toNatClampNeg).toNatClampNeg).toInt nhu.toInt (4 : Int32).toInt))) from by ((try rw [← ex_21]); (try rw [← ex_25]); (try rw [← ex_26]); have k4 : (4 : Int32).toInt = 4 := (by decide); refine Or.inr ⟨by omega, by omega, Or.inr (Or.inr ⟨by omega, ?_⟩)⟩; rw [zSy_yes (by unfold zIsOf; omega)]; (repeat (first | rw [if_pos (by omega)] | rw [if_neg (by omega)])); first | done | omega | (have z := hsr_68_0; (try rw [← ex_21] at z); (try rw [← ex_25] at z); (try rw [← ex_26] at z); exact z) | exact hsr_68_0)), trivial⟩, zRet ht hP hD [0, 1, 2, 3, 4, 5, 6] (by decide) rfl⟩, hS.F ht⟩) hS.2.2 dX8_says_196
                          · exact absurd c_67 (by decide)
                · have fc_28 : k.toInt = 2 := zf_eq c_28 rfl (by decide)
                  refine lv_iload hx hb dX8_says_88 (lv_at hl 0 rfl) ?_
                  refine lv_iconst (v := 5) hx hb dX8_says_90 (by decide) ?_
                  refine lv_icmp_eq (tgt := 106) hx hb dX8_says_91 (by decide) (fun c_71 => ?_) (fun c_71 => ?_)
                  · have fc_71 : x_26.toInt = 5 := zf_eq c_71 rfl (by decide)
                    refine lv_iconst (v := 1) hx hb dX8_says_106 (by decide) ?_
                    refine lv_goto (tgt := 111) hx hb dX8_says_107 (by decide) ?_
                    refine lv_istore (lv' := [(5, .int 1), (4, .int x_26), (3, .int x_25), (0, .ref m0), (1, .int s_), (2, .int k)]) hx hb dX8_says_111 hl (by decide) rfl (fun ls hl => ?_)
                    refine lv_iload_n hx hb dX8_says_113 rfl (lv_at hl 5 rfl) ?_
                    refine lv_if_eq (tgt := 135) hx hb dX8_says_114 (by decide) (fun c_72 => ?_) (fun c_72 => ?_)
                    · exfalso; have fc_72 : k.toInt = 0 := zf_eq c_72 rfl (by decide); omega
                    · have fc_72 : k.toInt ≠ 0 := zf_ne c_72 rfl (by decide)
                      refine lv_iload_n hx hb dX8_says_117 rfl (lv_at hl 5 rfl) ?_
                      refine lv_iload hx hb dX8_says_118 (lv_at hl 1 rfl) ?_
                      refine lv_icmp_eq (tgt := 135) hx hb dX8_says_120 (by decide) (fun c_73 => ?_) (fun c_73 => ?_)
                      · exfalso; have fc_73 : k.toInt = x_26.toInt := zf_eq c_73 rfl rfl; omega
                      · have fc_73 : k.toInt ≠ x_26.toInt := zf_ne c_73 rfl rfl
                        refine lv_iload hx hb dX8_says_123 (lv_at hl 0 rfl) ?_
                        refine lv_if_ne (tgt := 135) hx hb dX8_says_125 (by decide) (fun c_74 => ?_) (fun c_74 => ?_)
                        · refine lv_iload_n hx hb dX8_says_135 rfl (lv_at hl 5 rfl) ?_
                          have hsp : k = 2 := by
                            rcases (show k.toInt = 2 by omega) with h9
                            · refine ?_; exact zf_val h9 (by decide)
                          rcases hsp with rfl
                          · have kc2 : (2 : Int32).toInt = 2 := by decide
                            refine lv_tableIn (tgt := 183) hx hb dX8_says_136 (by decide) (by decide) rfl (by decide) ?_
                            refine lv_aload_n hx hb dX8_says_183 rfl (lv_at hl 3 rfl) ?_
                            refine lv_iload_n hx hb dX8_says_184 rfl (lv_at hl 2 rfl) ?_
                            refine zc_V (As := [.int x_25]) (rest := []) ⟨hx, hb, hml, hown, hts⟩ (c_F_M_step l D cI cJ cZ cP cS po m0 mrf mki mpa mta mla msl mco mhe mso msi msh mce mca mwo mnu mte mwa mke mma mth mtr (npu) (nte) (nat_) (nde) (nto) (nse) (nhu) (nga) (nsd) (nfa) (nba) (npl) (nen) (nnu) (nwr) (nra) (nik) gki gpa (x_25) hy0 hy1 hy2 hy3 hy4 hy5 hy6 hy7 hy8 hy9 hy10 hy11 hy12 hy13 (by omega) (by omega) hp_gki hp_gpa) (cwV 1 hts gX8_says_X8_step rfl rfl rfl ⟨rfl, dh_X8_step⟩ ⟨Nat.le_of_ble_eq_true rfl, Nat.le_of_ble_eq_true rfl⟩) hK hN (hZ.kept hS) hP (hP.sub [0, 2, 3] rfl) (va_recv (q := (RX8, TX8, 38)) hK hP (ci := 8) (q0 := 0) rfl rfl) rfl hl.1 rfl (Nat.le_of_ble_eq_true rfl) dX8_says_185 ⟨Nat.le_of_ble_eq_true rfl, Nat.le_of_ble_eq_true rfl⟩ (fun r_75 hr_75 => ?_)
                            obtain ⟨g_76, g_77, hsr_75_0⟩ := hr_75
                            exact W.iret (v := r_75) hx hb hr (fun t ht hW => ⟨⟨r_75, grf, rfl, ⟨(show ((s_.toInt < 0 ∨ 7 < s_.toInt ∨ (2 : Int32).toInt < 0 ∨ 6 < (2 : Int32).toInt) ∧ (r_75 : Int32).toInt = -1) ∨ ((0 ≤ s_.toInt ∧ s_.toInt ≤ 7) ∧ (0 ≤ (2 : Int32).toInt ∧ (2 : Int32).toInt ≤ 6) ∧ (((ghe s_.toNatClampNeg).toInt = 1 ∧ (r_75 : Int32).toInt = -2) ∨ ((ghe s_.toNatClampNeg).toInt = 0 ∧ (r_75 : Int32).toInt = -3) ∨ ((ghe s_.toNatClampNeg).toInt = 2 ∧ (r_75 : Int32).toInt = zSy (gki (gsh s_.toNatClampNeg).toNatClampNeg).toInt (gpa (gsh s_.toNatClampNeg).toNatClampNeg).toInt (gta (gsh s_.toNatClampNeg).toNatClampNeg).toInt nhu.toInt (2 : Int32).toInt))) from by ((try rw [← ex_21]); (try rw [← ex_25]); (try rw [← ex_26]); have k2 : (2 : Int32).toInt = 2 := (by decide); refine Or.inr ⟨by omega, by omega, Or.inr (Or.inr ⟨by omega, ?_⟩)⟩; rw [zSy_yes (by unfold zIsOf; omega)]; (repeat (first | rw [if_pos (by omega)] | rw [if_neg (by omega)])); first | done | omega | (have z := hsr_75_0; (try rw [← ex_21] at z); (try rw [← ex_25] at z); (try rw [← ex_26] at z); exact z) | exact hsr_75_0)), trivial⟩, zRet ht hP hD [0, 1, 2, 3, 4, 5, 6] (by decide) rfl⟩, hS.F ht⟩) hS.2.2 dX8_says_188
                        · exact absurd c_74 (by decide)
                  · have fc_71 : x_26.toInt ≠ 5 := zf_ne c_71 rfl (by decide)
                    refine lv_iload_n hx hb dX8_says_94 rfl (lv_at hl 4 rfl) ?_
                    refine lv_iconst (v := 4) hx hb dX8_says_95 (by decide) ?_
                    refine lv_icmp_ne (tgt := 110) hx hb dX8_says_96 (by decide) (fun c_78 => ?_) (fun c_78 => ?_)
                    · have fc_78 : k.toInt ≠ 4 := zf_ne c_78 rfl (by decide)
                      refine lv_iconst (v := 0) hx hb dX8_says_110 (by decide) ?_
                      refine lv_istore (lv' := [(5, .int 0), (4, .int x_26), (3, .int x_25), (0, .ref m0), (1, .int s_), (2, .int k)]) hx hb dX8_says_111 hl (by decide) rfl (fun ls hl => ?_)
                      refine lv_iload_n hx hb dX8_says_113 rfl (lv_at hl 5 rfl) ?_
                      refine lv_if_eq (tgt := 135) hx hb dX8_says_114 (by decide) (fun c_79 => ?_) (fun c_79 => ?_)
                      · exfalso; have fc_79 : k.toInt = 0 := zf_eq c_79 rfl (by decide); omega
                      · have fc_79 : k.toInt ≠ 0 := zf_ne c_79 rfl (by decide)
                        refine lv_iload_n hx hb dX8_says_117 rfl (lv_at hl 5 rfl) ?_
                        refine lv_iload hx hb dX8_says_118 (lv_at hl 1 rfl) ?_
                        refine lv_icmp_eq (tgt := 135) hx hb dX8_says_120 (by decide) (fun c_80 => ?_) (fun c_80 => ?_)
                        · have fc_80 : k.toInt = x_26.toInt := zf_eq c_80 rfl rfl
                          refine lv_iload_n hx hb dX8_says_135 rfl (lv_at hl 5 rfl) ?_
                          have hsp : k = 2 := by
                            rcases (show k.toInt = 2 by omega) with h9
                            · refine ?_; exact zf_val h9 (by decide)
                          rcases hsp with rfl
                          · have kc2 : (2 : Int32).toInt = 2 := by decide
                            refine lv_tableIn (tgt := 183) hx hb dX8_says_136 (by decide) (by decide) rfl (by decide) ?_
                            refine lv_aload_n hx hb dX8_says_183 rfl (lv_at hl 3 rfl) ?_
                            refine lv_iload_n hx hb dX8_says_184 rfl (lv_at hl 2 rfl) ?_
                            refine zc_V (As := [.int x_25]) (rest := []) ⟨hx, hb, hml, hown, hts⟩ (c_F_M_step l D cI cJ cZ cP cS po m0 mrf mki mpa mta mla msl mco mhe mso msi msh mce mca mwo mnu mte mwa mke mma mth mtr (npu) (nte) (nat_) (nde) (nto) (nse) (nhu) (nga) (nsd) (nfa) (nba) (npl) (nen) (nnu) (nwr) (nra) (nik) gki gpa (x_25) hy0 hy1 hy2 hy3 hy4 hy5 hy6 hy7 hy8 hy9 hy10 hy11 hy12 hy13 (by omega) (by omega) hp_gki hp_gpa) (cwV 1 hts gX8_says_X8_step rfl rfl rfl ⟨rfl, dh_X8_step⟩ ⟨Nat.le_of_ble_eq_true rfl, Nat.le_of_ble_eq_true rfl⟩) hK hN (hZ.kept hS) hP (hP.sub [0, 2, 3] rfl) (va_recv (q := (RX8, TX8, 38)) hK hP (ci := 8) (q0 := 0) rfl rfl) rfl hl.1 rfl (Nat.le_of_ble_eq_true rfl) dX8_says_185 ⟨Nat.le_of_ble_eq_true rfl, Nat.le_of_ble_eq_true rfl⟩ (fun r_81 hr_81 => ?_)
                            obtain ⟨g_82, g_83, hsr_81_0⟩ := hr_81
                            exact W.iret (v := r_81) hx hb hr (fun t ht hW => ⟨⟨r_81, grf, rfl, ⟨(show ((s_.toInt < 0 ∨ 7 < s_.toInt ∨ (2 : Int32).toInt < 0 ∨ 6 < (2 : Int32).toInt) ∧ (r_81 : Int32).toInt = -1) ∨ ((0 ≤ s_.toInt ∧ s_.toInt ≤ 7) ∧ (0 ≤ (2 : Int32).toInt ∧ (2 : Int32).toInt ≤ 6) ∧ (((ghe s_.toNatClampNeg).toInt = 1 ∧ (r_81 : Int32).toInt = -2) ∨ ((ghe s_.toNatClampNeg).toInt = 0 ∧ (r_81 : Int32).toInt = -3) ∨ ((ghe s_.toNatClampNeg).toInt = 2 ∧ (r_81 : Int32).toInt = zSy (gki (gsh s_.toNatClampNeg).toNatClampNeg).toInt (gpa (gsh s_.toNatClampNeg).toNatClampNeg).toInt (gta (gsh s_.toNatClampNeg).toNatClampNeg).toInt nhu.toInt (2 : Int32).toInt))) from by ((try rw [← ex_21]); (try rw [← ex_25]); (try rw [← ex_26]); have k2 : (2 : Int32).toInt = 2 := (by decide); refine Or.inr ⟨by omega, by omega, Or.inr (Or.inr ⟨by omega, ?_⟩)⟩; rw [zSy_yes (by unfold zIsOf; omega)]; (repeat (first | rw [if_pos (by omega)] | rw [if_neg (by omega)])); first | done | omega | (have z := hsr_81_0; (try rw [← ex_21] at z); (try rw [← ex_25] at z); (try rw [← ex_26] at z); exact z) | exact hsr_81_0)), trivial⟩, zRet ht hP hD [0, 1, 2, 3, 4, 5, 6] (by decide) rfl⟩, hS.F ht⟩) hS.2.2 dX8_says_188
                        · have fc_80 : k.toInt ≠ x_26.toInt := zf_ne c_80 rfl rfl
                          refine lv_iload hx hb dX8_says_123 (lv_at hl 0 rfl) ?_
                          refine lv_if_ne (tgt := 135) hx hb dX8_says_125 (by decide) (fun c_84 => ?_) (fun c_84 => ?_)
                          · exact absurd c_84 (by decide)
                          · refine lv_aload_n hx hb dX8_says_128 rfl (lv_at hl 3 rfl) ?_
                            refine lv_bipush (v := (-2)) hx hb dX8_says_129 (by decide) ?_
                            skip
                            refine zw_V (As := [.int (-2)]) (rest := []) (wr := [(mki, .inl (cI, 8, .inl gki)), (mpa, .inl (cI, 8, .inl gpa)), (mta, .inl (cI, 8, .inl gta)), (mhe, .inl (cI, 8, .inl ghe)), (msh, .inl (cI, 8, .inl gsh))]) ⟨hx, hb, hml, hown, hts⟩ (c_M_no_2 l D cI cJ cZ cP cS po m0 mrf mki mpa mta mla msl mco mhe mso msi msh mce mca mwo mnu mte mwa mke mma mth mtr (npu) (nte) (nat_) (nde) (nto) (nse) (nhu) (nga) (nsd) (nfa) (nba) (npl) (nen) (nnu) (nwr) (nra) (nik) grf hy0 hy1 hy2 hy3 hy4 hy5 hy6 hy7 hy8 hy9 hy10 hy11 hy12 hy13 H.size) (cwV 1 hts gX8_says_X8_no rfl rfl rfl ⟨rfl, dh_X8_no⟩ ⟨Nat.le_of_ble_eq_true rfl, Nat.le_of_ble_eq_true rfl⟩) hK hN (hZ.kept hS) hP hD hS hA [0, 1] [2, 3, 4, 5, 6] rfl rfl (by decide) (by decide) (by decide) (va_recv (q := (RX8, TX8, 38)) hK hP (ci := 8) (q0 := 0) rfl rfl) rfl hl.1 rfl (Nat.le_of_ble_eq_true rfl) dX8_says_131 ⟨Nat.le_of_ble_eq_true rfl, Nat.le_of_ble_eq_true rfl⟩ (fun r_85 u_86 H locs hr_85 hP hD hS => ?_)
                            obtain ⟨q_87, rfl⟩ : ∃ z, z = u_86 := ⟨_, rfl⟩
                            have h9R := zRe (ws' := [(mki, .inl (cI, 8, .inl gki)), (mpa, .inl (cI, 8, .inl gpa)), (mta, .inl (cI, 8, .inl gta)), (mhe, .inl (cI, 8, .inl ghe)), (msh, .inl (cI, 8, .inl gsh)), (zMO m0 npu nte nat_ nde nto nse nhu nga nsd nfa mrf mki mpa mta mla msl mco mhe mso msi msh mce mca mwo mnu mte nba npl nen nnu nwr mwa mke mma mth mtr nra nik), (mrf, .inl (cI, 8, .inl q_87))]) hP hD rfl
                            clear hP hD
                            obtain ⟨hP, hD⟩ := h9R
                            obtain rfl := hr_85
                            exact W.iret (v := (-2)) hx hb hr (fun t ht hW => ⟨⟨(-2), q_87, rfl, ⟨(show ((s_.toInt < 0 ∨ 7 < s_.toInt ∨ k.toInt < 0 ∨ 6 < k.toInt) ∧ ((-2) : Int32).toInt = -1) ∨ ((0 ≤ s_.toInt ∧ s_.toInt ≤ 7) ∧ (0 ≤ k.toInt ∧ k.toInt ≤ 6) ∧ (((ghe s_.toNatClampNeg).toInt = 1 ∧ ((-2) : Int32).toInt = -2) ∨ ((ghe s_.toNatClampNeg).toInt = 0 ∧ ((-2) : Int32).toInt = -3) ∨ ((ghe s_.toNatClampNeg).toInt = 2 ∧ ((-2) : Int32).toInt = zSy (gki (gsh s_.toNatClampNeg).toNatClampNeg).toInt (gpa (gsh s_.toNatClampNeg).toNatClampNeg).toInt (gta (gsh s_.toNatClampNeg).toNatClampNeg).toInt nhu.toInt k.toInt))) from by ((try rw [← ex_21]); (try rw [← ex_25]); (try rw [← ex_26]); have k2m : ((-2) : Int32).toInt = -2 := (by decide); refine Or.inr ⟨by omega, by omega, Or.inr (Or.inr ⟨by omega, ?_⟩)⟩; rw [zSy_no (by unfold zIsOf; omega)]; omega)), trivial⟩, zRet ht hP hD [5, 6, 0, 1, 2, 3, 4] (by decide) rfl⟩, hS.F ht⟩) hS.2.2 dX8_says_134
                    · exfalso; have fc_78 : k.toInt = 4 := zf_eq c_78 rfl (by decide); omega
              · have fc_27 : k.toInt = 1 := zf_eq c_27 rfl (by decide)
                refine lv_iload hx hb dX8_says_77 (lv_at hl 0 rfl) ?_
                refine lv_iconst (v := 3) hx hb dX8_says_79 (by decide) ?_
                refine lv_icmp_eq (tgt := 106) hx hb dX8_says_80 (by decide) (fun c_88 => ?_) (fun c_88 => ?_)
                · have fc_88 : x_26.toInt = 3 := zf_eq c_88 rfl (by decide)
                  refine lv_iconst (v := 1) hx hb dX8_says_106 (by decide) ?_
                  refine lv_goto (tgt := 111) hx hb dX8_says_107 (by decide) ?_
                  refine lv_istore (lv' := [(5, .int 1), (4, .int x_26), (3, .int x_25), (0, .ref m0), (1, .int s_), (2, .int k)]) hx hb dX8_says_111 hl (by decide) rfl (fun ls hl => ?_)
                  refine lv_iload_n hx hb dX8_says_113 rfl (lv_at hl 5 rfl) ?_
                  refine lv_if_eq (tgt := 135) hx hb dX8_says_114 (by decide) (fun c_89 => ?_) (fun c_89 => ?_)
                  · exfalso; have fc_89 : k.toInt = 0 := zf_eq c_89 rfl (by decide); omega
                  · have fc_89 : k.toInt ≠ 0 := zf_ne c_89 rfl (by decide)
                    refine lv_iload_n hx hb dX8_says_117 rfl (lv_at hl 5 rfl) ?_
                    refine lv_iload hx hb dX8_says_118 (lv_at hl 1 rfl) ?_
                    refine lv_icmp_eq (tgt := 135) hx hb dX8_says_120 (by decide) (fun c_90 => ?_) (fun c_90 => ?_)
                    · exfalso; have fc_90 : k.toInt = x_26.toInt := zf_eq c_90 rfl rfl; omega
                    · have fc_90 : k.toInt ≠ x_26.toInt := zf_ne c_90 rfl rfl
                      refine lv_iload hx hb dX8_says_123 (lv_at hl 0 rfl) ?_
                      refine lv_if_ne (tgt := 135) hx hb dX8_says_125 (by decide) (fun c_91 => ?_) (fun c_91 => ?_)
                      · refine lv_iload_n hx hb dX8_says_135 rfl (lv_at hl 5 rfl) ?_
                        have hsp : k = 1 := by
                          rcases (show k.toInt = 1 by omega) with h9
                          · refine ?_; exact zf_val h9 (by decide)
                        rcases hsp with rfl
                        · have kc1 : (1 : Int32).toInt = 1 := by decide
                          refine lv_tableIn (tgt := 197) hx hb dX8_says_136 (by decide) (by decide) rfl (by decide) ?_
                          refine lv_aload_n hx hb dX8_says_197 rfl (lv_at hl 3 rfl) ?_
                          refine lv_iload_n hx hb dX8_says_198 rfl (lv_at hl 2 rfl) ?_
                          refine lv_bipush (v := 8) hx hb dX8_says_199 (by decide) ?_
                          have kc8 : (8 : Int32).toInt = 8 := by decide
                          refine zc_V (As := [.int x_25, .int 8]) (rest := []) ⟨hx, hb, hml, hown, hts⟩ (c_F_M_ways l D cI cJ cZ cP cS po m0 mrf mki mpa mta mla msl mco mhe mso msi msh mce mca mwo mnu mte mwa mke mma mth mtr (npu) (nte) (nat_) (nde) (nto) (nse) (nhu) (nga) (nsd) (nfa) (nba) (npl) (nen) (nnu) (nwr) (nra) (nik) gki gpa (x_25) (8) hy0 hy1 hy2 hy3 hy4 hy5 hy6 hy7 hy8 hy9 hy10 hy11 hy12 hy13 (by omega) (by omega) (by omega) (by omega) hp_gki hp_gpa) (cwV 2 hts gX8_says_X8_ways rfl rfl rfl ⟨rfl, dh_X8_ways⟩ ⟨Nat.le_of_ble_eq_true rfl, Nat.le_of_ble_eq_true rfl⟩) hK hN (hZ.kept hS) hP (hP.sub [0, 2, 3] rfl) (va_recv (q := (RX8, TX8, 38)) hK hP (ci := 8) (q0 := 0) rfl rfl) rfl hl.1 rfl (Nat.le_of_ble_eq_true rfl) dX8_says_201 ⟨Nat.le_of_ble_eq_true rfl, Nat.le_of_ble_eq_true rfl⟩ (fun r_92 hr_92 => ?_)
                          obtain ⟨g_93, g_94, hsr_92_0⟩ := hr_92
                          exact W.iret (v := r_92) hx hb hr (fun t ht hW => ⟨⟨r_92, grf, rfl, ⟨(show ((s_.toInt < 0 ∨ 7 < s_.toInt ∨ (1 : Int32).toInt < 0 ∨ 6 < (1 : Int32).toInt) ∧ (r_92 : Int32).toInt = -1) ∨ ((0 ≤ s_.toInt ∧ s_.toInt ≤ 7) ∧ (0 ≤ (1 : Int32).toInt ∧ (1 : Int32).toInt ≤ 6) ∧ (((ghe s_.toNatClampNeg).toInt = 1 ∧ (r_92 : Int32).toInt = -2) ∨ ((ghe s_.toNatClampNeg).toInt = 0 ∧ (r_92 : Int32).toInt = -3) ∨ ((ghe s_.toNatClampNeg).toInt = 2 ∧ (r_92 : Int32).toInt = zSy (gki (gsh s_.toNatClampNeg).toNatClampNeg).toInt (gpa (gsh s_.toNatClampNeg).toNatClampNeg).toInt (gta (gsh s_.toNatClampNeg).toNatClampNeg).toInt nhu.toInt (1 : Int32).toInt))) from by ((try rw [← ex_21]); (try rw [← ex_25]); (try rw [← ex_26]); have k1 : (1 : Int32).toInt = 1 := (by decide); refine Or.inr ⟨by omega, by omega, Or.inr (Or.inr ⟨by omega, ?_⟩)⟩; rw [zSy_yes (by unfold zIsOf; omega)]; (repeat (first | rw [if_pos (by omega)] | rw [if_neg (by omega)])); first | done | omega | (have z := hsr_92_0; (try rw [← ex_21] at z); (try rw [← ex_25] at z); (try rw [← ex_26] at z); exact z) | exact hsr_92_0)), trivial⟩, zRet ht hP hD [0, 1, 2, 3, 4, 5, 6] (by decide) rfl⟩, hS.F ht⟩) hS.2.2 dX8_says_204
                      · exact absurd c_91 (by decide)
                · have fc_88 : x_26.toInt ≠ 3 := zf_ne c_88 rfl (by decide)
                  refine lv_iload_n hx hb dX8_says_83 rfl (lv_at hl 4 rfl) ?_
                  refine lv_iconst (v := 2) hx hb dX8_says_84 (by decide) ?_
                  refine lv_icmp_ne (tgt := 94) hx hb dX8_says_85 (by decide) (fun c_95 => ?_) (fun c_95 => ?_)
                  · have fc_95 : k.toInt ≠ 2 := zf_ne c_95 rfl (by decide)
                    refine lv_iload_n hx hb dX8_says_94 rfl (lv_at hl 4 rfl) ?_
                    refine lv_iconst (v := 4) hx hb dX8_says_95 (by decide) ?_
                    refine lv_icmp_ne (tgt := 110) hx hb dX8_says_96 (by decide) (fun c_96 => ?_) (fun c_96 => ?_)
                    · have fc_96 : k.toInt ≠ 4 := zf_ne c_96 rfl (by decide)
                      refine lv_iconst (v := 0) hx hb dX8_says_110 (by decide) ?_
                      refine lv_istore (lv' := [(5, .int 0), (4, .int x_26), (3, .int x_25), (0, .ref m0), (1, .int s_), (2, .int k)]) hx hb dX8_says_111 hl (by decide) rfl (fun ls hl => ?_)
                      refine lv_iload_n hx hb dX8_says_113 rfl (lv_at hl 5 rfl) ?_
                      refine lv_if_eq (tgt := 135) hx hb dX8_says_114 (by decide) (fun c_97 => ?_) (fun c_97 => ?_)
                      · exfalso; have fc_97 : k.toInt = 0 := zf_eq c_97 rfl (by decide); omega
                      · have fc_97 : k.toInt ≠ 0 := zf_ne c_97 rfl (by decide)
                        refine lv_iload_n hx hb dX8_says_117 rfl (lv_at hl 5 rfl) ?_
                        refine lv_iload hx hb dX8_says_118 (lv_at hl 1 rfl) ?_
                        refine lv_icmp_eq (tgt := 135) hx hb dX8_says_120 (by decide) (fun c_98 => ?_) (fun c_98 => ?_)
                        · have fc_98 : k.toInt = x_26.toInt := zf_eq c_98 rfl rfl
                          refine lv_iload_n hx hb dX8_says_135 rfl (lv_at hl 5 rfl) ?_
                          have hsp : k = 1 := by
                            rcases (show k.toInt = 1 by omega) with h9
                            · refine ?_; exact zf_val h9 (by decide)
                          rcases hsp with rfl
                          · have kc1 : (1 : Int32).toInt = 1 := by decide
                            refine lv_tableIn (tgt := 197) hx hb dX8_says_136 (by decide) (by decide) rfl (by decide) ?_
                            refine lv_aload_n hx hb dX8_says_197 rfl (lv_at hl 3 rfl) ?_
                            refine lv_iload_n hx hb dX8_says_198 rfl (lv_at hl 2 rfl) ?_
                            refine lv_bipush (v := 8) hx hb dX8_says_199 (by decide) ?_
                            have kc8 : (8 : Int32).toInt = 8 := by decide
                            refine zc_V (As := [.int x_25, .int 8]) (rest := []) ⟨hx, hb, hml, hown, hts⟩ (c_F_M_ways l D cI cJ cZ cP cS po m0 mrf mki mpa mta mla msl mco mhe mso msi msh mce mca mwo mnu mte mwa mke mma mth mtr (npu) (nte) (nat_) (nde) (nto) (nse) (nhu) (nga) (nsd) (nfa) (nba) (npl) (nen) (nnu) (nwr) (nra) (nik) gki gpa (x_25) (8) hy0 hy1 hy2 hy3 hy4 hy5 hy6 hy7 hy8 hy9 hy10 hy11 hy12 hy13 (by omega) (by omega) (by omega) (by omega) hp_gki hp_gpa) (cwV 2 hts gX8_says_X8_ways rfl rfl rfl ⟨rfl, dh_X8_ways⟩ ⟨Nat.le_of_ble_eq_true rfl, Nat.le_of_ble_eq_true rfl⟩) hK hN (hZ.kept hS) hP (hP.sub [0, 2, 3] rfl) (va_recv (q := (RX8, TX8, 38)) hK hP (ci := 8) (q0 := 0) rfl rfl) rfl hl.1 rfl (Nat.le_of_ble_eq_true rfl) dX8_says_201 ⟨Nat.le_of_ble_eq_true rfl, Nat.le_of_ble_eq_true rfl⟩ (fun r_99 hr_99 => ?_)
                            obtain ⟨g_100, g_101, hsr_99_0⟩ := hr_99
                            exact W.iret (v := r_99) hx hb hr (fun t ht hW => ⟨⟨r_99, grf, rfl, ⟨(show ((s_.toInt < 0 ∨ 7 < s_.toInt ∨ (1 : Int32).toInt < 0 ∨ 6 < (1 : Int32).toInt) ∧ (r_99 : Int32).toInt = -1) ∨ ((0 ≤ s_.toInt ∧ s_.toInt ≤ 7) ∧ (0 ≤ (1 : Int32).toInt ∧ (1 : Int32).toInt ≤ 6) ∧ (((ghe s_.toNatClampNeg).toInt = 1 ∧ (r_99 : Int32).toInt = -2) ∨ ((ghe s_.toNatClampNeg).toInt = 0 ∧ (r_99 : Int32).toInt = -3) ∨ ((ghe s_.toNatClampNeg).toInt = 2 ∧ (r_99 : Int32).toInt = zSy (gki (gsh s_.toNatClampNeg).toNatClampNeg).toInt (gpa (gsh s_.toNatClampNeg).toNatClampNeg).toInt (gta (gsh s_.toNatClampNeg).toNatClampNeg).toInt nhu.toInt (1 : Int32).toInt))) from by ((try rw [← ex_21]); (try rw [← ex_25]); (try rw [← ex_26]); have k1 : (1 : Int32).toInt = 1 := (by decide); refine Or.inr ⟨by omega, by omega, Or.inr (Or.inr ⟨by omega, ?_⟩)⟩; rw [zSy_yes (by unfold zIsOf; omega)]; (repeat (first | rw [if_pos (by omega)] | rw [if_neg (by omega)])); first | done | omega | (have z := hsr_99_0; (try rw [← ex_21] at z); (try rw [← ex_25] at z); (try rw [← ex_26] at z); exact z) | exact hsr_99_0)), trivial⟩, zRet ht hP hD [0, 1, 2, 3, 4, 5, 6] (by decide) rfl⟩, hS.F ht⟩) hS.2.2 dX8_says_204
                        · have fc_98 : k.toInt ≠ x_26.toInt := zf_ne c_98 rfl rfl
                          refine lv_iload hx hb dX8_says_123 (lv_at hl 0 rfl) ?_
                          refine lv_if_ne (tgt := 135) hx hb dX8_says_125 (by decide) (fun c_102 => ?_) (fun c_102 => ?_)
                          · exact absurd c_102 (by decide)
                          · refine lv_aload_n hx hb dX8_says_128 rfl (lv_at hl 3 rfl) ?_
                            refine lv_bipush (v := (-2)) hx hb dX8_says_129 (by decide) ?_
                            skip
                            refine zw_V (As := [.int (-2)]) (rest := []) (wr := [(mki, .inl (cI, 8, .inl gki)), (mpa, .inl (cI, 8, .inl gpa)), (mta, .inl (cI, 8, .inl gta)), (mhe, .inl (cI, 8, .inl ghe)), (msh, .inl (cI, 8, .inl gsh))]) ⟨hx, hb, hml, hown, hts⟩ (c_M_no_2 l D cI cJ cZ cP cS po m0 mrf mki mpa mta mla msl mco mhe mso msi msh mce mca mwo mnu mte mwa mke mma mth mtr (npu) (nte) (nat_) (nde) (nto) (nse) (nhu) (nga) (nsd) (nfa) (nba) (npl) (nen) (nnu) (nwr) (nra) (nik) grf hy0 hy1 hy2 hy3 hy4 hy5 hy6 hy7 hy8 hy9 hy10 hy11 hy12 hy13 H.size) (cwV 1 hts gX8_says_X8_no rfl rfl rfl ⟨rfl, dh_X8_no⟩ ⟨Nat.le_of_ble_eq_true rfl, Nat.le_of_ble_eq_true rfl⟩) hK hN (hZ.kept hS) hP hD hS hA [0, 1] [2, 3, 4, 5, 6] rfl rfl (by decide) (by decide) (by decide) (va_recv (q := (RX8, TX8, 38)) hK hP (ci := 8) (q0 := 0) rfl rfl) rfl hl.1 rfl (Nat.le_of_ble_eq_true rfl) dX8_says_131 ⟨Nat.le_of_ble_eq_true rfl, Nat.le_of_ble_eq_true rfl⟩ (fun r_103 u_104 H locs hr_103 hP hD hS => ?_)
                            obtain ⟨q_105, rfl⟩ : ∃ z, z = u_104 := ⟨_, rfl⟩
                            have h9R := zRe (ws' := [(mki, .inl (cI, 8, .inl gki)), (mpa, .inl (cI, 8, .inl gpa)), (mta, .inl (cI, 8, .inl gta)), (mhe, .inl (cI, 8, .inl ghe)), (msh, .inl (cI, 8, .inl gsh)), (zMO m0 npu nte nat_ nde nto nse nhu nga nsd nfa mrf mki mpa mta mla msl mco mhe mso msi msh mce mca mwo mnu mte nba npl nen nnu nwr mwa mke mma mth mtr nra nik), (mrf, .inl (cI, 8, .inl q_105))]) hP hD rfl
                            clear hP hD
                            obtain ⟨hP, hD⟩ := h9R
                            obtain rfl := hr_103
                            exact W.iret (v := (-2)) hx hb hr (fun t ht hW => ⟨⟨(-2), q_105, rfl, ⟨(show ((s_.toInt < 0 ∨ 7 < s_.toInt ∨ k.toInt < 0 ∨ 6 < k.toInt) ∧ ((-2) : Int32).toInt = -1) ∨ ((0 ≤ s_.toInt ∧ s_.toInt ≤ 7) ∧ (0 ≤ k.toInt ∧ k.toInt ≤ 6) ∧ (((ghe s_.toNatClampNeg).toInt = 1 ∧ ((-2) : Int32).toInt = -2) ∨ ((ghe s_.toNatClampNeg).toInt = 0 ∧ ((-2) : Int32).toInt = -3) ∨ ((ghe s_.toNatClampNeg).toInt = 2 ∧ ((-2) : Int32).toInt = zSy (gki (gsh s_.toNatClampNeg).toNatClampNeg).toInt (gpa (gsh s_.toNatClampNeg).toNatClampNeg).toInt (gta (gsh s_.toNatClampNeg).toNatClampNeg).toInt nhu.toInt k.toInt))) from by ((try rw [← ex_21]); (try rw [← ex_25]); (try rw [← ex_26]); have k2m : ((-2) : Int32).toInt = -2 := (by decide); refine Or.inr ⟨by omega, by omega, Or.inr (Or.inr ⟨by omega, ?_⟩)⟩; rw [zSy_no (by unfold zIsOf; omega)]; omega)), trivial⟩, zRet ht hP hD [5, 6, 0, 1, 2, 3, 4] (by decide) rfl⟩, hS.F ht⟩) hS.2.2 dX8_says_134
                    · exfalso; have fc_96 : k.toInt = 4 := zf_eq c_96 rfl (by decide); omega
                  · exfalso; have fc_95 : k.toInt = 2 := zf_eq c_95 rfl (by decide); omega
            · have fc_24 : x_21.toInt = 0 := zf_eq c_24 rfl (by decide)
              refine lv_aload_n hx hb dX8_says_50 rfl (lv_at hl 0 rfl) ?_
              refine lv_bipush (v := (-3)) hx hb dX8_says_51 (by decide) ?_
              skip
              refine zw_V (As := [.int (-3)]) (rest := []) (wr := [(mki, .inl (cI, 8, .inl gki)), (mpa, .inl (cI, 8, .inl gpa)), (mta, .inl (cI, 8, .inl gta)), (mhe, .inl (cI, 8, .inl ghe)), (msh, .inl (cI, 8, .inl gsh))]) ⟨hx, hb, hml, hown, hts⟩ (c_M_no_3 l D cI cJ cZ cP cS po m0 mrf mki mpa mta mla msl mco mhe mso msi msh mce mca mwo mnu mte mwa mke mma mth mtr (npu) (nte) (nat_) (nde) (nto) (nse) (nhu) (nga) (nsd) (nfa) (nba) (npl) (nen) (nnu) (nwr) (nra) (nik) grf hy0 hy1 hy2 hy3 hy4 hy5 hy6 hy7 hy8 hy9 hy10 hy11 hy12 hy13 H.size) (cwV 1 hts gX8_says_X8_no rfl rfl rfl ⟨rfl, dh_X8_no⟩ ⟨Nat.le_of_ble_eq_true rfl, Nat.le_of_ble_eq_true rfl⟩) hK hN (hZ.kept hS) hP hD hS hA [0, 1] [2, 3, 4, 5, 6] rfl rfl (by decide) (by decide) (by decide) (va_recv (q := (RX8, TX8, 38)) hK hP (ci := 8) (q0 := 0) rfl rfl) rfl hl.1 rfl (Nat.le_of_ble_eq_true rfl) dX8_says_53 ⟨Nat.le_of_ble_eq_true rfl, Nat.le_of_ble_eq_true rfl⟩ (fun r_106 u_107 H locs hr_106 hP hD hS => ?_)
              obtain ⟨q_108, rfl⟩ : ∃ z, z = u_107 := ⟨_, rfl⟩
              have h9R := zRe (ws' := [(mki, .inl (cI, 8, .inl gki)), (mpa, .inl (cI, 8, .inl gpa)), (mta, .inl (cI, 8, .inl gta)), (mhe, .inl (cI, 8, .inl ghe)), (msh, .inl (cI, 8, .inl gsh)), (zMO m0 npu nte nat_ nde nto nse nhu nga nsd nfa mrf mki mpa mta mla msl mco mhe mso msi msh mce mca mwo mnu mte nba npl nen nnu nwr mwa mke mma mth mtr nra nik), (mrf, .inl (cI, 8, .inl q_108))]) hP hD rfl
              clear hP hD
              obtain ⟨hP, hD⟩ := h9R
              obtain rfl := hr_106
              exact W.iret (v := (-3)) hx hb hr (fun t ht hW => ⟨⟨(-3), q_108, rfl, ⟨(show ((s_.toInt < 0 ∨ 7 < s_.toInt ∨ k.toInt < 0 ∨ 6 < k.toInt) ∧ ((-3) : Int32).toInt = -1) ∨ ((0 ≤ s_.toInt ∧ s_.toInt ≤ 7) ∧ (0 ≤ k.toInt ∧ k.toInt ≤ 6) ∧ (((ghe s_.toNatClampNeg).toInt = 1 ∧ ((-3) : Int32).toInt = -2) ∨ ((ghe s_.toNatClampNeg).toInt = 0 ∧ ((-3) : Int32).toInt = -3) ∨ ((ghe s_.toNatClampNeg).toInt = 2 ∧ ((-3) : Int32).toInt = zSy (gki (gsh s_.toNatClampNeg).toNatClampNeg).toInt (gpa (gsh s_.toNatClampNeg).toNatClampNeg).toInt (gta (gsh s_.toNatClampNeg).toNatClampNeg).toInt nhu.toInt k.toInt))) from by ((try rw [← ex_21]); have k3m : ((-3) : Int32).toInt = -3 := (by decide); omega)), trivial⟩, zRet ht hP hD [5, 6, 0, 1, 2, 3, 4] (by decide) rfl⟩, hS.F ht⟩) hS.2.2 dX8_says_56
          · have fc_22 : x_21.toInt = 1 := zf_eq c_22 rfl (by decide)
            refine lv_aload_n hx hb dX8_says_34 rfl (lv_at hl 0 rfl) ?_
            refine lv_bipush (v := (-2)) hx hb dX8_says_35 (by decide) ?_
            skip
            refine zw_V (As := [.int (-2)]) (rest := []) (wr := [(mki, .inl (cI, 8, .inl gki)), (mpa, .inl (cI, 8, .inl gpa)), (mta, .inl (cI, 8, .inl gta)), (mhe, .inl (cI, 8, .inl ghe)), (msh, .inl (cI, 8, .inl gsh))]) ⟨hx, hb, hml, hown, hts⟩ (c_M_no_2 l D cI cJ cZ cP cS po m0 mrf mki mpa mta mla msl mco mhe mso msi msh mce mca mwo mnu mte mwa mke mma mth mtr (npu) (nte) (nat_) (nde) (nto) (nse) (nhu) (nga) (nsd) (nfa) (nba) (npl) (nen) (nnu) (nwr) (nra) (nik) grf hy0 hy1 hy2 hy3 hy4 hy5 hy6 hy7 hy8 hy9 hy10 hy11 hy12 hy13 H.size) (cwV 1 hts gX8_says_X8_no rfl rfl rfl ⟨rfl, dh_X8_no⟩ ⟨Nat.le_of_ble_eq_true rfl, Nat.le_of_ble_eq_true rfl⟩) hK hN (hZ.kept hS) hP hD hS hA [0, 1] [2, 3, 4, 5, 6] rfl rfl (by decide) (by decide) (by decide) (va_recv (q := (RX8, TX8, 38)) hK hP (ci := 8) (q0 := 0) rfl rfl) rfl hl.1 rfl (Nat.le_of_ble_eq_true rfl) dX8_says_37 ⟨Nat.le_of_ble_eq_true rfl, Nat.le_of_ble_eq_true rfl⟩ (fun r_109 u_110 H locs hr_109 hP hD hS => ?_)
            obtain ⟨q_111, rfl⟩ : ∃ z, z = u_110 := ⟨_, rfl⟩
            have h9R := zRe (ws' := [(mki, .inl (cI, 8, .inl gki)), (mpa, .inl (cI, 8, .inl gpa)), (mta, .inl (cI, 8, .inl gta)), (mhe, .inl (cI, 8, .inl ghe)), (msh, .inl (cI, 8, .inl gsh)), (zMO m0 npu nte nat_ nde nto nse nhu nga nsd nfa mrf mki mpa mta mla msl mco mhe mso msi msh mce mca mwo mnu mte nba npl nen nnu nwr mwa mke mma mth mtr nra nik), (mrf, .inl (cI, 8, .inl q_111))]) hP hD rfl
            clear hP hD
            obtain ⟨hP, hD⟩ := h9R
            obtain rfl := hr_109
            exact W.iret (v := (-2)) hx hb hr (fun t ht hW => ⟨⟨(-2), q_111, rfl, ⟨(show ((s_.toInt < 0 ∨ 7 < s_.toInt ∨ k.toInt < 0 ∨ 6 < k.toInt) ∧ ((-2) : Int32).toInt = -1) ∨ ((0 ≤ s_.toInt ∧ s_.toInt ≤ 7) ∧ (0 ≤ k.toInt ∧ k.toInt ≤ 6) ∧ (((ghe s_.toNatClampNeg).toInt = 1 ∧ ((-2) : Int32).toInt = -2) ∨ ((ghe s_.toNatClampNeg).toInt = 0 ∧ ((-2) : Int32).toInt = -3) ∨ ((ghe s_.toNatClampNeg).toInt = 2 ∧ ((-2) : Int32).toInt = zSy (gki (gsh s_.toNatClampNeg).toNatClampNeg).toInt (gpa (gsh s_.toNatClampNeg).toNatClampNeg).toInt (gta (gsh s_.toNatClampNeg).toNatClampNeg).toInt nhu.toInt k.toInt))) from by ((try rw [← ex_21]); have k2m : ((-2) : Int32).toInt = -2 := (by decide); omega)), trivial⟩, zRet ht hP hD [5, 6, 0, 1, 2, 3, 4] (by decide) rfl⟩, hS.F ht⟩) hS.2.2 dX8_says_40
        · have fc_20 : 6 < k.toInt := zf_nle c_20 rfl (by decide)
          refine lv_aload_n hx hb dX8_says_18 rfl (lv_at hl 0 rfl) ?_
          refine lv_iconst (v := (-1)) hx hb dX8_says_19 (by decide) ?_
          skip
          refine zw_V (As := [.int (-1)]) (rest := []) (wr := [(mki, .inl (cI, 8, .inl gki)), (mpa, .inl (cI, 8, .inl gpa)), (mta, .inl (cI, 8, .inl gta)), (mhe, .inl (cI, 8, .inl ghe)), (msh, .inl (cI, 8, .inl gsh))]) ⟨hx, hb, hml, hown, hts⟩ (c_M_no_1 l D cI cJ cZ cP cS po m0 mrf mki mpa mta mla msl mco mhe mso msi msh mce mca mwo mnu mte mwa mke mma mth mtr (npu) (nte) (nat_) (nde) (nto) (nse) (nhu) (nga) (nsd) (nfa) (nba) (npl) (nen) (nnu) (nwr) (nra) (nik) grf hy0 hy1 hy2 hy3 hy4 hy5 hy6 hy7 hy8 hy9 hy10 hy11 hy12 hy13 H.size) (cwV 1 hts gX8_says_X8_no rfl rfl rfl ⟨rfl, dh_X8_no⟩ ⟨Nat.le_of_ble_eq_true rfl, Nat.le_of_ble_eq_true rfl⟩) hK hN (hZ.kept hS) hP hD hS hA [0, 1] [2, 3, 4, 5, 6] rfl rfl (by decide) (by decide) (by decide) (va_recv (q := (RX8, TX8, 38)) hK hP (ci := 8) (q0 := 0) rfl rfl) rfl hl.1 rfl (Nat.le_of_ble_eq_true rfl) dX8_says_20 ⟨Nat.le_of_ble_eq_true rfl, Nat.le_of_ble_eq_true rfl⟩ (fun r_112 u_113 H locs hr_112 hP hD hS => ?_)
          obtain ⟨q_114, rfl⟩ : ∃ z, z = u_113 := ⟨_, rfl⟩
          have h9R := zRe (ws' := [(mki, .inl (cI, 8, .inl gki)), (mpa, .inl (cI, 8, .inl gpa)), (mta, .inl (cI, 8, .inl gta)), (mhe, .inl (cI, 8, .inl ghe)), (msh, .inl (cI, 8, .inl gsh)), (zMO m0 npu nte nat_ nde nto nse nhu nga nsd nfa mrf mki mpa mta mla msl mco mhe mso msi msh mce mca mwo mnu mte nba npl nen nnu nwr mwa mke mma mth mtr nra nik), (mrf, .inl (cI, 8, .inl q_114))]) hP hD rfl
          clear hP hD
          obtain ⟨hP, hD⟩ := h9R
          obtain rfl := hr_112
          exact W.iret (v := (-1)) hx hb hr (fun t ht hW => ⟨⟨(-1), q_114, rfl, ⟨(show ((s_.toInt < 0 ∨ 7 < s_.toInt ∨ k.toInt < 0 ∨ 6 < k.toInt) ∧ ((-1) : Int32).toInt = -1) ∨ ((0 ≤ s_.toInt ∧ s_.toInt ≤ 7) ∧ (0 ≤ k.toInt ∧ k.toInt ≤ 6) ∧ (((ghe s_.toNatClampNeg).toInt = 1 ∧ ((-1) : Int32).toInt = -2) ∨ ((ghe s_.toNatClampNeg).toInt = 0 ∧ ((-1) : Int32).toInt = -3) ∨ ((ghe s_.toNatClampNeg).toInt = 2 ∧ ((-1) : Int32).toInt = zSy (gki (gsh s_.toNatClampNeg).toNatClampNeg).toInt (gpa (gsh s_.toNatClampNeg).toNatClampNeg).toInt (gta (gsh s_.toNatClampNeg).toNatClampNeg).toInt nhu.toInt k.toInt))) from by (have k1m : ((-1) : Int32).toInt = -1 := (by decide); omega)), trivial⟩, zRet ht hP hD [5, 6, 0, 1, 2, 3, 4] (by decide) rfl⟩, hS.F ht⟩) hS.2.2 dX8_says_23
set_option maxHeartbeats 4000000 in
set_option maxRecDepth 100000 in
theorem c_F_M_frees (l : Launch) (D : va_G) (cI cJ cZ cP cS : ClassId) (po : zPool) (m0 mrf mki mpa mta mla msl mco mhe mso msi msh mce mca mwo mnu mte mwa mke mma mth mtr : Nat) (npu nte nat_ nde nto nse nhu nga nsd nfa nba npl nen nnu nwr nra nik : Int32) (grf gki gpa : Nat → Int32) (p_ d w : Int32) (hy0 : 0 ≤ npu.toInt) (hy1 : npu.toInt ≤ 8) (hy2 : 4 ≤ nte.toInt) (hy3 : nte.toInt ≤ 40) (hy4 : 0 ≤ nat_.toInt) (hy5 : nat_.toInt ≤ 40) (hy6 : 0 ≤ nde.toInt) (hy7 : nde.toInt ≤ 24) (hy8 : 0 ≤ nhu.toInt) (hy9 : nhu.toInt ≤ 9) (hy10 : 0 ≤ nra.toInt) (hy11 : nra.toInt ≤ 2000) (hy12 : 0 ≤ nik.toInt) (hy13 : nik.toInt ≤ 1) (hp_gki : zRg gki (0) 6) (hp_gpa : zRg gpa (0) 9) (hpz : Nat) : Met l yX8_frees wsX8_frees ({ frames := 2, cells := 0, slots := 0, locals := 45 }) (va_Pc [.ref m0, .int p_, .int d, .int w] (zW D (zKT cI cJ cZ cP cS) po [(zMO m0 npu nte nat_ nde nto nse nhu nga nsd nfa mrf mki mpa mta mla msl mco mhe mso msi msh mce mca mwo mnu mte nba npl nen nnu nwr mwa mke mma mth mtr nra nik), (mrf, .inl (cI, 8, .inl grf)), (mki, .inl (cI, 8, .inl gki)), (mpa, .inl (cI, 8, .inl gpa))] hpz)) (va_Qi (fun (r : Int32) (grf2 : (Nat → Int32)) => (((p_.toInt < 0 ∨ npu.toInt ≤ p_.toInt) ∧ r.toInt = -1) ∨ ((0 ≤ p_.toInt ∧ p_.toInt < npu.toInt) ∧ (((w.toInt < 0 ∨ 2 < w.toInt) ∧ r.toInt = -5) ∨ ((0 ≤ w.toInt ∧ w.toInt ≤ 2) ∧ (((d.toInt < 1 ∨ 24 < d.toInt) ∧ r.toInt = -6) ∨ ((1 ≤ d.toInt ∧ d.toInt ≤ 24) ∧ r.toInt = (if w.toInt = 0 then zWy (gki p_.toNatClampNeg).toInt (gpa p_.toNatClampNeg).toInt nhu.toInt d.toInt else if w.toInt = 1 then zShl (gki p_.toNatClampNeg).toInt (gpa p_.toNatClampNeg).toInt d.toInt else zDpr (gki p_.toNatClampNeg).toInt (gpa p_.toNatClampNeg).toInt nhu.toInt d.toInt))))))) ∧ (True)) (zB D [(zMO m0 npu nte nat_ nde nto nse nhu nga nsd nfa mrf mki mpa mta mla msl mco mhe mso msi msh mce mca mwo mnu mte nba npl nen nnu nwr mwa mke mma mth mtr nra nik), (mrf, .inl (cI, 8, .inl grf)), (mki, .inl (cI, 8, .inl gki)), (mpa, .inl (cI, 8, .inl gpa))] hpz (fun (grf2 : Nat → Int32) => [(zMO m0 npu nte nat_ nde nto nse nhu nga nsd nfa mrf mki mpa mta mla msl mco mhe mso msi msh mce mca mwo mnu mte nba npl nen nnu nwr mwa mke mma mth mtr nra nik), (mrf, .inl (cI, 8, .inl grf2)), (mki, .inl (cI, 8, .inl gki)), (mpa, .inl (cI, 8, .inl gpa))])) (va_A [(zMO m0 npu nte nat_ nde nto nse nhu nga nsd nfa mrf mki mpa mta mla msl mco mhe mso msi msh mce mca mwo mnu mte nba npl nen nnu nwr mwa mke mma mth mtr nra nik), (mrf, .inl (cI, 8, .inl grf)), (mki, .inl (cI, 8, .inl gki)), (mpa, .inl (cI, 8, .inl gpa))] hpz)) 0 0 (va_A [(zMO m0 npu nte nat_ nde nto nse nhu nga nsd nfa mrf mki mpa mta mla msl mco mhe mso msi msh mce mca mwo mnu mte nba npl nen nnu nwr mwa mke mma mth mtr nra nik), (mrf, .inl (cI, 8, .inl grf)), (mki, .inl (cI, 8, .inl gki)), (mpa, .inl (cI, 8, .inl gpa))] hpz) := by
  refine Met.ofW (cc := cX8_frees) (maxL := 4) (ret := (some .int)) (by decide) rfl ?_
  intro p e s m args below meth c s₁ B hml hv
  obtain ⟨rfl, hsz, hP, hK, hD0, hN, hZ⟩ := hv
  have hx := B.exec
  have hb := B.bytes
  have hr := B.returns
  have hts := atoms_spec (ws := wsX8_frees) B.pre
  have hown : s.vm.findClass RX8 = some m.cls := findClass_of_methodNamed B.named
  have hlocks := B.notSynchronized
  subst hsz
  have hD := hD0.self (sz := s.heap.size)
  have hA := zA_of hD
  have hl := lv_entry ([.ref m0, .int p_, .int d, .int w]) (n := 4) (Nat.le_of_ble_eq_true rfl)
  rw [lg_entry_eq]
  generalize (lg_sl ([.ref m0, .int p_, .int d, .int w]) ++ List.replicate (4 - (lg_sl ([.ref m0, .int p_, .int d, .int w])).length) Slot.unset).toArray = ls at hl ⊢
  replace hl : lv_has ls 4 [(0, .ref m0), (1, .int p_), (2, .int d), (3, .int w)] := hl
  refine zw_begin hP hD (fun H locs hP1 hS => ?_)
  clear hP
  have hP := hP1
  clear hP1
  refine lv_aload_n hx hb dX8_frees_0 rfl (lv_at hl 0 rfl) ?_
  refine lv_iload_n hx hb dX8_frees_1 rfl (lv_at hl 1 rfl) ?_
  refine zc_V (As := [.int p_]) (rest := []) ⟨hx, hb, hml, hown, hts⟩ (c_M_isPull l D cI cJ cZ cP cS po m0 mrf mki mpa mta mla msl mco mhe mso msi msh mce mca mwo mnu mte mwa mke mma mth mtr (npu) (nte) (nat_) (nde) (nto) (nse) (nhu) (nga) (nsd) (nfa) (nba) (npl) (nen) (nnu) (nwr) (nra) (nik) (p_) hy0 hy1 hy2 hy3 hy4 hy5 hy6 hy7 hy8 hy9 hy10 hy11 hy12 hy13) (cwV 1 hts gX8_frees_X8_isPull rfl rfl rfl ⟨rfl, dh_X8_isPull⟩ ⟨Nat.le_of_ble_eq_true rfl, Nat.le_of_ble_eq_true rfl⟩) hK hN (hZ.kept hS) hP (hP.sub [0] rfl) (va_recv (q := (RX8, TX8, 38)) hK hP (ci := 8) (q0 := 0) rfl rfl) rfl hl.1 rfl (Nat.le_of_ble_eq_true rfl) dX8_frees_2 ⟨Nat.le_of_ble_eq_true rfl, Nat.le_of_ble_eq_true rfl⟩ (fun r_1 hr_1 => ?_)
  rcases hr_1 with ⟨rfl, g_2⟩ | ⟨rfl, g_3, g_4⟩ | ⟨rfl, g_5, g_6⟩
  · refine lv_if_ne (tgt := 14) hx hb dX8_frees_5 (by decide) (fun c_7 => ?_) (fun c_7 => ?_)
    · exact absurd c_7 (by decide)
    · refine lv_aload_n hx hb dX8_frees_8 rfl (lv_at hl 0 rfl) ?_
      refine lv_iconst (v := (-1)) hx hb dX8_frees_9 (by decide) ?_
      skip
      refine zw_V (As := [.int (-1)]) (rest := []) (wr := [(mki, .inl (cI, 8, .inl gki)), (mpa, .inl (cI, 8, .inl gpa))]) ⟨hx, hb, hml, hown, hts⟩ (c_M_no_1 l D cI cJ cZ cP cS po m0 mrf mki mpa mta mla msl mco mhe mso msi msh mce mca mwo mnu mte mwa mke mma mth mtr (npu) (nte) (nat_) (nde) (nto) (nse) (nhu) (nga) (nsd) (nfa) (nba) (npl) (nen) (nnu) (nwr) (nra) (nik) grf hy0 hy1 hy2 hy3 hy4 hy5 hy6 hy7 hy8 hy9 hy10 hy11 hy12 hy13 H.size) (cwV 1 hts gX8_frees_X8_no rfl rfl rfl ⟨rfl, dh_X8_no⟩ ⟨Nat.le_of_ble_eq_true rfl, Nat.le_of_ble_eq_true rfl⟩) hK hN (hZ.kept hS) hP hD hS hA [0, 1] [2, 3] rfl rfl (by decide) (by decide) (by decide) (va_recv (q := (RX8, TX8, 38)) hK hP (ci := 8) (q0 := 0) rfl rfl) rfl hl.1 rfl (Nat.le_of_ble_eq_true rfl) dX8_frees_10 ⟨Nat.le_of_ble_eq_true rfl, Nat.le_of_ble_eq_true rfl⟩ (fun r_8 u_9 H locs hr_8 hP hD hS => ?_)
      obtain ⟨q_10, rfl⟩ : ∃ z, z = u_9 := ⟨_, rfl⟩
      have h9R := zRe (ws' := [(mki, .inl (cI, 8, .inl gki)), (mpa, .inl (cI, 8, .inl gpa)), (zMO m0 npu nte nat_ nde nto nse nhu nga nsd nfa mrf mki mpa mta mla msl mco mhe mso msi msh mce mca mwo mnu mte nba npl nen nnu nwr mwa mke mma mth mtr nra nik), (mrf, .inl (cI, 8, .inl q_10))]) hP hD rfl
      clear hP hD
      obtain ⟨hP, hD⟩ := h9R
      obtain rfl := hr_8
      exact W.iret (v := (-1)) hx hb hr (fun t ht hW => ⟨⟨(-1), q_10, rfl, ⟨(show ((p_.toInt < 0 ∨ npu.toInt ≤ p_.toInt) ∧ ((-1) : Int32).toInt = -1) ∨ ((0 ≤ p_.toInt ∧ p_.toInt < npu.toInt) ∧ (((w.toInt < 0 ∨ 2 < w.toInt) ∧ ((-1) : Int32).toInt = -5) ∨ ((0 ≤ w.toInt ∧ w.toInt ≤ 2) ∧ (((d.toInt < 1 ∨ 24 < d.toInt) ∧ ((-1) : Int32).toInt = -6) ∨ ((1 ≤ d.toInt ∧ d.toInt ≤ 24) ∧ ((-1) : Int32).toInt = (if w.toInt = 0 then zWy (gki p_.toNatClampNeg).toInt (gpa p_.toNatClampNeg).toInt nhu.toInt d.toInt else if w.toInt = 1 then zShl (gki p_.toNatClampNeg).toInt (gpa p_.toNatClampNeg).toInt d.toInt else zDpr (gki p_.toNatClampNeg).toInt (gpa p_.toNatClampNeg).toInt nhu.toInt d.toInt)))))) from by (have k1m : ((-1) : Int32).toInt = -1 := (by decide); omega)), trivial⟩, zRet ht hP hD [2, 3, 0, 1] (by decide) rfl⟩, hS.F ht⟩) hS.2.2 dX8_frees_13
  · refine lv_if_ne (tgt := 14) hx hb dX8_frees_5 (by decide) (fun c_11 => ?_) (fun c_11 => ?_)
    · exact absurd c_11 (by decide)
    · refine lv_aload_n hx hb dX8_frees_8 rfl (lv_at hl 0 rfl) ?_
      refine lv_iconst (v := (-1)) hx hb dX8_frees_9 (by decide) ?_
      skip
      refine zw_V (As := [.int (-1)]) (rest := []) (wr := [(mki, .inl (cI, 8, .inl gki)), (mpa, .inl (cI, 8, .inl gpa))]) ⟨hx, hb, hml, hown, hts⟩ (c_M_no_1 l D cI cJ cZ cP cS po m0 mrf mki mpa mta mla msl mco mhe mso msi msh mce mca mwo mnu mte mwa mke mma mth mtr (npu) (nte) (nat_) (nde) (nto) (nse) (nhu) (nga) (nsd) (nfa) (nba) (npl) (nen) (nnu) (nwr) (nra) (nik) grf hy0 hy1 hy2 hy3 hy4 hy5 hy6 hy7 hy8 hy9 hy10 hy11 hy12 hy13 H.size) (cwV 1 hts gX8_frees_X8_no rfl rfl rfl ⟨rfl, dh_X8_no⟩ ⟨Nat.le_of_ble_eq_true rfl, Nat.le_of_ble_eq_true rfl⟩) hK hN (hZ.kept hS) hP hD hS hA [0, 1] [2, 3] rfl rfl (by decide) (by decide) (by decide) (va_recv (q := (RX8, TX8, 38)) hK hP (ci := 8) (q0 := 0) rfl rfl) rfl hl.1 rfl (Nat.le_of_ble_eq_true rfl) dX8_frees_10 ⟨Nat.le_of_ble_eq_true rfl, Nat.le_of_ble_eq_true rfl⟩ (fun r_12 u_13 H locs hr_12 hP hD hS => ?_)
      obtain ⟨q_14, rfl⟩ : ∃ z, z = u_13 := ⟨_, rfl⟩
      have h9R := zRe (ws' := [(mki, .inl (cI, 8, .inl gki)), (mpa, .inl (cI, 8, .inl gpa)), (zMO m0 npu nte nat_ nde nto nse nhu nga nsd nfa mrf mki mpa mta mla msl mco mhe mso msi msh mce mca mwo mnu mte nba npl nen nnu nwr mwa mke mma mth mtr nra nik), (mrf, .inl (cI, 8, .inl q_14))]) hP hD rfl
      clear hP hD
      obtain ⟨hP, hD⟩ := h9R
      obtain rfl := hr_12
      exact W.iret (v := (-1)) hx hb hr (fun t ht hW => ⟨⟨(-1), q_14, rfl, ⟨(show ((p_.toInt < 0 ∨ npu.toInt ≤ p_.toInt) ∧ ((-1) : Int32).toInt = -1) ∨ ((0 ≤ p_.toInt ∧ p_.toInt < npu.toInt) ∧ (((w.toInt < 0 ∨ 2 < w.toInt) ∧ ((-1) : Int32).toInt = -5) ∨ ((0 ≤ w.toInt ∧ w.toInt ≤ 2) ∧ (((d.toInt < 1 ∨ 24 < d.toInt) ∧ ((-1) : Int32).toInt = -6) ∨ ((1 ≤ d.toInt ∧ d.toInt ≤ 24) ∧ ((-1) : Int32).toInt = (if w.toInt = 0 then zWy (gki p_.toNatClampNeg).toInt (gpa p_.toNatClampNeg).toInt nhu.toInt d.toInt else if w.toInt = 1 then zShl (gki p_.toNatClampNeg).toInt (gpa p_.toNatClampNeg).toInt d.toInt else zDpr (gki p_.toNatClampNeg).toInt (gpa p_.toNatClampNeg).toInt nhu.toInt d.toInt)))))) from by (have k1m : ((-1) : Int32).toInt = -1 := (by decide); omega)), trivial⟩, zRet ht hP hD [2, 3, 0, 1] (by decide) rfl⟩, hS.F ht⟩) hS.2.2 dX8_frees_13
  · refine lv_if_ne (tgt := 14) hx hb dX8_frees_5 (by decide) (fun c_15 => ?_) (fun c_15 => ?_)
    · refine lv_iload_n hx hb dX8_frees_14 rfl (lv_at hl 3 rfl) ?_
      refine lv_if_lt (tgt := 23) hx hb dX8_frees_15 (by decide) (fun c_16 => ?_) (fun c_16 => ?_)
      · have fc_16 : w.toInt < 0 := zf_lt c_16 rfl (by decide)
        refine lv_aload_n hx hb dX8_frees_23 rfl (lv_at hl 0 rfl) ?_
        refine lv_bipush (v := (-5)) hx hb dX8_frees_24 (by decide) ?_
        skip
        refine zw_V (As := [.int (-5)]) (rest := []) (wr := [(mki, .inl (cI, 8, .inl gki)), (mpa, .inl (cI, 8, .inl gpa))]) ⟨hx, hb, hml, hown, hts⟩ (c_M_no_5 l D cI cJ cZ cP cS po m0 mrf mki mpa mta mla msl mco mhe mso msi msh mce mca mwo mnu mte mwa mke mma mth mtr (npu) (nte) (nat_) (nde) (nto) (nse) (nhu) (nga) (nsd) (nfa) (nba) (npl) (nen) (nnu) (nwr) (nra) (nik) grf hy0 hy1 hy2 hy3 hy4 hy5 hy6 hy7 hy8 hy9 hy10 hy11 hy12 hy13 H.size) (cwV 1 hts gX8_frees_X8_no rfl rfl rfl ⟨rfl, dh_X8_no⟩ ⟨Nat.le_of_ble_eq_true rfl, Nat.le_of_ble_eq_true rfl⟩) hK hN (hZ.kept hS) hP hD hS hA [0, 1] [2, 3] rfl rfl (by decide) (by decide) (by decide) (va_recv (q := (RX8, TX8, 38)) hK hP (ci := 8) (q0 := 0) rfl rfl) rfl hl.1 rfl (Nat.le_of_ble_eq_true rfl) dX8_frees_26 ⟨Nat.le_of_ble_eq_true rfl, Nat.le_of_ble_eq_true rfl⟩ (fun r_17 u_18 H locs hr_17 hP hD hS => ?_)
        obtain ⟨q_19, rfl⟩ : ∃ z, z = u_18 := ⟨_, rfl⟩
        have h9R := zRe (ws' := [(mki, .inl (cI, 8, .inl gki)), (mpa, .inl (cI, 8, .inl gpa)), (zMO m0 npu nte nat_ nde nto nse nhu nga nsd nfa mrf mki mpa mta mla msl mco mhe mso msi msh mce mca mwo mnu mte nba npl nen nnu nwr mwa mke mma mth mtr nra nik), (mrf, .inl (cI, 8, .inl q_19))]) hP hD rfl
        clear hP hD
        obtain ⟨hP, hD⟩ := h9R
        obtain rfl := hr_17
        exact W.iret (v := (-5)) hx hb hr (fun t ht hW => ⟨⟨(-5), q_19, rfl, ⟨(show ((p_.toInt < 0 ∨ npu.toInt ≤ p_.toInt) ∧ ((-5) : Int32).toInt = -1) ∨ ((0 ≤ p_.toInt ∧ p_.toInt < npu.toInt) ∧ (((w.toInt < 0 ∨ 2 < w.toInt) ∧ ((-5) : Int32).toInt = -5) ∨ ((0 ≤ w.toInt ∧ w.toInt ≤ 2) ∧ (((d.toInt < 1 ∨ 24 < d.toInt) ∧ ((-5) : Int32).toInt = -6) ∨ ((1 ≤ d.toInt ∧ d.toInt ≤ 24) ∧ ((-5) : Int32).toInt = (if w.toInt = 0 then zWy (gki p_.toNatClampNeg).toInt (gpa p_.toNatClampNeg).toInt nhu.toInt d.toInt else if w.toInt = 1 then zShl (gki p_.toNatClampNeg).toInt (gpa p_.toNatClampNeg).toInt d.toInt else zDpr (gki p_.toNatClampNeg).toInt (gpa p_.toNatClampNeg).toInt nhu.toInt d.toInt)))))) from by (have k5m : ((-5) : Int32).toInt = -5 := (by decide); omega)), trivial⟩, zRet ht hP hD [2, 3, 0, 1] (by decide) rfl⟩, hS.F ht⟩) hS.2.2 dX8_frees_29
      · have fc_16 : 0 ≤ w.toInt := zf_nlt c_16 rfl (by decide)
        refine lv_iload_n hx hb dX8_frees_18 rfl (lv_at hl 3 rfl) ?_
        refine lv_iconst (v := 2) hx hb dX8_frees_19 (by decide) ?_
        refine lv_icmp_le (tgt := 30) hx hb dX8_frees_20 (by decide) (fun c_20 => ?_) (fun c_20 => ?_)
        · have fc_20 : w.toInt ≤ 2 := zf_le c_20 rfl (by decide)
          refine lv_iload_n hx hb dX8_frees_30 rfl (lv_at hl 2 rfl) ?_
          refine lv_iconst (v := 1) hx hb dX8_frees_31 (by decide) ?_
          refine lv_icmp_lt (tgt := 41) hx hb dX8_frees_32 (by decide) (fun c_21 => ?_) (fun c_21 => ?_)
          · have fc_21 : d.toInt < 1 := zf_lt c_21 rfl (by decide)
            refine lv_aload_n hx hb dX8_frees_41 rfl (lv_at hl 0 rfl) ?_
            refine lv_bipush (v := (-6)) hx hb dX8_frees_42 (by decide) ?_
            skip
            refine zw_V (As := [.int (-6)]) (rest := []) (wr := [(mki, .inl (cI, 8, .inl gki)), (mpa, .inl (cI, 8, .inl gpa))]) ⟨hx, hb, hml, hown, hts⟩ (c_M_no_6 l D cI cJ cZ cP cS po m0 mrf mki mpa mta mla msl mco mhe mso msi msh mce mca mwo mnu mte mwa mke mma mth mtr (npu) (nte) (nat_) (nde) (nto) (nse) (nhu) (nga) (nsd) (nfa) (nba) (npl) (nen) (nnu) (nwr) (nra) (nik) grf hy0 hy1 hy2 hy3 hy4 hy5 hy6 hy7 hy8 hy9 hy10 hy11 hy12 hy13 H.size) (cwV 1 hts gX8_frees_X8_no rfl rfl rfl ⟨rfl, dh_X8_no⟩ ⟨Nat.le_of_ble_eq_true rfl, Nat.le_of_ble_eq_true rfl⟩) hK hN (hZ.kept hS) hP hD hS hA [0, 1] [2, 3] rfl rfl (by decide) (by decide) (by decide) (va_recv (q := (RX8, TX8, 38)) hK hP (ci := 8) (q0 := 0) rfl rfl) rfl hl.1 rfl (Nat.le_of_ble_eq_true rfl) dX8_frees_44 ⟨Nat.le_of_ble_eq_true rfl, Nat.le_of_ble_eq_true rfl⟩ (fun r_22 u_23 H locs hr_22 hP hD hS => ?_)
            obtain ⟨q_24, rfl⟩ : ∃ z, z = u_23 := ⟨_, rfl⟩
            have h9R := zRe (ws' := [(mki, .inl (cI, 8, .inl gki)), (mpa, .inl (cI, 8, .inl gpa)), (zMO m0 npu nte nat_ nde nto nse nhu nga nsd nfa mrf mki mpa mta mla msl mco mhe mso msi msh mce mca mwo mnu mte nba npl nen nnu nwr mwa mke mma mth mtr nra nik), (mrf, .inl (cI, 8, .inl q_24))]) hP hD rfl
            clear hP hD
            obtain ⟨hP, hD⟩ := h9R
            obtain rfl := hr_22
            exact W.iret (v := (-6)) hx hb hr (fun t ht hW => ⟨⟨(-6), q_24, rfl, ⟨(show ((p_.toInt < 0 ∨ npu.toInt ≤ p_.toInt) ∧ ((-6) : Int32).toInt = -1) ∨ ((0 ≤ p_.toInt ∧ p_.toInt < npu.toInt) ∧ (((w.toInt < 0 ∨ 2 < w.toInt) ∧ ((-6) : Int32).toInt = -5) ∨ ((0 ≤ w.toInt ∧ w.toInt ≤ 2) ∧ (((d.toInt < 1 ∨ 24 < d.toInt) ∧ ((-6) : Int32).toInt = -6) ∨ ((1 ≤ d.toInt ∧ d.toInt ≤ 24) ∧ ((-6) : Int32).toInt = (if w.toInt = 0 then zWy (gki p_.toNatClampNeg).toInt (gpa p_.toNatClampNeg).toInt nhu.toInt d.toInt else if w.toInt = 1 then zShl (gki p_.toNatClampNeg).toInt (gpa p_.toNatClampNeg).toInt d.toInt else zDpr (gki p_.toNatClampNeg).toInt (gpa p_.toNatClampNeg).toInt nhu.toInt d.toInt)))))) from by (have k6m : ((-6) : Int32).toInt = -6 := (by decide); omega)), trivial⟩, zRet ht hP hD [2, 3, 0, 1] (by decide) rfl⟩, hS.F ht⟩) hS.2.2 dX8_frees_47
          · have fc_21 : 1 ≤ d.toInt := zf_nlt c_21 rfl (by decide)
            refine lv_iload_n hx hb dX8_frees_35 rfl (lv_at hl 2 rfl) ?_
            refine lv_bipush (v := 24) hx hb dX8_frees_36 (by decide) ?_
            refine lv_icmp_le (tgt := 48) hx hb dX8_frees_38 (by decide) (fun c_25 => ?_) (fun c_25 => ?_)
            · have fc_25 : d.toInt ≤ 24 := zf_le c_25 rfl (by decide)
              refine lv_iload_n hx hb dX8_frees_48 rfl (lv_at hl 3 rfl) ?_
              refine lv_if_ne (tgt := 61) hx hb dX8_frees_49 (by decide) (fun c_26 => ?_) (fun c_26 => ?_)
              · have fc_26 : w.toInt ≠ 0 := zf_ne c_26 rfl (by decide)
                refine lv_aload_n hx hb dX8_frees_61 rfl (lv_at hl 0 rfl) ?_
                refine lv_iload_n hx hb dX8_frees_62 rfl (lv_at hl 1 rfl) ?_
                refine lv_iload_n hx hb dX8_frees_63 rfl (lv_at hl 2 rfl) ?_
                refine lv_iload_n hx hb dX8_frees_64 rfl (lv_at hl 3 rfl) ?_
                refine lv_iconst (v := 1) hx hb dX8_frees_65 (by decide) ?_
                refine lv_icmp_ne (tgt := 73) hx hb dX8_frees_66 (by decide) (fun c_27 => ?_) (fun c_27 => ?_)
                · have fc_27 : w.toInt ≠ 1 := zf_ne c_27 rfl (by decide)
                  refine lv_iconst (v := 0) hx hb dX8_frees_73 (by decide) ?_
                  have kc0 : (0 : Int32).toInt = 0 := by decide
                  refine zc_V (As := [.int p_, .int d, .int 0]) (rest := []) ⟨hx, hb, hml, hown, hts⟩ (c_F_M_deep l D cI cJ cZ cP cS po m0 mrf mki mpa mta mla msl mco mhe mso msi msh mce mca mwo mnu mte mwa mke mma mth mtr (npu) (nte) (nat_) (nde) (nto) (nse) (nhu) (nga) (nsd) (nfa) (nba) (npl) (nen) (nnu) (nwr) (nra) (nik) gki gpa (p_) (d) (0) hy0 hy1 hy2 hy3 hy4 hy5 hy6 hy7 hy8 hy9 hy10 hy11 hy12 hy13 (by omega) (by omega) (by omega) (by omega) (by omega) (by omega) hp_gki hp_gpa) (cwV 3 hts gX8_frees_X8_deep rfl rfl rfl ⟨rfl, dh_X8_deep⟩ ⟨Nat.le_of_ble_eq_true rfl, Nat.le_of_ble_eq_true rfl⟩) hK hN (hZ.kept hS) hP (hP.sub [0, 2, 3] rfl) (va_recv (q := (RX8, TX8, 38)) hK hP (ci := 8) (q0 := 0) rfl rfl) rfl hl.1 rfl (Nat.le_of_ble_eq_true rfl) dX8_frees_74 ⟨Nat.le_of_ble_eq_true rfl, Nat.le_of_ble_eq_true rfl⟩ (fun r_28 hr_28 => ?_)
                  obtain ⟨g_29, g_30, hsr_28_0⟩ := hr_28
                  exact W.iret (v := r_28) hx hb hr (fun t ht hW => ⟨⟨r_28, grf, rfl, ⟨(show ((p_.toInt < 0 ∨ npu.toInt ≤ p_.toInt) ∧ (r_28 : Int32).toInt = -1) ∨ ((0 ≤ p_.toInt ∧ p_.toInt < npu.toInt) ∧ (((w.toInt < 0 ∨ 2 < w.toInt) ∧ (r_28 : Int32).toInt = -5) ∨ ((0 ≤ w.toInt ∧ w.toInt ≤ 2) ∧ (((d.toInt < 1 ∨ 24 < d.toInt) ∧ (r_28 : Int32).toInt = -6) ∨ ((1 ≤ d.toInt ∧ d.toInt ≤ 24) ∧ (r_28 : Int32).toInt = (if w.toInt = 0 then zWy (gki p_.toNatClampNeg).toInt (gpa p_.toNatClampNeg).toInt nhu.toInt d.toInt else if w.toInt = 1 then zShl (gki p_.toNatClampNeg).toInt (gpa p_.toNatClampNeg).toInt d.toInt else zDpr (gki p_.toNatClampNeg).toInt (gpa p_.toNatClampNeg).toInt nhu.toInt d.toInt)))))) from by (refine Or.inr ⟨by omega, Or.inr ⟨by omega, Or.inr ⟨by omega, ?_⟩⟩⟩; (repeat (first | rw [if_pos (by omega)] | rw [if_neg (by omega)])); first | exact hsr_28_0.1 (by have k0 : (0 : Int32).toInt = 0 := (by decide); have k1 : (1 : Int32).toInt = 1 := (by decide); omega) | exact hsr_28_0.2 (by decide))), trivial⟩, zRet ht hP hD [0, 1, 2, 3] (by decide) rfl⟩, hS.F ht⟩) hS.2.2 dX8_frees_77
                · have fc_27 : w.toInt = 1 := zf_eq c_27 rfl (by decide)
                  refine lv_iconst (v := 1) hx hb dX8_frees_69 (by decide) ?_
                  refine lv_goto (tgt := 74) hx hb dX8_frees_70 (by decide) ?_
                  have kc1 : (1 : Int32).toInt = 1 := by decide
                  refine zc_V (As := [.int p_, .int d, .int 1]) (rest := []) ⟨hx, hb, hml, hown, hts⟩ (c_F_M_deep l D cI cJ cZ cP cS po m0 mrf mki mpa mta mla msl mco mhe mso msi msh mce mca mwo mnu mte mwa mke mma mth mtr (npu) (nte) (nat_) (nde) (nto) (nse) (nhu) (nga) (nsd) (nfa) (nba) (npl) (nen) (nnu) (nwr) (nra) (nik) gki gpa (p_) (d) (1) hy0 hy1 hy2 hy3 hy4 hy5 hy6 hy7 hy8 hy9 hy10 hy11 hy12 hy13 (by omega) (by omega) (by omega) (by omega) (by omega) (by omega) hp_gki hp_gpa) (cwV 3 hts gX8_frees_X8_deep rfl rfl rfl ⟨rfl, dh_X8_deep⟩ ⟨Nat.le_of_ble_eq_true rfl, Nat.le_of_ble_eq_true rfl⟩) hK hN (hZ.kept hS) hP (hP.sub [0, 2, 3] rfl) (va_recv (q := (RX8, TX8, 38)) hK hP (ci := 8) (q0 := 0) rfl rfl) rfl hl.1 rfl (Nat.le_of_ble_eq_true rfl) dX8_frees_74 ⟨Nat.le_of_ble_eq_true rfl, Nat.le_of_ble_eq_true rfl⟩ (fun r_31 hr_31 => ?_)
                  obtain ⟨g_32, g_33, hsr_31_0⟩ := hr_31
                  exact W.iret (v := r_31) hx hb hr (fun t ht hW => ⟨⟨r_31, grf, rfl, ⟨(show ((p_.toInt < 0 ∨ npu.toInt ≤ p_.toInt) ∧ (r_31 : Int32).toInt = -1) ∨ ((0 ≤ p_.toInt ∧ p_.toInt < npu.toInt) ∧ (((w.toInt < 0 ∨ 2 < w.toInt) ∧ (r_31 : Int32).toInt = -5) ∨ ((0 ≤ w.toInt ∧ w.toInt ≤ 2) ∧ (((d.toInt < 1 ∨ 24 < d.toInt) ∧ (r_31 : Int32).toInt = -6) ∨ ((1 ≤ d.toInt ∧ d.toInt ≤ 24) ∧ (r_31 : Int32).toInt = (if w.toInt = 0 then zWy (gki p_.toNatClampNeg).toInt (gpa p_.toNatClampNeg).toInt nhu.toInt d.toInt else if w.toInt = 1 then zShl (gki p_.toNatClampNeg).toInt (gpa p_.toNatClampNeg).toInt d.toInt else zDpr (gki p_.toNatClampNeg).toInt (gpa p_.toNatClampNeg).toInt nhu.toInt d.toInt)))))) from by (refine Or.inr ⟨by omega, Or.inr ⟨by omega, Or.inr ⟨by omega, ?_⟩⟩⟩; (repeat (first | rw [if_pos (by omega)] | rw [if_neg (by omega)])); first | exact hsr_31_0.1 (by have k0 : (0 : Int32).toInt = 0 := (by decide); have k1 : (1 : Int32).toInt = 1 := (by decide); omega) | exact hsr_31_0.2 (by decide))), trivial⟩, zRet ht hP hD [0, 1, 2, 3] (by decide) rfl⟩, hS.F ht⟩) hS.2.2 dX8_frees_77
              · have fc_26 : w.toInt = 0 := zf_eq c_26 rfl (by decide)
                refine lv_aload_n hx hb dX8_frees_52 rfl (lv_at hl 0 rfl) ?_
                refine lv_iload_n hx hb dX8_frees_53 rfl (lv_at hl 1 rfl) ?_
                refine lv_iload_n hx hb dX8_frees_54 rfl (lv_at hl 2 rfl) ?_
                refine zc_V (As := [.int p_, .int d]) (rest := []) ⟨hx, hb, hml, hown, hts⟩ (c_F_M_ways l D cI cJ cZ cP cS po m0 mrf mki mpa mta mla msl mco mhe mso msi msh mce mca mwo mnu mte mwa mke mma mth mtr (npu) (nte) (nat_) (nde) (nto) (nse) (nhu) (nga) (nsd) (nfa) (nba) (npl) (nen) (nnu) (nwr) (nra) (nik) gki gpa (p_) (d) hy0 hy1 hy2 hy3 hy4 hy5 hy6 hy7 hy8 hy9 hy10 hy11 hy12 hy13 (by omega) (by omega) (by omega) (by omega) hp_gki hp_gpa) (cwV 2 hts gX8_frees_X8_ways rfl rfl rfl ⟨rfl, dh_X8_ways⟩ ⟨Nat.le_of_ble_eq_true rfl, Nat.le_of_ble_eq_true rfl⟩) hK hN (hZ.kept hS) hP (hP.sub [0, 2, 3] rfl) (va_recv (q := (RX8, TX8, 38)) hK hP (ci := 8) (q0 := 0) rfl rfl) rfl hl.1 rfl (Nat.le_of_ble_eq_true rfl) dX8_frees_55 ⟨Nat.le_of_ble_eq_true rfl, Nat.le_of_ble_eq_true rfl⟩ (fun r_34 hr_34 => ?_)
                obtain ⟨g_35, g_36, hsr_34_0⟩ := hr_34
                refine lv_goto (tgt := 77) hx hb dX8_frees_58 (by decide) ?_
                exact W.iret (v := r_34) hx hb hr (fun t ht hW => ⟨⟨r_34, grf, rfl, ⟨(show ((p_.toInt < 0 ∨ npu.toInt ≤ p_.toInt) ∧ (r_34 : Int32).toInt = -1) ∨ ((0 ≤ p_.toInt ∧ p_.toInt < npu.toInt) ∧ (((w.toInt < 0 ∨ 2 < w.toInt) ∧ (r_34 : Int32).toInt = -5) ∨ ((0 ≤ w.toInt ∧ w.toInt ≤ 2) ∧ (((d.toInt < 1 ∨ 24 < d.toInt) ∧ (r_34 : Int32).toInt = -6) ∨ ((1 ≤ d.toInt ∧ d.toInt ≤ 24) ∧ (r_34 : Int32).toInt = (if w.toInt = 0 then zWy (gki p_.toNatClampNeg).toInt (gpa p_.toNatClampNeg).toInt nhu.toInt d.toInt else if w.toInt = 1 then zShl (gki p_.toNatClampNeg).toInt (gpa p_.toNatClampNeg).toInt d.toInt else zDpr (gki p_.toNatClampNeg).toInt (gpa p_.toNatClampNeg).toInt nhu.toInt d.toInt)))))) from by (refine Or.inr ⟨by omega, Or.inr ⟨by omega, Or.inr ⟨by omega, ?_⟩⟩⟩; (repeat (first | rw [if_pos (by omega)] | rw [if_neg (by omega)])); exact hsr_34_0)), trivial⟩, zRet ht hP hD [0, 1, 2, 3] (by decide) rfl⟩, hS.F ht⟩) hS.2.2 dX8_frees_77
            · have fc_25 : 24 < d.toInt := zf_nle c_25 rfl (by decide)
              refine lv_aload_n hx hb dX8_frees_41 rfl (lv_at hl 0 rfl) ?_
              refine lv_bipush (v := (-6)) hx hb dX8_frees_42 (by decide) ?_
              skip
              refine zw_V (As := [.int (-6)]) (rest := []) (wr := [(mki, .inl (cI, 8, .inl gki)), (mpa, .inl (cI, 8, .inl gpa))]) ⟨hx, hb, hml, hown, hts⟩ (c_M_no_6 l D cI cJ cZ cP cS po m0 mrf mki mpa mta mla msl mco mhe mso msi msh mce mca mwo mnu mte mwa mke mma mth mtr (npu) (nte) (nat_) (nde) (nto) (nse) (nhu) (nga) (nsd) (nfa) (nba) (npl) (nen) (nnu) (nwr) (nra) (nik) grf hy0 hy1 hy2 hy3 hy4 hy5 hy6 hy7 hy8 hy9 hy10 hy11 hy12 hy13 H.size) (cwV 1 hts gX8_frees_X8_no rfl rfl rfl ⟨rfl, dh_X8_no⟩ ⟨Nat.le_of_ble_eq_true rfl, Nat.le_of_ble_eq_true rfl⟩) hK hN (hZ.kept hS) hP hD hS hA [0, 1] [2, 3] rfl rfl (by decide) (by decide) (by decide) (va_recv (q := (RX8, TX8, 38)) hK hP (ci := 8) (q0 := 0) rfl rfl) rfl hl.1 rfl (Nat.le_of_ble_eq_true rfl) dX8_frees_44 ⟨Nat.le_of_ble_eq_true rfl, Nat.le_of_ble_eq_true rfl⟩ (fun r_37 u_38 H locs hr_37 hP hD hS => ?_)
              obtain ⟨q_39, rfl⟩ : ∃ z, z = u_38 := ⟨_, rfl⟩
              have h9R := zRe (ws' := [(mki, .inl (cI, 8, .inl gki)), (mpa, .inl (cI, 8, .inl gpa)), (zMO m0 npu nte nat_ nde nto nse nhu nga nsd nfa mrf mki mpa mta mla msl mco mhe mso msi msh mce mca mwo mnu mte nba npl nen nnu nwr mwa mke mma mth mtr nra nik), (mrf, .inl (cI, 8, .inl q_39))]) hP hD rfl
              clear hP hD
              obtain ⟨hP, hD⟩ := h9R
              obtain rfl := hr_37
              exact W.iret (v := (-6)) hx hb hr (fun t ht hW => ⟨⟨(-6), q_39, rfl, ⟨(show ((p_.toInt < 0 ∨ npu.toInt ≤ p_.toInt) ∧ ((-6) : Int32).toInt = -1) ∨ ((0 ≤ p_.toInt ∧ p_.toInt < npu.toInt) ∧ (((w.toInt < 0 ∨ 2 < w.toInt) ∧ ((-6) : Int32).toInt = -5) ∨ ((0 ≤ w.toInt ∧ w.toInt ≤ 2) ∧ (((d.toInt < 1 ∨ 24 < d.toInt) ∧ ((-6) : Int32).toInt = -6) ∨ ((1 ≤ d.toInt ∧ d.toInt ≤ 24) ∧ ((-6) : Int32).toInt = (if w.toInt = 0 then zWy (gki p_.toNatClampNeg).toInt (gpa p_.toNatClampNeg).toInt nhu.toInt d.toInt else if w.toInt = 1 then zShl (gki p_.toNatClampNeg).toInt (gpa p_.toNatClampNeg).toInt d.toInt else zDpr (gki p_.toNatClampNeg).toInt (gpa p_.toNatClampNeg).toInt nhu.toInt d.toInt)))))) from by (have k6m : ((-6) : Int32).toInt = -6 := (by decide); omega)), trivial⟩, zRet ht hP hD [2, 3, 0, 1] (by decide) rfl⟩, hS.F ht⟩) hS.2.2 dX8_frees_47
        · have fc_20 : 2 < w.toInt := zf_nle c_20 rfl (by decide)
          refine lv_aload_n hx hb dX8_frees_23 rfl (lv_at hl 0 rfl) ?_
          refine lv_bipush (v := (-5)) hx hb dX8_frees_24 (by decide) ?_
          skip
          refine zw_V (As := [.int (-5)]) (rest := []) (wr := [(mki, .inl (cI, 8, .inl gki)), (mpa, .inl (cI, 8, .inl gpa))]) ⟨hx, hb, hml, hown, hts⟩ (c_M_no_5 l D cI cJ cZ cP cS po m0 mrf mki mpa mta mla msl mco mhe mso msi msh mce mca mwo mnu mte mwa mke mma mth mtr (npu) (nte) (nat_) (nde) (nto) (nse) (nhu) (nga) (nsd) (nfa) (nba) (npl) (nen) (nnu) (nwr) (nra) (nik) grf hy0 hy1 hy2 hy3 hy4 hy5 hy6 hy7 hy8 hy9 hy10 hy11 hy12 hy13 H.size) (cwV 1 hts gX8_frees_X8_no rfl rfl rfl ⟨rfl, dh_X8_no⟩ ⟨Nat.le_of_ble_eq_true rfl, Nat.le_of_ble_eq_true rfl⟩) hK hN (hZ.kept hS) hP hD hS hA [0, 1] [2, 3] rfl rfl (by decide) (by decide) (by decide) (va_recv (q := (RX8, TX8, 38)) hK hP (ci := 8) (q0 := 0) rfl rfl) rfl hl.1 rfl (Nat.le_of_ble_eq_true rfl) dX8_frees_26 ⟨Nat.le_of_ble_eq_true rfl, Nat.le_of_ble_eq_true rfl⟩ (fun r_40 u_41 H locs hr_40 hP hD hS => ?_)
          obtain ⟨q_42, rfl⟩ : ∃ z, z = u_41 := ⟨_, rfl⟩
          have h9R := zRe (ws' := [(mki, .inl (cI, 8, .inl gki)), (mpa, .inl (cI, 8, .inl gpa)), (zMO m0 npu nte nat_ nde nto nse nhu nga nsd nfa mrf mki mpa mta mla msl mco mhe mso msi msh mce mca mwo mnu mte nba npl nen nnu nwr mwa mke mma mth mtr nra nik), (mrf, .inl (cI, 8, .inl q_42))]) hP hD rfl
          clear hP hD
          obtain ⟨hP, hD⟩ := h9R
          obtain rfl := hr_40
          exact W.iret (v := (-5)) hx hb hr (fun t ht hW => ⟨⟨(-5), q_42, rfl, ⟨(show ((p_.toInt < 0 ∨ npu.toInt ≤ p_.toInt) ∧ ((-5) : Int32).toInt = -1) ∨ ((0 ≤ p_.toInt ∧ p_.toInt < npu.toInt) ∧ (((w.toInt < 0 ∨ 2 < w.toInt) ∧ ((-5) : Int32).toInt = -5) ∨ ((0 ≤ w.toInt ∧ w.toInt ≤ 2) ∧ (((d.toInt < 1 ∨ 24 < d.toInt) ∧ ((-5) : Int32).toInt = -6) ∨ ((1 ≤ d.toInt ∧ d.toInt ≤ 24) ∧ ((-5) : Int32).toInt = (if w.toInt = 0 then zWy (gki p_.toNatClampNeg).toInt (gpa p_.toNatClampNeg).toInt nhu.toInt d.toInt else if w.toInt = 1 then zShl (gki p_.toNatClampNeg).toInt (gpa p_.toNatClampNeg).toInt d.toInt else zDpr (gki p_.toNatClampNeg).toInt (gpa p_.toNatClampNeg).toInt nhu.toInt d.toInt)))))) from by (have k5m : ((-5) : Int32).toInt = -5 := (by decide); omega)), trivial⟩, zRet ht hP hD [2, 3, 0, 1] (by decide) rfl⟩, hS.F ht⟩) hS.2.2 dX8_frees_29
    · exact absurd c_15 (by decide)
set_option maxHeartbeats 4000000 in
set_option maxRecDepth 100000 in
theorem c_F_M_intAt (l : Launch) (D : va_G) (cI cJ cZ cP cS : ClassId) (po : zPool) (m0 mrf mki mpa mta mla msl mco mhe mso msi msh mce mca mwo mnu mte mwa mke mma mth mtr : Nat) (npu nte nat_ nde nto nse nhu nga nsd nfa nba npl nen nnu nwr nra nik : Int32) (gce : Nat → Int64) (s_ i : Int32) (hy0 : 0 ≤ npu.toInt) (hy1 : npu.toInt ≤ 8) (hy2 : 4 ≤ nte.toInt) (hy3 : nte.toInt ≤ 40) (hy4 : 0 ≤ nat_.toInt) (hy5 : nat_.toInt ≤ 40) (hy6 : 0 ≤ nde.toInt) (hy7 : nde.toInt ≤ 24) (hy8 : 0 ≤ nhu.toInt) (hy9 : nhu.toInt ≤ 9) (hy10 : 0 ≤ nra.toInt) (hy11 : nra.toInt ≤ 2000) (hy12 : 0 ≤ nik.toInt) (hy13 : nik.toInt ≤ 1) (hy14 : 0 ≤ s_.toInt) (hy15 : s_.toInt ≤ 7) (hy16 : 0 ≤ i.toInt) (hy17 : i.toInt ≤ 159) : Met l yX8_intAt wsX8_intAt ({ frames := 0, cells := 0, slots := 0, locals := 0 }) (va_Pc [.ref m0, .int s_, .int i] (zR D (zKT cI cJ cZ cP cS) po [(zMO m0 npu nte nat_ nde nto nse nhu nga nsd nfa mrf mki mpa mta mla msl mco mhe mso msi msh mce mca mwo mnu mte nba npl nen nnu nwr mwa mke mma mth mtr nra nik), (mce, .inl (cJ, 1280, .inr (.inl gce)))])) (vp_Si (fun r => (r.toInt = (gce (160 * s_.toInt + i.toInt).toNat).toInt32.toInt))) 0 0 (fun _ => False) := by
  refine Met.ofW (cc := cX8_intAt) (maxL := 3) (ret := (some .int)) (by decide) rfl ?_
  intro p e s m args below meth c s₁ B hml hv
  obtain ⟨rfl, hP, hK, hN, hZ⟩ := hv
  have hx := B.exec
  have hb := B.bytes
  have hr := B.returns
  have hts := atoms_spec (ws := wsX8_intAt) B.pre
  have hown : s.vm.findClass RX8 = some m.cls := findClass_of_methodNamed B.named
  have hlocks := B.notSynchronized
  have hl := lv_entry ([.ref m0, .int s_, .int i]) (n := 3) (Nat.le_of_ble_eq_true rfl)
  rw [lg_entry_eq]
  generalize (lg_sl ([.ref m0, .int s_, .int i]) ++ List.replicate (3 - (lg_sl ([.ref m0, .int s_, .int i])).length) Slot.unset).toArray = ls at hl ⊢
  replace hl : lv_has ls 3 [(0, .ref m0), (1, .int s_), (2, .int i)] := hl
  refine lv_aload_n hx hb dX8_intAt_0 rfl (lv_at hl 0 rfl) ?_
  refine va_get (D := D) (ci := 8) (v := .ref mce) (C := RX8) (T := TX8) (N := 38) hx hb hts hi_X8_intAt_8 hown hK hP 0 rfl rfl 21 (by decide) (hts (.fieldLink RX8 59 "TheLiningsInItModel" "cells" "[J") (List.mem_of_getElem? (i := 1) rfl)) (fun _ h9 => h9) rfl dX8_intAt_1 ?_
  refine lv_sipush (v := 160) hx hb dX8_intAt_4 (by decide) ?_
  refine lv_iload_n hx hb dX8_intAt_7 rfl (lv_at hl 1 rfl) ?_
  refine lv_imul hx hb dX8_intAt_8 ?_
  refine lv_topi (fun x_1 ex_1 => ?_)
  have qx_1 : x_1.toInt = 160 * s_.toInt := by rw [ex_1]; exact zf_mul (by decide) rfl (by omega) (by omega)
  refine lv_iload_n hx hb dX8_intAt_9 rfl (lv_at hl 2 rfl) ?_
  refine lv_iadd hx hb dX8_intAt_10 ?_
  refine lv_topi (fun x_2 ex_2 => ?_)
  have qx_2 : x_2.toInt = x_1.toInt + i.toInt := by rw [ex_2]; exact zf_add rfl rfl (by omega) (by omega)
  refine va_lald hx hb hK hP 1 1 rfl rfl (zf_in (by omega) (by omega)) dX8_intAt_11 ?_
  refine lv_topl (fun x_3 ex_3 => ?_)
  refine lv_l2i hx hb dX8_intAt_12 rfl ?_
  refine lv_topi (fun x_4 ex_4 => ?_)
  exact W.iret (v := x_4) hx hb hr (fun t ht hW => ⟨x_4, rfl, (show (x_4 : Int32).toInt = (gce (160 * s_.toInt + i.toInt).toNat).toInt32.toInt from by (exact congrArg Int32.toInt (by rw [ex_4, ex_3]; congr 2; (show (x_2 : Int32).toInt.toNat = _; omega)))), ht⟩) (fun q hq => by cases hq) dX8_intAt_13
set_option maxHeartbeats 4000000 in
set_option maxRecDepth 100000 in
theorem c_F_M_barsOf (l : Launch) (D : va_G) (cI cJ cZ cP cS : ClassId) (po : zPool) (m0 mrf mki mpa mta mla msl mco mhe mso msi msh mce mca mwo mnu mte mwa mke mma mth mtr : Nat) (npu nte nat_ nde nto nse nhu nga nsd nfa nba npl nen nnu nwr nra nik : Int32) (ghe gsi : Nat → Int32) (gce : Nat → Int64) (s_ : Int32) (hy0 : 0 ≤ npu.toInt) (hy1 : npu.toInt ≤ 8) (hy2 : 4 ≤ nte.toInt) (hy3 : nte.toInt ≤ 40) (hy4 : 0 ≤ nat_.toInt) (hy5 : nat_.toInt ≤ 40) (hy6 : 0 ≤ nde.toInt) (hy7 : nde.toInt ≤ 24) (hy8 : 0 ≤ nhu.toInt) (hy9 : nhu.toInt ≤ 9) (hy10 : 0 ≤ nra.toInt) (hy11 : nra.toInt ≤ 2000) (hy12 : 0 ≤ nik.toInt) (hy13 : nik.toInt ≤ 1) (hp_ghe : zRg ghe (0) 2) (hp_gsi : zRg gsi (0) 160) : Met l yX8_barsOf wsX8_barsOf ({ frames := 2, cells := 0, slots := 0, locals := 42 }) (va_Pc [.ref m0, .int s_] (zR D (zKT cI cJ cZ cP cS) po [(zMO m0 npu nte nat_ nde nto nse nhu nga nsd nfa mrf mki mpa mta mla msl mco mhe mso msi msh mce mca mwo mnu mte nba npl nen nnu nwr mwa mke mma mth mtr nra nik), (mhe, .inl (cI, 8, .inl ghe)), (msi, .inl (cI, 8, .inl gsi)), (mce, .inl (cJ, 1280, .inr (.inl gce)))])) (vp_Si (fun r => -6 ≤ r.toInt ∧ r.toInt ≤ 0 ∧ (((s_.toInt < 0 ∨ 7 < s_.toInt) ∧ r.toInt = -1) ∨ ((0 ≤ s_.toInt ∧ s_.toInt ≤ 7) ∧ ∃ q : Int, zBelR (zHc (ghe s_.toNatClampNeg).toInt) (gsi s_.toNatClampNeg).toInt (zRw gce (160 * s_.toInt)) q ∧ r.toInt = -q)) ∧ ((r.toInt = 0 → 0 ≤ s_.toInt ∧ s_.toInt ≤ 7)))) 0 0 (fun _ => False) := by
  refine Met.ofW (cc := cX8_barsOf) (maxL := 4) (ret := (some .int)) (by decide) rfl ?_
  intro p e s m args below meth c s₁ B hml hv
  obtain ⟨rfl, hP, hK, hN, hZ⟩ := hv
  have hx := B.exec
  have hb := B.bytes
  have hr := B.returns
  have hts := atoms_spec (ws := wsX8_barsOf) B.pre
  have hown : s.vm.findClass RX8 = some m.cls := findClass_of_methodNamed B.named
  have hlocks := B.notSynchronized
  have hl := lv_entry ([.ref m0, .int s_]) (n := 4) (Nat.le_of_ble_eq_true rfl)
  rw [lg_entry_eq]
  generalize (lg_sl ([.ref m0, .int s_]) ++ List.replicate (4 - (lg_sl ([.ref m0, .int s_])).length) Slot.unset).toArray = ls at hl ⊢
  replace hl : lv_has ls 4 [(0, .ref m0), (1, .int s_)] := hl
  refine lv_aload_n hx hb dX8_barsOf_0 rfl (lv_at hl 0 rfl) ?_
  refine lv_iload_n hx hb dX8_barsOf_1 rfl (lv_at hl 1 rfl) ?_
  refine zc_V (As := [.int s_]) (rest := []) ⟨hx, hb, hml, hown, hts⟩ (c_F_M_wanted l D cI cJ cZ cP cS po m0 mrf mki mpa mta mla msl mco mhe mso msi msh mce mca mwo mnu mte mwa mke mma mth mtr (npu) (nte) (nat_) (nde) (nto) (nse) (nhu) (nga) (nsd) (nfa) (nba) (npl) (nen) (nnu) (nwr) (nra) (nik) ghe (s_) hy0 hy1 hy2 hy3 hy4 hy5 hy6 hy7 hy8 hy9 hy10 hy11 hy12 hy13 hp_ghe) (cwV 1 hts gX8_barsOf_X8_wanted rfl rfl rfl ⟨rfl, dh_X8_wanted⟩ ⟨Nat.le_of_ble_eq_true rfl, Nat.le_of_ble_eq_true rfl⟩) hK hN hZ hP (hP.sub [0, 1] rfl) (va_recv (q := (RX8, TX8, 38)) hK hP (ci := 8) (q0 := 0) rfl rfl) rfl hl.1 rfl (Nat.le_of_ble_eq_true rfl) dX8_barsOf_2 ⟨Nat.le_of_ble_eq_true rfl, Nat.le_of_ble_eq_true rfl⟩ (fun r_1 hr_1 => ?_)
  obtain ⟨g_2, g_3, hsr_1_0⟩ := hr_1
  refine lv_istore_n (lv' := [(2, .int r_1), (0, .ref m0), (1, .int s_)]) hx hb dX8_barsOf_5 rfl hl (by decide) rfl (fun ls hl => ?_)
  refine lv_iload_n hx hb dX8_barsOf_6 rfl (lv_at hl 0 rfl) ?_
  refine lv_if_eq (tgt := 12) hx hb dX8_barsOf_7 (by decide) (fun c_4 => ?_) (fun c_4 => ?_)
  · have fc_4 : r_1.toInt = 0 := zf_eq c_4 rfl (by decide)
    refine lv_aload_n hx hb dX8_barsOf_12 rfl (lv_at hl 1 rfl) ?_
    refine va_get (D := D) (ci := 8) (v := .ref msi) (C := RX8) (T := TX8) (N := 38) hx hb hts hi_X8_barsOf_8 hown hK hP 0 rfl rfl 19 (by decide) (hts (.fieldLink RX8 53 "TheLiningsInItModel" "size" "[I") (List.mem_of_getElem? (i := 1) rfl)) (fun _ h9 => h9) rfl dX8_barsOf_13 ?_
    refine lv_iload_n hx hb dX8_barsOf_16 rfl (lv_at hl 2 rfl) ?_
    refine va_iald hx hb hK hP 2 0 rfl rfl (zf_in (by omega) (by omega)) dX8_barsOf_17 ?_
    refine lv_topi (fun x_5 ex_5 => ?_)
    have bx_5 : 0 ≤ x_5.toInt ∧ x_5.toInt ≤ 160 := by rw [ex_5]; exact hp_gsi _
    refine lv_bipush (v := 25) hx hb dX8_barsOf_18 (by decide) ?_
    refine lv_icmp_ge (tgt := 26) hx hb dX8_barsOf_20 (by decide) (fun c_6 => ?_) (fun c_6 => ?_)
    · have fc_6 : 25 ≤ x_5.toInt := zf_le c_6 (by decide) rfl
      refine lv_iconst (v := 0) hx hb dX8_barsOf_26 (by decide) ?_
      refine lv_istore_n (lv' := [(3, .int 0), (2, .int r_1), (0, .ref m0), (1, .int s_)]) hx hb dX8_barsOf_27 rfl hl (by decide) rfl (fun ls hl => ?_)
      obtain ⟨i_28, hi_28⟩ : ∃ i : Int32, i = 0 := ⟨_, rfl⟩
      replace hl : lv_has ls 4 [(3, .int i_28), (0, .ref m0), (1, .int s_)] := by rw [hi_28]; exact lv_sub hl [0, 2, 3] rfl
      have h1i_28 : i_28.toInt = 0 := by rw [hi_28]; decide
      obtain ⟨nfu, hni_28⟩ : ∃ nq9 : Nat, 25 ≤ i_28.toInt + (nq9 : Int) := ⟨((25 : Int) - 0).toNat, by omega⟩
      have hloi_28 : 0 ≤ i_28.toInt := by omega
      have hvi_28_0 : (∀ i : Nat, (i : Int) < i_28.toInt → 0 ≤ zTl (zRw gce (160 * s_.toInt)) (i : Int) ∧ zTl (zRw gce (160 * s_.toInt)) (i : Int) ≤ 99) := by
        (try rw [hi_28]); (intro i hi; exfalso; have k0 : (0 : Int32).toInt = 0 := (by decide); omega)
      clear h1i_28 hi_28
      revert hni_28
      revert hloi_28
      revert hvi_28_0
      revert hl
      revert ls
      revert i_28
      induction nfu with
      | zero =>
        intro i_28 ls hl hvi_28_0 hloi_28 hni_28
        have hzi_28 : 25 ≤ i_28.toInt := by omega
        refine lv_iload_n hx hb dX8_barsOf_28 rfl (lv_at hl 0 rfl) ?_
        refine lv_bipush (v := 24) hx hb dX8_barsOf_29 (by decide) ?_
        refine lv_icmp_gt (tgt := 63) hx hb dX8_barsOf_31 (by decide) (fun c_7 => ?_) (fun c_7 => ?_)
        · have fc_7 : 24 < i_28.toInt := zf_lt c_7 (by decide) rfl
          refine lv_iconst (v := 0) hx hb dX8_barsOf_63 (by decide) ?_
          exact W.iret (v := 0) hx hb hr (fun t ht hW => ⟨0, rfl, ⟨by decide, by decide, (show ((s_.toInt < 0 ∨ 7 < s_.toInt) ∧ (0 : Int32).toInt = -1) ∨ ((0 ≤ s_.toInt ∧ s_.toInt ≤ 7) ∧ ∃ q : Int, zBelR (zHc (ghe s_.toNatClampNeg).toInt) (gsi s_.toNatClampNeg).toInt (zRw gce (160 * s_.toInt)) q ∧ (0 : Int32).toInt = -q) from by (have k9 : (0 : Int32).toInt = 0 := (by decide); have zw := hsr_1_0; have hz : zHc (ghe s_.toNatClampNeg).toInt = 100 := (by unfold zHc; rw [if_pos (by omega)]); have h25 : 25 ≤ (gsi s_.toNatClampNeg).toInt := (by (try rw [← ex_5]); omega); exact Or.inr ⟨by omega, 0, Or.inr (Or.inr (Or.inr (Or.inr ⟨by omega, h25, fun i hi => hvi_28_0 i (by omega), rfl⟩))), by omega⟩)), (show ((0 : Int32).toInt = 0 → 0 ≤ s_.toInt ∧ s_.toInt ≤ 7) from by (have k9 : (0 : Int32).toInt = 0 := (by decide); intro h; have zw := hsr_1_0; omega))⟩, ht⟩) (fun q hq => by cases hq) dX8_barsOf_64
        · exfalso; have fc_7 : i_28.toInt ≤ 24 := zf_nlt c_7 (by decide) rfl; omega
      | succ nfu ih =>
        intro i_28 ls hl hvi_28_0 hloi_28 hni_28
        refine lv_iload_n hx hb dX8_barsOf_28 rfl (lv_at hl 0 rfl) ?_
        refine lv_bipush (v := 24) hx hb dX8_barsOf_29 (by decide) ?_
        refine lv_icmp_gt (tgt := 63) hx hb dX8_barsOf_31 (by decide) (fun c_8 => ?_) (fun c_8 => ?_)
        · have fc_8 : 24 < i_28.toInt := zf_lt c_8 (by decide) rfl
          refine lv_iconst (v := 0) hx hb dX8_barsOf_63 (by decide) ?_
          exact W.iret (v := 0) hx hb hr (fun t ht hW => ⟨0, rfl, ⟨by decide, by decide, (show ((s_.toInt < 0 ∨ 7 < s_.toInt) ∧ (0 : Int32).toInt = -1) ∨ ((0 ≤ s_.toInt ∧ s_.toInt ≤ 7) ∧ ∃ q : Int, zBelR (zHc (ghe s_.toNatClampNeg).toInt) (gsi s_.toNatClampNeg).toInt (zRw gce (160 * s_.toInt)) q ∧ (0 : Int32).toInt = -q) from by (have k9 : (0 : Int32).toInt = 0 := (by decide); have zw := hsr_1_0; have hz : zHc (ghe s_.toNatClampNeg).toInt = 100 := (by unfold zHc; rw [if_pos (by omega)]); have h25 : 25 ≤ (gsi s_.toNatClampNeg).toInt := (by (try rw [← ex_5]); omega); exact Or.inr ⟨by omega, 0, Or.inr (Or.inr (Or.inr (Or.inr ⟨by omega, h25, fun i hi => hvi_28_0 i (by omega), rfl⟩))), by omega⟩)), (show ((0 : Int32).toInt = 0 → 0 ≤ s_.toInt ∧ s_.toInt ≤ 7) from by (have k9 : (0 : Int32).toInt = 0 := (by decide); intro h; have zw := hsr_1_0; omega))⟩, ht⟩) (fun q hq => by cases hq) dX8_barsOf_64
        · have fc_8 : i_28.toInt ≤ 24 := zf_nlt c_8 (by decide) rfl
          refine lv_aload_n hx hb dX8_barsOf_34 rfl (lv_at hl 1 rfl) ?_
          refine lv_iload_n hx hb dX8_barsOf_35 rfl (lv_at hl 2 rfl) ?_
          refine lv_iload_n hx hb dX8_barsOf_36 rfl (lv_at hl 0 rfl) ?_
          refine zc_V (As := [.int s_, .int i_28]) (rest := []) ⟨hx, hb, hml, hown, hts⟩ (c_F_M_intAt l D cI cJ cZ cP cS po m0 mrf mki mpa mta mla msl mco mhe mso msi msh mce mca mwo mnu mte mwa mke mma mth mtr (npu) (nte) (nat_) (nde) (nto) (nse) (nhu) (nga) (nsd) (nfa) (nba) (npl) (nen) (nnu) (nwr) (nra) (nik) gce (s_) (i_28) hy0 hy1 hy2 hy3 hy4 hy5 hy6 hy7 hy8 hy9 hy10 hy11 hy12 hy13 (by omega) (by omega) (by omega) (by omega)) (cwV 2 hts gX8_barsOf_X8_intAt rfl rfl rfl ⟨rfl, dh_X8_intAt⟩ ⟨Nat.le_of_ble_eq_true rfl, Nat.le_of_ble_eq_true rfl⟩) hK hN hZ hP (hP.sub [0, 3] rfl) (va_recv (q := (RX8, TX8, 38)) hK hP (ci := 8) (q0 := 0) rfl rfl) rfl hl.1 rfl (Nat.le_of_ble_eq_true rfl) dX8_barsOf_37 ⟨Nat.le_of_ble_eq_true rfl, Nat.le_of_ble_eq_true rfl⟩ (fun r_9 hr_9 => ?_)
          have hsr_9_0 := hr_9
          refine lv_if_lt (tgt := 54) hx hb dX8_barsOf_40 (by decide) (fun c_10 => ?_) (fun c_10 => ?_)
          · have fc_10 : r_9.toInt < 0 := zf_lt c_10 rfl (by decide)
            refine lv_bipush (v := (-6)) hx hb dX8_barsOf_54 (by decide) ?_
            exact W.iret (v := (-6)) hx hb hr (fun t ht hW => ⟨(-6), rfl, ⟨by decide, by decide, (show ((s_.toInt < 0 ∨ 7 < s_.toInt) ∧ ((-6) : Int32).toInt = -1) ∨ ((0 ≤ s_.toInt ∧ s_.toInt ≤ 7) ∧ ∃ q : Int, zBelR (zHc (ghe s_.toNatClampNeg).toInt) (gsi s_.toNatClampNeg).toInt (zRw gce (160 * s_.toInt)) q ∧ ((-6) : Int32).toInt = -q) from by (have k9 : ((-6) : Int32).toInt = -6 := (by decide); have zw := hsr_1_0; have hz : zHc (ghe s_.toNatClampNeg).toInt = 100 := (by unfold zHc; rw [if_pos (by omega)]); have h25 : 25 ≤ (gsi s_.toNatClampNeg).toInt := (by (try rw [← ex_5]); omega); exact Or.inr ⟨by omega, 6, Or.inr (Or.inr (Or.inr (Or.inl ⟨by omega, h25, fun q => by (have z := q i_28.toInt.toNat (by omega); rw [show ((i_28.toInt.toNat : Nat) : Int) = i_28.toInt from by omega, zRw_tl (by omega), ← hsr_9_0] at z; omega), rfl⟩))), by omega⟩)), (show (((-6) : Int32).toInt = 0 → 0 ≤ s_.toInt ∧ s_.toInt ≤ 7) from by (have k9 : ((-6) : Int32).toInt = -6 := (by decide); intro h; have zw := hsr_1_0; omega))⟩, ht⟩) (fun q hq => by cases hq) dX8_barsOf_56
          · have fc_10 : 0 ≤ r_9.toInt := zf_nlt c_10 rfl (by decide)
            refine lv_aload_n hx hb dX8_barsOf_43 rfl (lv_at hl 1 rfl) ?_
            refine lv_iload_n hx hb dX8_barsOf_44 rfl (lv_at hl 2 rfl) ?_
            refine lv_iload_n hx hb dX8_barsOf_45 rfl (lv_at hl 0 rfl) ?_
            refine zc_V (As := [.int s_, .int i_28]) (rest := []) ⟨hx, hb, hml, hown, hts⟩ (c_F_M_intAt l D cI cJ cZ cP cS po m0 mrf mki mpa mta mla msl mco mhe mso msi msh mce mca mwo mnu mte mwa mke mma mth mtr (npu) (nte) (nat_) (nde) (nto) (nse) (nhu) (nga) (nsd) (nfa) (nba) (npl) (nen) (nnu) (nwr) (nra) (nik) gce (s_) (i_28) hy0 hy1 hy2 hy3 hy4 hy5 hy6 hy7 hy8 hy9 hy10 hy11 hy12 hy13 (by omega) (by omega) (by omega) (by omega)) (cwV 2 hts gX8_barsOf_X8_intAt rfl rfl rfl ⟨rfl, dh_X8_intAt⟩ ⟨Nat.le_of_ble_eq_true rfl, Nat.le_of_ble_eq_true rfl⟩) hK hN hZ hP (hP.sub [0, 3] rfl) (va_recv (q := (RX8, TX8, 38)) hK hP (ci := 8) (q0 := 0) rfl rfl) rfl hl.1 rfl (Nat.le_of_ble_eq_true rfl) dX8_barsOf_46 ⟨Nat.le_of_ble_eq_true rfl, Nat.le_of_ble_eq_true rfl⟩ (fun r_11 hr_11 => ?_)
            have hsr_11_0 := hr_11
            refine lv_bipush (v := 99) hx hb dX8_barsOf_49 (by decide) ?_
            refine lv_icmp_le (tgt := 57) hx hb dX8_barsOf_51 (by decide) (fun c_12 => ?_) (fun c_12 => ?_)
            · have fc_12 : r_11.toInt ≤ 99 := zf_le c_12 rfl (by decide)
              obtain ⟨x_13, ex_13⟩ : ∃ y : Int32, y = i_28 + 1 := ⟨_, rfl⟩
              have qx_13 : x_13.toInt = i_28.toInt + 1 := by rw [ex_13]; exact zf_add rfl (by decide) (by omega) (by omega)
              refine lv_iinc (v := x_13) (lv' := [(3, .int x_13), (0, .ref m0), (1, .int s_)]) hx hb dX8_barsOf_57 hl (k := 0) rfl ex_13.symm (by decide) rfl (fun ls hl => ?_)
              refine lv_goto (tgt := 28) hx hb dX8_barsOf_60 (by decide) ?_
              exact ih x_13 _ (lv_sub hl [0, 1, 2] rfl) (show (∀ i : Nat, (i : Int) < x_13.toInt → 0 ≤ zTl (zRw gce (160 * s_.toInt)) (i : Int) ∧ zTl (zRw gce (160 * s_.toInt)) (i : Int) ≤ 99) from by (intro i hi; rcases (show (i : Int) < i_28.toInt ∨ (i : Int) = i_28.toInt by omega) with h3 | h3; (exact hvi_28_0 i h3); (have z := hsr_11_0; rw [h3, zRw_tl (by omega), ← z]; omega))) (dw_lo hloi_28 qx_13) (dw_hn hni_28 qx_13)
            · have fc_12 : 99 < r_11.toInt := zf_nle c_12 rfl (by decide)
              refine lv_bipush (v := (-6)) hx hb dX8_barsOf_54 (by decide) ?_
              exact W.iret (v := (-6)) hx hb hr (fun t ht hW => ⟨(-6), rfl, ⟨by decide, by decide, (show ((s_.toInt < 0 ∨ 7 < s_.toInt) ∧ ((-6) : Int32).toInt = -1) ∨ ((0 ≤ s_.toInt ∧ s_.toInt ≤ 7) ∧ ∃ q : Int, zBelR (zHc (ghe s_.toNatClampNeg).toInt) (gsi s_.toNatClampNeg).toInt (zRw gce (160 * s_.toInt)) q ∧ ((-6) : Int32).toInt = -q) from by (have k9 : ((-6) : Int32).toInt = -6 := (by decide); have zw := hsr_1_0; have hz : zHc (ghe s_.toNatClampNeg).toInt = 100 := (by unfold zHc; rw [if_pos (by omega)]); have h25 : 25 ≤ (gsi s_.toNatClampNeg).toInt := (by (try rw [← ex_5]); omega); exact Or.inr ⟨by omega, 6, Or.inr (Or.inr (Or.inr (Or.inl ⟨by omega, h25, fun q => by (have z := q i_28.toInt.toNat (by omega); rw [show ((i_28.toInt.toNat : Nat) : Int) = i_28.toInt from by omega, zRw_tl (by omega), ← hsr_11_0] at z; omega), rfl⟩))), by omega⟩)), (show (((-6) : Int32).toInt = 0 → 0 ≤ s_.toInt ∧ s_.toInt ≤ 7) from by (have k9 : ((-6) : Int32).toInt = -6 := (by decide); intro h; have zw := hsr_1_0; omega))⟩, ht⟩) (fun q hq => by cases hq) dX8_barsOf_56
    · have fc_6 : x_5.toInt < 25 := zf_nle c_6 (by decide) rfl
      refine lv_bipush (v := (-5)) hx hb dX8_barsOf_23 (by decide) ?_
      exact W.iret (v := (-5)) hx hb hr (fun t ht hW => ⟨(-5), rfl, ⟨by decide, by decide, (show ((s_.toInt < 0 ∨ 7 < s_.toInt) ∧ ((-5) : Int32).toInt = -1) ∨ ((0 ≤ s_.toInt ∧ s_.toInt ≤ 7) ∧ ∃ q : Int, zBelR (zHc (ghe s_.toNatClampNeg).toInt) (gsi s_.toNatClampNeg).toInt (zRw gce (160 * s_.toInt)) q ∧ ((-5) : Int32).toInt = -q) from by (have k9 : ((-5) : Int32).toInt = -5 := (by decide); have zw := hsr_1_0; have hz : zHc (ghe s_.toNatClampNeg).toInt = 100 := (by unfold zHc; rw [if_pos (by omega)]); refine Or.inr ⟨by omega, 5, Or.inr (Or.inr (Or.inl ⟨by omega, ?_, rfl⟩)), by omega⟩; (try rw [← ex_5]); omega)), (show (((-5) : Int32).toInt = 0 → 0 ≤ s_.toInt ∧ s_.toInt ≤ 7) from by (have k9 : ((-5) : Int32).toInt = -5 := (by decide); intro h; have zw := hsr_1_0; omega))⟩, ht⟩) (fun q hq => by cases hq) dX8_barsOf_25
  · have fc_4 : r_1.toInt ≠ 0 := zf_ne c_4 rfl (by decide)
    refine lv_iload_n hx hb dX8_barsOf_10 rfl (lv_at hl 0 rfl) ?_
    exact W.iret (v := r_1) hx hb hr (fun t ht hW => ⟨r_1, rfl, ⟨by omega, by omega, (show ((s_.toInt < 0 ∨ 7 < s_.toInt) ∧ (r_1 : Int32).toInt = -1) ∨ ((0 ≤ s_.toInt ∧ s_.toInt ≤ 7) ∧ ∃ q : Int, zBelR (zHc (ghe s_.toNatClampNeg).toInt) (gsi s_.toNatClampNeg).toInt (zRw gce (160 * s_.toInt)) q ∧ (r_1 : Int32).toInt = -q) from by (have zw := hsr_1_0; unfold zBelR zHc; rcases zw with ⟨z1, z2⟩ | ⟨z1, ⟨z2, z3⟩ | ⟨z2, z3⟩ | ⟨z2, z3⟩⟩; (exact Or.inl ⟨z1, z2⟩); (exact Or.inr ⟨z1, 2, Or.inr (Or.inl ⟨by rw [if_neg (by omega), if_neg (by omega)]; omega, by rw [if_neg (by omega), if_neg (by omega)]; omega, rfl⟩), by omega⟩); (exact Or.inr ⟨z1, 3, Or.inl ⟨by rw [if_neg (by omega), if_pos (by omega)], rfl⟩, by omega⟩); (exfalso; omega))), (show ((r_1 : Int32).toInt = 0 → 0 ≤ s_.toInt ∧ s_.toInt ≤ 7) from by (intro h; have zw := hsr_1_0; omega))⟩, ht⟩) (fun q hq => by cases hq) dX8_barsOf_11
set_option maxHeartbeats 4000000 in
set_option maxRecDepth 100000 in
theorem c_F_M_freedBy (l : Launch) (D : va_G) (cI cJ cZ cP cS : ClassId) (po : zPool) (m0 mrf mki mpa mta mla msl mco mhe mso msi msh mce mca mwo mnu mte mwa mke mma mth mtr : Nat) (npu nte nat_ nde nto nse nhu nga nsd nfa nba npl nen nnu nwr nra nik : Int32) (gki gpa : Nat → Int32) (gce : Nat → Int64) (s_ p_ : Int32) (hy0 : 0 ≤ npu.toInt) (hy1 : npu.toInt ≤ 8) (hy2 : 4 ≤ nte.toInt) (hy3 : nte.toInt ≤ 40) (hy4 : 0 ≤ nat_.toInt) (hy5 : nat_.toInt ≤ 40) (hy6 : 0 ≤ nde.toInt) (hy7 : nde.toInt ≤ 24) (hy8 : 0 ≤ nhu.toInt) (hy9 : nhu.toInt ≤ 9) (hy10 : 0 ≤ nra.toInt) (hy11 : nra.toInt ≤ 2000) (hy12 : 0 ≤ nik.toInt) (hy13 : nik.toInt ≤ 1) (hy14 : 0 ≤ s_.toInt) (hy15 : s_.toInt ≤ 7) (hy16 : 0 ≤ p_.toInt) (hy17 : p_.toInt ≤ 7) (hbel : zBel (zRw gce (160 * s_.toInt))) (hp_gki : zRg gki (0) 6) (hp_gpa : zRg gpa (0) 9) : Met l yX8_freedBy wsX8_freedBy ({ frames := 1, cells := 0, slots := 0, locals := 23 }) (va_Pc [.ref m0, .int s_, .int p_] (zR D (zKT cI cJ cZ cP cS) po [(zMO m0 npu nte nat_ nde nto nse nhu nga nsd nfa mrf mki mpa mta mla msl mco mhe mso msi msh mce mca mwo mnu mte nba npl nen nnu nwr mwa mke mma mth mtr nra nik), (mki, .inl (cI, 8, .inl gki)), (mpa, .inl (cI, 8, .inl gpa)), (mce, .inl (cJ, 1280, .inr (.inl gce)))])) (vp_Si (fun r => 0 ≤ r.toInt ∧ r.toInt ≤ 29700 ∧ (r.toInt = zFd (zRw gce (160 * s_.toInt)) (gki p_.toNatClampNeg).toInt (gpa p_.toNatClampNeg).toInt nhu.toInt 24))) 0 0 (fun _ => False) := by
  refine Met.ofW (cc := cX8_freedBy) (maxL := 5) (ret := (some .int)) (by decide) rfl ?_
  intro p e s m args below meth c s₁ B hml hv
  obtain ⟨rfl, hP, hK, hN, hZ⟩ := hv
  have hx := B.exec
  have hb := B.bytes
  have hr := B.returns
  have hts := atoms_spec (ws := wsX8_freedBy) B.pre
  have hown : s.vm.findClass RX8 = some m.cls := findClass_of_methodNamed B.named
  have hlocks := B.notSynchronized
  have hl := lv_entry ([.ref m0, .int s_, .int p_]) (n := 5) (Nat.le_of_ble_eq_true rfl)
  rw [lg_entry_eq]
  generalize (lg_sl ([.ref m0, .int s_, .int p_]) ++ List.replicate (5 - (lg_sl ([.ref m0, .int s_, .int p_])).length) Slot.unset).toArray = ls at hl ⊢
  replace hl : lv_has ls 5 [(0, .ref m0), (1, .int s_), (2, .int p_)] := hl
  refine lv_bipush (v := 12) hx hb dX8_freedBy_0 (by decide) ?_
  refine lv_aload_n hx hb dX8_freedBy_2 rfl (lv_at hl 0 rfl) ?_
  refine lv_iload_n hx hb dX8_freedBy_3 rfl (lv_at hl 1 rfl) ?_
  refine lv_iconst (v := 0) hx hb dX8_freedBy_4 (by decide) ?_
  have kc0 : (0 : Int32).toInt = 0 := by decide
  refine zc_V (As := [.int s_, .int 0]) (rest := [.int 12]) ⟨hx, hb, hml, hown, hts⟩ (c_F_M_intAt l D cI cJ cZ cP cS po m0 mrf mki mpa mta mla msl mco mhe mso msi msh mce mca mwo mnu mte mwa mke mma mth mtr (npu) (nte) (nat_) (nde) (nto) (nse) (nhu) (nga) (nsd) (nfa) (nba) (npl) (nen) (nnu) (nwr) (nra) (nik) gce (s_) (0) hy0 hy1 hy2 hy3 hy4 hy5 hy6 hy7 hy8 hy9 hy10 hy11 hy12 hy13 hy14 hy15 (by omega) (by omega)) (cwV 2 hts gX8_freedBy_X8_intAt rfl rfl rfl ⟨rfl, dh_X8_intAt⟩ ⟨Nat.le_of_ble_eq_true rfl, Nat.le_of_ble_eq_true rfl⟩) hK hN hZ hP (hP.sub [0, 3] rfl) (va_recv (q := (RX8, TX8, 38)) hK hP (ci := 8) (q0 := 0) rfl rfl) rfl hl.1 rfl (Nat.le_of_ble_eq_true rfl) dX8_freedBy_5 ⟨Nat.le_of_ble_eq_true rfl, Nat.le_of_ble_eq_true rfl⟩ (fun r_1 hr_1 => ?_)
  have hsr_1_0 := hr_1
  have wr_1 := zTl_m hbel hsr_1_0 (by have k0 : (0 : Int32).toInt = 0 := (by decide); omega) (by have k0 : (0 : Int32).toInt = 0 := (by decide); omega)
  refine lv_imul hx hb dX8_freedBy_8 ?_
  refine lv_topi (fun x_2 ex_2 => ?_)
  have qx_2 : x_2.toInt = 12 * r_1.toInt := by rw [ex_2]; exact zf_mul (by decide) rfl (by omega) (by omega)
  refine lv_istore_n (lv' := [(3, .int x_2), (0, .ref m0), (1, .int s_), (2, .int p_)]) hx hb dX8_freedBy_9 rfl hl (by decide) rfl (fun ls hl => ?_)
  refine lv_iconst (v := 1) hx hb dX8_freedBy_10 (by decide) ?_
  refine lv_istore (lv' := [(4, .int 1), (3, .int x_2), (0, .ref m0), (1, .int s_), (2, .int p_)]) hx hb dX8_freedBy_11 hl (by decide) rfl (fun ls hl => ?_)
  obtain ⟨i_13, hi_13⟩ : ∃ i : Int32, i = 1 := ⟨_, rfl⟩
  replace hl : lv_has ls 5 [(4, .int i_13), (3, .int x_2), (0, .ref m0), (1, .int s_), (2, .int p_)] := by rw [hi_13]; exact lv_sub hl [0, 1, 2, 3, 4] rfl
  have h1i_13 : i_13.toInt = 1 := by rw [hi_13]; decide
  obtain ⟨nfu, hni_13⟩ : ∃ nq9 : Nat, 25 ≤ i_13.toInt + (nq9 : Int) := ⟨((25 : Int) - 1).toNat, by omega⟩
  have hloi_13 : 1 ≤ i_13.toInt := by omega
  obtain ⟨v_3, hv_3⟩ : ∃ g : Int32, g = x_2 := ⟨_, rfl⟩
  replace hl : lv_has ls 5 [(4, .int i_13), (3, .int v_3), (0, .ref m0), (1, .int s_), (2, .int p_)] := by rw [hv_3]; exact hl
  have hbv_3 : 0 ≤ v_3.toInt ∧ v_3.toInt ≤ 29700 := by rw [hv_3]; exact ⟨by omega, by omega⟩
  have hvi_13_0 : (v_3 : Int32).toInt = zFd (zRw gce (160 * s_.toInt)) (gki p_.toNatClampNeg).toInt (gpa p_.toNatClampNeg).toInt nhu.toInt (i_13.toInt - 1).toNat := by
    (try rw [hi_13]); (try rw [hv_3]); (rw [show ((1 : Int32).toInt - 1).toNat = 0 from by decide]; show _ = 12 * zTl (zRw gce (160 * s_.toInt)) 0; have z := wr_1.1; rw [show ((0 : Int32).toInt) = 0 from by decide] at z; omega)
  have hvi_13_1 : (v_3 : Int32).toInt ≤ 1188 * i_13.toInt ∧ i_13.toInt ≤ 25 := by
    (try rw [hi_13]); (try rw [hv_3]); (have k1 : (1 : Int32).toInt = 1 := (by decide); omega)
  clear h1i_13 hi_13 hv_3
  revert hni_13
  revert hloi_13
  revert hvi_13_1
  revert hvi_13_0
  revert hbv_3
  revert hl
  revert ls
  revert v_3
  revert i_13
  induction nfu with
  | zero =>
    intro i_13 v_3 ls hl hbv_3 hvi_13_0 hvi_13_1 hloi_13 hni_13
    have hzi_13 : 25 ≤ i_13.toInt := by omega
    refine lv_iload hx hb dX8_freedBy_13 (lv_at hl 0 rfl) ?_
    refine lv_bipush (v := 24) hx hb dX8_freedBy_15 (by decide) ?_
    refine lv_icmp_gt (tgt := 44) hx hb dX8_freedBy_17 (by decide) (fun c_4 => ?_) (fun c_4 => ?_)
    · have fc_4 : 24 < i_13.toInt := zf_lt c_4 (by decide) rfl
      refine lv_iload_n hx hb dX8_freedBy_44 rfl (lv_at hl 1 rfl) ?_
      exact W.iret (v := v_3) hx hb hr (fun t ht hW => ⟨v_3, rfl, ⟨by omega, by omega, (show (v_3 : Int32).toInt = zFd (zRw gce (160 * s_.toInt)) (gki p_.toNatClampNeg).toInt (gpa p_.toNatClampNeg).toInt nhu.toInt 24 from by (have h9 : (i_13.toInt - 1).toNat = 24 := (by omega); have z := hvi_13_0; rw [h9] at z; exact z))⟩, ht⟩) (fun q hq => by cases hq) dX8_freedBy_45
    · exfalso; have fc_4 : i_13.toInt ≤ 24 := zf_nlt c_4 (by decide) rfl; omega
  | succ nfu ih =>
    intro i_13 v_3 ls hl hbv_3 hvi_13_0 hvi_13_1 hloi_13 hni_13
    refine lv_iload hx hb dX8_freedBy_13 (lv_at hl 0 rfl) ?_
    refine lv_bipush (v := 24) hx hb dX8_freedBy_15 (by decide) ?_
    refine lv_icmp_gt (tgt := 44) hx hb dX8_freedBy_17 (by decide) (fun c_5 => ?_) (fun c_5 => ?_)
    · have fc_5 : 24 < i_13.toInt := zf_lt c_5 (by decide) rfl
      refine lv_iload_n hx hb dX8_freedBy_44 rfl (lv_at hl 1 rfl) ?_
      exact W.iret (v := v_3) hx hb hr (fun t ht hW => ⟨v_3, rfl, ⟨by omega, by omega, (show (v_3 : Int32).toInt = zFd (zRw gce (160 * s_.toInt)) (gki p_.toNatClampNeg).toInt (gpa p_.toNatClampNeg).toInt nhu.toInt 24 from by (have h9 : (i_13.toInt - 1).toNat = 24 := (by omega); have z := hvi_13_0; rw [h9] at z; exact z))⟩, ht⟩) (fun q hq => by cases hq) dX8_freedBy_45
    · have fc_5 : i_13.toInt ≤ 24 := zf_nlt c_5 (by decide) rfl
      refine lv_iload_n hx hb dX8_freedBy_20 rfl (lv_at hl 1 rfl) ?_
      refine lv_aload_n hx hb dX8_freedBy_21 rfl (lv_at hl 2 rfl) ?_
      refine lv_iload_n hx hb dX8_freedBy_22 rfl (lv_at hl 4 rfl) ?_
      refine lv_iload hx hb dX8_freedBy_23 (lv_at hl 0 rfl) ?_
      refine zc_V (As := [.int p_, .int i_13]) (rest := [.int v_3]) ⟨hx, hb, hml, hown, hts⟩ (c_F_M_ways l D cI cJ cZ cP cS po m0 mrf mki mpa mta mla msl mco mhe mso msi msh mce mca mwo mnu mte mwa mke mma mth mtr (npu) (nte) (nat_) (nde) (nto) (nse) (nhu) (nga) (nsd) (nfa) (nba) (npl) (nen) (nnu) (nwr) (nra) (nik) gki gpa (p_) (i_13) hy0 hy1 hy2 hy3 hy4 hy5 hy6 hy7 hy8 hy9 hy10 hy11 hy12 hy13 hy16 hy17 (by omega) (by omega) hp_gki hp_gpa) (cwV 2 hts gX8_freedBy_X8_ways rfl rfl rfl ⟨rfl, dh_X8_ways⟩ ⟨Nat.le_of_ble_eq_true rfl, Nat.le_of_ble_eq_true rfl⟩) hK hN hZ hP (hP.sub [0, 1, 2] rfl) (va_recv (q := (RX8, TX8, 38)) hK hP (ci := 8) (q0 := 0) rfl rfl) rfl hl.1 rfl (Nat.le_of_ble_eq_true rfl) dX8_freedBy_25 ⟨Nat.le_of_ble_eq_true rfl, Nat.le_of_ble_eq_true rfl⟩ (fun r_6 hr_6 => ?_)
      obtain ⟨g_7, g_8, hsr_6_0⟩ := hr_6
      refine lv_aload_n hx hb dX8_freedBy_28 rfl (lv_at hl 2 rfl) ?_
      refine lv_iload_n hx hb dX8_freedBy_29 rfl (lv_at hl 3 rfl) ?_
      refine lv_iload hx hb dX8_freedBy_30 (lv_at hl 0 rfl) ?_
      refine zc_V (As := [.int s_, .int i_13]) (rest := [.int r_6, .int v_3]) ⟨hx, hb, hml, hown, hts⟩ (c_F_M_intAt l D cI cJ cZ cP cS po m0 mrf mki mpa mta mla msl mco mhe mso msi msh mce mca mwo mnu mte mwa mke mma mth mtr (npu) (nte) (nat_) (nde) (nto) (nse) (nhu) (nga) (nsd) (nfa) (nba) (npl) (nen) (nnu) (nwr) (nra) (nik) gce (s_) (i_13) hy0 hy1 hy2 hy3 hy4 hy5 hy6 hy7 hy8 hy9 hy10 hy11 hy12 hy13 hy14 hy15 (by omega) (by omega)) (cwV 2 hts gX8_freedBy_X8_intAt rfl rfl rfl ⟨rfl, dh_X8_intAt⟩ ⟨Nat.le_of_ble_eq_true rfl, Nat.le_of_ble_eq_true rfl⟩) hK hN hZ hP (hP.sub [0, 3] rfl) (va_recv (q := (RX8, TX8, 38)) hK hP (ci := 8) (q0 := 0) rfl rfl) rfl hl.1 rfl (Nat.le_of_ble_eq_true rfl) dX8_freedBy_32 ⟨Nat.le_of_ble_eq_true rfl, Nat.le_of_ble_eq_true rfl⟩ (fun r_9 hr_9 => ?_)
      have hsr_9_0 := hr_9
      have wr_9 := zTl_m hbel hsr_9_0 (by have k0 : (0 : Int32).toInt = 0 := (by decide); omega) (by have k0 : (0 : Int32).toInt = 0 := (by decide); omega)
      refine lv_imul hx hb dX8_freedBy_35 ?_
      refine lv_topi (fun x_10 ex_10 => ?_)
      obtain ⟨mx_10, nx_10, ox_10⟩ := zf_mulr (a := r_9) (b := r_6) (m := r_9.toInt * r_6.toInt) rfl rfl ⟨by omega, by omega⟩ ⟨by omega, by omega⟩ rfl
      rw [show r_9 * r_6 = x_10 from by (rw [ex_10]; exact Int32.mul_comm _ _)] at mx_10
      refine lv_iadd hx hb dX8_freedBy_36 ?_
      refine lv_topi (fun x_11 ex_11 => ?_)
      have qx_11 : x_11.toInt = v_3.toInt + x_10.toInt := by rw [ex_11]; exact zf_add rfl rfl (by omega) (by omega)
      refine lv_istore_n (lv' := [(3, .int x_11), (4, .int i_13), (0, .ref m0), (1, .int s_), (2, .int p_)]) hx hb dX8_freedBy_37 rfl hl (by decide) rfl (fun ls hl => ?_)
      obtain ⟨x_12, ex_12⟩ : ∃ y : Int32, y = i_13 + 1 := ⟨_, rfl⟩
      have qx_12 : x_12.toInt = i_13.toInt + 1 := by rw [ex_12]; exact zf_add rfl (by decide) (by omega) (by omega)
      refine lv_iinc (v := x_12) (lv' := [(4, .int x_12), (3, .int x_11), (0, .ref m0), (1, .int s_), (2, .int p_)]) hx hb dX8_freedBy_38 hl (k := 1) rfl ex_12.symm (by decide) rfl (fun ls hl => ?_)
      refine lv_goto (tgt := 13) hx hb dX8_freedBy_41 (by decide) ?_
      exact ih x_12 x_11 _ (lv_sub hl [0, 1, 2, 3, 4] rfl) ⟨by omega, by omega⟩ (show (x_11 : Int32).toInt = zFd (zRw gce (160 * s_.toInt)) (gki p_.toNatClampNeg).toInt (gpa p_.toNatClampNeg).toInt nhu.toInt (x_12.toInt - 1).toNat from by (rw [show (x_12.toInt - 1).toNat = (i_13.toInt - 1).toNat + 1 from by omega, zFd_s, show (((i_13.toInt - 1).toNat : Nat) : Int) + 1 = i_13.toInt from by omega, ← hvi_13_0, ← wr_9.1, ← hsr_6_0]; omega)) (show (x_11 : Int32).toInt ≤ 1188 * x_12.toInt ∧ x_12.toInt ≤ 25 from by exact ⟨by omega, by omega⟩) (dw_lo hloi_13 qx_12) (dw_hn hni_13 qx_12)
set_option maxHeartbeats 4000000 in
set_option maxRecDepth 100000 in
theorem c_F_M_freed (l : Launch) (D : va_G) (cI cJ cZ cP cS : ClassId) (po : zPool) (m0 mrf mki mpa mta mla msl mco mhe mso msi msh mce mca mwo mnu mte mwa mke mma mth mtr : Nat) (npu nte nat_ nde nto nse nhu nga nsd nfa nba npl nen nnu nwr nra nik : Int32) (grf ghe gsi gki gpa : Nat → Int32) (gce : Nat → Int64) (s_ p_ : Int32) (hy0 : 0 ≤ npu.toInt) (hy1 : npu.toInt ≤ 8) (hy2 : 4 ≤ nte.toInt) (hy3 : nte.toInt ≤ 40) (hy4 : 0 ≤ nat_.toInt) (hy5 : nat_.toInt ≤ 40) (hy6 : 0 ≤ nde.toInt) (hy7 : nde.toInt ≤ 24) (hy8 : 0 ≤ nhu.toInt) (hy9 : nhu.toInt ≤ 9) (hy10 : 0 ≤ nra.toInt) (hy11 : nra.toInt ≤ 2000) (hy12 : 0 ≤ nik.toInt) (hy13 : nik.toInt ≤ 1) (hp_ghe : zRg ghe (0) 2) (hp_gsi : zRg gsi (0) 160) (hp_gki : zRg gki (0) 6) (hp_gpa : zRg gpa (0) 9) (hpz : Nat) : Met l yX8_freed wsX8_freed ({ frames := 3, cells := 0, slots := 0, locals := 65 }) (va_Pc [.ref m0, .int s_, .int p_] (zW D (zKT cI cJ cZ cP cS) po [(zMO m0 npu nte nat_ nde nto nse nhu nga nsd nfa mrf mki mpa mta mla msl mco mhe mso msi msh mce mca mwo mnu mte nba npl nen nnu nwr mwa mke mma mth mtr nra nik), (mrf, .inl (cI, 8, .inl grf)), (mhe, .inl (cI, 8, .inl ghe)), (msi, .inl (cI, 8, .inl gsi)), (mce, .inl (cJ, 1280, .inr (.inl gce))), (mki, .inl (cI, 8, .inl gki)), (mpa, .inl (cI, 8, .inl gpa))] hpz)) (va_Qi (fun (r : Int32) (grf2 : (Nat → Int32)) => (((s_.toInt < 0 ∨ 7 < s_.toInt ∨ p_.toInt < 0 ∨ npu.toInt ≤ p_.toInt) ∧ r.toInt = -1) ∨ ((0 ≤ s_.toInt ∧ s_.toInt ≤ 7) ∧ (0 ≤ p_.toInt ∧ p_.toInt < npu.toInt) ∧ ∃ q : Int, zBelR (zHc (ghe s_.toNatClampNeg).toInt) (gsi s_.toNatClampNeg).toInt (zRw gce (160 * s_.toInt)) q ∧ ((q ≠ 0 ∧ r.toInt = -q) ∨ (q = 0 ∧ r.toInt = zFd (zRw gce (160 * s_.toInt)) (gki p_.toNatClampNeg).toInt (gpa p_.toNatClampNeg).toInt nhu.toInt 24)))) ∧ (True)) (zB D [(zMO m0 npu nte nat_ nde nto nse nhu nga nsd nfa mrf mki mpa mta mla msl mco mhe mso msi msh mce mca mwo mnu mte nba npl nen nnu nwr mwa mke mma mth mtr nra nik), (mrf, .inl (cI, 8, .inl grf)), (mhe, .inl (cI, 8, .inl ghe)), (msi, .inl (cI, 8, .inl gsi)), (mce, .inl (cJ, 1280, .inr (.inl gce))), (mki, .inl (cI, 8, .inl gki)), (mpa, .inl (cI, 8, .inl gpa))] hpz (fun (grf2 : Nat → Int32) => [(zMO m0 npu nte nat_ nde nto nse nhu nga nsd nfa mrf mki mpa mta mla msl mco mhe mso msi msh mce mca mwo mnu mte nba npl nen nnu nwr mwa mke mma mth mtr nra nik), (mrf, .inl (cI, 8, .inl grf2)), (mhe, .inl (cI, 8, .inl ghe)), (msi, .inl (cI, 8, .inl gsi)), (mce, .inl (cJ, 1280, .inr (.inl gce))), (mki, .inl (cI, 8, .inl gki)), (mpa, .inl (cI, 8, .inl gpa))])) (va_A [(zMO m0 npu nte nat_ nde nto nse nhu nga nsd nfa mrf mki mpa mta mla msl mco mhe mso msi msh mce mca mwo mnu mte nba npl nen nnu nwr mwa mke mma mth mtr nra nik), (mrf, .inl (cI, 8, .inl grf)), (mhe, .inl (cI, 8, .inl ghe)), (msi, .inl (cI, 8, .inl gsi)), (mce, .inl (cJ, 1280, .inr (.inl gce))), (mki, .inl (cI, 8, .inl gki)), (mpa, .inl (cI, 8, .inl gpa))] hpz)) 0 0 (va_A [(zMO m0 npu nte nat_ nde nto nse nhu nga nsd nfa mrf mki mpa mta mla msl mco mhe mso msi msh mce mca mwo mnu mte nba npl nen nnu nwr mwa mke mma mth mtr nra nik), (mrf, .inl (cI, 8, .inl grf)), (mhe, .inl (cI, 8, .inl ghe)), (msi, .inl (cI, 8, .inl gsi)), (mce, .inl (cJ, 1280, .inr (.inl gce))), (mki, .inl (cI, 8, .inl gki)), (mpa, .inl (cI, 8, .inl gpa))] hpz) := by
  refine Met.ofW (cc := cX8_freed) (maxL := 4) (ret := (some .int)) (by decide) rfl ?_
  intro p e s m args below meth c s₁ B hml hv
  obtain ⟨rfl, hsz, hP, hK, hD0, hN, hZ⟩ := hv
  have hx := B.exec
  have hb := B.bytes
  have hr := B.returns
  have hts := atoms_spec (ws := wsX8_freed) B.pre
  have hown : s.vm.findClass RX8 = some m.cls := findClass_of_methodNamed B.named
  have hlocks := B.notSynchronized
  subst hsz
  have hD := hD0.self (sz := s.heap.size)
  have hA := zA_of hD
  have hl := lv_entry ([.ref m0, .int s_, .int p_]) (n := 4) (Nat.le_of_ble_eq_true rfl)
  rw [lg_entry_eq]
  generalize (lg_sl ([.ref m0, .int s_, .int p_]) ++ List.replicate (4 - (lg_sl ([.ref m0, .int s_, .int p_])).length) Slot.unset).toArray = ls at hl ⊢
  replace hl : lv_has ls 4 [(0, .ref m0), (1, .int s_), (2, .int p_)] := hl
  refine zw_begin hP hD (fun H locs hP1 hS => ?_)
  clear hP
  have hP := hP1
  clear hP1
  refine lv_aload_n hx hb dX8_freed_0 rfl (lv_at hl 0 rfl) ?_
  refine lv_iload_n hx hb dX8_freed_1 rfl (lv_at hl 1 rfl) ?_
  refine zc_V (As := [.int s_]) (rest := []) ⟨hx, hb, hml, hown, hts⟩ (c_M_isShelf l D cI cJ cZ cP cS po m0 mrf mki mpa mta mla msl mco mhe mso msi msh mce mca mwo mnu mte mwa mke mma mth mtr (npu) (nte) (nat_) (nde) (nto) (nse) (nhu) (nga) (nsd) (nfa) (nba) (npl) (nen) (nnu) (nwr) (nra) (nik) (s_) hy0 hy1 hy2 hy3 hy4 hy5 hy6 hy7 hy8 hy9 hy10 hy11 hy12 hy13) (cwV 1 hts gX8_freed_X8_isShelf rfl rfl rfl ⟨rfl, dh_X8_isShelf⟩ ⟨Nat.le_of_ble_eq_true rfl, Nat.le_of_ble_eq_true rfl⟩) hK hN (hZ.kept hS) hP (hP.sub [0] rfl) (va_recv (q := (RX8, TX8, 38)) hK hP (ci := 8) (q0 := 0) rfl rfl) rfl hl.1 rfl (Nat.le_of_ble_eq_true rfl) dX8_freed_2 ⟨Nat.le_of_ble_eq_true rfl, Nat.le_of_ble_eq_true rfl⟩ (fun r_1 hr_1 => ?_)
  rcases hr_1 with ⟨rfl, g_2⟩ | ⟨rfl, g_3, g_4⟩ | ⟨rfl, g_5, g_6⟩
  · refine lv_if_eq (tgt := 20) hx hb dX8_freed_5 (by decide) (fun c_7 => ?_) (fun c_7 => ?_)
    · refine lv_aload_n hx hb dX8_freed_20 rfl (lv_at hl 0 rfl) ?_
      refine lv_iload_n hx hb dX8_freed_21 rfl (lv_at hl 1 rfl) ?_
      refine zc_V (As := [.int s_]) (rest := []) ⟨hx, hb, hml, hown, hts⟩ (c_F_M_barsOf l D cI cJ cZ cP cS po m0 mrf mki mpa mta mla msl mco mhe mso msi msh mce mca mwo mnu mte mwa mke mma mth mtr (npu) (nte) (nat_) (nde) (nto) (nse) (nhu) (nga) (nsd) (nfa) (nba) (npl) (nen) (nnu) (nwr) (nra) (nik) ghe gsi gce (s_) hy0 hy1 hy2 hy3 hy4 hy5 hy6 hy7 hy8 hy9 hy10 hy11 hy12 hy13 hp_ghe hp_gsi) (cwV 1 hts gX8_freed_X8_barsOf rfl rfl rfl ⟨rfl, dh_X8_barsOf⟩ ⟨Nat.le_of_ble_eq_true rfl, Nat.le_of_ble_eq_true rfl⟩) hK hN (hZ.kept hS) hP (hP.sub [0, 2, 3, 4] rfl) (va_recv (q := (RX8, TX8, 38)) hK hP (ci := 8) (q0 := 0) rfl rfl) rfl hl.1 rfl (Nat.le_of_ble_eq_true rfl) dX8_freed_22 ⟨Nat.le_of_ble_eq_true rfl, Nat.le_of_ble_eq_true rfl⟩ (fun r_8 hr_8 => ?_)
      obtain ⟨g_9, g_10, hsr_8_0, hsr_8_1⟩ := hr_8
      refine lv_istore_n (lv' := [(3, .int r_8), (0, .ref m0), (1, .int s_), (2, .int p_)]) hx hb dX8_freed_25 rfl hl (by decide) rfl (fun ls hl => ?_)
      refine lv_iload_n hx hb dX8_freed_26 rfl (lv_at hl 0 rfl) ?_
      refine lv_if_eq (tgt := 38) hx hb dX8_freed_27 (by decide) (fun c_11 => ?_) (fun c_11 => ?_)
      · have fc_11 : r_8.toInt = 0 := zf_eq c_11 rfl (by decide)
        refine lv_aload_n hx hb dX8_freed_38 rfl (lv_at hl 1 rfl) ?_
        refine lv_iload_n hx hb dX8_freed_39 rfl (lv_at hl 2 rfl) ?_
        refine lv_iload_n hx hb dX8_freed_40 rfl (lv_at hl 3 rfl) ?_
        refine zc_V (As := [.int s_, .int p_]) (rest := []) ⟨hx, hb, hml, hown, hts⟩ (c_F_M_freedBy l D cI cJ cZ cP cS po m0 mrf mki mpa mta mla msl mco mhe mso msi msh mce mca mwo mnu mte mwa mke mma mth mtr (npu) (nte) (nat_) (nde) (nto) (nse) (nhu) (nga) (nsd) (nfa) (nba) (npl) (nen) (nnu) (nwr) (nra) (nik) gki gpa gce (s_) (p_) hy0 hy1 hy2 hy3 hy4 hy5 hy6 hy7 hy8 hy9 hy10 hy11 hy12 hy13 (by omega) (by omega) (by omega) (by omega) (by (have z := hsr_8_0; rcases z with z | ⟨z1, q, z2, z3⟩; (exfalso; omega); (obtain rfl : q = 0 := (by omega); unfold zBelR at z2; rcases z2 with z | z | z | z | z <;> first | exact z.2.2.1 | (exfalso; omega)))) hp_gki hp_gpa) (cwV 2 hts gX8_freed_X8_freedBy rfl rfl rfl ⟨rfl, dh_X8_freedBy⟩ ⟨Nat.le_of_ble_eq_true rfl, Nat.le_of_ble_eq_true rfl⟩) hK hN (hZ.kept hS) hP (hP.sub [0, 5, 6, 4] rfl) (va_recv (q := (RX8, TX8, 38)) hK hP (ci := 8) (q0 := 0) rfl rfl) rfl hl.1 rfl (Nat.le_of_ble_eq_true rfl) dX8_freed_41 ⟨Nat.le_of_ble_eq_true rfl, Nat.le_of_ble_eq_true rfl⟩ (fun r_12 hr_12 => ?_)
        obtain ⟨g_13, g_14, hsr_12_0⟩ := hr_12
        exact W.iret (v := r_12) hx hb hr (fun t ht hW => ⟨⟨r_12, grf, rfl, ⟨(show ((s_.toInt < 0 ∨ 7 < s_.toInt ∨ p_.toInt < 0 ∨ npu.toInt ≤ p_.toInt) ∧ (r_12 : Int32).toInt = -1) ∨ ((0 ≤ s_.toInt ∧ s_.toInt ≤ 7) ∧ (0 ≤ p_.toInt ∧ p_.toInt < npu.toInt) ∧ ∃ q : Int, zBelR (zHc (ghe s_.toNatClampNeg).toInt) (gsi s_.toNatClampNeg).toInt (zRw gce (160 * s_.toInt)) q ∧ ((q ≠ 0 ∧ (r_12 : Int32).toInt = -q) ∨ (q = 0 ∧ (r_12 : Int32).toInt = zFd (zRw gce (160 * s_.toInt)) (gki p_.toNatClampNeg).toInt (gpa p_.toNatClampNeg).toInt nhu.toInt 24))) from by (have z := hsr_8_0; rcases z with z | ⟨z1, q, z2, z3⟩; (exfalso; omega); (exact Or.inr ⟨z1, by omega, q, z2, Or.inr ⟨by omega, hsr_12_0⟩⟩))), trivial⟩, zRet ht hP hD [0, 1, 2, 3, 4, 5, 6] (by decide) rfl⟩, hS.F ht⟩) hS.2.2 dX8_freed_44
      · have fc_11 : r_8.toInt ≠ 0 := zf_ne c_11 rfl (by decide)
        refine lv_aload_n hx hb dX8_freed_30 rfl (lv_at hl 1 rfl) ?_
        refine lv_iload_n hx hb dX8_freed_31 rfl (lv_at hl 0 rfl) ?_
        skip
        refine zw_V (As := [.int r_8]) (rest := []) (wr := [(mhe, .inl (cI, 8, .inl ghe)), (msi, .inl (cI, 8, .inl gsi)), (mce, .inl (cJ, 1280, .inr (.inl gce))), (mki, .inl (cI, 8, .inl gki)), (mpa, .inl (cI, 8, .inl gpa))]) ⟨hx, hb, hml, hown, hts⟩ (c_M_no l D cI cJ cZ cP cS po m0 mrf mki mpa mta mla msl mco mhe mso msi msh mce mca mwo mnu mte mwa mke mma mth mtr (npu) (nte) (nat_) (nde) (nto) (nse) (nhu) (nga) (nsd) (nfa) (nba) (npl) (nen) (nnu) (nwr) (nra) (nik) grf (r_8) hy0 hy1 hy2 hy3 hy4 hy5 hy6 hy7 hy8 hy9 hy10 hy11 hy12 hy13 (by omega) (by omega) H.size) (cwV 1 hts gX8_freed_X8_no rfl rfl rfl ⟨rfl, dh_X8_no⟩ ⟨Nat.le_of_ble_eq_true rfl, Nat.le_of_ble_eq_true rfl⟩) hK hN (hZ.kept hS) hP hD hS hA [0, 1] [2, 3, 4, 5, 6] rfl rfl (by decide) (by decide) (by decide) (va_recv (q := (RX8, TX8, 38)) hK hP (ci := 8) (q0 := 0) rfl rfl) rfl hl.1 rfl (Nat.le_of_ble_eq_true rfl) dX8_freed_32 ⟨Nat.le_of_ble_eq_true rfl, Nat.le_of_ble_eq_true rfl⟩ (fun r_15 u_16 H locs hr_15 hP hD hS => ?_)
        obtain ⟨q_17, rfl⟩ : ∃ z, z = u_16 := ⟨_, rfl⟩
        have h9R := zRe (ws' := [(mhe, .inl (cI, 8, .inl ghe)), (msi, .inl (cI, 8, .inl gsi)), (mce, .inl (cJ, 1280, .inr (.inl gce))), (mki, .inl (cI, 8, .inl gki)), (mpa, .inl (cI, 8, .inl gpa)), (zMO m0 npu nte nat_ nde nto nse nhu nga nsd nfa mrf mki mpa mta mla msl mco mhe mso msi msh mce mca mwo mnu mte nba npl nen nnu nwr mwa mke mma mth mtr nra nik), (mrf, .inl (cI, 8, .inl q_17))]) hP hD rfl
        clear hP hD
        obtain ⟨hP, hD⟩ := h9R
        have w_18 := hr_15
        obtain rfl : r_8 = r_15 := w_18.symm
        refine lv_goto (tgt := 44) hx hb dX8_freed_35 (by decide) ?_
        exact W.iret (v := r_8) hx hb hr (fun t ht hW => ⟨⟨r_8, q_17, rfl, ⟨(show ((s_.toInt < 0 ∨ 7 < s_.toInt ∨ p_.toInt < 0 ∨ npu.toInt ≤ p_.toInt) ∧ (r_8 : Int32).toInt = -1) ∨ ((0 ≤ s_.toInt ∧ s_.toInt ≤ 7) ∧ (0 ≤ p_.toInt ∧ p_.toInt < npu.toInt) ∧ ∃ q : Int, zBelR (zHc (ghe s_.toNatClampNeg).toInt) (gsi s_.toNatClampNeg).toInt (zRw gce (160 * s_.toInt)) q ∧ ((q ≠ 0 ∧ (r_8 : Int32).toInt = -q) ∨ (q = 0 ∧ (r_8 : Int32).toInt = zFd (zRw gce (160 * s_.toInt)) (gki p_.toNatClampNeg).toInt (gpa p_.toNatClampNeg).toInt nhu.toInt 24))) from by (have z := hsr_8_0; rcases z with z | ⟨z1, q, z2, z3⟩; (exact Or.inl (by omega)); (exact Or.inr ⟨z1, by omega, q, z2, Or.inl ⟨by omega, by omega⟩⟩))), trivial⟩, zRet ht hP hD [5, 6, 0, 1, 2, 3, 4] (by decide) rfl⟩, hS.F ht⟩) hS.2.2 dX8_freed_44
    · exact absurd c_7 (by decide)
  · refine lv_if_eq (tgt := 20) hx hb dX8_freed_5 (by decide) (fun c_19 => ?_) (fun c_19 => ?_)
    · refine lv_aload_n hx hb dX8_freed_20 rfl (lv_at hl 0 rfl) ?_
      refine lv_iload_n hx hb dX8_freed_21 rfl (lv_at hl 1 rfl) ?_
      refine zc_V (As := [.int s_]) (rest := []) ⟨hx, hb, hml, hown, hts⟩ (c_F_M_barsOf l D cI cJ cZ cP cS po m0 mrf mki mpa mta mla msl mco mhe mso msi msh mce mca mwo mnu mte mwa mke mma mth mtr (npu) (nte) (nat_) (nde) (nto) (nse) (nhu) (nga) (nsd) (nfa) (nba) (npl) (nen) (nnu) (nwr) (nra) (nik) ghe gsi gce (s_) hy0 hy1 hy2 hy3 hy4 hy5 hy6 hy7 hy8 hy9 hy10 hy11 hy12 hy13 hp_ghe hp_gsi) (cwV 1 hts gX8_freed_X8_barsOf rfl rfl rfl ⟨rfl, dh_X8_barsOf⟩ ⟨Nat.le_of_ble_eq_true rfl, Nat.le_of_ble_eq_true rfl⟩) hK hN (hZ.kept hS) hP (hP.sub [0, 2, 3, 4] rfl) (va_recv (q := (RX8, TX8, 38)) hK hP (ci := 8) (q0 := 0) rfl rfl) rfl hl.1 rfl (Nat.le_of_ble_eq_true rfl) dX8_freed_22 ⟨Nat.le_of_ble_eq_true rfl, Nat.le_of_ble_eq_true rfl⟩ (fun r_20 hr_20 => ?_)
      obtain ⟨g_21, g_22, hsr_20_0, hsr_20_1⟩ := hr_20
      refine lv_istore_n (lv' := [(3, .int r_20), (0, .ref m0), (1, .int s_), (2, .int p_)]) hx hb dX8_freed_25 rfl hl (by decide) rfl (fun ls hl => ?_)
      refine lv_iload_n hx hb dX8_freed_26 rfl (lv_at hl 0 rfl) ?_
      refine lv_if_eq (tgt := 38) hx hb dX8_freed_27 (by decide) (fun c_23 => ?_) (fun c_23 => ?_)
      · have fc_23 : r_20.toInt = 0 := zf_eq c_23 rfl (by decide)
        refine lv_aload_n hx hb dX8_freed_38 rfl (lv_at hl 1 rfl) ?_
        refine lv_iload_n hx hb dX8_freed_39 rfl (lv_at hl 2 rfl) ?_
        refine lv_iload_n hx hb dX8_freed_40 rfl (lv_at hl 3 rfl) ?_
        refine zc_V (As := [.int s_, .int p_]) (rest := []) ⟨hx, hb, hml, hown, hts⟩ (c_F_M_freedBy l D cI cJ cZ cP cS po m0 mrf mki mpa mta mla msl mco mhe mso msi msh mce mca mwo mnu mte mwa mke mma mth mtr (npu) (nte) (nat_) (nde) (nto) (nse) (nhu) (nga) (nsd) (nfa) (nba) (npl) (nen) (nnu) (nwr) (nra) (nik) gki gpa gce (s_) (p_) hy0 hy1 hy2 hy3 hy4 hy5 hy6 hy7 hy8 hy9 hy10 hy11 hy12 hy13 (by omega) (by omega) (by omega) (by omega) (by (have z := hsr_20_0; rcases z with z | ⟨z1, q, z2, z3⟩; (exfalso; omega); (obtain rfl : q = 0 := (by omega); unfold zBelR at z2; rcases z2 with z | z | z | z | z <;> first | exact z.2.2.1 | (exfalso; omega)))) hp_gki hp_gpa) (cwV 2 hts gX8_freed_X8_freedBy rfl rfl rfl ⟨rfl, dh_X8_freedBy⟩ ⟨Nat.le_of_ble_eq_true rfl, Nat.le_of_ble_eq_true rfl⟩) hK hN (hZ.kept hS) hP (hP.sub [0, 5, 6, 4] rfl) (va_recv (q := (RX8, TX8, 38)) hK hP (ci := 8) (q0 := 0) rfl rfl) rfl hl.1 rfl (Nat.le_of_ble_eq_true rfl) dX8_freed_41 ⟨Nat.le_of_ble_eq_true rfl, Nat.le_of_ble_eq_true rfl⟩ (fun r_24 hr_24 => ?_)
        obtain ⟨g_25, g_26, hsr_24_0⟩ := hr_24
        exact W.iret (v := r_24) hx hb hr (fun t ht hW => ⟨⟨r_24, grf, rfl, ⟨(show ((s_.toInt < 0 ∨ 7 < s_.toInt ∨ p_.toInt < 0 ∨ npu.toInt ≤ p_.toInt) ∧ (r_24 : Int32).toInt = -1) ∨ ((0 ≤ s_.toInt ∧ s_.toInt ≤ 7) ∧ (0 ≤ p_.toInt ∧ p_.toInt < npu.toInt) ∧ ∃ q : Int, zBelR (zHc (ghe s_.toNatClampNeg).toInt) (gsi s_.toNatClampNeg).toInt (zRw gce (160 * s_.toInt)) q ∧ ((q ≠ 0 ∧ (r_24 : Int32).toInt = -q) ∨ (q = 0 ∧ (r_24 : Int32).toInt = zFd (zRw gce (160 * s_.toInt)) (gki p_.toNatClampNeg).toInt (gpa p_.toNatClampNeg).toInt nhu.toInt 24))) from by (have z := hsr_20_0; rcases z with z | ⟨z1, q, z2, z3⟩; (exfalso; omega); (exact Or.inr ⟨z1, by omega, q, z2, Or.inr ⟨by omega, hsr_24_0⟩⟩))), trivial⟩, zRet ht hP hD [0, 1, 2, 3, 4, 5, 6] (by decide) rfl⟩, hS.F ht⟩) hS.2.2 dX8_freed_44
      · have fc_23 : r_20.toInt ≠ 0 := zf_ne c_23 rfl (by decide)
        refine lv_aload_n hx hb dX8_freed_30 rfl (lv_at hl 1 rfl) ?_
        refine lv_iload_n hx hb dX8_freed_31 rfl (lv_at hl 0 rfl) ?_
        skip
        refine zw_V (As := [.int r_20]) (rest := []) (wr := [(mhe, .inl (cI, 8, .inl ghe)), (msi, .inl (cI, 8, .inl gsi)), (mce, .inl (cJ, 1280, .inr (.inl gce))), (mki, .inl (cI, 8, .inl gki)), (mpa, .inl (cI, 8, .inl gpa))]) ⟨hx, hb, hml, hown, hts⟩ (c_M_no l D cI cJ cZ cP cS po m0 mrf mki mpa mta mla msl mco mhe mso msi msh mce mca mwo mnu mte mwa mke mma mth mtr (npu) (nte) (nat_) (nde) (nto) (nse) (nhu) (nga) (nsd) (nfa) (nba) (npl) (nen) (nnu) (nwr) (nra) (nik) grf (r_20) hy0 hy1 hy2 hy3 hy4 hy5 hy6 hy7 hy8 hy9 hy10 hy11 hy12 hy13 (by omega) (by omega) H.size) (cwV 1 hts gX8_freed_X8_no rfl rfl rfl ⟨rfl, dh_X8_no⟩ ⟨Nat.le_of_ble_eq_true rfl, Nat.le_of_ble_eq_true rfl⟩) hK hN (hZ.kept hS) hP hD hS hA [0, 1] [2, 3, 4, 5, 6] rfl rfl (by decide) (by decide) (by decide) (va_recv (q := (RX8, TX8, 38)) hK hP (ci := 8) (q0 := 0) rfl rfl) rfl hl.1 rfl (Nat.le_of_ble_eq_true rfl) dX8_freed_32 ⟨Nat.le_of_ble_eq_true rfl, Nat.le_of_ble_eq_true rfl⟩ (fun r_27 u_28 H locs hr_27 hP hD hS => ?_)
        obtain ⟨q_29, rfl⟩ : ∃ z, z = u_28 := ⟨_, rfl⟩
        have h9R := zRe (ws' := [(mhe, .inl (cI, 8, .inl ghe)), (msi, .inl (cI, 8, .inl gsi)), (mce, .inl (cJ, 1280, .inr (.inl gce))), (mki, .inl (cI, 8, .inl gki)), (mpa, .inl (cI, 8, .inl gpa)), (zMO m0 npu nte nat_ nde nto nse nhu nga nsd nfa mrf mki mpa mta mla msl mco mhe mso msi msh mce mca mwo mnu mte nba npl nen nnu nwr mwa mke mma mth mtr nra nik), (mrf, .inl (cI, 8, .inl q_29))]) hP hD rfl
        clear hP hD
        obtain ⟨hP, hD⟩ := h9R
        have w_30 := hr_27
        obtain rfl : r_20 = r_27 := w_30.symm
        refine lv_goto (tgt := 44) hx hb dX8_freed_35 (by decide) ?_
        exact W.iret (v := r_20) hx hb hr (fun t ht hW => ⟨⟨r_20, q_29, rfl, ⟨(show ((s_.toInt < 0 ∨ 7 < s_.toInt ∨ p_.toInt < 0 ∨ npu.toInt ≤ p_.toInt) ∧ (r_20 : Int32).toInt = -1) ∨ ((0 ≤ s_.toInt ∧ s_.toInt ≤ 7) ∧ (0 ≤ p_.toInt ∧ p_.toInt < npu.toInt) ∧ ∃ q : Int, zBelR (zHc (ghe s_.toNatClampNeg).toInt) (gsi s_.toNatClampNeg).toInt (zRw gce (160 * s_.toInt)) q ∧ ((q ≠ 0 ∧ (r_20 : Int32).toInt = -q) ∨ (q = 0 ∧ (r_20 : Int32).toInt = zFd (zRw gce (160 * s_.toInt)) (gki p_.toNatClampNeg).toInt (gpa p_.toNatClampNeg).toInt nhu.toInt 24))) from by (have z := hsr_20_0; rcases z with z | ⟨z1, q, z2, z3⟩; (exact Or.inl (by omega)); (exact Or.inr ⟨z1, by omega, q, z2, Or.inl ⟨by omega, by omega⟩⟩))), trivial⟩, zRet ht hP hD [5, 6, 0, 1, 2, 3, 4] (by decide) rfl⟩, hS.F ht⟩) hS.2.2 dX8_freed_44
    · exact absurd c_19 (by decide)
  · refine lv_if_eq (tgt := 20) hx hb dX8_freed_5 (by decide) (fun c_31 => ?_) (fun c_31 => ?_)
    · exact absurd c_31 (by decide)
    · refine lv_aload_n hx hb dX8_freed_8 rfl (lv_at hl 0 rfl) ?_
      refine lv_iload_n hx hb dX8_freed_9 rfl (lv_at hl 2 rfl) ?_
      refine zc_V (As := [.int p_]) (rest := []) ⟨hx, hb, hml, hown, hts⟩ (c_M_isPull l D cI cJ cZ cP cS po m0 mrf mki mpa mta mla msl mco mhe mso msi msh mce mca mwo mnu mte mwa mke mma mth mtr (npu) (nte) (nat_) (nde) (nto) (nse) (nhu) (nga) (nsd) (nfa) (nba) (npl) (nen) (nnu) (nwr) (nra) (nik) (p_) hy0 hy1 hy2 hy3 hy4 hy5 hy6 hy7 hy8 hy9 hy10 hy11 hy12 hy13) (cwV 1 hts gX8_freed_X8_isPull rfl rfl rfl ⟨rfl, dh_X8_isPull⟩ ⟨Nat.le_of_ble_eq_true rfl, Nat.le_of_ble_eq_true rfl⟩) hK hN (hZ.kept hS) hP (hP.sub [0] rfl) (va_recv (q := (RX8, TX8, 38)) hK hP (ci := 8) (q0 := 0) rfl rfl) rfl hl.1 rfl (Nat.le_of_ble_eq_true rfl) dX8_freed_10 ⟨Nat.le_of_ble_eq_true rfl, Nat.le_of_ble_eq_true rfl⟩ (fun r_32 hr_32 => ?_)
      rcases hr_32 with ⟨rfl, g_33⟩ | ⟨rfl, g_34, g_35⟩ | ⟨rfl, g_36, g_37⟩
      · refine lv_if_ne (tgt := 20) hx hb dX8_freed_13 (by decide) (fun c_38 => ?_) (fun c_38 => ?_)
        · exact absurd c_38 (by decide)
        · refine lv_iconst (v := (-1)) hx hb dX8_freed_16 (by decide) ?_
          refine lv_goto (tgt := 25) hx hb dX8_freed_17 (by decide) ?_
          refine lv_istore_n (lv' := [(3, .int (-1)), (0, .ref m0), (1, .int s_), (2, .int p_)]) hx hb dX8_freed_25 rfl hl (by decide) rfl (fun ls hl => ?_)
          refine lv_iload_n hx hb dX8_freed_26 rfl (lv_at hl 0 rfl) ?_
          refine lv_if_eq (tgt := 38) hx hb dX8_freed_27 (by decide) (fun c_39 => ?_) (fun c_39 => ?_)
          · exact absurd c_39 (by decide)
          · refine lv_aload_n hx hb dX8_freed_30 rfl (lv_at hl 1 rfl) ?_
            refine lv_iload_n hx hb dX8_freed_31 rfl (lv_at hl 0 rfl) ?_
            skip
            refine zw_V (As := [.int (-1)]) (rest := []) (wr := [(mhe, .inl (cI, 8, .inl ghe)), (msi, .inl (cI, 8, .inl gsi)), (mce, .inl (cJ, 1280, .inr (.inl gce))), (mki, .inl (cI, 8, .inl gki)), (mpa, .inl (cI, 8, .inl gpa))]) ⟨hx, hb, hml, hown, hts⟩ (c_M_no_1 l D cI cJ cZ cP cS po m0 mrf mki mpa mta mla msl mco mhe mso msi msh mce mca mwo mnu mte mwa mke mma mth mtr (npu) (nte) (nat_) (nde) (nto) (nse) (nhu) (nga) (nsd) (nfa) (nba) (npl) (nen) (nnu) (nwr) (nra) (nik) grf hy0 hy1 hy2 hy3 hy4 hy5 hy6 hy7 hy8 hy9 hy10 hy11 hy12 hy13 H.size) (cwV 1 hts gX8_freed_X8_no rfl rfl rfl ⟨rfl, dh_X8_no⟩ ⟨Nat.le_of_ble_eq_true rfl, Nat.le_of_ble_eq_true rfl⟩) hK hN (hZ.kept hS) hP hD hS hA [0, 1] [2, 3, 4, 5, 6] rfl rfl (by decide) (by decide) (by decide) (va_recv (q := (RX8, TX8, 38)) hK hP (ci := 8) (q0 := 0) rfl rfl) rfl hl.1 rfl (Nat.le_of_ble_eq_true rfl) dX8_freed_32 ⟨Nat.le_of_ble_eq_true rfl, Nat.le_of_ble_eq_true rfl⟩ (fun r_40 u_41 H locs hr_40 hP hD hS => ?_)
            obtain ⟨q_42, rfl⟩ : ∃ z, z = u_41 := ⟨_, rfl⟩
            have h9R := zRe (ws' := [(mhe, .inl (cI, 8, .inl ghe)), (msi, .inl (cI, 8, .inl gsi)), (mce, .inl (cJ, 1280, .inr (.inl gce))), (mki, .inl (cI, 8, .inl gki)), (mpa, .inl (cI, 8, .inl gpa)), (zMO m0 npu nte nat_ nde nto nse nhu nga nsd nfa mrf mki mpa mta mla msl mco mhe mso msi msh mce mca mwo mnu mte nba npl nen nnu nwr mwa mke mma mth mtr nra nik), (mrf, .inl (cI, 8, .inl q_42))]) hP hD rfl
            clear hP hD
            obtain ⟨hP, hD⟩ := h9R
            obtain rfl := hr_40
            refine lv_goto (tgt := 44) hx hb dX8_freed_35 (by decide) ?_
            exact W.iret (v := (-1)) hx hb hr (fun t ht hW => ⟨⟨(-1), q_42, rfl, ⟨(show ((s_.toInt < 0 ∨ 7 < s_.toInt ∨ p_.toInt < 0 ∨ npu.toInt ≤ p_.toInt) ∧ ((-1) : Int32).toInt = -1) ∨ ((0 ≤ s_.toInt ∧ s_.toInt ≤ 7) ∧ (0 ≤ p_.toInt ∧ p_.toInt < npu.toInt) ∧ ∃ q : Int, zBelR (zHc (ghe s_.toNatClampNeg).toInt) (gsi s_.toNatClampNeg).toInt (zRw gce (160 * s_.toInt)) q ∧ ((q ≠ 0 ∧ ((-1) : Int32).toInt = -q) ∨ (q = 0 ∧ ((-1) : Int32).toInt = zFd (zRw gce (160 * s_.toInt)) (gki p_.toNatClampNeg).toInt (gpa p_.toNatClampNeg).toInt nhu.toInt 24))) from by (have k9 : ((-1) : Int32).toInt = -1 := (by decide); exact Or.inl (by omega))), trivial⟩, zRet ht hP hD [5, 6, 0, 1, 2, 3, 4] (by decide) rfl⟩, hS.F ht⟩) hS.2.2 dX8_freed_44
      · refine lv_if_ne (tgt := 20) hx hb dX8_freed_13 (by decide) (fun c_43 => ?_) (fun c_43 => ?_)
        · exact absurd c_43 (by decide)
        · refine lv_iconst (v := (-1)) hx hb dX8_freed_16 (by decide) ?_
          refine lv_goto (tgt := 25) hx hb dX8_freed_17 (by decide) ?_
          refine lv_istore_n (lv' := [(3, .int (-1)), (0, .ref m0), (1, .int s_), (2, .int p_)]) hx hb dX8_freed_25 rfl hl (by decide) rfl (fun ls hl => ?_)
          refine lv_iload_n hx hb dX8_freed_26 rfl (lv_at hl 0 rfl) ?_
          refine lv_if_eq (tgt := 38) hx hb dX8_freed_27 (by decide) (fun c_44 => ?_) (fun c_44 => ?_)
          · exact absurd c_44 (by decide)
          · refine lv_aload_n hx hb dX8_freed_30 rfl (lv_at hl 1 rfl) ?_
            refine lv_iload_n hx hb dX8_freed_31 rfl (lv_at hl 0 rfl) ?_
            skip
            refine zw_V (As := [.int (-1)]) (rest := []) (wr := [(mhe, .inl (cI, 8, .inl ghe)), (msi, .inl (cI, 8, .inl gsi)), (mce, .inl (cJ, 1280, .inr (.inl gce))), (mki, .inl (cI, 8, .inl gki)), (mpa, .inl (cI, 8, .inl gpa))]) ⟨hx, hb, hml, hown, hts⟩ (c_M_no_1 l D cI cJ cZ cP cS po m0 mrf mki mpa mta mla msl mco mhe mso msi msh mce mca mwo mnu mte mwa mke mma mth mtr (npu) (nte) (nat_) (nde) (nto) (nse) (nhu) (nga) (nsd) (nfa) (nba) (npl) (nen) (nnu) (nwr) (nra) (nik) grf hy0 hy1 hy2 hy3 hy4 hy5 hy6 hy7 hy8 hy9 hy10 hy11 hy12 hy13 H.size) (cwV 1 hts gX8_freed_X8_no rfl rfl rfl ⟨rfl, dh_X8_no⟩ ⟨Nat.le_of_ble_eq_true rfl, Nat.le_of_ble_eq_true rfl⟩) hK hN (hZ.kept hS) hP hD hS hA [0, 1] [2, 3, 4, 5, 6] rfl rfl (by decide) (by decide) (by decide) (va_recv (q := (RX8, TX8, 38)) hK hP (ci := 8) (q0 := 0) rfl rfl) rfl hl.1 rfl (Nat.le_of_ble_eq_true rfl) dX8_freed_32 ⟨Nat.le_of_ble_eq_true rfl, Nat.le_of_ble_eq_true rfl⟩ (fun r_45 u_46 H locs hr_45 hP hD hS => ?_)
            obtain ⟨q_47, rfl⟩ : ∃ z, z = u_46 := ⟨_, rfl⟩
            have h9R := zRe (ws' := [(mhe, .inl (cI, 8, .inl ghe)), (msi, .inl (cI, 8, .inl gsi)), (mce, .inl (cJ, 1280, .inr (.inl gce))), (mki, .inl (cI, 8, .inl gki)), (mpa, .inl (cI, 8, .inl gpa)), (zMO m0 npu nte nat_ nde nto nse nhu nga nsd nfa mrf mki mpa mta mla msl mco mhe mso msi msh mce mca mwo mnu mte nba npl nen nnu nwr mwa mke mma mth mtr nra nik), (mrf, .inl (cI, 8, .inl q_47))]) hP hD rfl
            clear hP hD
            obtain ⟨hP, hD⟩ := h9R
            obtain rfl := hr_45
            refine lv_goto (tgt := 44) hx hb dX8_freed_35 (by decide) ?_
            exact W.iret (v := (-1)) hx hb hr (fun t ht hW => ⟨⟨(-1), q_47, rfl, ⟨(show ((s_.toInt < 0 ∨ 7 < s_.toInt ∨ p_.toInt < 0 ∨ npu.toInt ≤ p_.toInt) ∧ ((-1) : Int32).toInt = -1) ∨ ((0 ≤ s_.toInt ∧ s_.toInt ≤ 7) ∧ (0 ≤ p_.toInt ∧ p_.toInt < npu.toInt) ∧ ∃ q : Int, zBelR (zHc (ghe s_.toNatClampNeg).toInt) (gsi s_.toNatClampNeg).toInt (zRw gce (160 * s_.toInt)) q ∧ ((q ≠ 0 ∧ ((-1) : Int32).toInt = -q) ∨ (q = 0 ∧ ((-1) : Int32).toInt = zFd (zRw gce (160 * s_.toInt)) (gki p_.toNatClampNeg).toInt (gpa p_.toNatClampNeg).toInt nhu.toInt 24))) from by (have k9 : ((-1) : Int32).toInt = -1 := (by decide); exact Or.inl (by omega))), trivial⟩, zRet ht hP hD [5, 6, 0, 1, 2, 3, 4] (by decide) rfl⟩, hS.F ht⟩) hS.2.2 dX8_freed_44
      · refine lv_if_ne (tgt := 20) hx hb dX8_freed_13 (by decide) (fun c_48 => ?_) (fun c_48 => ?_)
        · refine lv_aload_n hx hb dX8_freed_20 rfl (lv_at hl 0 rfl) ?_
          refine lv_iload_n hx hb dX8_freed_21 rfl (lv_at hl 1 rfl) ?_
          refine zc_V (As := [.int s_]) (rest := []) ⟨hx, hb, hml, hown, hts⟩ (c_F_M_barsOf l D cI cJ cZ cP cS po m0 mrf mki mpa mta mla msl mco mhe mso msi msh mce mca mwo mnu mte mwa mke mma mth mtr (npu) (nte) (nat_) (nde) (nto) (nse) (nhu) (nga) (nsd) (nfa) (nba) (npl) (nen) (nnu) (nwr) (nra) (nik) ghe gsi gce (s_) hy0 hy1 hy2 hy3 hy4 hy5 hy6 hy7 hy8 hy9 hy10 hy11 hy12 hy13 hp_ghe hp_gsi) (cwV 1 hts gX8_freed_X8_barsOf rfl rfl rfl ⟨rfl, dh_X8_barsOf⟩ ⟨Nat.le_of_ble_eq_true rfl, Nat.le_of_ble_eq_true rfl⟩) hK hN (hZ.kept hS) hP (hP.sub [0, 2, 3, 4] rfl) (va_recv (q := (RX8, TX8, 38)) hK hP (ci := 8) (q0 := 0) rfl rfl) rfl hl.1 rfl (Nat.le_of_ble_eq_true rfl) dX8_freed_22 ⟨Nat.le_of_ble_eq_true rfl, Nat.le_of_ble_eq_true rfl⟩ (fun r_49 hr_49 => ?_)
          obtain ⟨g_50, g_51, hsr_49_0, hsr_49_1⟩ := hr_49
          refine lv_istore_n (lv' := [(3, .int r_49), (0, .ref m0), (1, .int s_), (2, .int p_)]) hx hb dX8_freed_25 rfl hl (by decide) rfl (fun ls hl => ?_)
          refine lv_iload_n hx hb dX8_freed_26 rfl (lv_at hl 0 rfl) ?_
          refine lv_if_eq (tgt := 38) hx hb dX8_freed_27 (by decide) (fun c_52 => ?_) (fun c_52 => ?_)
          · have fc_52 : r_49.toInt = 0 := zf_eq c_52 rfl (by decide)
            refine lv_aload_n hx hb dX8_freed_38 rfl (lv_at hl 1 rfl) ?_
            refine lv_iload_n hx hb dX8_freed_39 rfl (lv_at hl 2 rfl) ?_
            refine lv_iload_n hx hb dX8_freed_40 rfl (lv_at hl 3 rfl) ?_
            refine zc_V (As := [.int s_, .int p_]) (rest := []) ⟨hx, hb, hml, hown, hts⟩ (c_F_M_freedBy l D cI cJ cZ cP cS po m0 mrf mki mpa mta mla msl mco mhe mso msi msh mce mca mwo mnu mte mwa mke mma mth mtr (npu) (nte) (nat_) (nde) (nto) (nse) (nhu) (nga) (nsd) (nfa) (nba) (npl) (nen) (nnu) (nwr) (nra) (nik) gki gpa gce (s_) (p_) hy0 hy1 hy2 hy3 hy4 hy5 hy6 hy7 hy8 hy9 hy10 hy11 hy12 hy13 (by omega) (by omega) (by omega) (by omega) (by (have z := hsr_49_0; rcases z with z | ⟨z1, q, z2, z3⟩; (exfalso; omega); (obtain rfl : q = 0 := (by omega); unfold zBelR at z2; rcases z2 with z | z | z | z | z <;> first | exact z.2.2.1 | (exfalso; omega)))) hp_gki hp_gpa) (cwV 2 hts gX8_freed_X8_freedBy rfl rfl rfl ⟨rfl, dh_X8_freedBy⟩ ⟨Nat.le_of_ble_eq_true rfl, Nat.le_of_ble_eq_true rfl⟩) hK hN (hZ.kept hS) hP (hP.sub [0, 5, 6, 4] rfl) (va_recv (q := (RX8, TX8, 38)) hK hP (ci := 8) (q0 := 0) rfl rfl) rfl hl.1 rfl (Nat.le_of_ble_eq_true rfl) dX8_freed_41 ⟨Nat.le_of_ble_eq_true rfl, Nat.le_of_ble_eq_true rfl⟩ (fun r_53 hr_53 => ?_)
            obtain ⟨g_54, g_55, hsr_53_0⟩ := hr_53
            exact W.iret (v := r_53) hx hb hr (fun t ht hW => ⟨⟨r_53, grf, rfl, ⟨(show ((s_.toInt < 0 ∨ 7 < s_.toInt ∨ p_.toInt < 0 ∨ npu.toInt ≤ p_.toInt) ∧ (r_53 : Int32).toInt = -1) ∨ ((0 ≤ s_.toInt ∧ s_.toInt ≤ 7) ∧ (0 ≤ p_.toInt ∧ p_.toInt < npu.toInt) ∧ ∃ q : Int, zBelR (zHc (ghe s_.toNatClampNeg).toInt) (gsi s_.toNatClampNeg).toInt (zRw gce (160 * s_.toInt)) q ∧ ((q ≠ 0 ∧ (r_53 : Int32).toInt = -q) ∨ (q = 0 ∧ (r_53 : Int32).toInt = zFd (zRw gce (160 * s_.toInt)) (gki p_.toNatClampNeg).toInt (gpa p_.toNatClampNeg).toInt nhu.toInt 24))) from by (have z := hsr_49_0; rcases z with z | ⟨z1, q, z2, z3⟩; (exfalso; omega); (exact Or.inr ⟨z1, by omega, q, z2, Or.inr ⟨by omega, hsr_53_0⟩⟩))), trivial⟩, zRet ht hP hD [0, 1, 2, 3, 4, 5, 6] (by decide) rfl⟩, hS.F ht⟩) hS.2.2 dX8_freed_44
          · have fc_52 : r_49.toInt ≠ 0 := zf_ne c_52 rfl (by decide)
            refine lv_aload_n hx hb dX8_freed_30 rfl (lv_at hl 1 rfl) ?_
            refine lv_iload_n hx hb dX8_freed_31 rfl (lv_at hl 0 rfl) ?_
            skip
            refine zw_V (As := [.int r_49]) (rest := []) (wr := [(mhe, .inl (cI, 8, .inl ghe)), (msi, .inl (cI, 8, .inl gsi)), (mce, .inl (cJ, 1280, .inr (.inl gce))), (mki, .inl (cI, 8, .inl gki)), (mpa, .inl (cI, 8, .inl gpa))]) ⟨hx, hb, hml, hown, hts⟩ (c_M_no l D cI cJ cZ cP cS po m0 mrf mki mpa mta mla msl mco mhe mso msi msh mce mca mwo mnu mte mwa mke mma mth mtr (npu) (nte) (nat_) (nde) (nto) (nse) (nhu) (nga) (nsd) (nfa) (nba) (npl) (nen) (nnu) (nwr) (nra) (nik) grf (r_49) hy0 hy1 hy2 hy3 hy4 hy5 hy6 hy7 hy8 hy9 hy10 hy11 hy12 hy13 (by omega) (by omega) H.size) (cwV 1 hts gX8_freed_X8_no rfl rfl rfl ⟨rfl, dh_X8_no⟩ ⟨Nat.le_of_ble_eq_true rfl, Nat.le_of_ble_eq_true rfl⟩) hK hN (hZ.kept hS) hP hD hS hA [0, 1] [2, 3, 4, 5, 6] rfl rfl (by decide) (by decide) (by decide) (va_recv (q := (RX8, TX8, 38)) hK hP (ci := 8) (q0 := 0) rfl rfl) rfl hl.1 rfl (Nat.le_of_ble_eq_true rfl) dX8_freed_32 ⟨Nat.le_of_ble_eq_true rfl, Nat.le_of_ble_eq_true rfl⟩ (fun r_56 u_57 H locs hr_56 hP hD hS => ?_)
            obtain ⟨q_58, rfl⟩ : ∃ z, z = u_57 := ⟨_, rfl⟩
            have h9R := zRe (ws' := [(mhe, .inl (cI, 8, .inl ghe)), (msi, .inl (cI, 8, .inl gsi)), (mce, .inl (cJ, 1280, .inr (.inl gce))), (mki, .inl (cI, 8, .inl gki)), (mpa, .inl (cI, 8, .inl gpa)), (zMO m0 npu nte nat_ nde nto nse nhu nga nsd nfa mrf mki mpa mta mla msl mco mhe mso msi msh mce mca mwo mnu mte nba npl nen nnu nwr mwa mke mma mth mtr nra nik), (mrf, .inl (cI, 8, .inl q_58))]) hP hD rfl
            clear hP hD
            obtain ⟨hP, hD⟩ := h9R
            have w_59 := hr_56
            obtain rfl : r_49 = r_56 := w_59.symm
            refine lv_goto (tgt := 44) hx hb dX8_freed_35 (by decide) ?_
            exact W.iret (v := r_49) hx hb hr (fun t ht hW => ⟨⟨r_49, q_58, rfl, ⟨(show ((s_.toInt < 0 ∨ 7 < s_.toInt ∨ p_.toInt < 0 ∨ npu.toInt ≤ p_.toInt) ∧ (r_49 : Int32).toInt = -1) ∨ ((0 ≤ s_.toInt ∧ s_.toInt ≤ 7) ∧ (0 ≤ p_.toInt ∧ p_.toInt < npu.toInt) ∧ ∃ q : Int, zBelR (zHc (ghe s_.toNatClampNeg).toInt) (gsi s_.toNatClampNeg).toInt (zRw gce (160 * s_.toInt)) q ∧ ((q ≠ 0 ∧ (r_49 : Int32).toInt = -q) ∨ (q = 0 ∧ (r_49 : Int32).toInt = zFd (zRw gce (160 * s_.toInt)) (gki p_.toNatClampNeg).toInt (gpa p_.toNatClampNeg).toInt nhu.toInt 24))) from by (have z := hsr_49_0; rcases z with z | ⟨z1, q, z2, z3⟩; (exact Or.inl (by omega)); (exact Or.inr ⟨z1, by omega, q, z2, Or.inl ⟨by omega, by omega⟩⟩))), trivial⟩, zRet ht hP hD [5, 6, 0, 1, 2, 3, 4] (by decide) rfl⟩, hS.F ht⟩) hS.2.2 dX8_freed_44
        · exact absurd c_48 (by decide)
set_option maxHeartbeats 4000000 in
set_option maxRecDepth 100000 in
theorem c_F_M_noTen (l : Launch) (D : va_G) (cI cJ cZ cP cS : ClassId) (po : zPool) (m0 mrf mki mpa mta mla msl mco mhe mso msi msh mce mca mwo mnu mte mwa mke mma mth mtr : Nat) (npu nte nat_ nde nto nse nhu nga nsd nfa nba npl nen nnu nwr nra nik : Int32) (grf : Nat → Int32) (b_ : Int32) (hy0 : 0 ≤ npu.toInt) (hy1 : npu.toInt ≤ 8) (hy2 : 4 ≤ nte.toInt) (hy3 : nte.toInt ≤ 40) (hy4 : 0 ≤ nat_.toInt) (hy5 : nat_.toInt ≤ 40) (hy6 : 0 ≤ nde.toInt) (hy7 : nde.toInt ≤ 24) (hy8 : 0 ≤ nhu.toInt) (hy9 : nhu.toInt ≤ 9) (hy10 : 0 ≤ nra.toInt) (hy11 : nra.toInt ≤ 2000) (hy12 : 0 ≤ nik.toInt) (hy13 : nik.toInt ≤ 1) (hy14 : (-7) ≤ b_.toInt) (hy15 : b_.toInt ≤ -1) (hpz : Nat) : Met l yX8_noTen wsX8_noTen ({ frames := 0, cells := 0, slots := 0, locals := 0 }) (va_Pc [.ref m0, .int b_] (zW D (zKT cI cJ cZ cP cS) po [(zMO m0 npu nte nat_ nde nto nse nhu nga nsd nfa mrf mki mpa mta mla msl mco mhe mso msi msh mce mca mwo mnu mte nba npl nen nnu nwr mwa mke mma mth mtr nra nik), (mrf, .inl (cI, 8, .inl grf))] hpz)) (va_Qi (fun (r : Int32) (grf2 : (Nat → Int32)) => (r.toInt = b_.toInt - 10) ∧ (-17 ≤ r.toInt ∧ r.toInt ≤ -11)) (zB D [(zMO m0 npu nte nat_ nde nto nse nhu nga nsd nfa mrf mki mpa mta mla msl mco mhe mso msi msh mce mca mwo mnu mte nba npl nen nnu nwr mwa mke mma mth mtr nra nik), (mrf, .inl (cI, 8, .inl grf))] hpz (fun (grf2 : Nat → Int32) => [(zMO m0 npu nte nat_ nde nto nse nhu nga nsd nfa mrf mki mpa mta mla msl mco mhe mso msi msh mce mca mwo mnu mte nba npl nen nnu nwr mwa mke mma mth mtr nra nik), (mrf, .inl (cI, 8, .inl grf2))])) (va_A [(zMO m0 npu nte nat_ nde nto nse nhu nga nsd nfa mrf mki mpa mta mla msl mco mhe mso msi msh mce mca mwo mnu mte nba npl nen nnu nwr mwa mke mma mth mtr nra nik), (mrf, .inl (cI, 8, .inl grf))] hpz)) 0 0 (va_A [(zMO m0 npu nte nat_ nde nto nse nhu nga nsd nfa mrf mki mpa mta mla msl mco mhe mso msi msh mce mca mwo mnu mte nba npl nen nnu nwr mwa mke mma mth mtr nra nik), (mrf, .inl (cI, 8, .inl grf))] hpz) := by
  refine Met.ofW (cc := cX8_noTen) (maxL := 2) (ret := (some .int)) (by decide) rfl ?_
  intro p e s m args below meth c s₁ B hml hv
  obtain ⟨rfl, hsz, hP, hK, hD0, hN, hZ⟩ := hv
  have hx := B.exec
  have hb := B.bytes
  have hr := B.returns
  have hts := atoms_spec (ws := wsX8_noTen) B.pre
  have hown : s.vm.findClass RX8 = some m.cls := findClass_of_methodNamed B.named
  have hlocks := B.notSynchronized
  subst hsz
  have hD := hD0.self (sz := s.heap.size)
  have hA := zA_of hD
  have hl := lv_entry ([.ref m0, .int b_]) (n := 2) (Nat.le_of_ble_eq_true rfl)
  rw [lg_entry_eq]
  generalize (lg_sl ([.ref m0, .int b_]) ++ List.replicate (2 - (lg_sl ([.ref m0, .int b_])).length) Slot.unset).toArray = ls at hl ⊢
  replace hl : lv_has ls 2 [(0, .ref m0), (1, .int b_)] := hl
  refine zw_begin hP hD (fun H locs hP1 hS => ?_)
  clear hP
  have hP := hP1
  clear hP1
  refine lv_aload_n hx hb dX8_noTen_0 rfl (lv_at hl 0 rfl) ?_
  refine va_get (D := D) (ci := 8) (v := .ref mrf) (C := RX8) (T := TX8) (N := 38) hx hb hts hi_X8_noTen_8 hown hK hP 0 rfl rfl 10 (by decide) (hts (.fieldLink RX8 25 "TheLiningsInItModel" "refused" "[I") (List.mem_of_getElem? (i := 1) rfl)) (fun _ h9 => h9) rfl dX8_noTen_1 ?_
  refine lv_iload_n hx hb dX8_noTen_4 rfl (lv_at hl 1 rfl) ?_
  refine lv_ineg hx hb dX8_noTen_5 ?_
  refine lv_topi (fun x_1 ex_1 => ?_)
  have qx_1 : x_1.toInt = -b_.toInt := by rw [ex_1]; exact zf_neg rfl (by omega) (by omega)
  refine lv_dup2_11 hx hb dX8_noTen_6 rfl rfl ?_
  refine va_iald hx hb hK hP 1 0 rfl rfl (zf_in (by omega) (by omega)) dX8_noTen_7 ?_
  refine lv_topi (fun x_2 ex_2 => ?_)
  refine lv_iconst (v := 1) hx hb dX8_noTen_8 (by decide) ?_
  refine lv_iadd hx hb dX8_noTen_9 ?_
  refine lv_topi (fun x_3 ex_3 => ?_)
  refine va_iast hx hb hK hP hD hS 1 0 rfl rfl (zf_in (by omega) (by omega)) dX8_noTen_10 (fun H locs hP hD hS => ?_)
  obtain ⟨g_4, hg_4⟩ : ∃ g : Nat → Int32, g = upd grf x_1.toNatClampNeg x_3 := ⟨_, rfl⟩
  rw [← hg_4] at hP hD
  clear hg_4
  have h9R := zRe (ws' := [(zMO m0 npu nte nat_ nde nto nse nhu nga nsd nfa mrf mki mpa mta mla msl mco mhe mso msi msh mce mca mwo mnu mte nba npl nen nnu nwr mwa mke mma mth mtr nra nik), (mrf, .inl (cI, 8, .inl g_4))]) hP hD rfl
  clear hP hD
  obtain ⟨hP, hD⟩ := h9R
  refine lv_iload_n hx hb dX8_noTen_11 rfl (lv_at hl 1 rfl) ?_
  refine lv_bipush (v := 10) hx hb dX8_noTen_12 (by decide) ?_
  refine lv_isub hx hb dX8_noTen_14 ?_
  refine lv_topi (fun x_5 ex_5 => ?_)
  have qx_5 : x_5.toInt = b_.toInt - 10 := by rw [ex_5]; exact zf_sub rfl (by decide) (by omega) (by omega)
  exact W.iret (v := x_5) hx hb hr (fun t ht hW => ⟨⟨x_5, g_4, rfl, ⟨(show (x_5 : Int32).toInt = b_.toInt - 10 from by omega), ⟨by omega, by omega⟩⟩, zRet ht hP hD [0, 1] (by decide) rfl⟩, hS.F ht⟩) hS.2.2 dX8_noTen_15
set_option maxHeartbeats 4000000 in
set_option maxRecDepth 100000 in
theorem c_F_M_best (l : Launch) (D : va_G) (cI cJ cZ cP cS : ClassId) (po : zPool) (m0 mrf mki mpa mta mla msl mco mhe mso msi msh mce mca mwo mnu mte mwa mke mma mth mtr : Nat) (npu nte nat_ nde nto nse nhu nga nsd nfa nba npl nen nnu nwr nra nik : Int32) (grf ghe gsi gki gpa : Nat → Int32) (gce : Nat → Int64) (s_ : Int32) (hy0 : 0 ≤ npu.toInt) (hy1 : npu.toInt ≤ 8) (hy2 : 4 ≤ nte.toInt) (hy3 : nte.toInt ≤ 40) (hy4 : 0 ≤ nat_.toInt) (hy5 : nat_.toInt ≤ 40) (hy6 : 0 ≤ nde.toInt) (hy7 : nde.toInt ≤ 24) (hy8 : 0 ≤ nhu.toInt) (hy9 : nhu.toInt ≤ 9) (hy10 : 0 ≤ nra.toInt) (hy11 : nra.toInt ≤ 2000) (hy12 : 0 ≤ nik.toInt) (hy13 : nik.toInt ≤ 1) (hp_ghe : zRg ghe (0) 2) (hp_gsi : zRg gsi (0) 160) (hp_gki : zRg gki (0) 6) (hp_gpa : zRg gpa (0) 9) (hpz : Nat) : Met l yX8_best wsX8_best ({ frames := 3, cells := 0, slots := 0, locals := 65 }) (va_Pc [.ref m0, .int s_] (zW D (zKT cI cJ cZ cP cS) po [(zMO m0 npu nte nat_ nde nto nse nhu nga nsd nfa mrf mki mpa mta mla msl mco mhe mso msi msh mce mca mwo mnu mte nba npl nen nnu nwr mwa mke mma mth mtr nra nik), (mrf, .inl (cI, 8, .inl grf)), (mhe, .inl (cI, 8, .inl ghe)), (msi, .inl (cI, 8, .inl gsi)), (mce, .inl (cJ, 1280, .inr (.inl gce))), (mki, .inl (cI, 8, .inl gki)), (mpa, .inl (cI, 8, .inl gpa))] hpz)) (va_Qi (fun (r : Int32) (grf2 : (Nat → Int32)) => (((s_.toInt < 0 ∨ 7 < s_.toInt) ∧ r.toInt = -11) ∨ ((0 ≤ s_.toInt ∧ s_.toInt ≤ 7) ∧ ∃ q : Int, zBelR (zHc (ghe s_.toNatClampNeg).toInt) (gsi s_.toNatClampNeg).toInt (zRw gce (160 * s_.toInt)) q ∧ ((q ≠ 0 ∧ r.toInt = -q - 10) ∨ (q = 0 ∧ zBst (zRw gce (160 * s_.toInt)) gki gpa nhu.toInt npu.toInt.toNat r.toInt)))) ∧ (True)) (zB D [(zMO m0 npu nte nat_ nde nto nse nhu nga nsd nfa mrf mki mpa mta mla msl mco mhe mso msi msh mce mca mwo mnu mte nba npl nen nnu nwr mwa mke mma mth mtr nra nik), (mrf, .inl (cI, 8, .inl grf)), (mhe, .inl (cI, 8, .inl ghe)), (msi, .inl (cI, 8, .inl gsi)), (mce, .inl (cJ, 1280, .inr (.inl gce))), (mki, .inl (cI, 8, .inl gki)), (mpa, .inl (cI, 8, .inl gpa))] hpz (fun (grf2 : Nat → Int32) => [(zMO m0 npu nte nat_ nde nto nse nhu nga nsd nfa mrf mki mpa mta mla msl mco mhe mso msi msh mce mca mwo mnu mte nba npl nen nnu nwr mwa mke mma mth mtr nra nik), (mrf, .inl (cI, 8, .inl grf2)), (mhe, .inl (cI, 8, .inl ghe)), (msi, .inl (cI, 8, .inl gsi)), (mce, .inl (cJ, 1280, .inr (.inl gce))), (mki, .inl (cI, 8, .inl gki)), (mpa, .inl (cI, 8, .inl gpa))])) (va_A [(zMO m0 npu nte nat_ nde nto nse nhu nga nsd nfa mrf mki mpa mta mla msl mco mhe mso msi msh mce mca mwo mnu mte nba npl nen nnu nwr mwa mke mma mth mtr nra nik), (mrf, .inl (cI, 8, .inl grf)), (mhe, .inl (cI, 8, .inl ghe)), (msi, .inl (cI, 8, .inl gsi)), (mce, .inl (cJ, 1280, .inr (.inl gce))), (mki, .inl (cI, 8, .inl gki)), (mpa, .inl (cI, 8, .inl gpa))] hpz)) 0 0 (va_A [(zMO m0 npu nte nat_ nde nto nse nhu nga nsd nfa mrf mki mpa mta mla msl mco mhe mso msi msh mce mca mwo mnu mte nba npl nen nnu nwr mwa mke mma mth mtr nra nik), (mrf, .inl (cI, 8, .inl grf)), (mhe, .inl (cI, 8, .inl ghe)), (msi, .inl (cI, 8, .inl gsi)), (mce, .inl (cJ, 1280, .inr (.inl gce))), (mki, .inl (cI, 8, .inl gki)), (mpa, .inl (cI, 8, .inl gpa))] hpz) := by
  refine Met.ofW (cc := cX8_best) (maxL := 5) (ret := (some .int)) (by decide) rfl ?_
  intro p e s m args below meth c s₁ B hml hv
  obtain ⟨rfl, hsz, hP, hK, hD0, hN, hZ⟩ := hv
  have hx := B.exec
  have hb := B.bytes
  have hr := B.returns
  have hts := atoms_spec (ws := wsX8_best) B.pre
  have hown : s.vm.findClass RX8 = some m.cls := findClass_of_methodNamed B.named
  have hlocks := B.notSynchronized
  subst hsz
  have hD := hD0.self (sz := s.heap.size)
  have hA := zA_of hD
  have hl := lv_entry ([.ref m0, .int s_]) (n := 5) (Nat.le_of_ble_eq_true rfl)
  rw [lg_entry_eq]
  generalize (lg_sl ([.ref m0, .int s_]) ++ List.replicate (5 - (lg_sl ([.ref m0, .int s_])).length) Slot.unset).toArray = ls at hl ⊢
  replace hl : lv_has ls 5 [(0, .ref m0), (1, .int s_)] := hl
  refine zw_begin hP hD (fun H locs hP1 hS => ?_)
  clear hP
  have hP := hP1
  clear hP1
  refine lv_aload_n hx hb dX8_best_0 rfl (lv_at hl 0 rfl) ?_
  refine lv_iload_n hx hb dX8_best_1 rfl (lv_at hl 1 rfl) ?_
  refine zc_V (As := [.int s_]) (rest := []) ⟨hx, hb, hml, hown, hts⟩ (c_F_M_barsOf l D cI cJ cZ cP cS po m0 mrf mki mpa mta mla msl mco mhe mso msi msh mce mca mwo mnu mte mwa mke mma mth mtr (npu) (nte) (nat_) (nde) (nto) (nse) (nhu) (nga) (nsd) (nfa) (nba) (npl) (nen) (nnu) (nwr) (nra) (nik) ghe gsi gce (s_) hy0 hy1 hy2 hy3 hy4 hy5 hy6 hy7 hy8 hy9 hy10 hy11 hy12 hy13 hp_ghe hp_gsi) (cwV 1 hts gX8_best_X8_barsOf rfl rfl rfl ⟨rfl, dh_X8_barsOf⟩ ⟨Nat.le_of_ble_eq_true rfl, Nat.le_of_ble_eq_true rfl⟩) hK hN (hZ.kept hS) hP (hP.sub [0, 2, 3, 4] rfl) (va_recv (q := (RX8, TX8, 38)) hK hP (ci := 8) (q0 := 0) rfl rfl) rfl hl.1 rfl (Nat.le_of_ble_eq_true rfl) dX8_best_2 ⟨Nat.le_of_ble_eq_true rfl, Nat.le_of_ble_eq_true rfl⟩ (fun r_1 hr_1 => ?_)
  obtain ⟨g_2, g_3, hsr_1_0, hsr_1_1⟩ := hr_1
  refine lv_istore_n (lv' := [(2, .int r_1), (0, .ref m0), (1, .int s_)]) hx hb dX8_best_5 rfl hl (by decide) rfl (fun ls hl => ?_)
  refine lv_iload_n hx hb dX8_best_6 rfl (lv_at hl 0 rfl) ?_
  refine lv_if_eq (tgt := 16) hx hb dX8_best_7 (by decide) (fun c_4 => ?_) (fun c_4 => ?_)
  · have fc_4 : r_1.toInt = 0 := zf_eq c_4 rfl (by decide)
    refine lv_iconst (v := (-1)) hx hb dX8_best_16 (by decide) ?_
    refine lv_istore_n (lv' := [(3, .int (-1)), (2, .int r_1), (0, .ref m0), (1, .int s_)]) hx hb dX8_best_17 rfl hl (by decide) rfl (fun ls hl => ?_)
    refine lv_iconst (v := 0) hx hb dX8_best_18 (by decide) ?_
    refine lv_istore (lv' := [(4, .int 0), (3, .int (-1)), (2, .int r_1), (0, .ref m0), (1, .int s_)]) hx hb dX8_best_19 hl (by decide) rfl (fun ls hl => ?_)
    obtain ⟨i_21, hi_21⟩ : ∃ i : Int32, i = 0 := ⟨_, rfl⟩
    replace hl : lv_has ls 5 [(4, .int i_21), (3, .int (-1)), (0, .ref m0), (1, .int s_)] := by rw [hi_21]; exact lv_sub hl [0, 1, 3, 4] rfl
    have h1i_21 : i_21.toInt = 0 := by rw [hi_21]; decide
    obtain ⟨nfu, hni_21⟩ : ∃ nq9 : Nat, npu.toInt ≤ i_21.toInt + (nq9 : Int) := ⟨((npu.toInt : Int) - 0).toNat, by omega⟩
    have hloi_21 : 0 ≤ i_21.toInt := by omega
    obtain ⟨v_5, hv_5⟩ : ∃ g : Int32, g = (-1) := ⟨_, rfl⟩
    replace hl : lv_has ls 5 [(4, .int i_21), (3, .int v_5), (0, .ref m0), (1, .int s_)] := by rw [hv_5]; exact hl
    have hbv_5 : -1 ≤ v_5.toInt ∧ v_5.toInt ≤ 7 := by rw [hv_5]; exact ⟨by decide, by decide⟩
    have hvi_21_0 : zBst (zRw gce (160 * s_.toInt)) gki gpa nhu.toInt i_21.toInt.toNat (v_5 : Int32).toInt := by
      (try rw [hi_21]); (try rw [hv_5]); (rw [(show ((0 : Int32).toInt.toNat) = 0 from by decide)]; exact Or.inl ⟨rfl, by decide⟩)
    have hvi_21_1 : (v_5 : Int32).toInt < i_21.toInt ∧ i_21.toInt ≤ npu.toInt := by
      (try rw [hi_21]); (try rw [hv_5]); (have k0 : (0 : Int32).toInt = 0 := (by decide); have km : ((-1) : Int32).toInt = -1 := (by decide); omega)
    clear h1i_21 hi_21 hv_5
    skip
    revert hni_21
    revert hloi_21
    revert hvi_21_1
    revert hvi_21_0
    revert hbv_5
    revert hl
    revert hS
    revert hD
    revert hP
    revert ls
    revert locs
    revert H
    revert v_5
    revert i_21
    induction nfu with
    | zero =>
      intro i_21 v_5 H locs ls hP hD hS hl hbv_5 hvi_21_0 hvi_21_1 hloi_21 hni_21
      have hzi_21 : npu.toInt ≤ i_21.toInt := by omega
      refine lv_iload hx hb dX8_best_21 (lv_at hl 0 rfl) ?_
      refine lv_aload_n hx hb dX8_best_23 rfl (lv_at hl 2 rfl) ?_
      refine va_get (D := D) (ci := 8) (v := .int npu) (C := RX8) (T := TX8) (N := 38) hx hb hts hi_X8_best_8 hown hK hP 0 rfl rfl 0 (by decide) (hts (.fieldLink RX8 90 "TheLiningsInItModel" "pulls" "I") (List.mem_of_getElem? (i := 1) rfl)) (fun _ h9 => h9) rfl dX8_best_24 ?_
      refine lv_icmp_ge (tgt := 60) hx hb dX8_best_27 (by decide) (fun c_6 => ?_) (fun c_6 => ?_)
      · have fc_6 : npu.toInt ≤ i_21.toInt := zf_le c_6 rfl rfl
        refine lv_iload_n hx hb dX8_best_60 rfl (lv_at hl 1 rfl) ?_
        exact W.iret (v := v_5) hx hb hr (fun t ht hW => ⟨⟨v_5, grf, rfl, ⟨(show ((s_.toInt < 0 ∨ 7 < s_.toInt) ∧ (v_5 : Int32).toInt = -11) ∨ ((0 ≤ s_.toInt ∧ s_.toInt ≤ 7) ∧ ∃ q : Int, zBelR (zHc (ghe s_.toNatClampNeg).toInt) (gsi s_.toNatClampNeg).toInt (zRw gce (160 * s_.toInt)) q ∧ ((q ≠ 0 ∧ (v_5 : Int32).toInt = -q - 10) ∨ (q = 0 ∧ zBst (zRw gce (160 * s_.toInt)) gki gpa nhu.toInt npu.toInt.toNat (v_5 : Int32).toInt))) from by (have z := hsr_1_0; rcases z with z | ⟨z1, q, z2, z3⟩; (exfalso; omega); (have h9 : i_21.toInt.toNat = npu.toInt.toNat := (by omega); have y := hvi_21_0; rw [h9] at y; exact Or.inr ⟨z1, q, z2, Or.inr ⟨by omega, y⟩⟩))), trivial⟩, zRet ht hP hD [0, 1, 2, 3, 4, 5, 6] (by decide) rfl⟩, hS.F ht⟩) hS.2.2 dX8_best_61
      · exfalso; have fc_6 : i_21.toInt < npu.toInt := zf_nle c_6 rfl rfl; omega
    | succ nfu ih =>
      intro i_21 v_5 H locs ls hP hD hS hl hbv_5 hvi_21_0 hvi_21_1 hloi_21 hni_21
      refine lv_iload hx hb dX8_best_21 (lv_at hl 0 rfl) ?_
      refine lv_aload_n hx hb dX8_best_23 rfl (lv_at hl 2 rfl) ?_
      refine va_get (D := D) (ci := 8) (v := .int npu) (C := RX8) (T := TX8) (N := 38) hx hb hts hi_X8_best_8 hown hK hP 0 rfl rfl 0 (by decide) (hts (.fieldLink RX8 90 "TheLiningsInItModel" "pulls" "I") (List.mem_of_getElem? (i := 1) rfl)) (fun _ h9 => h9) rfl dX8_best_24 ?_
      refine lv_icmp_ge (tgt := 60) hx hb dX8_best_27 (by decide) (fun c_7 => ?_) (fun c_7 => ?_)
      · have fc_7 : npu.toInt ≤ i_21.toInt := zf_le c_7 rfl rfl
        refine lv_iload_n hx hb dX8_best_60 rfl (lv_at hl 1 rfl) ?_
        exact W.iret (v := v_5) hx hb hr (fun t ht hW => ⟨⟨v_5, grf, rfl, ⟨(show ((s_.toInt < 0 ∨ 7 < s_.toInt) ∧ (v_5 : Int32).toInt = -11) ∨ ((0 ≤ s_.toInt ∧ s_.toInt ≤ 7) ∧ ∃ q : Int, zBelR (zHc (ghe s_.toNatClampNeg).toInt) (gsi s_.toNatClampNeg).toInt (zRw gce (160 * s_.toInt)) q ∧ ((q ≠ 0 ∧ (v_5 : Int32).toInt = -q - 10) ∨ (q = 0 ∧ zBst (zRw gce (160 * s_.toInt)) gki gpa nhu.toInt npu.toInt.toNat (v_5 : Int32).toInt))) from by (have z := hsr_1_0; rcases z with z | ⟨z1, q, z2, z3⟩; (exfalso; omega); (have h9 : i_21.toInt.toNat = npu.toInt.toNat := (by omega); have y := hvi_21_0; rw [h9] at y; exact Or.inr ⟨z1, q, z2, Or.inr ⟨by omega, y⟩⟩))), trivial⟩, zRet ht hP hD [0, 1, 2, 3, 4, 5, 6] (by decide) rfl⟩, hS.F ht⟩) hS.2.2 dX8_best_61
      · have fc_7 : i_21.toInt < npu.toInt := zf_nle c_7 rfl rfl
        refine lv_iload_n hx hb dX8_best_30 rfl (lv_at hl 1 rfl) ?_
        refine lv_iconst (v := (-1)) hx hb dX8_best_31 (by decide) ?_
        refine lv_icmp_eq (tgt := 51) hx hb dX8_best_32 (by decide) (fun c_8 => ?_) (fun c_8 => ?_)
        · have fc_8 : v_5.toInt = (-1) := zf_eq c_8 rfl (by decide)
          refine lv_iload hx hb dX8_best_51 (lv_at hl 0 rfl) ?_
          refine lv_istore_n (lv' := [(3, .int i_21), (4, .int i_21), (0, .ref m0), (1, .int s_)]) hx hb dX8_best_53 rfl hl (by decide) rfl (fun ls hl => ?_)
          obtain ⟨x_9, ex_9⟩ : ∃ y : Int32, y = i_21 + 1 := ⟨_, rfl⟩
          have qx_9 : x_9.toInt = i_21.toInt + 1 := dw_inc ex_9 fc_7
          refine lv_iinc (v := x_9) (lv' := [(4, .int x_9), (3, .int i_21), (0, .ref m0), (1, .int s_)]) hx hb dX8_best_54 hl (k := 1) rfl ex_9.symm (by decide) rfl (fun ls hl => ?_)
          refine lv_goto (tgt := 21) hx hb dX8_best_57 (by decide) ?_
          exact ih x_9 i_21 _ _ _ (hP.sub [0, 1, 2, 3, 4, 5, 6] rfl) (hD.sub [0, 1, 2, 3, 4, 5, 6] (by decide) rfl) hS (lv_sub hl [0, 1, 2, 3] rfl) ⟨by omega, by omega⟩ (show zBst (zRw gce (160 * s_.toInt)) gki gpa nhu.toInt x_9.toInt.toNat (i_21 : Int32).toInt from by (have y9 : i_21.toNatClampNeg = i_21.toInt.toNat := rfl; have y8 : v_5.toNatClampNeg = v_5.toInt.toNat := rfl; rw [show x_9.toInt.toNat = i_21.toInt.toNat + 1 from by omega]; obtain ⟨z1, z2⟩ := zBst_S hvi_21_0; first | (have z4 := z1 (by first | exact Or.inl (by omega) | exact Or.inr ⟨v_5.toInt.toNat, by omega, by omega, by omega⟩); rw [show ((i_21.toInt.toNat : Nat) : Int) = i_21.toInt from by omega] at z4; exact z4) | exact z2 ⟨v_5.toInt.toNat, by omega, by omega, by omega⟩)) (show (i_21 : Int32).toInt < x_9.toInt ∧ x_9.toInt ≤ npu.toInt from by exact ⟨by omega, by omega⟩) (dw_lo hloi_21 qx_9) (dw_hn hni_21 qx_9)
        · have fc_8 : v_5.toInt ≠ (-1) := zf_ne c_8 rfl (by decide)
          refine lv_aload_n hx hb dX8_best_35 rfl (lv_at hl 2 rfl) ?_
          refine lv_iload_n hx hb dX8_best_36 rfl (lv_at hl 3 rfl) ?_
          refine lv_iload hx hb dX8_best_37 (lv_at hl 0 rfl) ?_
          refine zc_V (As := [.int s_, .int i_21]) (rest := []) ⟨hx, hb, hml, hown, hts⟩ (c_F_M_freedBy l D cI cJ cZ cP cS po m0 mrf mki mpa mta mla msl mco mhe mso msi msh mce mca mwo mnu mte mwa mke mma mth mtr (npu) (nte) (nat_) (nde) (nto) (nse) (nhu) (nga) (nsd) (nfa) (nba) (npl) (nen) (nnu) (nwr) (nra) (nik) gki gpa gce (s_) (i_21) hy0 hy1 hy2 hy3 hy4 hy5 hy6 hy7 hy8 hy9 hy10 hy11 hy12 hy13 (by omega) (by omega) (by omega) (by omega) (by (have z := hsr_1_0; rcases z with z | ⟨z1, q, z2, z3⟩; (exfalso; omega); (obtain rfl : q = 0 := (by omega); unfold zBelR at z2; rcases z2 with z | z | z | z | z <;> first | exact z.2.2.1 | (exfalso; omega)))) hp_gki hp_gpa) (cwV 2 hts gX8_best_X8_freedBy rfl rfl rfl ⟨rfl, dh_X8_freedBy⟩ ⟨Nat.le_of_ble_eq_true rfl, Nat.le_of_ble_eq_true rfl⟩) hK hN (hZ.kept hS) hP (hP.sub [0, 5, 6, 4] rfl) (va_recv (q := (RX8, TX8, 38)) hK hP (ci := 8) (q0 := 0) rfl rfl) rfl hl.1 rfl (Nat.le_of_ble_eq_true rfl) dX8_best_39 ⟨Nat.le_of_ble_eq_true rfl, Nat.le_of_ble_eq_true rfl⟩ (fun r_10 hr_10 => ?_)
          obtain ⟨g_11, g_12, hsr_10_0⟩ := hr_10
          refine lv_aload_n hx hb dX8_best_42 rfl (lv_at hl 2 rfl) ?_
          refine lv_iload_n hx hb dX8_best_43 rfl (lv_at hl 3 rfl) ?_
          refine lv_iload_n hx hb dX8_best_44 rfl (lv_at hl 1 rfl) ?_
          refine zc_V (As := [.int s_, .int v_5]) (rest := [.int r_10]) ⟨hx, hb, hml, hown, hts⟩ (c_F_M_freedBy l D cI cJ cZ cP cS po m0 mrf mki mpa mta mla msl mco mhe mso msi msh mce mca mwo mnu mte mwa mke mma mth mtr (npu) (nte) (nat_) (nde) (nto) (nse) (nhu) (nga) (nsd) (nfa) (nba) (npl) (nen) (nnu) (nwr) (nra) (nik) gki gpa gce (s_) (v_5) hy0 hy1 hy2 hy3 hy4 hy5 hy6 hy7 hy8 hy9 hy10 hy11 hy12 hy13 (by omega) (by omega) (by omega) hbv_5.2 (by (have z := hsr_1_0; rcases z with z | ⟨z1, q, z2, z3⟩; (exfalso; omega); (obtain rfl : q = 0 := (by omega); unfold zBelR at z2; rcases z2 with z | z | z | z | z <;> first | exact z.2.2.1 | (exfalso; omega)))) hp_gki hp_gpa) (cwV 2 hts gX8_best_X8_freedBy rfl rfl rfl ⟨rfl, dh_X8_freedBy⟩ ⟨Nat.le_of_ble_eq_true rfl, Nat.le_of_ble_eq_true rfl⟩) hK hN (hZ.kept hS) hP (hP.sub [0, 5, 6, 4] rfl) (va_recv (q := (RX8, TX8, 38)) hK hP (ci := 8) (q0 := 0) rfl rfl) rfl hl.1 rfl (Nat.le_of_ble_eq_true rfl) dX8_best_45 ⟨Nat.le_of_ble_eq_true rfl, Nat.le_of_ble_eq_true rfl⟩ (fun r_13 hr_13 => ?_)
          obtain ⟨g_14, g_15, hsr_13_0⟩ := hr_13
          refine lv_icmp_le (tgt := 54) hx hb dX8_best_48 (by decide) (fun c_16 => ?_) (fun c_16 => ?_)
          · have fc_16 : r_10.toInt ≤ r_13.toInt := zf_le c_16 rfl rfl
            obtain ⟨x_17, ex_17⟩ : ∃ y : Int32, y = i_21 + 1 := ⟨_, rfl⟩
            have qx_17 : x_17.toInt = i_21.toInt + 1 := dw_inc ex_17 fc_7
            refine lv_iinc (v := x_17) (lv' := [(4, .int x_17), (3, .int v_5), (0, .ref m0), (1, .int s_)]) hx hb dX8_best_54 hl (k := 0) rfl ex_17.symm (by decide) rfl (fun ls hl => ?_)
            refine lv_goto (tgt := 21) hx hb dX8_best_57 (by decide) ?_
            exact ih x_17 v_5 _ _ _ (hP.sub [0, 1, 2, 3, 4, 5, 6] rfl) (hD.sub [0, 1, 2, 3, 4, 5, 6] (by decide) rfl) hS (lv_sub hl [0, 1, 2, 3] rfl) hbv_5 (show zBst (zRw gce (160 * s_.toInt)) gki gpa nhu.toInt x_17.toInt.toNat (v_5 : Int32).toInt from by (have y9 : i_21.toNatClampNeg = i_21.toInt.toNat := rfl; have y8 : v_5.toNatClampNeg = v_5.toInt.toNat := rfl; have x1 := hsr_10_0; rw [y9] at x1; have x2 := hsr_13_0; rw [y8] at x2; rw [show x_17.toInt.toNat = i_21.toInt.toNat + 1 from by omega]; obtain ⟨z1, z2⟩ := zBst_S hvi_21_0; first | (have z4 := z1 (by first | exact Or.inl (by omega) | exact Or.inr ⟨v_5.toInt.toNat, by omega, by omega, by omega⟩); rw [show ((i_21.toInt.toNat : Nat) : Int) = i_21.toInt from by omega] at z4; exact z4) | exact z2 ⟨v_5.toInt.toNat, by omega, by omega, by omega⟩)) (show (v_5 : Int32).toInt < x_17.toInt ∧ x_17.toInt ≤ npu.toInt from by exact ⟨by omega, by omega⟩) (dw_lo hloi_21 qx_17) (dw_hn hni_21 qx_17)
          · have fc_16 : r_13.toInt < r_10.toInt := zf_nle c_16 rfl rfl
            refine lv_iload hx hb dX8_best_51 (lv_at hl 0 rfl) ?_
            refine lv_istore_n (lv' := [(3, .int i_21), (4, .int i_21), (0, .ref m0), (1, .int s_)]) hx hb dX8_best_53 rfl hl (by decide) rfl (fun ls hl => ?_)
            obtain ⟨x_18, ex_18⟩ : ∃ y : Int32, y = i_21 + 1 := ⟨_, rfl⟩
            have qx_18 : x_18.toInt = i_21.toInt + 1 := dw_inc ex_18 fc_7
            refine lv_iinc (v := x_18) (lv' := [(4, .int x_18), (3, .int i_21), (0, .ref m0), (1, .int s_)]) hx hb dX8_best_54 hl (k := 1) rfl ex_18.symm (by decide) rfl (fun ls hl => ?_)
            refine lv_goto (tgt := 21) hx hb dX8_best_57 (by decide) ?_
            exact ih x_18 i_21 _ _ _ (hP.sub [0, 1, 2, 3, 4, 5, 6] rfl) (hD.sub [0, 1, 2, 3, 4, 5, 6] (by decide) rfl) hS (lv_sub hl [0, 1, 2, 3] rfl) ⟨by omega, by omega⟩ (show zBst (zRw gce (160 * s_.toInt)) gki gpa nhu.toInt x_18.toInt.toNat (i_21 : Int32).toInt from by (have y9 : i_21.toNatClampNeg = i_21.toInt.toNat := rfl; have y8 : v_5.toNatClampNeg = v_5.toInt.toNat := rfl; have x1 := hsr_10_0; rw [y9] at x1; have x2 := hsr_13_0; rw [y8] at x2; rw [show x_18.toInt.toNat = i_21.toInt.toNat + 1 from by omega]; obtain ⟨z1, z2⟩ := zBst_S hvi_21_0; first | (have z4 := z1 (by first | exact Or.inl (by omega) | exact Or.inr ⟨v_5.toInt.toNat, by omega, by omega, by omega⟩); rw [show ((i_21.toInt.toNat : Nat) : Int) = i_21.toInt from by omega] at z4; exact z4) | exact z2 ⟨v_5.toInt.toNat, by omega, by omega, by omega⟩)) (show (i_21 : Int32).toInt < x_18.toInt ∧ x_18.toInt ≤ npu.toInt from by exact ⟨by omega, by omega⟩) (dw_lo hloi_21 qx_18) (dw_hn hni_21 qx_18)
  · have fc_4 : r_1.toInt ≠ 0 := zf_ne c_4 rfl (by decide)
    refine lv_aload_n hx hb dX8_best_10 rfl (lv_at hl 1 rfl) ?_
    refine lv_iload_n hx hb dX8_best_11 rfl (lv_at hl 0 rfl) ?_
    skip
    refine zw_V (As := [.int r_1]) (rest := []) (wr := [(mhe, .inl (cI, 8, .inl ghe)), (msi, .inl (cI, 8, .inl gsi)), (mce, .inl (cJ, 1280, .inr (.inl gce))), (mki, .inl (cI, 8, .inl gki)), (mpa, .inl (cI, 8, .inl gpa))]) ⟨hx, hb, hml, hown, hts⟩ (c_F_M_noTen l D cI cJ cZ cP cS po m0 mrf mki mpa mta mla msl mco mhe mso msi msh mce mca mwo mnu mte mwa mke mma mth mtr (npu) (nte) (nat_) (nde) (nto) (nse) (nhu) (nga) (nsd) (nfa) (nba) (npl) (nen) (nnu) (nwr) (nra) (nik) grf (r_1) hy0 hy1 hy2 hy3 hy4 hy5 hy6 hy7 hy8 hy9 hy10 hy11 hy12 hy13 (by omega) (by omega) H.size) (cwV 1 hts gX8_best_X8_noTen rfl rfl rfl ⟨rfl, dh_X8_noTen⟩ ⟨Nat.le_of_ble_eq_true rfl, Nat.le_of_ble_eq_true rfl⟩) hK hN (hZ.kept hS) hP hD hS hA [0, 1] [2, 3, 4, 5, 6] rfl rfl (by decide) (by decide) (by decide) (va_recv (q := (RX8, TX8, 38)) hK hP (ci := 8) (q0 := 0) rfl rfl) rfl hl.1 rfl (Nat.le_of_ble_eq_true rfl) dX8_best_12 ⟨Nat.le_of_ble_eq_true rfl, Nat.le_of_ble_eq_true rfl⟩ (fun r_19 u_20 H locs hr_19 hP hD hS => ?_)
    obtain ⟨q_21, rfl⟩ : ∃ z, z = u_20 := ⟨_, rfl⟩
    obtain ⟨hsr_19_0, hr_19⟩ := hr_19
    have h9R := zRe (ws' := [(mhe, .inl (cI, 8, .inl ghe)), (msi, .inl (cI, 8, .inl gsi)), (mce, .inl (cJ, 1280, .inr (.inl gce))), (mki, .inl (cI, 8, .inl gki)), (mpa, .inl (cI, 8, .inl gpa)), (zMO m0 npu nte nat_ nde nto nse nhu nga nsd nfa mrf mki mpa mta mla msl mco mhe mso msi msh mce mca mwo mnu mte nba npl nen nnu nwr mwa mke mma mth mtr nra nik), (mrf, .inl (cI, 8, .inl q_21))]) hP hD rfl
    clear hP hD
    obtain ⟨hP, hD⟩ := h9R
    obtain ⟨g_22, g_23⟩ := hr_19
    exact W.iret (v := r_19) hx hb hr (fun t ht hW => ⟨⟨r_19, q_21, rfl, ⟨(show ((s_.toInt < 0 ∨ 7 < s_.toInt) ∧ (r_19 : Int32).toInt = -11) ∨ ((0 ≤ s_.toInt ∧ s_.toInt ≤ 7) ∧ ∃ q : Int, zBelR (zHc (ghe s_.toNatClampNeg).toInt) (gsi s_.toNatClampNeg).toInt (zRw gce (160 * s_.toInt)) q ∧ ((q ≠ 0 ∧ (r_19 : Int32).toInt = -q - 10) ∨ (q = 0 ∧ zBst (zRw gce (160 * s_.toInt)) gki gpa nhu.toInt npu.toInt.toNat (r_19 : Int32).toInt))) from by (have z := hsr_1_0; rcases z with z | ⟨z1, q, z2, z3⟩; (exact Or.inl ⟨by omega, by omega⟩); (exact Or.inr ⟨z1, q, z2, Or.inl ⟨by omega, by omega⟩⟩))), trivial⟩, zRet ht hP hD [5, 6, 0, 1, 2, 3, 4] (by decide) rfl⟩, hS.F ht⟩) hS.2.2 dX8_best_15
set_option maxHeartbeats 4000000 in
set_option maxRecDepth 100000 in
theorem c_F_M_behind (l : Launch) (D : va_G) (cI cJ cZ cP cS : ClassId) (po : zPool) (m0 mrf mki mpa mta mla msl mco mhe mso msi msh mce mca mwo mnu mte mwa mke mma mth mtr : Nat) (npu nte nat_ nde nto nse nhu nga nsd nfa nba npl nen nnu nwr nra nik : Int32) (grf ghe gsi gki gpa : Nat → Int32) (gce : Nat → Int64) (s_ p_ to : Int32) (hy0 : 0 ≤ npu.toInt) (hy1 : npu.toInt ≤ 8) (hy2 : 4 ≤ nte.toInt) (hy3 : nte.toInt ≤ 40) (hy4 : 0 ≤ nat_.toInt) (hy5 : nat_.toInt ≤ 40) (hy6 : 0 ≤ nde.toInt) (hy7 : nde.toInt ≤ 24) (hy8 : 0 ≤ nhu.toInt) (hy9 : nhu.toInt ≤ 9) (hy10 : 0 ≤ nra.toInt) (hy11 : nra.toInt ≤ 2000) (hy12 : 0 ≤ nik.toInt) (hy13 : nik.toInt ≤ 1) (hp_ghe : zRg ghe (0) 2) (hp_gsi : zRg gsi (0) 160) (hp_gki : zRg gki (0) 6) (hp_gpa : zRg gpa (0) 9) (hpz : Nat) : Met l yX8_behind wsX8_behind ({ frames := 3, cells := 0, slots := 0, locals := 65 }) (va_Pc [.ref m0, .int s_, .int p_, .int to] (zW D (zKT cI cJ cZ cP cS) po [(zMO m0 npu nte nat_ nde nto nse nhu nga nsd nfa mrf mki mpa mta mla msl mco mhe mso msi msh mce mca mwo mnu mte nba npl nen nnu nwr mwa mke mma mth mtr nra nik), (mrf, .inl (cI, 8, .inl grf)), (mhe, .inl (cI, 8, .inl ghe)), (msi, .inl (cI, 8, .inl gsi)), (mce, .inl (cJ, 1280, .inr (.inl gce))), (mki, .inl (cI, 8, .inl gki)), (mpa, .inl (cI, 8, .inl gpa))] hpz)) (va_Qi (fun (r : Int32) (grf2 : (Nat → Int32)) => (((s_.toInt < 0 ∨ 7 < s_.toInt ∨ p_.toInt < 0 ∨ npu.toInt ≤ p_.toInt) ∧ r.toInt = -1) ∨ ((0 ≤ s_.toInt ∧ s_.toInt ≤ 7) ∧ (0 ≤ p_.toInt ∧ p_.toInt < npu.toInt) ∧ ∃ q : Int, zBelR (zHc (ghe s_.toNatClampNeg).toInt) (gsi s_.toNatClampNeg).toInt (zRw gce (160 * s_.toInt)) q ∧ ((q ≠ 0 ∧ r.toInt = -q) ∨ (q = 0 ∧ (((to.toInt < 0 ∨ 24 < to.toInt) ∧ r.toInt = -6) ∨ ((0 ≤ to.toInt ∧ to.toInt ≤ 24) ∧ r.toInt = zBh (zRw gce (160 * s_.toInt)) (gki p_.toNatClampNeg).toInt (gpa p_.toNatClampNeg).toInt nhu.toInt to.toInt 24)))))) ∧ (True)) (zB D [(zMO m0 npu nte nat_ nde nto nse nhu nga nsd nfa mrf mki mpa mta mla msl mco mhe mso msi msh mce mca mwo mnu mte nba npl nen nnu nwr mwa mke mma mth mtr nra nik), (mrf, .inl (cI, 8, .inl grf)), (mhe, .inl (cI, 8, .inl ghe)), (msi, .inl (cI, 8, .inl gsi)), (mce, .inl (cJ, 1280, .inr (.inl gce))), (mki, .inl (cI, 8, .inl gki)), (mpa, .inl (cI, 8, .inl gpa))] hpz (fun (grf2 : Nat → Int32) => [(zMO m0 npu nte nat_ nde nto nse nhu nga nsd nfa mrf mki mpa mta mla msl mco mhe mso msi msh mce mca mwo mnu mte nba npl nen nnu nwr mwa mke mma mth mtr nra nik), (mrf, .inl (cI, 8, .inl grf2)), (mhe, .inl (cI, 8, .inl ghe)), (msi, .inl (cI, 8, .inl gsi)), (mce, .inl (cJ, 1280, .inr (.inl gce))), (mki, .inl (cI, 8, .inl gki)), (mpa, .inl (cI, 8, .inl gpa))])) (va_A [(zMO m0 npu nte nat_ nde nto nse nhu nga nsd nfa mrf mki mpa mta mla msl mco mhe mso msi msh mce mca mwo mnu mte nba npl nen nnu nwr mwa mke mma mth mtr nra nik), (mrf, .inl (cI, 8, .inl grf)), (mhe, .inl (cI, 8, .inl ghe)), (msi, .inl (cI, 8, .inl gsi)), (mce, .inl (cJ, 1280, .inr (.inl gce))), (mki, .inl (cI, 8, .inl gki)), (mpa, .inl (cI, 8, .inl gpa))] hpz)) 0 0 (va_A [(zMO m0 npu nte nat_ nde nto nse nhu nga nsd nfa mrf mki mpa mta mla msl mco mhe mso msi msh mce mca mwo mnu mte nba npl nen nnu nwr mwa mke mma mth mtr nra nik), (mrf, .inl (cI, 8, .inl grf)), (mhe, .inl (cI, 8, .inl ghe)), (msi, .inl (cI, 8, .inl gsi)), (mce, .inl (cJ, 1280, .inr (.inl gce))), (mki, .inl (cI, 8, .inl gki)), (mpa, .inl (cI, 8, .inl gpa))] hpz) := by
  refine Met.ofW (cc := cX8_behind) (maxL := 8) (ret := (some .int)) (by decide) rfl ?_
  intro p e s m args below meth c s₁ B hml hv
  obtain ⟨rfl, hsz, hP, hK, hD0, hN, hZ⟩ := hv
  have hx := B.exec
  have hb := B.bytes
  have hr := B.returns
  have hts := atoms_spec (ws := wsX8_behind) B.pre
  have hown : s.vm.findClass RX8 = some m.cls := findClass_of_methodNamed B.named
  have hlocks := B.notSynchronized
  subst hsz
  have hD := hD0.self (sz := s.heap.size)
  have hA := zA_of hD
  have hl := lv_entry ([.ref m0, .int s_, .int p_, .int to]) (n := 8) (Nat.le_of_ble_eq_true rfl)
  rw [lg_entry_eq]
  generalize (lg_sl ([.ref m0, .int s_, .int p_, .int to]) ++ List.replicate (8 - (lg_sl ([.ref m0, .int s_, .int p_, .int to])).length) Slot.unset).toArray = ls at hl ⊢
  replace hl : lv_has ls 8 [(0, .ref m0), (1, .int s_), (2, .int p_), (3, .int to)] := hl
  refine zw_begin hP hD (fun H locs hP1 hS => ?_)
  clear hP
  have hP := hP1
  clear hP1
  refine lv_aload_n hx hb dX8_behind_0 rfl (lv_at hl 0 rfl) ?_
  refine lv_iload_n hx hb dX8_behind_1 rfl (lv_at hl 1 rfl) ?_
  refine zc_V (As := [.int s_]) (rest := []) ⟨hx, hb, hml, hown, hts⟩ (c_M_isShelf l D cI cJ cZ cP cS po m0 mrf mki mpa mta mla msl mco mhe mso msi msh mce mca mwo mnu mte mwa mke mma mth mtr (npu) (nte) (nat_) (nde) (nto) (nse) (nhu) (nga) (nsd) (nfa) (nba) (npl) (nen) (nnu) (nwr) (nra) (nik) (s_) hy0 hy1 hy2 hy3 hy4 hy5 hy6 hy7 hy8 hy9 hy10 hy11 hy12 hy13) (cwV 1 hts gX8_behind_X8_isShelf rfl rfl rfl ⟨rfl, dh_X8_isShelf⟩ ⟨Nat.le_of_ble_eq_true rfl, Nat.le_of_ble_eq_true rfl⟩) hK hN (hZ.kept hS) hP (hP.sub [0] rfl) (va_recv (q := (RX8, TX8, 38)) hK hP (ci := 8) (q0 := 0) rfl rfl) rfl hl.1 rfl (Nat.le_of_ble_eq_true rfl) dX8_behind_2 ⟨Nat.le_of_ble_eq_true rfl, Nat.le_of_ble_eq_true rfl⟩ (fun r_1 hr_1 => ?_)
  rcases hr_1 with ⟨rfl, g_2⟩ | ⟨rfl, g_3, g_4⟩ | ⟨rfl, g_5, g_6⟩
  · refine lv_if_eq (tgt := 20) hx hb dX8_behind_5 (by decide) (fun c_7 => ?_) (fun c_7 => ?_)
    · refine lv_aload_n hx hb dX8_behind_20 rfl (lv_at hl 0 rfl) ?_
      refine lv_iload_n hx hb dX8_behind_21 rfl (lv_at hl 1 rfl) ?_
      refine zc_V (As := [.int s_]) (rest := []) ⟨hx, hb, hml, hown, hts⟩ (c_F_M_barsOf l D cI cJ cZ cP cS po m0 mrf mki mpa mta mla msl mco mhe mso msi msh mce mca mwo mnu mte mwa mke mma mth mtr (npu) (nte) (nat_) (nde) (nto) (nse) (nhu) (nga) (nsd) (nfa) (nba) (npl) (nen) (nnu) (nwr) (nra) (nik) ghe gsi gce (s_) hy0 hy1 hy2 hy3 hy4 hy5 hy6 hy7 hy8 hy9 hy10 hy11 hy12 hy13 hp_ghe hp_gsi) (cwV 1 hts gX8_behind_X8_barsOf rfl rfl rfl ⟨rfl, dh_X8_barsOf⟩ ⟨Nat.le_of_ble_eq_true rfl, Nat.le_of_ble_eq_true rfl⟩) hK hN (hZ.kept hS) hP (hP.sub [0, 2, 3, 4] rfl) (va_recv (q := (RX8, TX8, 38)) hK hP (ci := 8) (q0 := 0) rfl rfl) rfl hl.1 rfl (Nat.le_of_ble_eq_true rfl) dX8_behind_22 ⟨Nat.le_of_ble_eq_true rfl, Nat.le_of_ble_eq_true rfl⟩ (fun r_8 hr_8 => ?_)
      obtain ⟨g_9, g_10, hsr_8_0, hsr_8_1⟩ := hr_8
      refine lv_istore (lv' := [(4, .int r_8), (0, .ref m0), (1, .int s_), (2, .int p_), (3, .int to)]) hx hb dX8_behind_25 hl (by decide) rfl (fun ls hl => ?_)
      refine lv_iload hx hb dX8_behind_27 (lv_at hl 0 rfl) ?_
      refine lv_if_ne (tgt := 46) hx hb dX8_behind_29 (by decide) (fun c_11 => ?_) (fun c_11 => ?_)
      · have fc_11 : r_8.toInt ≠ 0 := zf_ne c_11 rfl (by decide)
        refine lv_iload hx hb dX8_behind_46 (lv_at hl 0 rfl) ?_
        refine lv_if_eq (tgt := 58) hx hb dX8_behind_48 (by decide) (fun c_12 => ?_) (fun c_12 => ?_)
        · exfalso; have fc_12 : r_8.toInt = 0 := zf_eq c_12 rfl (by decide); omega
        · have fc_12 : r_8.toInt ≠ 0 := zf_ne c_12 rfl (by decide)
          refine lv_aload_n hx hb dX8_behind_51 rfl (lv_at hl 1 rfl) ?_
          refine lv_iload hx hb dX8_behind_52 (lv_at hl 0 rfl) ?_
          skip
          refine zw_V (As := [.int r_8]) (rest := []) (wr := [(mhe, .inl (cI, 8, .inl ghe)), (msi, .inl (cI, 8, .inl gsi)), (mce, .inl (cJ, 1280, .inr (.inl gce))), (mki, .inl (cI, 8, .inl gki)), (mpa, .inl (cI, 8, .inl gpa))]) ⟨hx, hb, hml, hown, hts⟩ (c_M_no l D cI cJ cZ cP cS po m0 mrf mki mpa mta mla msl mco mhe mso msi msh mce mca mwo mnu mte mwa mke mma mth mtr (npu) (nte) (nat_) (nde) (nto) (nse) (nhu) (nga) (nsd) (nfa) (nba) (npl) (nen) (nnu) (nwr) (nra) (nik) grf (r_8) hy0 hy1 hy2 hy3 hy4 hy5 hy6 hy7 hy8 hy9 hy10 hy11 hy12 hy13 (by omega) (by omega) H.size) (cwV 1 hts gX8_behind_X8_no rfl rfl rfl ⟨rfl, dh_X8_no⟩ ⟨Nat.le_of_ble_eq_true rfl, Nat.le_of_ble_eq_true rfl⟩) hK hN (hZ.kept hS) hP hD hS hA [0, 1] [2, 3, 4, 5, 6] rfl rfl (by decide) (by decide) (by decide) (va_recv (q := (RX8, TX8, 38)) hK hP (ci := 8) (q0 := 0) rfl rfl) rfl hl.1 rfl (Nat.le_of_ble_eq_true rfl) dX8_behind_54 ⟨Nat.le_of_ble_eq_true rfl, Nat.le_of_ble_eq_true rfl⟩ (fun r_13 u_14 H locs hr_13 hP hD hS => ?_)
          obtain ⟨q_15, rfl⟩ : ∃ z, z = u_14 := ⟨_, rfl⟩
          have h9R := zRe (ws' := [(mhe, .inl (cI, 8, .inl ghe)), (msi, .inl (cI, 8, .inl gsi)), (mce, .inl (cJ, 1280, .inr (.inl gce))), (mki, .inl (cI, 8, .inl gki)), (mpa, .inl (cI, 8, .inl gpa)), (zMO m0 npu nte nat_ nde nto nse nhu nga nsd nfa mrf mki mpa mta mla msl mco mhe mso msi msh mce mca mwo mnu mte nba npl nen nnu nwr mwa mke mma mth mtr nra nik), (mrf, .inl (cI, 8, .inl q_15))]) hP hD rfl
          clear hP hD
          obtain ⟨hP, hD⟩ := h9R
          have w_16 := hr_13
          obtain rfl : r_8 = r_13 := w_16.symm
          exact W.iret (v := r_8) hx hb hr (fun t ht hW => ⟨⟨r_8, q_15, rfl, ⟨(show ((s_.toInt < 0 ∨ 7 < s_.toInt ∨ p_.toInt < 0 ∨ npu.toInt ≤ p_.toInt) ∧ (r_8 : Int32).toInt = -1) ∨ ((0 ≤ s_.toInt ∧ s_.toInt ≤ 7) ∧ (0 ≤ p_.toInt ∧ p_.toInt < npu.toInt) ∧ ∃ q : Int, zBelR (zHc (ghe s_.toNatClampNeg).toInt) (gsi s_.toNatClampNeg).toInt (zRw gce (160 * s_.toInt)) q ∧ ((q ≠ 0 ∧ (r_8 : Int32).toInt = -q) ∨ (q = 0 ∧ (((to.toInt < 0 ∨ 24 < to.toInt) ∧ (r_8 : Int32).toInt = -6) ∨ ((0 ≤ to.toInt ∧ to.toInt ≤ 24) ∧ (r_8 : Int32).toInt = zBh (zRw gce (160 * s_.toInt)) (gki p_.toNatClampNeg).toInt (gpa p_.toNatClampNeg).toInt nhu.toInt to.toInt 24))))) from by (have z := hsr_8_0; rcases z with z | ⟨z1, q, z2, z3⟩; (exact Or.inl (by omega)); first | (exact Or.inr ⟨z1, by omega, q, z2, Or.inl ⟨by omega, by omega⟩⟩) | (exact Or.inr ⟨z1, by omega, q, z2, Or.inr ⟨by omega, Or.inl ⟨by omega, by omega⟩⟩⟩))), trivial⟩, zRet ht hP hD [5, 6, 0, 1, 2, 3, 4] (by decide) rfl⟩, hS.F ht⟩) hS.2.2 dX8_behind_57
      · have fc_11 : r_8.toInt = 0 := zf_eq c_11 rfl (by decide)
        refine lv_iload_n hx hb dX8_behind_32 rfl (lv_at hl 4 rfl) ?_
        refine lv_if_lt (tgt := 42) hx hb dX8_behind_33 (by decide) (fun c_17 => ?_) (fun c_17 => ?_)
        · have fc_17 : to.toInt < 0 := zf_lt c_17 rfl (by decide)
          refine lv_bipush (v := (-6)) hx hb dX8_behind_42 (by decide) ?_
          refine lv_istore (lv' := [(4, .int (-6)), (0, .ref m0), (1, .int s_), (2, .int p_), (3, .int to)]) hx hb dX8_behind_44 hl (by decide) rfl (fun ls hl => ?_)
          refine lv_iload hx hb dX8_behind_46 (lv_at hl 0 rfl) ?_
          refine lv_if_eq (tgt := 58) hx hb dX8_behind_48 (by decide) (fun c_18 => ?_) (fun c_18 => ?_)
          · exact absurd c_18 (by decide)
          · refine lv_aload_n hx hb dX8_behind_51 rfl (lv_at hl 1 rfl) ?_
            refine lv_iload hx hb dX8_behind_52 (lv_at hl 0 rfl) ?_
            skip
            refine zw_V (As := [.int (-6)]) (rest := []) (wr := [(mhe, .inl (cI, 8, .inl ghe)), (msi, .inl (cI, 8, .inl gsi)), (mce, .inl (cJ, 1280, .inr (.inl gce))), (mki, .inl (cI, 8, .inl gki)), (mpa, .inl (cI, 8, .inl gpa))]) ⟨hx, hb, hml, hown, hts⟩ (c_M_no_6 l D cI cJ cZ cP cS po m0 mrf mki mpa mta mla msl mco mhe mso msi msh mce mca mwo mnu mte mwa mke mma mth mtr (npu) (nte) (nat_) (nde) (nto) (nse) (nhu) (nga) (nsd) (nfa) (nba) (npl) (nen) (nnu) (nwr) (nra) (nik) grf hy0 hy1 hy2 hy3 hy4 hy5 hy6 hy7 hy8 hy9 hy10 hy11 hy12 hy13 H.size) (cwV 1 hts gX8_behind_X8_no rfl rfl rfl ⟨rfl, dh_X8_no⟩ ⟨Nat.le_of_ble_eq_true rfl, Nat.le_of_ble_eq_true rfl⟩) hK hN (hZ.kept hS) hP hD hS hA [0, 1] [2, 3, 4, 5, 6] rfl rfl (by decide) (by decide) (by decide) (va_recv (q := (RX8, TX8, 38)) hK hP (ci := 8) (q0 := 0) rfl rfl) rfl hl.1 rfl (Nat.le_of_ble_eq_true rfl) dX8_behind_54 ⟨Nat.le_of_ble_eq_true rfl, Nat.le_of_ble_eq_true rfl⟩ (fun r_19 u_20 H locs hr_19 hP hD hS => ?_)
            obtain ⟨q_21, rfl⟩ : ∃ z, z = u_20 := ⟨_, rfl⟩
            have h9R := zRe (ws' := [(mhe, .inl (cI, 8, .inl ghe)), (msi, .inl (cI, 8, .inl gsi)), (mce, .inl (cJ, 1280, .inr (.inl gce))), (mki, .inl (cI, 8, .inl gki)), (mpa, .inl (cI, 8, .inl gpa)), (zMO m0 npu nte nat_ nde nto nse nhu nga nsd nfa mrf mki mpa mta mla msl mco mhe mso msi msh mce mca mwo mnu mte nba npl nen nnu nwr mwa mke mma mth mtr nra nik), (mrf, .inl (cI, 8, .inl q_21))]) hP hD rfl
            clear hP hD
            obtain ⟨hP, hD⟩ := h9R
            obtain rfl := hr_19
            exact W.iret (v := (-6)) hx hb hr (fun t ht hW => ⟨⟨(-6), q_21, rfl, ⟨(show ((s_.toInt < 0 ∨ 7 < s_.toInt ∨ p_.toInt < 0 ∨ npu.toInt ≤ p_.toInt) ∧ ((-6) : Int32).toInt = -1) ∨ ((0 ≤ s_.toInt ∧ s_.toInt ≤ 7) ∧ (0 ≤ p_.toInt ∧ p_.toInt < npu.toInt) ∧ ∃ q : Int, zBelR (zHc (ghe s_.toNatClampNeg).toInt) (gsi s_.toNatClampNeg).toInt (zRw gce (160 * s_.toInt)) q ∧ ((q ≠ 0 ∧ ((-6) : Int32).toInt = -q) ∨ (q = 0 ∧ (((to.toInt < 0 ∨ 24 < to.toInt) ∧ ((-6) : Int32).toInt = -6) ∨ ((0 ≤ to.toInt ∧ to.toInt ≤ 24) ∧ ((-6) : Int32).toInt = zBh (zRw gce (160 * s_.toInt)) (gki p_.toNatClampNeg).toInt (gpa p_.toNatClampNeg).toInt nhu.toInt to.toInt 24))))) from by (have k6m : ((-6) : Int32).toInt = -6 := (by decide); have z := hsr_8_0; rcases z with z | ⟨z1, q, z2, z3⟩; (exact Or.inl (by omega)); first | (exact Or.inr ⟨z1, by omega, q, z2, Or.inl ⟨by omega, by omega⟩⟩) | (exact Or.inr ⟨z1, by omega, q, z2, Or.inr ⟨by omega, Or.inl ⟨by omega, by omega⟩⟩⟩))), trivial⟩, zRet ht hP hD [5, 6, 0, 1, 2, 3, 4] (by decide) rfl⟩, hS.F ht⟩) hS.2.2 dX8_behind_57
        · have fc_17 : 0 ≤ to.toInt := zf_nlt c_17 rfl (by decide)
          refine lv_iload_n hx hb dX8_behind_36 rfl (lv_at hl 4 rfl) ?_
          refine lv_bipush (v := 24) hx hb dX8_behind_37 (by decide) ?_
          refine lv_icmp_le (tgt := 46) hx hb dX8_behind_39 (by decide) (fun c_22 => ?_) (fun c_22 => ?_)
          · have fc_22 : to.toInt ≤ 24 := zf_le c_22 rfl (by decide)
            refine lv_iload hx hb dX8_behind_46 (lv_at hl 0 rfl) ?_
            refine lv_if_eq (tgt := 58) hx hb dX8_behind_48 (by decide) (fun c_23 => ?_) (fun c_23 => ?_)
            · have fc_23 : r_8.toInt = 0 := zf_eq c_23 rfl (by decide)
              have hbel : zBel (zRw gce (160 * s_.toInt)) := by (have z := hsr_8_0; rcases z with z | ⟨z1, q, z2, z3⟩; (exfalso; omega); (obtain rfl : q = 0 := (by omega); unfold zBelR at z2; rcases z2 with z | z | z | z | z <;> first | exact z.2.2.1 | (exfalso; omega)))
              refine lv_iload_n hx hb dX8_behind_58 rfl (lv_at hl 4 rfl) ?_
              refine lv_if_ne (tgt := 74) hx hb dX8_behind_59 (by decide) (fun c_24 => ?_) (fun c_24 => ?_)
              · have fc_24 : to.toInt ≠ 0 := zf_ne c_24 rfl (by decide)
                refine lv_iconst (v := 0) hx hb dX8_behind_74 (by decide) ?_
                refine lv_istore (lv' := [(5, .int 0), (4, .int r_8), (0, .ref m0), (1, .int s_), (2, .int p_), (3, .int to)]) hx hb dX8_behind_75 hl (by decide) rfl (fun ls hl => ?_)
                refine lv_iconst (v := 1) hx hb dX8_behind_77 (by decide) ?_
                refine lv_istore (lv' := [(6, .int 1), (5, .int 0), (4, .int r_8), (0, .ref m0), (1, .int s_), (2, .int p_), (3, .int to)]) hx hb dX8_behind_78 hl (by decide) rfl (fun ls hl => ?_)
                obtain ⟨i_80, hi_80⟩ : ∃ i : Int32, i = 1 := ⟨_, rfl⟩
                replace hl : lv_has ls 8 [(6, .int i_80), (5, .int 0), (0, .ref m0), (1, .int s_), (2, .int p_), (3, .int to)] := by rw [hi_80]; exact lv_sub hl [0, 1, 3, 4, 5, 6] rfl
                have h1i_80 : i_80.toInt = 1 := by rw [hi_80]; decide
                obtain ⟨nfu, hni_80⟩ : ∃ nq9 : Nat, 25 ≤ i_80.toInt + (nq9 : Int) := ⟨((25 : Int) - 1).toNat, by omega⟩
                have hloi_80 : 1 ≤ i_80.toInt := by omega
                obtain ⟨v_25, hv_25⟩ : ∃ g : Int32, g = 0 := ⟨_, rfl⟩
                replace hl : lv_has ls 8 [(6, .int i_80), (5, .int v_25), (0, .ref m0), (1, .int s_), (2, .int p_), (3, .int to)] := by rw [hv_25]; exact hl
                have hbv_25 : 0 ≤ v_25.toInt ∧ v_25.toInt ≤ 59400 := by rw [hv_25]; exact ⟨by decide, by decide⟩
                have hvi_80_0 : (v_25 : Int32).toInt = zBh (zRw gce (160 * s_.toInt)) (gki p_.toNatClampNeg).toInt (gpa p_.toNatClampNeg).toInt nhu.toInt to.toInt (i_80.toInt - 1).toNat := by
                  (try rw [hi_80]); (try rw [hv_25]); (rw [show ((1 : Int32).toInt - 1).toNat = 0 from by decide]; show _ = (if to.toInt = 0 then 12 * zTl (zRw gce (160 * s_.toInt)) 0 else 0); have k0 : (0 : Int32).toInt = 0 := (by decide); rw [if_neg (by omega)]; exact k0)
                have hvi_80_1 : (v_25 : Int32).toInt ≤ 2376 * i_80.toInt ∧ i_80.toInt ≤ 25 := by
                  (try rw [hi_80]); (try rw [hv_25]); (have k1 : (1 : Int32).toInt = 1 := (by decide); have k0 : (0 : Int32).toInt = 0 := (by decide); omega)
                clear h1i_80 hi_80 hv_25
                skip
                revert hni_80
                revert hloi_80
                revert hvi_80_1
                revert hvi_80_0
                revert hbv_25
                revert hl
                revert hS
                revert hD
                revert hP
                revert ls
                revert locs
                revert H
                revert v_25
                revert i_80
                induction nfu with
                | zero =>
                  intro i_80 v_25 H locs ls hP hD hS hl hbv_25 hvi_80_0 hvi_80_1 hloi_80 hni_80
                  have hzi_80 : 25 ≤ i_80.toInt := by omega
                  refine lv_iload hx hb dX8_behind_80 (lv_at hl 0 rfl) ?_
                  refine lv_bipush (v := 24) hx hb dX8_behind_82 (by decide) ?_
                  refine lv_icmp_gt (tgt := 159) hx hb dX8_behind_84 (by decide) (fun c_26 => ?_) (fun c_26 => ?_)
                  · have fc_26 : 24 < i_80.toInt := zf_lt c_26 (by decide) rfl
                    refine lv_iload hx hb dX8_behind_159 (lv_at hl 1 rfl) ?_
                    exact W.iret (v := v_25) hx hb hr (fun t ht hW => ⟨⟨v_25, grf, rfl, ⟨(show ((s_.toInt < 0 ∨ 7 < s_.toInt ∨ p_.toInt < 0 ∨ npu.toInt ≤ p_.toInt) ∧ (v_25 : Int32).toInt = -1) ∨ ((0 ≤ s_.toInt ∧ s_.toInt ≤ 7) ∧ (0 ≤ p_.toInt ∧ p_.toInt < npu.toInt) ∧ ∃ q : Int, zBelR (zHc (ghe s_.toNatClampNeg).toInt) (gsi s_.toNatClampNeg).toInt (zRw gce (160 * s_.toInt)) q ∧ ((q ≠ 0 ∧ (v_25 : Int32).toInt = -q) ∨ (q = 0 ∧ (((to.toInt < 0 ∨ 24 < to.toInt) ∧ (v_25 : Int32).toInt = -6) ∨ ((0 ≤ to.toInt ∧ to.toInt ≤ 24) ∧ (v_25 : Int32).toInt = zBh (zRw gce (160 * s_.toInt)) (gki p_.toNatClampNeg).toInt (gpa p_.toNatClampNeg).toInt nhu.toInt to.toInt 24))))) from by (have z := hsr_8_0; rcases z with z | ⟨z1, q, z2, z3⟩; (exfalso; omega); (have h9 : (i_80.toInt - 1).toNat = 24 := (by omega); have y := hvi_80_0; rw [h9] at y; exact Or.inr ⟨z1, by omega, q, z2, Or.inr ⟨by omega, Or.inr ⟨by omega, y⟩⟩⟩))), trivial⟩, zRet ht hP hD [0, 1, 2, 3, 4, 5, 6] (by decide) rfl⟩, hS.F ht⟩) hS.2.2 dX8_behind_161
                  · exfalso; have fc_26 : i_80.toInt ≤ 24 := zf_nlt c_26 (by decide) rfl; omega
                | succ nfu ih =>
                  intro i_80 v_25 H locs ls hP hD hS hl hbv_25 hvi_80_0 hvi_80_1 hloi_80 hni_80
                  refine lv_iload hx hb dX8_behind_80 (lv_at hl 0 rfl) ?_
                  refine lv_bipush (v := 24) hx hb dX8_behind_82 (by decide) ?_
                  refine lv_icmp_gt (tgt := 159) hx hb dX8_behind_84 (by decide) (fun c_27 => ?_) (fun c_27 => ?_)
                  · have fc_27 : 24 < i_80.toInt := zf_lt c_27 (by decide) rfl
                    refine lv_iload hx hb dX8_behind_159 (lv_at hl 1 rfl) ?_
                    exact W.iret (v := v_25) hx hb hr (fun t ht hW => ⟨⟨v_25, grf, rfl, ⟨(show ((s_.toInt < 0 ∨ 7 < s_.toInt ∨ p_.toInt < 0 ∨ npu.toInt ≤ p_.toInt) ∧ (v_25 : Int32).toInt = -1) ∨ ((0 ≤ s_.toInt ∧ s_.toInt ≤ 7) ∧ (0 ≤ p_.toInt ∧ p_.toInt < npu.toInt) ∧ ∃ q : Int, zBelR (zHc (ghe s_.toNatClampNeg).toInt) (gsi s_.toNatClampNeg).toInt (zRw gce (160 * s_.toInt)) q ∧ ((q ≠ 0 ∧ (v_25 : Int32).toInt = -q) ∨ (q = 0 ∧ (((to.toInt < 0 ∨ 24 < to.toInt) ∧ (v_25 : Int32).toInt = -6) ∨ ((0 ≤ to.toInt ∧ to.toInt ≤ 24) ∧ (v_25 : Int32).toInt = zBh (zRw gce (160 * s_.toInt)) (gki p_.toNatClampNeg).toInt (gpa p_.toNatClampNeg).toInt nhu.toInt to.toInt 24))))) from by (have z := hsr_8_0; rcases z with z | ⟨z1, q, z2, z3⟩; (exfalso; omega); (have h9 : (i_80.toInt - 1).toNat = 24 := (by omega); have y := hvi_80_0; rw [h9] at y; exact Or.inr ⟨z1, by omega, q, z2, Or.inr ⟨by omega, Or.inr ⟨by omega, y⟩⟩⟩))), trivial⟩, zRet ht hP hD [0, 1, 2, 3, 4, 5, 6] (by decide) rfl⟩, hS.F ht⟩) hS.2.2 dX8_behind_161
                  · have fc_27 : i_80.toInt ≤ 24 := zf_nlt c_27 (by decide) rfl
                    refine lv_aload_n hx hb dX8_behind_87 rfl (lv_at hl 2 rfl) ?_
                    refine lv_iload_n hx hb dX8_behind_88 rfl (lv_at hl 4 rfl) ?_
                    refine lv_iload hx hb dX8_behind_89 (lv_at hl 0 rfl) ?_
                    refine zc_V (As := [.int p_, .int i_80]) (rest := []) ⟨hx, hb, hml, hown, hts⟩ (c_F_M_ways l D cI cJ cZ cP cS po m0 mrf mki mpa mta mla msl mco mhe mso msi msh mce mca mwo mnu mte mwa mke mma mth mtr (npu) (nte) (nat_) (nde) (nto) (nse) (nhu) (nga) (nsd) (nfa) (nba) (npl) (nen) (nnu) (nwr) (nra) (nik) gki gpa (p_) (i_80) hy0 hy1 hy2 hy3 hy4 hy5 hy6 hy7 hy8 hy9 hy10 hy11 hy12 hy13 (by omega) (by omega) (by omega) (by omega) hp_gki hp_gpa) (cwV 2 hts gX8_behind_X8_ways rfl rfl rfl ⟨rfl, dh_X8_ways⟩ ⟨Nat.le_of_ble_eq_true rfl, Nat.le_of_ble_eq_true rfl⟩) hK hN (hZ.kept hS) hP (hP.sub [0, 5, 6] rfl) (va_recv (q := (RX8, TX8, 38)) hK hP (ci := 8) (q0 := 0) rfl rfl) rfl hl.1 rfl (Nat.le_of_ble_eq_true rfl) dX8_behind_91 ⟨Nat.le_of_ble_eq_true rfl, Nat.le_of_ble_eq_true rfl⟩ (fun r_28 hr_28 => ?_)
                    obtain ⟨g_29, g_30, hsr_28_0⟩ := hr_28
                    refine lv_istore (lv' := [(7, .int r_28), (6, .int i_80), (5, .int v_25), (0, .ref m0), (1, .int s_), (2, .int p_), (3, .int to)]) hx hb dX8_behind_94 hl (by decide) rfl (fun ls hl => ?_)
                    refine lv_aload_n hx hb dX8_behind_96 rfl (lv_at hl 3 rfl) ?_
                    refine lv_iload_n hx hb dX8_behind_97 rfl (lv_at hl 5 rfl) ?_
                    refine lv_iload hx hb dX8_behind_98 (lv_at hl 1 rfl) ?_
                    refine lv_iconst (v := 1) hx hb dX8_behind_100 (by decide) ?_
                    have kc1 : (1 : Int32).toInt = 1 := by decide
                    refine zc_V (As := [.int p_, .int i_80, .int 1]) (rest := []) ⟨hx, hb, hml, hown, hts⟩ (c_F_M_deep l D cI cJ cZ cP cS po m0 mrf mki mpa mta mla msl mco mhe mso msi msh mce mca mwo mnu mte mwa mke mma mth mtr (npu) (nte) (nat_) (nde) (nto) (nse) (nhu) (nga) (nsd) (nfa) (nba) (npl) (nen) (nnu) (nwr) (nra) (nik) gki gpa (p_) (i_80) (1) hy0 hy1 hy2 hy3 hy4 hy5 hy6 hy7 hy8 hy9 hy10 hy11 hy12 hy13 (by omega) (by omega) (by omega) (by omega) (by omega) (by omega) hp_gki hp_gpa) (cwV 3 hts gX8_behind_X8_deep rfl rfl rfl ⟨rfl, dh_X8_deep⟩ ⟨Nat.le_of_ble_eq_true rfl, Nat.le_of_ble_eq_true rfl⟩) hK hN (hZ.kept hS) hP (hP.sub [0, 5, 6] rfl) (va_recv (q := (RX8, TX8, 38)) hK hP (ci := 8) (q0 := 0) rfl rfl) rfl hl.1 rfl (Nat.le_of_ble_eq_true rfl) dX8_behind_101 ⟨Nat.le_of_ble_eq_true rfl, Nat.le_of_ble_eq_true rfl⟩ (fun r_31 hr_31 => ?_)
                    obtain ⟨g_32, g_33, hsr_31_0⟩ := hr_31
                    refine lv_iload_n hx hb dX8_behind_104 rfl (lv_at hl 6 rfl) ?_
                    refine lv_icmp_ne (tgt := 123) hx hb dX8_behind_105 (by decide) (fun c_34 => ?_) (fun c_34 => ?_)
                    · have fc_34 : r_31.toInt ≠ to.toInt := zf_ne c_34 rfl rfl
                      refine lv_aload_n hx hb dX8_behind_123 rfl (lv_at hl 3 rfl) ?_
                      refine lv_iload_n hx hb dX8_behind_124 rfl (lv_at hl 5 rfl) ?_
                      refine lv_iload hx hb dX8_behind_125 (lv_at hl 1 rfl) ?_
                      refine lv_iconst (v := 0) hx hb dX8_behind_127 (by decide) ?_
                      have kc0 : (0 : Int32).toInt = 0 := by decide
                      refine zc_V (As := [.int p_, .int i_80, .int 0]) (rest := []) ⟨hx, hb, hml, hown, hts⟩ (c_F_M_deep l D cI cJ cZ cP cS po m0 mrf mki mpa mta mla msl mco mhe mso msi msh mce mca mwo mnu mte mwa mke mma mth mtr (npu) (nte) (nat_) (nde) (nto) (nse) (nhu) (nga) (nsd) (nfa) (nba) (npl) (nen) (nnu) (nwr) (nra) (nik) gki gpa (p_) (i_80) (0) hy0 hy1 hy2 hy3 hy4 hy5 hy6 hy7 hy8 hy9 hy10 hy11 hy12 hy13 (by omega) (by omega) (by omega) (by omega) (by omega) (by omega) hp_gki hp_gpa) (cwV 3 hts gX8_behind_X8_deep rfl rfl rfl ⟨rfl, dh_X8_deep⟩ ⟨Nat.le_of_ble_eq_true rfl, Nat.le_of_ble_eq_true rfl⟩) hK hN (hZ.kept hS) hP (hP.sub [0, 5, 6] rfl) (va_recv (q := (RX8, TX8, 38)) hK hP (ci := 8) (q0 := 0) rfl rfl) rfl hl.1 rfl (Nat.le_of_ble_eq_true rfl) dX8_behind_128 ⟨Nat.le_of_ble_eq_true rfl, Nat.le_of_ble_eq_true rfl⟩ (fun r_35 hr_35 => ?_)
                      obtain ⟨g_36, g_37, hsr_35_0⟩ := hr_35
                      refine lv_iload_n hx hb dX8_behind_131 rfl (lv_at hl 6 rfl) ?_
                      refine lv_icmp_ne (tgt := 153) hx hb dX8_behind_132 (by decide) (fun c_38 => ?_) (fun c_38 => ?_)
                      · have fc_38 : r_35.toInt ≠ to.toInt := zf_ne c_38 rfl rfl
                        obtain ⟨x_39, ex_39⟩ : ∃ y : Int32, y = i_80 + 1 := ⟨_, rfl⟩
                        have qx_39 : x_39.toInt = i_80.toInt + 1 := by rw [ex_39]; exact zf_add rfl (by decide) (by omega) (by omega)
                        refine lv_iinc (v := x_39) (lv' := [(6, .int x_39), (7, .int r_28), (5, .int v_25), (0, .ref m0), (1, .int s_), (2, .int p_), (3, .int to)]) hx hb dX8_behind_153 hl (k := 1) rfl ex_39.symm (by decide) rfl (fun ls hl => ?_)
                        refine lv_goto (tgt := 80) hx hb dX8_behind_156 (by decide) ?_
                        exact ih x_39 v_25 _ _ _ (hP.sub [0, 1, 2, 3, 4, 5, 6] rfl) (hD.sub [0, 1, 2, 3, 4, 5, 6] (by decide) rfl) hS (lv_sub hl [0, 2, 3, 4, 5, 6] rfl) hbv_25 (show (v_25 : Int32).toInt = zBh (zRw gce (160 * s_.toInt)) (gki p_.toNatClampNeg).toInt (gpa p_.toNatClampNeg).toInt nhu.toInt to.toInt (x_39.toInt - 1).toNat from by (have x1 := hsr_31_0.1 (by decide); have x2 := hsr_35_0.2 (by decide); rw [show (x_39.toInt - 1).toNat = (i_80.toInt - 1).toNat + 1 from by omega, zBh_s, show (((i_80.toInt - 1).toNat : Nat) : Int) + 1 = i_80.toInt from by omega, ← hvi_80_0, ← hsr_28_0, ← x1, ← x2]; first | (rw [if_neg (by omega), if_neg (by omega)]; omega) | (rw [if_pos (by omega), if_neg (by omega)]; omega) | (rw [if_neg (by omega), if_pos (by omega)]; omega) | (rw [if_pos (by omega), if_pos (by omega)]; omega))) (show (v_25 : Int32).toInt ≤ 2376 * x_39.toInt ∧ x_39.toInt ≤ 25 from by exact ⟨by omega, by omega⟩) (dw_lo hloi_80 qx_39) (dw_hn hni_80 qx_39)
                      · have fc_38 : r_35.toInt = to.toInt := zf_eq c_38 rfl rfl
                        refine lv_iload hx hb dX8_behind_135 (lv_at hl 2 rfl) ?_
                        refine lv_bipush (v := 12) hx hb dX8_behind_137 (by decide) ?_
                        refine lv_iload hx hb dX8_behind_139 (lv_at hl 0 rfl) ?_
                        refine lv_isub hx hb dX8_behind_141 ?_
                        refine lv_topi (fun x_40 ex_40 => ?_)
                        have qx_40 : x_40.toInt = 12 - r_28.toInt := by rw [ex_40]; exact zf_sub (by decide) rfl (by omega) (by omega)
                        refine lv_aload_n hx hb dX8_behind_142 rfl (lv_at hl 3 rfl) ?_
                        refine lv_iload_n hx hb dX8_behind_143 rfl (lv_at hl 4 rfl) ?_
                        refine lv_iload hx hb dX8_behind_144 (lv_at hl 1 rfl) ?_
                        refine zc_V (As := [.int s_, .int i_80]) (rest := [.int x_40, .int v_25]) ⟨hx, hb, hml, hown, hts⟩ (c_F_M_intAt l D cI cJ cZ cP cS po m0 mrf mki mpa mta mla msl mco mhe mso msi msh mce mca mwo mnu mte mwa mke mma mth mtr (npu) (nte) (nat_) (nde) (nto) (nse) (nhu) (nga) (nsd) (nfa) (nba) (npl) (nen) (nnu) (nwr) (nra) (nik) gce (s_) (i_80) hy0 hy1 hy2 hy3 hy4 hy5 hy6 hy7 hy8 hy9 hy10 hy11 hy12 hy13 (by omega) (by omega) (by omega) (by omega)) (cwV 2 hts gX8_behind_X8_intAt rfl rfl rfl ⟨rfl, dh_X8_intAt⟩ ⟨Nat.le_of_ble_eq_true rfl, Nat.le_of_ble_eq_true rfl⟩) hK hN (hZ.kept hS) hP (hP.sub [0, 4] rfl) (va_recv (q := (RX8, TX8, 38)) hK hP (ci := 8) (q0 := 0) rfl rfl) rfl hl.1 rfl (Nat.le_of_ble_eq_true rfl) dX8_behind_146 ⟨Nat.le_of_ble_eq_true rfl, Nat.le_of_ble_eq_true rfl⟩ (fun r_41 hr_41 => ?_)
                        have hsr_41_0 := hr_41
                        have wr_41 := zTl_m hbel hsr_41_0 (by have k0 : (0 : Int32).toInt = 0 := (by decide); omega) (by have k0 : (0 : Int32).toInt = 0 := (by decide); omega)
                        refine lv_imul hx hb dX8_behind_149 ?_
                        refine lv_topi (fun x_42 ex_42 => ?_)
                        obtain ⟨mx_42, nx_42, ox_42⟩ := zf_mulr (a := r_41) (b := x_40) (m := r_41.toInt * x_40.toInt) rfl rfl ⟨by omega, by omega⟩ ⟨by omega, by omega⟩ rfl
                        rw [show r_41 * x_40 = x_42 from by (rw [ex_42]; exact Int32.mul_comm _ _)] at mx_42
                        refine lv_iadd hx hb dX8_behind_150 ?_
                        refine lv_topi (fun x_43 ex_43 => ?_)
                        have qx_43 : x_43.toInt = v_25.toInt + x_42.toInt := by rw [ex_43]; exact zf_add rfl rfl (by omega) (by omega)
                        refine lv_istore (lv' := [(5, .int x_43), (7, .int r_28), (6, .int i_80), (0, .ref m0), (1, .int s_), (2, .int p_), (3, .int to)]) hx hb dX8_behind_151 hl (by decide) rfl (fun ls hl => ?_)
                        obtain ⟨x_44, ex_44⟩ : ∃ y : Int32, y = i_80 + 1 := ⟨_, rfl⟩
                        have qx_44 : x_44.toInt = i_80.toInt + 1 := by rw [ex_44]; exact zf_add rfl (by decide) (by omega) (by omega)
                        refine lv_iinc (v := x_44) (lv' := [(6, .int x_44), (5, .int x_43), (7, .int r_28), (0, .ref m0), (1, .int s_), (2, .int p_), (3, .int to)]) hx hb dX8_behind_153 hl (k := 2) rfl ex_44.symm (by decide) rfl (fun ls hl => ?_)
                        refine lv_goto (tgt := 80) hx hb dX8_behind_156 (by decide) ?_
                        exact ih x_44 x_43 _ _ _ (hP.sub [0, 1, 2, 3, 4, 5, 6] rfl) (hD.sub [0, 1, 2, 3, 4, 5, 6] (by decide) rfl) hS (lv_sub hl [0, 1, 3, 4, 5, 6] rfl) ⟨by omega, by omega⟩ (show (x_43 : Int32).toInt = zBh (zRw gce (160 * s_.toInt)) (gki p_.toNatClampNeg).toInt (gpa p_.toNatClampNeg).toInt nhu.toInt to.toInt (x_44.toInt - 1).toNat from by (have x1 := hsr_31_0.1 (by decide); have x2 := hsr_35_0.2 (by decide); rw [show (x_44.toInt - 1).toNat = (i_80.toInt - 1).toNat + 1 from by omega, zBh_s, show (((i_80.toInt - 1).toNat : Nat) : Int) + 1 = i_80.toInt from by omega, ← hvi_80_0, ← hsr_28_0, ← x1, ← x2]; have Mx_42 := mx_42; rw [wr_41.1, qx_40] at Mx_42; first | (rw [if_neg (by omega), if_pos (by omega)]; omega) | (rw [if_pos (by omega), if_pos (by omega)]; omega) | (rw [if_neg (by omega), if_neg (by omega)]; omega) | (rw [if_pos (by omega), if_neg (by omega)]; omega))) (show (x_43 : Int32).toInt ≤ 2376 * x_44.toInt ∧ x_44.toInt ≤ 25 from by exact ⟨by omega, by omega⟩) (dw_lo hloi_80 qx_44) (dw_hn hni_80 qx_44)
                    · have fc_34 : r_31.toInt = to.toInt := zf_eq c_34 rfl rfl
                      refine lv_iload hx hb dX8_behind_108 (lv_at hl 2 rfl) ?_
                      refine lv_iload hx hb dX8_behind_110 (lv_at hl 0 rfl) ?_
                      refine lv_aload_n hx hb dX8_behind_112 rfl (lv_at hl 3 rfl) ?_
                      refine lv_iload_n hx hb dX8_behind_113 rfl (lv_at hl 4 rfl) ?_
                      refine lv_iload hx hb dX8_behind_114 (lv_at hl 1 rfl) ?_
                      refine zc_V (As := [.int s_, .int i_80]) (rest := [.int r_28, .int v_25]) ⟨hx, hb, hml, hown, hts⟩ (c_F_M_intAt l D cI cJ cZ cP cS po m0 mrf mki mpa mta mla msl mco mhe mso msi msh mce mca mwo mnu mte mwa mke mma mth mtr (npu) (nte) (nat_) (nde) (nto) (nse) (nhu) (nga) (nsd) (nfa) (nba) (npl) (nen) (nnu) (nwr) (nra) (nik) gce (s_) (i_80) hy0 hy1 hy2 hy3 hy4 hy5 hy6 hy7 hy8 hy9 hy10 hy11 hy12 hy13 (by omega) (by omega) (by omega) (by omega)) (cwV 2 hts gX8_behind_X8_intAt rfl rfl rfl ⟨rfl, dh_X8_intAt⟩ ⟨Nat.le_of_ble_eq_true rfl, Nat.le_of_ble_eq_true rfl⟩) hK hN (hZ.kept hS) hP (hP.sub [0, 4] rfl) (va_recv (q := (RX8, TX8, 38)) hK hP (ci := 8) (q0 := 0) rfl rfl) rfl hl.1 rfl (Nat.le_of_ble_eq_true rfl) dX8_behind_116 ⟨Nat.le_of_ble_eq_true rfl, Nat.le_of_ble_eq_true rfl⟩ (fun r_45 hr_45 => ?_)
                      have hsr_45_0 := hr_45
                      have wr_45 := zTl_m hbel hsr_45_0 (by have k0 : (0 : Int32).toInt = 0 := (by decide); omega) (by have k0 : (0 : Int32).toInt = 0 := (by decide); omega)
                      refine lv_imul hx hb dX8_behind_119 ?_
                      refine lv_topi (fun x_46 ex_46 => ?_)
                      obtain ⟨mx_46, nx_46, ox_46⟩ := zf_mulr (a := r_45) (b := r_28) (m := r_45.toInt * r_28.toInt) rfl rfl ⟨by omega, by omega⟩ ⟨by omega, by omega⟩ rfl
                      rw [show r_45 * r_28 = x_46 from by (rw [ex_46]; exact Int32.mul_comm _ _)] at mx_46
                      refine lv_iadd hx hb dX8_behind_120 ?_
                      refine lv_topi (fun x_47 ex_47 => ?_)
                      have qx_47 : x_47.toInt = v_25.toInt + x_46.toInt := by rw [ex_47]; exact zf_add rfl rfl (by omega) (by omega)
                      refine lv_istore (lv' := [(5, .int x_47), (7, .int r_28), (6, .int i_80), (0, .ref m0), (1, .int s_), (2, .int p_), (3, .int to)]) hx hb dX8_behind_121 hl (by decide) rfl (fun ls hl => ?_)
                      refine lv_aload_n hx hb dX8_behind_123 rfl (lv_at hl 3 rfl) ?_
                      refine lv_iload_n hx hb dX8_behind_124 rfl (lv_at hl 5 rfl) ?_
                      refine lv_iload hx hb dX8_behind_125 (lv_at hl 2 rfl) ?_
                      refine lv_iconst (v := 0) hx hb dX8_behind_127 (by decide) ?_
                      have kc0 : (0 : Int32).toInt = 0 := by decide
                      refine zc_V (As := [.int p_, .int i_80, .int 0]) (rest := []) ⟨hx, hb, hml, hown, hts⟩ (c_F_M_deep l D cI cJ cZ cP cS po m0 mrf mki mpa mta mla msl mco mhe mso msi msh mce mca mwo mnu mte mwa mke mma mth mtr (npu) (nte) (nat_) (nde) (nto) (nse) (nhu) (nga) (nsd) (nfa) (nba) (npl) (nen) (nnu) (nwr) (nra) (nik) gki gpa (p_) (i_80) (0) hy0 hy1 hy2 hy3 hy4 hy5 hy6 hy7 hy8 hy9 hy10 hy11 hy12 hy13 (by omega) (by omega) (by omega) (by omega) (by omega) (by omega) hp_gki hp_gpa) (cwV 3 hts gX8_behind_X8_deep rfl rfl rfl ⟨rfl, dh_X8_deep⟩ ⟨Nat.le_of_ble_eq_true rfl, Nat.le_of_ble_eq_true rfl⟩) hK hN (hZ.kept hS) hP (hP.sub [0, 5, 6] rfl) (va_recv (q := (RX8, TX8, 38)) hK hP (ci := 8) (q0 := 0) rfl rfl) rfl hl.1 rfl (Nat.le_of_ble_eq_true rfl) dX8_behind_128 ⟨Nat.le_of_ble_eq_true rfl, Nat.le_of_ble_eq_true rfl⟩ (fun r_48 hr_48 => ?_)
                      obtain ⟨g_49, g_50, hsr_48_0⟩ := hr_48
                      refine lv_iload_n hx hb dX8_behind_131 rfl (lv_at hl 6 rfl) ?_
                      refine lv_icmp_ne (tgt := 153) hx hb dX8_behind_132 (by decide) (fun c_51 => ?_) (fun c_51 => ?_)
                      · have fc_51 : r_48.toInt ≠ to.toInt := zf_ne c_51 rfl rfl
                        obtain ⟨x_52, ex_52⟩ : ∃ y : Int32, y = i_80 + 1 := ⟨_, rfl⟩
                        have qx_52 : x_52.toInt = i_80.toInt + 1 := by rw [ex_52]; exact zf_add rfl (by decide) (by omega) (by omega)
                        refine lv_iinc (v := x_52) (lv' := [(6, .int x_52), (5, .int x_47), (7, .int r_28), (0, .ref m0), (1, .int s_), (2, .int p_), (3, .int to)]) hx hb dX8_behind_153 hl (k := 2) rfl ex_52.symm (by decide) rfl (fun ls hl => ?_)
                        refine lv_goto (tgt := 80) hx hb dX8_behind_156 (by decide) ?_
                        exact ih x_52 x_47 _ _ _ (hP.sub [0, 1, 2, 3, 4, 5, 6] rfl) (hD.sub [0, 1, 2, 3, 4, 5, 6] (by decide) rfl) hS (lv_sub hl [0, 1, 3, 4, 5, 6] rfl) ⟨by omega, by omega⟩ (show (x_47 : Int32).toInt = zBh (zRw gce (160 * s_.toInt)) (gki p_.toNatClampNeg).toInt (gpa p_.toNatClampNeg).toInt nhu.toInt to.toInt (x_52.toInt - 1).toNat from by (have x1 := hsr_31_0.1 (by decide); have x2 := hsr_48_0.2 (by decide); rw [show (x_52.toInt - 1).toNat = (i_80.toInt - 1).toNat + 1 from by omega, zBh_s, show (((i_80.toInt - 1).toNat : Nat) : Int) + 1 = i_80.toInt from by omega, ← hvi_80_0, ← hsr_28_0, ← x1, ← x2]; have Mx_46 := mx_46; rw [wr_45.1] at Mx_46; first | (rw [if_pos (by omega), if_neg (by omega)]; omega) | (rw [if_pos (by omega), if_pos (by omega)]; omega) | (rw [if_neg (by omega), if_neg (by omega)]; omega) | (rw [if_neg (by omega), if_pos (by omega)]; omega))) (show (x_47 : Int32).toInt ≤ 2376 * x_52.toInt ∧ x_52.toInt ≤ 25 from by exact ⟨by omega, by omega⟩) (dw_lo hloi_80 qx_52) (dw_hn hni_80 qx_52)
                      · have fc_51 : r_48.toInt = to.toInt := zf_eq c_51 rfl rfl
                        refine lv_iload hx hb dX8_behind_135 (lv_at hl 0 rfl) ?_
                        refine lv_bipush (v := 12) hx hb dX8_behind_137 (by decide) ?_
                        refine lv_iload hx hb dX8_behind_139 (lv_at hl 1 rfl) ?_
                        refine lv_isub hx hb dX8_behind_141 ?_
                        refine lv_topi (fun x_53 ex_53 => ?_)
                        have qx_53 : x_53.toInt = 12 - r_28.toInt := by rw [ex_53]; exact zf_sub (by decide) rfl (by omega) (by omega)
                        refine lv_aload_n hx hb dX8_behind_142 rfl (lv_at hl 3 rfl) ?_
                        refine lv_iload_n hx hb dX8_behind_143 rfl (lv_at hl 4 rfl) ?_
                        refine lv_iload hx hb dX8_behind_144 (lv_at hl 2 rfl) ?_
                        refine zc_V (As := [.int s_, .int i_80]) (rest := [.int x_53, .int x_47]) ⟨hx, hb, hml, hown, hts⟩ (c_F_M_intAt l D cI cJ cZ cP cS po m0 mrf mki mpa mta mla msl mco mhe mso msi msh mce mca mwo mnu mte mwa mke mma mth mtr (npu) (nte) (nat_) (nde) (nto) (nse) (nhu) (nga) (nsd) (nfa) (nba) (npl) (nen) (nnu) (nwr) (nra) (nik) gce (s_) (i_80) hy0 hy1 hy2 hy3 hy4 hy5 hy6 hy7 hy8 hy9 hy10 hy11 hy12 hy13 (by omega) (by omega) (by omega) (by omega)) (cwV 2 hts gX8_behind_X8_intAt rfl rfl rfl ⟨rfl, dh_X8_intAt⟩ ⟨Nat.le_of_ble_eq_true rfl, Nat.le_of_ble_eq_true rfl⟩) hK hN (hZ.kept hS) hP (hP.sub [0, 4] rfl) (va_recv (q := (RX8, TX8, 38)) hK hP (ci := 8) (q0 := 0) rfl rfl) rfl hl.1 rfl (Nat.le_of_ble_eq_true rfl) dX8_behind_146 ⟨Nat.le_of_ble_eq_true rfl, Nat.le_of_ble_eq_true rfl⟩ (fun r_54 hr_54 => ?_)
                        have hsr_54_0 := hr_54
                        have wr_54 := zTl_m hbel hsr_54_0 (by have k0 : (0 : Int32).toInt = 0 := (by decide); omega) (by have k0 : (0 : Int32).toInt = 0 := (by decide); omega)
                        refine lv_imul hx hb dX8_behind_149 ?_
                        refine lv_topi (fun x_55 ex_55 => ?_)
                        obtain ⟨mx_55, nx_55, ox_55⟩ := zf_mulr (a := r_54) (b := x_53) (m := r_54.toInt * x_53.toInt) rfl rfl ⟨by omega, by omega⟩ ⟨by omega, by omega⟩ rfl
                        rw [show r_54 * x_53 = x_55 from by (rw [ex_55]; exact Int32.mul_comm _ _)] at mx_55
                        refine lv_iadd hx hb dX8_behind_150 ?_
                        refine lv_topi (fun x_56 ex_56 => ?_)
                        have qx_56 : x_56.toInt = x_47.toInt + x_55.toInt := by rw [ex_56]; exact zf_add rfl rfl (by omega) (by omega)
                        refine lv_istore (lv' := [(5, .int x_56), (7, .int r_28), (6, .int i_80), (0, .ref m0), (1, .int s_), (2, .int p_), (3, .int to)]) hx hb dX8_behind_151 hl (by decide) rfl (fun ls hl => ?_)
                        obtain ⟨x_57, ex_57⟩ : ∃ y : Int32, y = i_80 + 1 := ⟨_, rfl⟩
                        have qx_57 : x_57.toInt = i_80.toInt + 1 := by rw [ex_57]; exact zf_add rfl (by decide) (by omega) (by omega)
                        refine lv_iinc (v := x_57) (lv' := [(6, .int x_57), (5, .int x_56), (7, .int r_28), (0, .ref m0), (1, .int s_), (2, .int p_), (3, .int to)]) hx hb dX8_behind_153 hl (k := 2) rfl ex_57.symm (by decide) rfl (fun ls hl => ?_)
                        refine lv_goto (tgt := 80) hx hb dX8_behind_156 (by decide) ?_
                        exact ih x_57 x_56 _ _ _ (hP.sub [0, 1, 2, 3, 4, 5, 6] rfl) (hD.sub [0, 1, 2, 3, 4, 5, 6] (by decide) rfl) hS (lv_sub hl [0, 1, 3, 4, 5, 6] rfl) ⟨by omega, by omega⟩ (show (x_56 : Int32).toInt = zBh (zRw gce (160 * s_.toInt)) (gki p_.toNatClampNeg).toInt (gpa p_.toNatClampNeg).toInt nhu.toInt to.toInt (x_57.toInt - 1).toNat from by (have x1 := hsr_31_0.1 (by decide); have x2 := hsr_48_0.2 (by decide); rw [show (x_57.toInt - 1).toNat = (i_80.toInt - 1).toNat + 1 from by omega, zBh_s, show (((i_80.toInt - 1).toNat : Nat) : Int) + 1 = i_80.toInt from by omega, ← hvi_80_0, ← hsr_28_0, ← x1, ← x2]; have Mx_46 := mx_46; rw [wr_45.1] at Mx_46; have Mx_55 := mx_55; rw [wr_54.1, qx_53] at Mx_55; first | (rw [if_pos (by omega), if_pos (by omega)]; omega) | (rw [if_pos (by omega), if_neg (by omega)]; omega) | (rw [if_neg (by omega), if_pos (by omega)]; omega) | (rw [if_neg (by omega), if_neg (by omega)]; omega))) (show (x_56 : Int32).toInt ≤ 2376 * x_57.toInt ∧ x_57.toInt ≤ 25 from by exact ⟨by omega, by omega⟩) (dw_lo hloi_80 qx_57) (dw_hn hni_80 qx_57)
              · have fc_24 : to.toInt = 0 := zf_eq c_24 rfl (by decide)
                refine lv_bipush (v := 12) hx hb dX8_behind_62 (by decide) ?_
                refine lv_aload_n hx hb dX8_behind_64 rfl (lv_at hl 1 rfl) ?_
                refine lv_iload_n hx hb dX8_behind_65 rfl (lv_at hl 2 rfl) ?_
                refine lv_iconst (v := 0) hx hb dX8_behind_66 (by decide) ?_
                have kc0 : (0 : Int32).toInt = 0 := by decide
                refine zc_V (As := [.int s_, .int 0]) (rest := [.int 12]) ⟨hx, hb, hml, hown, hts⟩ (c_F_M_intAt l D cI cJ cZ cP cS po m0 mrf mki mpa mta mla msl mco mhe mso msi msh mce mca mwo mnu mte mwa mke mma mth mtr (npu) (nte) (nat_) (nde) (nto) (nse) (nhu) (nga) (nsd) (nfa) (nba) (npl) (nen) (nnu) (nwr) (nra) (nik) gce (s_) (0) hy0 hy1 hy2 hy3 hy4 hy5 hy6 hy7 hy8 hy9 hy10 hy11 hy12 hy13 (by omega) (by omega) (by omega) (by omega)) (cwV 2 hts gX8_behind_X8_intAt rfl rfl rfl ⟨rfl, dh_X8_intAt⟩ ⟨Nat.le_of_ble_eq_true rfl, Nat.le_of_ble_eq_true rfl⟩) hK hN (hZ.kept hS) hP (hP.sub [0, 4] rfl) (va_recv (q := (RX8, TX8, 38)) hK hP (ci := 8) (q0 := 0) rfl rfl) rfl hl.1 rfl (Nat.le_of_ble_eq_true rfl) dX8_behind_67 ⟨Nat.le_of_ble_eq_true rfl, Nat.le_of_ble_eq_true rfl⟩ (fun r_58 hr_58 => ?_)
                have hsr_58_0 := hr_58
                have wr_58 := zTl_m hbel hsr_58_0 (by have k0 : (0 : Int32).toInt = 0 := (by decide); omega) (by have k0 : (0 : Int32).toInt = 0 := (by decide); omega)
                refine lv_imul hx hb dX8_behind_70 ?_
                refine lv_topi (fun x_59 ex_59 => ?_)
                have qx_59 : x_59.toInt = 12 * r_58.toInt := by rw [ex_59]; exact zf_mul (by decide) rfl (by omega) (by omega)
                refine lv_goto (tgt := 75) hx hb dX8_behind_71 (by decide) ?_
                refine lv_istore (lv' := [(5, .int x_59), (4, .int r_8), (0, .ref m0), (1, .int s_), (2, .int p_), (3, .int to)]) hx hb dX8_behind_75 hl (by decide) rfl (fun ls hl => ?_)
                refine lv_iconst (v := 1) hx hb dX8_behind_77 (by decide) ?_
                refine lv_istore (lv' := [(6, .int 1), (5, .int x_59), (4, .int r_8), (0, .ref m0), (1, .int s_), (2, .int p_), (3, .int to)]) hx hb dX8_behind_78 hl (by decide) rfl (fun ls hl => ?_)
                obtain ⟨i_80, hi_80⟩ : ∃ i : Int32, i = 1 := ⟨_, rfl⟩
                replace hl : lv_has ls 8 [(6, .int i_80), (5, .int x_59), (0, .ref m0), (1, .int s_), (2, .int p_), (3, .int to)] := by rw [hi_80]; exact lv_sub hl [0, 1, 3, 4, 5, 6] rfl
                have h1i_80 : i_80.toInt = 1 := by rw [hi_80]; decide
                obtain ⟨nfu, hni_80⟩ : ∃ nq9 : Nat, 25 ≤ i_80.toInt + (nq9 : Int) := ⟨((25 : Int) - 1).toNat, by omega⟩
                have hloi_80 : 1 ≤ i_80.toInt := by omega
                obtain ⟨v_60, hv_60⟩ : ∃ g : Int32, g = x_59 := ⟨_, rfl⟩
                replace hl : lv_has ls 8 [(6, .int i_80), (5, .int v_60), (0, .ref m0), (1, .int s_), (2, .int p_), (3, .int to)] := by rw [hv_60]; exact hl
                have hbv_60 : 0 ≤ v_60.toInt ∧ v_60.toInt ≤ 59400 := by rw [hv_60]; exact ⟨by omega, by omega⟩
                have hvi_80_0 : (v_60 : Int32).toInt = zBh (zRw gce (160 * s_.toInt)) (gki p_.toNatClampNeg).toInt (gpa p_.toNatClampNeg).toInt nhu.toInt to.toInt (i_80.toInt - 1).toNat := by
                  (try rw [hi_80]); (try rw [hv_60]); (rw [show ((1 : Int32).toInt - 1).toNat = 0 from by decide]; show _ = (if to.toInt = 0 then 12 * zTl (zRw gce (160 * s_.toInt)) 0 else 0); have z := wr_58.1; rw [show ((0 : Int32).toInt) = 0 from by decide] at z; rw [if_pos (by omega), ← z]; omega)
                have hvi_80_1 : (v_60 : Int32).toInt ≤ 2376 * i_80.toInt ∧ i_80.toInt ≤ 25 := by
                  (try rw [hi_80]); (try rw [hv_60]); (have k1 : (1 : Int32).toInt = 1 := (by decide); have k0 : (0 : Int32).toInt = 0 := (by decide); omega)
                clear h1i_80 hi_80 hv_60
                skip
                revert hni_80
                revert hloi_80
                revert hvi_80_1
                revert hvi_80_0
                revert hbv_60
                revert hl
                revert hS
                revert hD
                revert hP
                revert ls
                revert locs
                revert H
                revert v_60
                revert i_80
                induction nfu with
                | zero =>
                  intro i_80 v_60 H locs ls hP hD hS hl hbv_60 hvi_80_0 hvi_80_1 hloi_80 hni_80
                  have hzi_80 : 25 ≤ i_80.toInt := by omega
                  refine lv_iload hx hb dX8_behind_80 (lv_at hl 0 rfl) ?_
                  refine lv_bipush (v := 24) hx hb dX8_behind_82 (by decide) ?_
                  refine lv_icmp_gt (tgt := 159) hx hb dX8_behind_84 (by decide) (fun c_61 => ?_) (fun c_61 => ?_)
                  · have fc_61 : 24 < i_80.toInt := zf_lt c_61 (by decide) rfl
                    refine lv_iload hx hb dX8_behind_159 (lv_at hl 1 rfl) ?_
                    exact W.iret (v := v_60) hx hb hr (fun t ht hW => ⟨⟨v_60, grf, rfl, ⟨(show ((s_.toInt < 0 ∨ 7 < s_.toInt ∨ p_.toInt < 0 ∨ npu.toInt ≤ p_.toInt) ∧ (v_60 : Int32).toInt = -1) ∨ ((0 ≤ s_.toInt ∧ s_.toInt ≤ 7) ∧ (0 ≤ p_.toInt ∧ p_.toInt < npu.toInt) ∧ ∃ q : Int, zBelR (zHc (ghe s_.toNatClampNeg).toInt) (gsi s_.toNatClampNeg).toInt (zRw gce (160 * s_.toInt)) q ∧ ((q ≠ 0 ∧ (v_60 : Int32).toInt = -q) ∨ (q = 0 ∧ (((to.toInt < 0 ∨ 24 < to.toInt) ∧ (v_60 : Int32).toInt = -6) ∨ ((0 ≤ to.toInt ∧ to.toInt ≤ 24) ∧ (v_60 : Int32).toInt = zBh (zRw gce (160 * s_.toInt)) (gki p_.toNatClampNeg).toInt (gpa p_.toNatClampNeg).toInt nhu.toInt to.toInt 24))))) from by (have z := hsr_8_0; rcases z with z | ⟨z1, q, z2, z3⟩; (exfalso; omega); (have h9 : (i_80.toInt - 1).toNat = 24 := (by omega); have y := hvi_80_0; rw [h9] at y; exact Or.inr ⟨z1, by omega, q, z2, Or.inr ⟨by omega, Or.inr ⟨by omega, y⟩⟩⟩))), trivial⟩, zRet ht hP hD [0, 1, 2, 3, 4, 5, 6] (by decide) rfl⟩, hS.F ht⟩) hS.2.2 dX8_behind_161
                  · exfalso; have fc_61 : i_80.toInt ≤ 24 := zf_nlt c_61 (by decide) rfl; omega
                | succ nfu ih =>
                  intro i_80 v_60 H locs ls hP hD hS hl hbv_60 hvi_80_0 hvi_80_1 hloi_80 hni_80
                  refine lv_iload hx hb dX8_behind_80 (lv_at hl 0 rfl) ?_
                  refine lv_bipush (v := 24) hx hb dX8_behind_82 (by decide) ?_
                  refine lv_icmp_gt (tgt := 159) hx hb dX8_behind_84 (by decide) (fun c_62 => ?_) (fun c_62 => ?_)
                  · have fc_62 : 24 < i_80.toInt := zf_lt c_62 (by decide) rfl
                    refine lv_iload hx hb dX8_behind_159 (lv_at hl 1 rfl) ?_
                    exact W.iret (v := v_60) hx hb hr (fun t ht hW => ⟨⟨v_60, grf, rfl, ⟨(show ((s_.toInt < 0 ∨ 7 < s_.toInt ∨ p_.toInt < 0 ∨ npu.toInt ≤ p_.toInt) ∧ (v_60 : Int32).toInt = -1) ∨ ((0 ≤ s_.toInt ∧ s_.toInt ≤ 7) ∧ (0 ≤ p_.toInt ∧ p_.toInt < npu.toInt) ∧ ∃ q : Int, zBelR (zHc (ghe s_.toNatClampNeg).toInt) (gsi s_.toNatClampNeg).toInt (zRw gce (160 * s_.toInt)) q ∧ ((q ≠ 0 ∧ (v_60 : Int32).toInt = -q) ∨ (q = 0 ∧ (((to.toInt < 0 ∨ 24 < to.toInt) ∧ (v_60 : Int32).toInt = -6) ∨ ((0 ≤ to.toInt ∧ to.toInt ≤ 24) ∧ (v_60 : Int32).toInt = zBh (zRw gce (160 * s_.toInt)) (gki p_.toNatClampNeg).toInt (gpa p_.toNatClampNeg).toInt nhu.toInt to.toInt 24))))) from by (have z := hsr_8_0; rcases z with z | ⟨z1, q, z2, z3⟩; (exfalso; omega); (have h9 : (i_80.toInt - 1).toNat = 24 := (by omega); have y := hvi_80_0; rw [h9] at y; exact Or.inr ⟨z1, by omega, q, z2, Or.inr ⟨by omega, Or.inr ⟨by omega, y⟩⟩⟩))), trivial⟩, zRet ht hP hD [0, 1, 2, 3, 4, 5, 6] (by decide) rfl⟩, hS.F ht⟩) hS.2.2 dX8_behind_161
                  · have fc_62 : i_80.toInt ≤ 24 := zf_nlt c_62 (by decide) rfl
                    refine lv_aload_n hx hb dX8_behind_87 rfl (lv_at hl 2 rfl) ?_
                    refine lv_iload_n hx hb dX8_behind_88 rfl (lv_at hl 4 rfl) ?_
                    refine lv_iload hx hb dX8_behind_89 (lv_at hl 0 rfl) ?_
                    refine zc_V (As := [.int p_, .int i_80]) (rest := []) ⟨hx, hb, hml, hown, hts⟩ (c_F_M_ways l D cI cJ cZ cP cS po m0 mrf mki mpa mta mla msl mco mhe mso msi msh mce mca mwo mnu mte mwa mke mma mth mtr (npu) (nte) (nat_) (nde) (nto) (nse) (nhu) (nga) (nsd) (nfa) (nba) (npl) (nen) (nnu) (nwr) (nra) (nik) gki gpa (p_) (i_80) hy0 hy1 hy2 hy3 hy4 hy5 hy6 hy7 hy8 hy9 hy10 hy11 hy12 hy13 (by omega) (by omega) (by omega) (by omega) hp_gki hp_gpa) (cwV 2 hts gX8_behind_X8_ways rfl rfl rfl ⟨rfl, dh_X8_ways⟩ ⟨Nat.le_of_ble_eq_true rfl, Nat.le_of_ble_eq_true rfl⟩) hK hN (hZ.kept hS) hP (hP.sub [0, 5, 6] rfl) (va_recv (q := (RX8, TX8, 38)) hK hP (ci := 8) (q0 := 0) rfl rfl) rfl hl.1 rfl (Nat.le_of_ble_eq_true rfl) dX8_behind_91 ⟨Nat.le_of_ble_eq_true rfl, Nat.le_of_ble_eq_true rfl⟩ (fun r_63 hr_63 => ?_)
                    obtain ⟨g_64, g_65, hsr_63_0⟩ := hr_63
                    refine lv_istore (lv' := [(7, .int r_63), (6, .int i_80), (5, .int v_60), (0, .ref m0), (1, .int s_), (2, .int p_), (3, .int to)]) hx hb dX8_behind_94 hl (by decide) rfl (fun ls hl => ?_)
                    refine lv_aload_n hx hb dX8_behind_96 rfl (lv_at hl 3 rfl) ?_
                    refine lv_iload_n hx hb dX8_behind_97 rfl (lv_at hl 5 rfl) ?_
                    refine lv_iload hx hb dX8_behind_98 (lv_at hl 1 rfl) ?_
                    refine lv_iconst (v := 1) hx hb dX8_behind_100 (by decide) ?_
                    have kc1 : (1 : Int32).toInt = 1 := by decide
                    refine zc_V (As := [.int p_, .int i_80, .int 1]) (rest := []) ⟨hx, hb, hml, hown, hts⟩ (c_F_M_deep l D cI cJ cZ cP cS po m0 mrf mki mpa mta mla msl mco mhe mso msi msh mce mca mwo mnu mte mwa mke mma mth mtr (npu) (nte) (nat_) (nde) (nto) (nse) (nhu) (nga) (nsd) (nfa) (nba) (npl) (nen) (nnu) (nwr) (nra) (nik) gki gpa (p_) (i_80) (1) hy0 hy1 hy2 hy3 hy4 hy5 hy6 hy7 hy8 hy9 hy10 hy11 hy12 hy13 (by omega) (by omega) (by omega) (by omega) (by omega) (by omega) hp_gki hp_gpa) (cwV 3 hts gX8_behind_X8_deep rfl rfl rfl ⟨rfl, dh_X8_deep⟩ ⟨Nat.le_of_ble_eq_true rfl, Nat.le_of_ble_eq_true rfl⟩) hK hN (hZ.kept hS) hP (hP.sub [0, 5, 6] rfl) (va_recv (q := (RX8, TX8, 38)) hK hP (ci := 8) (q0 := 0) rfl rfl) rfl hl.1 rfl (Nat.le_of_ble_eq_true rfl) dX8_behind_101 ⟨Nat.le_of_ble_eq_true rfl, Nat.le_of_ble_eq_true rfl⟩ (fun r_66 hr_66 => ?_)
                    obtain ⟨g_67, g_68, hsr_66_0⟩ := hr_66
                    refine lv_iload_n hx hb dX8_behind_104 rfl (lv_at hl 6 rfl) ?_
                    refine lv_icmp_ne (tgt := 123) hx hb dX8_behind_105 (by decide) (fun c_69 => ?_) (fun c_69 => ?_)
                    · have fc_69 : r_66.toInt ≠ to.toInt := zf_ne c_69 rfl rfl
                      refine lv_aload_n hx hb dX8_behind_123 rfl (lv_at hl 3 rfl) ?_
                      refine lv_iload_n hx hb dX8_behind_124 rfl (lv_at hl 5 rfl) ?_
                      refine lv_iload hx hb dX8_behind_125 (lv_at hl 1 rfl) ?_
                      refine lv_iconst (v := 0) hx hb dX8_behind_127 (by decide) ?_
                      refine zc_V (As := [.int p_, .int i_80, .int 0]) (rest := []) ⟨hx, hb, hml, hown, hts⟩ (c_F_M_deep l D cI cJ cZ cP cS po m0 mrf mki mpa mta mla msl mco mhe mso msi msh mce mca mwo mnu mte mwa mke mma mth mtr (npu) (nte) (nat_) (nde) (nto) (nse) (nhu) (nga) (nsd) (nfa) (nba) (npl) (nen) (nnu) (nwr) (nra) (nik) gki gpa (p_) (i_80) (0) hy0 hy1 hy2 hy3 hy4 hy5 hy6 hy7 hy8 hy9 hy10 hy11 hy12 hy13 (by omega) (by omega) (by omega) (by omega) (by omega) (by omega) hp_gki hp_gpa) (cwV 3 hts gX8_behind_X8_deep rfl rfl rfl ⟨rfl, dh_X8_deep⟩ ⟨Nat.le_of_ble_eq_true rfl, Nat.le_of_ble_eq_true rfl⟩) hK hN (hZ.kept hS) hP (hP.sub [0, 5, 6] rfl) (va_recv (q := (RX8, TX8, 38)) hK hP (ci := 8) (q0 := 0) rfl rfl) rfl hl.1 rfl (Nat.le_of_ble_eq_true rfl) dX8_behind_128 ⟨Nat.le_of_ble_eq_true rfl, Nat.le_of_ble_eq_true rfl⟩ (fun r_70 hr_70 => ?_)
                      obtain ⟨g_71, g_72, hsr_70_0⟩ := hr_70
                      refine lv_iload_n hx hb dX8_behind_131 rfl (lv_at hl 6 rfl) ?_
                      refine lv_icmp_ne (tgt := 153) hx hb dX8_behind_132 (by decide) (fun c_73 => ?_) (fun c_73 => ?_)
                      · have fc_73 : r_70.toInt ≠ to.toInt := zf_ne c_73 rfl rfl
                        obtain ⟨x_74, ex_74⟩ : ∃ y : Int32, y = i_80 + 1 := ⟨_, rfl⟩
                        have qx_74 : x_74.toInt = i_80.toInt + 1 := by rw [ex_74]; exact zf_add rfl (by decide) (by omega) (by omega)
                        refine lv_iinc (v := x_74) (lv' := [(6, .int x_74), (7, .int r_63), (5, .int v_60), (0, .ref m0), (1, .int s_), (2, .int p_), (3, .int to)]) hx hb dX8_behind_153 hl (k := 1) rfl ex_74.symm (by decide) rfl (fun ls hl => ?_)
                        refine lv_goto (tgt := 80) hx hb dX8_behind_156 (by decide) ?_
                        exact ih x_74 v_60 _ _ _ (hP.sub [0, 1, 2, 3, 4, 5, 6] rfl) (hD.sub [0, 1, 2, 3, 4, 5, 6] (by decide) rfl) hS (lv_sub hl [0, 2, 3, 4, 5, 6] rfl) hbv_60 (show (v_60 : Int32).toInt = zBh (zRw gce (160 * s_.toInt)) (gki p_.toNatClampNeg).toInt (gpa p_.toNatClampNeg).toInt nhu.toInt to.toInt (x_74.toInt - 1).toNat from by (have x1 := hsr_66_0.1 (by decide); have x2 := hsr_70_0.2 (by decide); rw [show (x_74.toInt - 1).toNat = (i_80.toInt - 1).toNat + 1 from by omega, zBh_s, show (((i_80.toInt - 1).toNat : Nat) : Int) + 1 = i_80.toInt from by omega, ← hvi_80_0, ← hsr_63_0, ← x1, ← x2]; first | (rw [if_neg (by omega), if_neg (by omega)]; omega) | (rw [if_pos (by omega), if_neg (by omega)]; omega) | (rw [if_neg (by omega), if_pos (by omega)]; omega) | (rw [if_pos (by omega), if_pos (by omega)]; omega))) (show (v_60 : Int32).toInt ≤ 2376 * x_74.toInt ∧ x_74.toInt ≤ 25 from by exact ⟨by omega, by omega⟩) (dw_lo hloi_80 qx_74) (dw_hn hni_80 qx_74)
                      · have fc_73 : r_70.toInt = to.toInt := zf_eq c_73 rfl rfl
                        refine lv_iload hx hb dX8_behind_135 (lv_at hl 2 rfl) ?_
                        refine lv_bipush (v := 12) hx hb dX8_behind_137 (by decide) ?_
                        refine lv_iload hx hb dX8_behind_139 (lv_at hl 0 rfl) ?_
                        refine lv_isub hx hb dX8_behind_141 ?_
                        refine lv_topi (fun x_75 ex_75 => ?_)
                        have qx_75 : x_75.toInt = 12 - r_63.toInt := by rw [ex_75]; exact zf_sub (by decide) rfl (by omega) (by omega)
                        refine lv_aload_n hx hb dX8_behind_142 rfl (lv_at hl 3 rfl) ?_
                        refine lv_iload_n hx hb dX8_behind_143 rfl (lv_at hl 4 rfl) ?_
                        refine lv_iload hx hb dX8_behind_144 (lv_at hl 1 rfl) ?_
                        refine zc_V (As := [.int s_, .int i_80]) (rest := [.int x_75, .int v_60]) ⟨hx, hb, hml, hown, hts⟩ (c_F_M_intAt l D cI cJ cZ cP cS po m0 mrf mki mpa mta mla msl mco mhe mso msi msh mce mca mwo mnu mte mwa mke mma mth mtr (npu) (nte) (nat_) (nde) (nto) (nse) (nhu) (nga) (nsd) (nfa) (nba) (npl) (nen) (nnu) (nwr) (nra) (nik) gce (s_) (i_80) hy0 hy1 hy2 hy3 hy4 hy5 hy6 hy7 hy8 hy9 hy10 hy11 hy12 hy13 (by omega) (by omega) (by omega) (by omega)) (cwV 2 hts gX8_behind_X8_intAt rfl rfl rfl ⟨rfl, dh_X8_intAt⟩ ⟨Nat.le_of_ble_eq_true rfl, Nat.le_of_ble_eq_true rfl⟩) hK hN (hZ.kept hS) hP (hP.sub [0, 4] rfl) (va_recv (q := (RX8, TX8, 38)) hK hP (ci := 8) (q0 := 0) rfl rfl) rfl hl.1 rfl (Nat.le_of_ble_eq_true rfl) dX8_behind_146 ⟨Nat.le_of_ble_eq_true rfl, Nat.le_of_ble_eq_true rfl⟩ (fun r_76 hr_76 => ?_)
                        have hsr_76_0 := hr_76
                        have wr_76 := zTl_m hbel hsr_76_0 (by have k0 : (0 : Int32).toInt = 0 := (by decide); omega) (by have k0 : (0 : Int32).toInt = 0 := (by decide); omega)
                        refine lv_imul hx hb dX8_behind_149 ?_
                        refine lv_topi (fun x_77 ex_77 => ?_)
                        obtain ⟨mx_77, nx_77, ox_77⟩ := zf_mulr (a := r_76) (b := x_75) (m := r_76.toInt * x_75.toInt) rfl rfl ⟨by omega, by omega⟩ ⟨by omega, by omega⟩ rfl
                        rw [show r_76 * x_75 = x_77 from by (rw [ex_77]; exact Int32.mul_comm _ _)] at mx_77
                        refine lv_iadd hx hb dX8_behind_150 ?_
                        refine lv_topi (fun x_78 ex_78 => ?_)
                        have qx_78 : x_78.toInt = v_60.toInt + x_77.toInt := by rw [ex_78]; exact zf_add rfl rfl (by omega) (by omega)
                        refine lv_istore (lv' := [(5, .int x_78), (7, .int r_63), (6, .int i_80), (0, .ref m0), (1, .int s_), (2, .int p_), (3, .int to)]) hx hb dX8_behind_151 hl (by decide) rfl (fun ls hl => ?_)
                        obtain ⟨x_79, ex_79⟩ : ∃ y : Int32, y = i_80 + 1 := ⟨_, rfl⟩
                        have qx_79 : x_79.toInt = i_80.toInt + 1 := by rw [ex_79]; exact zf_add rfl (by decide) (by omega) (by omega)
                        refine lv_iinc (v := x_79) (lv' := [(6, .int x_79), (5, .int x_78), (7, .int r_63), (0, .ref m0), (1, .int s_), (2, .int p_), (3, .int to)]) hx hb dX8_behind_153 hl (k := 2) rfl ex_79.symm (by decide) rfl (fun ls hl => ?_)
                        refine lv_goto (tgt := 80) hx hb dX8_behind_156 (by decide) ?_
                        exact ih x_79 x_78 _ _ _ (hP.sub [0, 1, 2, 3, 4, 5, 6] rfl) (hD.sub [0, 1, 2, 3, 4, 5, 6] (by decide) rfl) hS (lv_sub hl [0, 1, 3, 4, 5, 6] rfl) ⟨by omega, by omega⟩ (show (x_78 : Int32).toInt = zBh (zRw gce (160 * s_.toInt)) (gki p_.toNatClampNeg).toInt (gpa p_.toNatClampNeg).toInt nhu.toInt to.toInt (x_79.toInt - 1).toNat from by (have x1 := hsr_66_0.1 (by decide); have x2 := hsr_70_0.2 (by decide); rw [show (x_79.toInt - 1).toNat = (i_80.toInt - 1).toNat + 1 from by omega, zBh_s, show (((i_80.toInt - 1).toNat : Nat) : Int) + 1 = i_80.toInt from by omega, ← hvi_80_0, ← hsr_63_0, ← x1, ← x2]; have Mx_77 := mx_77; rw [wr_76.1, qx_75] at Mx_77; first | (rw [if_neg (by omega), if_pos (by omega)]; omega) | (rw [if_pos (by omega), if_pos (by omega)]; omega) | (rw [if_neg (by omega), if_neg (by omega)]; omega) | (rw [if_pos (by omega), if_neg (by omega)]; omega))) (show (x_78 : Int32).toInt ≤ 2376 * x_79.toInt ∧ x_79.toInt ≤ 25 from by exact ⟨by omega, by omega⟩) (dw_lo hloi_80 qx_79) (dw_hn hni_80 qx_79)
                    · have fc_69 : r_66.toInt = to.toInt := zf_eq c_69 rfl rfl
                      refine lv_iload hx hb dX8_behind_108 (lv_at hl 2 rfl) ?_
                      refine lv_iload hx hb dX8_behind_110 (lv_at hl 0 rfl) ?_
                      refine lv_aload_n hx hb dX8_behind_112 rfl (lv_at hl 3 rfl) ?_
                      refine lv_iload_n hx hb dX8_behind_113 rfl (lv_at hl 4 rfl) ?_
                      refine lv_iload hx hb dX8_behind_114 (lv_at hl 1 rfl) ?_
                      refine zc_V (As := [.int s_, .int i_80]) (rest := [.int r_63, .int v_60]) ⟨hx, hb, hml, hown, hts⟩ (c_F_M_intAt l D cI cJ cZ cP cS po m0 mrf mki mpa mta mla msl mco mhe mso msi msh mce mca mwo mnu mte mwa mke mma mth mtr (npu) (nte) (nat_) (nde) (nto) (nse) (nhu) (nga) (nsd) (nfa) (nba) (npl) (nen) (nnu) (nwr) (nra) (nik) gce (s_) (i_80) hy0 hy1 hy2 hy3 hy4 hy5 hy6 hy7 hy8 hy9 hy10 hy11 hy12 hy13 (by omega) (by omega) (by omega) (by omega)) (cwV 2 hts gX8_behind_X8_intAt rfl rfl rfl ⟨rfl, dh_X8_intAt⟩ ⟨Nat.le_of_ble_eq_true rfl, Nat.le_of_ble_eq_true rfl⟩) hK hN (hZ.kept hS) hP (hP.sub [0, 4] rfl) (va_recv (q := (RX8, TX8, 38)) hK hP (ci := 8) (q0 := 0) rfl rfl) rfl hl.1 rfl (Nat.le_of_ble_eq_true rfl) dX8_behind_116 ⟨Nat.le_of_ble_eq_true rfl, Nat.le_of_ble_eq_true rfl⟩ (fun r_80 hr_80 => ?_)
                      have hsr_80_0 := hr_80
                      have wr_80 := zTl_m hbel hsr_80_0 (by have k0 : (0 : Int32).toInt = 0 := (by decide); omega) (by have k0 : (0 : Int32).toInt = 0 := (by decide); omega)
                      refine lv_imul hx hb dX8_behind_119 ?_
                      refine lv_topi (fun x_81 ex_81 => ?_)
                      obtain ⟨mx_81, nx_81, ox_81⟩ := zf_mulr (a := r_80) (b := r_63) (m := r_80.toInt * r_63.toInt) rfl rfl ⟨by omega, by omega⟩ ⟨by omega, by omega⟩ rfl
                      rw [show r_80 * r_63 = x_81 from by (rw [ex_81]; exact Int32.mul_comm _ _)] at mx_81
                      refine lv_iadd hx hb dX8_behind_120 ?_
                      refine lv_topi (fun x_82 ex_82 => ?_)
                      have qx_82 : x_82.toInt = v_60.toInt + x_81.toInt := by rw [ex_82]; exact zf_add rfl rfl (by omega) (by omega)
                      refine lv_istore (lv' := [(5, .int x_82), (7, .int r_63), (6, .int i_80), (0, .ref m0), (1, .int s_), (2, .int p_), (3, .int to)]) hx hb dX8_behind_121 hl (by decide) rfl (fun ls hl => ?_)
                      refine lv_aload_n hx hb dX8_behind_123 rfl (lv_at hl 3 rfl) ?_
                      refine lv_iload_n hx hb dX8_behind_124 rfl (lv_at hl 5 rfl) ?_
                      refine lv_iload hx hb dX8_behind_125 (lv_at hl 2 rfl) ?_
                      refine lv_iconst (v := 0) hx hb dX8_behind_127 (by decide) ?_
                      refine zc_V (As := [.int p_, .int i_80, .int 0]) (rest := []) ⟨hx, hb, hml, hown, hts⟩ (c_F_M_deep l D cI cJ cZ cP cS po m0 mrf mki mpa mta mla msl mco mhe mso msi msh mce mca mwo mnu mte mwa mke mma mth mtr (npu) (nte) (nat_) (nde) (nto) (nse) (nhu) (nga) (nsd) (nfa) (nba) (npl) (nen) (nnu) (nwr) (nra) (nik) gki gpa (p_) (i_80) (0) hy0 hy1 hy2 hy3 hy4 hy5 hy6 hy7 hy8 hy9 hy10 hy11 hy12 hy13 (by omega) (by omega) (by omega) (by omega) (by omega) (by omega) hp_gki hp_gpa) (cwV 3 hts gX8_behind_X8_deep rfl rfl rfl ⟨rfl, dh_X8_deep⟩ ⟨Nat.le_of_ble_eq_true rfl, Nat.le_of_ble_eq_true rfl⟩) hK hN (hZ.kept hS) hP (hP.sub [0, 5, 6] rfl) (va_recv (q := (RX8, TX8, 38)) hK hP (ci := 8) (q0 := 0) rfl rfl) rfl hl.1 rfl (Nat.le_of_ble_eq_true rfl) dX8_behind_128 ⟨Nat.le_of_ble_eq_true rfl, Nat.le_of_ble_eq_true rfl⟩ (fun r_83 hr_83 => ?_)
                      obtain ⟨g_84, g_85, hsr_83_0⟩ := hr_83
                      refine lv_iload_n hx hb dX8_behind_131 rfl (lv_at hl 6 rfl) ?_
                      refine lv_icmp_ne (tgt := 153) hx hb dX8_behind_132 (by decide) (fun c_86 => ?_) (fun c_86 => ?_)
                      · have fc_86 : r_83.toInt ≠ to.toInt := zf_ne c_86 rfl rfl
                        obtain ⟨x_87, ex_87⟩ : ∃ y : Int32, y = i_80 + 1 := ⟨_, rfl⟩
                        have qx_87 : x_87.toInt = i_80.toInt + 1 := by rw [ex_87]; exact zf_add rfl (by decide) (by omega) (by omega)
                        refine lv_iinc (v := x_87) (lv' := [(6, .int x_87), (5, .int x_82), (7, .int r_63), (0, .ref m0), (1, .int s_), (2, .int p_), (3, .int to)]) hx hb dX8_behind_153 hl (k := 2) rfl ex_87.symm (by decide) rfl (fun ls hl => ?_)
                        refine lv_goto (tgt := 80) hx hb dX8_behind_156 (by decide) ?_
                        exact ih x_87 x_82 _ _ _ (hP.sub [0, 1, 2, 3, 4, 5, 6] rfl) (hD.sub [0, 1, 2, 3, 4, 5, 6] (by decide) rfl) hS (lv_sub hl [0, 1, 3, 4, 5, 6] rfl) ⟨by omega, by omega⟩ (show (x_82 : Int32).toInt = zBh (zRw gce (160 * s_.toInt)) (gki p_.toNatClampNeg).toInt (gpa p_.toNatClampNeg).toInt nhu.toInt to.toInt (x_87.toInt - 1).toNat from by (have x1 := hsr_66_0.1 (by decide); have x2 := hsr_83_0.2 (by decide); rw [show (x_87.toInt - 1).toNat = (i_80.toInt - 1).toNat + 1 from by omega, zBh_s, show (((i_80.toInt - 1).toNat : Nat) : Int) + 1 = i_80.toInt from by omega, ← hvi_80_0, ← hsr_63_0, ← x1, ← x2]; have Mx_81 := mx_81; rw [wr_80.1] at Mx_81; first | (rw [if_pos (by omega), if_neg (by omega)]; omega) | (rw [if_pos (by omega), if_pos (by omega)]; omega) | (rw [if_neg (by omega), if_neg (by omega)]; omega) | (rw [if_neg (by omega), if_pos (by omega)]; omega))) (show (x_82 : Int32).toInt ≤ 2376 * x_87.toInt ∧ x_87.toInt ≤ 25 from by exact ⟨by omega, by omega⟩) (dw_lo hloi_80 qx_87) (dw_hn hni_80 qx_87)
                      · have fc_86 : r_83.toInt = to.toInt := zf_eq c_86 rfl rfl
                        refine lv_iload hx hb dX8_behind_135 (lv_at hl 0 rfl) ?_
                        refine lv_bipush (v := 12) hx hb dX8_behind_137 (by decide) ?_
                        refine lv_iload hx hb dX8_behind_139 (lv_at hl 1 rfl) ?_
                        refine lv_isub hx hb dX8_behind_141 ?_
                        refine lv_topi (fun x_88 ex_88 => ?_)
                        have qx_88 : x_88.toInt = 12 - r_63.toInt := by rw [ex_88]; exact zf_sub (by decide) rfl (by omega) (by omega)
                        refine lv_aload_n hx hb dX8_behind_142 rfl (lv_at hl 3 rfl) ?_
                        refine lv_iload_n hx hb dX8_behind_143 rfl (lv_at hl 4 rfl) ?_
                        refine lv_iload hx hb dX8_behind_144 (lv_at hl 2 rfl) ?_
                        refine zc_V (As := [.int s_, .int i_80]) (rest := [.int x_88, .int x_82]) ⟨hx, hb, hml, hown, hts⟩ (c_F_M_intAt l D cI cJ cZ cP cS po m0 mrf mki mpa mta mla msl mco mhe mso msi msh mce mca mwo mnu mte mwa mke mma mth mtr (npu) (nte) (nat_) (nde) (nto) (nse) (nhu) (nga) (nsd) (nfa) (nba) (npl) (nen) (nnu) (nwr) (nra) (nik) gce (s_) (i_80) hy0 hy1 hy2 hy3 hy4 hy5 hy6 hy7 hy8 hy9 hy10 hy11 hy12 hy13 (by omega) (by omega) (by omega) (by omega)) (cwV 2 hts gX8_behind_X8_intAt rfl rfl rfl ⟨rfl, dh_X8_intAt⟩ ⟨Nat.le_of_ble_eq_true rfl, Nat.le_of_ble_eq_true rfl⟩) hK hN (hZ.kept hS) hP (hP.sub [0, 4] rfl) (va_recv (q := (RX8, TX8, 38)) hK hP (ci := 8) (q0 := 0) rfl rfl) rfl hl.1 rfl (Nat.le_of_ble_eq_true rfl) dX8_behind_146 ⟨Nat.le_of_ble_eq_true rfl, Nat.le_of_ble_eq_true rfl⟩ (fun r_89 hr_89 => ?_)
                        have hsr_89_0 := hr_89
                        have wr_89 := zTl_m hbel hsr_89_0 (by have k0 : (0 : Int32).toInt = 0 := (by decide); omega) (by have k0 : (0 : Int32).toInt = 0 := (by decide); omega)
                        refine lv_imul hx hb dX8_behind_149 ?_
                        refine lv_topi (fun x_90 ex_90 => ?_)
                        obtain ⟨mx_90, nx_90, ox_90⟩ := zf_mulr (a := r_89) (b := x_88) (m := r_89.toInt * x_88.toInt) rfl rfl ⟨by omega, by omega⟩ ⟨by omega, by omega⟩ rfl
                        rw [show r_89 * x_88 = x_90 from by (rw [ex_90]; exact Int32.mul_comm _ _)] at mx_90
                        refine lv_iadd hx hb dX8_behind_150 ?_
                        refine lv_topi (fun x_91 ex_91 => ?_)
                        have qx_91 : x_91.toInt = x_82.toInt + x_90.toInt := by rw [ex_91]; exact zf_add rfl rfl (by omega) (by omega)
                        refine lv_istore (lv' := [(5, .int x_91), (7, .int r_63), (6, .int i_80), (0, .ref m0), (1, .int s_), (2, .int p_), (3, .int to)]) hx hb dX8_behind_151 hl (by decide) rfl (fun ls hl => ?_)
                        obtain ⟨x_92, ex_92⟩ : ∃ y : Int32, y = i_80 + 1 := ⟨_, rfl⟩
                        have qx_92 : x_92.toInt = i_80.toInt + 1 := by rw [ex_92]; exact zf_add rfl (by decide) (by omega) (by omega)
                        refine lv_iinc (v := x_92) (lv' := [(6, .int x_92), (5, .int x_91), (7, .int r_63), (0, .ref m0), (1, .int s_), (2, .int p_), (3, .int to)]) hx hb dX8_behind_153 hl (k := 2) rfl ex_92.symm (by decide) rfl (fun ls hl => ?_)
                        refine lv_goto (tgt := 80) hx hb dX8_behind_156 (by decide) ?_
                        exact ih x_92 x_91 _ _ _ (hP.sub [0, 1, 2, 3, 4, 5, 6] rfl) (hD.sub [0, 1, 2, 3, 4, 5, 6] (by decide) rfl) hS (lv_sub hl [0, 1, 3, 4, 5, 6] rfl) ⟨by omega, by omega⟩ (show (x_91 : Int32).toInt = zBh (zRw gce (160 * s_.toInt)) (gki p_.toNatClampNeg).toInt (gpa p_.toNatClampNeg).toInt nhu.toInt to.toInt (x_92.toInt - 1).toNat from by (have x1 := hsr_66_0.1 (by decide); have x2 := hsr_83_0.2 (by decide); rw [show (x_92.toInt - 1).toNat = (i_80.toInt - 1).toNat + 1 from by omega, zBh_s, show (((i_80.toInt - 1).toNat : Nat) : Int) + 1 = i_80.toInt from by omega, ← hvi_80_0, ← hsr_63_0, ← x1, ← x2]; have Mx_81 := mx_81; rw [wr_80.1] at Mx_81; have Mx_90 := mx_90; rw [wr_89.1, qx_88] at Mx_90; first | (rw [if_pos (by omega), if_pos (by omega)]; omega) | (rw [if_pos (by omega), if_neg (by omega)]; omega) | (rw [if_neg (by omega), if_pos (by omega)]; omega) | (rw [if_neg (by omega), if_neg (by omega)]; omega))) (show (x_91 : Int32).toInt ≤ 2376 * x_92.toInt ∧ x_92.toInt ≤ 25 from by exact ⟨by omega, by omega⟩) (dw_lo hloi_80 qx_92) (dw_hn hni_80 qx_92)
            · exfalso; have fc_23 : r_8.toInt ≠ 0 := zf_ne c_23 rfl (by decide); omega
          · have fc_22 : 24 < to.toInt := zf_nle c_22 rfl (by decide)
            refine lv_bipush (v := (-6)) hx hb dX8_behind_42 (by decide) ?_
            refine lv_istore (lv' := [(4, .int (-6)), (0, .ref m0), (1, .int s_), (2, .int p_), (3, .int to)]) hx hb dX8_behind_44 hl (by decide) rfl (fun ls hl => ?_)
            refine lv_iload hx hb dX8_behind_46 (lv_at hl 0 rfl) ?_
            refine lv_if_eq (tgt := 58) hx hb dX8_behind_48 (by decide) (fun c_93 => ?_) (fun c_93 => ?_)
            · exact absurd c_93 (by decide)
            · refine lv_aload_n hx hb dX8_behind_51 rfl (lv_at hl 1 rfl) ?_
              refine lv_iload hx hb dX8_behind_52 (lv_at hl 0 rfl) ?_
              skip
              refine zw_V (As := [.int (-6)]) (rest := []) (wr := [(mhe, .inl (cI, 8, .inl ghe)), (msi, .inl (cI, 8, .inl gsi)), (mce, .inl (cJ, 1280, .inr (.inl gce))), (mki, .inl (cI, 8, .inl gki)), (mpa, .inl (cI, 8, .inl gpa))]) ⟨hx, hb, hml, hown, hts⟩ (c_M_no_6 l D cI cJ cZ cP cS po m0 mrf mki mpa mta mla msl mco mhe mso msi msh mce mca mwo mnu mte mwa mke mma mth mtr (npu) (nte) (nat_) (nde) (nto) (nse) (nhu) (nga) (nsd) (nfa) (nba) (npl) (nen) (nnu) (nwr) (nra) (nik) grf hy0 hy1 hy2 hy3 hy4 hy5 hy6 hy7 hy8 hy9 hy10 hy11 hy12 hy13 H.size) (cwV 1 hts gX8_behind_X8_no rfl rfl rfl ⟨rfl, dh_X8_no⟩ ⟨Nat.le_of_ble_eq_true rfl, Nat.le_of_ble_eq_true rfl⟩) hK hN (hZ.kept hS) hP hD hS hA [0, 1] [2, 3, 4, 5, 6] rfl rfl (by decide) (by decide) (by decide) (va_recv (q := (RX8, TX8, 38)) hK hP (ci := 8) (q0 := 0) rfl rfl) rfl hl.1 rfl (Nat.le_of_ble_eq_true rfl) dX8_behind_54 ⟨Nat.le_of_ble_eq_true rfl, Nat.le_of_ble_eq_true rfl⟩ (fun r_94 u_95 H locs hr_94 hP hD hS => ?_)
              obtain ⟨q_96, rfl⟩ : ∃ z, z = u_95 := ⟨_, rfl⟩
              have h9R := zRe (ws' := [(mhe, .inl (cI, 8, .inl ghe)), (msi, .inl (cI, 8, .inl gsi)), (mce, .inl (cJ, 1280, .inr (.inl gce))), (mki, .inl (cI, 8, .inl gki)), (mpa, .inl (cI, 8, .inl gpa)), (zMO m0 npu nte nat_ nde nto nse nhu nga nsd nfa mrf mki mpa mta mla msl mco mhe mso msi msh mce mca mwo mnu mte nba npl nen nnu nwr mwa mke mma mth mtr nra nik), (mrf, .inl (cI, 8, .inl q_96))]) hP hD rfl
              clear hP hD
              obtain ⟨hP, hD⟩ := h9R
              obtain rfl := hr_94
              exact W.iret (v := (-6)) hx hb hr (fun t ht hW => ⟨⟨(-6), q_96, rfl, ⟨(show ((s_.toInt < 0 ∨ 7 < s_.toInt ∨ p_.toInt < 0 ∨ npu.toInt ≤ p_.toInt) ∧ ((-6) : Int32).toInt = -1) ∨ ((0 ≤ s_.toInt ∧ s_.toInt ≤ 7) ∧ (0 ≤ p_.toInt ∧ p_.toInt < npu.toInt) ∧ ∃ q : Int, zBelR (zHc (ghe s_.toNatClampNeg).toInt) (gsi s_.toNatClampNeg).toInt (zRw gce (160 * s_.toInt)) q ∧ ((q ≠ 0 ∧ ((-6) : Int32).toInt = -q) ∨ (q = 0 ∧ (((to.toInt < 0 ∨ 24 < to.toInt) ∧ ((-6) : Int32).toInt = -6) ∨ ((0 ≤ to.toInt ∧ to.toInt ≤ 24) ∧ ((-6) : Int32).toInt = zBh (zRw gce (160 * s_.toInt)) (gki p_.toNatClampNeg).toInt (gpa p_.toNatClampNeg).toInt nhu.toInt to.toInt 24))))) from by (have k6m : ((-6) : Int32).toInt = -6 := (by decide); have z := hsr_8_0; rcases z with z | ⟨z1, q, z2, z3⟩; (exact Or.inl (by omega)); first | (exact Or.inr ⟨z1, by omega, q, z2, Or.inl ⟨by omega, by omega⟩⟩) | (exact Or.inr ⟨z1, by omega, q, z2, Or.inr ⟨by omega, Or.inl ⟨by omega, by omega⟩⟩⟩))), trivial⟩, zRet ht hP hD [5, 6, 0, 1, 2, 3, 4] (by decide) rfl⟩, hS.F ht⟩) hS.2.2 dX8_behind_57
    · exact absurd c_7 (by decide)
  · refine lv_if_eq (tgt := 20) hx hb dX8_behind_5 (by decide) (fun c_97 => ?_) (fun c_97 => ?_)
    · refine lv_aload_n hx hb dX8_behind_20 rfl (lv_at hl 0 rfl) ?_
      refine lv_iload_n hx hb dX8_behind_21 rfl (lv_at hl 1 rfl) ?_
      refine zc_V (As := [.int s_]) (rest := []) ⟨hx, hb, hml, hown, hts⟩ (c_F_M_barsOf l D cI cJ cZ cP cS po m0 mrf mki mpa mta mla msl mco mhe mso msi msh mce mca mwo mnu mte mwa mke mma mth mtr (npu) (nte) (nat_) (nde) (nto) (nse) (nhu) (nga) (nsd) (nfa) (nba) (npl) (nen) (nnu) (nwr) (nra) (nik) ghe gsi gce (s_) hy0 hy1 hy2 hy3 hy4 hy5 hy6 hy7 hy8 hy9 hy10 hy11 hy12 hy13 hp_ghe hp_gsi) (cwV 1 hts gX8_behind_X8_barsOf rfl rfl rfl ⟨rfl, dh_X8_barsOf⟩ ⟨Nat.le_of_ble_eq_true rfl, Nat.le_of_ble_eq_true rfl⟩) hK hN (hZ.kept hS) hP (hP.sub [0, 2, 3, 4] rfl) (va_recv (q := (RX8, TX8, 38)) hK hP (ci := 8) (q0 := 0) rfl rfl) rfl hl.1 rfl (Nat.le_of_ble_eq_true rfl) dX8_behind_22 ⟨Nat.le_of_ble_eq_true rfl, Nat.le_of_ble_eq_true rfl⟩ (fun r_98 hr_98 => ?_)
      obtain ⟨g_99, g_100, hsr_98_0, hsr_98_1⟩ := hr_98
      refine lv_istore (lv' := [(4, .int r_98), (0, .ref m0), (1, .int s_), (2, .int p_), (3, .int to)]) hx hb dX8_behind_25 hl (by decide) rfl (fun ls hl => ?_)
      refine lv_iload hx hb dX8_behind_27 (lv_at hl 0 rfl) ?_
      refine lv_if_ne (tgt := 46) hx hb dX8_behind_29 (by decide) (fun c_101 => ?_) (fun c_101 => ?_)
      · have fc_101 : r_98.toInt ≠ 0 := zf_ne c_101 rfl (by decide)
        refine lv_iload hx hb dX8_behind_46 (lv_at hl 0 rfl) ?_
        refine lv_if_eq (tgt := 58) hx hb dX8_behind_48 (by decide) (fun c_102 => ?_) (fun c_102 => ?_)
        · exfalso; have fc_102 : r_98.toInt = 0 := zf_eq c_102 rfl (by decide); omega
        · have fc_102 : r_98.toInt ≠ 0 := zf_ne c_102 rfl (by decide)
          refine lv_aload_n hx hb dX8_behind_51 rfl (lv_at hl 1 rfl) ?_
          refine lv_iload hx hb dX8_behind_52 (lv_at hl 0 rfl) ?_
          skip
          refine zw_V (As := [.int r_98]) (rest := []) (wr := [(mhe, .inl (cI, 8, .inl ghe)), (msi, .inl (cI, 8, .inl gsi)), (mce, .inl (cJ, 1280, .inr (.inl gce))), (mki, .inl (cI, 8, .inl gki)), (mpa, .inl (cI, 8, .inl gpa))]) ⟨hx, hb, hml, hown, hts⟩ (c_M_no l D cI cJ cZ cP cS po m0 mrf mki mpa mta mla msl mco mhe mso msi msh mce mca mwo mnu mte mwa mke mma mth mtr (npu) (nte) (nat_) (nde) (nto) (nse) (nhu) (nga) (nsd) (nfa) (nba) (npl) (nen) (nnu) (nwr) (nra) (nik) grf (r_98) hy0 hy1 hy2 hy3 hy4 hy5 hy6 hy7 hy8 hy9 hy10 hy11 hy12 hy13 (by omega) (by omega) H.size) (cwV 1 hts gX8_behind_X8_no rfl rfl rfl ⟨rfl, dh_X8_no⟩ ⟨Nat.le_of_ble_eq_true rfl, Nat.le_of_ble_eq_true rfl⟩) hK hN (hZ.kept hS) hP hD hS hA [0, 1] [2, 3, 4, 5, 6] rfl rfl (by decide) (by decide) (by decide) (va_recv (q := (RX8, TX8, 38)) hK hP (ci := 8) (q0 := 0) rfl rfl) rfl hl.1 rfl (Nat.le_of_ble_eq_true rfl) dX8_behind_54 ⟨Nat.le_of_ble_eq_true rfl, Nat.le_of_ble_eq_true rfl⟩ (fun r_103 u_104 H locs hr_103 hP hD hS => ?_)
          obtain ⟨q_105, rfl⟩ : ∃ z, z = u_104 := ⟨_, rfl⟩
          have h9R := zRe (ws' := [(mhe, .inl (cI, 8, .inl ghe)), (msi, .inl (cI, 8, .inl gsi)), (mce, .inl (cJ, 1280, .inr (.inl gce))), (mki, .inl (cI, 8, .inl gki)), (mpa, .inl (cI, 8, .inl gpa)), (zMO m0 npu nte nat_ nde nto nse nhu nga nsd nfa mrf mki mpa mta mla msl mco mhe mso msi msh mce mca mwo mnu mte nba npl nen nnu nwr mwa mke mma mth mtr nra nik), (mrf, .inl (cI, 8, .inl q_105))]) hP hD rfl
          clear hP hD
          obtain ⟨hP, hD⟩ := h9R
          have w_106 := hr_103
          obtain rfl : r_98 = r_103 := w_106.symm
          exact W.iret (v := r_98) hx hb hr (fun t ht hW => ⟨⟨r_98, q_105, rfl, ⟨(show ((s_.toInt < 0 ∨ 7 < s_.toInt ∨ p_.toInt < 0 ∨ npu.toInt ≤ p_.toInt) ∧ (r_98 : Int32).toInt = -1) ∨ ((0 ≤ s_.toInt ∧ s_.toInt ≤ 7) ∧ (0 ≤ p_.toInt ∧ p_.toInt < npu.toInt) ∧ ∃ q : Int, zBelR (zHc (ghe s_.toNatClampNeg).toInt) (gsi s_.toNatClampNeg).toInt (zRw gce (160 * s_.toInt)) q ∧ ((q ≠ 0 ∧ (r_98 : Int32).toInt = -q) ∨ (q = 0 ∧ (((to.toInt < 0 ∨ 24 < to.toInt) ∧ (r_98 : Int32).toInt = -6) ∨ ((0 ≤ to.toInt ∧ to.toInt ≤ 24) ∧ (r_98 : Int32).toInt = zBh (zRw gce (160 * s_.toInt)) (gki p_.toNatClampNeg).toInt (gpa p_.toNatClampNeg).toInt nhu.toInt to.toInt 24))))) from by (have z := hsr_98_0; rcases z with z | ⟨z1, q, z2, z3⟩; (exact Or.inl (by omega)); first | (exact Or.inr ⟨z1, by omega, q, z2, Or.inl ⟨by omega, by omega⟩⟩) | (exact Or.inr ⟨z1, by omega, q, z2, Or.inr ⟨by omega, Or.inl ⟨by omega, by omega⟩⟩⟩))), trivial⟩, zRet ht hP hD [5, 6, 0, 1, 2, 3, 4] (by decide) rfl⟩, hS.F ht⟩) hS.2.2 dX8_behind_57
      · have fc_101 : r_98.toInt = 0 := zf_eq c_101 rfl (by decide)
        refine lv_iload_n hx hb dX8_behind_32 rfl (lv_at hl 4 rfl) ?_
        refine lv_if_lt (tgt := 42) hx hb dX8_behind_33 (by decide) (fun c_107 => ?_) (fun c_107 => ?_)
        · have fc_107 : to.toInt < 0 := zf_lt c_107 rfl (by decide)
          refine lv_bipush (v := (-6)) hx hb dX8_behind_42 (by decide) ?_
          refine lv_istore (lv' := [(4, .int (-6)), (0, .ref m0), (1, .int s_), (2, .int p_), (3, .int to)]) hx hb dX8_behind_44 hl (by decide) rfl (fun ls hl => ?_)
          refine lv_iload hx hb dX8_behind_46 (lv_at hl 0 rfl) ?_
          refine lv_if_eq (tgt := 58) hx hb dX8_behind_48 (by decide) (fun c_108 => ?_) (fun c_108 => ?_)
          · exact absurd c_108 (by decide)
          · refine lv_aload_n hx hb dX8_behind_51 rfl (lv_at hl 1 rfl) ?_
            refine lv_iload hx hb dX8_behind_52 (lv_at hl 0 rfl) ?_
            skip
            refine zw_V (As := [.int (-6)]) (rest := []) (wr := [(mhe, .inl (cI, 8, .inl ghe)), (msi, .inl (cI, 8, .inl gsi)), (mce, .inl (cJ, 1280, .inr (.inl gce))), (mki, .inl (cI, 8, .inl gki)), (mpa, .inl (cI, 8, .inl gpa))]) ⟨hx, hb, hml, hown, hts⟩ (c_M_no_6 l D cI cJ cZ cP cS po m0 mrf mki mpa mta mla msl mco mhe mso msi msh mce mca mwo mnu mte mwa mke mma mth mtr (npu) (nte) (nat_) (nde) (nto) (nse) (nhu) (nga) (nsd) (nfa) (nba) (npl) (nen) (nnu) (nwr) (nra) (nik) grf hy0 hy1 hy2 hy3 hy4 hy5 hy6 hy7 hy8 hy9 hy10 hy11 hy12 hy13 H.size) (cwV 1 hts gX8_behind_X8_no rfl rfl rfl ⟨rfl, dh_X8_no⟩ ⟨Nat.le_of_ble_eq_true rfl, Nat.le_of_ble_eq_true rfl⟩) hK hN (hZ.kept hS) hP hD hS hA [0, 1] [2, 3, 4, 5, 6] rfl rfl (by decide) (by decide) (by decide) (va_recv (q := (RX8, TX8, 38)) hK hP (ci := 8) (q0 := 0) rfl rfl) rfl hl.1 rfl (Nat.le_of_ble_eq_true rfl) dX8_behind_54 ⟨Nat.le_of_ble_eq_true rfl, Nat.le_of_ble_eq_true rfl⟩ (fun r_109 u_110 H locs hr_109 hP hD hS => ?_)
            obtain ⟨q_111, rfl⟩ : ∃ z, z = u_110 := ⟨_, rfl⟩
            have h9R := zRe (ws' := [(mhe, .inl (cI, 8, .inl ghe)), (msi, .inl (cI, 8, .inl gsi)), (mce, .inl (cJ, 1280, .inr (.inl gce))), (mki, .inl (cI, 8, .inl gki)), (mpa, .inl (cI, 8, .inl gpa)), (zMO m0 npu nte nat_ nde nto nse nhu nga nsd nfa mrf mki mpa mta mla msl mco mhe mso msi msh mce mca mwo mnu mte nba npl nen nnu nwr mwa mke mma mth mtr nra nik), (mrf, .inl (cI, 8, .inl q_111))]) hP hD rfl
            clear hP hD
            obtain ⟨hP, hD⟩ := h9R
            obtain rfl := hr_109
            exact W.iret (v := (-6)) hx hb hr (fun t ht hW => ⟨⟨(-6), q_111, rfl, ⟨(show ((s_.toInt < 0 ∨ 7 < s_.toInt ∨ p_.toInt < 0 ∨ npu.toInt ≤ p_.toInt) ∧ ((-6) : Int32).toInt = -1) ∨ ((0 ≤ s_.toInt ∧ s_.toInt ≤ 7) ∧ (0 ≤ p_.toInt ∧ p_.toInt < npu.toInt) ∧ ∃ q : Int, zBelR (zHc (ghe s_.toNatClampNeg).toInt) (gsi s_.toNatClampNeg).toInt (zRw gce (160 * s_.toInt)) q ∧ ((q ≠ 0 ∧ ((-6) : Int32).toInt = -q) ∨ (q = 0 ∧ (((to.toInt < 0 ∨ 24 < to.toInt) ∧ ((-6) : Int32).toInt = -6) ∨ ((0 ≤ to.toInt ∧ to.toInt ≤ 24) ∧ ((-6) : Int32).toInt = zBh (zRw gce (160 * s_.toInt)) (gki p_.toNatClampNeg).toInt (gpa p_.toNatClampNeg).toInt nhu.toInt to.toInt 24))))) from by (have k6m : ((-6) : Int32).toInt = -6 := (by decide); have z := hsr_98_0; rcases z with z | ⟨z1, q, z2, z3⟩; (exact Or.inl (by omega)); first | (exact Or.inr ⟨z1, by omega, q, z2, Or.inl ⟨by omega, by omega⟩⟩) | (exact Or.inr ⟨z1, by omega, q, z2, Or.inr ⟨by omega, Or.inl ⟨by omega, by omega⟩⟩⟩))), trivial⟩, zRet ht hP hD [5, 6, 0, 1, 2, 3, 4] (by decide) rfl⟩, hS.F ht⟩) hS.2.2 dX8_behind_57
        · have fc_107 : 0 ≤ to.toInt := zf_nlt c_107 rfl (by decide)
          refine lv_iload_n hx hb dX8_behind_36 rfl (lv_at hl 4 rfl) ?_
          refine lv_bipush (v := 24) hx hb dX8_behind_37 (by decide) ?_
          refine lv_icmp_le (tgt := 46) hx hb dX8_behind_39 (by decide) (fun c_112 => ?_) (fun c_112 => ?_)
          · have fc_112 : to.toInt ≤ 24 := zf_le c_112 rfl (by decide)
            refine lv_iload hx hb dX8_behind_46 (lv_at hl 0 rfl) ?_
            refine lv_if_eq (tgt := 58) hx hb dX8_behind_48 (by decide) (fun c_113 => ?_) (fun c_113 => ?_)
            · have fc_113 : r_98.toInt = 0 := zf_eq c_113 rfl (by decide)
              have hbel : zBel (zRw gce (160 * s_.toInt)) := by (have z := hsr_98_0; rcases z with z | ⟨z1, q, z2, z3⟩; (exfalso; omega); (obtain rfl : q = 0 := (by omega); unfold zBelR at z2; rcases z2 with z | z | z | z | z <;> first | exact z.2.2.1 | (exfalso; omega)))
              refine lv_iload_n hx hb dX8_behind_58 rfl (lv_at hl 4 rfl) ?_
              refine lv_if_ne (tgt := 74) hx hb dX8_behind_59 (by decide) (fun c_114 => ?_) (fun c_114 => ?_)
              · have fc_114 : to.toInt ≠ 0 := zf_ne c_114 rfl (by decide)
                refine lv_iconst (v := 0) hx hb dX8_behind_74 (by decide) ?_
                refine lv_istore (lv' := [(5, .int 0), (4, .int r_98), (0, .ref m0), (1, .int s_), (2, .int p_), (3, .int to)]) hx hb dX8_behind_75 hl (by decide) rfl (fun ls hl => ?_)
                refine lv_iconst (v := 1) hx hb dX8_behind_77 (by decide) ?_
                refine lv_istore (lv' := [(6, .int 1), (5, .int 0), (4, .int r_98), (0, .ref m0), (1, .int s_), (2, .int p_), (3, .int to)]) hx hb dX8_behind_78 hl (by decide) rfl (fun ls hl => ?_)
                obtain ⟨i_80, hi_80⟩ : ∃ i : Int32, i = 1 := ⟨_, rfl⟩
                replace hl : lv_has ls 8 [(6, .int i_80), (5, .int 0), (0, .ref m0), (1, .int s_), (2, .int p_), (3, .int to)] := by rw [hi_80]; exact lv_sub hl [0, 1, 3, 4, 5, 6] rfl
                have h1i_80 : i_80.toInt = 1 := by rw [hi_80]; decide
                obtain ⟨nfu, hni_80⟩ : ∃ nq9 : Nat, 25 ≤ i_80.toInt + (nq9 : Int) := ⟨((25 : Int) - 1).toNat, by omega⟩
                have hloi_80 : 1 ≤ i_80.toInt := by omega
                obtain ⟨v_115, hv_115⟩ : ∃ g : Int32, g = 0 := ⟨_, rfl⟩
                replace hl : lv_has ls 8 [(6, .int i_80), (5, .int v_115), (0, .ref m0), (1, .int s_), (2, .int p_), (3, .int to)] := by rw [hv_115]; exact hl
                have hbv_115 : 0 ≤ v_115.toInt ∧ v_115.toInt ≤ 59400 := by rw [hv_115]; exact ⟨by decide, by decide⟩
                have hvi_80_0 : (v_115 : Int32).toInt = zBh (zRw gce (160 * s_.toInt)) (gki p_.toNatClampNeg).toInt (gpa p_.toNatClampNeg).toInt nhu.toInt to.toInt (i_80.toInt - 1).toNat := by
                  (try rw [hi_80]); (try rw [hv_115]); (rw [show ((1 : Int32).toInt - 1).toNat = 0 from by decide]; show _ = (if to.toInt = 0 then 12 * zTl (zRw gce (160 * s_.toInt)) 0 else 0); have k0 : (0 : Int32).toInt = 0 := (by decide); rw [if_neg (by omega)]; exact k0)
                have hvi_80_1 : (v_115 : Int32).toInt ≤ 2376 * i_80.toInt ∧ i_80.toInt ≤ 25 := by
                  (try rw [hi_80]); (try rw [hv_115]); (have k1 : (1 : Int32).toInt = 1 := (by decide); have k0 : (0 : Int32).toInt = 0 := (by decide); omega)
                clear h1i_80 hi_80 hv_115
                skip
                revert hni_80
                revert hloi_80
                revert hvi_80_1
                revert hvi_80_0
                revert hbv_115
                revert hl
                revert hS
                revert hD
                revert hP
                revert ls
                revert locs
                revert H
                revert v_115
                revert i_80
                induction nfu with
                | zero =>
                  intro i_80 v_115 H locs ls hP hD hS hl hbv_115 hvi_80_0 hvi_80_1 hloi_80 hni_80
                  have hzi_80 : 25 ≤ i_80.toInt := by omega
                  refine lv_iload hx hb dX8_behind_80 (lv_at hl 0 rfl) ?_
                  refine lv_bipush (v := 24) hx hb dX8_behind_82 (by decide) ?_
                  refine lv_icmp_gt (tgt := 159) hx hb dX8_behind_84 (by decide) (fun c_116 => ?_) (fun c_116 => ?_)
                  · have fc_116 : 24 < i_80.toInt := zf_lt c_116 (by decide) rfl
                    refine lv_iload hx hb dX8_behind_159 (lv_at hl 1 rfl) ?_
                    exact W.iret (v := v_115) hx hb hr (fun t ht hW => ⟨⟨v_115, grf, rfl, ⟨(show ((s_.toInt < 0 ∨ 7 < s_.toInt ∨ p_.toInt < 0 ∨ npu.toInt ≤ p_.toInt) ∧ (v_115 : Int32).toInt = -1) ∨ ((0 ≤ s_.toInt ∧ s_.toInt ≤ 7) ∧ (0 ≤ p_.toInt ∧ p_.toInt < npu.toInt) ∧ ∃ q : Int, zBelR (zHc (ghe s_.toNatClampNeg).toInt) (gsi s_.toNatClampNeg).toInt (zRw gce (160 * s_.toInt)) q ∧ ((q ≠ 0 ∧ (v_115 : Int32).toInt = -q) ∨ (q = 0 ∧ (((to.toInt < 0 ∨ 24 < to.toInt) ∧ (v_115 : Int32).toInt = -6) ∨ ((0 ≤ to.toInt ∧ to.toInt ≤ 24) ∧ (v_115 : Int32).toInt = zBh (zRw gce (160 * s_.toInt)) (gki p_.toNatClampNeg).toInt (gpa p_.toNatClampNeg).toInt nhu.toInt to.toInt 24))))) from by (have z := hsr_98_0; rcases z with z | ⟨z1, q, z2, z3⟩; (exfalso; omega); (have h9 : (i_80.toInt - 1).toNat = 24 := (by omega); have y := hvi_80_0; rw [h9] at y; exact Or.inr ⟨z1, by omega, q, z2, Or.inr ⟨by omega, Or.inr ⟨by omega, y⟩⟩⟩))), trivial⟩, zRet ht hP hD [0, 1, 2, 3, 4, 5, 6] (by decide) rfl⟩, hS.F ht⟩) hS.2.2 dX8_behind_161
                  · exfalso; have fc_116 : i_80.toInt ≤ 24 := zf_nlt c_116 (by decide) rfl; omega
                | succ nfu ih =>
                  intro i_80 v_115 H locs ls hP hD hS hl hbv_115 hvi_80_0 hvi_80_1 hloi_80 hni_80
                  refine lv_iload hx hb dX8_behind_80 (lv_at hl 0 rfl) ?_
                  refine lv_bipush (v := 24) hx hb dX8_behind_82 (by decide) ?_
                  refine lv_icmp_gt (tgt := 159) hx hb dX8_behind_84 (by decide) (fun c_117 => ?_) (fun c_117 => ?_)
                  · have fc_117 : 24 < i_80.toInt := zf_lt c_117 (by decide) rfl
                    refine lv_iload hx hb dX8_behind_159 (lv_at hl 1 rfl) ?_
                    exact W.iret (v := v_115) hx hb hr (fun t ht hW => ⟨⟨v_115, grf, rfl, ⟨(show ((s_.toInt < 0 ∨ 7 < s_.toInt ∨ p_.toInt < 0 ∨ npu.toInt ≤ p_.toInt) ∧ (v_115 : Int32).toInt = -1) ∨ ((0 ≤ s_.toInt ∧ s_.toInt ≤ 7) ∧ (0 ≤ p_.toInt ∧ p_.toInt < npu.toInt) ∧ ∃ q : Int, zBelR (zHc (ghe s_.toNatClampNeg).toInt) (gsi s_.toNatClampNeg).toInt (zRw gce (160 * s_.toInt)) q ∧ ((q ≠ 0 ∧ (v_115 : Int32).toInt = -q) ∨ (q = 0 ∧ (((to.toInt < 0 ∨ 24 < to.toInt) ∧ (v_115 : Int32).toInt = -6) ∨ ((0 ≤ to.toInt ∧ to.toInt ≤ 24) ∧ (v_115 : Int32).toInt = zBh (zRw gce (160 * s_.toInt)) (gki p_.toNatClampNeg).toInt (gpa p_.toNatClampNeg).toInt nhu.toInt to.toInt 24))))) from by (have z := hsr_98_0; rcases z with z | ⟨z1, q, z2, z3⟩; (exfalso; omega); (have h9 : (i_80.toInt - 1).toNat = 24 := (by omega); have y := hvi_80_0; rw [h9] at y; exact Or.inr ⟨z1, by omega, q, z2, Or.inr ⟨by omega, Or.inr ⟨by omega, y⟩⟩⟩))), trivial⟩, zRet ht hP hD [0, 1, 2, 3, 4, 5, 6] (by decide) rfl⟩, hS.F ht⟩) hS.2.2 dX8_behind_161
                  · have fc_117 : i_80.toInt ≤ 24 := zf_nlt c_117 (by decide) rfl
                    refine lv_aload_n hx hb dX8_behind_87 rfl (lv_at hl 2 rfl) ?_
                    refine lv_iload_n hx hb dX8_behind_88 rfl (lv_at hl 4 rfl) ?_
                    refine lv_iload hx hb dX8_behind_89 (lv_at hl 0 rfl) ?_
                    refine zc_V (As := [.int p_, .int i_80]) (rest := []) ⟨hx, hb, hml, hown, hts⟩ (c_F_M_ways l D cI cJ cZ cP cS po m0 mrf mki mpa mta mla msl mco mhe mso msi msh mce mca mwo mnu mte mwa mke mma mth mtr (npu) (nte) (nat_) (nde) (nto) (nse) (nhu) (nga) (nsd) (nfa) (nba) (npl) (nen) (nnu) (nwr) (nra) (nik) gki gpa (p_) (i_80) hy0 hy1 hy2 hy3 hy4 hy5 hy6 hy7 hy8 hy9 hy10 hy11 hy12 hy13 (by omega) (by omega) (by omega) (by omega) hp_gki hp_gpa) (cwV 2 hts gX8_behind_X8_ways rfl rfl rfl ⟨rfl, dh_X8_ways⟩ ⟨Nat.le_of_ble_eq_true rfl, Nat.le_of_ble_eq_true rfl⟩) hK hN (hZ.kept hS) hP (hP.sub [0, 5, 6] rfl) (va_recv (q := (RX8, TX8, 38)) hK hP (ci := 8) (q0 := 0) rfl rfl) rfl hl.1 rfl (Nat.le_of_ble_eq_true rfl) dX8_behind_91 ⟨Nat.le_of_ble_eq_true rfl, Nat.le_of_ble_eq_true rfl⟩ (fun r_118 hr_118 => ?_)
                    obtain ⟨g_119, g_120, hsr_118_0⟩ := hr_118
                    refine lv_istore (lv' := [(7, .int r_118), (6, .int i_80), (5, .int v_115), (0, .ref m0), (1, .int s_), (2, .int p_), (3, .int to)]) hx hb dX8_behind_94 hl (by decide) rfl (fun ls hl => ?_)
                    refine lv_aload_n hx hb dX8_behind_96 rfl (lv_at hl 3 rfl) ?_
                    refine lv_iload_n hx hb dX8_behind_97 rfl (lv_at hl 5 rfl) ?_
                    refine lv_iload hx hb dX8_behind_98 (lv_at hl 1 rfl) ?_
                    refine lv_iconst (v := 1) hx hb dX8_behind_100 (by decide) ?_
                    have kc1 : (1 : Int32).toInt = 1 := by decide
                    refine zc_V (As := [.int p_, .int i_80, .int 1]) (rest := []) ⟨hx, hb, hml, hown, hts⟩ (c_F_M_deep l D cI cJ cZ cP cS po m0 mrf mki mpa mta mla msl mco mhe mso msi msh mce mca mwo mnu mte mwa mke mma mth mtr (npu) (nte) (nat_) (nde) (nto) (nse) (nhu) (nga) (nsd) (nfa) (nba) (npl) (nen) (nnu) (nwr) (nra) (nik) gki gpa (p_) (i_80) (1) hy0 hy1 hy2 hy3 hy4 hy5 hy6 hy7 hy8 hy9 hy10 hy11 hy12 hy13 (by omega) (by omega) (by omega) (by omega) (by omega) (by omega) hp_gki hp_gpa) (cwV 3 hts gX8_behind_X8_deep rfl rfl rfl ⟨rfl, dh_X8_deep⟩ ⟨Nat.le_of_ble_eq_true rfl, Nat.le_of_ble_eq_true rfl⟩) hK hN (hZ.kept hS) hP (hP.sub [0, 5, 6] rfl) (va_recv (q := (RX8, TX8, 38)) hK hP (ci := 8) (q0 := 0) rfl rfl) rfl hl.1 rfl (Nat.le_of_ble_eq_true rfl) dX8_behind_101 ⟨Nat.le_of_ble_eq_true rfl, Nat.le_of_ble_eq_true rfl⟩ (fun r_121 hr_121 => ?_)
                    obtain ⟨g_122, g_123, hsr_121_0⟩ := hr_121
                    refine lv_iload_n hx hb dX8_behind_104 rfl (lv_at hl 6 rfl) ?_
                    refine lv_icmp_ne (tgt := 123) hx hb dX8_behind_105 (by decide) (fun c_124 => ?_) (fun c_124 => ?_)
                    · have fc_124 : r_121.toInt ≠ to.toInt := zf_ne c_124 rfl rfl
                      refine lv_aload_n hx hb dX8_behind_123 rfl (lv_at hl 3 rfl) ?_
                      refine lv_iload_n hx hb dX8_behind_124 rfl (lv_at hl 5 rfl) ?_
                      refine lv_iload hx hb dX8_behind_125 (lv_at hl 1 rfl) ?_
                      refine lv_iconst (v := 0) hx hb dX8_behind_127 (by decide) ?_
                      have kc0 : (0 : Int32).toInt = 0 := by decide
                      refine zc_V (As := [.int p_, .int i_80, .int 0]) (rest := []) ⟨hx, hb, hml, hown, hts⟩ (c_F_M_deep l D cI cJ cZ cP cS po m0 mrf mki mpa mta mla msl mco mhe mso msi msh mce mca mwo mnu mte mwa mke mma mth mtr (npu) (nte) (nat_) (nde) (nto) (nse) (nhu) (nga) (nsd) (nfa) (nba) (npl) (nen) (nnu) (nwr) (nra) (nik) gki gpa (p_) (i_80) (0) hy0 hy1 hy2 hy3 hy4 hy5 hy6 hy7 hy8 hy9 hy10 hy11 hy12 hy13 (by omega) (by omega) (by omega) (by omega) (by omega) (by omega) hp_gki hp_gpa) (cwV 3 hts gX8_behind_X8_deep rfl rfl rfl ⟨rfl, dh_X8_deep⟩ ⟨Nat.le_of_ble_eq_true rfl, Nat.le_of_ble_eq_true rfl⟩) hK hN (hZ.kept hS) hP (hP.sub [0, 5, 6] rfl) (va_recv (q := (RX8, TX8, 38)) hK hP (ci := 8) (q0 := 0) rfl rfl) rfl hl.1 rfl (Nat.le_of_ble_eq_true rfl) dX8_behind_128 ⟨Nat.le_of_ble_eq_true rfl, Nat.le_of_ble_eq_true rfl⟩ (fun r_125 hr_125 => ?_)
                      obtain ⟨g_126, g_127, hsr_125_0⟩ := hr_125
                      refine lv_iload_n hx hb dX8_behind_131 rfl (lv_at hl 6 rfl) ?_
                      refine lv_icmp_ne (tgt := 153) hx hb dX8_behind_132 (by decide) (fun c_128 => ?_) (fun c_128 => ?_)
                      · have fc_128 : r_125.toInt ≠ to.toInt := zf_ne c_128 rfl rfl
                        obtain ⟨x_129, ex_129⟩ : ∃ y : Int32, y = i_80 + 1 := ⟨_, rfl⟩
                        have qx_129 : x_129.toInt = i_80.toInt + 1 := by rw [ex_129]; exact zf_add rfl (by decide) (by omega) (by omega)
                        refine lv_iinc (v := x_129) (lv' := [(6, .int x_129), (7, .int r_118), (5, .int v_115), (0, .ref m0), (1, .int s_), (2, .int p_), (3, .int to)]) hx hb dX8_behind_153 hl (k := 1) rfl ex_129.symm (by decide) rfl (fun ls hl => ?_)
                        refine lv_goto (tgt := 80) hx hb dX8_behind_156 (by decide) ?_
                        exact ih x_129 v_115 _ _ _ (hP.sub [0, 1, 2, 3, 4, 5, 6] rfl) (hD.sub [0, 1, 2, 3, 4, 5, 6] (by decide) rfl) hS (lv_sub hl [0, 2, 3, 4, 5, 6] rfl) hbv_115 (show (v_115 : Int32).toInt = zBh (zRw gce (160 * s_.toInt)) (gki p_.toNatClampNeg).toInt (gpa p_.toNatClampNeg).toInt nhu.toInt to.toInt (x_129.toInt - 1).toNat from by (have x1 := hsr_121_0.1 (by decide); have x2 := hsr_125_0.2 (by decide); rw [show (x_129.toInt - 1).toNat = (i_80.toInt - 1).toNat + 1 from by omega, zBh_s, show (((i_80.toInt - 1).toNat : Nat) : Int) + 1 = i_80.toInt from by omega, ← hvi_80_0, ← hsr_118_0, ← x1, ← x2]; first | (rw [if_neg (by omega), if_neg (by omega)]; omega) | (rw [if_pos (by omega), if_neg (by omega)]; omega) | (rw [if_neg (by omega), if_pos (by omega)]; omega) | (rw [if_pos (by omega), if_pos (by omega)]; omega))) (show (v_115 : Int32).toInt ≤ 2376 * x_129.toInt ∧ x_129.toInt ≤ 25 from by exact ⟨by omega, by omega⟩) (dw_lo hloi_80 qx_129) (dw_hn hni_80 qx_129)
                      · have fc_128 : r_125.toInt = to.toInt := zf_eq c_128 rfl rfl
                        refine lv_iload hx hb dX8_behind_135 (lv_at hl 2 rfl) ?_
                        refine lv_bipush (v := 12) hx hb dX8_behind_137 (by decide) ?_
                        refine lv_iload hx hb dX8_behind_139 (lv_at hl 0 rfl) ?_
                        refine lv_isub hx hb dX8_behind_141 ?_
                        refine lv_topi (fun x_130 ex_130 => ?_)
                        have qx_130 : x_130.toInt = 12 - r_118.toInt := by rw [ex_130]; exact zf_sub (by decide) rfl (by omega) (by omega)
                        refine lv_aload_n hx hb dX8_behind_142 rfl (lv_at hl 3 rfl) ?_
                        refine lv_iload_n hx hb dX8_behind_143 rfl (lv_at hl 4 rfl) ?_
                        refine lv_iload hx hb dX8_behind_144 (lv_at hl 1 rfl) ?_
                        refine zc_V (As := [.int s_, .int i_80]) (rest := [.int x_130, .int v_115]) ⟨hx, hb, hml, hown, hts⟩ (c_F_M_intAt l D cI cJ cZ cP cS po m0 mrf mki mpa mta mla msl mco mhe mso msi msh mce mca mwo mnu mte mwa mke mma mth mtr (npu) (nte) (nat_) (nde) (nto) (nse) (nhu) (nga) (nsd) (nfa) (nba) (npl) (nen) (nnu) (nwr) (nra) (nik) gce (s_) (i_80) hy0 hy1 hy2 hy3 hy4 hy5 hy6 hy7 hy8 hy9 hy10 hy11 hy12 hy13 (by omega) (by omega) (by omega) (by omega)) (cwV 2 hts gX8_behind_X8_intAt rfl rfl rfl ⟨rfl, dh_X8_intAt⟩ ⟨Nat.le_of_ble_eq_true rfl, Nat.le_of_ble_eq_true rfl⟩) hK hN (hZ.kept hS) hP (hP.sub [0, 4] rfl) (va_recv (q := (RX8, TX8, 38)) hK hP (ci := 8) (q0 := 0) rfl rfl) rfl hl.1 rfl (Nat.le_of_ble_eq_true rfl) dX8_behind_146 ⟨Nat.le_of_ble_eq_true rfl, Nat.le_of_ble_eq_true rfl⟩ (fun r_131 hr_131 => ?_)
                        have hsr_131_0 := hr_131
                        have wr_131 := zTl_m hbel hsr_131_0 (by have k0 : (0 : Int32).toInt = 0 := (by decide); omega) (by have k0 : (0 : Int32).toInt = 0 := (by decide); omega)
                        refine lv_imul hx hb dX8_behind_149 ?_
                        refine lv_topi (fun x_132 ex_132 => ?_)
                        obtain ⟨mx_132, nx_132, ox_132⟩ := zf_mulr (a := r_131) (b := x_130) (m := r_131.toInt * x_130.toInt) rfl rfl ⟨by omega, by omega⟩ ⟨by omega, by omega⟩ rfl
                        rw [show r_131 * x_130 = x_132 from by (rw [ex_132]; exact Int32.mul_comm _ _)] at mx_132
                        refine lv_iadd hx hb dX8_behind_150 ?_
                        refine lv_topi (fun x_133 ex_133 => ?_)
                        have qx_133 : x_133.toInt = v_115.toInt + x_132.toInt := by rw [ex_133]; exact zf_add rfl rfl (by omega) (by omega)
                        refine lv_istore (lv' := [(5, .int x_133), (7, .int r_118), (6, .int i_80), (0, .ref m0), (1, .int s_), (2, .int p_), (3, .int to)]) hx hb dX8_behind_151 hl (by decide) rfl (fun ls hl => ?_)
                        obtain ⟨x_134, ex_134⟩ : ∃ y : Int32, y = i_80 + 1 := ⟨_, rfl⟩
                        have qx_134 : x_134.toInt = i_80.toInt + 1 := by rw [ex_134]; exact zf_add rfl (by decide) (by omega) (by omega)
                        refine lv_iinc (v := x_134) (lv' := [(6, .int x_134), (5, .int x_133), (7, .int r_118), (0, .ref m0), (1, .int s_), (2, .int p_), (3, .int to)]) hx hb dX8_behind_153 hl (k := 2) rfl ex_134.symm (by decide) rfl (fun ls hl => ?_)
                        refine lv_goto (tgt := 80) hx hb dX8_behind_156 (by decide) ?_
                        exact ih x_134 x_133 _ _ _ (hP.sub [0, 1, 2, 3, 4, 5, 6] rfl) (hD.sub [0, 1, 2, 3, 4, 5, 6] (by decide) rfl) hS (lv_sub hl [0, 1, 3, 4, 5, 6] rfl) ⟨by omega, by omega⟩ (show (x_133 : Int32).toInt = zBh (zRw gce (160 * s_.toInt)) (gki p_.toNatClampNeg).toInt (gpa p_.toNatClampNeg).toInt nhu.toInt to.toInt (x_134.toInt - 1).toNat from by (have x1 := hsr_121_0.1 (by decide); have x2 := hsr_125_0.2 (by decide); rw [show (x_134.toInt - 1).toNat = (i_80.toInt - 1).toNat + 1 from by omega, zBh_s, show (((i_80.toInt - 1).toNat : Nat) : Int) + 1 = i_80.toInt from by omega, ← hvi_80_0, ← hsr_118_0, ← x1, ← x2]; have Mx_132 := mx_132; rw [wr_131.1, qx_130] at Mx_132; first | (rw [if_neg (by omega), if_pos (by omega)]; omega) | (rw [if_pos (by omega), if_pos (by omega)]; omega) | (rw [if_neg (by omega), if_neg (by omega)]; omega) | (rw [if_pos (by omega), if_neg (by omega)]; omega))) (show (x_133 : Int32).toInt ≤ 2376 * x_134.toInt ∧ x_134.toInt ≤ 25 from by exact ⟨by omega, by omega⟩) (dw_lo hloi_80 qx_134) (dw_hn hni_80 qx_134)
                    · have fc_124 : r_121.toInt = to.toInt := zf_eq c_124 rfl rfl
                      refine lv_iload hx hb dX8_behind_108 (lv_at hl 2 rfl) ?_
                      refine lv_iload hx hb dX8_behind_110 (lv_at hl 0 rfl) ?_
                      refine lv_aload_n hx hb dX8_behind_112 rfl (lv_at hl 3 rfl) ?_
                      refine lv_iload_n hx hb dX8_behind_113 rfl (lv_at hl 4 rfl) ?_
                      refine lv_iload hx hb dX8_behind_114 (lv_at hl 1 rfl) ?_
                      refine zc_V (As := [.int s_, .int i_80]) (rest := [.int r_118, .int v_115]) ⟨hx, hb, hml, hown, hts⟩ (c_F_M_intAt l D cI cJ cZ cP cS po m0 mrf mki mpa mta mla msl mco mhe mso msi msh mce mca mwo mnu mte mwa mke mma mth mtr (npu) (nte) (nat_) (nde) (nto) (nse) (nhu) (nga) (nsd) (nfa) (nba) (npl) (nen) (nnu) (nwr) (nra) (nik) gce (s_) (i_80) hy0 hy1 hy2 hy3 hy4 hy5 hy6 hy7 hy8 hy9 hy10 hy11 hy12 hy13 (by omega) (by omega) (by omega) (by omega)) (cwV 2 hts gX8_behind_X8_intAt rfl rfl rfl ⟨rfl, dh_X8_intAt⟩ ⟨Nat.le_of_ble_eq_true rfl, Nat.le_of_ble_eq_true rfl⟩) hK hN (hZ.kept hS) hP (hP.sub [0, 4] rfl) (va_recv (q := (RX8, TX8, 38)) hK hP (ci := 8) (q0 := 0) rfl rfl) rfl hl.1 rfl (Nat.le_of_ble_eq_true rfl) dX8_behind_116 ⟨Nat.le_of_ble_eq_true rfl, Nat.le_of_ble_eq_true rfl⟩ (fun r_135 hr_135 => ?_)
                      have hsr_135_0 := hr_135
                      have wr_135 := zTl_m hbel hsr_135_0 (by have k0 : (0 : Int32).toInt = 0 := (by decide); omega) (by have k0 : (0 : Int32).toInt = 0 := (by decide); omega)
                      refine lv_imul hx hb dX8_behind_119 ?_
                      refine lv_topi (fun x_136 ex_136 => ?_)
                      obtain ⟨mx_136, nx_136, ox_136⟩ := zf_mulr (a := r_135) (b := r_118) (m := r_135.toInt * r_118.toInt) rfl rfl ⟨by omega, by omega⟩ ⟨by omega, by omega⟩ rfl
                      rw [show r_135 * r_118 = x_136 from by (rw [ex_136]; exact Int32.mul_comm _ _)] at mx_136
                      refine lv_iadd hx hb dX8_behind_120 ?_
                      refine lv_topi (fun x_137 ex_137 => ?_)
                      have qx_137 : x_137.toInt = v_115.toInt + x_136.toInt := by rw [ex_137]; exact zf_add rfl rfl (by omega) (by omega)
                      refine lv_istore (lv' := [(5, .int x_137), (7, .int r_118), (6, .int i_80), (0, .ref m0), (1, .int s_), (2, .int p_), (3, .int to)]) hx hb dX8_behind_121 hl (by decide) rfl (fun ls hl => ?_)
                      refine lv_aload_n hx hb dX8_behind_123 rfl (lv_at hl 3 rfl) ?_
                      refine lv_iload_n hx hb dX8_behind_124 rfl (lv_at hl 5 rfl) ?_
                      refine lv_iload hx hb dX8_behind_125 (lv_at hl 2 rfl) ?_
                      refine lv_iconst (v := 0) hx hb dX8_behind_127 (by decide) ?_
                      have kc0 : (0 : Int32).toInt = 0 := by decide
                      refine zc_V (As := [.int p_, .int i_80, .int 0]) (rest := []) ⟨hx, hb, hml, hown, hts⟩ (c_F_M_deep l D cI cJ cZ cP cS po m0 mrf mki mpa mta mla msl mco mhe mso msi msh mce mca mwo mnu mte mwa mke mma mth mtr (npu) (nte) (nat_) (nde) (nto) (nse) (nhu) (nga) (nsd) (nfa) (nba) (npl) (nen) (nnu) (nwr) (nra) (nik) gki gpa (p_) (i_80) (0) hy0 hy1 hy2 hy3 hy4 hy5 hy6 hy7 hy8 hy9 hy10 hy11 hy12 hy13 (by omega) (by omega) (by omega) (by omega) (by omega) (by omega) hp_gki hp_gpa) (cwV 3 hts gX8_behind_X8_deep rfl rfl rfl ⟨rfl, dh_X8_deep⟩ ⟨Nat.le_of_ble_eq_true rfl, Nat.le_of_ble_eq_true rfl⟩) hK hN (hZ.kept hS) hP (hP.sub [0, 5, 6] rfl) (va_recv (q := (RX8, TX8, 38)) hK hP (ci := 8) (q0 := 0) rfl rfl) rfl hl.1 rfl (Nat.le_of_ble_eq_true rfl) dX8_behind_128 ⟨Nat.le_of_ble_eq_true rfl, Nat.le_of_ble_eq_true rfl⟩ (fun r_138 hr_138 => ?_)
                      obtain ⟨g_139, g_140, hsr_138_0⟩ := hr_138
                      refine lv_iload_n hx hb dX8_behind_131 rfl (lv_at hl 6 rfl) ?_
                      refine lv_icmp_ne (tgt := 153) hx hb dX8_behind_132 (by decide) (fun c_141 => ?_) (fun c_141 => ?_)
                      · have fc_141 : r_138.toInt ≠ to.toInt := zf_ne c_141 rfl rfl
                        obtain ⟨x_142, ex_142⟩ : ∃ y : Int32, y = i_80 + 1 := ⟨_, rfl⟩
                        have qx_142 : x_142.toInt = i_80.toInt + 1 := by rw [ex_142]; exact zf_add rfl (by decide) (by omega) (by omega)
                        refine lv_iinc (v := x_142) (lv' := [(6, .int x_142), (5, .int x_137), (7, .int r_118), (0, .ref m0), (1, .int s_), (2, .int p_), (3, .int to)]) hx hb dX8_behind_153 hl (k := 2) rfl ex_142.symm (by decide) rfl (fun ls hl => ?_)
                        refine lv_goto (tgt := 80) hx hb dX8_behind_156 (by decide) ?_
                        exact ih x_142 x_137 _ _ _ (hP.sub [0, 1, 2, 3, 4, 5, 6] rfl) (hD.sub [0, 1, 2, 3, 4, 5, 6] (by decide) rfl) hS (lv_sub hl [0, 1, 3, 4, 5, 6] rfl) ⟨by omega, by omega⟩ (show (x_137 : Int32).toInt = zBh (zRw gce (160 * s_.toInt)) (gki p_.toNatClampNeg).toInt (gpa p_.toNatClampNeg).toInt nhu.toInt to.toInt (x_142.toInt - 1).toNat from by (have x1 := hsr_121_0.1 (by decide); have x2 := hsr_138_0.2 (by decide); rw [show (x_142.toInt - 1).toNat = (i_80.toInt - 1).toNat + 1 from by omega, zBh_s, show (((i_80.toInt - 1).toNat : Nat) : Int) + 1 = i_80.toInt from by omega, ← hvi_80_0, ← hsr_118_0, ← x1, ← x2]; have Mx_136 := mx_136; rw [wr_135.1] at Mx_136; first | (rw [if_pos (by omega), if_neg (by omega)]; omega) | (rw [if_pos (by omega), if_pos (by omega)]; omega) | (rw [if_neg (by omega), if_neg (by omega)]; omega) | (rw [if_neg (by omega), if_pos (by omega)]; omega))) (show (x_137 : Int32).toInt ≤ 2376 * x_142.toInt ∧ x_142.toInt ≤ 25 from by exact ⟨by omega, by omega⟩) (dw_lo hloi_80 qx_142) (dw_hn hni_80 qx_142)
                      · have fc_141 : r_138.toInt = to.toInt := zf_eq c_141 rfl rfl
                        refine lv_iload hx hb dX8_behind_135 (lv_at hl 0 rfl) ?_
                        refine lv_bipush (v := 12) hx hb dX8_behind_137 (by decide) ?_
                        refine lv_iload hx hb dX8_behind_139 (lv_at hl 1 rfl) ?_
                        refine lv_isub hx hb dX8_behind_141 ?_
                        refine lv_topi (fun x_143 ex_143 => ?_)
                        have qx_143 : x_143.toInt = 12 - r_118.toInt := by rw [ex_143]; exact zf_sub (by decide) rfl (by omega) (by omega)
                        refine lv_aload_n hx hb dX8_behind_142 rfl (lv_at hl 3 rfl) ?_
                        refine lv_iload_n hx hb dX8_behind_143 rfl (lv_at hl 4 rfl) ?_
                        refine lv_iload hx hb dX8_behind_144 (lv_at hl 2 rfl) ?_
                        refine zc_V (As := [.int s_, .int i_80]) (rest := [.int x_143, .int x_137]) ⟨hx, hb, hml, hown, hts⟩ (c_F_M_intAt l D cI cJ cZ cP cS po m0 mrf mki mpa mta mla msl mco mhe mso msi msh mce mca mwo mnu mte mwa mke mma mth mtr (npu) (nte) (nat_) (nde) (nto) (nse) (nhu) (nga) (nsd) (nfa) (nba) (npl) (nen) (nnu) (nwr) (nra) (nik) gce (s_) (i_80) hy0 hy1 hy2 hy3 hy4 hy5 hy6 hy7 hy8 hy9 hy10 hy11 hy12 hy13 (by omega) (by omega) (by omega) (by omega)) (cwV 2 hts gX8_behind_X8_intAt rfl rfl rfl ⟨rfl, dh_X8_intAt⟩ ⟨Nat.le_of_ble_eq_true rfl, Nat.le_of_ble_eq_true rfl⟩) hK hN (hZ.kept hS) hP (hP.sub [0, 4] rfl) (va_recv (q := (RX8, TX8, 38)) hK hP (ci := 8) (q0 := 0) rfl rfl) rfl hl.1 rfl (Nat.le_of_ble_eq_true rfl) dX8_behind_146 ⟨Nat.le_of_ble_eq_true rfl, Nat.le_of_ble_eq_true rfl⟩ (fun r_144 hr_144 => ?_)
                        have hsr_144_0 := hr_144
                        have wr_144 := zTl_m hbel hsr_144_0 (by have k0 : (0 : Int32).toInt = 0 := (by decide); omega) (by have k0 : (0 : Int32).toInt = 0 := (by decide); omega)
                        refine lv_imul hx hb dX8_behind_149 ?_
                        refine lv_topi (fun x_145 ex_145 => ?_)
                        obtain ⟨mx_145, nx_145, ox_145⟩ := zf_mulr (a := r_144) (b := x_143) (m := r_144.toInt * x_143.toInt) rfl rfl ⟨by omega, by omega⟩ ⟨by omega, by omega⟩ rfl
                        rw [show r_144 * x_143 = x_145 from by (rw [ex_145]; exact Int32.mul_comm _ _)] at mx_145
                        refine lv_iadd hx hb dX8_behind_150 ?_
                        refine lv_topi (fun x_146 ex_146 => ?_)
                        have qx_146 : x_146.toInt = x_137.toInt + x_145.toInt := by rw [ex_146]; exact zf_add rfl rfl (by omega) (by omega)
                        refine lv_istore (lv' := [(5, .int x_146), (7, .int r_118), (6, .int i_80), (0, .ref m0), (1, .int s_), (2, .int p_), (3, .int to)]) hx hb dX8_behind_151 hl (by decide) rfl (fun ls hl => ?_)
                        obtain ⟨x_147, ex_147⟩ : ∃ y : Int32, y = i_80 + 1 := ⟨_, rfl⟩
                        have qx_147 : x_147.toInt = i_80.toInt + 1 := by rw [ex_147]; exact zf_add rfl (by decide) (by omega) (by omega)
                        refine lv_iinc (v := x_147) (lv' := [(6, .int x_147), (5, .int x_146), (7, .int r_118), (0, .ref m0), (1, .int s_), (2, .int p_), (3, .int to)]) hx hb dX8_behind_153 hl (k := 2) rfl ex_147.symm (by decide) rfl (fun ls hl => ?_)
                        refine lv_goto (tgt := 80) hx hb dX8_behind_156 (by decide) ?_
                        exact ih x_147 x_146 _ _ _ (hP.sub [0, 1, 2, 3, 4, 5, 6] rfl) (hD.sub [0, 1, 2, 3, 4, 5, 6] (by decide) rfl) hS (lv_sub hl [0, 1, 3, 4, 5, 6] rfl) ⟨by omega, by omega⟩ (show (x_146 : Int32).toInt = zBh (zRw gce (160 * s_.toInt)) (gki p_.toNatClampNeg).toInt (gpa p_.toNatClampNeg).toInt nhu.toInt to.toInt (x_147.toInt - 1).toNat from by (have x1 := hsr_121_0.1 (by decide); have x2 := hsr_138_0.2 (by decide); rw [show (x_147.toInt - 1).toNat = (i_80.toInt - 1).toNat + 1 from by omega, zBh_s, show (((i_80.toInt - 1).toNat : Nat) : Int) + 1 = i_80.toInt from by omega, ← hvi_80_0, ← hsr_118_0, ← x1, ← x2]; have Mx_136 := mx_136; rw [wr_135.1] at Mx_136; have Mx_145 := mx_145; rw [wr_144.1, qx_143] at Mx_145; first | (rw [if_pos (by omega), if_pos (by omega)]; omega) | (rw [if_pos (by omega), if_neg (by omega)]; omega) | (rw [if_neg (by omega), if_pos (by omega)]; omega) | (rw [if_neg (by omega), if_neg (by omega)]; omega))) (show (x_146 : Int32).toInt ≤ 2376 * x_147.toInt ∧ x_147.toInt ≤ 25 from by exact ⟨by omega, by omega⟩) (dw_lo hloi_80 qx_147) (dw_hn hni_80 qx_147)
              · have fc_114 : to.toInt = 0 := zf_eq c_114 rfl (by decide)
                refine lv_bipush (v := 12) hx hb dX8_behind_62 (by decide) ?_
                refine lv_aload_n hx hb dX8_behind_64 rfl (lv_at hl 1 rfl) ?_
                refine lv_iload_n hx hb dX8_behind_65 rfl (lv_at hl 2 rfl) ?_
                refine lv_iconst (v := 0) hx hb dX8_behind_66 (by decide) ?_
                have kc0 : (0 : Int32).toInt = 0 := by decide
                refine zc_V (As := [.int s_, .int 0]) (rest := [.int 12]) ⟨hx, hb, hml, hown, hts⟩ (c_F_M_intAt l D cI cJ cZ cP cS po m0 mrf mki mpa mta mla msl mco mhe mso msi msh mce mca mwo mnu mte mwa mke mma mth mtr (npu) (nte) (nat_) (nde) (nto) (nse) (nhu) (nga) (nsd) (nfa) (nba) (npl) (nen) (nnu) (nwr) (nra) (nik) gce (s_) (0) hy0 hy1 hy2 hy3 hy4 hy5 hy6 hy7 hy8 hy9 hy10 hy11 hy12 hy13 (by omega) (by omega) (by omega) (by omega)) (cwV 2 hts gX8_behind_X8_intAt rfl rfl rfl ⟨rfl, dh_X8_intAt⟩ ⟨Nat.le_of_ble_eq_true rfl, Nat.le_of_ble_eq_true rfl⟩) hK hN (hZ.kept hS) hP (hP.sub [0, 4] rfl) (va_recv (q := (RX8, TX8, 38)) hK hP (ci := 8) (q0 := 0) rfl rfl) rfl hl.1 rfl (Nat.le_of_ble_eq_true rfl) dX8_behind_67 ⟨Nat.le_of_ble_eq_true rfl, Nat.le_of_ble_eq_true rfl⟩ (fun r_148 hr_148 => ?_)
                have hsr_148_0 := hr_148
                have wr_148 := zTl_m hbel hsr_148_0 (by have k0 : (0 : Int32).toInt = 0 := (by decide); omega) (by have k0 : (0 : Int32).toInt = 0 := (by decide); omega)
                refine lv_imul hx hb dX8_behind_70 ?_
                refine lv_topi (fun x_149 ex_149 => ?_)
                have qx_149 : x_149.toInt = 12 * r_148.toInt := by rw [ex_149]; exact zf_mul (by decide) rfl (by omega) (by omega)
                refine lv_goto (tgt := 75) hx hb dX8_behind_71 (by decide) ?_
                refine lv_istore (lv' := [(5, .int x_149), (4, .int r_98), (0, .ref m0), (1, .int s_), (2, .int p_), (3, .int to)]) hx hb dX8_behind_75 hl (by decide) rfl (fun ls hl => ?_)
                refine lv_iconst (v := 1) hx hb dX8_behind_77 (by decide) ?_
                refine lv_istore (lv' := [(6, .int 1), (5, .int x_149), (4, .int r_98), (0, .ref m0), (1, .int s_), (2, .int p_), (3, .int to)]) hx hb dX8_behind_78 hl (by decide) rfl (fun ls hl => ?_)
                obtain ⟨i_80, hi_80⟩ : ∃ i : Int32, i = 1 := ⟨_, rfl⟩
                replace hl : lv_has ls 8 [(6, .int i_80), (5, .int x_149), (0, .ref m0), (1, .int s_), (2, .int p_), (3, .int to)] := by rw [hi_80]; exact lv_sub hl [0, 1, 3, 4, 5, 6] rfl
                have h1i_80 : i_80.toInt = 1 := by rw [hi_80]; decide
                obtain ⟨nfu, hni_80⟩ : ∃ nq9 : Nat, 25 ≤ i_80.toInt + (nq9 : Int) := ⟨((25 : Int) - 1).toNat, by omega⟩
                have hloi_80 : 1 ≤ i_80.toInt := by omega
                obtain ⟨v_150, hv_150⟩ : ∃ g : Int32, g = x_149 := ⟨_, rfl⟩
                replace hl : lv_has ls 8 [(6, .int i_80), (5, .int v_150), (0, .ref m0), (1, .int s_), (2, .int p_), (3, .int to)] := by rw [hv_150]; exact hl
                have hbv_150 : 0 ≤ v_150.toInt ∧ v_150.toInt ≤ 59400 := by rw [hv_150]; exact ⟨by omega, by omega⟩
                have hvi_80_0 : (v_150 : Int32).toInt = zBh (zRw gce (160 * s_.toInt)) (gki p_.toNatClampNeg).toInt (gpa p_.toNatClampNeg).toInt nhu.toInt to.toInt (i_80.toInt - 1).toNat := by
                  (try rw [hi_80]); (try rw [hv_150]); (rw [show ((1 : Int32).toInt - 1).toNat = 0 from by decide]; show _ = (if to.toInt = 0 then 12 * zTl (zRw gce (160 * s_.toInt)) 0 else 0); have z := wr_148.1; rw [show ((0 : Int32).toInt) = 0 from by decide] at z; rw [if_pos (by omega), ← z]; omega)
                have hvi_80_1 : (v_150 : Int32).toInt ≤ 2376 * i_80.toInt ∧ i_80.toInt ≤ 25 := by
                  (try rw [hi_80]); (try rw [hv_150]); (have k1 : (1 : Int32).toInt = 1 := (by decide); have k0 : (0 : Int32).toInt = 0 := (by decide); omega)
                clear h1i_80 hi_80 hv_150
                skip
                revert hni_80
                revert hloi_80
                revert hvi_80_1
                revert hvi_80_0
                revert hbv_150
                revert hl
                revert hS
                revert hD
                revert hP
                revert ls
                revert locs
                revert H
                revert v_150
                revert i_80
                induction nfu with
                | zero =>
                  intro i_80 v_150 H locs ls hP hD hS hl hbv_150 hvi_80_0 hvi_80_1 hloi_80 hni_80
                  have hzi_80 : 25 ≤ i_80.toInt := by omega
                  refine lv_iload hx hb dX8_behind_80 (lv_at hl 0 rfl) ?_
                  refine lv_bipush (v := 24) hx hb dX8_behind_82 (by decide) ?_
                  refine lv_icmp_gt (tgt := 159) hx hb dX8_behind_84 (by decide) (fun c_151 => ?_) (fun c_151 => ?_)
                  · have fc_151 : 24 < i_80.toInt := zf_lt c_151 (by decide) rfl
                    refine lv_iload hx hb dX8_behind_159 (lv_at hl 1 rfl) ?_
                    exact W.iret (v := v_150) hx hb hr (fun t ht hW => ⟨⟨v_150, grf, rfl, ⟨(show ((s_.toInt < 0 ∨ 7 < s_.toInt ∨ p_.toInt < 0 ∨ npu.toInt ≤ p_.toInt) ∧ (v_150 : Int32).toInt = -1) ∨ ((0 ≤ s_.toInt ∧ s_.toInt ≤ 7) ∧ (0 ≤ p_.toInt ∧ p_.toInt < npu.toInt) ∧ ∃ q : Int, zBelR (zHc (ghe s_.toNatClampNeg).toInt) (gsi s_.toNatClampNeg).toInt (zRw gce (160 * s_.toInt)) q ∧ ((q ≠ 0 ∧ (v_150 : Int32).toInt = -q) ∨ (q = 0 ∧ (((to.toInt < 0 ∨ 24 < to.toInt) ∧ (v_150 : Int32).toInt = -6) ∨ ((0 ≤ to.toInt ∧ to.toInt ≤ 24) ∧ (v_150 : Int32).toInt = zBh (zRw gce (160 * s_.toInt)) (gki p_.toNatClampNeg).toInt (gpa p_.toNatClampNeg).toInt nhu.toInt to.toInt 24))))) from by (have z := hsr_98_0; rcases z with z | ⟨z1, q, z2, z3⟩; (exfalso; omega); (have h9 : (i_80.toInt - 1).toNat = 24 := (by omega); have y := hvi_80_0; rw [h9] at y; exact Or.inr ⟨z1, by omega, q, z2, Or.inr ⟨by omega, Or.inr ⟨by omega, y⟩⟩⟩))), trivial⟩, zRet ht hP hD [0, 1, 2, 3, 4, 5, 6] (by decide) rfl⟩, hS.F ht⟩) hS.2.2 dX8_behind_161
                  · exfalso; have fc_151 : i_80.toInt ≤ 24 := zf_nlt c_151 (by decide) rfl; omega
                | succ nfu ih =>
                  intro i_80 v_150 H locs ls hP hD hS hl hbv_150 hvi_80_0 hvi_80_1 hloi_80 hni_80
                  refine lv_iload hx hb dX8_behind_80 (lv_at hl 0 rfl) ?_
                  refine lv_bipush (v := 24) hx hb dX8_behind_82 (by decide) ?_
                  refine lv_icmp_gt (tgt := 159) hx hb dX8_behind_84 (by decide) (fun c_152 => ?_) (fun c_152 => ?_)
                  · have fc_152 : 24 < i_80.toInt := zf_lt c_152 (by decide) rfl
                    refine lv_iload hx hb dX8_behind_159 (lv_at hl 1 rfl) ?_
                    exact W.iret (v := v_150) hx hb hr (fun t ht hW => ⟨⟨v_150, grf, rfl, ⟨(show ((s_.toInt < 0 ∨ 7 < s_.toInt ∨ p_.toInt < 0 ∨ npu.toInt ≤ p_.toInt) ∧ (v_150 : Int32).toInt = -1) ∨ ((0 ≤ s_.toInt ∧ s_.toInt ≤ 7) ∧ (0 ≤ p_.toInt ∧ p_.toInt < npu.toInt) ∧ ∃ q : Int, zBelR (zHc (ghe s_.toNatClampNeg).toInt) (gsi s_.toNatClampNeg).toInt (zRw gce (160 * s_.toInt)) q ∧ ((q ≠ 0 ∧ (v_150 : Int32).toInt = -q) ∨ (q = 0 ∧ (((to.toInt < 0 ∨ 24 < to.toInt) ∧ (v_150 : Int32).toInt = -6) ∨ ((0 ≤ to.toInt ∧ to.toInt ≤ 24) ∧ (v_150 : Int32).toInt = zBh (zRw gce (160 * s_.toInt)) (gki p_.toNatClampNeg).toInt (gpa p_.toNatClampNeg).toInt nhu.toInt to.toInt 24))))) from by (have z := hsr_98_0; rcases z with z | ⟨z1, q, z2, z3⟩; (exfalso; omega); (have h9 : (i_80.toInt - 1).toNat = 24 := (by omega); have y := hvi_80_0; rw [h9] at y; exact Or.inr ⟨z1, by omega, q, z2, Or.inr ⟨by omega, Or.inr ⟨by omega, y⟩⟩⟩))), trivial⟩, zRet ht hP hD [0, 1, 2, 3, 4, 5, 6] (by decide) rfl⟩, hS.F ht⟩) hS.2.2 dX8_behind_161
                  · have fc_152 : i_80.toInt ≤ 24 := zf_nlt c_152 (by decide) rfl
                    refine lv_aload_n hx hb dX8_behind_87 rfl (lv_at hl 2 rfl) ?_
                    refine lv_iload_n hx hb dX8_behind_88 rfl (lv_at hl 4 rfl) ?_
                    refine lv_iload hx hb dX8_behind_89 (lv_at hl 0 rfl) ?_
                    refine zc_V (As := [.int p_, .int i_80]) (rest := []) ⟨hx, hb, hml, hown, hts⟩ (c_F_M_ways l D cI cJ cZ cP cS po m0 mrf mki mpa mta mla msl mco mhe mso msi msh mce mca mwo mnu mte mwa mke mma mth mtr (npu) (nte) (nat_) (nde) (nto) (nse) (nhu) (nga) (nsd) (nfa) (nba) (npl) (nen) (nnu) (nwr) (nra) (nik) gki gpa (p_) (i_80) hy0 hy1 hy2 hy3 hy4 hy5 hy6 hy7 hy8 hy9 hy10 hy11 hy12 hy13 (by omega) (by omega) (by omega) (by omega) hp_gki hp_gpa) (cwV 2 hts gX8_behind_X8_ways rfl rfl rfl ⟨rfl, dh_X8_ways⟩ ⟨Nat.le_of_ble_eq_true rfl, Nat.le_of_ble_eq_true rfl⟩) hK hN (hZ.kept hS) hP (hP.sub [0, 5, 6] rfl) (va_recv (q := (RX8, TX8, 38)) hK hP (ci := 8) (q0 := 0) rfl rfl) rfl hl.1 rfl (Nat.le_of_ble_eq_true rfl) dX8_behind_91 ⟨Nat.le_of_ble_eq_true rfl, Nat.le_of_ble_eq_true rfl⟩ (fun r_153 hr_153 => ?_)
                    obtain ⟨g_154, g_155, hsr_153_0⟩ := hr_153
                    refine lv_istore (lv' := [(7, .int r_153), (6, .int i_80), (5, .int v_150), (0, .ref m0), (1, .int s_), (2, .int p_), (3, .int to)]) hx hb dX8_behind_94 hl (by decide) rfl (fun ls hl => ?_)
                    refine lv_aload_n hx hb dX8_behind_96 rfl (lv_at hl 3 rfl) ?_
                    refine lv_iload_n hx hb dX8_behind_97 rfl (lv_at hl 5 rfl) ?_
                    refine lv_iload hx hb dX8_behind_98 (lv_at hl 1 rfl) ?_
                    refine lv_iconst (v := 1) hx hb dX8_behind_100 (by decide) ?_
                    have kc1 : (1 : Int32).toInt = 1 := by decide
                    refine zc_V (As := [.int p_, .int i_80, .int 1]) (rest := []) ⟨hx, hb, hml, hown, hts⟩ (c_F_M_deep l D cI cJ cZ cP cS po m0 mrf mki mpa mta mla msl mco mhe mso msi msh mce mca mwo mnu mte mwa mke mma mth mtr (npu) (nte) (nat_) (nde) (nto) (nse) (nhu) (nga) (nsd) (nfa) (nba) (npl) (nen) (nnu) (nwr) (nra) (nik) gki gpa (p_) (i_80) (1) hy0 hy1 hy2 hy3 hy4 hy5 hy6 hy7 hy8 hy9 hy10 hy11 hy12 hy13 (by omega) (by omega) (by omega) (by omega) (by omega) (by omega) hp_gki hp_gpa) (cwV 3 hts gX8_behind_X8_deep rfl rfl rfl ⟨rfl, dh_X8_deep⟩ ⟨Nat.le_of_ble_eq_true rfl, Nat.le_of_ble_eq_true rfl⟩) hK hN (hZ.kept hS) hP (hP.sub [0, 5, 6] rfl) (va_recv (q := (RX8, TX8, 38)) hK hP (ci := 8) (q0 := 0) rfl rfl) rfl hl.1 rfl (Nat.le_of_ble_eq_true rfl) dX8_behind_101 ⟨Nat.le_of_ble_eq_true rfl, Nat.le_of_ble_eq_true rfl⟩ (fun r_156 hr_156 => ?_)
                    obtain ⟨g_157, g_158, hsr_156_0⟩ := hr_156
                    refine lv_iload_n hx hb dX8_behind_104 rfl (lv_at hl 6 rfl) ?_
                    refine lv_icmp_ne (tgt := 123) hx hb dX8_behind_105 (by decide) (fun c_159 => ?_) (fun c_159 => ?_)
                    · have fc_159 : r_156.toInt ≠ to.toInt := zf_ne c_159 rfl rfl
                      refine lv_aload_n hx hb dX8_behind_123 rfl (lv_at hl 3 rfl) ?_
                      refine lv_iload_n hx hb dX8_behind_124 rfl (lv_at hl 5 rfl) ?_
                      refine lv_iload hx hb dX8_behind_125 (lv_at hl 1 rfl) ?_
                      refine lv_iconst (v := 0) hx hb dX8_behind_127 (by decide) ?_
                      refine zc_V (As := [.int p_, .int i_80, .int 0]) (rest := []) ⟨hx, hb, hml, hown, hts⟩ (c_F_M_deep l D cI cJ cZ cP cS po m0 mrf mki mpa mta mla msl mco mhe mso msi msh mce mca mwo mnu mte mwa mke mma mth mtr (npu) (nte) (nat_) (nde) (nto) (nse) (nhu) (nga) (nsd) (nfa) (nba) (npl) (nen) (nnu) (nwr) (nra) (nik) gki gpa (p_) (i_80) (0) hy0 hy1 hy2 hy3 hy4 hy5 hy6 hy7 hy8 hy9 hy10 hy11 hy12 hy13 (by omega) (by omega) (by omega) (by omega) (by omega) (by omega) hp_gki hp_gpa) (cwV 3 hts gX8_behind_X8_deep rfl rfl rfl ⟨rfl, dh_X8_deep⟩ ⟨Nat.le_of_ble_eq_true rfl, Nat.le_of_ble_eq_true rfl⟩) hK hN (hZ.kept hS) hP (hP.sub [0, 5, 6] rfl) (va_recv (q := (RX8, TX8, 38)) hK hP (ci := 8) (q0 := 0) rfl rfl) rfl hl.1 rfl (Nat.le_of_ble_eq_true rfl) dX8_behind_128 ⟨Nat.le_of_ble_eq_true rfl, Nat.le_of_ble_eq_true rfl⟩ (fun r_160 hr_160 => ?_)
                      obtain ⟨g_161, g_162, hsr_160_0⟩ := hr_160
                      refine lv_iload_n hx hb dX8_behind_131 rfl (lv_at hl 6 rfl) ?_
                      refine lv_icmp_ne (tgt := 153) hx hb dX8_behind_132 (by decide) (fun c_163 => ?_) (fun c_163 => ?_)
                      · have fc_163 : r_160.toInt ≠ to.toInt := zf_ne c_163 rfl rfl
                        obtain ⟨x_164, ex_164⟩ : ∃ y : Int32, y = i_80 + 1 := ⟨_, rfl⟩
                        have qx_164 : x_164.toInt = i_80.toInt + 1 := by rw [ex_164]; exact zf_add rfl (by decide) (by omega) (by omega)
                        refine lv_iinc (v := x_164) (lv' := [(6, .int x_164), (7, .int r_153), (5, .int v_150), (0, .ref m0), (1, .int s_), (2, .int p_), (3, .int to)]) hx hb dX8_behind_153 hl (k := 1) rfl ex_164.symm (by decide) rfl (fun ls hl => ?_)
                        refine lv_goto (tgt := 80) hx hb dX8_behind_156 (by decide) ?_
                        exact ih x_164 v_150 _ _ _ (hP.sub [0, 1, 2, 3, 4, 5, 6] rfl) (hD.sub [0, 1, 2, 3, 4, 5, 6] (by decide) rfl) hS (lv_sub hl [0, 2, 3, 4, 5, 6] rfl) hbv_150 (show (v_150 : Int32).toInt = zBh (zRw gce (160 * s_.toInt)) (gki p_.toNatClampNeg).toInt (gpa p_.toNatClampNeg).toInt nhu.toInt to.toInt (x_164.toInt - 1).toNat from by (have x1 := hsr_156_0.1 (by decide); have x2 := hsr_160_0.2 (by decide); rw [show (x_164.toInt - 1).toNat = (i_80.toInt - 1).toNat + 1 from by omega, zBh_s, show (((i_80.toInt - 1).toNat : Nat) : Int) + 1 = i_80.toInt from by omega, ← hvi_80_0, ← hsr_153_0, ← x1, ← x2]; first | (rw [if_neg (by omega), if_neg (by omega)]; omega) | (rw [if_pos (by omega), if_neg (by omega)]; omega) | (rw [if_neg (by omega), if_pos (by omega)]; omega) | (rw [if_pos (by omega), if_pos (by omega)]; omega))) (show (v_150 : Int32).toInt ≤ 2376 * x_164.toInt ∧ x_164.toInt ≤ 25 from by exact ⟨by omega, by omega⟩) (dw_lo hloi_80 qx_164) (dw_hn hni_80 qx_164)
                      · have fc_163 : r_160.toInt = to.toInt := zf_eq c_163 rfl rfl
                        refine lv_iload hx hb dX8_behind_135 (lv_at hl 2 rfl) ?_
                        refine lv_bipush (v := 12) hx hb dX8_behind_137 (by decide) ?_
                        refine lv_iload hx hb dX8_behind_139 (lv_at hl 0 rfl) ?_
                        refine lv_isub hx hb dX8_behind_141 ?_
                        refine lv_topi (fun x_165 ex_165 => ?_)
                        have qx_165 : x_165.toInt = 12 - r_153.toInt := by rw [ex_165]; exact zf_sub (by decide) rfl (by omega) (by omega)
                        refine lv_aload_n hx hb dX8_behind_142 rfl (lv_at hl 3 rfl) ?_
                        refine lv_iload_n hx hb dX8_behind_143 rfl (lv_at hl 4 rfl) ?_
                        refine lv_iload hx hb dX8_behind_144 (lv_at hl 1 rfl) ?_
                        refine zc_V (As := [.int s_, .int i_80]) (rest := [.int x_165, .int v_150]) ⟨hx, hb, hml, hown, hts⟩ (c_F_M_intAt l D cI cJ cZ cP cS po m0 mrf mki mpa mta mla msl mco mhe mso msi msh mce mca mwo mnu mte mwa mke mma mth mtr (npu) (nte) (nat_) (nde) (nto) (nse) (nhu) (nga) (nsd) (nfa) (nba) (npl) (nen) (nnu) (nwr) (nra) (nik) gce (s_) (i_80) hy0 hy1 hy2 hy3 hy4 hy5 hy6 hy7 hy8 hy9 hy10 hy11 hy12 hy13 (by omega) (by omega) (by omega) (by omega)) (cwV 2 hts gX8_behind_X8_intAt rfl rfl rfl ⟨rfl, dh_X8_intAt⟩ ⟨Nat.le_of_ble_eq_true rfl, Nat.le_of_ble_eq_true rfl⟩) hK hN (hZ.kept hS) hP (hP.sub [0, 4] rfl) (va_recv (q := (RX8, TX8, 38)) hK hP (ci := 8) (q0 := 0) rfl rfl) rfl hl.1 rfl (Nat.le_of_ble_eq_true rfl) dX8_behind_146 ⟨Nat.le_of_ble_eq_true rfl, Nat.le_of_ble_eq_true rfl⟩ (fun r_166 hr_166 => ?_)
                        have hsr_166_0 := hr_166
                        have wr_166 := zTl_m hbel hsr_166_0 (by have k0 : (0 : Int32).toInt = 0 := (by decide); omega) (by have k0 : (0 : Int32).toInt = 0 := (by decide); omega)
                        refine lv_imul hx hb dX8_behind_149 ?_
                        refine lv_topi (fun x_167 ex_167 => ?_)
                        obtain ⟨mx_167, nx_167, ox_167⟩ := zf_mulr (a := r_166) (b := x_165) (m := r_166.toInt * x_165.toInt) rfl rfl ⟨by omega, by omega⟩ ⟨by omega, by omega⟩ rfl
                        rw [show r_166 * x_165 = x_167 from by (rw [ex_167]; exact Int32.mul_comm _ _)] at mx_167
                        refine lv_iadd hx hb dX8_behind_150 ?_
                        refine lv_topi (fun x_168 ex_168 => ?_)
                        have qx_168 : x_168.toInt = v_150.toInt + x_167.toInt := by rw [ex_168]; exact zf_add rfl rfl (by omega) (by omega)
                        refine lv_istore (lv' := [(5, .int x_168), (7, .int r_153), (6, .int i_80), (0, .ref m0), (1, .int s_), (2, .int p_), (3, .int to)]) hx hb dX8_behind_151 hl (by decide) rfl (fun ls hl => ?_)
                        obtain ⟨x_169, ex_169⟩ : ∃ y : Int32, y = i_80 + 1 := ⟨_, rfl⟩
                        have qx_169 : x_169.toInt = i_80.toInt + 1 := by rw [ex_169]; exact zf_add rfl (by decide) (by omega) (by omega)
                        refine lv_iinc (v := x_169) (lv' := [(6, .int x_169), (5, .int x_168), (7, .int r_153), (0, .ref m0), (1, .int s_), (2, .int p_), (3, .int to)]) hx hb dX8_behind_153 hl (k := 2) rfl ex_169.symm (by decide) rfl (fun ls hl => ?_)
                        refine lv_goto (tgt := 80) hx hb dX8_behind_156 (by decide) ?_
                        exact ih x_169 x_168 _ _ _ (hP.sub [0, 1, 2, 3, 4, 5, 6] rfl) (hD.sub [0, 1, 2, 3, 4, 5, 6] (by decide) rfl) hS (lv_sub hl [0, 1, 3, 4, 5, 6] rfl) ⟨by omega, by omega⟩ (show (x_168 : Int32).toInt = zBh (zRw gce (160 * s_.toInt)) (gki p_.toNatClampNeg).toInt (gpa p_.toNatClampNeg).toInt nhu.toInt to.toInt (x_169.toInt - 1).toNat from by (have x1 := hsr_156_0.1 (by decide); have x2 := hsr_160_0.2 (by decide); rw [show (x_169.toInt - 1).toNat = (i_80.toInt - 1).toNat + 1 from by omega, zBh_s, show (((i_80.toInt - 1).toNat : Nat) : Int) + 1 = i_80.toInt from by omega, ← hvi_80_0, ← hsr_153_0, ← x1, ← x2]; have Mx_167 := mx_167; rw [wr_166.1, qx_165] at Mx_167; first | (rw [if_neg (by omega), if_pos (by omega)]; omega) | (rw [if_pos (by omega), if_pos (by omega)]; omega) | (rw [if_neg (by omega), if_neg (by omega)]; omega) | (rw [if_pos (by omega), if_neg (by omega)]; omega))) (show (x_168 : Int32).toInt ≤ 2376 * x_169.toInt ∧ x_169.toInt ≤ 25 from by exact ⟨by omega, by omega⟩) (dw_lo hloi_80 qx_169) (dw_hn hni_80 qx_169)
                    · have fc_159 : r_156.toInt = to.toInt := zf_eq c_159 rfl rfl
                      refine lv_iload hx hb dX8_behind_108 (lv_at hl 2 rfl) ?_
                      refine lv_iload hx hb dX8_behind_110 (lv_at hl 0 rfl) ?_
                      refine lv_aload_n hx hb dX8_behind_112 rfl (lv_at hl 3 rfl) ?_
                      refine lv_iload_n hx hb dX8_behind_113 rfl (lv_at hl 4 rfl) ?_
                      refine lv_iload hx hb dX8_behind_114 (lv_at hl 1 rfl) ?_
                      refine zc_V (As := [.int s_, .int i_80]) (rest := [.int r_153, .int v_150]) ⟨hx, hb, hml, hown, hts⟩ (c_F_M_intAt l D cI cJ cZ cP cS po m0 mrf mki mpa mta mla msl mco mhe mso msi msh mce mca mwo mnu mte mwa mke mma mth mtr (npu) (nte) (nat_) (nde) (nto) (nse) (nhu) (nga) (nsd) (nfa) (nba) (npl) (nen) (nnu) (nwr) (nra) (nik) gce (s_) (i_80) hy0 hy1 hy2 hy3 hy4 hy5 hy6 hy7 hy8 hy9 hy10 hy11 hy12 hy13 (by omega) (by omega) (by omega) (by omega)) (cwV 2 hts gX8_behind_X8_intAt rfl rfl rfl ⟨rfl, dh_X8_intAt⟩ ⟨Nat.le_of_ble_eq_true rfl, Nat.le_of_ble_eq_true rfl⟩) hK hN (hZ.kept hS) hP (hP.sub [0, 4] rfl) (va_recv (q := (RX8, TX8, 38)) hK hP (ci := 8) (q0 := 0) rfl rfl) rfl hl.1 rfl (Nat.le_of_ble_eq_true rfl) dX8_behind_116 ⟨Nat.le_of_ble_eq_true rfl, Nat.le_of_ble_eq_true rfl⟩ (fun r_170 hr_170 => ?_)
                      have hsr_170_0 := hr_170
                      have wr_170 := zTl_m hbel hsr_170_0 (by have k0 : (0 : Int32).toInt = 0 := (by decide); omega) (by have k0 : (0 : Int32).toInt = 0 := (by decide); omega)
                      refine lv_imul hx hb dX8_behind_119 ?_
                      refine lv_topi (fun x_171 ex_171 => ?_)
                      obtain ⟨mx_171, nx_171, ox_171⟩ := zf_mulr (a := r_170) (b := r_153) (m := r_170.toInt * r_153.toInt) rfl rfl ⟨by omega, by omega⟩ ⟨by omega, by omega⟩ rfl
                      rw [show r_170 * r_153 = x_171 from by (rw [ex_171]; exact Int32.mul_comm _ _)] at mx_171
                      refine lv_iadd hx hb dX8_behind_120 ?_
                      refine lv_topi (fun x_172 ex_172 => ?_)
                      have qx_172 : x_172.toInt = v_150.toInt + x_171.toInt := by rw [ex_172]; exact zf_add rfl rfl (by omega) (by omega)
                      refine lv_istore (lv' := [(5, .int x_172), (7, .int r_153), (6, .int i_80), (0, .ref m0), (1, .int s_), (2, .int p_), (3, .int to)]) hx hb dX8_behind_121 hl (by decide) rfl (fun ls hl => ?_)
                      refine lv_aload_n hx hb dX8_behind_123 rfl (lv_at hl 3 rfl) ?_
                      refine lv_iload_n hx hb dX8_behind_124 rfl (lv_at hl 5 rfl) ?_
                      refine lv_iload hx hb dX8_behind_125 (lv_at hl 2 rfl) ?_
                      refine lv_iconst (v := 0) hx hb dX8_behind_127 (by decide) ?_
                      refine zc_V (As := [.int p_, .int i_80, .int 0]) (rest := []) ⟨hx, hb, hml, hown, hts⟩ (c_F_M_deep l D cI cJ cZ cP cS po m0 mrf mki mpa mta mla msl mco mhe mso msi msh mce mca mwo mnu mte mwa mke mma mth mtr (npu) (nte) (nat_) (nde) (nto) (nse) (nhu) (nga) (nsd) (nfa) (nba) (npl) (nen) (nnu) (nwr) (nra) (nik) gki gpa (p_) (i_80) (0) hy0 hy1 hy2 hy3 hy4 hy5 hy6 hy7 hy8 hy9 hy10 hy11 hy12 hy13 (by omega) (by omega) (by omega) (by omega) (by omega) (by omega) hp_gki hp_gpa) (cwV 3 hts gX8_behind_X8_deep rfl rfl rfl ⟨rfl, dh_X8_deep⟩ ⟨Nat.le_of_ble_eq_true rfl, Nat.le_of_ble_eq_true rfl⟩) hK hN (hZ.kept hS) hP (hP.sub [0, 5, 6] rfl) (va_recv (q := (RX8, TX8, 38)) hK hP (ci := 8) (q0 := 0) rfl rfl) rfl hl.1 rfl (Nat.le_of_ble_eq_true rfl) dX8_behind_128 ⟨Nat.le_of_ble_eq_true rfl, Nat.le_of_ble_eq_true rfl⟩ (fun r_173 hr_173 => ?_)
                      obtain ⟨g_174, g_175, hsr_173_0⟩ := hr_173
                      refine lv_iload_n hx hb dX8_behind_131 rfl (lv_at hl 6 rfl) ?_
                      refine lv_icmp_ne (tgt := 153) hx hb dX8_behind_132 (by decide) (fun c_176 => ?_) (fun c_176 => ?_)
                      · have fc_176 : r_173.toInt ≠ to.toInt := zf_ne c_176 rfl rfl
                        obtain ⟨x_177, ex_177⟩ : ∃ y : Int32, y = i_80 + 1 := ⟨_, rfl⟩
                        have qx_177 : x_177.toInt = i_80.toInt + 1 := by rw [ex_177]; exact zf_add rfl (by decide) (by omega) (by omega)
                        refine lv_iinc (v := x_177) (lv' := [(6, .int x_177), (5, .int x_172), (7, .int r_153), (0, .ref m0), (1, .int s_), (2, .int p_), (3, .int to)]) hx hb dX8_behind_153 hl (k := 2) rfl ex_177.symm (by decide) rfl (fun ls hl => ?_)
                        refine lv_goto (tgt := 80) hx hb dX8_behind_156 (by decide) ?_
                        exact ih x_177 x_172 _ _ _ (hP.sub [0, 1, 2, 3, 4, 5, 6] rfl) (hD.sub [0, 1, 2, 3, 4, 5, 6] (by decide) rfl) hS (lv_sub hl [0, 1, 3, 4, 5, 6] rfl) ⟨by omega, by omega⟩ (show (x_172 : Int32).toInt = zBh (zRw gce (160 * s_.toInt)) (gki p_.toNatClampNeg).toInt (gpa p_.toNatClampNeg).toInt nhu.toInt to.toInt (x_177.toInt - 1).toNat from by (have x1 := hsr_156_0.1 (by decide); have x2 := hsr_173_0.2 (by decide); rw [show (x_177.toInt - 1).toNat = (i_80.toInt - 1).toNat + 1 from by omega, zBh_s, show (((i_80.toInt - 1).toNat : Nat) : Int) + 1 = i_80.toInt from by omega, ← hvi_80_0, ← hsr_153_0, ← x1, ← x2]; have Mx_171 := mx_171; rw [wr_170.1] at Mx_171; first | (rw [if_pos (by omega), if_neg (by omega)]; omega) | (rw [if_pos (by omega), if_pos (by omega)]; omega) | (rw [if_neg (by omega), if_neg (by omega)]; omega) | (rw [if_neg (by omega), if_pos (by omega)]; omega))) (show (x_172 : Int32).toInt ≤ 2376 * x_177.toInt ∧ x_177.toInt ≤ 25 from by exact ⟨by omega, by omega⟩) (dw_lo hloi_80 qx_177) (dw_hn hni_80 qx_177)
                      · have fc_176 : r_173.toInt = to.toInt := zf_eq c_176 rfl rfl
                        refine lv_iload hx hb dX8_behind_135 (lv_at hl 0 rfl) ?_
                        refine lv_bipush (v := 12) hx hb dX8_behind_137 (by decide) ?_
                        refine lv_iload hx hb dX8_behind_139 (lv_at hl 1 rfl) ?_
                        refine lv_isub hx hb dX8_behind_141 ?_
                        refine lv_topi (fun x_178 ex_178 => ?_)
                        have qx_178 : x_178.toInt = 12 - r_153.toInt := by rw [ex_178]; exact zf_sub (by decide) rfl (by omega) (by omega)
                        refine lv_aload_n hx hb dX8_behind_142 rfl (lv_at hl 3 rfl) ?_
                        refine lv_iload_n hx hb dX8_behind_143 rfl (lv_at hl 4 rfl) ?_
                        refine lv_iload hx hb dX8_behind_144 (lv_at hl 2 rfl) ?_
                        refine zc_V (As := [.int s_, .int i_80]) (rest := [.int x_178, .int x_172]) ⟨hx, hb, hml, hown, hts⟩ (c_F_M_intAt l D cI cJ cZ cP cS po m0 mrf mki mpa mta mla msl mco mhe mso msi msh mce mca mwo mnu mte mwa mke mma mth mtr (npu) (nte) (nat_) (nde) (nto) (nse) (nhu) (nga) (nsd) (nfa) (nba) (npl) (nen) (nnu) (nwr) (nra) (nik) gce (s_) (i_80) hy0 hy1 hy2 hy3 hy4 hy5 hy6 hy7 hy8 hy9 hy10 hy11 hy12 hy13 (by omega) (by omega) (by omega) (by omega)) (cwV 2 hts gX8_behind_X8_intAt rfl rfl rfl ⟨rfl, dh_X8_intAt⟩ ⟨Nat.le_of_ble_eq_true rfl, Nat.le_of_ble_eq_true rfl⟩) hK hN (hZ.kept hS) hP (hP.sub [0, 4] rfl) (va_recv (q := (RX8, TX8, 38)) hK hP (ci := 8) (q0 := 0) rfl rfl) rfl hl.1 rfl (Nat.le_of_ble_eq_true rfl) dX8_behind_146 ⟨Nat.le_of_ble_eq_true rfl, Nat.le_of_ble_eq_true rfl⟩ (fun r_179 hr_179 => ?_)
                        have hsr_179_0 := hr_179
                        have wr_179 := zTl_m hbel hsr_179_0 (by have k0 : (0 : Int32).toInt = 0 := (by decide); omega) (by have k0 : (0 : Int32).toInt = 0 := (by decide); omega)
                        refine lv_imul hx hb dX8_behind_149 ?_
                        refine lv_topi (fun x_180 ex_180 => ?_)
                        obtain ⟨mx_180, nx_180, ox_180⟩ := zf_mulr (a := r_179) (b := x_178) (m := r_179.toInt * x_178.toInt) rfl rfl ⟨by omega, by omega⟩ ⟨by omega, by omega⟩ rfl
                        rw [show r_179 * x_178 = x_180 from by (rw [ex_180]; exact Int32.mul_comm _ _)] at mx_180
                        refine lv_iadd hx hb dX8_behind_150 ?_
                        refine lv_topi (fun x_181 ex_181 => ?_)
                        have qx_181 : x_181.toInt = x_172.toInt + x_180.toInt := by rw [ex_181]; exact zf_add rfl rfl (by omega) (by omega)
                        refine lv_istore (lv' := [(5, .int x_181), (7, .int r_153), (6, .int i_80), (0, .ref m0), (1, .int s_), (2, .int p_), (3, .int to)]) hx hb dX8_behind_151 hl (by decide) rfl (fun ls hl => ?_)
                        obtain ⟨x_182, ex_182⟩ : ∃ y : Int32, y = i_80 + 1 := ⟨_, rfl⟩
                        have qx_182 : x_182.toInt = i_80.toInt + 1 := by rw [ex_182]; exact zf_add rfl (by decide) (by omega) (by omega)
                        refine lv_iinc (v := x_182) (lv' := [(6, .int x_182), (5, .int x_181), (7, .int r_153), (0, .ref m0), (1, .int s_), (2, .int p_), (3, .int to)]) hx hb dX8_behind_153 hl (k := 2) rfl ex_182.symm (by decide) rfl (fun ls hl => ?_)
                        refine lv_goto (tgt := 80) hx hb dX8_behind_156 (by decide) ?_
                        exact ih x_182 x_181 _ _ _ (hP.sub [0, 1, 2, 3, 4, 5, 6] rfl) (hD.sub [0, 1, 2, 3, 4, 5, 6] (by decide) rfl) hS (lv_sub hl [0, 1, 3, 4, 5, 6] rfl) ⟨by omega, by omega⟩ (show (x_181 : Int32).toInt = zBh (zRw gce (160 * s_.toInt)) (gki p_.toNatClampNeg).toInt (gpa p_.toNatClampNeg).toInt nhu.toInt to.toInt (x_182.toInt - 1).toNat from by (have x1 := hsr_156_0.1 (by decide); have x2 := hsr_173_0.2 (by decide); rw [show (x_182.toInt - 1).toNat = (i_80.toInt - 1).toNat + 1 from by omega, zBh_s, show (((i_80.toInt - 1).toNat : Nat) : Int) + 1 = i_80.toInt from by omega, ← hvi_80_0, ← hsr_153_0, ← x1, ← x2]; have Mx_171 := mx_171; rw [wr_170.1] at Mx_171; have Mx_180 := mx_180; rw [wr_179.1, qx_178] at Mx_180; first | (rw [if_pos (by omega), if_pos (by omega)]; omega) | (rw [if_pos (by omega), if_neg (by omega)]; omega) | (rw [if_neg (by omega), if_pos (by omega)]; omega) | (rw [if_neg (by omega), if_neg (by omega)]; omega))) (show (x_181 : Int32).toInt ≤ 2376 * x_182.toInt ∧ x_182.toInt ≤ 25 from by exact ⟨by omega, by omega⟩) (dw_lo hloi_80 qx_182) (dw_hn hni_80 qx_182)
            · exfalso; have fc_113 : r_98.toInt ≠ 0 := zf_ne c_113 rfl (by decide); omega
          · have fc_112 : 24 < to.toInt := zf_nle c_112 rfl (by decide)
            refine lv_bipush (v := (-6)) hx hb dX8_behind_42 (by decide) ?_
            refine lv_istore (lv' := [(4, .int (-6)), (0, .ref m0), (1, .int s_), (2, .int p_), (3, .int to)]) hx hb dX8_behind_44 hl (by decide) rfl (fun ls hl => ?_)
            refine lv_iload hx hb dX8_behind_46 (lv_at hl 0 rfl) ?_
            refine lv_if_eq (tgt := 58) hx hb dX8_behind_48 (by decide) (fun c_183 => ?_) (fun c_183 => ?_)
            · exact absurd c_183 (by decide)
            · refine lv_aload_n hx hb dX8_behind_51 rfl (lv_at hl 1 rfl) ?_
              refine lv_iload hx hb dX8_behind_52 (lv_at hl 0 rfl) ?_
              skip
              refine zw_V (As := [.int (-6)]) (rest := []) (wr := [(mhe, .inl (cI, 8, .inl ghe)), (msi, .inl (cI, 8, .inl gsi)), (mce, .inl (cJ, 1280, .inr (.inl gce))), (mki, .inl (cI, 8, .inl gki)), (mpa, .inl (cI, 8, .inl gpa))]) ⟨hx, hb, hml, hown, hts⟩ (c_M_no_6 l D cI cJ cZ cP cS po m0 mrf mki mpa mta mla msl mco mhe mso msi msh mce mca mwo mnu mte mwa mke mma mth mtr (npu) (nte) (nat_) (nde) (nto) (nse) (nhu) (nga) (nsd) (nfa) (nba) (npl) (nen) (nnu) (nwr) (nra) (nik) grf hy0 hy1 hy2 hy3 hy4 hy5 hy6 hy7 hy8 hy9 hy10 hy11 hy12 hy13 H.size) (cwV 1 hts gX8_behind_X8_no rfl rfl rfl ⟨rfl, dh_X8_no⟩ ⟨Nat.le_of_ble_eq_true rfl, Nat.le_of_ble_eq_true rfl⟩) hK hN (hZ.kept hS) hP hD hS hA [0, 1] [2, 3, 4, 5, 6] rfl rfl (by decide) (by decide) (by decide) (va_recv (q := (RX8, TX8, 38)) hK hP (ci := 8) (q0 := 0) rfl rfl) rfl hl.1 rfl (Nat.le_of_ble_eq_true rfl) dX8_behind_54 ⟨Nat.le_of_ble_eq_true rfl, Nat.le_of_ble_eq_true rfl⟩ (fun r_184 u_185 H locs hr_184 hP hD hS => ?_)
              obtain ⟨q_186, rfl⟩ : ∃ z, z = u_185 := ⟨_, rfl⟩
              have h9R := zRe (ws' := [(mhe, .inl (cI, 8, .inl ghe)), (msi, .inl (cI, 8, .inl gsi)), (mce, .inl (cJ, 1280, .inr (.inl gce))), (mki, .inl (cI, 8, .inl gki)), (mpa, .inl (cI, 8, .inl gpa)), (zMO m0 npu nte nat_ nde nto nse nhu nga nsd nfa mrf mki mpa mta mla msl mco mhe mso msi msh mce mca mwo mnu mte nba npl nen nnu nwr mwa mke mma mth mtr nra nik), (mrf, .inl (cI, 8, .inl q_186))]) hP hD rfl
              clear hP hD
              obtain ⟨hP, hD⟩ := h9R
              obtain rfl := hr_184
              exact W.iret (v := (-6)) hx hb hr (fun t ht hW => ⟨⟨(-6), q_186, rfl, ⟨(show ((s_.toInt < 0 ∨ 7 < s_.toInt ∨ p_.toInt < 0 ∨ npu.toInt ≤ p_.toInt) ∧ ((-6) : Int32).toInt = -1) ∨ ((0 ≤ s_.toInt ∧ s_.toInt ≤ 7) ∧ (0 ≤ p_.toInt ∧ p_.toInt < npu.toInt) ∧ ∃ q : Int, zBelR (zHc (ghe s_.toNatClampNeg).toInt) (gsi s_.toNatClampNeg).toInt (zRw gce (160 * s_.toInt)) q ∧ ((q ≠ 0 ∧ ((-6) : Int32).toInt = -q) ∨ (q = 0 ∧ (((to.toInt < 0 ∨ 24 < to.toInt) ∧ ((-6) : Int32).toInt = -6) ∨ ((0 ≤ to.toInt ∧ to.toInt ≤ 24) ∧ ((-6) : Int32).toInt = zBh (zRw gce (160 * s_.toInt)) (gki p_.toNatClampNeg).toInt (gpa p_.toNatClampNeg).toInt nhu.toInt to.toInt 24))))) from by (have k6m : ((-6) : Int32).toInt = -6 := (by decide); have z := hsr_98_0; rcases z with z | ⟨z1, q, z2, z3⟩; (exact Or.inl (by omega)); first | (exact Or.inr ⟨z1, by omega, q, z2, Or.inl ⟨by omega, by omega⟩⟩) | (exact Or.inr ⟨z1, by omega, q, z2, Or.inr ⟨by omega, Or.inl ⟨by omega, by omega⟩⟩⟩))), trivial⟩, zRet ht hP hD [5, 6, 0, 1, 2, 3, 4] (by decide) rfl⟩, hS.F ht⟩) hS.2.2 dX8_behind_57
    · exact absurd c_97 (by decide)
  · refine lv_if_eq (tgt := 20) hx hb dX8_behind_5 (by decide) (fun c_187 => ?_) (fun c_187 => ?_)
    · exact absurd c_187 (by decide)
    · refine lv_aload_n hx hb dX8_behind_8 rfl (lv_at hl 0 rfl) ?_
      refine lv_iload_n hx hb dX8_behind_9 rfl (lv_at hl 2 rfl) ?_
      refine zc_V (As := [.int p_]) (rest := []) ⟨hx, hb, hml, hown, hts⟩ (c_M_isPull l D cI cJ cZ cP cS po m0 mrf mki mpa mta mla msl mco mhe mso msi msh mce mca mwo mnu mte mwa mke mma mth mtr (npu) (nte) (nat_) (nde) (nto) (nse) (nhu) (nga) (nsd) (nfa) (nba) (npl) (nen) (nnu) (nwr) (nra) (nik) (p_) hy0 hy1 hy2 hy3 hy4 hy5 hy6 hy7 hy8 hy9 hy10 hy11 hy12 hy13) (cwV 1 hts gX8_behind_X8_isPull rfl rfl rfl ⟨rfl, dh_X8_isPull⟩ ⟨Nat.le_of_ble_eq_true rfl, Nat.le_of_ble_eq_true rfl⟩) hK hN (hZ.kept hS) hP (hP.sub [0] rfl) (va_recv (q := (RX8, TX8, 38)) hK hP (ci := 8) (q0 := 0) rfl rfl) rfl hl.1 rfl (Nat.le_of_ble_eq_true rfl) dX8_behind_10 ⟨Nat.le_of_ble_eq_true rfl, Nat.le_of_ble_eq_true rfl⟩ (fun r_188 hr_188 => ?_)
      rcases hr_188 with ⟨rfl, g_189⟩ | ⟨rfl, g_190, g_191⟩ | ⟨rfl, g_192, g_193⟩
      · refine lv_if_ne (tgt := 20) hx hb dX8_behind_13 (by decide) (fun c_194 => ?_) (fun c_194 => ?_)
        · exact absurd c_194 (by decide)
        · refine lv_iconst (v := (-1)) hx hb dX8_behind_16 (by decide) ?_
          refine lv_goto (tgt := 25) hx hb dX8_behind_17 (by decide) ?_
          refine lv_istore (lv' := [(4, .int (-1)), (0, .ref m0), (1, .int s_), (2, .int p_), (3, .int to)]) hx hb dX8_behind_25 hl (by decide) rfl (fun ls hl => ?_)
          refine lv_iload hx hb dX8_behind_27 (lv_at hl 0 rfl) ?_
          refine lv_if_ne (tgt := 46) hx hb dX8_behind_29 (by decide) (fun c_195 => ?_) (fun c_195 => ?_)
          · refine lv_iload hx hb dX8_behind_46 (lv_at hl 0 rfl) ?_
            refine lv_if_eq (tgt := 58) hx hb dX8_behind_48 (by decide) (fun c_196 => ?_) (fun c_196 => ?_)
            · exact absurd c_196 (by decide)
            · refine lv_aload_n hx hb dX8_behind_51 rfl (lv_at hl 1 rfl) ?_
              refine lv_iload hx hb dX8_behind_52 (lv_at hl 0 rfl) ?_
              skip
              refine zw_V (As := [.int (-1)]) (rest := []) (wr := [(mhe, .inl (cI, 8, .inl ghe)), (msi, .inl (cI, 8, .inl gsi)), (mce, .inl (cJ, 1280, .inr (.inl gce))), (mki, .inl (cI, 8, .inl gki)), (mpa, .inl (cI, 8, .inl gpa))]) ⟨hx, hb, hml, hown, hts⟩ (c_M_no_1 l D cI cJ cZ cP cS po m0 mrf mki mpa mta mla msl mco mhe mso msi msh mce mca mwo mnu mte mwa mke mma mth mtr (npu) (nte) (nat_) (nde) (nto) (nse) (nhu) (nga) (nsd) (nfa) (nba) (npl) (nen) (nnu) (nwr) (nra) (nik) grf hy0 hy1 hy2 hy3 hy4 hy5 hy6 hy7 hy8 hy9 hy10 hy11 hy12 hy13 H.size) (cwV 1 hts gX8_behind_X8_no rfl rfl rfl ⟨rfl, dh_X8_no⟩ ⟨Nat.le_of_ble_eq_true rfl, Nat.le_of_ble_eq_true rfl⟩) hK hN (hZ.kept hS) hP hD hS hA [0, 1] [2, 3, 4, 5, 6] rfl rfl (by decide) (by decide) (by decide) (va_recv (q := (RX8, TX8, 38)) hK hP (ci := 8) (q0 := 0) rfl rfl) rfl hl.1 rfl (Nat.le_of_ble_eq_true rfl) dX8_behind_54 ⟨Nat.le_of_ble_eq_true rfl, Nat.le_of_ble_eq_true rfl⟩ (fun r_197 u_198 H locs hr_197 hP hD hS => ?_)
              obtain ⟨q_199, rfl⟩ : ∃ z, z = u_198 := ⟨_, rfl⟩
              have h9R := zRe (ws' := [(mhe, .inl (cI, 8, .inl ghe)), (msi, .inl (cI, 8, .inl gsi)), (mce, .inl (cJ, 1280, .inr (.inl gce))), (mki, .inl (cI, 8, .inl gki)), (mpa, .inl (cI, 8, .inl gpa)), (zMO m0 npu nte nat_ nde nto nse nhu nga nsd nfa mrf mki mpa mta mla msl mco mhe mso msi msh mce mca mwo mnu mte nba npl nen nnu nwr mwa mke mma mth mtr nra nik), (mrf, .inl (cI, 8, .inl q_199))]) hP hD rfl
              clear hP hD
              obtain ⟨hP, hD⟩ := h9R
              obtain rfl := hr_197
              exact W.iret (v := (-1)) hx hb hr (fun t ht hW => ⟨⟨(-1), q_199, rfl, ⟨(show ((s_.toInt < 0 ∨ 7 < s_.toInt ∨ p_.toInt < 0 ∨ npu.toInt ≤ p_.toInt) ∧ ((-1) : Int32).toInt = -1) ∨ ((0 ≤ s_.toInt ∧ s_.toInt ≤ 7) ∧ (0 ≤ p_.toInt ∧ p_.toInt < npu.toInt) ∧ ∃ q : Int, zBelR (zHc (ghe s_.toNatClampNeg).toInt) (gsi s_.toNatClampNeg).toInt (zRw gce (160 * s_.toInt)) q ∧ ((q ≠ 0 ∧ ((-1) : Int32).toInt = -q) ∨ (q = 0 ∧ (((to.toInt < 0 ∨ 24 < to.toInt) ∧ ((-1) : Int32).toInt = -6) ∨ ((0 ≤ to.toInt ∧ to.toInt ≤ 24) ∧ ((-1) : Int32).toInt = zBh (zRw gce (160 * s_.toInt)) (gki p_.toNatClampNeg).toInt (gpa p_.toNatClampNeg).toInt nhu.toInt to.toInt 24))))) from by (have k9 : ((-1) : Int32).toInt = -1 := (by decide); exact Or.inl (by omega))), trivial⟩, zRet ht hP hD [5, 6, 0, 1, 2, 3, 4] (by decide) rfl⟩, hS.F ht⟩) hS.2.2 dX8_behind_57
          · exact absurd c_195 (by decide)
      · refine lv_if_ne (tgt := 20) hx hb dX8_behind_13 (by decide) (fun c_200 => ?_) (fun c_200 => ?_)
        · exact absurd c_200 (by decide)
        · refine lv_iconst (v := (-1)) hx hb dX8_behind_16 (by decide) ?_
          refine lv_goto (tgt := 25) hx hb dX8_behind_17 (by decide) ?_
          refine lv_istore (lv' := [(4, .int (-1)), (0, .ref m0), (1, .int s_), (2, .int p_), (3, .int to)]) hx hb dX8_behind_25 hl (by decide) rfl (fun ls hl => ?_)
          refine lv_iload hx hb dX8_behind_27 (lv_at hl 0 rfl) ?_
          refine lv_if_ne (tgt := 46) hx hb dX8_behind_29 (by decide) (fun c_201 => ?_) (fun c_201 => ?_)
          · refine lv_iload hx hb dX8_behind_46 (lv_at hl 0 rfl) ?_
            refine lv_if_eq (tgt := 58) hx hb dX8_behind_48 (by decide) (fun c_202 => ?_) (fun c_202 => ?_)
            · exact absurd c_202 (by decide)
            · refine lv_aload_n hx hb dX8_behind_51 rfl (lv_at hl 1 rfl) ?_
              refine lv_iload hx hb dX8_behind_52 (lv_at hl 0 rfl) ?_
              skip
              refine zw_V (As := [.int (-1)]) (rest := []) (wr := [(mhe, .inl (cI, 8, .inl ghe)), (msi, .inl (cI, 8, .inl gsi)), (mce, .inl (cJ, 1280, .inr (.inl gce))), (mki, .inl (cI, 8, .inl gki)), (mpa, .inl (cI, 8, .inl gpa))]) ⟨hx, hb, hml, hown, hts⟩ (c_M_no_1 l D cI cJ cZ cP cS po m0 mrf mki mpa mta mla msl mco mhe mso msi msh mce mca mwo mnu mte mwa mke mma mth mtr (npu) (nte) (nat_) (nde) (nto) (nse) (nhu) (nga) (nsd) (nfa) (nba) (npl) (nen) (nnu) (nwr) (nra) (nik) grf hy0 hy1 hy2 hy3 hy4 hy5 hy6 hy7 hy8 hy9 hy10 hy11 hy12 hy13 H.size) (cwV 1 hts gX8_behind_X8_no rfl rfl rfl ⟨rfl, dh_X8_no⟩ ⟨Nat.le_of_ble_eq_true rfl, Nat.le_of_ble_eq_true rfl⟩) hK hN (hZ.kept hS) hP hD hS hA [0, 1] [2, 3, 4, 5, 6] rfl rfl (by decide) (by decide) (by decide) (va_recv (q := (RX8, TX8, 38)) hK hP (ci := 8) (q0 := 0) rfl rfl) rfl hl.1 rfl (Nat.le_of_ble_eq_true rfl) dX8_behind_54 ⟨Nat.le_of_ble_eq_true rfl, Nat.le_of_ble_eq_true rfl⟩ (fun r_203 u_204 H locs hr_203 hP hD hS => ?_)
              obtain ⟨q_205, rfl⟩ : ∃ z, z = u_204 := ⟨_, rfl⟩
              have h9R := zRe (ws' := [(mhe, .inl (cI, 8, .inl ghe)), (msi, .inl (cI, 8, .inl gsi)), (mce, .inl (cJ, 1280, .inr (.inl gce))), (mki, .inl (cI, 8, .inl gki)), (mpa, .inl (cI, 8, .inl gpa)), (zMO m0 npu nte nat_ nde nto nse nhu nga nsd nfa mrf mki mpa mta mla msl mco mhe mso msi msh mce mca mwo mnu mte nba npl nen nnu nwr mwa mke mma mth mtr nra nik), (mrf, .inl (cI, 8, .inl q_205))]) hP hD rfl
              clear hP hD
              obtain ⟨hP, hD⟩ := h9R
              obtain rfl := hr_203
              exact W.iret (v := (-1)) hx hb hr (fun t ht hW => ⟨⟨(-1), q_205, rfl, ⟨(show ((s_.toInt < 0 ∨ 7 < s_.toInt ∨ p_.toInt < 0 ∨ npu.toInt ≤ p_.toInt) ∧ ((-1) : Int32).toInt = -1) ∨ ((0 ≤ s_.toInt ∧ s_.toInt ≤ 7) ∧ (0 ≤ p_.toInt ∧ p_.toInt < npu.toInt) ∧ ∃ q : Int, zBelR (zHc (ghe s_.toNatClampNeg).toInt) (gsi s_.toNatClampNeg).toInt (zRw gce (160 * s_.toInt)) q ∧ ((q ≠ 0 ∧ ((-1) : Int32).toInt = -q) ∨ (q = 0 ∧ (((to.toInt < 0 ∨ 24 < to.toInt) ∧ ((-1) : Int32).toInt = -6) ∨ ((0 ≤ to.toInt ∧ to.toInt ≤ 24) ∧ ((-1) : Int32).toInt = zBh (zRw gce (160 * s_.toInt)) (gki p_.toNatClampNeg).toInt (gpa p_.toNatClampNeg).toInt nhu.toInt to.toInt 24))))) from by (have k9 : ((-1) : Int32).toInt = -1 := (by decide); exact Or.inl (by omega))), trivial⟩, zRet ht hP hD [5, 6, 0, 1, 2, 3, 4] (by decide) rfl⟩, hS.F ht⟩) hS.2.2 dX8_behind_57
          · exact absurd c_201 (by decide)
      · refine lv_if_ne (tgt := 20) hx hb dX8_behind_13 (by decide) (fun c_206 => ?_) (fun c_206 => ?_)
        · refine lv_aload_n hx hb dX8_behind_20 rfl (lv_at hl 0 rfl) ?_
          refine lv_iload_n hx hb dX8_behind_21 rfl (lv_at hl 1 rfl) ?_
          refine zc_V (As := [.int s_]) (rest := []) ⟨hx, hb, hml, hown, hts⟩ (c_F_M_barsOf l D cI cJ cZ cP cS po m0 mrf mki mpa mta mla msl mco mhe mso msi msh mce mca mwo mnu mte mwa mke mma mth mtr (npu) (nte) (nat_) (nde) (nto) (nse) (nhu) (nga) (nsd) (nfa) (nba) (npl) (nen) (nnu) (nwr) (nra) (nik) ghe gsi gce (s_) hy0 hy1 hy2 hy3 hy4 hy5 hy6 hy7 hy8 hy9 hy10 hy11 hy12 hy13 hp_ghe hp_gsi) (cwV 1 hts gX8_behind_X8_barsOf rfl rfl rfl ⟨rfl, dh_X8_barsOf⟩ ⟨Nat.le_of_ble_eq_true rfl, Nat.le_of_ble_eq_true rfl⟩) hK hN (hZ.kept hS) hP (hP.sub [0, 2, 3, 4] rfl) (va_recv (q := (RX8, TX8, 38)) hK hP (ci := 8) (q0 := 0) rfl rfl) rfl hl.1 rfl (Nat.le_of_ble_eq_true rfl) dX8_behind_22 ⟨Nat.le_of_ble_eq_true rfl, Nat.le_of_ble_eq_true rfl⟩ (fun r_207 hr_207 => ?_)
          obtain ⟨g_208, g_209, hsr_207_0, hsr_207_1⟩ := hr_207
          refine lv_istore (lv' := [(4, .int r_207), (0, .ref m0), (1, .int s_), (2, .int p_), (3, .int to)]) hx hb dX8_behind_25 hl (by decide) rfl (fun ls hl => ?_)
          refine lv_iload hx hb dX8_behind_27 (lv_at hl 0 rfl) ?_
          refine lv_if_ne (tgt := 46) hx hb dX8_behind_29 (by decide) (fun c_210 => ?_) (fun c_210 => ?_)
          · have fc_210 : r_207.toInt ≠ 0 := zf_ne c_210 rfl (by decide)
            refine lv_iload hx hb dX8_behind_46 (lv_at hl 0 rfl) ?_
            refine lv_if_eq (tgt := 58) hx hb dX8_behind_48 (by decide) (fun c_211 => ?_) (fun c_211 => ?_)
            · exfalso; have fc_211 : r_207.toInt = 0 := zf_eq c_211 rfl (by decide); omega
            · have fc_211 : r_207.toInt ≠ 0 := zf_ne c_211 rfl (by decide)
              refine lv_aload_n hx hb dX8_behind_51 rfl (lv_at hl 1 rfl) ?_
              refine lv_iload hx hb dX8_behind_52 (lv_at hl 0 rfl) ?_
              skip
              refine zw_V (As := [.int r_207]) (rest := []) (wr := [(mhe, .inl (cI, 8, .inl ghe)), (msi, .inl (cI, 8, .inl gsi)), (mce, .inl (cJ, 1280, .inr (.inl gce))), (mki, .inl (cI, 8, .inl gki)), (mpa, .inl (cI, 8, .inl gpa))]) ⟨hx, hb, hml, hown, hts⟩ (c_M_no l D cI cJ cZ cP cS po m0 mrf mki mpa mta mla msl mco mhe mso msi msh mce mca mwo mnu mte mwa mke mma mth mtr (npu) (nte) (nat_) (nde) (nto) (nse) (nhu) (nga) (nsd) (nfa) (nba) (npl) (nen) (nnu) (nwr) (nra) (nik) grf (r_207) hy0 hy1 hy2 hy3 hy4 hy5 hy6 hy7 hy8 hy9 hy10 hy11 hy12 hy13 (by omega) (by omega) H.size) (cwV 1 hts gX8_behind_X8_no rfl rfl rfl ⟨rfl, dh_X8_no⟩ ⟨Nat.le_of_ble_eq_true rfl, Nat.le_of_ble_eq_true rfl⟩) hK hN (hZ.kept hS) hP hD hS hA [0, 1] [2, 3, 4, 5, 6] rfl rfl (by decide) (by decide) (by decide) (va_recv (q := (RX8, TX8, 38)) hK hP (ci := 8) (q0 := 0) rfl rfl) rfl hl.1 rfl (Nat.le_of_ble_eq_true rfl) dX8_behind_54 ⟨Nat.le_of_ble_eq_true rfl, Nat.le_of_ble_eq_true rfl⟩ (fun r_212 u_213 H locs hr_212 hP hD hS => ?_)
              obtain ⟨q_214, rfl⟩ : ∃ z, z = u_213 := ⟨_, rfl⟩
              have h9R := zRe (ws' := [(mhe, .inl (cI, 8, .inl ghe)), (msi, .inl (cI, 8, .inl gsi)), (mce, .inl (cJ, 1280, .inr (.inl gce))), (mki, .inl (cI, 8, .inl gki)), (mpa, .inl (cI, 8, .inl gpa)), (zMO m0 npu nte nat_ nde nto nse nhu nga nsd nfa mrf mki mpa mta mla msl mco mhe mso msi msh mce mca mwo mnu mte nba npl nen nnu nwr mwa mke mma mth mtr nra nik), (mrf, .inl (cI, 8, .inl q_214))]) hP hD rfl
              clear hP hD
              obtain ⟨hP, hD⟩ := h9R
              have w_215 := hr_212
              obtain rfl : r_207 = r_212 := w_215.symm
              exact W.iret (v := r_207) hx hb hr (fun t ht hW => ⟨⟨r_207, q_214, rfl, ⟨(show ((s_.toInt < 0 ∨ 7 < s_.toInt ∨ p_.toInt < 0 ∨ npu.toInt ≤ p_.toInt) ∧ (r_207 : Int32).toInt = -1) ∨ ((0 ≤ s_.toInt ∧ s_.toInt ≤ 7) ∧ (0 ≤ p_.toInt ∧ p_.toInt < npu.toInt) ∧ ∃ q : Int, zBelR (zHc (ghe s_.toNatClampNeg).toInt) (gsi s_.toNatClampNeg).toInt (zRw gce (160 * s_.toInt)) q ∧ ((q ≠ 0 ∧ (r_207 : Int32).toInt = -q) ∨ (q = 0 ∧ (((to.toInt < 0 ∨ 24 < to.toInt) ∧ (r_207 : Int32).toInt = -6) ∨ ((0 ≤ to.toInt ∧ to.toInt ≤ 24) ∧ (r_207 : Int32).toInt = zBh (zRw gce (160 * s_.toInt)) (gki p_.toNatClampNeg).toInt (gpa p_.toNatClampNeg).toInt nhu.toInt to.toInt 24))))) from by (have z := hsr_207_0; rcases z with z | ⟨z1, q, z2, z3⟩; (exact Or.inl (by omega)); first | (exact Or.inr ⟨z1, by omega, q, z2, Or.inl ⟨by omega, by omega⟩⟩) | (exact Or.inr ⟨z1, by omega, q, z2, Or.inr ⟨by omega, Or.inl ⟨by omega, by omega⟩⟩⟩))), trivial⟩, zRet ht hP hD [5, 6, 0, 1, 2, 3, 4] (by decide) rfl⟩, hS.F ht⟩) hS.2.2 dX8_behind_57
          · have fc_210 : r_207.toInt = 0 := zf_eq c_210 rfl (by decide)
            refine lv_iload_n hx hb dX8_behind_32 rfl (lv_at hl 4 rfl) ?_
            refine lv_if_lt (tgt := 42) hx hb dX8_behind_33 (by decide) (fun c_216 => ?_) (fun c_216 => ?_)
            · have fc_216 : to.toInt < 0 := zf_lt c_216 rfl (by decide)
              refine lv_bipush (v := (-6)) hx hb dX8_behind_42 (by decide) ?_
              refine lv_istore (lv' := [(4, .int (-6)), (0, .ref m0), (1, .int s_), (2, .int p_), (3, .int to)]) hx hb dX8_behind_44 hl (by decide) rfl (fun ls hl => ?_)
              refine lv_iload hx hb dX8_behind_46 (lv_at hl 0 rfl) ?_
              refine lv_if_eq (tgt := 58) hx hb dX8_behind_48 (by decide) (fun c_217 => ?_) (fun c_217 => ?_)
              · exact absurd c_217 (by decide)
              · refine lv_aload_n hx hb dX8_behind_51 rfl (lv_at hl 1 rfl) ?_
                refine lv_iload hx hb dX8_behind_52 (lv_at hl 0 rfl) ?_
                skip
                refine zw_V (As := [.int (-6)]) (rest := []) (wr := [(mhe, .inl (cI, 8, .inl ghe)), (msi, .inl (cI, 8, .inl gsi)), (mce, .inl (cJ, 1280, .inr (.inl gce))), (mki, .inl (cI, 8, .inl gki)), (mpa, .inl (cI, 8, .inl gpa))]) ⟨hx, hb, hml, hown, hts⟩ (c_M_no_6 l D cI cJ cZ cP cS po m0 mrf mki mpa mta mla msl mco mhe mso msi msh mce mca mwo mnu mte mwa mke mma mth mtr (npu) (nte) (nat_) (nde) (nto) (nse) (nhu) (nga) (nsd) (nfa) (nba) (npl) (nen) (nnu) (nwr) (nra) (nik) grf hy0 hy1 hy2 hy3 hy4 hy5 hy6 hy7 hy8 hy9 hy10 hy11 hy12 hy13 H.size) (cwV 1 hts gX8_behind_X8_no rfl rfl rfl ⟨rfl, dh_X8_no⟩ ⟨Nat.le_of_ble_eq_true rfl, Nat.le_of_ble_eq_true rfl⟩) hK hN (hZ.kept hS) hP hD hS hA [0, 1] [2, 3, 4, 5, 6] rfl rfl (by decide) (by decide) (by decide) (va_recv (q := (RX8, TX8, 38)) hK hP (ci := 8) (q0 := 0) rfl rfl) rfl hl.1 rfl (Nat.le_of_ble_eq_true rfl) dX8_behind_54 ⟨Nat.le_of_ble_eq_true rfl, Nat.le_of_ble_eq_true rfl⟩ (fun r_218 u_219 H locs hr_218 hP hD hS => ?_)
                obtain ⟨q_220, rfl⟩ : ∃ z, z = u_219 := ⟨_, rfl⟩
                have h9R := zRe (ws' := [(mhe, .inl (cI, 8, .inl ghe)), (msi, .inl (cI, 8, .inl gsi)), (mce, .inl (cJ, 1280, .inr (.inl gce))), (mki, .inl (cI, 8, .inl gki)), (mpa, .inl (cI, 8, .inl gpa)), (zMO m0 npu nte nat_ nde nto nse nhu nga nsd nfa mrf mki mpa mta mla msl mco mhe mso msi msh mce mca mwo mnu mte nba npl nen nnu nwr mwa mke mma mth mtr nra nik), (mrf, .inl (cI, 8, .inl q_220))]) hP hD rfl
                clear hP hD
                obtain ⟨hP, hD⟩ := h9R
                obtain rfl := hr_218
                exact W.iret (v := (-6)) hx hb hr (fun t ht hW => ⟨⟨(-6), q_220, rfl, ⟨(show ((s_.toInt < 0 ∨ 7 < s_.toInt ∨ p_.toInt < 0 ∨ npu.toInt ≤ p_.toInt) ∧ ((-6) : Int32).toInt = -1) ∨ ((0 ≤ s_.toInt ∧ s_.toInt ≤ 7) ∧ (0 ≤ p_.toInt ∧ p_.toInt < npu.toInt) ∧ ∃ q : Int, zBelR (zHc (ghe s_.toNatClampNeg).toInt) (gsi s_.toNatClampNeg).toInt (zRw gce (160 * s_.toInt)) q ∧ ((q ≠ 0 ∧ ((-6) : Int32).toInt = -q) ∨ (q = 0 ∧ (((to.toInt < 0 ∨ 24 < to.toInt) ∧ ((-6) : Int32).toInt = -6) ∨ ((0 ≤ to.toInt ∧ to.toInt ≤ 24) ∧ ((-6) : Int32).toInt = zBh (zRw gce (160 * s_.toInt)) (gki p_.toNatClampNeg).toInt (gpa p_.toNatClampNeg).toInt nhu.toInt to.toInt 24))))) from by (have k6m : ((-6) : Int32).toInt = -6 := (by decide); have z := hsr_207_0; rcases z with z | ⟨z1, q, z2, z3⟩; (exact Or.inl (by omega)); first | (exact Or.inr ⟨z1, by omega, q, z2, Or.inl ⟨by omega, by omega⟩⟩) | (exact Or.inr ⟨z1, by omega, q, z2, Or.inr ⟨by omega, Or.inl ⟨by omega, by omega⟩⟩⟩))), trivial⟩, zRet ht hP hD [5, 6, 0, 1, 2, 3, 4] (by decide) rfl⟩, hS.F ht⟩) hS.2.2 dX8_behind_57
            · have fc_216 : 0 ≤ to.toInt := zf_nlt c_216 rfl (by decide)
              refine lv_iload_n hx hb dX8_behind_36 rfl (lv_at hl 4 rfl) ?_
              refine lv_bipush (v := 24) hx hb dX8_behind_37 (by decide) ?_
              refine lv_icmp_le (tgt := 46) hx hb dX8_behind_39 (by decide) (fun c_221 => ?_) (fun c_221 => ?_)
              · have fc_221 : to.toInt ≤ 24 := zf_le c_221 rfl (by decide)
                refine lv_iload hx hb dX8_behind_46 (lv_at hl 0 rfl) ?_
                refine lv_if_eq (tgt := 58) hx hb dX8_behind_48 (by decide) (fun c_222 => ?_) (fun c_222 => ?_)
                · have fc_222 : r_207.toInt = 0 := zf_eq c_222 rfl (by decide)
                  have hbel : zBel (zRw gce (160 * s_.toInt)) := by (have z := hsr_207_0; rcases z with z | ⟨z1, q, z2, z3⟩; (exfalso; omega); (obtain rfl : q = 0 := (by omega); unfold zBelR at z2; rcases z2 with z | z | z | z | z <;> first | exact z.2.2.1 | (exfalso; omega)))
                  refine lv_iload_n hx hb dX8_behind_58 rfl (lv_at hl 4 rfl) ?_
                  refine lv_if_ne (tgt := 74) hx hb dX8_behind_59 (by decide) (fun c_223 => ?_) (fun c_223 => ?_)
                  · have fc_223 : to.toInt ≠ 0 := zf_ne c_223 rfl (by decide)
                    refine lv_iconst (v := 0) hx hb dX8_behind_74 (by decide) ?_
                    refine lv_istore (lv' := [(5, .int 0), (4, .int r_207), (0, .ref m0), (1, .int s_), (2, .int p_), (3, .int to)]) hx hb dX8_behind_75 hl (by decide) rfl (fun ls hl => ?_)
                    refine lv_iconst (v := 1) hx hb dX8_behind_77 (by decide) ?_
                    refine lv_istore (lv' := [(6, .int 1), (5, .int 0), (4, .int r_207), (0, .ref m0), (1, .int s_), (2, .int p_), (3, .int to)]) hx hb dX8_behind_78 hl (by decide) rfl (fun ls hl => ?_)
                    obtain ⟨i_80, hi_80⟩ : ∃ i : Int32, i = 1 := ⟨_, rfl⟩
                    replace hl : lv_has ls 8 [(6, .int i_80), (5, .int 0), (0, .ref m0), (1, .int s_), (2, .int p_), (3, .int to)] := by rw [hi_80]; exact lv_sub hl [0, 1, 3, 4, 5, 6] rfl
                    have h1i_80 : i_80.toInt = 1 := by rw [hi_80]; decide
                    obtain ⟨nfu, hni_80⟩ : ∃ nq9 : Nat, 25 ≤ i_80.toInt + (nq9 : Int) := ⟨((25 : Int) - 1).toNat, by omega⟩
                    have hloi_80 : 1 ≤ i_80.toInt := by omega
                    obtain ⟨v_224, hv_224⟩ : ∃ g : Int32, g = 0 := ⟨_, rfl⟩
                    replace hl : lv_has ls 8 [(6, .int i_80), (5, .int v_224), (0, .ref m0), (1, .int s_), (2, .int p_), (3, .int to)] := by rw [hv_224]; exact hl
                    have hbv_224 : 0 ≤ v_224.toInt ∧ v_224.toInt ≤ 59400 := by rw [hv_224]; exact ⟨by decide, by decide⟩
                    have hvi_80_0 : (v_224 : Int32).toInt = zBh (zRw gce (160 * s_.toInt)) (gki p_.toNatClampNeg).toInt (gpa p_.toNatClampNeg).toInt nhu.toInt to.toInt (i_80.toInt - 1).toNat := by
                      (try rw [hi_80]); (try rw [hv_224]); (rw [show ((1 : Int32).toInt - 1).toNat = 0 from by decide]; show _ = (if to.toInt = 0 then 12 * zTl (zRw gce (160 * s_.toInt)) 0 else 0); have k0 : (0 : Int32).toInt = 0 := (by decide); rw [if_neg (by omega)]; exact k0)
                    have hvi_80_1 : (v_224 : Int32).toInt ≤ 2376 * i_80.toInt ∧ i_80.toInt ≤ 25 := by
                      (try rw [hi_80]); (try rw [hv_224]); (have k1 : (1 : Int32).toInt = 1 := (by decide); have k0 : (0 : Int32).toInt = 0 := (by decide); omega)
                    clear h1i_80 hi_80 hv_224
                    skip
                    revert hni_80
                    revert hloi_80
                    revert hvi_80_1
                    revert hvi_80_0
                    revert hbv_224
                    revert hl
                    revert hS
                    revert hD
                    revert hP
                    revert ls
                    revert locs
                    revert H
                    revert v_224
                    revert i_80
                    induction nfu with
                    | zero =>
                      intro i_80 v_224 H locs ls hP hD hS hl hbv_224 hvi_80_0 hvi_80_1 hloi_80 hni_80
                      have hzi_80 : 25 ≤ i_80.toInt := by omega
                      refine lv_iload hx hb dX8_behind_80 (lv_at hl 0 rfl) ?_
                      refine lv_bipush (v := 24) hx hb dX8_behind_82 (by decide) ?_
                      refine lv_icmp_gt (tgt := 159) hx hb dX8_behind_84 (by decide) (fun c_225 => ?_) (fun c_225 => ?_)
                      · have fc_225 : 24 < i_80.toInt := zf_lt c_225 (by decide) rfl
                        refine lv_iload hx hb dX8_behind_159 (lv_at hl 1 rfl) ?_
                        exact W.iret (v := v_224) hx hb hr (fun t ht hW => ⟨⟨v_224, grf, rfl, ⟨(show ((s_.toInt < 0 ∨ 7 < s_.toInt ∨ p_.toInt < 0 ∨ npu.toInt ≤ p_.toInt) ∧ (v_224 : Int32).toInt = -1) ∨ ((0 ≤ s_.toInt ∧ s_.toInt ≤ 7) ∧ (0 ≤ p_.toInt ∧ p_.toInt < npu.toInt) ∧ ∃ q : Int, zBelR (zHc (ghe s_.toNatClampNeg).toInt) (gsi s_.toNatClampNeg).toInt (zRw gce (160 * s_.toInt)) q ∧ ((q ≠ 0 ∧ (v_224 : Int32).toInt = -q) ∨ (q = 0 ∧ (((to.toInt < 0 ∨ 24 < to.toInt) ∧ (v_224 : Int32).toInt = -6) ∨ ((0 ≤ to.toInt ∧ to.toInt ≤ 24) ∧ (v_224 : Int32).toInt = zBh (zRw gce (160 * s_.toInt)) (gki p_.toNatClampNeg).toInt (gpa p_.toNatClampNeg).toInt nhu.toInt to.toInt 24))))) from by (have z := hsr_207_0; rcases z with z | ⟨z1, q, z2, z3⟩; (exfalso; omega); (have h9 : (i_80.toInt - 1).toNat = 24 := (by omega); have y := hvi_80_0; rw [h9] at y; exact Or.inr ⟨z1, by omega, q, z2, Or.inr ⟨by omega, Or.inr ⟨by omega, y⟩⟩⟩))), trivial⟩, zRet ht hP hD [0, 1, 2, 3, 4, 5, 6] (by decide) rfl⟩, hS.F ht⟩) hS.2.2 dX8_behind_161
                      · exfalso; have fc_225 : i_80.toInt ≤ 24 := zf_nlt c_225 (by decide) rfl; omega
                    | succ nfu ih =>
                      intro i_80 v_224 H locs ls hP hD hS hl hbv_224 hvi_80_0 hvi_80_1 hloi_80 hni_80
                      refine lv_iload hx hb dX8_behind_80 (lv_at hl 0 rfl) ?_
                      refine lv_bipush (v := 24) hx hb dX8_behind_82 (by decide) ?_
                      refine lv_icmp_gt (tgt := 159) hx hb dX8_behind_84 (by decide) (fun c_226 => ?_) (fun c_226 => ?_)
                      · have fc_226 : 24 < i_80.toInt := zf_lt c_226 (by decide) rfl
                        refine lv_iload hx hb dX8_behind_159 (lv_at hl 1 rfl) ?_
                        exact W.iret (v := v_224) hx hb hr (fun t ht hW => ⟨⟨v_224, grf, rfl, ⟨(show ((s_.toInt < 0 ∨ 7 < s_.toInt ∨ p_.toInt < 0 ∨ npu.toInt ≤ p_.toInt) ∧ (v_224 : Int32).toInt = -1) ∨ ((0 ≤ s_.toInt ∧ s_.toInt ≤ 7) ∧ (0 ≤ p_.toInt ∧ p_.toInt < npu.toInt) ∧ ∃ q : Int, zBelR (zHc (ghe s_.toNatClampNeg).toInt) (gsi s_.toNatClampNeg).toInt (zRw gce (160 * s_.toInt)) q ∧ ((q ≠ 0 ∧ (v_224 : Int32).toInt = -q) ∨ (q = 0 ∧ (((to.toInt < 0 ∨ 24 < to.toInt) ∧ (v_224 : Int32).toInt = -6) ∨ ((0 ≤ to.toInt ∧ to.toInt ≤ 24) ∧ (v_224 : Int32).toInt = zBh (zRw gce (160 * s_.toInt)) (gki p_.toNatClampNeg).toInt (gpa p_.toNatClampNeg).toInt nhu.toInt to.toInt 24))))) from by (have z := hsr_207_0; rcases z with z | ⟨z1, q, z2, z3⟩; (exfalso; omega); (have h9 : (i_80.toInt - 1).toNat = 24 := (by omega); have y := hvi_80_0; rw [h9] at y; exact Or.inr ⟨z1, by omega, q, z2, Or.inr ⟨by omega, Or.inr ⟨by omega, y⟩⟩⟩))), trivial⟩, zRet ht hP hD [0, 1, 2, 3, 4, 5, 6] (by decide) rfl⟩, hS.F ht⟩) hS.2.2 dX8_behind_161
                      · have fc_226 : i_80.toInt ≤ 24 := zf_nlt c_226 (by decide) rfl
                        refine lv_aload_n hx hb dX8_behind_87 rfl (lv_at hl 2 rfl) ?_
                        refine lv_iload_n hx hb dX8_behind_88 rfl (lv_at hl 4 rfl) ?_
                        refine lv_iload hx hb dX8_behind_89 (lv_at hl 0 rfl) ?_
                        refine zc_V (As := [.int p_, .int i_80]) (rest := []) ⟨hx, hb, hml, hown, hts⟩ (c_F_M_ways l D cI cJ cZ cP cS po m0 mrf mki mpa mta mla msl mco mhe mso msi msh mce mca mwo mnu mte mwa mke mma mth mtr (npu) (nte) (nat_) (nde) (nto) (nse) (nhu) (nga) (nsd) (nfa) (nba) (npl) (nen) (nnu) (nwr) (nra) (nik) gki gpa (p_) (i_80) hy0 hy1 hy2 hy3 hy4 hy5 hy6 hy7 hy8 hy9 hy10 hy11 hy12 hy13 (by omega) (by omega) (by omega) (by omega) hp_gki hp_gpa) (cwV 2 hts gX8_behind_X8_ways rfl rfl rfl ⟨rfl, dh_X8_ways⟩ ⟨Nat.le_of_ble_eq_true rfl, Nat.le_of_ble_eq_true rfl⟩) hK hN (hZ.kept hS) hP (hP.sub [0, 5, 6] rfl) (va_recv (q := (RX8, TX8, 38)) hK hP (ci := 8) (q0 := 0) rfl rfl) rfl hl.1 rfl (Nat.le_of_ble_eq_true rfl) dX8_behind_91 ⟨Nat.le_of_ble_eq_true rfl, Nat.le_of_ble_eq_true rfl⟩ (fun r_227 hr_227 => ?_)
                        obtain ⟨g_228, g_229, hsr_227_0⟩ := hr_227
                        refine lv_istore (lv' := [(7, .int r_227), (6, .int i_80), (5, .int v_224), (0, .ref m0), (1, .int s_), (2, .int p_), (3, .int to)]) hx hb dX8_behind_94 hl (by decide) rfl (fun ls hl => ?_)
                        refine lv_aload_n hx hb dX8_behind_96 rfl (lv_at hl 3 rfl) ?_
                        refine lv_iload_n hx hb dX8_behind_97 rfl (lv_at hl 5 rfl) ?_
                        refine lv_iload hx hb dX8_behind_98 (lv_at hl 1 rfl) ?_
                        refine lv_iconst (v := 1) hx hb dX8_behind_100 (by decide) ?_
                        have kc1 : (1 : Int32).toInt = 1 := by decide
                        refine zc_V (As := [.int p_, .int i_80, .int 1]) (rest := []) ⟨hx, hb, hml, hown, hts⟩ (c_F_M_deep l D cI cJ cZ cP cS po m0 mrf mki mpa mta mla msl mco mhe mso msi msh mce mca mwo mnu mte mwa mke mma mth mtr (npu) (nte) (nat_) (nde) (nto) (nse) (nhu) (nga) (nsd) (nfa) (nba) (npl) (nen) (nnu) (nwr) (nra) (nik) gki gpa (p_) (i_80) (1) hy0 hy1 hy2 hy3 hy4 hy5 hy6 hy7 hy8 hy9 hy10 hy11 hy12 hy13 (by omega) (by omega) (by omega) (by omega) (by omega) (by omega) hp_gki hp_gpa) (cwV 3 hts gX8_behind_X8_deep rfl rfl rfl ⟨rfl, dh_X8_deep⟩ ⟨Nat.le_of_ble_eq_true rfl, Nat.le_of_ble_eq_true rfl⟩) hK hN (hZ.kept hS) hP (hP.sub [0, 5, 6] rfl) (va_recv (q := (RX8, TX8, 38)) hK hP (ci := 8) (q0 := 0) rfl rfl) rfl hl.1 rfl (Nat.le_of_ble_eq_true rfl) dX8_behind_101 ⟨Nat.le_of_ble_eq_true rfl, Nat.le_of_ble_eq_true rfl⟩ (fun r_230 hr_230 => ?_)
                        obtain ⟨g_231, g_232, hsr_230_0⟩ := hr_230
                        refine lv_iload_n hx hb dX8_behind_104 rfl (lv_at hl 6 rfl) ?_
                        refine lv_icmp_ne (tgt := 123) hx hb dX8_behind_105 (by decide) (fun c_233 => ?_) (fun c_233 => ?_)
                        · have fc_233 : r_230.toInt ≠ to.toInt := zf_ne c_233 rfl rfl
                          refine lv_aload_n hx hb dX8_behind_123 rfl (lv_at hl 3 rfl) ?_
                          refine lv_iload_n hx hb dX8_behind_124 rfl (lv_at hl 5 rfl) ?_
                          refine lv_iload hx hb dX8_behind_125 (lv_at hl 1 rfl) ?_
                          refine lv_iconst (v := 0) hx hb dX8_behind_127 (by decide) ?_
                          have kc0 : (0 : Int32).toInt = 0 := by decide
                          refine zc_V (As := [.int p_, .int i_80, .int 0]) (rest := []) ⟨hx, hb, hml, hown, hts⟩ (c_F_M_deep l D cI cJ cZ cP cS po m0 mrf mki mpa mta mla msl mco mhe mso msi msh mce mca mwo mnu mte mwa mke mma mth mtr (npu) (nte) (nat_) (nde) (nto) (nse) (nhu) (nga) (nsd) (nfa) (nba) (npl) (nen) (nnu) (nwr) (nra) (nik) gki gpa (p_) (i_80) (0) hy0 hy1 hy2 hy3 hy4 hy5 hy6 hy7 hy8 hy9 hy10 hy11 hy12 hy13 (by omega) (by omega) (by omega) (by omega) (by omega) (by omega) hp_gki hp_gpa) (cwV 3 hts gX8_behind_X8_deep rfl rfl rfl ⟨rfl, dh_X8_deep⟩ ⟨Nat.le_of_ble_eq_true rfl, Nat.le_of_ble_eq_true rfl⟩) hK hN (hZ.kept hS) hP (hP.sub [0, 5, 6] rfl) (va_recv (q := (RX8, TX8, 38)) hK hP (ci := 8) (q0 := 0) rfl rfl) rfl hl.1 rfl (Nat.le_of_ble_eq_true rfl) dX8_behind_128 ⟨Nat.le_of_ble_eq_true rfl, Nat.le_of_ble_eq_true rfl⟩ (fun r_234 hr_234 => ?_)
                          obtain ⟨g_235, g_236, hsr_234_0⟩ := hr_234
                          refine lv_iload_n hx hb dX8_behind_131 rfl (lv_at hl 6 rfl) ?_
                          refine lv_icmp_ne (tgt := 153) hx hb dX8_behind_132 (by decide) (fun c_237 => ?_) (fun c_237 => ?_)
                          · have fc_237 : r_234.toInt ≠ to.toInt := zf_ne c_237 rfl rfl
                            obtain ⟨x_238, ex_238⟩ : ∃ y : Int32, y = i_80 + 1 := ⟨_, rfl⟩
                            have qx_238 : x_238.toInt = i_80.toInt + 1 := by rw [ex_238]; exact zf_add rfl (by decide) (by omega) (by omega)
                            refine lv_iinc (v := x_238) (lv' := [(6, .int x_238), (7, .int r_227), (5, .int v_224), (0, .ref m0), (1, .int s_), (2, .int p_), (3, .int to)]) hx hb dX8_behind_153 hl (k := 1) rfl ex_238.symm (by decide) rfl (fun ls hl => ?_)
                            refine lv_goto (tgt := 80) hx hb dX8_behind_156 (by decide) ?_
                            exact ih x_238 v_224 _ _ _ (hP.sub [0, 1, 2, 3, 4, 5, 6] rfl) (hD.sub [0, 1, 2, 3, 4, 5, 6] (by decide) rfl) hS (lv_sub hl [0, 2, 3, 4, 5, 6] rfl) hbv_224 (show (v_224 : Int32).toInt = zBh (zRw gce (160 * s_.toInt)) (gki p_.toNatClampNeg).toInt (gpa p_.toNatClampNeg).toInt nhu.toInt to.toInt (x_238.toInt - 1).toNat from by (have x1 := hsr_230_0.1 (by decide); have x2 := hsr_234_0.2 (by decide); rw [show (x_238.toInt - 1).toNat = (i_80.toInt - 1).toNat + 1 from by omega, zBh_s, show (((i_80.toInt - 1).toNat : Nat) : Int) + 1 = i_80.toInt from by omega, ← hvi_80_0, ← hsr_227_0, ← x1, ← x2]; first | (rw [if_neg (by omega), if_neg (by omega)]; omega) | (rw [if_pos (by omega), if_neg (by omega)]; omega) | (rw [if_neg (by omega), if_pos (by omega)]; omega) | (rw [if_pos (by omega), if_pos (by omega)]; omega))) (show (v_224 : Int32).toInt ≤ 2376 * x_238.toInt ∧ x_238.toInt ≤ 25 from by exact ⟨by omega, by omega⟩) (dw_lo hloi_80 qx_238) (dw_hn hni_80 qx_238)
                          · have fc_237 : r_234.toInt = to.toInt := zf_eq c_237 rfl rfl
                            refine lv_iload hx hb dX8_behind_135 (lv_at hl 2 rfl) ?_
                            refine lv_bipush (v := 12) hx hb dX8_behind_137 (by decide) ?_
                            refine lv_iload hx hb dX8_behind_139 (lv_at hl 0 rfl) ?_
                            refine lv_isub hx hb dX8_behind_141 ?_
                            refine lv_topi (fun x_239 ex_239 => ?_)
                            have qx_239 : x_239.toInt = 12 - r_227.toInt := by rw [ex_239]; exact zf_sub (by decide) rfl (by omega) (by omega)
                            refine lv_aload_n hx hb dX8_behind_142 rfl (lv_at hl 3 rfl) ?_
                            refine lv_iload_n hx hb dX8_behind_143 rfl (lv_at hl 4 rfl) ?_
                            refine lv_iload hx hb dX8_behind_144 (lv_at hl 1 rfl) ?_
                            refine zc_V (As := [.int s_, .int i_80]) (rest := [.int x_239, .int v_224]) ⟨hx, hb, hml, hown, hts⟩ (c_F_M_intAt l D cI cJ cZ cP cS po m0 mrf mki mpa mta mla msl mco mhe mso msi msh mce mca mwo mnu mte mwa mke mma mth mtr (npu) (nte) (nat_) (nde) (nto) (nse) (nhu) (nga) (nsd) (nfa) (nba) (npl) (nen) (nnu) (nwr) (nra) (nik) gce (s_) (i_80) hy0 hy1 hy2 hy3 hy4 hy5 hy6 hy7 hy8 hy9 hy10 hy11 hy12 hy13 (by omega) (by omega) (by omega) (by omega)) (cwV 2 hts gX8_behind_X8_intAt rfl rfl rfl ⟨rfl, dh_X8_intAt⟩ ⟨Nat.le_of_ble_eq_true rfl, Nat.le_of_ble_eq_true rfl⟩) hK hN (hZ.kept hS) hP (hP.sub [0, 4] rfl) (va_recv (q := (RX8, TX8, 38)) hK hP (ci := 8) (q0 := 0) rfl rfl) rfl hl.1 rfl (Nat.le_of_ble_eq_true rfl) dX8_behind_146 ⟨Nat.le_of_ble_eq_true rfl, Nat.le_of_ble_eq_true rfl⟩ (fun r_240 hr_240 => ?_)
                            have hsr_240_0 := hr_240
                            have wr_240 := zTl_m hbel hsr_240_0 (by have k0 : (0 : Int32).toInt = 0 := (by decide); omega) (by have k0 : (0 : Int32).toInt = 0 := (by decide); omega)
                            refine lv_imul hx hb dX8_behind_149 ?_
                            refine lv_topi (fun x_241 ex_241 => ?_)
                            obtain ⟨mx_241, nx_241, ox_241⟩ := zf_mulr (a := r_240) (b := x_239) (m := r_240.toInt * x_239.toInt) rfl rfl ⟨by omega, by omega⟩ ⟨by omega, by omega⟩ rfl
                            rw [show r_240 * x_239 = x_241 from by (rw [ex_241]; exact Int32.mul_comm _ _)] at mx_241
                            refine lv_iadd hx hb dX8_behind_150 ?_
                            refine lv_topi (fun x_242 ex_242 => ?_)
                            have qx_242 : x_242.toInt = v_224.toInt + x_241.toInt := by rw [ex_242]; exact zf_add rfl rfl (by omega) (by omega)
                            refine lv_istore (lv' := [(5, .int x_242), (7, .int r_227), (6, .int i_80), (0, .ref m0), (1, .int s_), (2, .int p_), (3, .int to)]) hx hb dX8_behind_151 hl (by decide) rfl (fun ls hl => ?_)
                            obtain ⟨x_243, ex_243⟩ : ∃ y : Int32, y = i_80 + 1 := ⟨_, rfl⟩
                            have qx_243 : x_243.toInt = i_80.toInt + 1 := by rw [ex_243]; exact zf_add rfl (by decide) (by omega) (by omega)
                            refine lv_iinc (v := x_243) (lv' := [(6, .int x_243), (5, .int x_242), (7, .int r_227), (0, .ref m0), (1, .int s_), (2, .int p_), (3, .int to)]) hx hb dX8_behind_153 hl (k := 2) rfl ex_243.symm (by decide) rfl (fun ls hl => ?_)
                            refine lv_goto (tgt := 80) hx hb dX8_behind_156 (by decide) ?_
                            exact ih x_243 x_242 _ _ _ (hP.sub [0, 1, 2, 3, 4, 5, 6] rfl) (hD.sub [0, 1, 2, 3, 4, 5, 6] (by decide) rfl) hS (lv_sub hl [0, 1, 3, 4, 5, 6] rfl) ⟨by omega, by omega⟩ (show (x_242 : Int32).toInt = zBh (zRw gce (160 * s_.toInt)) (gki p_.toNatClampNeg).toInt (gpa p_.toNatClampNeg).toInt nhu.toInt to.toInt (x_243.toInt - 1).toNat from by (have x1 := hsr_230_0.1 (by decide); have x2 := hsr_234_0.2 (by decide); rw [show (x_243.toInt - 1).toNat = (i_80.toInt - 1).toNat + 1 from by omega, zBh_s, show (((i_80.toInt - 1).toNat : Nat) : Int) + 1 = i_80.toInt from by omega, ← hvi_80_0, ← hsr_227_0, ← x1, ← x2]; have Mx_241 := mx_241; rw [wr_240.1, qx_239] at Mx_241; first | (rw [if_neg (by omega), if_pos (by omega)]; omega) | (rw [if_pos (by omega), if_pos (by omega)]; omega) | (rw [if_neg (by omega), if_neg (by omega)]; omega) | (rw [if_pos (by omega), if_neg (by omega)]; omega))) (show (x_242 : Int32).toInt ≤ 2376 * x_243.toInt ∧ x_243.toInt ≤ 25 from by exact ⟨by omega, by omega⟩) (dw_lo hloi_80 qx_243) (dw_hn hni_80 qx_243)
                        · have fc_233 : r_230.toInt = to.toInt := zf_eq c_233 rfl rfl
                          refine lv_iload hx hb dX8_behind_108 (lv_at hl 2 rfl) ?_
                          refine lv_iload hx hb dX8_behind_110 (lv_at hl 0 rfl) ?_
                          refine lv_aload_n hx hb dX8_behind_112 rfl (lv_at hl 3 rfl) ?_
                          refine lv_iload_n hx hb dX8_behind_113 rfl (lv_at hl 4 rfl) ?_
                          refine lv_iload hx hb dX8_behind_114 (lv_at hl 1 rfl) ?_
                          refine zc_V (As := [.int s_, .int i_80]) (rest := [.int r_227, .int v_224]) ⟨hx, hb, hml, hown, hts⟩ (c_F_M_intAt l D cI cJ cZ cP cS po m0 mrf mki mpa mta mla msl mco mhe mso msi msh mce mca mwo mnu mte mwa mke mma mth mtr (npu) (nte) (nat_) (nde) (nto) (nse) (nhu) (nga) (nsd) (nfa) (nba) (npl) (nen) (nnu) (nwr) (nra) (nik) gce (s_) (i_80) hy0 hy1 hy2 hy3 hy4 hy5 hy6 hy7 hy8 hy9 hy10 hy11 hy12 hy13 (by omega) (by omega) (by omega) (by omega)) (cwV 2 hts gX8_behind_X8_intAt rfl rfl rfl ⟨rfl, dh_X8_intAt⟩ ⟨Nat.le_of_ble_eq_true rfl, Nat.le_of_ble_eq_true rfl⟩) hK hN (hZ.kept hS) hP (hP.sub [0, 4] rfl) (va_recv (q := (RX8, TX8, 38)) hK hP (ci := 8) (q0 := 0) rfl rfl) rfl hl.1 rfl (Nat.le_of_ble_eq_true rfl) dX8_behind_116 ⟨Nat.le_of_ble_eq_true rfl, Nat.le_of_ble_eq_true rfl⟩ (fun r_244 hr_244 => ?_)
                          have hsr_244_0 := hr_244
                          have wr_244 := zTl_m hbel hsr_244_0 (by have k0 : (0 : Int32).toInt = 0 := (by decide); omega) (by have k0 : (0 : Int32).toInt = 0 := (by decide); omega)
                          refine lv_imul hx hb dX8_behind_119 ?_
                          refine lv_topi (fun x_245 ex_245 => ?_)
                          obtain ⟨mx_245, nx_245, ox_245⟩ := zf_mulr (a := r_244) (b := r_227) (m := r_244.toInt * r_227.toInt) rfl rfl ⟨by omega, by omega⟩ ⟨by omega, by omega⟩ rfl
                          rw [show r_244 * r_227 = x_245 from by (rw [ex_245]; exact Int32.mul_comm _ _)] at mx_245
                          refine lv_iadd hx hb dX8_behind_120 ?_
                          refine lv_topi (fun x_246 ex_246 => ?_)
                          have qx_246 : x_246.toInt = v_224.toInt + x_245.toInt := by rw [ex_246]; exact zf_add rfl rfl (by omega) (by omega)
                          refine lv_istore (lv' := [(5, .int x_246), (7, .int r_227), (6, .int i_80), (0, .ref m0), (1, .int s_), (2, .int p_), (3, .int to)]) hx hb dX8_behind_121 hl (by decide) rfl (fun ls hl => ?_)
                          refine lv_aload_n hx hb dX8_behind_123 rfl (lv_at hl 3 rfl) ?_
                          refine lv_iload_n hx hb dX8_behind_124 rfl (lv_at hl 5 rfl) ?_
                          refine lv_iload hx hb dX8_behind_125 (lv_at hl 2 rfl) ?_
                          refine lv_iconst (v := 0) hx hb dX8_behind_127 (by decide) ?_
                          have kc0 : (0 : Int32).toInt = 0 := by decide
                          refine zc_V (As := [.int p_, .int i_80, .int 0]) (rest := []) ⟨hx, hb, hml, hown, hts⟩ (c_F_M_deep l D cI cJ cZ cP cS po m0 mrf mki mpa mta mla msl mco mhe mso msi msh mce mca mwo mnu mte mwa mke mma mth mtr (npu) (nte) (nat_) (nde) (nto) (nse) (nhu) (nga) (nsd) (nfa) (nba) (npl) (nen) (nnu) (nwr) (nra) (nik) gki gpa (p_) (i_80) (0) hy0 hy1 hy2 hy3 hy4 hy5 hy6 hy7 hy8 hy9 hy10 hy11 hy12 hy13 (by omega) (by omega) (by omega) (by omega) (by omega) (by omega) hp_gki hp_gpa) (cwV 3 hts gX8_behind_X8_deep rfl rfl rfl ⟨rfl, dh_X8_deep⟩ ⟨Nat.le_of_ble_eq_true rfl, Nat.le_of_ble_eq_true rfl⟩) hK hN (hZ.kept hS) hP (hP.sub [0, 5, 6] rfl) (va_recv (q := (RX8, TX8, 38)) hK hP (ci := 8) (q0 := 0) rfl rfl) rfl hl.1 rfl (Nat.le_of_ble_eq_true rfl) dX8_behind_128 ⟨Nat.le_of_ble_eq_true rfl, Nat.le_of_ble_eq_true rfl⟩ (fun r_247 hr_247 => ?_)
                          obtain ⟨g_248, g_249, hsr_247_0⟩ := hr_247
                          refine lv_iload_n hx hb dX8_behind_131 rfl (lv_at hl 6 rfl) ?_
                          refine lv_icmp_ne (tgt := 153) hx hb dX8_behind_132 (by decide) (fun c_250 => ?_) (fun c_250 => ?_)
                          · have fc_250 : r_247.toInt ≠ to.toInt := zf_ne c_250 rfl rfl
                            obtain ⟨x_251, ex_251⟩ : ∃ y : Int32, y = i_80 + 1 := ⟨_, rfl⟩
                            have qx_251 : x_251.toInt = i_80.toInt + 1 := by rw [ex_251]; exact zf_add rfl (by decide) (by omega) (by omega)
                            refine lv_iinc (v := x_251) (lv' := [(6, .int x_251), (5, .int x_246), (7, .int r_227), (0, .ref m0), (1, .int s_), (2, .int p_), (3, .int to)]) hx hb dX8_behind_153 hl (k := 2) rfl ex_251.symm (by decide) rfl (fun ls hl => ?_)
                            refine lv_goto (tgt := 80) hx hb dX8_behind_156 (by decide) ?_
                            exact ih x_251 x_246 _ _ _ (hP.sub [0, 1, 2, 3, 4, 5, 6] rfl) (hD.sub [0, 1, 2, 3, 4, 5, 6] (by decide) rfl) hS (lv_sub hl [0, 1, 3, 4, 5, 6] rfl) ⟨by omega, by omega⟩ (show (x_246 : Int32).toInt = zBh (zRw gce (160 * s_.toInt)) (gki p_.toNatClampNeg).toInt (gpa p_.toNatClampNeg).toInt nhu.toInt to.toInt (x_251.toInt - 1).toNat from by (have x1 := hsr_230_0.1 (by decide); have x2 := hsr_247_0.2 (by decide); rw [show (x_251.toInt - 1).toNat = (i_80.toInt - 1).toNat + 1 from by omega, zBh_s, show (((i_80.toInt - 1).toNat : Nat) : Int) + 1 = i_80.toInt from by omega, ← hvi_80_0, ← hsr_227_0, ← x1, ← x2]; have Mx_245 := mx_245; rw [wr_244.1] at Mx_245; first | (rw [if_pos (by omega), if_neg (by omega)]; omega) | (rw [if_pos (by omega), if_pos (by omega)]; omega) | (rw [if_neg (by omega), if_neg (by omega)]; omega) | (rw [if_neg (by omega), if_pos (by omega)]; omega))) (show (x_246 : Int32).toInt ≤ 2376 * x_251.toInt ∧ x_251.toInt ≤ 25 from by exact ⟨by omega, by omega⟩) (dw_lo hloi_80 qx_251) (dw_hn hni_80 qx_251)
                          · have fc_250 : r_247.toInt = to.toInt := zf_eq c_250 rfl rfl
                            refine lv_iload hx hb dX8_behind_135 (lv_at hl 0 rfl) ?_
                            refine lv_bipush (v := 12) hx hb dX8_behind_137 (by decide) ?_
                            refine lv_iload hx hb dX8_behind_139 (lv_at hl 1 rfl) ?_
                            refine lv_isub hx hb dX8_behind_141 ?_
                            refine lv_topi (fun x_252 ex_252 => ?_)
                            have qx_252 : x_252.toInt = 12 - r_227.toInt := by rw [ex_252]; exact zf_sub (by decide) rfl (by omega) (by omega)
                            refine lv_aload_n hx hb dX8_behind_142 rfl (lv_at hl 3 rfl) ?_
                            refine lv_iload_n hx hb dX8_behind_143 rfl (lv_at hl 4 rfl) ?_
                            refine lv_iload hx hb dX8_behind_144 (lv_at hl 2 rfl) ?_
                            refine zc_V (As := [.int s_, .int i_80]) (rest := [.int x_252, .int x_246]) ⟨hx, hb, hml, hown, hts⟩ (c_F_M_intAt l D cI cJ cZ cP cS po m0 mrf mki mpa mta mla msl mco mhe mso msi msh mce mca mwo mnu mte mwa mke mma mth mtr (npu) (nte) (nat_) (nde) (nto) (nse) (nhu) (nga) (nsd) (nfa) (nba) (npl) (nen) (nnu) (nwr) (nra) (nik) gce (s_) (i_80) hy0 hy1 hy2 hy3 hy4 hy5 hy6 hy7 hy8 hy9 hy10 hy11 hy12 hy13 (by omega) (by omega) (by omega) (by omega)) (cwV 2 hts gX8_behind_X8_intAt rfl rfl rfl ⟨rfl, dh_X8_intAt⟩ ⟨Nat.le_of_ble_eq_true rfl, Nat.le_of_ble_eq_true rfl⟩) hK hN (hZ.kept hS) hP (hP.sub [0, 4] rfl) (va_recv (q := (RX8, TX8, 38)) hK hP (ci := 8) (q0 := 0) rfl rfl) rfl hl.1 rfl (Nat.le_of_ble_eq_true rfl) dX8_behind_146 ⟨Nat.le_of_ble_eq_true rfl, Nat.le_of_ble_eq_true rfl⟩ (fun r_253 hr_253 => ?_)
                            have hsr_253_0 := hr_253
                            have wr_253 := zTl_m hbel hsr_253_0 (by have k0 : (0 : Int32).toInt = 0 := (by decide); omega) (by have k0 : (0 : Int32).toInt = 0 := (by decide); omega)
                            refine lv_imul hx hb dX8_behind_149 ?_
                            refine lv_topi (fun x_254 ex_254 => ?_)
                            obtain ⟨mx_254, nx_254, ox_254⟩ := zf_mulr (a := r_253) (b := x_252) (m := r_253.toInt * x_252.toInt) rfl rfl ⟨by omega, by omega⟩ ⟨by omega, by omega⟩ rfl
                            rw [show r_253 * x_252 = x_254 from by (rw [ex_254]; exact Int32.mul_comm _ _)] at mx_254
                            refine lv_iadd hx hb dX8_behind_150 ?_
                            refine lv_topi (fun x_255 ex_255 => ?_)
                            have qx_255 : x_255.toInt = x_246.toInt + x_254.toInt := by rw [ex_255]; exact zf_add rfl rfl (by omega) (by omega)
                            refine lv_istore (lv' := [(5, .int x_255), (7, .int r_227), (6, .int i_80), (0, .ref m0), (1, .int s_), (2, .int p_), (3, .int to)]) hx hb dX8_behind_151 hl (by decide) rfl (fun ls hl => ?_)
                            obtain ⟨x_256, ex_256⟩ : ∃ y : Int32, y = i_80 + 1 := ⟨_, rfl⟩
                            have qx_256 : x_256.toInt = i_80.toInt + 1 := by rw [ex_256]; exact zf_add rfl (by decide) (by omega) (by omega)
                            refine lv_iinc (v := x_256) (lv' := [(6, .int x_256), (5, .int x_255), (7, .int r_227), (0, .ref m0), (1, .int s_), (2, .int p_), (3, .int to)]) hx hb dX8_behind_153 hl (k := 2) rfl ex_256.symm (by decide) rfl (fun ls hl => ?_)
                            refine lv_goto (tgt := 80) hx hb dX8_behind_156 (by decide) ?_
                            exact ih x_256 x_255 _ _ _ (hP.sub [0, 1, 2, 3, 4, 5, 6] rfl) (hD.sub [0, 1, 2, 3, 4, 5, 6] (by decide) rfl) hS (lv_sub hl [0, 1, 3, 4, 5, 6] rfl) ⟨by omega, by omega⟩ (show (x_255 : Int32).toInt = zBh (zRw gce (160 * s_.toInt)) (gki p_.toNatClampNeg).toInt (gpa p_.toNatClampNeg).toInt nhu.toInt to.toInt (x_256.toInt - 1).toNat from by (have x1 := hsr_230_0.1 (by decide); have x2 := hsr_247_0.2 (by decide); rw [show (x_256.toInt - 1).toNat = (i_80.toInt - 1).toNat + 1 from by omega, zBh_s, show (((i_80.toInt - 1).toNat : Nat) : Int) + 1 = i_80.toInt from by omega, ← hvi_80_0, ← hsr_227_0, ← x1, ← x2]; have Mx_245 := mx_245; rw [wr_244.1] at Mx_245; have Mx_254 := mx_254; rw [wr_253.1, qx_252] at Mx_254; first | (rw [if_pos (by omega), if_pos (by omega)]; omega) | (rw [if_pos (by omega), if_neg (by omega)]; omega) | (rw [if_neg (by omega), if_pos (by omega)]; omega) | (rw [if_neg (by omega), if_neg (by omega)]; omega))) (show (x_255 : Int32).toInt ≤ 2376 * x_256.toInt ∧ x_256.toInt ≤ 25 from by exact ⟨by omega, by omega⟩) (dw_lo hloi_80 qx_256) (dw_hn hni_80 qx_256)
                  · have fc_223 : to.toInt = 0 := zf_eq c_223 rfl (by decide)
                    refine lv_bipush (v := 12) hx hb dX8_behind_62 (by decide) ?_
                    refine lv_aload_n hx hb dX8_behind_64 rfl (lv_at hl 1 rfl) ?_
                    refine lv_iload_n hx hb dX8_behind_65 rfl (lv_at hl 2 rfl) ?_
                    refine lv_iconst (v := 0) hx hb dX8_behind_66 (by decide) ?_
                    have kc0 : (0 : Int32).toInt = 0 := by decide
                    refine zc_V (As := [.int s_, .int 0]) (rest := [.int 12]) ⟨hx, hb, hml, hown, hts⟩ (c_F_M_intAt l D cI cJ cZ cP cS po m0 mrf mki mpa mta mla msl mco mhe mso msi msh mce mca mwo mnu mte mwa mke mma mth mtr (npu) (nte) (nat_) (nde) (nto) (nse) (nhu) (nga) (nsd) (nfa) (nba) (npl) (nen) (nnu) (nwr) (nra) (nik) gce (s_) (0) hy0 hy1 hy2 hy3 hy4 hy5 hy6 hy7 hy8 hy9 hy10 hy11 hy12 hy13 (by omega) (by omega) (by omega) (by omega)) (cwV 2 hts gX8_behind_X8_intAt rfl rfl rfl ⟨rfl, dh_X8_intAt⟩ ⟨Nat.le_of_ble_eq_true rfl, Nat.le_of_ble_eq_true rfl⟩) hK hN (hZ.kept hS) hP (hP.sub [0, 4] rfl) (va_recv (q := (RX8, TX8, 38)) hK hP (ci := 8) (q0 := 0) rfl rfl) rfl hl.1 rfl (Nat.le_of_ble_eq_true rfl) dX8_behind_67 ⟨Nat.le_of_ble_eq_true rfl, Nat.le_of_ble_eq_true rfl⟩ (fun r_257 hr_257 => ?_)
                    have hsr_257_0 := hr_257
                    have wr_257 := zTl_m hbel hsr_257_0 (by have k0 : (0 : Int32).toInt = 0 := (by decide); omega) (by have k0 : (0 : Int32).toInt = 0 := (by decide); omega)
                    refine lv_imul hx hb dX8_behind_70 ?_
                    refine lv_topi (fun x_258 ex_258 => ?_)
                    have qx_258 : x_258.toInt = 12 * r_257.toInt := by rw [ex_258]; exact zf_mul (by decide) rfl (by omega) (by omega)
                    refine lv_goto (tgt := 75) hx hb dX8_behind_71 (by decide) ?_
                    refine lv_istore (lv' := [(5, .int x_258), (4, .int r_207), (0, .ref m0), (1, .int s_), (2, .int p_), (3, .int to)]) hx hb dX8_behind_75 hl (by decide) rfl (fun ls hl => ?_)
                    refine lv_iconst (v := 1) hx hb dX8_behind_77 (by decide) ?_
                    refine lv_istore (lv' := [(6, .int 1), (5, .int x_258), (4, .int r_207), (0, .ref m0), (1, .int s_), (2, .int p_), (3, .int to)]) hx hb dX8_behind_78 hl (by decide) rfl (fun ls hl => ?_)
                    obtain ⟨i_80, hi_80⟩ : ∃ i : Int32, i = 1 := ⟨_, rfl⟩
                    replace hl : lv_has ls 8 [(6, .int i_80), (5, .int x_258), (0, .ref m0), (1, .int s_), (2, .int p_), (3, .int to)] := by rw [hi_80]; exact lv_sub hl [0, 1, 3, 4, 5, 6] rfl
                    have h1i_80 : i_80.toInt = 1 := by rw [hi_80]; decide
                    obtain ⟨nfu, hni_80⟩ : ∃ nq9 : Nat, 25 ≤ i_80.toInt + (nq9 : Int) := ⟨((25 : Int) - 1).toNat, by omega⟩
                    have hloi_80 : 1 ≤ i_80.toInt := by omega
                    obtain ⟨v_259, hv_259⟩ : ∃ g : Int32, g = x_258 := ⟨_, rfl⟩
                    replace hl : lv_has ls 8 [(6, .int i_80), (5, .int v_259), (0, .ref m0), (1, .int s_), (2, .int p_), (3, .int to)] := by rw [hv_259]; exact hl
                    have hbv_259 : 0 ≤ v_259.toInt ∧ v_259.toInt ≤ 59400 := by rw [hv_259]; exact ⟨by omega, by omega⟩
                    have hvi_80_0 : (v_259 : Int32).toInt = zBh (zRw gce (160 * s_.toInt)) (gki p_.toNatClampNeg).toInt (gpa p_.toNatClampNeg).toInt nhu.toInt to.toInt (i_80.toInt - 1).toNat := by
                      (try rw [hi_80]); (try rw [hv_259]); (rw [show ((1 : Int32).toInt - 1).toNat = 0 from by decide]; show _ = (if to.toInt = 0 then 12 * zTl (zRw gce (160 * s_.toInt)) 0 else 0); have z := wr_257.1; rw [show ((0 : Int32).toInt) = 0 from by decide] at z; rw [if_pos (by omega), ← z]; omega)
                    have hvi_80_1 : (v_259 : Int32).toInt ≤ 2376 * i_80.toInt ∧ i_80.toInt ≤ 25 := by
                      (try rw [hi_80]); (try rw [hv_259]); (have k1 : (1 : Int32).toInt = 1 := (by decide); have k0 : (0 : Int32).toInt = 0 := (by decide); omega)
                    clear h1i_80 hi_80 hv_259
                    skip
                    revert hni_80
                    revert hloi_80
                    revert hvi_80_1
                    revert hvi_80_0
                    revert hbv_259
                    revert hl
                    revert hS
                    revert hD
                    revert hP
                    revert ls
                    revert locs
                    revert H
                    revert v_259
                    revert i_80
                    induction nfu with
                    | zero =>
                      intro i_80 v_259 H locs ls hP hD hS hl hbv_259 hvi_80_0 hvi_80_1 hloi_80 hni_80
                      have hzi_80 : 25 ≤ i_80.toInt := by omega
                      refine lv_iload hx hb dX8_behind_80 (lv_at hl 0 rfl) ?_
                      refine lv_bipush (v := 24) hx hb dX8_behind_82 (by decide) ?_
                      refine lv_icmp_gt (tgt := 159) hx hb dX8_behind_84 (by decide) (fun c_260 => ?_) (fun c_260 => ?_)
                      · have fc_260 : 24 < i_80.toInt := zf_lt c_260 (by decide) rfl
                        refine lv_iload hx hb dX8_behind_159 (lv_at hl 1 rfl) ?_
                        exact W.iret (v := v_259) hx hb hr (fun t ht hW => ⟨⟨v_259, grf, rfl, ⟨(show ((s_.toInt < 0 ∨ 7 < s_.toInt ∨ p_.toInt < 0 ∨ npu.toInt ≤ p_.toInt) ∧ (v_259 : Int32).toInt = -1) ∨ ((0 ≤ s_.toInt ∧ s_.toInt ≤ 7) ∧ (0 ≤ p_.toInt ∧ p_.toInt < npu.toInt) ∧ ∃ q : Int, zBelR (zHc (ghe s_.toNatClampNeg).toInt) (gsi s_.toNatClampNeg).toInt (zRw gce (160 * s_.toInt)) q ∧ ((q ≠ 0 ∧ (v_259 : Int32).toInt = -q) ∨ (q = 0 ∧ (((to.toInt < 0 ∨ 24 < to.toInt) ∧ (v_259 : Int32).toInt = -6) ∨ ((0 ≤ to.toInt ∧ to.toInt ≤ 24) ∧ (v_259 : Int32).toInt = zBh (zRw gce (160 * s_.toInt)) (gki p_.toNatClampNeg).toInt (gpa p_.toNatClampNeg).toInt nhu.toInt to.toInt 24))))) from by (have z := hsr_207_0; rcases z with z | ⟨z1, q, z2, z3⟩; (exfalso; omega); (have h9 : (i_80.toInt - 1).toNat = 24 := (by omega); have y := hvi_80_0; rw [h9] at y; exact Or.inr ⟨z1, by omega, q, z2, Or.inr ⟨by omega, Or.inr ⟨by omega, y⟩⟩⟩))), trivial⟩, zRet ht hP hD [0, 1, 2, 3, 4, 5, 6] (by decide) rfl⟩, hS.F ht⟩) hS.2.2 dX8_behind_161
                      · exfalso; have fc_260 : i_80.toInt ≤ 24 := zf_nlt c_260 (by decide) rfl; omega
                    | succ nfu ih =>
                      intro i_80 v_259 H locs ls hP hD hS hl hbv_259 hvi_80_0 hvi_80_1 hloi_80 hni_80
                      refine lv_iload hx hb dX8_behind_80 (lv_at hl 0 rfl) ?_
                      refine lv_bipush (v := 24) hx hb dX8_behind_82 (by decide) ?_
                      refine lv_icmp_gt (tgt := 159) hx hb dX8_behind_84 (by decide) (fun c_261 => ?_) (fun c_261 => ?_)
                      · have fc_261 : 24 < i_80.toInt := zf_lt c_261 (by decide) rfl
                        refine lv_iload hx hb dX8_behind_159 (lv_at hl 1 rfl) ?_
                        exact W.iret (v := v_259) hx hb hr (fun t ht hW => ⟨⟨v_259, grf, rfl, ⟨(show ((s_.toInt < 0 ∨ 7 < s_.toInt ∨ p_.toInt < 0 ∨ npu.toInt ≤ p_.toInt) ∧ (v_259 : Int32).toInt = -1) ∨ ((0 ≤ s_.toInt ∧ s_.toInt ≤ 7) ∧ (0 ≤ p_.toInt ∧ p_.toInt < npu.toInt) ∧ ∃ q : Int, zBelR (zHc (ghe s_.toNatClampNeg).toInt) (gsi s_.toNatClampNeg).toInt (zRw gce (160 * s_.toInt)) q ∧ ((q ≠ 0 ∧ (v_259 : Int32).toInt = -q) ∨ (q = 0 ∧ (((to.toInt < 0 ∨ 24 < to.toInt) ∧ (v_259 : Int32).toInt = -6) ∨ ((0 ≤ to.toInt ∧ to.toInt ≤ 24) ∧ (v_259 : Int32).toInt = zBh (zRw gce (160 * s_.toInt)) (gki p_.toNatClampNeg).toInt (gpa p_.toNatClampNeg).toInt nhu.toInt to.toInt 24))))) from by (have z := hsr_207_0; rcases z with z | ⟨z1, q, z2, z3⟩; (exfalso; omega); (have h9 : (i_80.toInt - 1).toNat = 24 := (by omega); have y := hvi_80_0; rw [h9] at y; exact Or.inr ⟨z1, by omega, q, z2, Or.inr ⟨by omega, Or.inr ⟨by omega, y⟩⟩⟩))), trivial⟩, zRet ht hP hD [0, 1, 2, 3, 4, 5, 6] (by decide) rfl⟩, hS.F ht⟩) hS.2.2 dX8_behind_161
                      · have fc_261 : i_80.toInt ≤ 24 := zf_nlt c_261 (by decide) rfl
                        refine lv_aload_n hx hb dX8_behind_87 rfl (lv_at hl 2 rfl) ?_
                        refine lv_iload_n hx hb dX8_behind_88 rfl (lv_at hl 4 rfl) ?_
                        refine lv_iload hx hb dX8_behind_89 (lv_at hl 0 rfl) ?_
                        refine zc_V (As := [.int p_, .int i_80]) (rest := []) ⟨hx, hb, hml, hown, hts⟩ (c_F_M_ways l D cI cJ cZ cP cS po m0 mrf mki mpa mta mla msl mco mhe mso msi msh mce mca mwo mnu mte mwa mke mma mth mtr (npu) (nte) (nat_) (nde) (nto) (nse) (nhu) (nga) (nsd) (nfa) (nba) (npl) (nen) (nnu) (nwr) (nra) (nik) gki gpa (p_) (i_80) hy0 hy1 hy2 hy3 hy4 hy5 hy6 hy7 hy8 hy9 hy10 hy11 hy12 hy13 (by omega) (by omega) (by omega) (by omega) hp_gki hp_gpa) (cwV 2 hts gX8_behind_X8_ways rfl rfl rfl ⟨rfl, dh_X8_ways⟩ ⟨Nat.le_of_ble_eq_true rfl, Nat.le_of_ble_eq_true rfl⟩) hK hN (hZ.kept hS) hP (hP.sub [0, 5, 6] rfl) (va_recv (q := (RX8, TX8, 38)) hK hP (ci := 8) (q0 := 0) rfl rfl) rfl hl.1 rfl (Nat.le_of_ble_eq_true rfl) dX8_behind_91 ⟨Nat.le_of_ble_eq_true rfl, Nat.le_of_ble_eq_true rfl⟩ (fun r_262 hr_262 => ?_)
                        obtain ⟨g_263, g_264, hsr_262_0⟩ := hr_262
                        refine lv_istore (lv' := [(7, .int r_262), (6, .int i_80), (5, .int v_259), (0, .ref m0), (1, .int s_), (2, .int p_), (3, .int to)]) hx hb dX8_behind_94 hl (by decide) rfl (fun ls hl => ?_)
                        refine lv_aload_n hx hb dX8_behind_96 rfl (lv_at hl 3 rfl) ?_
                        refine lv_iload_n hx hb dX8_behind_97 rfl (lv_at hl 5 rfl) ?_
                        refine lv_iload hx hb dX8_behind_98 (lv_at hl 1 rfl) ?_
                        refine lv_iconst (v := 1) hx hb dX8_behind_100 (by decide) ?_
                        have kc1 : (1 : Int32).toInt = 1 := by decide
                        refine zc_V (As := [.int p_, .int i_80, .int 1]) (rest := []) ⟨hx, hb, hml, hown, hts⟩ (c_F_M_deep l D cI cJ cZ cP cS po m0 mrf mki mpa mta mla msl mco mhe mso msi msh mce mca mwo mnu mte mwa mke mma mth mtr (npu) (nte) (nat_) (nde) (nto) (nse) (nhu) (nga) (nsd) (nfa) (nba) (npl) (nen) (nnu) (nwr) (nra) (nik) gki gpa (p_) (i_80) (1) hy0 hy1 hy2 hy3 hy4 hy5 hy6 hy7 hy8 hy9 hy10 hy11 hy12 hy13 (by omega) (by omega) (by omega) (by omega) (by omega) (by omega) hp_gki hp_gpa) (cwV 3 hts gX8_behind_X8_deep rfl rfl rfl ⟨rfl, dh_X8_deep⟩ ⟨Nat.le_of_ble_eq_true rfl, Nat.le_of_ble_eq_true rfl⟩) hK hN (hZ.kept hS) hP (hP.sub [0, 5, 6] rfl) (va_recv (q := (RX8, TX8, 38)) hK hP (ci := 8) (q0 := 0) rfl rfl) rfl hl.1 rfl (Nat.le_of_ble_eq_true rfl) dX8_behind_101 ⟨Nat.le_of_ble_eq_true rfl, Nat.le_of_ble_eq_true rfl⟩ (fun r_265 hr_265 => ?_)
                        obtain ⟨g_266, g_267, hsr_265_0⟩ := hr_265
                        refine lv_iload_n hx hb dX8_behind_104 rfl (lv_at hl 6 rfl) ?_
                        refine lv_icmp_ne (tgt := 123) hx hb dX8_behind_105 (by decide) (fun c_268 => ?_) (fun c_268 => ?_)
                        · have fc_268 : r_265.toInt ≠ to.toInt := zf_ne c_268 rfl rfl
                          refine lv_aload_n hx hb dX8_behind_123 rfl (lv_at hl 3 rfl) ?_
                          refine lv_iload_n hx hb dX8_behind_124 rfl (lv_at hl 5 rfl) ?_
                          refine lv_iload hx hb dX8_behind_125 (lv_at hl 1 rfl) ?_
                          refine lv_iconst (v := 0) hx hb dX8_behind_127 (by decide) ?_
                          refine zc_V (As := [.int p_, .int i_80, .int 0]) (rest := []) ⟨hx, hb, hml, hown, hts⟩ (c_F_M_deep l D cI cJ cZ cP cS po m0 mrf mki mpa mta mla msl mco mhe mso msi msh mce mca mwo mnu mte mwa mke mma mth mtr (npu) (nte) (nat_) (nde) (nto) (nse) (nhu) (nga) (nsd) (nfa) (nba) (npl) (nen) (nnu) (nwr) (nra) (nik) gki gpa (p_) (i_80) (0) hy0 hy1 hy2 hy3 hy4 hy5 hy6 hy7 hy8 hy9 hy10 hy11 hy12 hy13 (by omega) (by omega) (by omega) (by omega) (by omega) (by omega) hp_gki hp_gpa) (cwV 3 hts gX8_behind_X8_deep rfl rfl rfl ⟨rfl, dh_X8_deep⟩ ⟨Nat.le_of_ble_eq_true rfl, Nat.le_of_ble_eq_true rfl⟩) hK hN (hZ.kept hS) hP (hP.sub [0, 5, 6] rfl) (va_recv (q := (RX8, TX8, 38)) hK hP (ci := 8) (q0 := 0) rfl rfl) rfl hl.1 rfl (Nat.le_of_ble_eq_true rfl) dX8_behind_128 ⟨Nat.le_of_ble_eq_true rfl, Nat.le_of_ble_eq_true rfl⟩ (fun r_269 hr_269 => ?_)
                          obtain ⟨g_270, g_271, hsr_269_0⟩ := hr_269
                          refine lv_iload_n hx hb dX8_behind_131 rfl (lv_at hl 6 rfl) ?_
                          refine lv_icmp_ne (tgt := 153) hx hb dX8_behind_132 (by decide) (fun c_272 => ?_) (fun c_272 => ?_)
                          · have fc_272 : r_269.toInt ≠ to.toInt := zf_ne c_272 rfl rfl
                            obtain ⟨x_273, ex_273⟩ : ∃ y : Int32, y = i_80 + 1 := ⟨_, rfl⟩
                            have qx_273 : x_273.toInt = i_80.toInt + 1 := by rw [ex_273]; exact zf_add rfl (by decide) (by omega) (by omega)
                            refine lv_iinc (v := x_273) (lv' := [(6, .int x_273), (7, .int r_262), (5, .int v_259), (0, .ref m0), (1, .int s_), (2, .int p_), (3, .int to)]) hx hb dX8_behind_153 hl (k := 1) rfl ex_273.symm (by decide) rfl (fun ls hl => ?_)
                            refine lv_goto (tgt := 80) hx hb dX8_behind_156 (by decide) ?_
                            exact ih x_273 v_259 _ _ _ (hP.sub [0, 1, 2, 3, 4, 5, 6] rfl) (hD.sub [0, 1, 2, 3, 4, 5, 6] (by decide) rfl) hS (lv_sub hl [0, 2, 3, 4, 5, 6] rfl) hbv_259 (show (v_259 : Int32).toInt = zBh (zRw gce (160 * s_.toInt)) (gki p_.toNatClampNeg).toInt (gpa p_.toNatClampNeg).toInt nhu.toInt to.toInt (x_273.toInt - 1).toNat from by (have x1 := hsr_265_0.1 (by decide); have x2 := hsr_269_0.2 (by decide); rw [show (x_273.toInt - 1).toNat = (i_80.toInt - 1).toNat + 1 from by omega, zBh_s, show (((i_80.toInt - 1).toNat : Nat) : Int) + 1 = i_80.toInt from by omega, ← hvi_80_0, ← hsr_262_0, ← x1, ← x2]; first | (rw [if_neg (by omega), if_neg (by omega)]; omega) | (rw [if_pos (by omega), if_neg (by omega)]; omega) | (rw [if_neg (by omega), if_pos (by omega)]; omega) | (rw [if_pos (by omega), if_pos (by omega)]; omega))) (show (v_259 : Int32).toInt ≤ 2376 * x_273.toInt ∧ x_273.toInt ≤ 25 from by exact ⟨by omega, by omega⟩) (dw_lo hloi_80 qx_273) (dw_hn hni_80 qx_273)
                          · have fc_272 : r_269.toInt = to.toInt := zf_eq c_272 rfl rfl
                            refine lv_iload hx hb dX8_behind_135 (lv_at hl 2 rfl) ?_
                            refine lv_bipush (v := 12) hx hb dX8_behind_137 (by decide) ?_
                            refine lv_iload hx hb dX8_behind_139 (lv_at hl 0 rfl) ?_
                            refine lv_isub hx hb dX8_behind_141 ?_
                            refine lv_topi (fun x_274 ex_274 => ?_)
                            have qx_274 : x_274.toInt = 12 - r_262.toInt := by rw [ex_274]; exact zf_sub (by decide) rfl (by omega) (by omega)
                            refine lv_aload_n hx hb dX8_behind_142 rfl (lv_at hl 3 rfl) ?_
                            refine lv_iload_n hx hb dX8_behind_143 rfl (lv_at hl 4 rfl) ?_
                            refine lv_iload hx hb dX8_behind_144 (lv_at hl 1 rfl) ?_
                            refine zc_V (As := [.int s_, .int i_80]) (rest := [.int x_274, .int v_259]) ⟨hx, hb, hml, hown, hts⟩ (c_F_M_intAt l D cI cJ cZ cP cS po m0 mrf mki mpa mta mla msl mco mhe mso msi msh mce mca mwo mnu mte mwa mke mma mth mtr (npu) (nte) (nat_) (nde) (nto) (nse) (nhu) (nga) (nsd) (nfa) (nba) (npl) (nen) (nnu) (nwr) (nra) (nik) gce (s_) (i_80) hy0 hy1 hy2 hy3 hy4 hy5 hy6 hy7 hy8 hy9 hy10 hy11 hy12 hy13 (by omega) (by omega) (by omega) (by omega)) (cwV 2 hts gX8_behind_X8_intAt rfl rfl rfl ⟨rfl, dh_X8_intAt⟩ ⟨Nat.le_of_ble_eq_true rfl, Nat.le_of_ble_eq_true rfl⟩) hK hN (hZ.kept hS) hP (hP.sub [0, 4] rfl) (va_recv (q := (RX8, TX8, 38)) hK hP (ci := 8) (q0 := 0) rfl rfl) rfl hl.1 rfl (Nat.le_of_ble_eq_true rfl) dX8_behind_146 ⟨Nat.le_of_ble_eq_true rfl, Nat.le_of_ble_eq_true rfl⟩ (fun r_275 hr_275 => ?_)
                            have hsr_275_0 := hr_275
                            have wr_275 := zTl_m hbel hsr_275_0 (by have k0 : (0 : Int32).toInt = 0 := (by decide); omega) (by have k0 : (0 : Int32).toInt = 0 := (by decide); omega)
                            refine lv_imul hx hb dX8_behind_149 ?_
                            refine lv_topi (fun x_276 ex_276 => ?_)
                            obtain ⟨mx_276, nx_276, ox_276⟩ := zf_mulr (a := r_275) (b := x_274) (m := r_275.toInt * x_274.toInt) rfl rfl ⟨by omega, by omega⟩ ⟨by omega, by omega⟩ rfl
                            rw [show r_275 * x_274 = x_276 from by (rw [ex_276]; exact Int32.mul_comm _ _)] at mx_276
                            refine lv_iadd hx hb dX8_behind_150 ?_
                            refine lv_topi (fun x_277 ex_277 => ?_)
                            have qx_277 : x_277.toInt = v_259.toInt + x_276.toInt := by rw [ex_277]; exact zf_add rfl rfl (by omega) (by omega)
                            refine lv_istore (lv' := [(5, .int x_277), (7, .int r_262), (6, .int i_80), (0, .ref m0), (1, .int s_), (2, .int p_), (3, .int to)]) hx hb dX8_behind_151 hl (by decide) rfl (fun ls hl => ?_)
                            obtain ⟨x_278, ex_278⟩ : ∃ y : Int32, y = i_80 + 1 := ⟨_, rfl⟩
                            have qx_278 : x_278.toInt = i_80.toInt + 1 := by rw [ex_278]; exact zf_add rfl (by decide) (by omega) (by omega)
                            refine lv_iinc (v := x_278) (lv' := [(6, .int x_278), (5, .int x_277), (7, .int r_262), (0, .ref m0), (1, .int s_), (2, .int p_), (3, .int to)]) hx hb dX8_behind_153 hl (k := 2) rfl ex_278.symm (by decide) rfl (fun ls hl => ?_)
                            refine lv_goto (tgt := 80) hx hb dX8_behind_156 (by decide) ?_
                            exact ih x_278 x_277 _ _ _ (hP.sub [0, 1, 2, 3, 4, 5, 6] rfl) (hD.sub [0, 1, 2, 3, 4, 5, 6] (by decide) rfl) hS (lv_sub hl [0, 1, 3, 4, 5, 6] rfl) ⟨by omega, by omega⟩ (show (x_277 : Int32).toInt = zBh (zRw gce (160 * s_.toInt)) (gki p_.toNatClampNeg).toInt (gpa p_.toNatClampNeg).toInt nhu.toInt to.toInt (x_278.toInt - 1).toNat from by (have x1 := hsr_265_0.1 (by decide); have x2 := hsr_269_0.2 (by decide); rw [show (x_278.toInt - 1).toNat = (i_80.toInt - 1).toNat + 1 from by omega, zBh_s, show (((i_80.toInt - 1).toNat : Nat) : Int) + 1 = i_80.toInt from by omega, ← hvi_80_0, ← hsr_262_0, ← x1, ← x2]; have Mx_276 := mx_276; rw [wr_275.1, qx_274] at Mx_276; first | (rw [if_neg (by omega), if_pos (by omega)]; omega) | (rw [if_pos (by omega), if_pos (by omega)]; omega) | (rw [if_neg (by omega), if_neg (by omega)]; omega) | (rw [if_pos (by omega), if_neg (by omega)]; omega))) (show (x_277 : Int32).toInt ≤ 2376 * x_278.toInt ∧ x_278.toInt ≤ 25 from by exact ⟨by omega, by omega⟩) (dw_lo hloi_80 qx_278) (dw_hn hni_80 qx_278)
                        · have fc_268 : r_265.toInt = to.toInt := zf_eq c_268 rfl rfl
                          refine lv_iload hx hb dX8_behind_108 (lv_at hl 2 rfl) ?_
                          refine lv_iload hx hb dX8_behind_110 (lv_at hl 0 rfl) ?_
                          refine lv_aload_n hx hb dX8_behind_112 rfl (lv_at hl 3 rfl) ?_
                          refine lv_iload_n hx hb dX8_behind_113 rfl (lv_at hl 4 rfl) ?_
                          refine lv_iload hx hb dX8_behind_114 (lv_at hl 1 rfl) ?_
                          refine zc_V (As := [.int s_, .int i_80]) (rest := [.int r_262, .int v_259]) ⟨hx, hb, hml, hown, hts⟩ (c_F_M_intAt l D cI cJ cZ cP cS po m0 mrf mki mpa mta mla msl mco mhe mso msi msh mce mca mwo mnu mte mwa mke mma mth mtr (npu) (nte) (nat_) (nde) (nto) (nse) (nhu) (nga) (nsd) (nfa) (nba) (npl) (nen) (nnu) (nwr) (nra) (nik) gce (s_) (i_80) hy0 hy1 hy2 hy3 hy4 hy5 hy6 hy7 hy8 hy9 hy10 hy11 hy12 hy13 (by omega) (by omega) (by omega) (by omega)) (cwV 2 hts gX8_behind_X8_intAt rfl rfl rfl ⟨rfl, dh_X8_intAt⟩ ⟨Nat.le_of_ble_eq_true rfl, Nat.le_of_ble_eq_true rfl⟩) hK hN (hZ.kept hS) hP (hP.sub [0, 4] rfl) (va_recv (q := (RX8, TX8, 38)) hK hP (ci := 8) (q0 := 0) rfl rfl) rfl hl.1 rfl (Nat.le_of_ble_eq_true rfl) dX8_behind_116 ⟨Nat.le_of_ble_eq_true rfl, Nat.le_of_ble_eq_true rfl⟩ (fun r_279 hr_279 => ?_)
                          have hsr_279_0 := hr_279
                          have wr_279 := zTl_m hbel hsr_279_0 (by have k0 : (0 : Int32).toInt = 0 := (by decide); omega) (by have k0 : (0 : Int32).toInt = 0 := (by decide); omega)
                          refine lv_imul hx hb dX8_behind_119 ?_
                          refine lv_topi (fun x_280 ex_280 => ?_)
                          obtain ⟨mx_280, nx_280, ox_280⟩ := zf_mulr (a := r_279) (b := r_262) (m := r_279.toInt * r_262.toInt) rfl rfl ⟨by omega, by omega⟩ ⟨by omega, by omega⟩ rfl
                          rw [show r_279 * r_262 = x_280 from by (rw [ex_280]; exact Int32.mul_comm _ _)] at mx_280
                          refine lv_iadd hx hb dX8_behind_120 ?_
                          refine lv_topi (fun x_281 ex_281 => ?_)
                          have qx_281 : x_281.toInt = v_259.toInt + x_280.toInt := by rw [ex_281]; exact zf_add rfl rfl (by omega) (by omega)
                          refine lv_istore (lv' := [(5, .int x_281), (7, .int r_262), (6, .int i_80), (0, .ref m0), (1, .int s_), (2, .int p_), (3, .int to)]) hx hb dX8_behind_121 hl (by decide) rfl (fun ls hl => ?_)
                          refine lv_aload_n hx hb dX8_behind_123 rfl (lv_at hl 3 rfl) ?_
                          refine lv_iload_n hx hb dX8_behind_124 rfl (lv_at hl 5 rfl) ?_
                          refine lv_iload hx hb dX8_behind_125 (lv_at hl 2 rfl) ?_
                          refine lv_iconst (v := 0) hx hb dX8_behind_127 (by decide) ?_
                          refine zc_V (As := [.int p_, .int i_80, .int 0]) (rest := []) ⟨hx, hb, hml, hown, hts⟩ (c_F_M_deep l D cI cJ cZ cP cS po m0 mrf mki mpa mta mla msl mco mhe mso msi msh mce mca mwo mnu mte mwa mke mma mth mtr (npu) (nte) (nat_) (nde) (nto) (nse) (nhu) (nga) (nsd) (nfa) (nba) (npl) (nen) (nnu) (nwr) (nra) (nik) gki gpa (p_) (i_80) (0) hy0 hy1 hy2 hy3 hy4 hy5 hy6 hy7 hy8 hy9 hy10 hy11 hy12 hy13 (by omega) (by omega) (by omega) (by omega) (by omega) (by omega) hp_gki hp_gpa) (cwV 3 hts gX8_behind_X8_deep rfl rfl rfl ⟨rfl, dh_X8_deep⟩ ⟨Nat.le_of_ble_eq_true rfl, Nat.le_of_ble_eq_true rfl⟩) hK hN (hZ.kept hS) hP (hP.sub [0, 5, 6] rfl) (va_recv (q := (RX8, TX8, 38)) hK hP (ci := 8) (q0 := 0) rfl rfl) rfl hl.1 rfl (Nat.le_of_ble_eq_true rfl) dX8_behind_128 ⟨Nat.le_of_ble_eq_true rfl, Nat.le_of_ble_eq_true rfl⟩ (fun r_282 hr_282 => ?_)
                          obtain ⟨g_283, g_284, hsr_282_0⟩ := hr_282
                          refine lv_iload_n hx hb dX8_behind_131 rfl (lv_at hl 6 rfl) ?_
                          refine lv_icmp_ne (tgt := 153) hx hb dX8_behind_132 (by decide) (fun c_285 => ?_) (fun c_285 => ?_)
                          · have fc_285 : r_282.toInt ≠ to.toInt := zf_ne c_285 rfl rfl
                            obtain ⟨x_286, ex_286⟩ : ∃ y : Int32, y = i_80 + 1 := ⟨_, rfl⟩
                            have qx_286 : x_286.toInt = i_80.toInt + 1 := by rw [ex_286]; exact zf_add rfl (by decide) (by omega) (by omega)
                            refine lv_iinc (v := x_286) (lv' := [(6, .int x_286), (5, .int x_281), (7, .int r_262), (0, .ref m0), (1, .int s_), (2, .int p_), (3, .int to)]) hx hb dX8_behind_153 hl (k := 2) rfl ex_286.symm (by decide) rfl (fun ls hl => ?_)
                            refine lv_goto (tgt := 80) hx hb dX8_behind_156 (by decide) ?_
                            exact ih x_286 x_281 _ _ _ (hP.sub [0, 1, 2, 3, 4, 5, 6] rfl) (hD.sub [0, 1, 2, 3, 4, 5, 6] (by decide) rfl) hS (lv_sub hl [0, 1, 3, 4, 5, 6] rfl) ⟨by omega, by omega⟩ (show (x_281 : Int32).toInt = zBh (zRw gce (160 * s_.toInt)) (gki p_.toNatClampNeg).toInt (gpa p_.toNatClampNeg).toInt nhu.toInt to.toInt (x_286.toInt - 1).toNat from by (have x1 := hsr_265_0.1 (by decide); have x2 := hsr_282_0.2 (by decide); rw [show (x_286.toInt - 1).toNat = (i_80.toInt - 1).toNat + 1 from by omega, zBh_s, show (((i_80.toInt - 1).toNat : Nat) : Int) + 1 = i_80.toInt from by omega, ← hvi_80_0, ← hsr_262_0, ← x1, ← x2]; have Mx_280 := mx_280; rw [wr_279.1] at Mx_280; first | (rw [if_pos (by omega), if_neg (by omega)]; omega) | (rw [if_pos (by omega), if_pos (by omega)]; omega) | (rw [if_neg (by omega), if_neg (by omega)]; omega) | (rw [if_neg (by omega), if_pos (by omega)]; omega))) (show (x_281 : Int32).toInt ≤ 2376 * x_286.toInt ∧ x_286.toInt ≤ 25 from by exact ⟨by omega, by omega⟩) (dw_lo hloi_80 qx_286) (dw_hn hni_80 qx_286)
                          · have fc_285 : r_282.toInt = to.toInt := zf_eq c_285 rfl rfl
                            refine lv_iload hx hb dX8_behind_135 (lv_at hl 0 rfl) ?_
                            refine lv_bipush (v := 12) hx hb dX8_behind_137 (by decide) ?_
                            refine lv_iload hx hb dX8_behind_139 (lv_at hl 1 rfl) ?_
                            refine lv_isub hx hb dX8_behind_141 ?_
                            refine lv_topi (fun x_287 ex_287 => ?_)
                            have qx_287 : x_287.toInt = 12 - r_262.toInt := by rw [ex_287]; exact zf_sub (by decide) rfl (by omega) (by omega)
                            refine lv_aload_n hx hb dX8_behind_142 rfl (lv_at hl 3 rfl) ?_
                            refine lv_iload_n hx hb dX8_behind_143 rfl (lv_at hl 4 rfl) ?_
                            refine lv_iload hx hb dX8_behind_144 (lv_at hl 2 rfl) ?_
                            refine zc_V (As := [.int s_, .int i_80]) (rest := [.int x_287, .int x_281]) ⟨hx, hb, hml, hown, hts⟩ (c_F_M_intAt l D cI cJ cZ cP cS po m0 mrf mki mpa mta mla msl mco mhe mso msi msh mce mca mwo mnu mte mwa mke mma mth mtr (npu) (nte) (nat_) (nde) (nto) (nse) (nhu) (nga) (nsd) (nfa) (nba) (npl) (nen) (nnu) (nwr) (nra) (nik) gce (s_) (i_80) hy0 hy1 hy2 hy3 hy4 hy5 hy6 hy7 hy8 hy9 hy10 hy11 hy12 hy13 (by omega) (by omega) (by omega) (by omega)) (cwV 2 hts gX8_behind_X8_intAt rfl rfl rfl ⟨rfl, dh_X8_intAt⟩ ⟨Nat.le_of_ble_eq_true rfl, Nat.le_of_ble_eq_true rfl⟩) hK hN (hZ.kept hS) hP (hP.sub [0, 4] rfl) (va_recv (q := (RX8, TX8, 38)) hK hP (ci := 8) (q0 := 0) rfl rfl) rfl hl.1 rfl (Nat.le_of_ble_eq_true rfl) dX8_behind_146 ⟨Nat.le_of_ble_eq_true rfl, Nat.le_of_ble_eq_true rfl⟩ (fun r_288 hr_288 => ?_)
                            have hsr_288_0 := hr_288
                            have wr_288 := zTl_m hbel hsr_288_0 (by have k0 : (0 : Int32).toInt = 0 := (by decide); omega) (by have k0 : (0 : Int32).toInt = 0 := (by decide); omega)
                            refine lv_imul hx hb dX8_behind_149 ?_
                            refine lv_topi (fun x_289 ex_289 => ?_)
                            obtain ⟨mx_289, nx_289, ox_289⟩ := zf_mulr (a := r_288) (b := x_287) (m := r_288.toInt * x_287.toInt) rfl rfl ⟨by omega, by omega⟩ ⟨by omega, by omega⟩ rfl
                            rw [show r_288 * x_287 = x_289 from by (rw [ex_289]; exact Int32.mul_comm _ _)] at mx_289
                            refine lv_iadd hx hb dX8_behind_150 ?_
                            refine lv_topi (fun x_290 ex_290 => ?_)
                            have qx_290 : x_290.toInt = x_281.toInt + x_289.toInt := by rw [ex_290]; exact zf_add rfl rfl (by omega) (by omega)
                            refine lv_istore (lv' := [(5, .int x_290), (7, .int r_262), (6, .int i_80), (0, .ref m0), (1, .int s_), (2, .int p_), (3, .int to)]) hx hb dX8_behind_151 hl (by decide) rfl (fun ls hl => ?_)
                            obtain ⟨x_291, ex_291⟩ : ∃ y : Int32, y = i_80 + 1 := ⟨_, rfl⟩
                            have qx_291 : x_291.toInt = i_80.toInt + 1 := by rw [ex_291]; exact zf_add rfl (by decide) (by omega) (by omega)
                            refine lv_iinc (v := x_291) (lv' := [(6, .int x_291), (5, .int x_290), (7, .int r_262), (0, .ref m0), (1, .int s_), (2, .int p_), (3, .int to)]) hx hb dX8_behind_153 hl (k := 2) rfl ex_291.symm (by decide) rfl (fun ls hl => ?_)
                            refine lv_goto (tgt := 80) hx hb dX8_behind_156 (by decide) ?_
                            exact ih x_291 x_290 _ _ _ (hP.sub [0, 1, 2, 3, 4, 5, 6] rfl) (hD.sub [0, 1, 2, 3, 4, 5, 6] (by decide) rfl) hS (lv_sub hl [0, 1, 3, 4, 5, 6] rfl) ⟨by omega, by omega⟩ (show (x_290 : Int32).toInt = zBh (zRw gce (160 * s_.toInt)) (gki p_.toNatClampNeg).toInt (gpa p_.toNatClampNeg).toInt nhu.toInt to.toInt (x_291.toInt - 1).toNat from by (have x1 := hsr_265_0.1 (by decide); have x2 := hsr_282_0.2 (by decide); rw [show (x_291.toInt - 1).toNat = (i_80.toInt - 1).toNat + 1 from by omega, zBh_s, show (((i_80.toInt - 1).toNat : Nat) : Int) + 1 = i_80.toInt from by omega, ← hvi_80_0, ← hsr_262_0, ← x1, ← x2]; have Mx_280 := mx_280; rw [wr_279.1] at Mx_280; have Mx_289 := mx_289; rw [wr_288.1, qx_287] at Mx_289; first | (rw [if_pos (by omega), if_pos (by omega)]; omega) | (rw [if_pos (by omega), if_neg (by omega)]; omega) | (rw [if_neg (by omega), if_pos (by omega)]; omega) | (rw [if_neg (by omega), if_neg (by omega)]; omega))) (show (x_290 : Int32).toInt ≤ 2376 * x_291.toInt ∧ x_291.toInt ≤ 25 from by exact ⟨by omega, by omega⟩) (dw_lo hloi_80 qx_291) (dw_hn hni_80 qx_291)
                · exfalso; have fc_222 : r_207.toInt ≠ 0 := zf_ne c_222 rfl (by decide); omega
              · have fc_221 : 24 < to.toInt := zf_nle c_221 rfl (by decide)
                refine lv_bipush (v := (-6)) hx hb dX8_behind_42 (by decide) ?_
                refine lv_istore (lv' := [(4, .int (-6)), (0, .ref m0), (1, .int s_), (2, .int p_), (3, .int to)]) hx hb dX8_behind_44 hl (by decide) rfl (fun ls hl => ?_)
                refine lv_iload hx hb dX8_behind_46 (lv_at hl 0 rfl) ?_
                refine lv_if_eq (tgt := 58) hx hb dX8_behind_48 (by decide) (fun c_292 => ?_) (fun c_292 => ?_)
                · exact absurd c_292 (by decide)
                · refine lv_aload_n hx hb dX8_behind_51 rfl (lv_at hl 1 rfl) ?_
                  refine lv_iload hx hb dX8_behind_52 (lv_at hl 0 rfl) ?_
                  skip
                  refine zw_V (As := [.int (-6)]) (rest := []) (wr := [(mhe, .inl (cI, 8, .inl ghe)), (msi, .inl (cI, 8, .inl gsi)), (mce, .inl (cJ, 1280, .inr (.inl gce))), (mki, .inl (cI, 8, .inl gki)), (mpa, .inl (cI, 8, .inl gpa))]) ⟨hx, hb, hml, hown, hts⟩ (c_M_no_6 l D cI cJ cZ cP cS po m0 mrf mki mpa mta mla msl mco mhe mso msi msh mce mca mwo mnu mte mwa mke mma mth mtr (npu) (nte) (nat_) (nde) (nto) (nse) (nhu) (nga) (nsd) (nfa) (nba) (npl) (nen) (nnu) (nwr) (nra) (nik) grf hy0 hy1 hy2 hy3 hy4 hy5 hy6 hy7 hy8 hy9 hy10 hy11 hy12 hy13 H.size) (cwV 1 hts gX8_behind_X8_no rfl rfl rfl ⟨rfl, dh_X8_no⟩ ⟨Nat.le_of_ble_eq_true rfl, Nat.le_of_ble_eq_true rfl⟩) hK hN (hZ.kept hS) hP hD hS hA [0, 1] [2, 3, 4, 5, 6] rfl rfl (by decide) (by decide) (by decide) (va_recv (q := (RX8, TX8, 38)) hK hP (ci := 8) (q0 := 0) rfl rfl) rfl hl.1 rfl (Nat.le_of_ble_eq_true rfl) dX8_behind_54 ⟨Nat.le_of_ble_eq_true rfl, Nat.le_of_ble_eq_true rfl⟩ (fun r_293 u_294 H locs hr_293 hP hD hS => ?_)
                  obtain ⟨q_295, rfl⟩ : ∃ z, z = u_294 := ⟨_, rfl⟩
                  have h9R := zRe (ws' := [(mhe, .inl (cI, 8, .inl ghe)), (msi, .inl (cI, 8, .inl gsi)), (mce, .inl (cJ, 1280, .inr (.inl gce))), (mki, .inl (cI, 8, .inl gki)), (mpa, .inl (cI, 8, .inl gpa)), (zMO m0 npu nte nat_ nde nto nse nhu nga nsd nfa mrf mki mpa mta mla msl mco mhe mso msi msh mce mca mwo mnu mte nba npl nen nnu nwr mwa mke mma mth mtr nra nik), (mrf, .inl (cI, 8, .inl q_295))]) hP hD rfl
                  clear hP hD
                  obtain ⟨hP, hD⟩ := h9R
                  obtain rfl := hr_293
                  exact W.iret (v := (-6)) hx hb hr (fun t ht hW => ⟨⟨(-6), q_295, rfl, ⟨(show ((s_.toInt < 0 ∨ 7 < s_.toInt ∨ p_.toInt < 0 ∨ npu.toInt ≤ p_.toInt) ∧ ((-6) : Int32).toInt = -1) ∨ ((0 ≤ s_.toInt ∧ s_.toInt ≤ 7) ∧ (0 ≤ p_.toInt ∧ p_.toInt < npu.toInt) ∧ ∃ q : Int, zBelR (zHc (ghe s_.toNatClampNeg).toInt) (gsi s_.toNatClampNeg).toInt (zRw gce (160 * s_.toInt)) q ∧ ((q ≠ 0 ∧ ((-6) : Int32).toInt = -q) ∨ (q = 0 ∧ (((to.toInt < 0 ∨ 24 < to.toInt) ∧ ((-6) : Int32).toInt = -6) ∨ ((0 ≤ to.toInt ∧ to.toInt ≤ 24) ∧ ((-6) : Int32).toInt = zBh (zRw gce (160 * s_.toInt)) (gki p_.toNatClampNeg).toInt (gpa p_.toNatClampNeg).toInt nhu.toInt to.toInt 24))))) from by (have k6m : ((-6) : Int32).toInt = -6 := (by decide); have z := hsr_207_0; rcases z with z | ⟨z1, q, z2, z3⟩; (exact Or.inl (by omega)); first | (exact Or.inr ⟨z1, by omega, q, z2, Or.inl ⟨by omega, by omega⟩⟩) | (exact Or.inr ⟨z1, by omega, q, z2, Or.inr ⟨by omega, Or.inl ⟨by omega, by omega⟩⟩⟩))), trivial⟩, zRet ht hP hD [5, 6, 0, 1, 2, 3, 4] (by decide) rfl⟩, hS.F ht⟩) hS.2.2 dX8_behind_57
        · exact absurd c_206 (by decide)

